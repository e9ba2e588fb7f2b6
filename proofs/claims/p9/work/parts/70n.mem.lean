set_option maxHeartbeats 2000000 in
theorem rm_checkFields {g : xe_G}  {m0 : Nat} {q : Nat → Nat} {z : Nat × Nat} {I : rI} {R : rR} {M : mi_H} {fA nf : Int32} {n : Nat} {f : Nat → Int32} {S cN : Nat} {sa sl ch : Nat → Int32} {cp mj : Int32} {pa py : Nat → Int32} {mA : Int32}  (hR : RS g m0 q z I R M) (hk55 : I 55 = some fA) (hk25 : I 25 = some 0) (hk58 : I 58 = some nf) (hF : FK n f I R) (hY : SK S cN sa sl ch I R) (hP : PK n f S cp mj pa py I R) (hK : KW I R) (hmb : MB f n fA mA) {d : Nat} (hd : 8 ≤ d) : mt (mT g) d 189 [.ref m0] M (fun v M' => ∃ (x : Int32) (I' : rI) (R' : rR), v = some (.int x) ∧ RS g m0 q z I' R' M' ∧ eqI [25, 47, 48] I I' ∧ eqR [27, 28, 29, 30, 31, 32, 33] R R' ∧ (x = 0 ∨ x = 1) ∧ (x = 0 ∨ ∃ k : Nat, k ≤ 8192 ∧ I' 25 = some (nI k) ∧ FKN k R')) := by
  obtain ⟨d, rfl⟩ : ∃ e, d = e + 1 := ⟨d - 1, by omega⟩
  refine mt_in (b := mb_189 g) rfl rfl ?_
  show ml (mT g) d (mb_189 g).2 (0, [(0, .ref m0)], [], M) _
  have hn := hF.1
  have hA0 := hmb.1
  have hA1 := hmb.2.1
  have eA2 : (fA + 2).toInt = fA.toInt + 2 := i_add (by have : (2 : Int32).toInt = 2 := rfl; omega) (by have : (2 : Int32).toInt = 2 := rfl; omega)
  refine ml_st (S' := (1, [(0, .ref m0)], [.ref m0], M)) rfl rfl rfl ?_
  refine rg_int (S' := (4, [(0, .ref m0)], [.int fA], M)) rfl hR rfl (hk55) rfl ?_
  refine ml_st (S' := (5, [(1, .int fA), (0, .ref m0)], [], M)) rfl rfl rfl ?_
  refine ml_blk 2 (S' := (7, [(1, .int fA), (0, .ref m0)], [.int fA, .ref m0], M)) rfl ?_
  refine ml_call (a := [.ref m0, .int fA]) (rest := []) rfl (hR.okc rfl rfl rfl) rfl rfl (rm_u2 hR hF (hA0) (hA1) (by omega)) (fun v11 M12 h13 => ?_)
  obtain ⟨rfl, h13⟩ := h13
  rw [h13]
  show ml _ _ _ (10, [(1, .int fA), (0, .ref m0)], [.int (f2 f fA)], M) _
  refine ml_st (S' := (11, [(2, .int (f2 f fA)), (1, .int fA), (0, .ref m0)], [], M)) rfl rfl rfl ?_
  refine ml_st (S' := (14, [(1, .int (fA + 2)), (2, .int (f2 f fA)), (0, .ref m0)], [], M)) rfl rfl rfl ?_
  refine ml_st (S' := (15, [(1, .int (fA + 2)), (2, .int (f2 f fA)), (0, .ref m0)], [.ref m0], M)) rfl rfl rfl ?_
  refine rg_int (S' := (18, [(1, .int (fA + 2)), (2, .int (f2 f fA)), (0, .ref m0)], [.int 0], M)) rfl hR rfl (hk25) rfl ?_
  refine ml_st (S' := (19, [(3, .int 0), (1, .int (fA + 2)), (2, .int (f2 f fA)), (0, .ref m0)], [], M)) rfl rfl rfl ?_
  refine ml_st (S' := (20, [(3, .int 0), (1, .int (fA + 2)), (2, .int (f2 f fA)), (0, .ref m0)], [.int 0], M)) rfl rfl rfl ?_
  refine ml_st (S' := (22, [(0, .ref m0), (1, .int (fA + 2)), (2, .int (f2 f fA)), (3, .int 0), (4, .int 0)], [], M)) rfl rfl rfl ?_
  have L_22 : ∀ (n_22 : Nat) (i22_1 : Int32) (i22_4 : Int32) (M_22 : mi_H) (I_22 : rI) (R_22 : rR), (2147483648 - i22_4.toInt).toNat ≤ n_22 → RS g m0 q z I_22 R_22 M_22 → eqI [25, 47, 48] I I_22 → eqR [27, 28, 29, 30, 31, 32, 33] R R_22 → (0 ≤ i22_4.toInt ∧ i22_4.toInt ≤ (f2 f fA).toInt ∧ I_22 25 = some i22_4 ∧ itr (MB1 f n) ((f2 f fA).toInt - i22_4.toInt).toNat i22_1 mA ∧ fA.toInt + 2 + 8 * i22_4.toInt ≤ i22_1.toInt ∧ FKN i22_4.toInt.toNat R_22) → ml (mT g) d (mb_189 g).2 (22, [(0, .ref m0), (1, .int i22_1), (2, .int (f2 f fA)), (3, .int 0), (4, .int i22_4)], [], M_22) (fun v M' => ∃ (x : Int32) (I' : rI) (R' : rR), v = some (.int x) ∧ RS g m0 q z I' R' M' ∧ eqI [25, 47, 48] I I' ∧ eqR [27, 28, 29, 30, 31, 32, 33] R R' ∧ (x = 0 ∨ x = 1) ∧ (x = 0 ∨ ∃ k : Nat, k ≤ 8192 ∧ I' 25 = some (nI k) ∧ FKN k R')) := by
    intro n_22
    induction n_22 with
    | zero => intro i22_1 i22_4 M_22 I_22 R_22 hn; exact (loop_zero hn).elim
    | succ n_22 ih_22 =>
      intro i22_1 i22_4 M_22 I_22 R_22 hn_22 hR_22 hI_22 hV_22 hi_22
      obtain ⟨hk0, hk1, h25, hit, hpk, hfk⟩ := hi_22
      refine ml_blk 2 (S' := (25, [(0, .ref m0), (1, .int i22_1), (2, .int (f2 f fA)), (3, .int 0), (4, .int i22_4)], [.int (f2 f fA), .int i22_4], M_22)) rfl ?_
      refine ml_if2 (S1 := (366, [(0, .ref m0), (1, .int i22_1), (2, .int (f2 f fA)), (3, .int 0), (4, .int i22_4)], [], M_22)) (S2 := (28, [(0, .ref m0), (1, .int i22_1), (2, .int (f2 f fA)), (3, .int 0), (4, .int i22_4)], [], M_22)) rfl rfl rfl (fun c_25 => ?_) (fun c_25 => ?_)
      · have c_25 : (f2 f fA) ≤ i22_4 := of_decide_eq_true c_25
        refine ml_st (S' := (367, [(0, .ref m0), (1, .int i22_1), (2, .int (f2 f fA)), (3, .int 0), (4, .int i22_4)], [.int 1], M_22)) rfl rfl rfl ?_
        exact ml_ret rfl (r_z (Or.inr rfl)) (⟨_, _, _, rfl, hR_22, (eqI.rf.tr hI_22 (by decide)), (eqR.rf.tr hV_22 (by decide)), Or.inr rfl, Or.inr ⟨i22_4.toInt.toNat, by have := itr.ge (w := 0) (fun a b h => by have := MB1.ge hn a b h; omega) hit; have := (mb_ge hn hmb).2; omega, by rw [nI_back hk0 (Int.le_trans hk1 f2_le)]; exact h25, hfk⟩⟩)
      · have c_25 : ¬ ((f2 f fA) ≤ i22_4) := of_decide_eq_false c_25
        obtain ⟨b1, hb1, hnx⟩ := itr_next hit c_25
        obtain ⟨g0, g1, g2⟩ := hb1
        have hg := at_ge hn g2
        have hkl := i_nle c_25
        have e2 : (i22_1 + 2).toInt = i22_1.toInt + 2 := i_add (by have : (2 : Int32).toInt = 2 := rfl; omega) (by have : (2 : Int32).toInt = 2 := rfl; omega)
        have e4 : (i22_1 + 4).toInt = i22_1.toInt + 4 := i_add (by have : (4 : Int32).toInt = 4 := rfl; omega) (by have : (4 : Int32).toInt = 4 := rfl; omega)
        have e6 : (i22_1 + 6).toInt = i22_1.toInt + 6 := i_add (by have : (6 : Int32).toInt = 6 := rfl; omega) (by have : (6 : Int32).toInt = 6 := rfl; omega)
        have hk8 : i22_4.toInt < 8300 := by omega
        refine ml_blk 2 (S' := (30, [(0, .ref m0), (1, .int i22_1), (2, .int (f2 f fA)), (3, .int 0), (4, .int i22_4)], [.int i22_1, .ref m0], M_22)) rfl ?_
        have hF14 : FK n f I_22 R_22 := (hF.mono (cIx hI_22 (by decide)) (cRx hV_22 (by decide)))
        refine ml_call (a := [.ref m0, .int i22_1]) (rest := []) rfl (hR_22.okc rfl rfl rfl) rfl rfl (rm_u2 hR_22 hF14 (g0) (by omega) (by omega)) (fun v15 M16 h17 => ?_)
        obtain ⟨rfl, h17⟩ := h17
        rw [h17]
        show ml _ _ _ (33, [(0, .ref m0), (1, .int i22_1), (2, .int (f2 f fA)), (3, .int 0), (4, .int i22_4)], [.int (f2 f i22_1)], M_22) _
        refine ml_st (S' := (35, [(5, .int (f2 f i22_1)), (0, .ref m0), (1, .int i22_1), (2, .int (f2 f fA)), (3, .int 0), (4, .int i22_4)], [], M_22)) rfl rfl rfl ?_
        refine ml_blk 3 (S' := (39, [(5, .int (f2 f i22_1)), (0, .ref m0), (1, .int i22_1), (2, .int (f2 f fA)), (3, .int 0), (4, .int i22_4)], [.int 2, .int 1, .int (f2 f i22_1)], M_22)) rfl ?_
        refine ml_st (S' := (40, [(5, .int (f2 f i22_1)), (0, .ref m0), (1, .int i22_1), (2, .int (f2 f fA)), (3, .int 0), (4, .int i22_4)], [.int 4, .int 2, .int 1, .int (f2 f i22_1)], M_22)) rfl rfl rfl ?_
        refine ml_call (a := [.int (f2 f i22_1), .int 1, .int 2, .int 4]) (rest := []) rfl (rfl) rfl rfl (rm_several hR_22 (by omega)) (fun v18 M19 h20 => ?_)
        obtain ⟨⟨u21, rfl, z22⟩, h20⟩ := h20
        rw [h20]
        show ml _ _ _ (43, [(5, .int (f2 f i22_1)), (0, .ref m0), (1, .int i22_1), (2, .int (f2 f fA)), (3, .int 0), (4, .int i22_4)], [.int u21], M_22) _
        refine ml_if (S1 := (84, [(0, .ref m0), (1, .int i22_1)], [], M_22)) (S2 := (46, [(5, .int (f2 f i22_1)), (0, .ref m0), (1, .int i22_1), (2, .int (f2 f fA)), (3, .int 0), (4, .int i22_4)], [], M_22)) rfl rfl rfl (fun c_43 => ?_) (fun c_43 => ?_)
        · have c_43 : ¬ u21 = 0 := of_decide_eq_true c_43
          refine ml_blk 3 (S' := (88, [(0, .ref m0), (1, .int i22_1)], [.int i22_1, .int 19, .ref m0], M_22)) rfl ?_
          refine ml_call (a := [.ref m0, .int 19, .int i22_1]) (rest := []) rfl (hR_22.okc rfl rfl rfl) rfl rfl (rm_wrong hR_22 (by omega)) (fun v23 M24 h25 => ?_)
          obtain ⟨u31, I26, R27, rfl, hR28, hI29, hV30, z32, w33⟩ := h25
          show ml _ _ _ (91, [(0, .ref m0), (1, .int i22_1)], [.int u31], M24) _
          exact ml_ret rfl (r_z (z32)) (⟨_, _, _, rfl, hR28, ((eqI.rf.tr hI_22 (by decide)).tr hI29 (by decide)), ((eqR.rf.tr hV_22 (by decide)).tr hV30 (by decide)), z32, Or.inl w33⟩)
        · have c_43 : ¬ (¬ u21 = 0) := of_decide_eq_false c_43
          refine ml_blk 3 (S' := (51, [(5, .int (f2 f i22_1)), (0, .ref m0), (1, .int i22_1), (2, .int (f2 f fA)), (3, .int 0), (4, .int i22_4)], [.int ((f2 f i22_1) &&& 16)], M_22)) rfl ?_
          refine ml_if (S1 := (62, [(0, .ref m0), (1, .int i22_1), (2, .int (f2 f fA)), (3, .int 0), (4, .int i22_4), (5, .int (f2 f i22_1))], [], M_22)) (S2 := (54, [(5, .int (f2 f i22_1)), (0, .ref m0), (1, .int i22_1), (2, .int (f2 f fA)), (3, .int 0), (4, .int i22_4)], [], M_22)) rfl rfl rfl (fun c_51 => ?_) (fun c_51 => ?_)
          · have c_51 : ((f2 f i22_1) &&& 16) = 0 := of_decide_eq_true c_51
            refine ml_st (S' := (63, [(0, .ref m0), (1, .int i22_1), (2, .int (f2 f fA)), (3, .int 0), (4, .int i22_4), (5, .int (f2 f i22_1))], [.ref m0], M_22)) rfl rfl rfl ?_
            refine rg_int (S' := (66, [(0, .ref m0), (1, .int i22_1), (2, .int (f2 f fA)), (3, .int 0), (4, .int i22_4), (5, .int (f2 f i22_1))], [.int nf], M_22)) rfl hR_22 rfl ((hI_22 58 (by decide)).trans (hk58)) rfl ?_
            refine ml_blk 2 (S' := (70, [(0, .ref m0), (1, .int i22_1), (2, .int (f2 f fA)), (3, .int 0), (4, .int i22_4), (5, .int (f2 f i22_1))], [.int (nf &&& 512)], M_22)) rfl ?_
            have J_92 : ml (mT g) d (mb_189 g).2 (92, [(0, .ref m0), (1, .int i22_1), (2, .int (f2 f fA)), (3, .int 0), (4, .int i22_4), (5, .int (f2 f i22_1))], [], M_22) (fun v M' => ∃ (x : Int32) (I' : rI) (R' : rR), v = some (.int x) ∧ RS g m0 q z I' R' M' ∧ eqI [25, 47, 48] I I' ∧ eqR [27, 28, 29, 30, 31, 32, 33] R R' ∧ (x = 0 ∨ x = 1) ∧ (x = 0 ∨ ∃ k : Nat, k ≤ 8192 ∧ I' 25 = some (nI k) ∧ FKN k R')) := by
              refine ml_blk 3 (S' := (95, [(0, .ref m0), (1, .int i22_1), (2, .int (f2 f fA)), (3, .int 0), (4, .int i22_4), (5, .int (f2 f i22_1))], [.int i22_1, .ref m0, .ref m0], M_22)) rfl ?_
              refine ml_blk 2 (S' := (97, [(0, .ref m0), (1, .int i22_1), (2, .int (f2 f fA)), (3, .int 0), (4, .int i22_4), (5, .int (f2 f i22_1))], [.int (i22_1 + 2), .ref m0, .ref m0], M_22)) rfl ?_
              refine ml_call (a := [.ref m0, .int (i22_1 + 2)]) (rest := [.ref m0]) rfl (hR_22.okc rfl rfl rfl) rfl rfl (rm_u2 hR_22 hF14 (by omega) (by omega) (by omega)) (fun v34 M35 h36 => ?_)
              obtain ⟨rfl, h36⟩ := h36
              rw [h36]
              show ml _ _ _ (100, [(0, .ref m0), (1, .int i22_1), (2, .int (f2 f fA)), (3, .int 0), (4, .int i22_4), (5, .int (f2 f i22_1))], [.int (f2 f (i22_1 + 2)), .ref m0], M_22) _
              have hP37 : PK n f S cp mj pa py I_22 R_22 := (hP.mono (cIx hI_22 (by decide)) (cRx hV_22 (by decide)))
              refine ml_call (a := [.ref m0, .int (f2 f (i22_1 + 2))]) (rest := []) rfl (hR_22.okc rfl rfl rfl) rfl rfl (rm_tag hR_22 hF14 hP37 (by omega)) (fun v38 M39 h40 => ?_)
              obtain ⟨rfl, h40⟩ := h40
              rw [h40]
              show ml _ _ _ (103, [(0, .ref m0), (1, .int i22_1), (2, .int (f2 f fA)), (3, .int 0), (4, .int i22_4), (5, .int (f2 f i22_1))], [.int (tgf f cp pa (f2 f (i22_1 + 2)))], M_22) _
              refine ml_st (S' := (104, [(0, .ref m0), (1, .int i22_1), (2, .int (f2 f fA)), (3, .int 0), (4, .int i22_4), (5, .int (f2 f i22_1))], [.int 1, .int (tgf f cp pa (f2 f (i22_1 + 2)))], M_22)) rfl rfl rfl ?_
              refine ml_if2 (S1 := (126, [(0, .ref m0), (1, .int i22_1)], [], M_22)) (S2 := (107, [(0, .ref m0), (1, .int i22_1), (2, .int (f2 f fA)), (3, .int 0), (4, .int i22_4), (5, .int (f2 f i22_1))], [], M_22)) rfl rfl rfl (fun c_104 => ?_) (fun c_104 => ?_)
              · have c_104 : ¬ (tgf f cp pa (f2 f (i22_1 + 2))) = 1 := of_decide_eq_true c_104
                refine ml_blk 3 (S' := (130, [(0, .ref m0), (1, .int i22_1)], [.int i22_1, .int 20, .ref m0], M_22)) rfl ?_
                refine ml_blk 2 (S' := (132, [(0, .ref m0), (1, .int i22_1)], [.int (i22_1 + 2), .int 20, .ref m0], M_22)) rfl ?_
                refine ml_call (a := [.ref m0, .int 20, .int (i22_1 + 2)]) (rest := []) rfl (hR_22.okc rfl rfl rfl) rfl rfl (rm_wrong hR_22 (by omega)) (fun v41 M42 h43 => ?_)
                obtain ⟨u49, I44, R45, rfl, hR46, hI47, hV48, z50, w51⟩ := h43
                show ml _ _ _ (135, [(0, .ref m0), (1, .int i22_1)], [.int u49], M42) _
                exact ml_ret rfl (r_z (z50)) (⟨_, _, _, rfl, hR46, ((eqI.rf.tr hI_22 (by decide)).tr hI47 (by decide)), ((eqR.rf.tr hV_22 (by decide)).tr hV48 (by decide)), z50, Or.inl w51⟩)
              · have c_104 : ¬ (¬ (tgf f cp pa (f2 f (i22_1 + 2))) = 1) := of_decide_eq_false c_104
                have hyA := hP.y (show tgf f cp pa (f2 f (i22_1 + 2)) = 1 from Decidable.not_not.mp c_104)
                refine ml_blk 3 (S' := (110, [(0, .ref m0), (1, .int i22_1), (2, .int (f2 f fA)), (3, .int 0), (4, .int i22_4), (5, .int (f2 f i22_1))], [.ref m0, .ref m0, .ref m0], M_22)) rfl ?_
                refine ml_blk 3 (S' := (113, [(0, .ref m0), (1, .int i22_1), (2, .int (f2 f fA)), (3, .int 0), (4, .int i22_4), (5, .int (f2 f i22_1))], [.int (i22_1 + 2), .ref m0, .ref m0, .ref m0], M_22)) rfl ?_
                refine ml_call (a := [.ref m0, .int (i22_1 + 2)]) (rest := [.ref m0, .ref m0]) rfl (hR_22.okc rfl rfl rfl) rfl rfl (rm_u2 hR_22 hF14 (by omega) (by omega) (by omega)) (fun v52 M53 h54 => ?_)
                obtain ⟨rfl, h54⟩ := h54
                rw [h54]
                show ml _ _ _ (116, [(0, .ref m0), (1, .int i22_1), (2, .int (f2 f fA)), (3, .int 0), (4, .int i22_4), (5, .int (f2 f i22_1))], [.int (f2 f (i22_1 + 2)), .ref m0, .ref m0], M_22) _
                refine ml_call (a := [.ref m0, .int (f2 f (i22_1 + 2))]) (rest := [.ref m0]) rfl (hR_22.okc rfl rfl rfl) rfl rfl (rm_symOf hR_22 hP37 (Decidable.not_not.mp c_104) (by omega)) (fun v55 M56 h57 => ?_)
                obtain ⟨rfl, h57⟩ := h57
                rw [h57]
                show ml _ _ _ (119, [(0, .ref m0), (1, .int i22_1), (2, .int (f2 f fA)), (3, .int 0), (4, .int i22_4), (5, .int (f2 f i22_1))], [.int (pyf py (f2 f (i22_1 + 2))), .ref m0], M_22) _
                refine ml_st (S' := (120, [(0, .ref m0), (1, .int i22_1), (2, .int (f2 f fA)), (3, .int 0), (4, .int i22_4), (5, .int (f2 f i22_1))], [.int 1, .int (pyf py (f2 f (i22_1 + 2))), .ref m0], M_22)) rfl rfl rfl ?_
                have hY58 : SK S cN sa sl ch I_22 R_22 := (hY.mono (cIx hI_22 (by decide)) (cRx hV_22 (by decide)))
                refine ml_call (a := [.ref m0, .int (pyf py (f2 f (i22_1 + 2))), .int 1]) (rest := []) rfl (hR_22.okc rfl rfl rfl) rfl rfl (rm_unqualified hR_22 hY58 (hyA.2.2.1) (hyA.2.2.2) (by omega)) (fun v59 M60 h61 => ?_)
                obtain ⟨⟨u62, rfl, z63⟩, h61⟩ := h61
                rw [h61]
                show ml _ _ _ (123, [(0, .ref m0), (1, .int i22_1), (2, .int (f2 f fA)), (3, .int 0), (4, .int i22_4), (5, .int (f2 f i22_1))], [.int u62], M_22) _
                refine ml_if (S1 := (136, [(0, .ref m0), (1, .int i22_1), (2, .int (f2 f fA)), (3, .int 0), (4, .int i22_4), (5, .int (f2 f i22_1))], [], M_22)) (S2 := (126, [(0, .ref m0), (1, .int i22_1)], [], M_22)) rfl rfl rfl (fun c_123 => ?_) (fun c_123 => ?_)
                · have c_123 : ¬ u62 = 0 := of_decide_eq_true c_123
                  refine ml_blk 3 (S' := (139, [(0, .ref m0), (1, .int i22_1), (2, .int (f2 f fA)), (3, .int 0), (4, .int i22_4), (5, .int (f2 f i22_1))], [.int i22_1, .ref m0, .ref m0], M_22)) rfl ?_
                  refine ml_blk 2 (S' := (141, [(0, .ref m0), (1, .int i22_1), (2, .int (f2 f fA)), (3, .int 0), (4, .int i22_4), (5, .int (f2 f i22_1))], [.int (i22_1 + 4), .ref m0, .ref m0], M_22)) rfl ?_
                  refine ml_call (a := [.ref m0, .int (i22_1 + 4)]) (rest := [.ref m0]) rfl (hR_22.okc rfl rfl rfl) rfl rfl (rm_u2 hR_22 hF14 (by omega) (by omega) (by omega)) (fun v64 M65 h66 => ?_)
                  obtain ⟨rfl, h66⟩ := h66
                  rw [h66]
                  show ml _ _ _ (144, [(0, .ref m0), (1, .int i22_1), (2, .int (f2 f fA)), (3, .int 0), (4, .int i22_4), (5, .int (f2 f i22_1))], [.int (f2 f (i22_1 + 4)), .ref m0], M_22) _
                  refine ml_call (a := [.ref m0, .int (f2 f (i22_1 + 4))]) (rest := []) rfl (hR_22.okc rfl rfl rfl) rfl rfl (rm_tag hR_22 hF14 hP37 (by omega)) (fun v67 M68 h69 => ?_)
                  obtain ⟨rfl, h69⟩ := h69
                  rw [h69]
                  show ml _ _ _ (147, [(0, .ref m0), (1, .int i22_1), (2, .int (f2 f fA)), (3, .int 0), (4, .int i22_4), (5, .int (f2 f i22_1))], [.int (tgf f cp pa (f2 f (i22_1 + 4)))], M_22) _
                  refine ml_st (S' := (148, [(0, .ref m0), (1, .int i22_1), (2, .int (f2 f fA)), (3, .int 0), (4, .int i22_4), (5, .int (f2 f i22_1))], [.int 1, .int (tgf f cp pa (f2 f (i22_1 + 4)))], M_22)) rfl rfl rfl ?_
                  refine ml_if2 (S1 := (169, [(0, .ref m0), (1, .int i22_1)], [], M_22)) (S2 := (151, [(0, .ref m0), (1, .int i22_1), (2, .int (f2 f fA)), (3, .int 0), (4, .int i22_4), (5, .int (f2 f i22_1))], [], M_22)) rfl rfl rfl (fun c_148 => ?_) (fun c_148 => ?_)
                  · have c_148 : ¬ (tgf f cp pa (f2 f (i22_1 + 4))) = 1 := of_decide_eq_true c_148
                    refine ml_blk 3 (S' := (173, [(0, .ref m0), (1, .int i22_1)], [.int i22_1, .int 21, .ref m0], M_22)) rfl ?_
                    refine ml_blk 2 (S' := (175, [(0, .ref m0), (1, .int i22_1)], [.int (i22_1 + 4), .int 21, .ref m0], M_22)) rfl ?_
                    refine ml_call (a := [.ref m0, .int 21, .int (i22_1 + 4)]) (rest := []) rfl (hR_22.okc rfl rfl rfl) rfl rfl (rm_wrong hR_22 (by omega)) (fun v70 M71 h72 => ?_)
                    obtain ⟨u78, I73, R74, rfl, hR75, hI76, hV77, z79, w80⟩ := h72
                    show ml _ _ _ (178, [(0, .ref m0), (1, .int i22_1)], [.int u78], M71) _
                    exact ml_ret rfl (r_z (z79)) (⟨_, _, _, rfl, hR75, ((eqI.rf.tr hI_22 (by decide)).tr hI76 (by decide)), ((eqR.rf.tr hV_22 (by decide)).tr hV77 (by decide)), z79, Or.inl w80⟩)
                  · have c_148 : ¬ (¬ (tgf f cp pa (f2 f (i22_1 + 4))) = 1) := of_decide_eq_false c_148
                    have hyB := hP.y (show tgf f cp pa (f2 f (i22_1 + 4)) = 1 from Decidable.not_not.mp c_148)
                    refine ml_blk 3 (S' := (154, [(0, .ref m0), (1, .int i22_1), (2, .int (f2 f fA)), (3, .int 0), (4, .int i22_4), (5, .int (f2 f i22_1))], [.ref m0, .ref m0, .ref m0], M_22)) rfl ?_
                    refine ml_blk 3 (S' := (157, [(0, .ref m0), (1, .int i22_1), (2, .int (f2 f fA)), (3, .int 0), (4, .int i22_4), (5, .int (f2 f i22_1))], [.int (i22_1 + 4), .ref m0, .ref m0, .ref m0], M_22)) rfl ?_
                    refine ml_call (a := [.ref m0, .int (i22_1 + 4)]) (rest := [.ref m0, .ref m0]) rfl (hR_22.okc rfl rfl rfl) rfl rfl (rm_u2 hR_22 hF14 (by omega) (by omega) (by omega)) (fun v81 M82 h83 => ?_)
                    obtain ⟨rfl, h83⟩ := h83
                    rw [h83]
                    show ml _ _ _ (160, [(0, .ref m0), (1, .int i22_1), (2, .int (f2 f fA)), (3, .int 0), (4, .int i22_4), (5, .int (f2 f i22_1))], [.int (f2 f (i22_1 + 4)), .ref m0, .ref m0], M_22) _
                    refine ml_call (a := [.ref m0, .int (f2 f (i22_1 + 4))]) (rest := [.ref m0]) rfl (hR_22.okc rfl rfl rfl) rfl rfl (rm_symOf hR_22 hP37 (Decidable.not_not.mp c_148) (by omega)) (fun v84 M85 h86 => ?_)
                    obtain ⟨rfl, h86⟩ := h86
                    rw [h86]
                    show ml _ _ _ (163, [(0, .ref m0), (1, .int i22_1), (2, .int (f2 f fA)), (3, .int 0), (4, .int i22_4), (5, .int (f2 f i22_1))], [.int (pyf py (f2 f (i22_1 + 4))), .ref m0], M_22) _
                    refine ml_call (a := [.ref m0, .int (pyf py (f2 f (i22_1 + 4)))]) (rest := []) rfl (hR_22.okc rfl rfl rfl) rfl rfl (rm_isField hR_22 hY58 (hyB.2.2.1) (hyB.2.2.2) (by omega)) (fun v87 M88 h89 => ?_)
                    obtain ⟨⟨u90, rfl, z91, w92⟩, h89⟩ := h89
                    rw [h89]
                    show ml _ _ _ (166, [(0, .ref m0), (1, .int i22_1), (2, .int (f2 f fA)), (3, .int 0), (4, .int i22_4), (5, .int (f2 f i22_1))], [.int u90], M_22) _
                    refine ml_if (S1 := (179, [(0, .ref m0), (1, .int i22_1), (2, .int (f2 f fA)), (3, .int 0), (4, .int i22_4), (5, .int (f2 f i22_1))], [], M_22)) (S2 := (169, [(0, .ref m0), (1, .int i22_1)], [], M_22)) rfl rfl rfl (fun c_166 => ?_) (fun c_166 => ?_)
                    · have c_166 : ¬ u90 = 0 := of_decide_eq_true c_166
                      have hlnB := w92.resolve_left c_166
                      refine ml_st (S' := (180, [(0, .ref m0), (1, .int i22_1), (2, .int (f2 f fA)), (3, .int 0), (4, .int i22_4), (5, .int (f2 f i22_1))], [.ref m0], M_22)) rfl rfl rfl ?_
                      refine rg_int (S' := (183, [(0, .ref m0), (1, .int i22_1), (2, .int (f2 f fA)), (3, .int 0), (4, .int i22_4), (5, .int (f2 f i22_1))], [.int i22_4], M_22)) rfl hR_22 rfl (h25) rfl ?_
                      refine ml_st (S' := (185, [(6, .int i22_4), (0, .ref m0), (1, .int i22_1), (2, .int (f2 f fA)), (3, .int 0), (4, .int i22_4), (5, .int (f2 f i22_1))], [], M_22)) rfl rfl rfl ?_
                      refine ml_st (S' := (186, [(6, .int i22_4), (0, .ref m0), (1, .int i22_1), (2, .int (f2 f fA)), (3, .int 0), (4, .int i22_4), (5, .int (f2 f i22_1))], [.ref m0], M_22)) rfl rfl rfl ?_
                      refine rg_ref (S' := (189, [(6, .int i22_4), (0, .ref m0), (1, .int i22_1), (2, .int (f2 f fA)), (3, .int 0), (4, .int i22_4), (5, .int (f2 f i22_1))], [.ref (q 27)], M_22)) rfl hR_22 rfl rfl ?_
                      refine ml_blk 2 (S' := (193, [(6, .int i22_4), (0, .ref m0), (1, .int i22_1), (2, .int (f2 f fA)), (3, .int 0), (4, .int i22_4), (5, .int (f2 f i22_1))], [.int (f2 f i22_1), .int i22_4, .ref (q 27)], M_22)) rfl ?_
                      refine ra_st (k := 27) rfl hR_22 rfl (vin_lt hk0 (by omega)) (fun M93 R94 hR95 e96 g97 f98 => ?_)
                      show ml _ _ _ (194, [(6, .int i22_4), (0, .ref m0), (1, .int i22_1), (2, .int (f2 f fA)), (3, .int 0), (4, .int i22_4), (5, .int (f2 f i22_1))], [], M93) _
                      refine ml_st (S' := (195, [(6, .int i22_4), (0, .ref m0), (1, .int i22_1), (2, .int (f2 f fA)), (3, .int 0), (4, .int i22_4), (5, .int (f2 f i22_1))], [.ref m0], M93)) rfl rfl rfl ?_
                      refine rg_ref (S' := (198, [(6, .int i22_4), (0, .ref m0), (1, .int i22_1), (2, .int (f2 f fA)), (3, .int 0), (4, .int i22_4), (5, .int (f2 f i22_1))], [.ref (q 28)], M93)) rfl hR95 rfl rfl ?_
                      refine ml_blk 3 (S' := (202, [(6, .int i22_4), (0, .ref m0), (1, .int i22_1), (2, .int (f2 f fA)), (3, .int 0), (4, .int i22_4), (5, .int (f2 f i22_1))], [.ref m0, .ref m0, .int i22_4, .ref (q 28)], M93)) rfl ?_
                      refine ml_blk 3 (S' := (205, [(6, .int i22_4), (0, .ref m0), (1, .int i22_1), (2, .int (f2 f fA)), (3, .int 0), (4, .int i22_4), (5, .int (f2 f i22_1))], [.int (i22_1 + 2), .ref m0, .ref m0, .int i22_4, .ref (q 28)], M93)) rfl ?_
                      have hF99 : FK n f I_22 R94 := (hF14.mono (fun _ _ => rfl) (pRx f98 (by decide)))
                      refine ml_call (a := [.ref m0, .int (i22_1 + 2)]) (rest := [.ref m0, .int i22_4, .ref (q 28)]) rfl (hR95.okc rfl rfl rfl) rfl rfl (rm_u2 hR95 hF99 (by omega) (by omega) (by omega)) (fun v100 M101 h102 => ?_)
                      obtain ⟨rfl, h102⟩ := h102
                      rw [h102]
                      show ml _ _ _ (208, [(6, .int i22_4), (0, .ref m0), (1, .int i22_1), (2, .int (f2 f fA)), (3, .int 0), (4, .int i22_4), (5, .int (f2 f i22_1))], [.int (f2 f (i22_1 + 2)), .ref m0, .int i22_4, .ref (q 28)], M93) _
                      have hP103 : PK n f S cp mj pa py I_22 R94 := (hP37.mono (fun _ _ => rfl) (pRx f98 (by decide)))
                      refine ml_call (a := [.ref m0, .int (f2 f (i22_1 + 2))]) (rest := [.int i22_4, .ref (q 28)]) rfl (hR95.okc rfl rfl rfl) rfl rfl (rm_symOf hR95 hP103 (Decidable.not_not.mp c_104) (by omega)) (fun v104 M105 h106 => ?_)
                      obtain ⟨rfl, h106⟩ := h106
                      rw [h106]
                      show ml _ _ _ (211, [(6, .int i22_4), (0, .ref m0), (1, .int i22_1), (2, .int (f2 f fA)), (3, .int 0), (4, .int i22_4), (5, .int (f2 f i22_1))], [.int (pyf py (f2 f (i22_1 + 2))), .int i22_4, .ref (q 28)], M93) _
                      refine ra_st (k := 28) rfl hR95 rfl (vin_lt hk0 (by omega)) (fun M107 R108 hR109 e110 g111 f112 => ?_)
                      show ml _ _ _ (212, [(6, .int i22_4), (0, .ref m0), (1, .int i22_1), (2, .int (f2 f fA)), (3, .int 0), (4, .int i22_4), (5, .int (f2 f i22_1))], [], M107) _
                      refine ml_st (S' := (213, [(6, .int i22_4), (0, .ref m0), (1, .int i22_1), (2, .int (f2 f fA)), (3, .int 0), (4, .int i22_4), (5, .int (f2 f i22_1))], [.ref m0], M107)) rfl rfl rfl ?_
                      refine rg_ref (S' := (216, [(6, .int i22_4), (0, .ref m0), (1, .int i22_1), (2, .int (f2 f fA)), (3, .int 0), (4, .int i22_4), (5, .int (f2 f i22_1))], [.ref (q 29)], M107)) rfl hR109 rfl rfl ?_
                      refine ml_blk 3 (S' := (220, [(6, .int i22_4), (0, .ref m0), (1, .int i22_1), (2, .int (f2 f fA)), (3, .int 0), (4, .int i22_4), (5, .int (f2 f i22_1))], [.ref m0, .ref m0, .int i22_4, .ref (q 29)], M107)) rfl ?_
                      refine ml_blk 3 (S' := (223, [(6, .int i22_4), (0, .ref m0), (1, .int i22_1), (2, .int (f2 f fA)), (3, .int 0), (4, .int i22_4), (5, .int (f2 f i22_1))], [.int (i22_1 + 4), .ref m0, .ref m0, .int i22_4, .ref (q 29)], M107)) rfl ?_
                      have hF113 : FK n f I_22 R108 := (hF99.mono (fun _ _ => rfl) (pRx f112 (by decide)))
                      refine ml_call (a := [.ref m0, .int (i22_1 + 4)]) (rest := [.ref m0, .int i22_4, .ref (q 29)]) rfl (hR109.okc rfl rfl rfl) rfl rfl (rm_u2 hR109 hF113 (by omega) (by omega) (by omega)) (fun v114 M115 h116 => ?_)
                      obtain ⟨rfl, h116⟩ := h116
                      rw [h116]
                      show ml _ _ _ (226, [(6, .int i22_4), (0, .ref m0), (1, .int i22_1), (2, .int (f2 f fA)), (3, .int 0), (4, .int i22_4), (5, .int (f2 f i22_1))], [.int (f2 f (i22_1 + 4)), .ref m0, .int i22_4, .ref (q 29)], M107) _
                      have hP117 : PK n f S cp mj pa py I_22 R108 := (hP103.mono (fun _ _ => rfl) (pRx f112 (by decide)))
                      refine ml_call (a := [.ref m0, .int (f2 f (i22_1 + 4))]) (rest := [.int i22_4, .ref (q 29)]) rfl (hR109.okc rfl rfl rfl) rfl rfl (rm_symOf hR109 hP117 (Decidable.not_not.mp c_148) (by omega)) (fun v118 M119 h120 => ?_)
                      obtain ⟨rfl, h120⟩ := h120
                      rw [h120]
                      show ml _ _ _ (229, [(6, .int i22_4), (0, .ref m0), (1, .int i22_1), (2, .int (f2 f fA)), (3, .int 0), (4, .int i22_4), (5, .int (f2 f i22_1))], [.int (pyf py (f2 f (i22_1 + 4))), .int i22_4, .ref (q 29)], M107) _
                      refine ra_st (k := 29) rfl hR109 rfl (vin_lt hk0 (by omega)) (fun M121 R122 hR123 e124 g125 f126 => ?_)
                      show ml _ _ _ (230, [(6, .int i22_4), (0, .ref m0), (1, .int i22_1), (2, .int (f2 f fA)), (3, .int 0), (4, .int i22_4), (5, .int (f2 f i22_1))], [], M121) _
                      refine ml_st (S' := (231, [(6, .int i22_4), (0, .ref m0), (1, .int i22_1), (2, .int (f2 f fA)), (3, .int 0), (4, .int i22_4), (5, .int (f2 f i22_1))], [.ref m0], M121)) rfl rfl rfl ?_
                      refine rg_ref (S' := (234, [(6, .int i22_4), (0, .ref m0), (1, .int i22_1), (2, .int (f2 f fA)), (3, .int 0), (4, .int i22_4), (5, .int (f2 f i22_1))], [.ref (q 30)], M121)) rfl hR123 rfl rfl ?_
                      refine ml_blk 2 (S' := (237, [(6, .int i22_4), (0, .ref m0), (1, .int i22_1), (2, .int (f2 f fA)), (3, .int 0), (4, .int i22_4), (5, .int (f2 f i22_1))], [.int 0, .int i22_4, .ref (q 30)], M121)) rfl ?_
                      refine ra_st (k := 30) rfl hR123 rfl (vin_lt hk0 (by omega)) (fun M127 R128 hR129 e130 g131 f132 => ?_)
                      show ml _ _ _ (238, [(6, .int i22_4), (0, .ref m0), (1, .int i22_1), (2, .int (f2 f fA)), (3, .int 0), (4, .int i22_4), (5, .int (f2 f i22_1))], [], M127) _
                      refine ml_st (S' := (239, [(6, .int i22_4), (0, .ref m0), (1, .int i22_1), (2, .int (f2 f fA)), (3, .int 0), (4, .int i22_4), (5, .int (f2 f i22_1))], [.ref m0], M127)) rfl rfl rfl ?_
                      refine rg_ref (S' := (242, [(6, .int i22_4), (0, .ref m0), (1, .int i22_1), (2, .int (f2 f fA)), (3, .int 0), (4, .int i22_4), (5, .int (f2 f i22_1))], [.ref (q 31)], M127)) rfl hR129 rfl rfl ?_
                      refine ml_blk 2 (S' := (245, [(6, .int i22_4), (0, .ref m0), (1, .int i22_1), (2, .int (f2 f fA)), (3, .int 0), (4, .int i22_4), (5, .int (f2 f i22_1))], [.int 0, .int i22_4, .ref (q 31)], M127)) rfl ?_
                      refine ra_st (k := 31) rfl hR129 rfl (vin_lt hk0 (by omega)) (fun M133 R134 hR135 e136 g137 f138 => ?_)
                      show ml _ _ _ (246, [(6, .int i22_4), (0, .ref m0), (1, .int i22_1), (2, .int (f2 f fA)), (3, .int 0), (4, .int i22_4), (5, .int (f2 f i22_1))], [], M133) _
                      refine ml_st (S' := (247, [(6, .int i22_4), (0, .ref m0), (1, .int i22_1), (2, .int (f2 f fA)), (3, .int 0), (4, .int i22_4), (5, .int (f2 f i22_1))], [.ref m0], M133)) rfl rfl rfl ?_
                      refine rg_ref (S' := (250, [(6, .int i22_4), (0, .ref m0), (1, .int i22_1), (2, .int (f2 f fA)), (3, .int 0), (4, .int i22_4), (5, .int (f2 f i22_1))], [.ref (q 32)], M133)) rfl hR135 rfl rfl ?_
                      refine ml_blk 3 (S' := (254, [(6, .int i22_4), (0, .ref m0), (1, .int i22_1), (2, .int (f2 f fA)), (3, .int 0), (4, .int i22_4), (5, .int (f2 f i22_1))], [.int i22_1, .ref m0, .int i22_4, .ref (q 32)], M133)) rfl ?_
                      refine ml_blk 2 (S' := (256, [(6, .int i22_4), (0, .ref m0), (1, .int i22_1), (2, .int (f2 f fA)), (3, .int 0), (4, .int i22_4), (5, .int (f2 f i22_1))], [.int (i22_1 + 2), .ref m0, .int i22_4, .ref (q 32)], M133)) rfl ?_
                      have hF139 : FK n f I_22 R134 := (((hF113.mono (fun _ _ => rfl) (pRx f126 (by decide))).mono (fun _ _ => rfl) (pRx f132 (by decide))).mono (fun _ _ => rfl) (pRx f138 (by decide)))
                      refine ml_call (a := [.ref m0, .int (i22_1 + 2)]) (rest := [.int i22_4, .ref (q 32)]) rfl (hR135.okc rfl rfl rfl) rfl rfl (rm_u2 hR135 hF139 (by omega) (by omega) (by omega)) (fun v140 M141 h142 => ?_)
                      obtain ⟨rfl, h142⟩ := h142
                      rw [h142]
                      show ml _ _ _ (259, [(6, .int i22_4), (0, .ref m0), (1, .int i22_1), (2, .int (f2 f fA)), (3, .int 0), (4, .int i22_4), (5, .int (f2 f i22_1))], [.int (f2 f (i22_1 + 2)), .int i22_4, .ref (q 32)], M133) _
                      refine ra_st (k := 32) rfl hR135 rfl (vin_lt hk0 (by omega)) (fun M143 R144 hR145 e146 g147 f148 => ?_)
                      show ml _ _ _ (260, [(6, .int i22_4), (0, .ref m0), (1, .int i22_1), (2, .int (f2 f fA)), (3, .int 0), (4, .int i22_4), (5, .int (f2 f i22_1))], [], M143) _
                      refine ml_st (S' := (261, [(6, .int i22_4), (0, .ref m0), (1, .int i22_1), (2, .int (f2 f fA)), (3, .int 0), (4, .int i22_4), (5, .int (f2 f i22_1))], [.ref m0], M143)) rfl rfl rfl ?_
                      refine rg_ref (S' := (264, [(6, .int i22_4), (0, .ref m0), (1, .int i22_1), (2, .int (f2 f fA)), (3, .int 0), (4, .int i22_4), (5, .int (f2 f i22_1))], [.ref (q 33)], M143)) rfl hR145 rfl rfl ?_
                      refine ml_blk 3 (S' := (268, [(6, .int i22_4), (0, .ref m0), (1, .int i22_1), (2, .int (f2 f fA)), (3, .int 0), (4, .int i22_4), (5, .int (f2 f i22_1))], [.int i22_1, .ref m0, .int i22_4, .ref (q 33)], M143)) rfl ?_
                      refine ml_blk 2 (S' := (270, [(6, .int i22_4), (0, .ref m0), (1, .int i22_1), (2, .int (f2 f fA)), (3, .int 0), (4, .int i22_4), (5, .int (f2 f i22_1))], [.int (i22_1 + 4), .ref m0, .int i22_4, .ref (q 33)], M143)) rfl ?_
                      have hF149 : FK n f I_22 R144 := (hF139.mono (fun _ _ => rfl) (pRx f148 (by decide)))
                      refine ml_call (a := [.ref m0, .int (i22_1 + 4)]) (rest := [.int i22_4, .ref (q 33)]) rfl (hR145.okc rfl rfl rfl) rfl rfl (rm_u2 hR145 hF149 (by omega) (by omega) (by omega)) (fun v150 M151 h152 => ?_)
                      obtain ⟨rfl, h152⟩ := h152
                      rw [h152]
                      show ml _ _ _ (273, [(6, .int i22_4), (0, .ref m0), (1, .int i22_1), (2, .int (f2 f fA)), (3, .int 0), (4, .int i22_4), (5, .int (f2 f i22_1))], [.int (f2 f (i22_1 + 4)), .int i22_4, .ref (q 33)], M143) _
                      refine ra_st (k := 33) rfl hR145 rfl (vin_lt hk0 (by omega)) (fun M153 R154 hR155 e156 g157 f158 => ?_)
                      show ml _ _ _ (274, [(6, .int i22_4), (0, .ref m0), (1, .int i22_1), (2, .int (f2 f fA)), (3, .int 0), (4, .int i22_4), (5, .int (f2 f i22_1))], [], M153) _
                      refine ml_st (S' := (275, [(6, .int i22_4), (0, .ref m0), (1, .int i22_1), (2, .int (f2 f fA)), (3, .int 0), (4, .int i22_4), (5, .int (f2 f i22_1))], [.int 0], M153)) rfl rfl rfl ?_
                      refine ml_st (S' := (277, [(0, .ref m0), (1, .int i22_1), (2, .int (f2 f fA)), (3, .int 0), (4, .int i22_4), (6, .int i22_4), (7, .int 0)], [], M153)) rfl rfl rfl ?_
                      have L_277 : ∀ (n_277 : Nat) (i277_7 : Int32), (2147483648 - i277_7.toInt).toNat ≤ n_277 → 0 ≤ i277_7.toInt → ml (mT g) d (mb_189 g).2 (277, [(0, .ref m0), (1, .int i22_1), (2, .int (f2 f fA)), (3, .int 0), (4, .int i22_4), (6, .int i22_4), (7, .int i277_7)], [], M153) (fun v M' => ∃ (x : Int32) (I' : rI) (R' : rR), v = some (.int x) ∧ RS g m0 q z I' R' M' ∧ eqI [25, 47, 48] I I' ∧ eqR [27, 28, 29, 30, 31, 32, 33] R R' ∧ (x = 0 ∨ x = 1) ∧ (x = 0 ∨ ∃ k : Nat, k ≤ 8192 ∧ I' 25 = some (nI k) ∧ FKN k R')) := by
                        intro n_277
                        induction n_277 with
                        | zero => intro i277_7 hn; exact (loop_zero hn).elim
                        | succ n_277 ih_277 =>
                          intro i277_7 hn_277 hi_277
                          have hq0 := hi_277
                          refine ml_blk 2 (S' := (281, [(0, .ref m0), (1, .int i22_1), (2, .int (f2 f fA)), (3, .int 0), (4, .int i22_4), (6, .int i22_4), (7, .int i277_7)], [.int i22_4, .int i277_7], M153)) rfl ?_
                          refine ml_if2 (S1 := (332, [(0, .ref m0), (1, .int i22_1), (2, .int (f2 f fA)), (3, .int 0), (4, .int i22_4), (6, .int i22_4), (7, .int i277_7)], [], M153)) (S2 := (284, [(0, .ref m0), (1, .int i22_1), (2, .int (f2 f fA)), (3, .int 0), (4, .int i22_4), (6, .int i22_4), (7, .int i277_7)], [], M153)) rfl rfl rfl (fun c_281 => ?_) (fun c_281 => ?_)
                          · have c_281 : i22_4 ≤ i277_7 := of_decide_eq_true c_281
                            refine ml_blk 2 (S' := (334, [(0, .ref m0), (1, .int i22_1), (2, .int (f2 f fA)), (3, .int 0), (4, .int i22_4), (6, .int i22_4), (7, .int i277_7)], [.ref m0, .ref m0], M153)) rfl ?_
                            refine rg_int (S' := (337, [(0, .ref m0), (1, .int i22_1), (2, .int (f2 f fA)), (3, .int 0), (4, .int i22_4), (6, .int i22_4), (7, .int i277_7)], [.int i22_4, .ref m0], M153)) rfl hR155 rfl (h25) rfl ?_
                            refine ml_blk 2 (S' := (339, [(0, .ref m0), (1, .int i22_1), (2, .int (f2 f fA)), (3, .int 0), (4, .int i22_4), (6, .int i22_4), (7, .int i277_7)], [.int (i22_4 + 1), .ref m0], M153)) rfl ?_
                            refine rp_int rfl hR155 rfl (fun M159 I160 hR161 e162 f163 => ?_)
                            show ml _ _ _ (342, [(0, .ref m0), (1, .int i22_1), (2, .int (f2 f fA)), (3, .int 0), (4, .int i22_4), (6, .int i22_4), (7, .int i277_7)], [], M159) _
                            refine ml_blk 3 (S' := (346, [(0, .ref m0), (1, .int i22_1), (2, .int (f2 f fA)), (3, .int 0), (4, .int i22_4), (6, .int i22_4), (7, .int i277_7)], [.int 6, .int i22_1, .ref m0], M159)) rfl ?_
                            refine ml_blk 3 (S' := (350, [(0, .ref m0), (1, .int i22_1), (2, .int (f2 f fA)), (3, .int 0), (4, .int i22_4), (6, .int i22_4), (7, .int i277_7)], [.int i22_4, .int 1, .int (i22_1 + 6), .ref m0], M159)) rfl ?_
                            have hF164 : FK n f I160 R154 := ((hF149.mono (fun _ _ => rfl) (pRx f158 (by decide))).mono (pIx f163 (by decide)) (fun _ _ => rfl))
                            have hY165 : SK S cN sa sl ch I160 R154 := ((((((((hY58.mono (fun _ _ => rfl) (pRx f98 (by decide))).mono (fun _ _ => rfl) (pRx f112 (by decide))).mono (fun _ _ => rfl) (pRx f126 (by decide))).mono (fun _ _ => rfl) (pRx f132 (by decide))).mono (fun _ _ => rfl) (pRx f138 (by decide))).mono (fun _ _ => rfl) (pRx f148 (by decide))).mono (fun _ _ => rfl) (pRx f158 (by decide))).mono (pIx f163 (by decide)) (fun _ _ => rfl))
                            have hP166 : PK n f S cp mj pa py I160 R154 := ((((((hP117.mono (fun _ _ => rfl) (pRx f126 (by decide))).mono (fun _ _ => rfl) (pRx f132 (by decide))).mono (fun _ _ => rfl) (pRx f138 (by decide))).mono (fun _ _ => rfl) (pRx f148 (by decide))).mono (fun _ _ => rfl) (pRx f158 (by decide))).mono (pIx f163 (by decide)) (fun _ _ => rfl))
                            have hK167 : KW I160 R154 := (((((((((hK.mono (cIx hI_22 (by decide)) (cRx hV_22 (by decide))).mono (fun _ _ => rfl) (pRx f98 (by decide))).mono (fun _ _ => rfl) (pRx f112 (by decide))).mono (fun _ _ => rfl) (pRx f126 (by decide))).mono (fun _ _ => rfl) (pRx f132 (by decide))).mono (fun _ _ => rfl) (pRx f138 (by decide))).mono (fun _ _ => rfl) (pRx f148 (by decide))).mono (fun _ _ => rfl) (pRx f158 (by decide))).mono (pIx f163 (by decide)) (fun _ _ => rfl))
                            refine ml_call (a := [.ref m0, .int (i22_1 + 6), .int 1, .int i22_4]) (rest := []) rfl (hR161.okc rfl rfl rfl) rfl rfl (rm_checkAttributes1 hR161 hF164 hY165 hP166 hK167 (rfl) (g2) (hk0) (hk8) ((congrFun ((f158 27 (by decide)).trans ((f148 27 (by decide)).trans ((f138 27 (by decide)).trans ((f132 27 (by decide)).trans ((f126 27 (by decide)).trans ((f112 27 (by decide)))))))) _).trans e96) ((congrFun ((f158 29 (by decide)).trans ((f148 29 (by decide)).trans ((f138 29 (by decide)).trans ((f132 29 (by decide)))))) _).trans e124) (hyB.2.2.1) (hyB.2.2.2) (hlnB) (fun k hk => by simp only [List.mem_cons, List.not_mem_nil, or_false] at hk; rcases hk with rfl | rfl; exact ⟨_, (congrFun ((f158 30 (by decide)).trans ((f148 30 (by decide)).trans ((f138 30 (by decide))))) _).trans e130⟩; exact ⟨_, (congrFun ((f158 31 (by decide)).trans ((f148 31 (by decide)))) _).trans e136⟩) (by omega)) (fun v168 M169 h170 => ?_)
                            obtain ⟨u176, I171, R172, rfl, hR173, hI174, hV175, w177⟩ := h170
                            show ml _ _ _ (353, [(0, .ref m0), (1, .int i22_1), (2, .int (f2 f fA)), (3, .int 0), (4, .int i22_4), (6, .int i22_4), (7, .int i277_7)], [.int u176], M169) _
                            obtain ⟨hend, hpw9, hkn9⟩ := w177
                            refine ml_st (S' := (354, [(1, .int u176), (0, .ref m0), (2, .int (f2 f fA)), (3, .int 0), (4, .int i22_4), (6, .int i22_4), (7, .int i277_7)], [], M169)) rfl rfl rfl ?_
                            refine ml_st (S' := (355, [(1, .int u176), (0, .ref m0), (2, .int (f2 f fA)), (3, .int 0), (4, .int i22_4), (6, .int i22_4), (7, .int i277_7)], [.int u176], M169)) rfl rfl rfl ?_
                            refine ml_if (S1 := (360, [(1, .int u176), (0, .ref m0), (2, .int (f2 f fA)), (3, .int 0), (4, .int i22_4), (6, .int i22_4), (7, .int i277_7)], [], M169)) (S2 := (358, [(1, .int u176), (0, .ref m0), (2, .int (f2 f fA)), (3, .int 0), (4, .int i22_4), (6, .int i22_4), (7, .int i277_7)], [], M169)) rfl rfl rfl (fun c_355 => ?_) (fun c_355 => ?_)
                            · have c_355 : 0 ≤ u176 := of_decide_eq_true c_355
                              have hub : u176 = b1 := hend.resolve_left (fun q => by have := i_le c_355; have : (0 : Int32).toInt = 0 := rfl; omega)
                              have hfk2 : FKN (i22_4.toInt.toNat + 1) R172 := FKN.step (k := i22_4.toInt.toNat) hfk ((((((((pw.rf.st g97 f98 rfl).st g111 f112 rfl).st g125 f126 rfl).st g131 f132 rfl).st g137 f138 rfl).st g147 f148 rfl).st g157 f158 rfl).tr hpw9) (fun k hk => by simp only [List.mem_cons, List.not_mem_nil, or_false] at hk; rcases hk with rfl | rfl | rfl | rfl | rfl | rfl | rfl; exact ⟨_, (congrFun ((hV175 27 (by decide)).trans ((f158 27 (by decide)).trans ((f148 27 (by decide)).trans ((f138 27 (by decide)).trans ((f132 27 (by decide)).trans ((f126 27 (by decide)).trans ((f112 27 (by decide))))))))) _).trans e96⟩; exact ⟨_, (congrFun ((hV175 28 (by decide)).trans ((f158 28 (by decide)).trans ((f148 28 (by decide)).trans ((f138 28 (by decide)).trans ((f132 28 (by decide)).trans ((f126 28 (by decide)))))))) _).trans e110⟩; exact ⟨_, (congrFun ((hV175 29 (by decide)).trans ((f158 29 (by decide)).trans ((f148 29 (by decide)).trans ((f138 29 (by decide)).trans ((f132 29 (by decide))))))) _).trans e124⟩; exact hkn9 30 (by decide); exact hkn9 31 (by decide); exact ⟨_, (congrFun ((hV175 32 (by decide)).trans ((f158 32 (by decide)))) _).trans e146⟩; exact ⟨_, (congrFun ((hV175 33 (by decide))) _).trans e156⟩)
                              refine ml_st (S' := (363, [(4, .int (i22_4 + 1)), (1, .int u176), (0, .ref m0), (2, .int (f2 f fA)), (3, .int 0), (6, .int i22_4), (7, .int i277_7)], [], M169)) rfl rfl rfl ?_
                              refine ml_st (S' := (22, [(0, .ref m0), (1, .int u176), (2, .int (f2 f fA)), (3, .int 0), (4, .int (i22_4 + 1))], [], M169)) rfl rfl rfl ?_
                              exact ih_22 u176 (i22_4 + 1) _ _ _ (loop_inc (Int32.not_le.mp c_25) hn_22) hR173 (((eqI.rf.tr hI_22 (by decide)).put f163 (by decide)).tr hI174 (by decide)) (((((((((eqR.rf.tr hV_22 (by decide)).put f98 (by decide)).put f112 (by decide)).put f126 (by decide)).put f132 (by decide)).put f138 (by decide)).put f148 (by decide)).put f158 (by decide)).tr hV175 (by decide)) (⟨by rw [inc_lt (Int32.not_le.mp c_25)]; omega, by rw [inc_lt (Int32.not_le.mp c_25)]; omega, (hI174 25 (by decide)).trans (e162), by rw [hub]; exact hnx, by rw [hub, inc_lt (Int32.not_le.mp c_25)]; have q := hg.1; omega, by rw [show (i22_4 + 1).toInt.toNat = i22_4.toInt.toNat + 1 by rw [inc_lt (Int32.not_le.mp c_25)]; omega]; exact hfk2⟩)
                            · have c_355 : ¬ (0 ≤ u176) := of_decide_eq_false c_355
                              refine ml_st (S' := (359, [(1, .int u176), (0, .ref m0), (2, .int (f2 f fA)), (3, .int 0), (4, .int i22_4), (6, .int i22_4), (7, .int i277_7)], [.int 0], M169)) rfl rfl rfl ?_
                              exact ml_ret rfl (r_z (Or.inl rfl)) (⟨_, _, _, rfl, hR173, (((eqI.rf.tr hI_22 (by decide)).put f163 (by decide)).tr hI174 (by decide)), (((((((((eqR.rf.tr hV_22 (by decide)).put f98 (by decide)).put f112 (by decide)).put f126 (by decide)).put f132 (by decide)).put f138 (by decide)).put f148 (by decide)).put f158 (by decide)).tr hV175 (by decide)), Or.inl rfl, Or.inl rfl⟩)
                          · have c_281 : ¬ (i22_4 ≤ i277_7) := of_decide_eq_false c_281
                            have hql := i_nle c_281
                            refine ml_st (S' := (285, [(0, .ref m0), (1, .int i22_1), (2, .int (f2 f fA)), (3, .int 0), (4, .int i22_4), (6, .int i22_4), (7, .int i277_7)], [.ref m0], M153)) rfl rfl rfl ?_
                            refine rg_ref (S' := (288, [(0, .ref m0), (1, .int i22_1), (2, .int (f2 f fA)), (3, .int 0), (4, .int i22_4), (6, .int i22_4), (7, .int i277_7)], [.ref (q 28)], M153)) rfl hR155 rfl rfl ?_
                            refine ml_st (S' := (290, [(0, .ref m0), (1, .int i22_1), (2, .int (f2 f fA)), (3, .int 0), (4, .int i22_4), (6, .int i22_4), (7, .int i277_7)], [.int i277_7, .ref (q 28)], M153)) rfl rfl rfl ?_
                            obtain ⟨v178, hv179⟩ := hfk i277_7.toNatClampNeg (by show i277_7.toInt.toNat < i22_4.toInt.toNat; omega) 28 (by decide)
                            have q180 : pw i22_4.toNatClampNeg R_22 R154 := (((((((pw.rf.st g97 f98 rfl).st g111 f112 rfl).st g125 f126 rfl).st g131 f132 rfl).st g137 f138 rfl).st g147 f148 rfl).st g157 f158 rfl)
                            refine ra_ld (k := 28) (S' := (291, [(0, .ref m0), (1, .int i22_1), (2, .int (f2 f fA)), (3, .int 0), (4, .int i22_4), (6, .int i22_4), (7, .int i277_7)], [.int v178], M153)) rfl hR155 rfl (vin_lt hq0 (by omega)) ((q180 28 _ (by show i277_7.toInt.toNat ≠ i22_4.toInt.toNat; omega)).trans hv179) rfl ?_
                            refine ml_st (S' := (292, [(0, .ref m0), (1, .int i22_1), (2, .int (f2 f fA)), (3, .int 0), (4, .int i22_4), (6, .int i22_4), (7, .int i277_7)], [.ref m0, .int v178], M153)) rfl rfl rfl ?_
                            refine rg_ref (S' := (295, [(0, .ref m0), (1, .int i22_1), (2, .int (f2 f fA)), (3, .int 0), (4, .int i22_4), (6, .int i22_4), (7, .int i277_7)], [.ref (q 28), .int v178], M153)) rfl hR155 rfl rfl ?_
                            refine ml_st (S' := (297, [(0, .ref m0), (1, .int i22_1), (2, .int (f2 f fA)), (3, .int 0), (4, .int i22_4), (6, .int i22_4), (7, .int i277_7)], [.int i22_4, .ref (q 28), .int v178], M153)) rfl rfl rfl ?_
                            refine ra_ld (k := 28) (S' := (298, [(0, .ref m0), (1, .int i22_1), (2, .int (f2 f fA)), (3, .int 0), (4, .int i22_4), (6, .int i22_4), (7, .int i277_7)], [.int (pyf py (f2 f (i22_1 + 2))), .int v178], M153)) rfl hR155 rfl (vin_lt hk0 (by omega)) ((congrFun ((f158 28 (by decide)).trans ((f148 28 (by decide)).trans ((f138 28 (by decide)).trans ((f132 28 (by decide)).trans ((f126 28 (by decide))))))) _).trans e110) rfl ?_
                            refine ml_if2 (S1 := (326, [(0, .ref m0), (1, .int i22_1), (2, .int (f2 f fA)), (3, .int 0), (4, .int i22_4), (6, .int i22_4), (7, .int i277_7)], [], M153)) (S2 := (301, [(0, .ref m0), (1, .int i22_1), (2, .int (f2 f fA)), (3, .int 0), (4, .int i22_4), (6, .int i22_4), (7, .int i277_7)], [], M153)) rfl rfl rfl (fun c_298 => ?_) (fun c_298 => ?_)
                            · have c_298 : ¬ v178 = (pyf py (f2 f (i22_1 + 2))) := of_decide_eq_true c_298
                              refine ml_st (S' := (329, [(7, .int (i277_7 + 1)), (0, .ref m0), (1, .int i22_1), (2, .int (f2 f fA)), (3, .int 0), (4, .int i22_4), (6, .int i22_4)], [], M153)) rfl rfl rfl ?_
                              refine ml_st (S' := (277, [(0, .ref m0), (1, .int i22_1), (2, .int (f2 f fA)), (3, .int 0), (4, .int i22_4), (6, .int i22_4), (7, .int (i277_7 + 1))], [], M153)) rfl rfl rfl ?_
                              exact ih_277 (i277_7 + 1) (loop_inc (Int32.not_le.mp c_281) hn_277) (by rw [inc_lt (Int32.not_le.mp c_281)]; omega)
                            · have c_298 : ¬ (¬ v178 = (pyf py (f2 f (i22_1 + 2)))) := of_decide_eq_false c_298
                              refine ml_st (S' := (302, [(0, .ref m0), (1, .int i22_1), (2, .int (f2 f fA)), (3, .int 0), (4, .int i22_4), (6, .int i22_4), (7, .int i277_7)], [.ref m0], M153)) rfl rfl rfl ?_
                              refine rg_ref (S' := (305, [(0, .ref m0), (1, .int i22_1), (2, .int (f2 f fA)), (3, .int 0), (4, .int i22_4), (6, .int i22_4), (7, .int i277_7)], [.ref (q 29)], M153)) rfl hR155 rfl rfl ?_
                              refine ml_st (S' := (307, [(0, .ref m0), (1, .int i22_1), (2, .int (f2 f fA)), (3, .int 0), (4, .int i22_4), (6, .int i22_4), (7, .int i277_7)], [.int i277_7, .ref (q 29)], M153)) rfl rfl rfl ?_
                              obtain ⟨v181, hv182⟩ := hfk i277_7.toNatClampNeg (by show i277_7.toInt.toNat < i22_4.toInt.toNat; omega) 29 (by decide)
                              have q183 : pw i22_4.toNatClampNeg R_22 R154 := (((((((pw.rf.st g97 f98 rfl).st g111 f112 rfl).st g125 f126 rfl).st g131 f132 rfl).st g137 f138 rfl).st g147 f148 rfl).st g157 f158 rfl)
                              refine ra_ld (k := 29) (S' := (308, [(0, .ref m0), (1, .int i22_1), (2, .int (f2 f fA)), (3, .int 0), (4, .int i22_4), (6, .int i22_4), (7, .int i277_7)], [.int v181], M153)) rfl hR155 rfl (vin_lt hq0 (by omega)) ((q183 29 _ (by show i277_7.toInt.toNat ≠ i22_4.toInt.toNat; omega)).trans hv182) rfl ?_
                              refine ml_st (S' := (309, [(0, .ref m0), (1, .int i22_1), (2, .int (f2 f fA)), (3, .int 0), (4, .int i22_4), (6, .int i22_4), (7, .int i277_7)], [.ref m0, .int v181], M153)) rfl rfl rfl ?_
                              refine rg_ref (S' := (312, [(0, .ref m0), (1, .int i22_1), (2, .int (f2 f fA)), (3, .int 0), (4, .int i22_4), (6, .int i22_4), (7, .int i277_7)], [.ref (q 29), .int v181], M153)) rfl hR155 rfl rfl ?_
                              refine ml_st (S' := (314, [(0, .ref m0), (1, .int i22_1), (2, .int (f2 f fA)), (3, .int 0), (4, .int i22_4), (6, .int i22_4), (7, .int i277_7)], [.int i22_4, .ref (q 29), .int v181], M153)) rfl rfl rfl ?_
                              refine ra_ld (k := 29) (S' := (315, [(0, .ref m0), (1, .int i22_1), (2, .int (f2 f fA)), (3, .int 0), (4, .int i22_4), (6, .int i22_4), (7, .int i277_7)], [.int (pyf py (f2 f (i22_1 + 4))), .int v181], M153)) rfl hR155 rfl (vin_lt hk0 (by omega)) ((congrFun ((f158 29 (by decide)).trans ((f148 29 (by decide)).trans ((f138 29 (by decide)).trans ((f132 29 (by decide)))))) _).trans e124) rfl ?_
                              refine ml_if2 (S1 := (326, [(0, .ref m0), (1, .int i22_1), (2, .int (f2 f fA)), (3, .int 0), (4, .int i22_4), (6, .int i22_4), (7, .int i277_7)], [], M153)) (S2 := (318, [(0, .ref m0), (1, .int i22_1), (2, .int (f2 f fA)), (3, .int 0), (4, .int i22_4), (6, .int i22_4), (7, .int i277_7)], [], M153)) rfl rfl rfl (fun c_315 => ?_) (fun c_315 => ?_)
                              · have c_315 : ¬ v181 = (pyf py (f2 f (i22_1 + 4))) := of_decide_eq_true c_315
                                refine ml_st (S' := (329, [(7, .int (i277_7 + 1)), (0, .ref m0), (1, .int i22_1), (2, .int (f2 f fA)), (3, .int 0), (4, .int i22_4), (6, .int i22_4)], [], M153)) rfl rfl rfl ?_
                                refine ml_st (S' := (277, [(0, .ref m0), (1, .int i22_1), (2, .int (f2 f fA)), (3, .int 0), (4, .int i22_4), (6, .int i22_4), (7, .int (i277_7 + 1))], [], M153)) rfl rfl rfl ?_
                                exact ih_277 (i277_7 + 1) (loop_inc (Int32.not_le.mp c_281) hn_277) (by rw [inc_lt (Int32.not_le.mp c_281)]; omega)
                              · have c_315 : ¬ (¬ v181 = (pyf py (f2 f (i22_1 + 4)))) := of_decide_eq_false c_315
                                refine ml_blk 3 (S' := (322, [(0, .ref m0), (1, .int i22_1), (2, .int (f2 f fA)), (3, .int 0), (4, .int i22_4), (6, .int i22_4), (7, .int i277_7)], [.int i22_1, .int 22, .ref m0], M153)) rfl ?_
                                refine ml_call (a := [.ref m0, .int 22, .int i22_1]) (rest := []) rfl (hR155.okc rfl rfl rfl) rfl rfl (rm_wrong hR155 (by omega)) (fun v184 M185 h186 => ?_)
                                obtain ⟨u192, I187, R188, rfl, hR189, hI190, hV191, z193, w194⟩ := h186
                                show ml _ _ _ (325, [(0, .ref m0), (1, .int i22_1), (2, .int (f2 f fA)), (3, .int 0), (4, .int i22_4), (6, .int i22_4), (7, .int i277_7)], [.int u192], M185) _
                                exact ml_ret rfl (r_z (z193)) (⟨_, _, _, rfl, hR189, ((eqI.rf.tr hI_22 (by decide)).tr hI190 (by decide)), (((((((((eqR.rf.tr hV_22 (by decide)).put f98 (by decide)).put f112 (by decide)).put f126 (by decide)).put f132 (by decide)).put f138 (by decide)).put f148 (by decide)).put f158 (by decide)).tr hV191 (by decide)), z193, Or.inl w194⟩)
                      exact L_277 _ 0 (Nat.le_refl _) (by decide)
                    · have c_166 : ¬ (¬ u90 = 0) := of_decide_eq_false c_166
                      refine ml_blk 3 (S' := (173, [(0, .ref m0), (1, .int i22_1)], [.int i22_1, .int 21, .ref m0], M_22)) rfl ?_
                      refine ml_blk 2 (S' := (175, [(0, .ref m0), (1, .int i22_1)], [.int (i22_1 + 4), .int 21, .ref m0], M_22)) rfl ?_
                      refine ml_call (a := [.ref m0, .int 21, .int (i22_1 + 4)]) (rest := []) rfl (hR_22.okc rfl rfl rfl) rfl rfl (rm_wrong hR_22 (by omega)) (fun v195 M196 h197 => ?_)
                      obtain ⟨u203, I198, R199, rfl, hR200, hI201, hV202, z204, w205⟩ := h197
                      show ml _ _ _ (178, [(0, .ref m0), (1, .int i22_1)], [.int u203], M196) _
                      exact ml_ret rfl (r_z (z204)) (⟨_, _, _, rfl, hR200, ((eqI.rf.tr hI_22 (by decide)).tr hI201 (by decide)), ((eqR.rf.tr hV_22 (by decide)).tr hV202 (by decide)), z204, Or.inl w205⟩)
                · have c_123 : ¬ (¬ u62 = 0) := of_decide_eq_false c_123
                  refine ml_blk 3 (S' := (130, [(0, .ref m0), (1, .int i22_1)], [.int i22_1, .int 20, .ref m0], M_22)) rfl ?_
                  refine ml_blk 2 (S' := (132, [(0, .ref m0), (1, .int i22_1)], [.int (i22_1 + 2), .int 20, .ref m0], M_22)) rfl ?_
                  refine ml_call (a := [.ref m0, .int 20, .int (i22_1 + 2)]) (rest := []) rfl (hR_22.okc rfl rfl rfl) rfl rfl (rm_wrong hR_22 (by omega)) (fun v206 M207 h208 => ?_)
                  obtain ⟨u214, I209, R210, rfl, hR211, hI212, hV213, z215, w216⟩ := h208
                  show ml _ _ _ (135, [(0, .ref m0), (1, .int i22_1)], [.int u214], M207) _
                  exact ml_ret rfl (r_z (z215)) (⟨_, _, _, rfl, hR211, ((eqI.rf.tr hI_22 (by decide)).tr hI212 (by decide)), ((eqR.rf.tr hV_22 (by decide)).tr hV213 (by decide)), z215, Or.inl w216⟩)
            refine ml_if (S1 := (92, [(0, .ref m0), (1, .int i22_1), (2, .int (f2 f fA)), (3, .int 0), (4, .int i22_4), (5, .int (f2 f i22_1))], [], M_22)) (S2 := (73, [(0, .ref m0), (1, .int i22_1), (2, .int (f2 f fA)), (3, .int 0), (4, .int i22_4), (5, .int (f2 f i22_1))], [], M_22)) rfl rfl rfl (fun c_70 => ?_) (fun c_70 => ?_)
            · have c_70 : (nf &&& 512) = 0 := of_decide_eq_true c_70
              exact J_92 
            · have c_70 : ¬ ((nf &&& 512) = 0) := of_decide_eq_false c_70
              refine ml_blk 3 (S' := (79, [(0, .ref m0), (1, .int i22_1), (2, .int (f2 f fA)), (3, .int 0), (4, .int i22_4), (5, .int (f2 f i22_1))], [.int ((f2 f i22_1) &&& 16607)], M_22)) rfl ?_
              refine ml_st (S' := (81, [(0, .ref m0), (1, .int i22_1), (2, .int (f2 f fA)), (3, .int 0), (4, .int i22_4), (5, .int (f2 f i22_1))], [.int 25, .int ((f2 f i22_1) &&& 16607)], M_22)) rfl rfl rfl ?_
              refine ml_if2 (S1 := (92, [(0, .ref m0), (1, .int i22_1), (2, .int (f2 f fA)), (3, .int 0), (4, .int i22_4), (5, .int (f2 f i22_1))], [], M_22)) (S2 := (84, [(0, .ref m0), (1, .int i22_1)], [], M_22)) rfl rfl rfl (fun c_81 => ?_) (fun c_81 => ?_)
              · have c_81 : ((f2 f i22_1) &&& 16607) = 25 := of_decide_eq_true c_81
                exact J_92 
              · have c_81 : ¬ (((f2 f i22_1) &&& 16607) = 25) := of_decide_eq_false c_81
                refine ml_blk 3 (S' := (88, [(0, .ref m0), (1, .int i22_1)], [.int i22_1, .int 19, .ref m0], M_22)) rfl ?_
                refine ml_call (a := [.ref m0, .int 19, .int i22_1]) (rest := []) rfl (hR_22.okc rfl rfl rfl) rfl rfl (rm_wrong hR_22 (by omega)) (fun v217 M218 h219 => ?_)
                obtain ⟨u225, I220, R221, rfl, hR222, hI223, hV224, z226, w227⟩ := h219
                show ml _ _ _ (91, [(0, .ref m0), (1, .int i22_1)], [.int u225], M218) _
                exact ml_ret rfl (r_z (z226)) (⟨_, _, _, rfl, hR222, ((eqI.rf.tr hI_22 (by decide)).tr hI223 (by decide)), ((eqR.rf.tr hV_22 (by decide)).tr hV224 (by decide)), z226, Or.inl w227⟩)
          · have c_51 : ¬ (((f2 f i22_1) &&& 16) = 0) := of_decide_eq_false c_51
            refine ml_blk 3 (S' := (59, [(5, .int (f2 f i22_1)), (0, .ref m0), (1, .int i22_1), (2, .int (f2 f fA)), (3, .int 0), (4, .int i22_4)], [.int ((f2 f i22_1) &&& 64)], M_22)) rfl ?_
            refine ml_if (S1 := (84, [(0, .ref m0), (1, .int i22_1)], [], M_22)) (S2 := (62, [(0, .ref m0), (1, .int i22_1), (2, .int (f2 f fA)), (3, .int 0), (4, .int i22_4), (5, .int (f2 f i22_1))], [], M_22)) rfl rfl rfl (fun c_59 => ?_) (fun c_59 => ?_)
            · have c_59 : ¬ ((f2 f i22_1) &&& 64) = 0 := of_decide_eq_true c_59
              refine ml_blk 3 (S' := (88, [(0, .ref m0), (1, .int i22_1)], [.int i22_1, .int 19, .ref m0], M_22)) rfl ?_
              refine ml_call (a := [.ref m0, .int 19, .int i22_1]) (rest := []) rfl (hR_22.okc rfl rfl rfl) rfl rfl (rm_wrong hR_22 (by omega)) (fun v228 M229 h230 => ?_)
              obtain ⟨u236, I231, R232, rfl, hR233, hI234, hV235, z237, w238⟩ := h230
              show ml _ _ _ (91, [(0, .ref m0), (1, .int i22_1)], [.int u236], M229) _
              exact ml_ret rfl (r_z (z237)) (⟨_, _, _, rfl, hR233, ((eqI.rf.tr hI_22 (by decide)).tr hI234 (by decide)), ((eqR.rf.tr hV_22 (by decide)).tr hV235 (by decide)), z237, Or.inl w238⟩)
            · have c_59 : ¬ (¬ ((f2 f i22_1) &&& 64) = 0) := of_decide_eq_false c_59
              refine ml_st (S' := (63, [(0, .ref m0), (1, .int i22_1), (2, .int (f2 f fA)), (3, .int 0), (4, .int i22_4), (5, .int (f2 f i22_1))], [.ref m0], M_22)) rfl rfl rfl ?_
              refine rg_int (S' := (66, [(0, .ref m0), (1, .int i22_1), (2, .int (f2 f fA)), (3, .int 0), (4, .int i22_4), (5, .int (f2 f i22_1))], [.int nf], M_22)) rfl hR_22 rfl ((hI_22 58 (by decide)).trans (hk58)) rfl ?_
              refine ml_blk 2 (S' := (70, [(0, .ref m0), (1, .int i22_1), (2, .int (f2 f fA)), (3, .int 0), (4, .int i22_4), (5, .int (f2 f i22_1))], [.int (nf &&& 512)], M_22)) rfl ?_
              have J_92 : ml (mT g) d (mb_189 g).2 (92, [(0, .ref m0), (1, .int i22_1), (2, .int (f2 f fA)), (3, .int 0), (4, .int i22_4), (5, .int (f2 f i22_1))], [], M_22) (fun v M' => ∃ (x : Int32) (I' : rI) (R' : rR), v = some (.int x) ∧ RS g m0 q z I' R' M' ∧ eqI [25, 47, 48] I I' ∧ eqR [27, 28, 29, 30, 31, 32, 33] R R' ∧ (x = 0 ∨ x = 1) ∧ (x = 0 ∨ ∃ k : Nat, k ≤ 8192 ∧ I' 25 = some (nI k) ∧ FKN k R')) := by
                refine ml_blk 3 (S' := (95, [(0, .ref m0), (1, .int i22_1), (2, .int (f2 f fA)), (3, .int 0), (4, .int i22_4), (5, .int (f2 f i22_1))], [.int i22_1, .ref m0, .ref m0], M_22)) rfl ?_
                refine ml_blk 2 (S' := (97, [(0, .ref m0), (1, .int i22_1), (2, .int (f2 f fA)), (3, .int 0), (4, .int i22_4), (5, .int (f2 f i22_1))], [.int (i22_1 + 2), .ref m0, .ref m0], M_22)) rfl ?_
                refine ml_call (a := [.ref m0, .int (i22_1 + 2)]) (rest := [.ref m0]) rfl (hR_22.okc rfl rfl rfl) rfl rfl (rm_u2 hR_22 hF14 (by omega) (by omega) (by omega)) (fun v239 M240 h241 => ?_)
                obtain ⟨rfl, h241⟩ := h241
                rw [h241]
                show ml _ _ _ (100, [(0, .ref m0), (1, .int i22_1), (2, .int (f2 f fA)), (3, .int 0), (4, .int i22_4), (5, .int (f2 f i22_1))], [.int (f2 f (i22_1 + 2)), .ref m0], M_22) _
                have hP242 : PK n f S cp mj pa py I_22 R_22 := (hP.mono (cIx hI_22 (by decide)) (cRx hV_22 (by decide)))
                refine ml_call (a := [.ref m0, .int (f2 f (i22_1 + 2))]) (rest := []) rfl (hR_22.okc rfl rfl rfl) rfl rfl (rm_tag hR_22 hF14 hP242 (by omega)) (fun v243 M244 h245 => ?_)
                obtain ⟨rfl, h245⟩ := h245
                rw [h245]
                show ml _ _ _ (103, [(0, .ref m0), (1, .int i22_1), (2, .int (f2 f fA)), (3, .int 0), (4, .int i22_4), (5, .int (f2 f i22_1))], [.int (tgf f cp pa (f2 f (i22_1 + 2)))], M_22) _
                refine ml_st (S' := (104, [(0, .ref m0), (1, .int i22_1), (2, .int (f2 f fA)), (3, .int 0), (4, .int i22_4), (5, .int (f2 f i22_1))], [.int 1, .int (tgf f cp pa (f2 f (i22_1 + 2)))], M_22)) rfl rfl rfl ?_
                refine ml_if2 (S1 := (126, [(0, .ref m0), (1, .int i22_1)], [], M_22)) (S2 := (107, [(0, .ref m0), (1, .int i22_1), (2, .int (f2 f fA)), (3, .int 0), (4, .int i22_4), (5, .int (f2 f i22_1))], [], M_22)) rfl rfl rfl (fun c_104 => ?_) (fun c_104 => ?_)
                · have c_104 : ¬ (tgf f cp pa (f2 f (i22_1 + 2))) = 1 := of_decide_eq_true c_104
                  refine ml_blk 3 (S' := (130, [(0, .ref m0), (1, .int i22_1)], [.int i22_1, .int 20, .ref m0], M_22)) rfl ?_
                  refine ml_blk 2 (S' := (132, [(0, .ref m0), (1, .int i22_1)], [.int (i22_1 + 2), .int 20, .ref m0], M_22)) rfl ?_
                  refine ml_call (a := [.ref m0, .int 20, .int (i22_1 + 2)]) (rest := []) rfl (hR_22.okc rfl rfl rfl) rfl rfl (rm_wrong hR_22 (by omega)) (fun v246 M247 h248 => ?_)
                  obtain ⟨u254, I249, R250, rfl, hR251, hI252, hV253, z255, w256⟩ := h248
                  show ml _ _ _ (135, [(0, .ref m0), (1, .int i22_1)], [.int u254], M247) _
                  exact ml_ret rfl (r_z (z255)) (⟨_, _, _, rfl, hR251, ((eqI.rf.tr hI_22 (by decide)).tr hI252 (by decide)), ((eqR.rf.tr hV_22 (by decide)).tr hV253 (by decide)), z255, Or.inl w256⟩)
                · have c_104 : ¬ (¬ (tgf f cp pa (f2 f (i22_1 + 2))) = 1) := of_decide_eq_false c_104
                  have hyA := hP.y (show tgf f cp pa (f2 f (i22_1 + 2)) = 1 from Decidable.not_not.mp c_104)
                  refine ml_blk 3 (S' := (110, [(0, .ref m0), (1, .int i22_1), (2, .int (f2 f fA)), (3, .int 0), (4, .int i22_4), (5, .int (f2 f i22_1))], [.ref m0, .ref m0, .ref m0], M_22)) rfl ?_
                  refine ml_blk 3 (S' := (113, [(0, .ref m0), (1, .int i22_1), (2, .int (f2 f fA)), (3, .int 0), (4, .int i22_4), (5, .int (f2 f i22_1))], [.int (i22_1 + 2), .ref m0, .ref m0, .ref m0], M_22)) rfl ?_
                  refine ml_call (a := [.ref m0, .int (i22_1 + 2)]) (rest := [.ref m0, .ref m0]) rfl (hR_22.okc rfl rfl rfl) rfl rfl (rm_u2 hR_22 hF14 (by omega) (by omega) (by omega)) (fun v257 M258 h259 => ?_)
                  obtain ⟨rfl, h259⟩ := h259
                  rw [h259]
                  show ml _ _ _ (116, [(0, .ref m0), (1, .int i22_1), (2, .int (f2 f fA)), (3, .int 0), (4, .int i22_4), (5, .int (f2 f i22_1))], [.int (f2 f (i22_1 + 2)), .ref m0, .ref m0], M_22) _
                  refine ml_call (a := [.ref m0, .int (f2 f (i22_1 + 2))]) (rest := [.ref m0]) rfl (hR_22.okc rfl rfl rfl) rfl rfl (rm_symOf hR_22 hP242 (Decidable.not_not.mp c_104) (by omega)) (fun v260 M261 h262 => ?_)
                  obtain ⟨rfl, h262⟩ := h262
                  rw [h262]
                  show ml _ _ _ (119, [(0, .ref m0), (1, .int i22_1), (2, .int (f2 f fA)), (3, .int 0), (4, .int i22_4), (5, .int (f2 f i22_1))], [.int (pyf py (f2 f (i22_1 + 2))), .ref m0], M_22) _
                  refine ml_st (S' := (120, [(0, .ref m0), (1, .int i22_1), (2, .int (f2 f fA)), (3, .int 0), (4, .int i22_4), (5, .int (f2 f i22_1))], [.int 1, .int (pyf py (f2 f (i22_1 + 2))), .ref m0], M_22)) rfl rfl rfl ?_
                  have hY263 : SK S cN sa sl ch I_22 R_22 := (hY.mono (cIx hI_22 (by decide)) (cRx hV_22 (by decide)))
                  refine ml_call (a := [.ref m0, .int (pyf py (f2 f (i22_1 + 2))), .int 1]) (rest := []) rfl (hR_22.okc rfl rfl rfl) rfl rfl (rm_unqualified hR_22 hY263 (hyA.2.2.1) (hyA.2.2.2) (by omega)) (fun v264 M265 h266 => ?_)
                  obtain ⟨⟨u267, rfl, z268⟩, h266⟩ := h266
                  rw [h266]
                  show ml _ _ _ (123, [(0, .ref m0), (1, .int i22_1), (2, .int (f2 f fA)), (3, .int 0), (4, .int i22_4), (5, .int (f2 f i22_1))], [.int u267], M_22) _
                  refine ml_if (S1 := (136, [(0, .ref m0), (1, .int i22_1), (2, .int (f2 f fA)), (3, .int 0), (4, .int i22_4), (5, .int (f2 f i22_1))], [], M_22)) (S2 := (126, [(0, .ref m0), (1, .int i22_1)], [], M_22)) rfl rfl rfl (fun c_123 => ?_) (fun c_123 => ?_)
                  · have c_123 : ¬ u267 = 0 := of_decide_eq_true c_123
                    refine ml_blk 3 (S' := (139, [(0, .ref m0), (1, .int i22_1), (2, .int (f2 f fA)), (3, .int 0), (4, .int i22_4), (5, .int (f2 f i22_1))], [.int i22_1, .ref m0, .ref m0], M_22)) rfl ?_
                    refine ml_blk 2 (S' := (141, [(0, .ref m0), (1, .int i22_1), (2, .int (f2 f fA)), (3, .int 0), (4, .int i22_4), (5, .int (f2 f i22_1))], [.int (i22_1 + 4), .ref m0, .ref m0], M_22)) rfl ?_
                    refine ml_call (a := [.ref m0, .int (i22_1 + 4)]) (rest := [.ref m0]) rfl (hR_22.okc rfl rfl rfl) rfl rfl (rm_u2 hR_22 hF14 (by omega) (by omega) (by omega)) (fun v269 M270 h271 => ?_)
                    obtain ⟨rfl, h271⟩ := h271
                    rw [h271]
                    show ml _ _ _ (144, [(0, .ref m0), (1, .int i22_1), (2, .int (f2 f fA)), (3, .int 0), (4, .int i22_4), (5, .int (f2 f i22_1))], [.int (f2 f (i22_1 + 4)), .ref m0], M_22) _
                    refine ml_call (a := [.ref m0, .int (f2 f (i22_1 + 4))]) (rest := []) rfl (hR_22.okc rfl rfl rfl) rfl rfl (rm_tag hR_22 hF14 hP242 (by omega)) (fun v272 M273 h274 => ?_)
                    obtain ⟨rfl, h274⟩ := h274
                    rw [h274]
                    show ml _ _ _ (147, [(0, .ref m0), (1, .int i22_1), (2, .int (f2 f fA)), (3, .int 0), (4, .int i22_4), (5, .int (f2 f i22_1))], [.int (tgf f cp pa (f2 f (i22_1 + 4)))], M_22) _
                    refine ml_st (S' := (148, [(0, .ref m0), (1, .int i22_1), (2, .int (f2 f fA)), (3, .int 0), (4, .int i22_4), (5, .int (f2 f i22_1))], [.int 1, .int (tgf f cp pa (f2 f (i22_1 + 4)))], M_22)) rfl rfl rfl ?_
                    refine ml_if2 (S1 := (169, [(0, .ref m0), (1, .int i22_1)], [], M_22)) (S2 := (151, [(0, .ref m0), (1, .int i22_1), (2, .int (f2 f fA)), (3, .int 0), (4, .int i22_4), (5, .int (f2 f i22_1))], [], M_22)) rfl rfl rfl (fun c_148 => ?_) (fun c_148 => ?_)
                    · have c_148 : ¬ (tgf f cp pa (f2 f (i22_1 + 4))) = 1 := of_decide_eq_true c_148
                      refine ml_blk 3 (S' := (173, [(0, .ref m0), (1, .int i22_1)], [.int i22_1, .int 21, .ref m0], M_22)) rfl ?_
                      refine ml_blk 2 (S' := (175, [(0, .ref m0), (1, .int i22_1)], [.int (i22_1 + 4), .int 21, .ref m0], M_22)) rfl ?_
                      refine ml_call (a := [.ref m0, .int 21, .int (i22_1 + 4)]) (rest := []) rfl (hR_22.okc rfl rfl rfl) rfl rfl (rm_wrong hR_22 (by omega)) (fun v275 M276 h277 => ?_)
                      obtain ⟨u283, I278, R279, rfl, hR280, hI281, hV282, z284, w285⟩ := h277
                      show ml _ _ _ (178, [(0, .ref m0), (1, .int i22_1)], [.int u283], M276) _
                      exact ml_ret rfl (r_z (z284)) (⟨_, _, _, rfl, hR280, ((eqI.rf.tr hI_22 (by decide)).tr hI281 (by decide)), ((eqR.rf.tr hV_22 (by decide)).tr hV282 (by decide)), z284, Or.inl w285⟩)
                    · have c_148 : ¬ (¬ (tgf f cp pa (f2 f (i22_1 + 4))) = 1) := of_decide_eq_false c_148
                      have hyB := hP.y (show tgf f cp pa (f2 f (i22_1 + 4)) = 1 from Decidable.not_not.mp c_148)
                      refine ml_blk 3 (S' := (154, [(0, .ref m0), (1, .int i22_1), (2, .int (f2 f fA)), (3, .int 0), (4, .int i22_4), (5, .int (f2 f i22_1))], [.ref m0, .ref m0, .ref m0], M_22)) rfl ?_
                      refine ml_blk 3 (S' := (157, [(0, .ref m0), (1, .int i22_1), (2, .int (f2 f fA)), (3, .int 0), (4, .int i22_4), (5, .int (f2 f i22_1))], [.int (i22_1 + 4), .ref m0, .ref m0, .ref m0], M_22)) rfl ?_
                      refine ml_call (a := [.ref m0, .int (i22_1 + 4)]) (rest := [.ref m0, .ref m0]) rfl (hR_22.okc rfl rfl rfl) rfl rfl (rm_u2 hR_22 hF14 (by omega) (by omega) (by omega)) (fun v286 M287 h288 => ?_)
                      obtain ⟨rfl, h288⟩ := h288
                      rw [h288]
                      show ml _ _ _ (160, [(0, .ref m0), (1, .int i22_1), (2, .int (f2 f fA)), (3, .int 0), (4, .int i22_4), (5, .int (f2 f i22_1))], [.int (f2 f (i22_1 + 4)), .ref m0, .ref m0], M_22) _
                      refine ml_call (a := [.ref m0, .int (f2 f (i22_1 + 4))]) (rest := [.ref m0]) rfl (hR_22.okc rfl rfl rfl) rfl rfl (rm_symOf hR_22 hP242 (Decidable.not_not.mp c_148) (by omega)) (fun v289 M290 h291 => ?_)
                      obtain ⟨rfl, h291⟩ := h291
                      rw [h291]
                      show ml _ _ _ (163, [(0, .ref m0), (1, .int i22_1), (2, .int (f2 f fA)), (3, .int 0), (4, .int i22_4), (5, .int (f2 f i22_1))], [.int (pyf py (f2 f (i22_1 + 4))), .ref m0], M_22) _
                      refine ml_call (a := [.ref m0, .int (pyf py (f2 f (i22_1 + 4)))]) (rest := []) rfl (hR_22.okc rfl rfl rfl) rfl rfl (rm_isField hR_22 hY263 (hyB.2.2.1) (hyB.2.2.2) (by omega)) (fun v292 M293 h294 => ?_)
                      obtain ⟨⟨u295, rfl, z296, w297⟩, h294⟩ := h294
                      rw [h294]
                      show ml _ _ _ (166, [(0, .ref m0), (1, .int i22_1), (2, .int (f2 f fA)), (3, .int 0), (4, .int i22_4), (5, .int (f2 f i22_1))], [.int u295], M_22) _
                      refine ml_if (S1 := (179, [(0, .ref m0), (1, .int i22_1), (2, .int (f2 f fA)), (3, .int 0), (4, .int i22_4), (5, .int (f2 f i22_1))], [], M_22)) (S2 := (169, [(0, .ref m0), (1, .int i22_1)], [], M_22)) rfl rfl rfl (fun c_166 => ?_) (fun c_166 => ?_)
                      · have c_166 : ¬ u295 = 0 := of_decide_eq_true c_166
                        have hlnB := w297.resolve_left c_166
                        refine ml_st (S' := (180, [(0, .ref m0), (1, .int i22_1), (2, .int (f2 f fA)), (3, .int 0), (4, .int i22_4), (5, .int (f2 f i22_1))], [.ref m0], M_22)) rfl rfl rfl ?_
                        refine rg_int (S' := (183, [(0, .ref m0), (1, .int i22_1), (2, .int (f2 f fA)), (3, .int 0), (4, .int i22_4), (5, .int (f2 f i22_1))], [.int i22_4], M_22)) rfl hR_22 rfl (h25) rfl ?_
                        refine ml_st (S' := (185, [(6, .int i22_4), (0, .ref m0), (1, .int i22_1), (2, .int (f2 f fA)), (3, .int 0), (4, .int i22_4), (5, .int (f2 f i22_1))], [], M_22)) rfl rfl rfl ?_
                        refine ml_st (S' := (186, [(6, .int i22_4), (0, .ref m0), (1, .int i22_1), (2, .int (f2 f fA)), (3, .int 0), (4, .int i22_4), (5, .int (f2 f i22_1))], [.ref m0], M_22)) rfl rfl rfl ?_
                        refine rg_ref (S' := (189, [(6, .int i22_4), (0, .ref m0), (1, .int i22_1), (2, .int (f2 f fA)), (3, .int 0), (4, .int i22_4), (5, .int (f2 f i22_1))], [.ref (q 27)], M_22)) rfl hR_22 rfl rfl ?_
                        refine ml_blk 2 (S' := (193, [(6, .int i22_4), (0, .ref m0), (1, .int i22_1), (2, .int (f2 f fA)), (3, .int 0), (4, .int i22_4), (5, .int (f2 f i22_1))], [.int (f2 f i22_1), .int i22_4, .ref (q 27)], M_22)) rfl ?_
                        refine ra_st (k := 27) rfl hR_22 rfl (vin_lt hk0 (by omega)) (fun M298 R299 hR300 e301 g302 f303 => ?_)
                        show ml _ _ _ (194, [(6, .int i22_4), (0, .ref m0), (1, .int i22_1), (2, .int (f2 f fA)), (3, .int 0), (4, .int i22_4), (5, .int (f2 f i22_1))], [], M298) _
                        refine ml_st (S' := (195, [(6, .int i22_4), (0, .ref m0), (1, .int i22_1), (2, .int (f2 f fA)), (3, .int 0), (4, .int i22_4), (5, .int (f2 f i22_1))], [.ref m0], M298)) rfl rfl rfl ?_
                        refine rg_ref (S' := (198, [(6, .int i22_4), (0, .ref m0), (1, .int i22_1), (2, .int (f2 f fA)), (3, .int 0), (4, .int i22_4), (5, .int (f2 f i22_1))], [.ref (q 28)], M298)) rfl hR300 rfl rfl ?_
                        refine ml_blk 3 (S' := (202, [(6, .int i22_4), (0, .ref m0), (1, .int i22_1), (2, .int (f2 f fA)), (3, .int 0), (4, .int i22_4), (5, .int (f2 f i22_1))], [.ref m0, .ref m0, .int i22_4, .ref (q 28)], M298)) rfl ?_
                        refine ml_blk 3 (S' := (205, [(6, .int i22_4), (0, .ref m0), (1, .int i22_1), (2, .int (f2 f fA)), (3, .int 0), (4, .int i22_4), (5, .int (f2 f i22_1))], [.int (i22_1 + 2), .ref m0, .ref m0, .int i22_4, .ref (q 28)], M298)) rfl ?_
                        have hF304 : FK n f I_22 R299 := (hF14.mono (fun _ _ => rfl) (pRx f303 (by decide)))
                        refine ml_call (a := [.ref m0, .int (i22_1 + 2)]) (rest := [.ref m0, .int i22_4, .ref (q 28)]) rfl (hR300.okc rfl rfl rfl) rfl rfl (rm_u2 hR300 hF304 (by omega) (by omega) (by omega)) (fun v305 M306 h307 => ?_)
                        obtain ⟨rfl, h307⟩ := h307
                        rw [h307]
                        show ml _ _ _ (208, [(6, .int i22_4), (0, .ref m0), (1, .int i22_1), (2, .int (f2 f fA)), (3, .int 0), (4, .int i22_4), (5, .int (f2 f i22_1))], [.int (f2 f (i22_1 + 2)), .ref m0, .int i22_4, .ref (q 28)], M298) _
                        have hP308 : PK n f S cp mj pa py I_22 R299 := (hP242.mono (fun _ _ => rfl) (pRx f303 (by decide)))
                        refine ml_call (a := [.ref m0, .int (f2 f (i22_1 + 2))]) (rest := [.int i22_4, .ref (q 28)]) rfl (hR300.okc rfl rfl rfl) rfl rfl (rm_symOf hR300 hP308 (Decidable.not_not.mp c_104) (by omega)) (fun v309 M310 h311 => ?_)
                        obtain ⟨rfl, h311⟩ := h311
                        rw [h311]
                        show ml _ _ _ (211, [(6, .int i22_4), (0, .ref m0), (1, .int i22_1), (2, .int (f2 f fA)), (3, .int 0), (4, .int i22_4), (5, .int (f2 f i22_1))], [.int (pyf py (f2 f (i22_1 + 2))), .int i22_4, .ref (q 28)], M298) _
                        refine ra_st (k := 28) rfl hR300 rfl (vin_lt hk0 (by omega)) (fun M312 R313 hR314 e315 g316 f317 => ?_)
                        show ml _ _ _ (212, [(6, .int i22_4), (0, .ref m0), (1, .int i22_1), (2, .int (f2 f fA)), (3, .int 0), (4, .int i22_4), (5, .int (f2 f i22_1))], [], M312) _
                        refine ml_st (S' := (213, [(6, .int i22_4), (0, .ref m0), (1, .int i22_1), (2, .int (f2 f fA)), (3, .int 0), (4, .int i22_4), (5, .int (f2 f i22_1))], [.ref m0], M312)) rfl rfl rfl ?_
                        refine rg_ref (S' := (216, [(6, .int i22_4), (0, .ref m0), (1, .int i22_1), (2, .int (f2 f fA)), (3, .int 0), (4, .int i22_4), (5, .int (f2 f i22_1))], [.ref (q 29)], M312)) rfl hR314 rfl rfl ?_
                        refine ml_blk 3 (S' := (220, [(6, .int i22_4), (0, .ref m0), (1, .int i22_1), (2, .int (f2 f fA)), (3, .int 0), (4, .int i22_4), (5, .int (f2 f i22_1))], [.ref m0, .ref m0, .int i22_4, .ref (q 29)], M312)) rfl ?_
                        refine ml_blk 3 (S' := (223, [(6, .int i22_4), (0, .ref m0), (1, .int i22_1), (2, .int (f2 f fA)), (3, .int 0), (4, .int i22_4), (5, .int (f2 f i22_1))], [.int (i22_1 + 4), .ref m0, .ref m0, .int i22_4, .ref (q 29)], M312)) rfl ?_
                        have hF318 : FK n f I_22 R313 := (hF304.mono (fun _ _ => rfl) (pRx f317 (by decide)))
                        refine ml_call (a := [.ref m0, .int (i22_1 + 4)]) (rest := [.ref m0, .int i22_4, .ref (q 29)]) rfl (hR314.okc rfl rfl rfl) rfl rfl (rm_u2 hR314 hF318 (by omega) (by omega) (by omega)) (fun v319 M320 h321 => ?_)
                        obtain ⟨rfl, h321⟩ := h321
                        rw [h321]
                        show ml _ _ _ (226, [(6, .int i22_4), (0, .ref m0), (1, .int i22_1), (2, .int (f2 f fA)), (3, .int 0), (4, .int i22_4), (5, .int (f2 f i22_1))], [.int (f2 f (i22_1 + 4)), .ref m0, .int i22_4, .ref (q 29)], M312) _
                        have hP322 : PK n f S cp mj pa py I_22 R313 := (hP308.mono (fun _ _ => rfl) (pRx f317 (by decide)))
                        refine ml_call (a := [.ref m0, .int (f2 f (i22_1 + 4))]) (rest := [.int i22_4, .ref (q 29)]) rfl (hR314.okc rfl rfl rfl) rfl rfl (rm_symOf hR314 hP322 (Decidable.not_not.mp c_148) (by omega)) (fun v323 M324 h325 => ?_)
                        obtain ⟨rfl, h325⟩ := h325
                        rw [h325]
                        show ml _ _ _ (229, [(6, .int i22_4), (0, .ref m0), (1, .int i22_1), (2, .int (f2 f fA)), (3, .int 0), (4, .int i22_4), (5, .int (f2 f i22_1))], [.int (pyf py (f2 f (i22_1 + 4))), .int i22_4, .ref (q 29)], M312) _
                        refine ra_st (k := 29) rfl hR314 rfl (vin_lt hk0 (by omega)) (fun M326 R327 hR328 e329 g330 f331 => ?_)
                        show ml _ _ _ (230, [(6, .int i22_4), (0, .ref m0), (1, .int i22_1), (2, .int (f2 f fA)), (3, .int 0), (4, .int i22_4), (5, .int (f2 f i22_1))], [], M326) _
                        refine ml_st (S' := (231, [(6, .int i22_4), (0, .ref m0), (1, .int i22_1), (2, .int (f2 f fA)), (3, .int 0), (4, .int i22_4), (5, .int (f2 f i22_1))], [.ref m0], M326)) rfl rfl rfl ?_
                        refine rg_ref (S' := (234, [(6, .int i22_4), (0, .ref m0), (1, .int i22_1), (2, .int (f2 f fA)), (3, .int 0), (4, .int i22_4), (5, .int (f2 f i22_1))], [.ref (q 30)], M326)) rfl hR328 rfl rfl ?_
                        refine ml_blk 2 (S' := (237, [(6, .int i22_4), (0, .ref m0), (1, .int i22_1), (2, .int (f2 f fA)), (3, .int 0), (4, .int i22_4), (5, .int (f2 f i22_1))], [.int 0, .int i22_4, .ref (q 30)], M326)) rfl ?_
                        refine ra_st (k := 30) rfl hR328 rfl (vin_lt hk0 (by omega)) (fun M332 R333 hR334 e335 g336 f337 => ?_)
                        show ml _ _ _ (238, [(6, .int i22_4), (0, .ref m0), (1, .int i22_1), (2, .int (f2 f fA)), (3, .int 0), (4, .int i22_4), (5, .int (f2 f i22_1))], [], M332) _
                        refine ml_st (S' := (239, [(6, .int i22_4), (0, .ref m0), (1, .int i22_1), (2, .int (f2 f fA)), (3, .int 0), (4, .int i22_4), (5, .int (f2 f i22_1))], [.ref m0], M332)) rfl rfl rfl ?_
                        refine rg_ref (S' := (242, [(6, .int i22_4), (0, .ref m0), (1, .int i22_1), (2, .int (f2 f fA)), (3, .int 0), (4, .int i22_4), (5, .int (f2 f i22_1))], [.ref (q 31)], M332)) rfl hR334 rfl rfl ?_
                        refine ml_blk 2 (S' := (245, [(6, .int i22_4), (0, .ref m0), (1, .int i22_1), (2, .int (f2 f fA)), (3, .int 0), (4, .int i22_4), (5, .int (f2 f i22_1))], [.int 0, .int i22_4, .ref (q 31)], M332)) rfl ?_
                        refine ra_st (k := 31) rfl hR334 rfl (vin_lt hk0 (by omega)) (fun M338 R339 hR340 e341 g342 f343 => ?_)
                        show ml _ _ _ (246, [(6, .int i22_4), (0, .ref m0), (1, .int i22_1), (2, .int (f2 f fA)), (3, .int 0), (4, .int i22_4), (5, .int (f2 f i22_1))], [], M338) _
                        refine ml_st (S' := (247, [(6, .int i22_4), (0, .ref m0), (1, .int i22_1), (2, .int (f2 f fA)), (3, .int 0), (4, .int i22_4), (5, .int (f2 f i22_1))], [.ref m0], M338)) rfl rfl rfl ?_
                        refine rg_ref (S' := (250, [(6, .int i22_4), (0, .ref m0), (1, .int i22_1), (2, .int (f2 f fA)), (3, .int 0), (4, .int i22_4), (5, .int (f2 f i22_1))], [.ref (q 32)], M338)) rfl hR340 rfl rfl ?_
                        refine ml_blk 3 (S' := (254, [(6, .int i22_4), (0, .ref m0), (1, .int i22_1), (2, .int (f2 f fA)), (3, .int 0), (4, .int i22_4), (5, .int (f2 f i22_1))], [.int i22_1, .ref m0, .int i22_4, .ref (q 32)], M338)) rfl ?_
                        refine ml_blk 2 (S' := (256, [(6, .int i22_4), (0, .ref m0), (1, .int i22_1), (2, .int (f2 f fA)), (3, .int 0), (4, .int i22_4), (5, .int (f2 f i22_1))], [.int (i22_1 + 2), .ref m0, .int i22_4, .ref (q 32)], M338)) rfl ?_
                        have hF344 : FK n f I_22 R339 := (((hF318.mono (fun _ _ => rfl) (pRx f331 (by decide))).mono (fun _ _ => rfl) (pRx f337 (by decide))).mono (fun _ _ => rfl) (pRx f343 (by decide)))
                        refine ml_call (a := [.ref m0, .int (i22_1 + 2)]) (rest := [.int i22_4, .ref (q 32)]) rfl (hR340.okc rfl rfl rfl) rfl rfl (rm_u2 hR340 hF344 (by omega) (by omega) (by omega)) (fun v345 M346 h347 => ?_)
                        obtain ⟨rfl, h347⟩ := h347
                        rw [h347]
                        show ml _ _ _ (259, [(6, .int i22_4), (0, .ref m0), (1, .int i22_1), (2, .int (f2 f fA)), (3, .int 0), (4, .int i22_4), (5, .int (f2 f i22_1))], [.int (f2 f (i22_1 + 2)), .int i22_4, .ref (q 32)], M338) _
                        refine ra_st (k := 32) rfl hR340 rfl (vin_lt hk0 (by omega)) (fun M348 R349 hR350 e351 g352 f353 => ?_)
                        show ml _ _ _ (260, [(6, .int i22_4), (0, .ref m0), (1, .int i22_1), (2, .int (f2 f fA)), (3, .int 0), (4, .int i22_4), (5, .int (f2 f i22_1))], [], M348) _
                        refine ml_st (S' := (261, [(6, .int i22_4), (0, .ref m0), (1, .int i22_1), (2, .int (f2 f fA)), (3, .int 0), (4, .int i22_4), (5, .int (f2 f i22_1))], [.ref m0], M348)) rfl rfl rfl ?_
                        refine rg_ref (S' := (264, [(6, .int i22_4), (0, .ref m0), (1, .int i22_1), (2, .int (f2 f fA)), (3, .int 0), (4, .int i22_4), (5, .int (f2 f i22_1))], [.ref (q 33)], M348)) rfl hR350 rfl rfl ?_
                        refine ml_blk 3 (S' := (268, [(6, .int i22_4), (0, .ref m0), (1, .int i22_1), (2, .int (f2 f fA)), (3, .int 0), (4, .int i22_4), (5, .int (f2 f i22_1))], [.int i22_1, .ref m0, .int i22_4, .ref (q 33)], M348)) rfl ?_
                        refine ml_blk 2 (S' := (270, [(6, .int i22_4), (0, .ref m0), (1, .int i22_1), (2, .int (f2 f fA)), (3, .int 0), (4, .int i22_4), (5, .int (f2 f i22_1))], [.int (i22_1 + 4), .ref m0, .int i22_4, .ref (q 33)], M348)) rfl ?_
                        have hF354 : FK n f I_22 R349 := (hF344.mono (fun _ _ => rfl) (pRx f353 (by decide)))
                        refine ml_call (a := [.ref m0, .int (i22_1 + 4)]) (rest := [.int i22_4, .ref (q 33)]) rfl (hR350.okc rfl rfl rfl) rfl rfl (rm_u2 hR350 hF354 (by omega) (by omega) (by omega)) (fun v355 M356 h357 => ?_)
                        obtain ⟨rfl, h357⟩ := h357
                        rw [h357]
                        show ml _ _ _ (273, [(6, .int i22_4), (0, .ref m0), (1, .int i22_1), (2, .int (f2 f fA)), (3, .int 0), (4, .int i22_4), (5, .int (f2 f i22_1))], [.int (f2 f (i22_1 + 4)), .int i22_4, .ref (q 33)], M348) _
                        refine ra_st (k := 33) rfl hR350 rfl (vin_lt hk0 (by omega)) (fun M358 R359 hR360 e361 g362 f363 => ?_)
                        show ml _ _ _ (274, [(6, .int i22_4), (0, .ref m0), (1, .int i22_1), (2, .int (f2 f fA)), (3, .int 0), (4, .int i22_4), (5, .int (f2 f i22_1))], [], M358) _
                        refine ml_st (S' := (275, [(6, .int i22_4), (0, .ref m0), (1, .int i22_1), (2, .int (f2 f fA)), (3, .int 0), (4, .int i22_4), (5, .int (f2 f i22_1))], [.int 0], M358)) rfl rfl rfl ?_
                        refine ml_st (S' := (277, [(0, .ref m0), (1, .int i22_1), (2, .int (f2 f fA)), (3, .int 0), (4, .int i22_4), (6, .int i22_4), (7, .int 0)], [], M358)) rfl rfl rfl ?_
                        have L_277 : ∀ (n_277 : Nat) (i277_7 : Int32), (2147483648 - i277_7.toInt).toNat ≤ n_277 → 0 ≤ i277_7.toInt → ml (mT g) d (mb_189 g).2 (277, [(0, .ref m0), (1, .int i22_1), (2, .int (f2 f fA)), (3, .int 0), (4, .int i22_4), (6, .int i22_4), (7, .int i277_7)], [], M358) (fun v M' => ∃ (x : Int32) (I' : rI) (R' : rR), v = some (.int x) ∧ RS g m0 q z I' R' M' ∧ eqI [25, 47, 48] I I' ∧ eqR [27, 28, 29, 30, 31, 32, 33] R R' ∧ (x = 0 ∨ x = 1) ∧ (x = 0 ∨ ∃ k : Nat, k ≤ 8192 ∧ I' 25 = some (nI k) ∧ FKN k R')) := by
                          intro n_277
                          induction n_277 with
                          | zero => intro i277_7 hn; exact (loop_zero hn).elim
                          | succ n_277 ih_277 =>
                            intro i277_7 hn_277 hi_277
                            have hq0 := hi_277
                            refine ml_blk 2 (S' := (281, [(0, .ref m0), (1, .int i22_1), (2, .int (f2 f fA)), (3, .int 0), (4, .int i22_4), (6, .int i22_4), (7, .int i277_7)], [.int i22_4, .int i277_7], M358)) rfl ?_
                            refine ml_if2 (S1 := (332, [(0, .ref m0), (1, .int i22_1), (2, .int (f2 f fA)), (3, .int 0), (4, .int i22_4), (6, .int i22_4), (7, .int i277_7)], [], M358)) (S2 := (284, [(0, .ref m0), (1, .int i22_1), (2, .int (f2 f fA)), (3, .int 0), (4, .int i22_4), (6, .int i22_4), (7, .int i277_7)], [], M358)) rfl rfl rfl (fun c_281 => ?_) (fun c_281 => ?_)
                            · have c_281 : i22_4 ≤ i277_7 := of_decide_eq_true c_281
                              refine ml_blk 2 (S' := (334, [(0, .ref m0), (1, .int i22_1), (2, .int (f2 f fA)), (3, .int 0), (4, .int i22_4), (6, .int i22_4), (7, .int i277_7)], [.ref m0, .ref m0], M358)) rfl ?_
                              refine rg_int (S' := (337, [(0, .ref m0), (1, .int i22_1), (2, .int (f2 f fA)), (3, .int 0), (4, .int i22_4), (6, .int i22_4), (7, .int i277_7)], [.int i22_4, .ref m0], M358)) rfl hR360 rfl (h25) rfl ?_
                              refine ml_blk 2 (S' := (339, [(0, .ref m0), (1, .int i22_1), (2, .int (f2 f fA)), (3, .int 0), (4, .int i22_4), (6, .int i22_4), (7, .int i277_7)], [.int (i22_4 + 1), .ref m0], M358)) rfl ?_
                              refine rp_int rfl hR360 rfl (fun M364 I365 hR366 e367 f368 => ?_)
                              show ml _ _ _ (342, [(0, .ref m0), (1, .int i22_1), (2, .int (f2 f fA)), (3, .int 0), (4, .int i22_4), (6, .int i22_4), (7, .int i277_7)], [], M364) _
                              refine ml_blk 3 (S' := (346, [(0, .ref m0), (1, .int i22_1), (2, .int (f2 f fA)), (3, .int 0), (4, .int i22_4), (6, .int i22_4), (7, .int i277_7)], [.int 6, .int i22_1, .ref m0], M364)) rfl ?_
                              refine ml_blk 3 (S' := (350, [(0, .ref m0), (1, .int i22_1), (2, .int (f2 f fA)), (3, .int 0), (4, .int i22_4), (6, .int i22_4), (7, .int i277_7)], [.int i22_4, .int 1, .int (i22_1 + 6), .ref m0], M364)) rfl ?_
                              have hF369 : FK n f I365 R359 := ((hF354.mono (fun _ _ => rfl) (pRx f363 (by decide))).mono (pIx f368 (by decide)) (fun _ _ => rfl))
                              have hY370 : SK S cN sa sl ch I365 R359 := ((((((((hY263.mono (fun _ _ => rfl) (pRx f303 (by decide))).mono (fun _ _ => rfl) (pRx f317 (by decide))).mono (fun _ _ => rfl) (pRx f331 (by decide))).mono (fun _ _ => rfl) (pRx f337 (by decide))).mono (fun _ _ => rfl) (pRx f343 (by decide))).mono (fun _ _ => rfl) (pRx f353 (by decide))).mono (fun _ _ => rfl) (pRx f363 (by decide))).mono (pIx f368 (by decide)) (fun _ _ => rfl))
                              have hP371 : PK n f S cp mj pa py I365 R359 := ((((((hP322.mono (fun _ _ => rfl) (pRx f331 (by decide))).mono (fun _ _ => rfl) (pRx f337 (by decide))).mono (fun _ _ => rfl) (pRx f343 (by decide))).mono (fun _ _ => rfl) (pRx f353 (by decide))).mono (fun _ _ => rfl) (pRx f363 (by decide))).mono (pIx f368 (by decide)) (fun _ _ => rfl))
                              have hK372 : KW I365 R359 := (((((((((hK.mono (cIx hI_22 (by decide)) (cRx hV_22 (by decide))).mono (fun _ _ => rfl) (pRx f303 (by decide))).mono (fun _ _ => rfl) (pRx f317 (by decide))).mono (fun _ _ => rfl) (pRx f331 (by decide))).mono (fun _ _ => rfl) (pRx f337 (by decide))).mono (fun _ _ => rfl) (pRx f343 (by decide))).mono (fun _ _ => rfl) (pRx f353 (by decide))).mono (fun _ _ => rfl) (pRx f363 (by decide))).mono (pIx f368 (by decide)) (fun _ _ => rfl))
                              refine ml_call (a := [.ref m0, .int (i22_1 + 6), .int 1, .int i22_4]) (rest := []) rfl (hR366.okc rfl rfl rfl) rfl rfl (rm_checkAttributes1 hR366 hF369 hY370 hP371 hK372 (rfl) (g2) (hk0) (hk8) ((congrFun ((f363 27 (by decide)).trans ((f353 27 (by decide)).trans ((f343 27 (by decide)).trans ((f337 27 (by decide)).trans ((f331 27 (by decide)).trans ((f317 27 (by decide)))))))) _).trans e301) ((congrFun ((f363 29 (by decide)).trans ((f353 29 (by decide)).trans ((f343 29 (by decide)).trans ((f337 29 (by decide)))))) _).trans e329) (hyB.2.2.1) (hyB.2.2.2) (hlnB) (fun k hk => by simp only [List.mem_cons, List.not_mem_nil, or_false] at hk; rcases hk with rfl | rfl; exact ⟨_, (congrFun ((f363 30 (by decide)).trans ((f353 30 (by decide)).trans ((f343 30 (by decide))))) _).trans e335⟩; exact ⟨_, (congrFun ((f363 31 (by decide)).trans ((f353 31 (by decide)))) _).trans e341⟩) (by omega)) (fun v373 M374 h375 => ?_)
                              obtain ⟨u381, I376, R377, rfl, hR378, hI379, hV380, w382⟩ := h375
                              show ml _ _ _ (353, [(0, .ref m0), (1, .int i22_1), (2, .int (f2 f fA)), (3, .int 0), (4, .int i22_4), (6, .int i22_4), (7, .int i277_7)], [.int u381], M374) _
                              obtain ⟨hend, hpw9, hkn9⟩ := w382
                              refine ml_st (S' := (354, [(1, .int u381), (0, .ref m0), (2, .int (f2 f fA)), (3, .int 0), (4, .int i22_4), (6, .int i22_4), (7, .int i277_7)], [], M374)) rfl rfl rfl ?_
                              refine ml_st (S' := (355, [(1, .int u381), (0, .ref m0), (2, .int (f2 f fA)), (3, .int 0), (4, .int i22_4), (6, .int i22_4), (7, .int i277_7)], [.int u381], M374)) rfl rfl rfl ?_
                              refine ml_if (S1 := (360, [(1, .int u381), (0, .ref m0), (2, .int (f2 f fA)), (3, .int 0), (4, .int i22_4), (6, .int i22_4), (7, .int i277_7)], [], M374)) (S2 := (358, [(1, .int u381), (0, .ref m0), (2, .int (f2 f fA)), (3, .int 0), (4, .int i22_4), (6, .int i22_4), (7, .int i277_7)], [], M374)) rfl rfl rfl (fun c_355 => ?_) (fun c_355 => ?_)
                              · have c_355 : 0 ≤ u381 := of_decide_eq_true c_355
                                have hub : u381 = b1 := hend.resolve_left (fun q => by have := i_le c_355; have : (0 : Int32).toInt = 0 := rfl; omega)
                                have hfk2 : FKN (i22_4.toInt.toNat + 1) R377 := FKN.step (k := i22_4.toInt.toNat) hfk ((((((((pw.rf.st g302 f303 rfl).st g316 f317 rfl).st g330 f331 rfl).st g336 f337 rfl).st g342 f343 rfl).st g352 f353 rfl).st g362 f363 rfl).tr hpw9) (fun k hk => by simp only [List.mem_cons, List.not_mem_nil, or_false] at hk; rcases hk with rfl | rfl | rfl | rfl | rfl | rfl | rfl; exact ⟨_, (congrFun ((hV380 27 (by decide)).trans ((f363 27 (by decide)).trans ((f353 27 (by decide)).trans ((f343 27 (by decide)).trans ((f337 27 (by decide)).trans ((f331 27 (by decide)).trans ((f317 27 (by decide))))))))) _).trans e301⟩; exact ⟨_, (congrFun ((hV380 28 (by decide)).trans ((f363 28 (by decide)).trans ((f353 28 (by decide)).trans ((f343 28 (by decide)).trans ((f337 28 (by decide)).trans ((f331 28 (by decide)))))))) _).trans e315⟩; exact ⟨_, (congrFun ((hV380 29 (by decide)).trans ((f363 29 (by decide)).trans ((f353 29 (by decide)).trans ((f343 29 (by decide)).trans ((f337 29 (by decide))))))) _).trans e329⟩; exact hkn9 30 (by decide); exact hkn9 31 (by decide); exact ⟨_, (congrFun ((hV380 32 (by decide)).trans ((f363 32 (by decide)))) _).trans e351⟩; exact ⟨_, (congrFun ((hV380 33 (by decide))) _).trans e361⟩)
                                refine ml_st (S' := (363, [(4, .int (i22_4 + 1)), (1, .int u381), (0, .ref m0), (2, .int (f2 f fA)), (3, .int 0), (6, .int i22_4), (7, .int i277_7)], [], M374)) rfl rfl rfl ?_
                                refine ml_st (S' := (22, [(0, .ref m0), (1, .int u381), (2, .int (f2 f fA)), (3, .int 0), (4, .int (i22_4 + 1))], [], M374)) rfl rfl rfl ?_
                                exact ih_22 u381 (i22_4 + 1) _ _ _ (loop_inc (Int32.not_le.mp c_25) hn_22) hR378 (((eqI.rf.tr hI_22 (by decide)).put f368 (by decide)).tr hI379 (by decide)) (((((((((eqR.rf.tr hV_22 (by decide)).put f303 (by decide)).put f317 (by decide)).put f331 (by decide)).put f337 (by decide)).put f343 (by decide)).put f353 (by decide)).put f363 (by decide)).tr hV380 (by decide)) (⟨by rw [inc_lt (Int32.not_le.mp c_25)]; omega, by rw [inc_lt (Int32.not_le.mp c_25)]; omega, (hI379 25 (by decide)).trans (e367), by rw [hub]; exact hnx, by rw [hub, inc_lt (Int32.not_le.mp c_25)]; have q := hg.1; omega, by rw [show (i22_4 + 1).toInt.toNat = i22_4.toInt.toNat + 1 by rw [inc_lt (Int32.not_le.mp c_25)]; omega]; exact hfk2⟩)
                              · have c_355 : ¬ (0 ≤ u381) := of_decide_eq_false c_355
                                refine ml_st (S' := (359, [(1, .int u381), (0, .ref m0), (2, .int (f2 f fA)), (3, .int 0), (4, .int i22_4), (6, .int i22_4), (7, .int i277_7)], [.int 0], M374)) rfl rfl rfl ?_
                                exact ml_ret rfl (r_z (Or.inl rfl)) (⟨_, _, _, rfl, hR378, (((eqI.rf.tr hI_22 (by decide)).put f368 (by decide)).tr hI379 (by decide)), (((((((((eqR.rf.tr hV_22 (by decide)).put f303 (by decide)).put f317 (by decide)).put f331 (by decide)).put f337 (by decide)).put f343 (by decide)).put f353 (by decide)).put f363 (by decide)).tr hV380 (by decide)), Or.inl rfl, Or.inl rfl⟩)
                            · have c_281 : ¬ (i22_4 ≤ i277_7) := of_decide_eq_false c_281
                              have hql := i_nle c_281
                              refine ml_st (S' := (285, [(0, .ref m0), (1, .int i22_1), (2, .int (f2 f fA)), (3, .int 0), (4, .int i22_4), (6, .int i22_4), (7, .int i277_7)], [.ref m0], M358)) rfl rfl rfl ?_
                              refine rg_ref (S' := (288, [(0, .ref m0), (1, .int i22_1), (2, .int (f2 f fA)), (3, .int 0), (4, .int i22_4), (6, .int i22_4), (7, .int i277_7)], [.ref (q 28)], M358)) rfl hR360 rfl rfl ?_
                              refine ml_st (S' := (290, [(0, .ref m0), (1, .int i22_1), (2, .int (f2 f fA)), (3, .int 0), (4, .int i22_4), (6, .int i22_4), (7, .int i277_7)], [.int i277_7, .ref (q 28)], M358)) rfl rfl rfl ?_
                              obtain ⟨v383, hv384⟩ := hfk i277_7.toNatClampNeg (by show i277_7.toInt.toNat < i22_4.toInt.toNat; omega) 28 (by decide)
                              have q385 : pw i22_4.toNatClampNeg R_22 R359 := (((((((pw.rf.st g302 f303 rfl).st g316 f317 rfl).st g330 f331 rfl).st g336 f337 rfl).st g342 f343 rfl).st g352 f353 rfl).st g362 f363 rfl)
                              refine ra_ld (k := 28) (S' := (291, [(0, .ref m0), (1, .int i22_1), (2, .int (f2 f fA)), (3, .int 0), (4, .int i22_4), (6, .int i22_4), (7, .int i277_7)], [.int v383], M358)) rfl hR360 rfl (vin_lt hq0 (by omega)) ((q385 28 _ (by show i277_7.toInt.toNat ≠ i22_4.toInt.toNat; omega)).trans hv384) rfl ?_
                              refine ml_st (S' := (292, [(0, .ref m0), (1, .int i22_1), (2, .int (f2 f fA)), (3, .int 0), (4, .int i22_4), (6, .int i22_4), (7, .int i277_7)], [.ref m0, .int v383], M358)) rfl rfl rfl ?_
                              refine rg_ref (S' := (295, [(0, .ref m0), (1, .int i22_1), (2, .int (f2 f fA)), (3, .int 0), (4, .int i22_4), (6, .int i22_4), (7, .int i277_7)], [.ref (q 28), .int v383], M358)) rfl hR360 rfl rfl ?_
                              refine ml_st (S' := (297, [(0, .ref m0), (1, .int i22_1), (2, .int (f2 f fA)), (3, .int 0), (4, .int i22_4), (6, .int i22_4), (7, .int i277_7)], [.int i22_4, .ref (q 28), .int v383], M358)) rfl rfl rfl ?_
                              refine ra_ld (k := 28) (S' := (298, [(0, .ref m0), (1, .int i22_1), (2, .int (f2 f fA)), (3, .int 0), (4, .int i22_4), (6, .int i22_4), (7, .int i277_7)], [.int (pyf py (f2 f (i22_1 + 2))), .int v383], M358)) rfl hR360 rfl (vin_lt hk0 (by omega)) ((congrFun ((f363 28 (by decide)).trans ((f353 28 (by decide)).trans ((f343 28 (by decide)).trans ((f337 28 (by decide)).trans ((f331 28 (by decide))))))) _).trans e315) rfl ?_
                              refine ml_if2 (S1 := (326, [(0, .ref m0), (1, .int i22_1), (2, .int (f2 f fA)), (3, .int 0), (4, .int i22_4), (6, .int i22_4), (7, .int i277_7)], [], M358)) (S2 := (301, [(0, .ref m0), (1, .int i22_1), (2, .int (f2 f fA)), (3, .int 0), (4, .int i22_4), (6, .int i22_4), (7, .int i277_7)], [], M358)) rfl rfl rfl (fun c_298 => ?_) (fun c_298 => ?_)
                              · have c_298 : ¬ v383 = (pyf py (f2 f (i22_1 + 2))) := of_decide_eq_true c_298
                                refine ml_st (S' := (329, [(7, .int (i277_7 + 1)), (0, .ref m0), (1, .int i22_1), (2, .int (f2 f fA)), (3, .int 0), (4, .int i22_4), (6, .int i22_4)], [], M358)) rfl rfl rfl ?_
                                refine ml_st (S' := (277, [(0, .ref m0), (1, .int i22_1), (2, .int (f2 f fA)), (3, .int 0), (4, .int i22_4), (6, .int i22_4), (7, .int (i277_7 + 1))], [], M358)) rfl rfl rfl ?_
                                exact ih_277 (i277_7 + 1) (loop_inc (Int32.not_le.mp c_281) hn_277) (by rw [inc_lt (Int32.not_le.mp c_281)]; omega)
                              · have c_298 : ¬ (¬ v383 = (pyf py (f2 f (i22_1 + 2)))) := of_decide_eq_false c_298
                                refine ml_st (S' := (302, [(0, .ref m0), (1, .int i22_1), (2, .int (f2 f fA)), (3, .int 0), (4, .int i22_4), (6, .int i22_4), (7, .int i277_7)], [.ref m0], M358)) rfl rfl rfl ?_
                                refine rg_ref (S' := (305, [(0, .ref m0), (1, .int i22_1), (2, .int (f2 f fA)), (3, .int 0), (4, .int i22_4), (6, .int i22_4), (7, .int i277_7)], [.ref (q 29)], M358)) rfl hR360 rfl rfl ?_
                                refine ml_st (S' := (307, [(0, .ref m0), (1, .int i22_1), (2, .int (f2 f fA)), (3, .int 0), (4, .int i22_4), (6, .int i22_4), (7, .int i277_7)], [.int i277_7, .ref (q 29)], M358)) rfl rfl rfl ?_
                                obtain ⟨v386, hv387⟩ := hfk i277_7.toNatClampNeg (by show i277_7.toInt.toNat < i22_4.toInt.toNat; omega) 29 (by decide)
                                have q388 : pw i22_4.toNatClampNeg R_22 R359 := (((((((pw.rf.st g302 f303 rfl).st g316 f317 rfl).st g330 f331 rfl).st g336 f337 rfl).st g342 f343 rfl).st g352 f353 rfl).st g362 f363 rfl)
                                refine ra_ld (k := 29) (S' := (308, [(0, .ref m0), (1, .int i22_1), (2, .int (f2 f fA)), (3, .int 0), (4, .int i22_4), (6, .int i22_4), (7, .int i277_7)], [.int v386], M358)) rfl hR360 rfl (vin_lt hq0 (by omega)) ((q388 29 _ (by show i277_7.toInt.toNat ≠ i22_4.toInt.toNat; omega)).trans hv387) rfl ?_
                                refine ml_st (S' := (309, [(0, .ref m0), (1, .int i22_1), (2, .int (f2 f fA)), (3, .int 0), (4, .int i22_4), (6, .int i22_4), (7, .int i277_7)], [.ref m0, .int v386], M358)) rfl rfl rfl ?_
                                refine rg_ref (S' := (312, [(0, .ref m0), (1, .int i22_1), (2, .int (f2 f fA)), (3, .int 0), (4, .int i22_4), (6, .int i22_4), (7, .int i277_7)], [.ref (q 29), .int v386], M358)) rfl hR360 rfl rfl ?_
                                refine ml_st (S' := (314, [(0, .ref m0), (1, .int i22_1), (2, .int (f2 f fA)), (3, .int 0), (4, .int i22_4), (6, .int i22_4), (7, .int i277_7)], [.int i22_4, .ref (q 29), .int v386], M358)) rfl rfl rfl ?_
                                refine ra_ld (k := 29) (S' := (315, [(0, .ref m0), (1, .int i22_1), (2, .int (f2 f fA)), (3, .int 0), (4, .int i22_4), (6, .int i22_4), (7, .int i277_7)], [.int (pyf py (f2 f (i22_1 + 4))), .int v386], M358)) rfl hR360 rfl (vin_lt hk0 (by omega)) ((congrFun ((f363 29 (by decide)).trans ((f353 29 (by decide)).trans ((f343 29 (by decide)).trans ((f337 29 (by decide)))))) _).trans e329) rfl ?_
                                refine ml_if2 (S1 := (326, [(0, .ref m0), (1, .int i22_1), (2, .int (f2 f fA)), (3, .int 0), (4, .int i22_4), (6, .int i22_4), (7, .int i277_7)], [], M358)) (S2 := (318, [(0, .ref m0), (1, .int i22_1), (2, .int (f2 f fA)), (3, .int 0), (4, .int i22_4), (6, .int i22_4), (7, .int i277_7)], [], M358)) rfl rfl rfl (fun c_315 => ?_) (fun c_315 => ?_)
                                · have c_315 : ¬ v386 = (pyf py (f2 f (i22_1 + 4))) := of_decide_eq_true c_315
                                  refine ml_st (S' := (329, [(7, .int (i277_7 + 1)), (0, .ref m0), (1, .int i22_1), (2, .int (f2 f fA)), (3, .int 0), (4, .int i22_4), (6, .int i22_4)], [], M358)) rfl rfl rfl ?_
                                  refine ml_st (S' := (277, [(0, .ref m0), (1, .int i22_1), (2, .int (f2 f fA)), (3, .int 0), (4, .int i22_4), (6, .int i22_4), (7, .int (i277_7 + 1))], [], M358)) rfl rfl rfl ?_
                                  exact ih_277 (i277_7 + 1) (loop_inc (Int32.not_le.mp c_281) hn_277) (by rw [inc_lt (Int32.not_le.mp c_281)]; omega)
                                · have c_315 : ¬ (¬ v386 = (pyf py (f2 f (i22_1 + 4)))) := of_decide_eq_false c_315
                                  refine ml_blk 3 (S' := (322, [(0, .ref m0), (1, .int i22_1), (2, .int (f2 f fA)), (3, .int 0), (4, .int i22_4), (6, .int i22_4), (7, .int i277_7)], [.int i22_1, .int 22, .ref m0], M358)) rfl ?_
                                  refine ml_call (a := [.ref m0, .int 22, .int i22_1]) (rest := []) rfl (hR360.okc rfl rfl rfl) rfl rfl (rm_wrong hR360 (by omega)) (fun v389 M390 h391 => ?_)
                                  obtain ⟨u397, I392, R393, rfl, hR394, hI395, hV396, z398, w399⟩ := h391
                                  show ml _ _ _ (325, [(0, .ref m0), (1, .int i22_1), (2, .int (f2 f fA)), (3, .int 0), (4, .int i22_4), (6, .int i22_4), (7, .int i277_7)], [.int u397], M390) _
                                  exact ml_ret rfl (r_z (z398)) (⟨_, _, _, rfl, hR394, ((eqI.rf.tr hI_22 (by decide)).tr hI395 (by decide)), (((((((((eqR.rf.tr hV_22 (by decide)).put f303 (by decide)).put f317 (by decide)).put f331 (by decide)).put f337 (by decide)).put f343 (by decide)).put f353 (by decide)).put f363 (by decide)).tr hV396 (by decide)), z398, Or.inl w399⟩)
                        exact L_277 _ 0 (Nat.le_refl _) (by decide)
                      · have c_166 : ¬ (¬ u295 = 0) := of_decide_eq_false c_166
                        refine ml_blk 3 (S' := (173, [(0, .ref m0), (1, .int i22_1)], [.int i22_1, .int 21, .ref m0], M_22)) rfl ?_
                        refine ml_blk 2 (S' := (175, [(0, .ref m0), (1, .int i22_1)], [.int (i22_1 + 4), .int 21, .ref m0], M_22)) rfl ?_
                        refine ml_call (a := [.ref m0, .int 21, .int (i22_1 + 4)]) (rest := []) rfl (hR_22.okc rfl rfl rfl) rfl rfl (rm_wrong hR_22 (by omega)) (fun v400 M401 h402 => ?_)
                        obtain ⟨u408, I403, R404, rfl, hR405, hI406, hV407, z409, w410⟩ := h402
                        show ml _ _ _ (178, [(0, .ref m0), (1, .int i22_1)], [.int u408], M401) _
                        exact ml_ret rfl (r_z (z409)) (⟨_, _, _, rfl, hR405, ((eqI.rf.tr hI_22 (by decide)).tr hI406 (by decide)), ((eqR.rf.tr hV_22 (by decide)).tr hV407 (by decide)), z409, Or.inl w410⟩)
                  · have c_123 : ¬ (¬ u267 = 0) := of_decide_eq_false c_123
                    refine ml_blk 3 (S' := (130, [(0, .ref m0), (1, .int i22_1)], [.int i22_1, .int 20, .ref m0], M_22)) rfl ?_
                    refine ml_blk 2 (S' := (132, [(0, .ref m0), (1, .int i22_1)], [.int (i22_1 + 2), .int 20, .ref m0], M_22)) rfl ?_
                    refine ml_call (a := [.ref m0, .int 20, .int (i22_1 + 2)]) (rest := []) rfl (hR_22.okc rfl rfl rfl) rfl rfl (rm_wrong hR_22 (by omega)) (fun v411 M412 h413 => ?_)
                    obtain ⟨u419, I414, R415, rfl, hR416, hI417, hV418, z420, w421⟩ := h413
                    show ml _ _ _ (135, [(0, .ref m0), (1, .int i22_1)], [.int u419], M412) _
                    exact ml_ret rfl (r_z (z420)) (⟨_, _, _, rfl, hR416, ((eqI.rf.tr hI_22 (by decide)).tr hI417 (by decide)), ((eqR.rf.tr hV_22 (by decide)).tr hV418 (by decide)), z420, Or.inl w421⟩)
              refine ml_if (S1 := (92, [(0, .ref m0), (1, .int i22_1), (2, .int (f2 f fA)), (3, .int 0), (4, .int i22_4), (5, .int (f2 f i22_1))], [], M_22)) (S2 := (73, [(0, .ref m0), (1, .int i22_1), (2, .int (f2 f fA)), (3, .int 0), (4, .int i22_4), (5, .int (f2 f i22_1))], [], M_22)) rfl rfl rfl (fun c_70 => ?_) (fun c_70 => ?_)
              · have c_70 : (nf &&& 512) = 0 := of_decide_eq_true c_70
                exact J_92 
              · have c_70 : ¬ ((nf &&& 512) = 0) := of_decide_eq_false c_70
                refine ml_blk 3 (S' := (79, [(0, .ref m0), (1, .int i22_1), (2, .int (f2 f fA)), (3, .int 0), (4, .int i22_4), (5, .int (f2 f i22_1))], [.int ((f2 f i22_1) &&& 16607)], M_22)) rfl ?_
                refine ml_st (S' := (81, [(0, .ref m0), (1, .int i22_1), (2, .int (f2 f fA)), (3, .int 0), (4, .int i22_4), (5, .int (f2 f i22_1))], [.int 25, .int ((f2 f i22_1) &&& 16607)], M_22)) rfl rfl rfl ?_
                refine ml_if2 (S1 := (92, [(0, .ref m0), (1, .int i22_1), (2, .int (f2 f fA)), (3, .int 0), (4, .int i22_4), (5, .int (f2 f i22_1))], [], M_22)) (S2 := (84, [(0, .ref m0), (1, .int i22_1)], [], M_22)) rfl rfl rfl (fun c_81 => ?_) (fun c_81 => ?_)
                · have c_81 : ((f2 f i22_1) &&& 16607) = 25 := of_decide_eq_true c_81
                  exact J_92 
                · have c_81 : ¬ (((f2 f i22_1) &&& 16607) = 25) := of_decide_eq_false c_81
                  refine ml_blk 3 (S' := (88, [(0, .ref m0), (1, .int i22_1)], [.int i22_1, .int 19, .ref m0], M_22)) rfl ?_
                  refine ml_call (a := [.ref m0, .int 19, .int i22_1]) (rest := []) rfl (hR_22.okc rfl rfl rfl) rfl rfl (rm_wrong hR_22 (by omega)) (fun v422 M423 h424 => ?_)
                  obtain ⟨u430, I425, R426, rfl, hR427, hI428, hV429, z431, w432⟩ := h424
                  show ml _ _ _ (91, [(0, .ref m0), (1, .int i22_1)], [.int u430], M423) _
                  exact ml_ret rfl (r_z (z431)) (⟨_, _, _, rfl, hR427, ((eqI.rf.tr hI_22 (by decide)).tr hI428 (by decide)), ((eqR.rf.tr hV_22 (by decide)).tr hV429 (by decide)), z431, Or.inl w432⟩)
  exact L_22 _ (fA + 2) 0 _ _ _ (Nat.le_refl _) hR eqI.rf eqR.rf (⟨by decide, by show (0 : Int) ≤ _; exact f2_pos, hk25, by rw [show ((f2 f fA).toInt - (0 : Int32).toInt).toNat = (f2 f fA).toInt.toNat by have : (0 : Int32).toInt = 0 := rfl; omega]; exact hmb.2.2.1, by rw [eA2]; have : (0 : Int32).toInt = 0 := rfl; omega, fun x hx => absurd hx (Nat.not_lt_zero x)⟩)
