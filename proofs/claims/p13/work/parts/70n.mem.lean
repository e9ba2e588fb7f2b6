section
set_option maxHeartbeats 2000000 in
theorem rm_checkFields {g : xe_G}  {m0 : Nat} {q : Nat → Nat} {z : Nat × Nat} {I : rI} {R : rR} {M : mi_H} {fA nf : Int32} {n : Nat} {f : Nat → Int32} {S cN : Nat} {sa sl ch : Nat → Int32} {cp mj : Int32} {pa py : Nat → Int32} {mA : Int32}  (hR : RS g m0 q z I R M) (hk55 : I 55 = some fA) (hk25 : I 25 = some 0) (hk58 : I 58 = some nf) (hF : FK n f I R) (hY : SK S cN sa sl ch I R) (hP : PK n f S cp mj pa py I R) (hK : KW I R) (hmb : MB f n fA mA) {d : Nat} (hd : 8 ≤ d) : mt (mT g) d 189 [.ref m0] M (fun v M' => ∃ (x : Int32) (I' : rI) (R' : rR), v = some (.int x) ∧ RS g m0 q z I' R' M' ∧ eqI [25, 47, 48] I I' ∧ eqR [27, 28, 29, 30, 31, 32, 33] R R' ∧ (x = 0 ∨ x = 1) ∧ (x = 0 ∨ ∃ k : Nat, k ≤ 8192 ∧ I' 25 = some (nI k) ∧ FKN k R')) := by
  obtain ⟨d, rfl⟩ : ∃ e, d = e + 1 := ⟨d - 1, by omega⟩
  refine mt_in (b := mb_189 g) rfl rfl ?_
  show ml (mT g) d (mb_189 g).2 (0, [(0, .ref m0)], [], M) _
  have hn := hF.1
  have hA0 := hmb.1
  have hA1 := hmb.2.1
  have eA2 : (fA + 2).toInt = fA.toInt + 2 := i_add (by have : (2 : Int32).toInt = 2 := rfl; omega) (by have : (2 : Int32).toInt = 2 := rfl; omega)
  refine ml_st (S' := (1, [(0, .ref m0)], [.ref m0], M)) rfl rfl rfl ?_
  refine rg_int (S' := (4, [(0, .ref m0)], [.int fA], M)) rfl hR rfl (hk55) rfl ?_
  refine ml_st (S' := (5, [(1, .int fA), (0, .ref m0)], [], M)) rfl rfl rfl ?_
  refine ml_blk 2 (S' := (7, [(1, .int fA), (0, .ref m0)], [.int fA, .ref m0], M)) rfl ?_
  refine ml_call (a := [.ref m0, .int fA]) (rest := []) rfl (hR.okc rfl rfl rfl) rfl rfl (rm_u2 hR hF (hA0) (hA1) (by omega)) (fun v11 M12 h13 => ?_)
  obtain ⟨rfl, h13⟩ := h13
  rw [h13]
  show ml _ _ _ (10, [(1, .int fA), (0, .ref m0)], [.int (f2 f fA)], M) _
  refine ml_st (S' := (11, [(2, .int (f2 f fA)), (1, .int fA), (0, .ref m0)], [], M)) rfl rfl rfl ?_
  refine ml_st (S' := (14, [(1, .int (fA + 2)), (2, .int (f2 f fA)), (0, .ref m0)], [], M)) rfl rfl rfl ?_
  refine ml_st (S' := (15, [(1, .int (fA + 2)), (2, .int (f2 f fA)), (0, .ref m0)], [.ref m0], M)) rfl rfl rfl ?_
  refine rg_int (S' := (18, [(1, .int (fA + 2)), (2, .int (f2 f fA)), (0, .ref m0)], [.int 0], M)) rfl hR rfl (hk25) rfl ?_
  refine ml_st (S' := (19, [(3, .int 0), (1, .int (fA + 2)), (2, .int (f2 f fA)), (0, .ref m0)], [], M)) rfl rfl rfl ?_
  refine ml_st (S' := (20, [(3, .int 0), (1, .int (fA + 2)), (2, .int (f2 f fA)), (0, .ref m0)], [.int 0], M)) rfl rfl rfl ?_
  refine ml_st (S' := (22, [(0, .ref m0), (1, .int (fA + 2)), (2, .int (f2 f fA)), (3, .int 0), (4, .int 0)], [], M)) rfl rfl rfl ?_
  have L_22 : ∀ (n_22 : Nat) (i22_1 : Int32) (i22_4 : Int32) (M_22 : mi_H) (I_22 : rI) (R_22 : rR), (2147483648 - i22_4.toInt).toNat ≤ n_22 → RS g m0 q z I_22 R_22 M_22 → eqI [25, 47, 48] I I_22 → eqR [27, 28, 29, 30, 31, 32, 33] R R_22 → (0 ≤ i22_4.toInt ∧ i22_4.toInt ≤ (f2 f fA).toInt ∧ I_22 25 = some i22_4 ∧ itr (MB1 f n) ((f2 f fA).toInt - i22_4.toInt).toNat i22_1 mA ∧ fA.toInt + 2 + 8 * i22_4.toInt ≤ i22_1.toInt ∧ FKN i22_4.toInt.toNat R_22) → ml (mT g) d (mb_189 g).2 (22, [(0, .ref m0), (1, .int i22_1), (2, .int (f2 f fA)), (3, .int 0), (4, .int i22_4)], [], M_22) (fun v M' => ∃ (x : Int32) (I' : rI) (R' : rR), v = some (.int x) ∧ RS g m0 q z I' R' M' ∧ eqI [25, 47, 48] I I' ∧ eqR [27, 28, 29, 30, 31, 32, 33] R R' ∧ (x = 0 ∨ x = 1) ∧ (x = 0 ∨ ∃ k : Nat, k ≤ 8192 ∧ I' 25 = some (nI k) ∧ FKN k R')) := by
    intro n_22
    induction n_22 with
    | zero => intro i22_1 i22_4 M_22 I_22 R_22 hn; exact (loop_zero hn).elim
    | succ n_22 ih_22 =>
      intro i22_1 i22_4 M_22 I_22 R_22 hn_22 hR_22 hI_22 hV_22 hi_22
      obtain ⟨hk0, hk1, h25, hit, hpk, hfk⟩ := hi_22
      refine ml_blk 2 (S' := (25, [(0, .ref m0), (1, .int i22_1), (2, .int (f2 f fA)), (3, .int 0), (4, .int i22_4)], [.int (f2 f fA), .int i22_4], M_22)) rfl ?_
      refine ml_if2 (S1 := (366, [(0, .ref m0), (1, .int i22_1), (2, .int (f2 f fA)), (3, .int 0), (4, .int i22_4)], [], M_22)) (S2 := (28, [(0, .ref m0), (1, .int i22_1), (2, .int (f2 f fA)), (3, .int 0), (4, .int i22_4)], [], M_22)) rfl rfl rfl (fun c_25 => ?_) (fun c_25 => ?_)
      · have c_25 : (f2 f fA) ≤ i22_4 := of_decide_eq_true c_25
        refine ml_st (S' := (367, [(0, .ref m0), (1, .int i22_1), (2, .int (f2 f fA)), (3, .int 0), (4, .int i22_4)], [.int 1], M_22)) rfl rfl rfl ?_
        exact ml_ret rfl (r_z (Or.inr rfl)) (⟨_, _, _, rfl, hR_22, (eqI.rf.tr hI_22 (by decide)), (eqR.rf.tr hV_22 (by decide)), Or.inr rfl, Or.inr ⟨i22_4.toInt.toNat, by have := itr.ge (w := 0) (fun a b h => by have := MB1.ge hn a b h; omega) hit; have := (mb_ge hn hmb).2; omega, by rw [nI_back hk0 (Int.le_trans hk1 f2_le)]; exact h25, hfk⟩⟩)
      · have c_25 : ¬ ((f2 f fA) ≤ i22_4) := of_decide_eq_false c_25
        obtain ⟨b1, hb1, hnx⟩ := itr_next hit c_25
        obtain ⟨g0, g1, g2⟩ := hb1
        have hg := at_ge hn g2
        have hkl := i_nle c_25
        have e2 : (i22_1 + 2).toInt = i22_1.toInt + 2 := i_add (by have : (2 : Int32).toInt = 2 := rfl; omega) (by have : (2 : Int32).toInt = 2 := rfl; omega)
        have e4 : (i22_1 + 4).toInt = i22_1.toInt + 4 := i_add (by have : (4 : Int32).toInt = 4 := rfl; omega) (by have : (4 : Int32).toInt = 4 := rfl; omega)
        have e6 : (i22_1 + 6).toInt = i22_1.toInt + 6 := i_add (by have : (6 : Int32).toInt = 6 := rfl; omega) (by have : (6 : Int32).toInt = 6 := rfl; omega)
        have hk8 : i22_4.toInt < 8300 := by omega
        refine ml_blk 2 (S' := (30, [(0, .ref m0), (1, .int i22_1), (2, .int (f2 f fA)), (3, .int 0), (4, .int i22_4)], [.int i22_1, .ref m0], M_22)) rfl ?_
        have hF14 : FK n f I_22 R_22 := (hF.mono (cIx hI_22 (by decide)) (cRx hV_22 (by decide)))
        refine ml_call (a := [.ref m0, .int i22_1]) (rest := []) rfl (hR_22.okc rfl rfl rfl) rfl rfl (rm_u2 hR_22 hF14 (g0) (by omega) (by omega)) (fun v15 M16 h17 => ?_)
        obtain ⟨rfl, h17⟩ := h17
        rw [h17]
        show ml _ _ _ (33, [(0, .ref m0), (1, .int i22_1), (2, .int (f2 f fA)), (3, .int 0), (4, .int i22_4)], [.int (f2 f i22_1)], M_22) _
        refine ml_st (S' := (35, [(5, .int (f2 f i22_1)), (0, .ref m0), (1, .int i22_1), (2, .int (f2 f fA)), (3, .int 0), (4, .int i22_4)], [], M_22)) rfl rfl rfl ?_
        refine ml_blk 3 (S' := (39, [(5, .int (f2 f i22_1)), (0, .ref m0), (1, .int i22_1), (2, .int (f2 f fA)), (3, .int 0), (4, .int i22_4)], [.int 2, .int 1, .int (f2 f i22_1)], M_22)) rfl ?_
        refine ml_st (S' := (40, [(5, .int (f2 f i22_1)), (0, .ref m0), (1, .int i22_1), (2, .int (f2 f fA)), (3, .int 0), (4, .int i22_4)], [.int 4, .int 2, .int 1, .int (f2 f i22_1)], M_22)) rfl rfl rfl ?_
        refine ml_call (a := [.int (f2 f i22_1), .int 1, .int 2, .int 4]) (rest := []) rfl (rfl) rfl rfl (rm_several hR_22 (by omega)) (fun v18 M19 h20 => ?_)
        obtain ⟨⟨u21, rfl, z22⟩, h20⟩ := h20
        rw [h20]
        show ml _ _ _ (43, [(5, .int (f2 f i22_1)), (0, .ref m0), (1, .int i22_1), (2, .int (f2 f fA)), (3, .int 0), (4, .int i22_4)], [.int u21], M_22) _
        refine ml_if (S1 := (84, [(0, .ref m0), (1, .int i22_1)], [], M_22)) (S2 := (46, [(5, .int (f2 f i22_1)), (0, .ref m0), (1, .int i22_1), (2, .int (f2 f fA)), (3, .int 0), (4, .int i22_4)], [], M_22)) rfl rfl rfl (fun c_43 => ?_) (fun c_43 => ?_)
        · have c_43 : ¬ u21 = 0 := of_decide_eq_true c_43
          refine ml_blk 3 (S' := (88, [(0, .ref m0), (1, .int i22_1)], [.int i22_1, .int 19, .ref m0], M_22)) rfl ?_
          refine ml_call (a := [.ref m0, .int 19, .int i22_1]) (rest := []) rfl (hR_22.okc rfl rfl rfl) rfl rfl (rm_wrong hR_22 (by omega)) (fun v23 M24 h25 => ?_)
          obtain ⟨u31, I26, R27, rfl, hR28, hI29, hV30, z32, w33⟩ := h25
          show ml _ _ _ (91, [(0, .ref m0), (1, .int i22_1)], [.int u31], M24) _
          exact ml_ret rfl (r_z (z32)) (⟨_, _, _, rfl, hR28, ((eqI.rf.tr hI_22 (by decide)).tr hI29 (by decide)), ((eqR.rf.tr hV_22 (by decide)).tr hV30 (by decide)), z32, Or.inl w33⟩)
        · have c_43 : ¬ (¬ u21 = 0) := of_decide_eq_false c_43
          refine ml_blk 3 (S' := (51, [(5, .int (f2 f i22_1)), (0, .ref m0), (1, .int i22_1), (2, .int (f2 f fA)), (3, .int 0), (4, .int i22_4)], [.int ((f2 f i22_1) &&& 16)], M_22)) rfl ?_
          refine ml_if (S1 := (62, [(0, .ref m0), (1, .int i22_1), (2, .int (f2 f fA)), (3, .int 0), (4, .int i22_4), (5, .int (f2 f i22_1))], [], M_22)) (S2 := (54, [(5, .int (f2 f i22_1)), (0, .ref m0), (1, .int i22_1), (2, .int (f2 f fA)), (3, .int 0), (4, .int i22_4)], [], M_22)) rfl rfl rfl (fun c_51 => ?_) (fun c_51 => ?_)
          · have c_51 : ((f2 f i22_1) &&& 16) = 0 := of_decide_eq_true c_51
            refine ml_st (S' := (63, [(0, .ref m0), (1, .int i22_1), (2, .int (f2 f fA)), (3, .int 0), (4, .int i22_4), (5, .int (f2 f i22_1))], [.ref m0], M_22)) rfl rfl rfl ?_
            refine rg_int (S' := (66, [(0, .ref m0), (1, .int i22_1), (2, .int (f2 f fA)), (3, .int 0), (4, .int i22_4), (5, .int (f2 f i22_1))], [.int nf], M_22)) rfl hR_22 rfl ((hI_22 58 (by decide)).trans (hk58)) rfl ?_
            refine ml_blk 2 (S' := (70, [(0, .ref m0), (1, .int i22_1), (2, .int (f2 f fA)), (3, .int 0), (4, .int i22_4), (5, .int (f2 f i22_1))], [.int (nf &&& 512)], M_22)) rfl ?_
            have J_92 : ml (mT g) d (mb_189 g).2 (92, [(0, .ref m0), (1, .int i22_1), (2, .int (f2 f fA)), (3, .int 0), (4, .int i22_4), (5, .int (f2 f i22_1))], [], M_22) (fun v M' => ∃ (x : Int32) (I' : rI) (R' : rR), v = some (.int x) ∧ RS g m0 q z I' R' M' ∧ eqI [25, 47, 48] I I' ∧ eqR [27, 28, 29, 30, 31, 32, 33] R R' ∧ (x = 0 ∨ x = 1) ∧ (x = 0 ∨ ∃ k : Nat, k ≤ 8192 ∧ I' 25 = some (nI k) ∧ FKN k R')) := by
              refine ml_blk 3 (S' := (95, [(0, .ref m0), (1, .int i22_1), (2, .int (f2 f fA)), (3, .int 0), (4, .int i22_4), (5, .int (f2 f i22_1))], [.int i22_1, .ref m0, .ref m0], M_22)) rfl ?_
              refine ml_blk 2 (S' := (97, [(0, .ref m0), (1, .int i22_1), (2, .int (f2 f fA)), (3, .int 0), (4, .int i22_4), (5, .int (f2 f i22_1))], [.int (i22_1 + 2), .ref m0, .ref m0], M_22)) rfl ?_
              refine ml_call (a := [.ref m0, .int (i22_1 + 2)]) (rest := [.ref m0]) rfl (hR_22.okc rfl rfl rfl) rfl rfl (rm_u2 hR_22 hF14 (by omega) (by omega) (by omega)) (fun v34 M35 h36 => ?_)
              obtain ⟨rfl, h36⟩ := h36
              rw [h36]
              show ml _ _ _ (100, [(0, .ref m0), (1, .int i22_1), (2, .int (f2 f fA)), (3, .int 0), (4, .int i22_4), (5, .int (f2 f i22_1))], [.int (f2 f (i22_1 + 2)), .ref m0], M_22) _
              have hP37 : PK n f S cp mj pa py I_22 R_22 := (hP.mono (cIx hI_22 (by decide)) (cRx hV_22 (by decide)))
              refine ml_call (a := [.ref m0, .int (f2 f (i22_1 + 2))]) (rest := []) rfl (hR_22.okc rfl rfl rfl) rfl rfl (rm_tag hR_22 hF14 hP37 (by omega)) (fun v38 M39 h40 => ?_)
              obtain ⟨rfl, h40⟩ := h40
              rw [h40]
              show ml _ _ _ (103, [(0, .ref m0), (1, .int i22_1), (2, .int (f2 f fA)), (3, .int 0), (4, .int i22_4), (5, .int (f2 f i22_1))], [.int (tgf f cp pa (f2 f (i22_1 + 2)))], M_22) _
              refine ml_st (S' := (104, [(0, .ref m0), (1, .int i22_1), (2, .int (f2 f fA)), (3, .int 0), (4, .int i22_4), (5, .int (f2 f i22_1))], [.int 1, .int (tgf f cp pa (f2 f (i22_1 + 2)))], M_22)) rfl rfl rfl ?_
              refine ml_if2 (S1 := (126, [(0, .ref m0), (1, .int i22_1)], [], M_22)) (S2 := (107, [(0, .ref m0), (1, .int i22_1), (2, .int (f2 f fA)), (3, .int 0), (4, .int i22_4), (5, .int (f2 f i22_1))], [], M_22)) rfl rfl rfl (fun c_104 => ?_) (fun c_104 => ?_)
              · have c_104 : ¬ (tgf f cp pa (f2 f (i22_1 + 2))) = 1 := of_decide_eq_true c_104
                refine ml_blk 3 (S' := (130, [(0, .ref m0), (1, .int i22_1)], [.int i22_1, .int 20, .ref m0], M_22)) rfl ?_
                refine ml_blk 2 (S' := (132, [(0, .ref m0), (1, .int i22_1)], [.int (i22_1 + 2), .int 20, .ref m0], M_22)) rfl ?_
                refine ml_call (a := [.ref m0, .int 20, .int (i22_1 + 2)]) (rest := []) rfl (hR_22.okc rfl rfl rfl) rfl rfl (rm_wrong hR_22 (by omega)) (fun v41 M42 h43 => ?_)
                obtain ⟨u49, I44, R45, rfl, hR46, hI47, hV48, z50, w51⟩ := h43
                show ml _ _ _ (135, [(0, .ref m0), (1, .int i22_1)], [.int u49], M42) _
                exact ml_ret rfl (r_z (z50)) (⟨_, _, _, rfl, hR46, ((eqI.rf.tr hI_22 (by decide)).tr hI47 (by decide)), ((eqR.rf.tr hV_22 (by decide)).tr hV48 (by decide)), z50, Or.inl w51⟩)
              · have c_104 : ¬ (¬ (tgf f cp pa (f2 f (i22_1 + 2))) = 1) := of_decide_eq_false c_104
                have hyA := hP.y (show tgf f cp pa (f2 f (i22_1 + 2)) = 1 from Decidable.not_not.mp c_104)
                refine ml_blk 3 (S' := (110, [(0, .ref m0), (1, .int i22_1), (2, .int (f2 f fA)), (3, .int 0), (4, .int i22_4), (5, .int (f2 f i22_1))], [.ref m0, .ref m0, .ref m0], M_22)) rfl ?_
                refine ml_blk 3 (S' := (113, [(0, .ref m0), (1, .int i22_1), (2, .int (f2 f fA)), (3, .int 0), (4, .int i22_4), (5, .int (f2 f i22_1))], [.int (i22_1 + 2), .ref m0, .ref m0, .ref m0], M_22)) rfl ?_
                refine ml_call (a := [.ref m0, .int (i22_1 + 2)]) (rest := [.ref m0, .ref m0]) rfl (hR_22.okc rfl rfl rfl) rfl rfl (rm_u2 hR_22 hF14 (by omega) (by omega) (by omega)) (fun v52 M53 h54 => ?_)
                obtain ⟨rfl, h54⟩ := h54
                rw [h54]
                show ml _ _ _ (116, [(0, .ref m0), (1, .int i22_1), (2, .int (f2 f fA)), (3, .int 0), (4, .int i22_4), (5, .int (f2 f i22_1))], [.int (f2 f (i22_1 + 2)), .ref m0, .ref m0], M_22) _
                refine ml_call (a := [.ref m0, .int (f2 f (i22_1 + 2))]) (rest := [.ref m0]) rfl (hR_22.okc rfl rfl rfl) rfl rfl (rm_symOf hR_22 hP37 (Decidable.not_not.mp c_104) (by omega)) (fun v55 M56 h57 => ?_)
                obtain ⟨rfl, h57⟩ := h57
                rw [h57]
                show ml _ _ _ (119, [(0, .ref m0), (1, .int i22_1), (2, .int (f2 f fA)), (3, .int 0), (4, .int i22_4), (5, .int (f2 f i22_1))], [.int (pyf py (f2 f (i22_1 + 2))), .ref m0], M_22) _
                refine ml_st (S' := (120, [(0, .ref m0), (1, .int i22_1), (2, .int (f2 f fA)), (3, .int 0), (4, .int i22_4), (5, .int (f2 f i22_1))], [.int 1, .int (pyf py (f2 f (i22_1 + 2))), .ref m0], M_22)) rfl rfl rfl ?_
                have hY58 : SK S cN sa sl ch I_22 R_22 := (hY.mono (cIx hI_22 (by decide)) (cRx hV_22 (by decide)))
                refine ml_call (a := [.ref m0, .int (pyf py (f2 f (i22_1 + 2))), .int 1]) (rest := []) rfl (hR_22.okc rfl rfl rfl) rfl rfl (rm_unqualified hR_22 hY58 (hyA.2.2.1) (hyA.2.2.2) (by omega)) (fun v59 M60 h61 => ?_)
                obtain ⟨⟨u62, rfl, z63⟩, h61⟩ := h61
                rw [h61]
                show ml _ _ _ (123, [(0, .ref m0), (1, .int i22_1), (2, .int (f2 f fA)), (3, .int 0), (4, .int i22_4), (5, .int (f2 f i22_1))], [.int u62], M_22) _
                refine ml_if (S1 := (136, [(0, .ref m0), (1, .int i22_1), (2, .int (f2 f fA)), (3, .int 0), (4, .int i22_4), (5, .int (f2 f i22_1))], [], M_22)) (S2 := (126, [(0, .ref m0), (1, .int i22_1)], [], M_22)) rfl rfl rfl (fun c_123 => ?_) (fun c_123 => ?_)
                · have c_123 : ¬ u62 = 0 := of_decide_eq_true c_123
                  refine ml_blk 3 (S' := (139, [(0, .ref m0), (1, .int i22_1), (2, .int (f2 f fA)), (3, .int 0), (4, .int i22_4), (5, .int (f2 f i22_1))], [.int i22_1, .ref m0, .ref m0], M_22)) rfl ?_
                  refine ml_blk 2 (S' := (141, [(0, .ref m0), (1, .int i22_1), (2, .int (f2 f fA)), (3, .int 0), (4, .int i22_4), (5, .int (f2 f i22_1))], [.int (i22_1 + 4), .ref m0, .ref m0], M_22)) rfl ?_
                  refine ml_call (a := [.ref m0, .int (i22_1 + 4)]) (rest := [.ref m0]) rfl (hR_22.okc rfl rfl rfl) rfl rfl (rm_u2 hR_22 hF14 (by omega) (by omega) (by omega)) (fun v64 M65 h66 => ?_)
                  obtain ⟨rfl, h66⟩ := h66
                  rw [h66]
                  show ml _ _ _ (144, [(0, .ref m0), (1, .int i22_1), (2, .int (f2 f fA)), (3, .int 0), (4, .int i22_4), (5, .int (f2 f i22_1))], [.int (f2 f (i22_1 + 4)), .ref m0], M_22) _
                  refine ml_call (a := [.ref m0, .int (f2 f (i22_1 + 4))]) (rest := []) rfl (hR_22.okc rfl rfl rfl) rfl rfl (rm_tag hR_22 hF14 hP37 (by omega)) (fun v67 M68 h69 => ?_)
                  obtain ⟨rfl, h69⟩ := h69
                  rw [h69]
                  show ml _ _ _ (147, [(0, .ref m0), (1, .int i22_1), (2, .int (f2 f fA)), (3, .int 0), (4, .int i22_4), (5, .int (f2 f i22_1))], [.int (tgf f cp pa (f2 f (i22_1 + 4)))], M_22) _
                  refine ml_st (S' := (148, [(0, .ref m0), (1, .int i22_1), (2, .int (f2 f fA)), (3, .int 0), (4, .int i22_4), (5, .int (f2 f i22_1))], [.int 1, .int (tgf f cp pa (f2 f (i22_1 + 4)))], M_22)) rfl rfl rfl ?_
                  refine ml_if2 (S1 := (169, [(0, .ref m0), (1, .int i22_1)], [], M_22)) (S2 := (151, [(0, .ref m0), (1, .int i22_1), (2, .int (f2 f fA)), (3, .int 0), (4, .int i22_4), (5, .int (f2 f i22_1))], [], M_22)) rfl rfl rfl (fun c_148 => ?_) (fun c_148 => ?_)
                  · have c_148 : ¬ (tgf f cp pa (f2 f (i22_1 + 4))) = 1 := of_decide_eq_true c_148
                    refine ml_blk 3 (S' := (173, [(0, .ref m0), (1, .int i22_1)], [.int i22_1, .int 21, .ref m0], M_22)) rfl ?_
                    refine ml_blk 2 (S' := (175, [(0, .ref m0), (1, .int i22_1)], [.int (i22_1 + 4), .int 21, .ref m0], M_22)) rfl ?_
                    refine ml_call (a := [.ref m0, .int 21, .int (i22_1 + 4)]) (rest := []) rfl (hR_22.okc rfl rfl rfl) rfl rfl (rm_wrong hR_22 (by omega)) (fun v70 M71 h72 => ?_)
                    obtain ⟨u78, I73, R74, rfl, hR75, hI76, hV77, z79, w80⟩ := h72
                    show ml _ _ _ (178, [(0, .ref m0), (1, .int i22_1)], [.int u78], M71) _
                    exact ml_ret rfl (r_z (z79)) (⟨_, _, _, rfl, hR75, ((eqI.rf.tr hI_22 (by decide)).tr hI76 (by decide)), ((eqR.rf.tr hV_22 (by decide)).tr hV77 (by decide)), z79, Or.inl w80⟩)
                  · have c_148 : ¬ (¬ (tgf f cp pa (f2 f (i22_1 + 4))) = 1) := of_decide_eq_false c_148
                    have hyB := hP.y (show tgf f cp pa (f2 f (i22_1 + 4)) = 1 from Decidable.not_not.mp c_148)
                    refine ml_blk 3 (S' := (154, [(0, .ref m0), (1, .int i22_1), (2, .int (f2 f fA)), (3, .int 0), (4, .int i22_4), (5, .int (f2 f i22_1))], [.ref m0, .ref m0, .ref m0], M_22)) rfl ?_
                    refine ml_blk 3 (S' := (157, [(0, .ref m0), (1, .int i22_1), (2, .int (f2 f fA)), (3, .int 0), (4, .int i22_4), (5, .int (f2 f i22_1))], [.int (i22_1 + 4), .ref m0, .ref m0, .ref m0], M_22)) rfl ?_
                    refine ml_call (a := [.ref m0, .int (i22_1 + 4)]) (rest := [.ref m0, .ref m0]) rfl (hR_22.okc rfl rfl rfl) rfl rfl (rm_u2 hR_22 hF14 (by omega) (by omega) (by omega)) (fun v81 M82 h83 => ?_)
                    obtain ⟨rfl, h83⟩ := h83
                    rw [h83]
                    show ml _ _ _ (160, [(0, .ref m0), (1, .int i22_1), (2, .int (f2 f fA)), (3, .int 0), (4, .int i22_4), (5, .int (f2 f i22_1))], [.int (f2 f (i22_1 + 4)), .ref m0, .ref m0], M_22) _
                    refine ml_call (a := [.ref m0, .int (f2 f (i22_1 + 4))]) (rest := [.ref m0]) rfl (hR_22.okc rfl rfl rfl) rfl rfl (rm_symOf hR_22 hP37 (Decidable.not_not.mp c_148) (by omega)) (fun v84 M85 h86 => ?_)
                    obtain ⟨rfl, h86⟩ := h86
                    rw [h86]
                    show ml _ _ _ (163, [(0, .ref m0), (1, .int i22_1), (2, .int (f2 f fA)), (3, .int 0), (4, .int i22_4), (5, .int (f2 f i22_1))], [.int (pyf py (f2 f (i22_1 + 4))), .ref m0], M_22) _
                    refine ml_call (a := [.ref m0, .int (pyf py (f2 f (i22_1 + 4)))]) (rest := []) rfl (hR_22.okc rfl rfl rfl) rfl rfl (rm_isField hR_22 hY58 (hyB.2.2.1) (hyB.2.2.2) (by omega)) (fun v87 M88 h89 => ?_)
                    obtain ⟨⟨u90, rfl, z91, w92⟩, h89⟩ := h89
                    rw [h89]
                    show ml _ _ _ (166, [(0, .ref m0), (1, .int i22_1), (2, .int (f2 f fA)), (3, .int 0), (4, .int i22_4), (5, .int (f2 f i22_1))], [.int u90], M_22) _
                    refine ml_if (S1 := (179, [(0, .ref m0), (1, .int i22_1), (2, .int (f2 f fA)), (3, .int 0), (4, .int i22_4), (5, .int (f2 f i22_1))], [], M_22)) (S2 := (169, [(0, .ref m0), (1, .int i22_1)], [], M_22)) rfl rfl rfl (fun c_166 => ?_) (fun c_166 => ?_)
                    · have c_166 : ¬ u90 = 0 := of_decide_eq_true c_166
                      have hlnB := w92.resolve_left c_166
                      refine ml_st (S' := (180, [(0, .ref m0), (1, .int i22_1), (2, .int (f2 f fA)), (3, .int 0), (4, .int i22_4), (5, .int (f2 f i22_1))], [.ref m0], M_22)) rfl rfl rfl ?_
                      refine rg_int (S' := (183, [(0, .ref m0), (1, .int i22_1), (2, .int (f2 f fA)), (3, .int 0), (4, .int i22_4), (5, .int (f2 f i22_1))], [.int i22_4], M_22)) rfl hR_22 rfl (h25) rfl ?_
                      refine ml_st (S' := (185, [(6, .int i22_4), (0, .ref m0), (1, .int i22_1), (2, .int (f2 f fA)), (3, .int 0), (4, .int i22_4), (5, .int (f2 f i22_1))], [], M_22)) rfl rfl rfl ?_
                      refine ml_st (S' := (186, [(6, .int i22_4), (0, .ref m0), (1, .int i22_1), (2, .int (f2 f fA)), (3, .int 0), (4, .int i22_4), (5, .int (f2 f i22_1))], [.ref m0], M_22)) rfl rfl rfl ?_
                      refine rg_ref (S' := (189, [(6, .int i22_4), (0, .ref m0), (1, .int i22_1), (2, .int (f2 f fA)), (3, .int 0), (4, .int i22_4), (5, .int (f2 f i22_1))], [.ref (q 27)], M_22)) rfl hR_22 rfl rfl ?_
                      refine ml_blk 2 (S' := (193, [(6, .int i22_4), (0, .ref m0), (1, .int i22_1), (2, .int (f2 f fA)), (3, .int 0), (4, .int i22_4), (5, .int (f2 f i22_1))], [.int (f2 f i22_1), .int i22_4, .ref (q 27)], M_22)) rfl ?_
                      refine ra_st (k := 27) rfl hR_22 rfl (vin_lt hk0 (by omega)) (fun M93 R94 hR95 e96 g97 f98 => ?_)
                      show ml _ _ _ (194, [(6, .int i22_4), (0, .ref m0), (1, .int i22_1), (2, .int (f2 f fA)), (3, .int 0), (4, .int i22_4), (5, .int (f2 f i22_1))], [], M93) _
                      refine ml_st (S' := (195, [(6, .int i22_4), (0, .ref m0), (1, .int i22_1), (2, .int (f2 f fA)), (3, .int 0), (4, .int i22_4), (5, .int (f2 f i22_1))], [.ref m0], M93)) rfl rfl rfl ?_
                      refine rg_ref (S' := (198, [(6, .int i22_4), (0, .ref m0), (1, .int i22_1), (2, .int (f2 f fA)), (3, .int 0), (4, .int i22_4), (5, .int (f2 f i22_1))], [.ref (q 28)], M93)) rfl hR95 rfl rfl ?_
                      refine ml_blk 3 (S' := (202, [(6, .int i22_4), (0, .ref m0), (1, .int i22_1), (2, .int (f2 f fA)), (3, .int 0), (4, .int i22_4), (5, .int (f2 f i22_1))], [.ref m0, .ref m0, .int i22_4, .ref (q 28)], M93)) rfl ?_
                      refine ml_blk 3 (S' := (205, [(6, .int i22_4), (0, .ref m0), (1, .int i22_1), (2, .int (f2 f fA)), (3, .int 0), (4, .int i22_4), (5, .int (f2 f i22_1))], [.int (i22_1 + 2), .ref m0, .ref m0, .int i22_4, .ref (q 28)], M93)) rfl ?_
                      have hF99 : FK n f I_22 R94 := (hF14.mono (fun _ _ => rfl) (pRx f98 (by decide)))
                      refine ml_call (a := [.ref m0, .int (i22_1 + 2)]) (rest := [.ref m0, .int i22_4, .ref (q 28)]) rfl (hR95.okc rfl rfl rfl) rfl rfl (rm_u2 hR95 hF99 (by omega) (by omega) (by omega)) (fun v100 M101 h102 => ?_)
                      obtain ⟨rfl, h102⟩ := h102
                      rw [h102]
                      show ml _ _ _ (208, [(6, .int i22_4), (0, .ref m0), (1, .int i22_1), (2, .int (f2 f fA)), (3, .int 0), (4, .int i22_4), (5, .int (f2 f i22_1))], [.int (f2 f (i22_1 + 2)), .ref m0, .int i22_4, .ref (q 28)], M93) _
                      have hP103 : PK n f S cp mj pa py I_22 R94 := (hP37.mono (fun _ _ => rfl) (pRx f98 (by decide)))
                      refine ml_call (a := [.ref m0, .int (f2 f (i22_1 + 2))]) (rest := [.int i22_4, .ref (q 28)]) rfl (hR95.okc rfl rfl rfl) rfl rfl (rm_symOf hR95 hP103 (Decidable.not_not.mp c_104) (by omega)) (fun v104 M105 h106 => ?_)
                      obtain ⟨rfl, h106⟩ := h106
                      rw [h106]
                      show ml _ _ _ (211, [(6, .int i22_4), (0, .ref m0), (1, .int i22_1), (2, .int (f2 f fA)), (3, .int 0), (4, .int i22_4), (5, .int (f2 f i22_1))], [.int (pyf py (f2 f (i22_1 + 2))), .int i22_4, .ref (q 28)], M93) _
                      refine ra_st (k := 28) rfl hR95 rfl (vin_lt hk0 (by omega)) (fun M107 R108 hR109 e110 g111 f112 => ?_)
                      show ml _ _ _ (212, [(6, .int i22_4), (0, .ref m0), (1, .int i22_1), (2, .int (f2 f fA)), (3, .int 0), (4, .int i22_4), (5, .int (f2 f i22_1))], [], M107) _
                      refine ml_st (S' := (213, [(6, .int i22_4), (0, .ref m0), (1, .int i22_1), (2, .int (f2 f fA)), (3, .int 0), (4, .int i22_4), (5, .int (f2 f i22_1))], [.ref m0], M107)) rfl rfl rfl ?_
                      refine rg_ref (S' := (216, [(6, .int i22_4), (0, .ref m0), (1, .int i22_1), (2, .int (f2 f fA)), (3, .int 0), (4, .int i22_4), (5, .int (f2 f i22_1))], [.ref (q 29)], M107)) rfl hR109 rfl rfl ?_
                      refine ml_blk 3 (S' := (220, [(6, .int i22_4), (0, .ref m0), (1, .int i22_1), (2, .int (f2 f fA)), (3, .int 0), (4, .int i22_4), (5, .int (f2 f i22_1))], [.ref m0, .ref m0, .int i22_4, .ref (q 29)], M107)) rfl ?_
                      refine ml_blk 3 (S' := (223, [(6, .int i22_4), (0, .ref m0), (1, .int i22_1), (2, .int (f2 f fA)), (3, .int 0), (4, .int i22_4), (5, .int (f2 f i22_1))], [.int (i22_1 + 4), .ref m0, .ref m0, .int i22_4, .ref (q 29)], M107)) rfl ?_
                      have hF113 : FK n f I_22 R108 := (hF99.mono (fun _ _ => rfl) (pRx f112 (by decide)))
                      refine ml_call (a := [.ref m0, .int (i22_1 + 4)]) (rest := [.ref m0, .int i22_4, .ref (q 29)]) rfl (hR109.okc rfl rfl rfl) rfl rfl (rm_u2 hR109 hF113 (by omega) (by omega) (by omega)) (fun v114 M115 h116 => ?_)
                      obtain ⟨rfl, h116⟩ := h116
                      rw [h116]
                      show ml _ _ _ (226, [(6, .int i22_4), (0, .ref m0), (1, .int i22_1), (2, .int (f2 f fA)), (3, .int 0), (4, .int i22_4), (5, .int (f2 f i22_1))], [.int (f2 f (i22_1 + 4)), .ref m0, .int i22_4, .ref (q 29)], M107) _
                      have hP117 : PK n f S cp mj pa py I_22 R108 := (hP103.mono (fun _ _ => rfl) (pRx f112 (by decide)))
                      refine ml_call (a := [.ref m0, .int (f2 f (i22_1 + 4))]) (rest := [.int i22_4, .ref (q 29)]) rfl (hR109.okc rfl rfl rfl) rfl rfl (rm_symOf hR109 hP117 (Decidable.not_not.mp c_148) (by omega)) (fun v118 M119 h120 => ?_)
                      obtain ⟨rfl, h120⟩ := h120
                      rw [h120]
                      show ml _ _ _ (229, [(6, .int i22_4), (0, .ref m0), (1, .int i22_1), (2, .int (f2 f fA)), (3, .int 0), (4, .int i22_4), (5, .int (f2 f i22_1))], [.int (pyf py (f2 f (i22_1 + 4))), .int i22_4, .ref (q 29)], M107) _
                      refine ra_st (k := 29) rfl hR109 rfl (vin_lt hk0 (by omega)) (fun M121 R122 hR123 e124 g125 f126 => ?_)
                      show ml _ _ _ (230, [(6, .int i22_4), (0, .ref m0), (1, .int i22_1), (2, .int (f2 f fA)), (3, .int 0), (4, .int i22_4), (5, .int (f2 f i22_1))], [], M121) _
                      refine ml_st (S' := (231, [(6, .int i22_4), (0, .ref m0), (1, .int i22_1), (2, .int (f2 f fA)), (3, .int 0), (4, .int i22_4), (5, .int (f2 f i22_1))], [.ref m0], M121)) rfl rfl rfl ?_
                      refine rg_ref (S' := (234, [(6, .int i22_4), (0, .ref m0), (1, .int i22_1), (2, .int (f2 f fA)), (3, .int 0), (4, .int i22_4), (5, .int (f2 f i22_1))], [.ref (q 30)], M121)) rfl hR123 rfl rfl ?_
                      refine ml_blk 2 (S' := (237, [(6, .int i22_4), (0, .ref m0), (1, .int i22_1), (2, .int (f2 f fA)), (3, .int 0), (4, .int i22_4), (5, .int (f2 f i22_1))], [.int 0, .int i22_4, .ref (q 30)], M121)) rfl ?_
                      refine ra_st (k := 30) rfl hR123 rfl (vin_lt hk0 (by omega)) (fun M127 R128 hR129 e130 g131 f132 => ?_)
                      show ml _ _ _ (238, [(6, .int i22_4), (0, .ref m0), (1, .int i22_1), (2, .int (f2 f fA)), (3, .int 0), (4, .int i22_4), (5, .int (f2 f i22_1))], [], M127) _
                      refine ml_st (S' := (239, [(6, .int i22_4), (0, .ref m0), (1, .int i22_1), (2, .int (f2 f fA)), (3, .int 0), (4, .int i22_4), (5, .int (f2 f i22_1))], [.ref m0], M127)) rfl rfl rfl ?_
                      refine rg_ref (S' := (242, [(6, .int i22_4), (0, .ref m0), (1, .int i22_1), (2, .int (f2 f fA)), (3, .int 0), (4, .int i22_4), (5, .int (f2 f i22_1))], [.ref (q 31)], M127)) rfl hR129 rfl rfl ?_
                      refine ml_blk 2 (S' := (245, [(6, .int i22_4), (0, .ref m0), (1, .int i22_1), (2, .int (f2 f fA)), (3, .int 0), (4, .int i22_4), (5, .int (f2 f i22_1))], [.int 0, .int i22_4, .ref (q 31)], M127)) rfl ?_
                      refine ra_st (k := 31) rfl hR129 rfl (vin_lt hk0 (by omega)) (fun M133 R134 hR135 e136 g137 f138 => ?_)
                      show ml _ _ _ (246, [(6, .int i22_4), (0, .ref m0), (1, .int i22_1), (2, .int (f2 f fA)), (3, .int 0), (4, .int i22_4), (5, .int (f2 f i22_1))], [], M133) _
                      refine ml_st (S' := (247, [(6, .int i22_4), (0, .ref m0), (1, .int i22_1), (2, .int (f2 f fA)), (3, .int 0), (4, .int i22_4), (5, .int (f2 f i22_1))], [.ref m0], M133)) rfl rfl rfl ?_
                      refine rg_ref (S' := (250, [(6, .int i22_4), (0, .ref m0), (1, .int i22_1), (2, .int (f2 f fA)), (3, .int 0), (4, .int i22_4), (5, .int (f2 f i22_1))], [.ref (q 32)], M133)) rfl hR135 rfl rfl ?_
                      refine ml_blk 3 (S' := (254, [(6, .int i22_4), (0, .ref m0), (1, .int i22_1), (2, .int (f2 f fA)), (3, .int 0), (4, .int i22_4), (5, .int (f2 f i22_1))], [.int i22_1, .ref m0, .int i22_4, .ref (q 32)], M133)) rfl ?_
                      refine ml_blk 2 (S' := (256, [(6, .int i22_4), (0, .ref m0), (1, .int i22_1), (2, .int (f2 f fA)), (3, .int 0), (4, .int i22_4), (5, .int (f2 f i22_1))], [.int (i22_1 + 2), .ref m0, .int i22_4, .ref (q 32)], M133)) rfl ?_
                      have hF139 : FK n f I_22 R134 := (((hF113.mono (fun _ _ => rfl) (pRx f126 (by decide))).mono (fun _ _ => rfl) (pRx f132 (by decide))).mono (fun _ _ => rfl) (pRx f138 (by decide)))
                      refine ml_call (a := [.ref m0, .int (i22_1 + 2)]) (rest := [.int i22_4, .ref (q 32)]) rfl (hR135.okc rfl rfl rfl) rfl rfl (rm_u2 hR135 hF139 (by omega) (by omega) (by omega)) (fun v140 M141 h142 => ?_)
                      obtain ⟨rfl, h142⟩ := h142
                      rw [h142]
                      show ml _ _ _ (259, [(6, .int i22_4), (0, .ref m0), (1, .int i22_1), (2, .int (f2 f fA)), (3, .int 0), (4, .int i22_4), (5, .int (f2 f i22_1))], [.int (f2 f (i22_1 + 2)), .int i22_4, .ref (q 32)], M133) _
                      refine ra_st (k := 32) rfl hR135 rfl (vin_lt hk0 (by omega)) (fun M143 R144 hR145 e146 g147 f148 => ?_)
                      show ml _ _ _ (260, [(6, .int i22_4), (0, .ref m0), (1, .int i22_1), (2, .int (f2 f fA)), (3, .int 0), (4, .int i22_4), (5, .int (f2 f i22_1))], [], M143) _
                      refine ml_st (S' := (261, [(6, .int i22_4), (0, .ref m0), (1, .int i22_1), (2, .int (f2 f fA)), (3, .int 0), (4, .int i22_4), (5, .int (f2 f i22_1))], [.ref m0], M143)) rfl rfl rfl ?_
                      refine rg_ref (S' := (264, [(6, .int i22_4), (0, .ref m0), (1, .int i22_1), (2, .int (f2 f fA)), (3, .int 0), (4, .int i22_4), (5, .int (f2 f i22_1))], [.ref (q 33)], M143)) rfl hR145 rfl rfl ?_
                      refine ml_blk 3 (S' := (268, [(6, .int i22_4), (0, .ref m0), (1, .int i22_1), (2, .int (f2 f fA)), (3, .int 0), (4, .int i22_4), (5, .int (f2 f i22_1))], [.int i22_1, .ref m0, .int i22_4, .ref (q 33)], M143)) rfl ?_
                      refine ml_blk 2 (S' := (270, [(6, .int i22_4), (0, .ref m0), (1, .int i22_1), (2, .int (f2 f fA)), (3, .int 0), (4, .int i22_4), (5, .int (f2 f i22_1))], [.int (i22_1 + 4), .ref m0, .int i22_4, .ref (q 33)], M143)) rfl ?_
                      have hF149 : FK n f I_22 R144 := (hF139.mono (fun _ _ => rfl) (pRx f148 (by decide)))
                      refine ml_call (a := [.ref m0, .int (i22_1 + 4)]) (rest := [.int i22_4, .ref (q 33)]) rfl (hR145.okc rfl rfl rfl) rfl rfl (rm_u2 hR145 hF149 (by omega) (by omega) (by omega)) (fun v150 M151 h152 => ?_)
                      obtain ⟨rfl, h152⟩ := h152
                      rw [h152]
                      show ml _ _ _ (273, [(6, .int i22_4), (0, .ref m0), (1, .int i22_1), (2, .int (f2 f fA)), (3, .int 0), (4, .int i22_4), (5, .int (f2 f i22_1))], [.int (f2 f (i22_1 + 4)), .int i22_4, .ref (q 33)], M143) _
                      refine ra_st (k := 33) rfl hR145 rfl (vin_lt hk0 (by omega)) (fun M153 R154 hR155 e156 g157 f158 => ?_)
                      show ml _ _ _ (274, [(6, .int i22_4), (0, .ref m0), (1, .int i22_1), (2, .int (f2 f fA)), (3, .int 0), (4, .int i22_4), (5, .int (f2 f i22_1))], [], M153) _
                      refine ml_st (S' := (275, [(6, .int i22_4), (0, .ref m0), (1, .int i22_1), (2, .int (f2 f fA)), (3, .int 0), (4, .int i22_4), (5, .int (f2 f i22_1))], [.int 0], M153)) rfl rfl rfl ?_
                      refine ml_st (S' := (277, [(0, .ref m0), (1, .int i22_1), (2, .int (f2 f fA)), (3, .int 0), (4, .int i22_4), (6, .int i22_4), (7, .int 0)], [], M153)) rfl rfl rfl ?_
                      have L_277 : ∀ (n_277 : Nat) (i277_7 : Int32), (2147483648 - i277_7.toInt).toNat ≤ n_277 → 0 ≤ i277_7.toInt → ml (mT g) d (mb_189 g).2 (277, [(0, .ref m0), (1, .int i22_1), (2, .int (f2 f fA)), (3, .int 0), (4, .int i22_4), (6, .int i22_4), (7, .int i277_7)], [], M153) (fun v M' => ∃ (x : Int32) (I' : rI) (R' : rR), v = some (.int x) ∧ RS g m0 q z I' R' M' ∧ eqI [25, 47, 48] I I' ∧ eqR [27, 28, 29, 30, 31, 32, 33] R R' ∧ (x = 0 ∨ x = 1) ∧ (x = 0 ∨ ∃ k : Nat, k ≤ 8192 ∧ I' 25 = some (nI k) ∧ FKN k R')) := by
                        intro n_277
                        induction n_277 with
                        | zero => intro i277_7 hn; exact (loop_zero hn).elim
                        | succ n_277 ih_277 =>
                          intro i277_7 hn_277 hi_277
                          have hq0 := hi_277
                          refine ml_blk 2 (S' := (281, [(0, .ref m0), (1, .int i22_1), (2, .int (f2 f fA)), (3, .int 0), (4, .int i22_4), (6, .int i22_4), (7, .int i277_7)], [.int i22_4, .int i277_7], M153)) rfl ?_
                          refine ml_if2 (S1 := (332, [(0, .ref m0), (1, .int i22_1), (2, .int (f2 f fA)), (3, .int 0), (4, .int i22_4), (6, .int i22_4), (7, .int i277_7)], [], M153)) (S2 := (284, [(0, .ref m0), (1, .int i22_1), (2, .int (f2 f fA)), (3, .int 0), (4, .int i22_4), (6, .int i22_4), (7, .int i277_7)], [], M153)) rfl rfl rfl (fun c_281 => ?_) (fun c_281 => ?_)
                          · have c_281 : i22_4 ≤ i277_7 := of_decide_eq_true c_281
                            refine ml_blk 2 (S' := (334, [(0, .ref m0), (1, .int i22_1), (2, .int (f2 f fA)), (3, .int 0), (4, .int i22_4), (6, .int i22_4), (7, .int i277_7)], [.ref m0, .ref m0], M153)) rfl ?_
                            refine rg_int (S' := (337, [(0, .ref m0), (1, .int i22_1), (2, .int (f2 f fA)), (3, .int 0), (4, .int i22_4), (6, .int i22_4), (7, .int i277_7)], [.int i22_4, .ref m0], M153)) rfl hR155 rfl (h25) rfl ?_
                            refine ml_blk 2 (S' := (339, [(0, .ref m0), (1, .int i22_1), (2, .int (f2 f fA)), (3, .int 0), (4, .int i22_4), (6, .int i22_4), (7, .int i277_7)], [.int (i22_4 + 1), .ref m0], M153)) rfl ?_
                            refine rp_int rfl hR155 rfl (fun M159 I160 hR161 e162 f163 => ?_)
                            show ml _ _ _ (342, [(0, .ref m0), (1, .int i22_1), (2, .int (f2 f fA)), (3, .int 0), (4, .int i22_4), (6, .int i22_4), (7, .int i277_7)], [], M159) _
                            refine ml_blk 3 (S' := (346, [(0, .ref m0), (1, .int i22_1), (2, .int (f2 f fA)), (3, .int 0), (4, .int i22_4), (6, .int i22_4), (7, .int i277_7)], [.int 6, .int i22_1, .ref m0], M159)) rfl ?_
                            refine ml_blk 3 (S' := (350, [(0, .ref m0), (1, .int i22_1), (2, .int (f2 f fA)), (3, .int 0), (4, .int i22_4), (6, .int i22_4), (7, .int i277_7)], [.int i22_4, .int 1, .int (i22_1 + 6), .ref m0], M159)) rfl ?_
                            have hF164 : FK n f I160 R154 := ((hF149.mono (fun _ _ => rfl) (pRx f158 (by decide))).mono (pIx f163 (by decide)) (fun _ _ => rfl))
                            have hY165 : SK S cN sa sl ch I160 R154 := ((((((((hY58.mono (fun _ _ => rfl) (pRx f98 (by decide))).mono (fun _ _ => rfl) (pRx f112 (by decide))).mono (fun _ _ => rfl) (pRx f126 (by decide))).mono (fun _ _ => rfl) (pRx f132 (by decide))).mono (fun _ _ => rfl) (pRx f138 (by decide))).mono (fun _ _ => rfl) (pRx f148 (by decide))).mono (fun _ _ => rfl) (pRx f158 (by decide))).mono (pIx f163 (by decide)) (fun _ _ => rfl))
                            have hP166 : PK n f S cp mj pa py I160 R154 := ((((((hP117.mono (fun _ _ => rfl) (pRx f126 (by decide))).mono (fun _ _ => rfl) (pRx f132 (by decide))).mono (fun _ _ => rfl) (pRx f138 (by decide))).mono (fun _ _ => rfl) (pRx f148 (by decide))).mono (fun _ _ => rfl) (pRx f158 (by decide))).mono (pIx f163 (by decide)) (fun _ _ => rfl))
                            have hK167 : KW I160 R154 := (((((((((hK.mono (cIx hI_22 (by decide)) (cRx hV_22 (by decide))).mono (fun _ _ => rfl) (pRx f98 (by decide))).mono (fun _ _ => rfl) (pRx f112 (by decide))).mono (fun _ _ => rfl) (pRx f126 (by decide))).mono (fun _ _ => rfl) (pRx f132 (by decide))).mono (fun _ _ => rfl) (pRx f138 (by decide))).mono (fun _ _ => rfl) (pRx f148 (by decide))).mono (fun _ _ => rfl) (pRx f158 (by decide))).mono (pIx f163 (by decide)) (fun _ _ => rfl))
                            refine ml_call (a := [.ref m0, .int (i22_1 + 6), .int 1, .int i22_4]) (rest := []) rfl (hR161.okc rfl rfl rfl) rfl rfl (rm_checkAttributes1 hR161 hF164 hY165 hP166 hK167 (rfl) (g2) (hk0) (hk8) ((congrFun ((f158 27 (by decide)).trans ((f148 27 (by decide)).trans ((f138 27 (by decide)).trans ((f132 27 (by decide)).trans ((f126 27 (by decide)).trans ((f112 27 (by decide)))))))) _).trans e96) ((congrFun ((f158 29 (by decide)).trans ((f148 29 (by decide)).trans ((f138 29 (by decide)).trans ((f132 29 (by decide)))))) _).trans e124) (hyB.2.2.1) (hyB.2.2.2) (hlnB) (fun k hk => by simp only [List.mem_cons, List.not_mem_nil, or_false] at hk; rcases hk with rfl | rfl; exact ⟨_, (congrFun ((f158 30 (by decide)).trans ((f148 30 (by decide)).trans ((f138 30 (by decide))))) _).trans e130⟩; exact ⟨_, (congrFun ((f158 31 (by decide)).trans ((f148 31 (by decide)))) _).trans e136⟩) (by omega)) (fun v168 M169 h170 => ?_)
                            obtain ⟨u176, I171, R172, rfl, hR173, hI174, hV175, w177⟩ := h170
                            show ml _ _ _ (353, [(0, .ref m0), (1, .int i22_1), (2, .int (f2 f fA)), (3, .int 0), (4, .int i22_4), (6, .int i22_4), (7, .int i277_7)], [.int u176], M169) _
                            obtain ⟨hend, hpw9, hkn9⟩ := w177
                            refine ml_st (S' := (354, [(1, .int u176), (0, .ref m0), (2, .int (f2 f fA)), (3, .int 0), (4, .int i22_4), (6, .int i22_4), (7, .int i277_7)], [], M169)) rfl rfl rfl ?_
                            refine ml_st (S' := (355, [(1, .int u176), (0, .ref m0), (2, .int (f2 f fA)), (3, .int 0), (4, .int i22_4), (6, .int i22_4), (7, .int i277_7)], [.int u176], M169)) rfl rfl rfl ?_
                            refine ml_if (S1 := (360, [(1, .int u176), (0, .ref m0), (2, .int (f2 f fA)), (3, .int 0), (4, .int i22_4), (6, .int i22_4), (7, .int i277_7)], [], M169)) (S2 := (358, [(1, .int u176), (0, .ref m0), (2, .int (f2 f fA)), (3, .int 0), (4, .int i22_4), (6, .int i22_4), (7, .int i277_7)], [], M169)) rfl rfl rfl (fun c_355 => ?_) (fun c_355 => ?_)
                            · have c_355 : 0 ≤ u176 := of_decide_eq_true c_355
                              have hub : u176 = b1 := hend.resolve_left (fun q => by have := i_le c_355; have : (0 : Int32).toInt = 0 := rfl; omega)
                              have hfk2 : FKN (i22_4.toInt.toNat + 1) R172 := FKN.step (k := i22_4.toInt.toNat) hfk ((((((((pw.rf.st g97 f98 rfl).st g111 f112 rfl).st g125 f126 rfl).st g131 f132 rfl).st g137 f138 rfl).st g147 f148 rfl).st g157 f158 rfl).tr hpw9) (fun k hk => by simp only [List.mem_cons, List.not_mem_nil, or_false] at hk; rcases hk with rfl | rfl | rfl | rfl | rfl | rfl | rfl; exact ⟨_, (congrFun ((hV175 27 (by decide)).trans ((f158 27 (by decide)).trans ((f148 27 (by decide)).trans ((f138 27 (by decide)).trans ((f132 27 (by decide)).trans ((f126 27 (by decide)).trans ((f112 27 (by decide))))))))) _).trans e96⟩; exact ⟨_, (congrFun ((hV175 28 (by decide)).trans ((f158 28 (by decide)).trans ((f148 28 (by decide)).trans ((f138 28 (by decide)).trans ((f132 28 (by decide)).trans ((f126 28 (by decide)))))))) _).trans e110⟩; exact ⟨_, (congrFun ((hV175 29 (by decide)).trans ((f158 29 (by decide)).trans ((f148 29 (by decide)).trans ((f138 29 (by decide)).trans ((f132 29 (by decide))))))) _).trans e124⟩; exact hkn9 30 (by decide); exact hkn9 31 (by decide); exact ⟨_, (congrFun ((hV175 32 (by decide)).trans ((f158 32 (by decide)))) _).trans e146⟩; exact ⟨_, (congrFun ((hV175 33 (by decide))) _).trans e156⟩)
                              refine ml_st (S' := (363, [(4, .int (i22_4 + 1)), (1, .int u176), (0, .ref m0), (2, .int (f2 f fA)), (3, .int 0), (6, .int i22_4), (7, .int i277_7)], [], M169)) rfl rfl rfl ?_
                              refine ml_st (S' := (22, [(0, .ref m0), (1, .int u176), (2, .int (f2 f fA)), (3, .int 0), (4, .int (i22_4 + 1))], [], M169)) rfl rfl rfl ?_
                              exact ih_22 u176 (i22_4 + 1) _ _ _ (loop_inc (Int32.not_le.mp c_25) hn_22) hR173 (((eqI.rf.tr hI_22 (by decide)).put f163 (by decide)).tr hI174 (by decide)) (((((((((eqR.rf.tr hV_22 (by decide)).put f98 (by decide)).put f112 (by decide)).put f126 (by decide)).put f132 (by decide)).put f138 (by decide)).put f148 (by decide)).put f158 (by decide)).tr hV175 (by decide)) (⟨by rw [inc_lt (Int32.not_le.mp c_25)]; omega, by rw [inc_lt (Int32.not_le.mp c_25)]; omega, (hI174 25 (by decide)).trans (e162), by rw [hub]; exact hnx, by rw [hub, inc_lt (Int32.not_le.mp c_25)]; have q := hg.1; omega, by rw [show (i22_4 + 1).toInt.toNat = i22_4.toInt.toNat + 1 by rw [inc_lt (Int32.not_le.mp c_25)]; omega]; exact hfk2⟩)
                            · have c_355 : ¬ (0 ≤ u176) := of_decide_eq_false c_355
                              refine ml_st (S' := (359, [(1, .int u176), (0, .ref m0), (2, .int (f2 f fA)), (3, .int 0), (4, .int i22_4), (6, .int i22_4), (7, .int i277_7)], [.int 0], M169)) rfl rfl rfl ?_
                              exact ml_ret rfl (r_z (Or.inl rfl)) (⟨_, _, _, rfl, hR173, (((eqI.rf.tr hI_22 (by decide)).put f163 (by decide)).tr hI174 (by decide)), (((((((((eqR.rf.tr hV_22 (by decide)).put f98 (by decide)).put f112 (by decide)).put f126 (by decide)).put f132 (by decide)).put f138 (by decide)).put f148 (by decide)).put f158 (by decide)).tr hV175 (by decide)), Or.inl rfl, Or.inl rfl⟩)
                          · have c_281 : ¬ (i22_4 ≤ i277_7) := of_decide_eq_false c_281
                            have hql := i_nle c_281
                            refine ml_st (S' := (285, [(0, .ref m0), (1, .int i22_1), (2, .int (f2 f fA)), (3, .int 0), (4, .int i22_4), (6, .int i22_4), (7, .int i277_7)], [.ref m0], M153)) rfl rfl rfl ?_
                            refine rg_ref (S' := (288, [(0, .ref m0), (1, .int i22_1), (2, .int (f2 f fA)), (3, .int 0), (4, .int i22_4), (6, .int i22_4), (7, .int i277_7)], [.ref (q 28)], M153)) rfl hR155 rfl rfl ?_
                            refine ml_st (S' := (290, [(0, .ref m0), (1, .int i22_1), (2, .int (f2 f fA)), (3, .int 0), (4, .int i22_4), (6, .int i22_4), (7, .int i277_7)], [.int i277_7, .ref (q 28)], M153)) rfl rfl rfl ?_
                            obtain ⟨v178, hv179⟩ := hfk i277_7.toNatClampNeg (by show i277_7.toInt.toNat < i22_4.toInt.toNat; omega) 28 (by decide)
                            have q180 : pw i22_4.toNatClampNeg R_22 R154 := (((((((pw.rf.st g97 f98 rfl).st g111 f112 rfl).st g125 f126 rfl).st g131 f132 rfl).st g137 f138 rfl).st g147 f148 rfl).st g157 f158 rfl)
                            refine ra_ld (k := 28) (S' := (291, [(0, .ref m0), (1, .int i22_1), (2, .int (f2 f fA)), (3, .int 0), (4, .int i22_4), (6, .int i22_4), (7, .int i277_7)], [.int v178], M153)) rfl hR155 rfl (vin_lt hq0 (by omega)) ((q180 28 _ (by show i277_7.toInt.toNat ≠ i22_4.toInt.toNat; omega)).trans hv179) rfl ?_
                            refine ml_st (S' := (292, [(0, .ref m0), (1, .int i22_1), (2, .int (f2 f fA)), (3, .int 0), (4, .int i22_4), (6, .int i22_4), (7, .int i277_7)], [.ref m0, .int v178], M153)) rfl rfl rfl ?_
                            refine rg_ref (S' := (295, [(0, .ref m0), (1, .int i22_1), (2, .int (f2 f fA)), (3, .int 0), (4, .int i22_4), (6, .int i22_4), (7, .int i277_7)], [.ref (q 28), .int v178], M153)) rfl hR155 rfl rfl ?_
                            refine ml_st (S' := (297, [(0, .ref m0), (1, .int i22_1), (2, .int (f2 f fA)), (3, .int 0), (4, .int i22_4), (6, .int i22_4), (7, .int i277_7)], [.int i22_4, .ref (q 28), .int v178], M153)) rfl rfl rfl ?_
                            refine ra_ld (k := 28) (S' := (298, [(0, .ref m0), (1, .int i22_1), (2, .int (f2 f fA)), (3, .int 0), (4, .int i22_4), (6, .int i22_4), (7, .int i277_7)], [.int (pyf py (f2 f (i22_1 + 2))), .int v178], M153)) rfl hR155 rfl (vin_lt hk0 (by omega)) ((congrFun ((f158 28 (by decide)).trans ((f148 28 (by decide)).trans ((f138 28 (by decide)).trans ((f132 28 (by decide)).trans ((f126 28 (by decide))))))) _).trans e110) rfl ?_
                            refine ml_if2 (S1 := (326, [(0, .ref m0), (1, .int i22_1), (2, .int (f2 f fA)), (3, .int 0), (4, .int i22_4), (6, .int i22_4), (7, .int i277_7)], [], M153)) (S2 := (301, [(0, .ref m0), (1, .int i22_1), (2, .int (f2 f fA)), (3, .int 0), (4, .int i22_4), (6, .int i22_4), (7, .int i277_7)], [], M153)) rfl rfl rfl (fun c_298 => ?_) (fun c_298 => ?_)
                            · have c_298 : ¬ v178 = (pyf py (f2 f (i22_1 + 2))) := of_decide_eq_true c_298
                              refine ml_st (S' := (329, [(7, .int (i277_7 + 1)), (0, .ref m0), (1, .int i22_1), (2, .int (f2 f fA)), (3, .int 0), (4, .int i22_4), (6, .int i22_4)], [], M153)) rfl rfl rfl ?_
                              refine ml_st (S' := (277, [(0, .ref m0), (1, .int i22_1), (2, .int (f2 f fA)), (3, .int 0), (4, .int i22_4), (6, .int i22_4), (7, .int (i277_7 + 1))], [], M153)) rfl rfl rfl ?_
                              exact ih_277 (i277_7 + 1) (loop_inc (Int32.not_le.mp c_281) hn_277) (by rw [inc_lt (Int32.not_le.mp c_281)]; omega)
                            · have c_298 : ¬ (¬ v178 = (pyf py (f2 f (i22_1 + 2)))) := of_decide_eq_false c_298
                              refine ml_st (S' := (302, [(0, .ref m0), (1, .int i22_1), (2, .int (f2 f fA)), (3, .int 0), (4, .int i22_4), (6, .int i22_4), (7, .int i277_7)], [.ref m0], M153)) rfl rfl rfl ?_
                              refine rg_ref (S' := (305, [(0, .ref m0), (1, .int i22_1), (2, .int (f2 f fA)), (3, .int 0), (4, .int i22_4), (6, .int i22_4), (7, .int i277_7)], [.ref (q 29)], M153)) rfl hR155 rfl rfl ?_
                              refine ml_st (S' := (307, [(0, .ref m0), (1, .int i22_1), (2, .int (f2 f fA)), (3, .int 0), (4, .int i22_4), (6, .int i22_4), (7, .int i277_7)], [.int i277_7, .ref (q 29)], M153)) rfl rfl rfl ?_
                              obtain ⟨v181, hv182⟩ := hfk i277_7.toNatClampNeg (by show i277_7.toInt.toNat < i22_4.toInt.toNat; omega) 29 (by decide)
                              have q183 : pw i22_4.toNatClampNeg R_22 R154 := (((((((pw.rf.st g97 f98 rfl).st g111 f112 rfl).st g125 f126 rfl).st g131 f132 rfl).st g137 f138 rfl).st g147 f148 rfl).st g157 f158 rfl)
                              refine ra_ld (k := 29) (S' := (308, [(0, .ref m0), (1, .int i22_1), (2, .int (f2 f fA)), (3, .int 0), (4, .int i22_4), (6, .int i22_4), (7, .int i277_7)], [.int v181], M153)) rfl hR155 rfl (vin_lt hq0 (by omega)) ((q183 29 _ (by show i277_7.toInt.toNat ≠ i22_4.toInt.toNat; omega)).trans hv182) rfl ?_
                              refine ml_st (S' := (309, [(0, .ref m0), (1, .int i22_1), (2, .int (f2 f fA)), (3, .int 0), (4, .int i22_4), (6, .int i22_4), (7, .int i277_7)], [.ref m0, .int v181], M153)) rfl rfl rfl ?_
                              refine rg_ref (S' := (312, [(0, .ref m0), (1, .int i22_1), (2, .int (f2 f fA)), (3, .int 0), (4, .int i22_4), (6, .int i22_4), (7, .int i277_7)], [.ref (q 29), .int v181], M153)) rfl hR155 rfl rfl ?_
                              refine ml_st (S' := (314, [(0, .ref m0), (1, .int i22_1), (2, .int (f2 f fA)), (3, .int 0), (4, .int i22_4), (6, .int i22_4), (7, .int i277_7)], [.int i22_4, .ref (q 29), .int v181], M153)) rfl rfl rfl ?_
                              refine ra_ld (k := 29) (S' := (315, [(0, .ref m0), (1, .int i22_1), (2, .int (f2 f fA)), (3, .int 0), (4, .int i22_4), (6, .int i22_4), (7, .int i277_7)], [.int (pyf py (f2 f (i22_1 + 4))), .int v181], M153)) rfl hR155 rfl (vin_lt hk0 (by omega)) ((congrFun ((f158 29 (by decide)).trans ((f148 29 (by decide)).trans ((f138 29 (by decide)).trans ((f132 29 (by decide)))))) _).trans e124) rfl ?_
                              refine ml_if2 (S1 := (326, [(0, .ref m0), (1, .int i22_1), (2, .int (f2 f fA)), (3, .int 0), (4, .int i22_4), (6, .int i22_4), (7, .int i277_7)], [], M153)) (S2 := (318, [(0, .ref m0), (1, .int i22_1), (2, .int (f2 f fA)), (3, .int 0), (4, .int i22_4), (6, .int i22_4), (7, .int i277_7)], [], M153)) rfl rfl rfl (fun c_315 => ?_) (fun c_315 => ?_)
                              · have c_315 : ¬ v181 = (pyf py (f2 f (i22_1 + 4))) := of_decide_eq_true c_315
                                refine ml_st (S' := (329, [(7, .int (i277_7 + 1)), (0, .ref m0), (1, .int i22_1), (2, .int (f2 f fA)), (3, .int 0), (4, .int i22_4), (6, .int i22_4)], [], M153)) rfl rfl rfl ?_
                                refine ml_st (S' := (277, [(0, .ref m0), (1, .int i22_1), (2, .int (f2 f fA)), (3, .int 0), (4, .int i22_4), (6, .int i22_4), (7, .int (i277_7 + 1))], [], M153)) rfl rfl rfl ?_
                                exact ih_277 (i277_7 + 1) (loop_inc (Int32.not_le.mp c_281) hn_277) (by rw [inc_lt (Int32.not_le.mp c_281)]; omega)
                              · have c_315 : ¬ (¬ v181 = (pyf py (f2 f (i22_1 + 4)))) := of_decide_eq_false c_315
                                refine ml_blk 3 (S' := (322, [(0, .ref m0), (1, .int i22_1), (2, .int (f2 f fA)), (3, .int 0), (4, .int i22_4), (6, .int i22_4), (7, .int i277_7)], [.int i22_1, .int 22, .ref m0], M153)) rfl ?_
                                refine ml_call (a := [.ref m0, .int 22, .int i22_1]) (rest := []) rfl (hR155.okc rfl rfl rfl) rfl rfl (rm_wrong hR155 (by omega)) (fun v184 M185 h186 => ?_)
                                obtain ⟨u192, I187, R188, rfl, hR189, hI190, hV191, z193, w194⟩ := h186
                                show ml _ _ _ (325, [(0, .ref m0), (1, .int i22_1), (2, .int (f2 f fA)), (3, .int 0), (4, .int i22_4), (6, .int i22_4), (7, .int i277_7)], [.int u192], M185) _
                                exact ml_ret rfl (r_z (z193)) (⟨_, _, _, rfl, hR189, ((eqI.rf.tr hI_22 (by decide)).tr hI190 (by decide)), (((((((((eqR.rf.tr hV_22 (by decide)).put f98 (by decide)).put f112 (by decide)).put f126 (by decide)).put f132 (by decide)).put f138 (by decide)).put f148 (by decide)).put f158 (by decide)).tr hV191 (by decide)), z193, Or.inl w194⟩)
                      exact L_277 _ 0 (Nat.le_refl _) (by decide)
                    · have c_166 : ¬ (¬ u90 = 0) := of_decide_eq_false c_166
                      refine ml_blk 3 (S' := (173, [(0, .ref m0), (1, .int i22_1)], [.int i22_1, .int 21, .ref m0], M_22)) rfl ?_
                      refine ml_blk 2 (S' := (175, [(0, .ref m0), (1, .int i22_1)], [.int (i22_1 + 4), .int 21, .ref m0], M_22)) rfl ?_
                      refine ml_call (a := [.ref m0, .int 21, .int (i22_1 + 4)]) (rest := []) rfl (hR_22.okc rfl rfl rfl) rfl rfl (rm_wrong hR_22 (by omega)) (fun v195 M196 h197 => ?_)
                      obtain ⟨u203, I198, R199, rfl, hR200, hI201, hV202, z204, w205⟩ := h197
                      show ml _ _ _ (178, [(0, .ref m0), (1, .int i22_1)], [.int u203], M196) _
                      exact ml_ret rfl (r_z (z204)) (⟨_, _, _, rfl, hR200, ((eqI.rf.tr hI_22 (by decide)).tr hI201 (by decide)), ((eqR.rf.tr hV_22 (by decide)).tr hV202 (by decide)), z204, Or.inl w205⟩)
                · have c_123 : ¬ (¬ u62 = 0) := of_decide_eq_false c_123
                  refine ml_blk 3 (S' := (130, [(0, .ref m0), (1, .int i22_1)], [.int i22_1, .int 20, .ref m0], M_22)) rfl ?_
                  refine ml_blk 2 (S' := (132, [(0, .ref m0), (1, .int i22_1)], [.int (i22_1 + 2), .int 20, .ref m0], M_22)) rfl ?_
                  refine ml_call (a := [.ref m0, .int 20, .int (i22_1 + 2)]) (rest := []) rfl (hR_22.okc rfl rfl rfl) rfl rfl (rm_wrong hR_22 (by omega)) (fun v206 M207 h208 => ?_)
                  obtain ⟨u214, I209, R210, rfl, hR211, hI212, hV213, z215, w216⟩ := h208
                  show ml _ _ _ (135, [(0, .ref m0), (1, .int i22_1)], [.int u214], M207) _
                  exact ml_ret rfl (r_z (z215)) (⟨_, _, _, rfl, hR211, ((eqI.rf.tr hI_22 (by decide)).tr hI212 (by decide)), ((eqR.rf.tr hV_22 (by decide)).tr hV213 (by decide)), z215, Or.inl w216⟩)
            refine ml_if (S1 := (92, [(0, .ref m0), (1, .int i22_1), (2, .int (f2 f fA)), (3, .int 0), (4, .int i22_4), (5, .int (f2 f i22_1))], [], M_22)) (S2 := (73, [(0, .ref m0), (1, .int i22_1), (2, .int (f2 f fA)), (3, .int 0), (4, .int i22_4), (5, .int (f2 f i22_1))], [], M_22)) rfl rfl rfl (fun c_70 => ?_) (fun c_70 => ?_)
            · have c_70 : (nf &&& 512) = 0 := of_decide_eq_true c_70
              exact J_92 
            · have c_70 : ¬ ((nf &&& 512) = 0) := of_decide_eq_false c_70
              refine ml_blk 3 (S' := (79, [(0, .ref m0), (1, .int i22_1), (2, .int (f2 f fA)), (3, .int 0), (4, .int i22_4), (5, .int (f2 f i22_1))], [.int ((f2 f i22_1) &&& 16607)], M_22)) rfl ?_
              refine ml_st (S' := (81, [(0, .ref m0), (1, .int i22_1), (2, .int (f2 f fA)), (3, .int 0), (4, .int i22_4), (5, .int (f2 f i22_1))], [.int 25, .int ((f2 f i22_1) &&& 16607)], M_22)) rfl rfl rfl ?_
              refine ml_if2 (S1 := (92, [(0, .ref m0), (1, .int i22_1), (2, .int (f2 f fA)), (3, .int 0), (4, .int i22_4), (5, .int (f2 f i22_1))], [], M_22)) (S2 := (84, [(0, .ref m0), (1, .int i22_1)], [], M_22)) rfl rfl rfl (fun c_81 => ?_) (fun c_81 => ?_)
              · have c_81 : ((f2 f i22_1) &&& 16607) = 25 := of_decide_eq_true c_81
                exact J_92 
              · have c_81 : ¬ (((f2 f i22_1) &&& 16607) = 25) := of_decide_eq_false c_81
                refine ml_blk 3 (S' := (88, [(0, .ref m0), (1, .int i22_1)], [.int i22_1, .int 19, .ref m0], M_22)) rfl ?_
                refine ml_call (a := [.ref m0, .int 19, .int i22_1]) (rest := []) rfl (hR_22.okc rfl rfl rfl) rfl rfl (rm_wrong hR_22 (by omega)) (fun v217 M218 h219 => ?_)
                obtain ⟨u225, I220, R221, rfl, hR222, hI223, hV224, z226, w227⟩ := h219
                show ml _ _ _ (91, [(0, .ref m0), (1, .int i22_1)], [.int u225], M218) _
                exact ml_ret rfl (r_z (z226)) (⟨_, _, _, rfl, hR222, ((eqI.rf.tr hI_22 (by decide)).tr hI223 (by decide)), ((eqR.rf.tr hV_22 (by decide)).tr hV224 (by decide)), z226, Or.inl w227⟩)
          · have c_51 : ¬ (((f2 f i22_1) &&& 16) = 0) := of_decide_eq_false c_51
            refine ml_blk 3 (S' := (59, [(5, .int (f2 f i22_1)), (0, .ref m0), (1, .int i22_1), (2, .int (f2 f fA)), (3, .int 0), (4, .int i22_4)], [.int ((f2 f i22_1) &&& 64)], M_22)) rfl ?_
            refine ml_if (S1 := (84, [(0, .ref m0), (1, .int i22_1)], [], M_22)) (S2 := (62, [(0, .ref m0), (1, .int i22_1), (2, .int (f2 f fA)), (3, .int 0), (4, .int i22_4), (5, .int (f2 f i22_1))], [], M_22)) rfl rfl rfl (fun c_59 => ?_) (fun c_59 => ?_)
            · have c_59 : ¬ ((f2 f i22_1) &&& 64) = 0 := of_decide_eq_true c_59
              refine ml_blk 3 (S' := (88, [(0, .ref m0), (1, .int i22_1)], [.int i22_1, .int 19, .ref m0], M_22)) rfl ?_
              refine ml_call (a := [.ref m0, .int 19, .int i22_1]) (rest := []) rfl (hR_22.okc rfl rfl rfl) rfl rfl (rm_wrong hR_22 (by omega)) (fun v228 M229 h230 => ?_)
              obtain ⟨u236, I231, R232, rfl, hR233, hI234, hV235, z237, w238⟩ := h230
              show ml _ _ _ (91, [(0, .ref m0), (1, .int i22_1)], [.int u236], M229) _
              exact ml_ret rfl (r_z (z237)) (⟨_, _, _, rfl, hR233, ((eqI.rf.tr hI_22 (by decide)).tr hI234 (by decide)), ((eqR.rf.tr hV_22 (by decide)).tr hV235 (by decide)), z237, Or.inl w238⟩)
            · have c_59 : ¬ (¬ ((f2 f i22_1) &&& 64) = 0) := of_decide_eq_false c_59
              refine ml_st (S' := (63, [(0, .ref m0), (1, .int i22_1), (2, .int (f2 f fA)), (3, .int 0), (4, .int i22_4), (5, .int (f2 f i22_1))], [.ref m0], M_22)) rfl rfl rfl ?_
              refine rg_int (S' := (66, [(0, .ref m0), (1, .int i22_1), (2, .int (f2 f fA)), (3, .int 0), (4, .int i22_4), (5, .int (f2 f i22_1))], [.int nf], M_22)) rfl hR_22 rfl ((hI_22 58 (by decide)).trans (hk58)) rfl ?_
              refine ml_blk 2 (S' := (70, [(0, .ref m0), (1, .int i22_1), (2, .int (f2 f fA)), (3, .int 0), (4, .int i22_4), (5, .int (f2 f i22_1))], [.int (nf &&& 512)], M_22)) rfl ?_
              have J_92 : ml (mT g) d (mb_189 g).2 (92, [(0, .ref m0), (1, .int i22_1), (2, .int (f2 f fA)), (3, .int 0), (4, .int i22_4), (5, .int (f2 f i22_1))], [], M_22) (fun v M' => ∃ (x : Int32) (I' : rI) (R' : rR), v = some (.int x) ∧ RS g m0 q z I' R' M' ∧ eqI [25, 47, 48] I I' ∧ eqR [27, 28, 29, 30, 31, 32, 33] R R' ∧ (x = 0 ∨ x = 1) ∧ (x = 0 ∨ ∃ k : Nat, k ≤ 8192 ∧ I' 25 = some (nI k) ∧ FKN k R')) := by
                refine ml_blk 3 (S' := (95, [(0, .ref m0), (1, .int i22_1), (2, .int (f2 f fA)), (3, .int 0), (4, .int i22_4), (5, .int (f2 f i22_1))], [.int i22_1, .ref m0, .ref m0], M_22)) rfl ?_
                refine ml_blk 2 (S' := (97, [(0, .ref m0), (1, .int i22_1), (2, .int (f2 f fA)), (3, .int 0), (4, .int i22_4), (5, .int (f2 f i22_1))], [.int (i22_1 + 2), .ref m0, .ref m0], M_22)) rfl ?_
                refine ml_call (a := [.ref m0, .int (i22_1 + 2)]) (rest := [.ref m0]) rfl (hR_22.okc rfl rfl rfl) rfl rfl (rm_u2 hR_22 hF14 (by omega) (by omega) (by omega)) (fun v239 M240 h241 => ?_)
                obtain ⟨rfl, h241⟩ := h241
                rw [h241]
                show ml _ _ _ (100, [(0, .ref m0), (1, .int i22_1), (2, .int (f2 f fA)), (3, .int 0), (4, .int i22_4), (5, .int (f2 f i22_1))], [.int (f2 f (i22_1 + 2)), .ref m0], M_22) _
                have hP242 : PK n f S cp mj pa py I_22 R_22 := (hP.mono (cIx hI_22 (by decide)) (cRx hV_22 (by decide)))
                refine ml_call (a := [.ref m0, .int (f2 f (i22_1 + 2))]) (rest := []) rfl (hR_22.okc rfl rfl rfl) rfl rfl (rm_tag hR_22 hF14 hP242 (by omega)) (fun v243 M244 h245 => ?_)
                obtain ⟨rfl, h245⟩ := h245
                rw [h245]
                show ml _ _ _ (103, [(0, .ref m0), (1, .int i22_1), (2, .int (f2 f fA)), (3, .int 0), (4, .int i22_4), (5, .int (f2 f i22_1))], [.int (tgf f cp pa (f2 f (i22_1 + 2)))], M_22) _
                refine ml_st (S' := (104, [(0, .ref m0), (1, .int i22_1), (2, .int (f2 f fA)), (3, .int 0), (4, .int i22_4), (5, .int (f2 f i22_1))], [.int 1, .int (tgf f cp pa (f2 f (i22_1 + 2)))], M_22)) rfl rfl rfl ?_
                refine ml_if2 (S1 := (126, [(0, .ref m0), (1, .int i22_1)], [], M_22)) (S2 := (107, [(0, .ref m0), (1, .int i22_1), (2, .int (f2 f fA)), (3, .int 0), (4, .int i22_4), (5, .int (f2 f i22_1))], [], M_22)) rfl rfl rfl (fun c_104 => ?_) (fun c_104 => ?_)
                · have c_104 : ¬ (tgf f cp pa (f2 f (i22_1 + 2))) = 1 := of_decide_eq_true c_104
                  refine ml_blk 3 (S' := (130, [(0, .ref m0), (1, .int i22_1)], [.int i22_1, .int 20, .ref m0], M_22)) rfl ?_
                  refine ml_blk 2 (S' := (132, [(0, .ref m0), (1, .int i22_1)], [.int (i22_1 + 2), .int 20, .ref m0], M_22)) rfl ?_
                  refine ml_call (a := [.ref m0, .int 20, .int (i22_1 + 2)]) (rest := []) rfl (hR_22.okc rfl rfl rfl) rfl rfl (rm_wrong hR_22 (by omega)) (fun v246 M247 h248 => ?_)
                  obtain ⟨u254, I249, R250, rfl, hR251, hI252, hV253, z255, w256⟩ := h248
                  show ml _ _ _ (135, [(0, .ref m0), (1, .int i22_1)], [.int u254], M247) _
                  exact ml_ret rfl (r_z (z255)) (⟨_, _, _, rfl, hR251, ((eqI.rf.tr hI_22 (by decide)).tr hI252 (by decide)), ((eqR.rf.tr hV_22 (by decide)).tr hV253 (by decide)), z255, Or.inl w256⟩)
                · have c_104 : ¬ (¬ (tgf f cp pa (f2 f (i22_1 + 2))) = 1) := of_decide_eq_false c_104
                  have hyA := hP.y (show tgf f cp pa (f2 f (i22_1 + 2)) = 1 from Decidable.not_not.mp c_104)
                  refine ml_blk 3 (S' := (110, [(0, .ref m0), (1, .int i22_1), (2, .int (f2 f fA)), (3, .int 0), (4, .int i22_4), (5, .int (f2 f i22_1))], [.ref m0, .ref m0, .ref m0], M_22)) rfl ?_
                  refine ml_blk 3 (S' := (113, [(0, .ref m0), (1, .int i22_1), (2, .int (f2 f fA)), (3, .int 0), (4, .int i22_4), (5, .int (f2 f i22_1))], [.int (i22_1 + 2), .ref m0, .ref m0, .ref m0], M_22)) rfl ?_
                  refine ml_call (a := [.ref m0, .int (i22_1 + 2)]) (rest := [.ref m0, .ref m0]) rfl (hR_22.okc rfl rfl rfl) rfl rfl (rm_u2 hR_22 hF14 (by omega) (by omega) (by omega)) (fun v257 M258 h259 => ?_)
                  obtain ⟨rfl, h259⟩ := h259
                  rw [h259]
                  show ml _ _ _ (116, [(0, .ref m0), (1, .int i22_1), (2, .int (f2 f fA)), (3, .int 0), (4, .int i22_4), (5, .int (f2 f i22_1))], [.int (f2 f (i22_1 + 2)), .ref m0, .ref m0], M_22) _
                  refine ml_call (a := [.ref m0, .int (f2 f (i22_1 + 2))]) (rest := [.ref m0]) rfl (hR_22.okc rfl rfl rfl) rfl rfl (rm_symOf hR_22 hP242 (Decidable.not_not.mp c_104) (by omega)) (fun v260 M261 h262 => ?_)
                  obtain ⟨rfl, h262⟩ := h262
                  rw [h262]
                  show ml _ _ _ (119, [(0, .ref m0), (1, .int i22_1), (2, .int (f2 f fA)), (3, .int 0), (4, .int i22_4), (5, .int (f2 f i22_1))], [.int (pyf py (f2 f (i22_1 + 2))), .ref m0], M_22) _
                  refine ml_st (S' := (120, [(0, .ref m0), (1, .int i22_1), (2, .int (f2 f fA)), (3, .int 0), (4, .int i22_4), (5, .int (f2 f i22_1))], [.int 1, .int (pyf py (f2 f (i22_1 + 2))), .ref m0], M_22)) rfl rfl rfl ?_
                  have hY263 : SK S cN sa sl ch I_22 R_22 := (hY.mono (cIx hI_22 (by decide)) (cRx hV_22 (by decide)))
                  refine ml_call (a := [.ref m0, .int (pyf py (f2 f (i22_1 + 2))), .int 1]) (rest := []) rfl (hR_22.okc rfl rfl rfl) rfl rfl (rm_unqualified hR_22 hY263 (hyA.2.2.1) (hyA.2.2.2) (by omega)) (fun v264 M265 h266 => ?_)
                  obtain ⟨⟨u267, rfl, z268⟩, h266⟩ := h266
                  rw [h266]
                  show ml _ _ _ (123, [(0, .ref m0), (1, .int i22_1), (2, .int (f2 f fA)), (3, .int 0), (4, .int i22_4), (5, .int (f2 f i22_1))], [.int u267], M_22) _
                  refine ml_if (S1 := (136, [(0, .ref m0), (1, .int i22_1), (2, .int (f2 f fA)), (3, .int 0), (4, .int i22_4), (5, .int (f2 f i22_1))], [], M_22)) (S2 := (126, [(0, .ref m0), (1, .int i22_1)], [], M_22)) rfl rfl rfl (fun c_123 => ?_) (fun c_123 => ?_)
                  · have c_123 : ¬ u267 = 0 := of_decide_eq_true c_123
                    refine ml_blk 3 (S' := (139, [(0, .ref m0), (1, .int i22_1), (2, .int (f2 f fA)), (3, .int 0), (4, .int i22_4), (5, .int (f2 f i22_1))], [.int i22_1, .ref m0, .ref m0], M_22)) rfl ?_
                    refine ml_blk 2 (S' := (141, [(0, .ref m0), (1, .int i22_1), (2, .int (f2 f fA)), (3, .int 0), (4, .int i22_4), (5, .int (f2 f i22_1))], [.int (i22_1 + 4), .ref m0, .ref m0], M_22)) rfl ?_
                    refine ml_call (a := [.ref m0, .int (i22_1 + 4)]) (rest := [.ref m0]) rfl (hR_22.okc rfl rfl rfl) rfl rfl (rm_u2 hR_22 hF14 (by omega) (by omega) (by omega)) (fun v269 M270 h271 => ?_)
                    obtain ⟨rfl, h271⟩ := h271
                    rw [h271]
                    show ml _ _ _ (144, [(0, .ref m0), (1, .int i22_1), (2, .int (f2 f fA)), (3, .int 0), (4, .int i22_4), (5, .int (f2 f i22_1))], [.int (f2 f (i22_1 + 4)), .ref m0], M_22) _
                    refine ml_call (a := [.ref m0, .int (f2 f (i22_1 + 4))]) (rest := []) rfl (hR_22.okc rfl rfl rfl) rfl rfl (rm_tag hR_22 hF14 hP242 (by omega)) (fun v272 M273 h274 => ?_)
                    obtain ⟨rfl, h274⟩ := h274
                    rw [h274]
                    show ml _ _ _ (147, [(0, .ref m0), (1, .int i22_1), (2, .int (f2 f fA)), (3, .int 0), (4, .int i22_4), (5, .int (f2 f i22_1))], [.int (tgf f cp pa (f2 f (i22_1 + 4)))], M_22) _
                    refine ml_st (S' := (148, [(0, .ref m0), (1, .int i22_1), (2, .int (f2 f fA)), (3, .int 0), (4, .int i22_4), (5, .int (f2 f i22_1))], [.int 1, .int (tgf f cp pa (f2 f (i22_1 + 4)))], M_22)) rfl rfl rfl ?_
                    refine ml_if2 (S1 := (169, [(0, .ref m0), (1, .int i22_1)], [], M_22)) (S2 := (151, [(0, .ref m0), (1, .int i22_1), (2, .int (f2 f fA)), (3, .int 0), (4, .int i22_4), (5, .int (f2 f i22_1))], [], M_22)) rfl rfl rfl (fun c_148 => ?_) (fun c_148 => ?_)
                    · have c_148 : ¬ (tgf f cp pa (f2 f (i22_1 + 4))) = 1 := of_decide_eq_true c_148
                      refine ml_blk 3 (S' := (173, [(0, .ref m0), (1, .int i22_1)], [.int i22_1, .int 21, .ref m0], M_22)) rfl ?_
                      refine ml_blk 2 (S' := (175, [(0, .ref m0), (1, .int i22_1)], [.int (i22_1 + 4), .int 21, .ref m0], M_22)) rfl ?_
                      refine ml_call (a := [.ref m0, .int 21, .int (i22_1 + 4)]) (rest := []) rfl (hR_22.okc rfl rfl rfl) rfl rfl (rm_wrong hR_22 (by omega)) (fun v275 M276 h277 => ?_)
                      obtain ⟨u283, I278, R279, rfl, hR280, hI281, hV282, z284, w285⟩ := h277
                      show ml _ _ _ (178, [(0, .ref m0), (1, .int i22_1)], [.int u283], M276) _
                      exact ml_ret rfl (r_z (z284)) (⟨_, _, _, rfl, hR280, ((eqI.rf.tr hI_22 (by decide)).tr hI281 (by decide)), ((eqR.rf.tr hV_22 (by decide)).tr hV282 (by decide)), z284, Or.inl w285⟩)
                    · have c_148 : ¬ (¬ (tgf f cp pa (f2 f (i22_1 + 4))) = 1) := of_decide_eq_false c_148
                      have hyB := hP.y (show tgf f cp pa (f2 f (i22_1 + 4)) = 1 from Decidable.not_not.mp c_148)
                      refine ml_blk 3 (S' := (154, [(0, .ref m0), (1, .int i22_1), (2, .int (f2 f fA)), (3, .int 0), (4, .int i22_4), (5, .int (f2 f i22_1))], [.ref m0, .ref m0, .ref m0], M_22)) rfl ?_
                      refine ml_blk 3 (S' := (157, [(0, .ref m0), (1, .int i22_1), (2, .int (f2 f fA)), (3, .int 0), (4, .int i22_4), (5, .int (f2 f i22_1))], [.int (i22_1 + 4), .ref m0, .ref m0, .ref m0], M_22)) rfl ?_
                      refine ml_call (a := [.ref m0, .int (i22_1 + 4)]) (rest := [.ref m0, .ref m0]) rfl (hR_22.okc rfl rfl rfl) rfl rfl (rm_u2 hR_22 hF14 (by omega) (by omega) (by omega)) (fun v286 M287 h288 => ?_)
                      obtain ⟨rfl, h288⟩ := h288
                      rw [h288]
                      show ml _ _ _ (160, [(0, .ref m0), (1, .int i22_1), (2, .int (f2 f fA)), (3, .int 0), (4, .int i22_4), (5, .int (f2 f i22_1))], [.int (f2 f (i22_1 + 4)), .ref m0, .ref m0], M_22) _
                      refine ml_call (a := [.ref m0, .int (f2 f (i22_1 + 4))]) (rest := [.ref m0]) rfl (hR_22.okc rfl rfl rfl) rfl rfl (rm_symOf hR_22 hP242 (Decidable.not_not.mp c_148) (by omega)) (fun v289 M290 h291 => ?_)
                      obtain ⟨rfl, h291⟩ := h291
                      rw [h291]
                      show ml _ _ _ (163, [(0, .ref m0), (1, .int i22_1), (2, .int (f2 f fA)), (3, .int 0), (4, .int i22_4), (5, .int (f2 f i22_1))], [.int (pyf py (f2 f (i22_1 + 4))), .ref m0], M_22) _
                      refine ml_call (a := [.ref m0, .int (pyf py (f2 f (i22_1 + 4)))]) (rest := []) rfl (hR_22.okc rfl rfl rfl) rfl rfl (rm_isField hR_22 hY263 (hyB.2.2.1) (hyB.2.2.2) (by omega)) (fun v292 M293 h294 => ?_)
                      obtain ⟨⟨u295, rfl, z296, w297⟩, h294⟩ := h294
                      rw [h294]
                      show ml _ _ _ (166, [(0, .ref m0), (1, .int i22_1), (2, .int (f2 f fA)), (3, .int 0), (4, .int i22_4), (5, .int (f2 f i22_1))], [.int u295], M_22) _
                      refine ml_if (S1 := (179, [(0, .ref m0), (1, .int i22_1), (2, .int (f2 f fA)), (3, .int 0), (4, .int i22_4), (5, .int (f2 f i22_1))], [], M_22)) (S2 := (169, [(0, .ref m0), (1, .int i22_1)], [], M_22)) rfl rfl rfl (fun c_166 => ?_) (fun c_166 => ?_)
                      · have c_166 : ¬ u295 = 0 := of_decide_eq_true c_166
                        have hlnB := w297.resolve_left c_166
                        refine ml_st (S' := (180, [(0, .ref m0), (1, .int i22_1), (2, .int (f2 f fA)), (3, .int 0), (4, .int i22_4), (5, .int (f2 f i22_1))], [.ref m0], M_22)) rfl rfl rfl ?_
                        refine rg_int (S' := (183, [(0, .ref m0), (1, .int i22_1), (2, .int (f2 f fA)), (3, .int 0), (4, .int i22_4), (5, .int (f2 f i22_1))], [.int i22_4], M_22)) rfl hR_22 rfl (h25) rfl ?_
                        refine ml_st (S' := (185, [(6, .int i22_4), (0, .ref m0), (1, .int i22_1), (2, .int (f2 f fA)), (3, .int 0), (4, .int i22_4), (5, .int (f2 f i22_1))], [], M_22)) rfl rfl rfl ?_
                        refine ml_st (S' := (186, [(6, .int i22_4), (0, .ref m0), (1, .int i22_1), (2, .int (f2 f fA)), (3, .int 0), (4, .int i22_4), (5, .int (f2 f i22_1))], [.ref m0], M_22)) rfl rfl rfl ?_
                        refine rg_ref (S' := (189, [(6, .int i22_4), (0, .ref m0), (1, .int i22_1), (2, .int (f2 f fA)), (3, .int 0), (4, .int i22_4), (5, .int (f2 f i22_1))], [.ref (q 27)], M_22)) rfl hR_22 rfl rfl ?_
                        refine ml_blk 2 (S' := (193, [(6, .int i22_4), (0, .ref m0), (1, .int i22_1), (2, .int (f2 f fA)), (3, .int 0), (4, .int i22_4), (5, .int (f2 f i22_1))], [.int (f2 f i22_1), .int i22_4, .ref (q 27)], M_22)) rfl ?_
                        refine ra_st (k := 27) rfl hR_22 rfl (vin_lt hk0 (by omega)) (fun M298 R299 hR300 e301 g302 f303 => ?_)
                        show ml _ _ _ (194, [(6, .int i22_4), (0, .ref m0), (1, .int i22_1), (2, .int (f2 f fA)), (3, .int 0), (4, .int i22_4), (5, .int (f2 f i22_1))], [], M298) _
                        refine ml_st (S' := (195, [(6, .int i22_4), (0, .ref m0), (1, .int i22_1), (2, .int (f2 f fA)), (3, .int 0), (4, .int i22_4), (5, .int (f2 f i22_1))], [.ref m0], M298)) rfl rfl rfl ?_
                        refine rg_ref (S' := (198, [(6, .int i22_4), (0, .ref m0), (1, .int i22_1), (2, .int (f2 f fA)), (3, .int 0), (4, .int i22_4), (5, .int (f2 f i22_1))], [.ref (q 28)], M298)) rfl hR300 rfl rfl ?_
                        refine ml_blk 3 (S' := (202, [(6, .int i22_4), (0, .ref m0), (1, .int i22_1), (2, .int (f2 f fA)), (3, .int 0), (4, .int i22_4), (5, .int (f2 f i22_1))], [.ref m0, .ref m0, .int i22_4, .ref (q 28)], M298)) rfl ?_
                        refine ml_blk 3 (S' := (205, [(6, .int i22_4), (0, .ref m0), (1, .int i22_1), (2, .int (f2 f fA)), (3, .int 0), (4, .int i22_4), (5, .int (f2 f i22_1))], [.int (i22_1 + 2), .ref m0, .ref m0, .int i22_4, .ref (q 28)], M298)) rfl ?_
                        have hF304 : FK n f I_22 R299 := (hF14.mono (fun _ _ => rfl) (pRx f303 (by decide)))
                        refine ml_call (a := [.ref m0, .int (i22_1 + 2)]) (rest := [.ref m0, .int i22_4, .ref (q 28)]) rfl (hR300.okc rfl rfl rfl) rfl rfl (rm_u2 hR300 hF304 (by omega) (by omega) (by omega)) (fun v305 M306 h307 => ?_)
                        obtain ⟨rfl, h307⟩ := h307
                        rw [h307]
                        show ml _ _ _ (208, [(6, .int i22_4), (0, .ref m0), (1, .int i22_1), (2, .int (f2 f fA)), (3, .int 0), (4, .int i22_4), (5, .int (f2 f i22_1))], [.int (f2 f (i22_1 + 2)), .ref m0, .int i22_4, .ref (q 28)], M298) _
                        have hP308 : PK n f S cp mj pa py I_22 R299 := (hP242.mono (fun _ _ => rfl) (pRx f303 (by decide)))
                        refine ml_call (a := [.ref m0, .int (f2 f (i22_1 + 2))]) (rest := [.int i22_4, .ref (q 28)]) rfl (hR300.okc rfl rfl rfl) rfl rfl (rm_symOf hR300 hP308 (Decidable.not_not.mp c_104) (by omega)) (fun v309 M310 h311 => ?_)
                        obtain ⟨rfl, h311⟩ := h311
                        rw [h311]
                        show ml _ _ _ (211, [(6, .int i22_4), (0, .ref m0), (1, .int i22_1), (2, .int (f2 f fA)), (3, .int 0), (4, .int i22_4), (5, .int (f2 f i22_1))], [.int (pyf py (f2 f (i22_1 + 2))), .int i22_4, .ref (q 28)], M298) _
                        refine ra_st (k := 28) rfl hR300 rfl (vin_lt hk0 (by omega)) (fun M312 R313 hR314 e315 g316 f317 => ?_)
                        show ml _ _ _ (212, [(6, .int i22_4), (0, .ref m0), (1, .int i22_1), (2, .int (f2 f fA)), (3, .int 0), (4, .int i22_4), (5, .int (f2 f i22_1))], [], M312) _
                        refine ml_st (S' := (213, [(6, .int i22_4), (0, .ref m0), (1, .int i22_1), (2, .int (f2 f fA)), (3, .int 0), (4, .int i22_4), (5, .int (f2 f i22_1))], [.ref m0], M312)) rfl rfl rfl ?_
                        refine rg_ref (S' := (216, [(6, .int i22_4), (0, .ref m0), (1, .int i22_1), (2, .int (f2 f fA)), (3, .int 0), (4, .int i22_4), (5, .int (f2 f i22_1))], [.ref (q 29)], M312)) rfl hR314 rfl rfl ?_
                        refine ml_blk 3 (S' := (220, [(6, .int i22_4), (0, .ref m0), (1, .int i22_1), (2, .int (f2 f fA)), (3, .int 0), (4, .int i22_4), (5, .int (f2 f i22_1))], [.ref m0, .ref m0, .int i22_4, .ref (q 29)], M312)) rfl ?_
                        refine ml_blk 3 (S' := (223, [(6, .int i22_4), (0, .ref m0), (1, .int i22_1), (2, .int (f2 f fA)), (3, .int 0), (4, .int i22_4), (5, .int (f2 f i22_1))], [.int (i22_1 + 4), .ref m0, .ref m0, .int i22_4, .ref (q 29)], M312)) rfl ?_
                        have hF318 : FK n f I_22 R313 := (hF304.mono (fun _ _ => rfl) (pRx f317 (by decide)))
                        refine ml_call (a := [.ref m0, .int (i22_1 + 4)]) (rest := [.ref m0, .int i22_4, .ref (q 29)]) rfl (hR314.okc rfl rfl rfl) rfl rfl (rm_u2 hR314 hF318 (by omega) (by omega) (by omega)) (fun v319 M320 h321 => ?_)
                        obtain ⟨rfl, h321⟩ := h321
                        rw [h321]
                        show ml _ _ _ (226, [(6, .int i22_4), (0, .ref m0), (1, .int i22_1), (2, .int (f2 f fA)), (3, .int 0), (4, .int i22_4), (5, .int (f2 f i22_1))], [.int (f2 f (i22_1 + 4)), .ref m0, .int i22_4, .ref (q 29)], M312) _
                        have hP322 : PK n f S cp mj pa py I_22 R313 := (hP308.mono (fun _ _ => rfl) (pRx f317 (by decide)))
                        refine ml_call (a := [.ref m0, .int (f2 f (i22_1 + 4))]) (rest := [.int i22_4, .ref (q 29)]) rfl (hR314.okc rfl rfl rfl) rfl rfl (rm_symOf hR314 hP322 (Decidable.not_not.mp c_148) (by omega)) (fun v323 M324 h325 => ?_)
                        obtain ⟨rfl, h325⟩ := h325
                        rw [h325]
                        show ml _ _ _ (229, [(6, .int i22_4), (0, .ref m0), (1, .int i22_1), (2, .int (f2 f fA)), (3, .int 0), (4, .int i22_4), (5, .int (f2 f i22_1))], [.int (pyf py (f2 f (i22_1 + 4))), .int i22_4, .ref (q 29)], M312) _
                        refine ra_st (k := 29) rfl hR314 rfl (vin_lt hk0 (by omega)) (fun M326 R327 hR328 e329 g330 f331 => ?_)
                        show ml _ _ _ (230, [(6, .int i22_4), (0, .ref m0), (1, .int i22_1), (2, .int (f2 f fA)), (3, .int 0), (4, .int i22_4), (5, .int (f2 f i22_1))], [], M326) _
                        refine ml_st (S' := (231, [(6, .int i22_4), (0, .ref m0), (1, .int i22_1), (2, .int (f2 f fA)), (3, .int 0), (4, .int i22_4), (5, .int (f2 f i22_1))], [.ref m0], M326)) rfl rfl rfl ?_
                        refine rg_ref (S' := (234, [(6, .int i22_4), (0, .ref m0), (1, .int i22_1), (2, .int (f2 f fA)), (3, .int 0), (4, .int i22_4), (5, .int (f2 f i22_1))], [.ref (q 30)], M326)) rfl hR328 rfl rfl ?_
                        refine ml_blk 2 (S' := (237, [(6, .int i22_4), (0, .ref m0), (1, .int i22_1), (2, .int (f2 f fA)), (3, .int 0), (4, .int i22_4), (5, .int (f2 f i22_1))], [.int 0, .int i22_4, .ref (q 30)], M326)) rfl ?_
                        refine ra_st (k := 30) rfl hR328 rfl (vin_lt hk0 (by omega)) (fun M332 R333 hR334 e335 g336 f337 => ?_)
                        show ml _ _ _ (238, [(6, .int i22_4), (0, .ref m0), (1, .int i22_1), (2, .int (f2 f fA)), (3, .int 0), (4, .int i22_4), (5, .int (f2 f i22_1))], [], M332) _
                        refine ml_st (S' := (239, [(6, .int i22_4), (0, .ref m0), (1, .int i22_1), (2, .int (f2 f fA)), (3, .int 0), (4, .int i22_4), (5, .int (f2 f i22_1))], [.ref m0], M332)) rfl rfl rfl ?_
                        refine rg_ref (S' := (242, [(6, .int i22_4), (0, .ref m0), (1, .int i22_1), (2, .int (f2 f fA)), (3, .int 0), (4, .int i22_4), (5, .int (f2 f i22_1))], [.ref (q 31)], M332)) rfl hR334 rfl rfl ?_
                        refine ml_blk 2 (S' := (245, [(6, .int i22_4), (0, .ref m0), (1, .int i22_1), (2, .int (f2 f fA)), (3, .int 0), (4, .int i22_4), (5, .int (f2 f i22_1))], [.int 0, .int i22_4, .ref (q 31)], M332)) rfl ?_
                        refine ra_st (k := 31) rfl hR334 rfl (vin_lt hk0 (by omega)) (fun M338 R339 hR340 e341 g342 f343 => ?_)
                        show ml _ _ _ (246, [(6, .int i22_4), (0, .ref m0), (1, .int i22_1), (2, .int (f2 f fA)), (3, .int 0), (4, .int i22_4), (5, .int (f2 f i22_1))], [], M338) _
                        refine ml_st (S' := (247, [(6, .int i22_4), (0, .ref m0), (1, .int i22_1), (2, .int (f2 f fA)), (3, .int 0), (4, .int i22_4), (5, .int (f2 f i22_1))], [.ref m0], M338)) rfl rfl rfl ?_
                        refine rg_ref (S' := (250, [(6, .int i22_4), (0, .ref m0), (1, .int i22_1), (2, .int (f2 f fA)), (3, .int 0), (4, .int i22_4), (5, .int (f2 f i22_1))], [.ref (q 32)], M338)) rfl hR340 rfl rfl ?_
                        refine ml_blk 3 (S' := (254, [(6, .int i22_4), (0, .ref m0), (1, .int i22_1), (2, .int (f2 f fA)), (3, .int 0), (4, .int i22_4), (5, .int (f2 f i22_1))], [.int i22_1, .ref m0, .int i22_4, .ref (q 32)], M338)) rfl ?_
                        refine ml_blk 2 (S' := (256, [(6, .int i22_4), (0, .ref m0), (1, .int i22_1), (2, .int (f2 f fA)), (3, .int 0), (4, .int i22_4), (5, .int (f2 f i22_1))], [.int (i22_1 + 2), .ref m0, .int i22_4, .ref (q 32)], M338)) rfl ?_
                        have hF344 : FK n f I_22 R339 := (((hF318.mono (fun _ _ => rfl) (pRx f331 (by decide))).mono (fun _ _ => rfl) (pRx f337 (by decide))).mono (fun _ _ => rfl) (pRx f343 (by decide)))
                        refine ml_call (a := [.ref m0, .int (i22_1 + 2)]) (rest := [.int i22_4, .ref (q 32)]) rfl (hR340.okc rfl rfl rfl) rfl rfl (rm_u2 hR340 hF344 (by omega) (by omega) (by omega)) (fun v345 M346 h347 => ?_)
                        obtain ⟨rfl, h347⟩ := h347
                        rw [h347]
                        show ml _ _ _ (259, [(6, .int i22_4), (0, .ref m0), (1, .int i22_1), (2, .int (f2 f fA)), (3, .int 0), (4, .int i22_4), (5, .int (f2 f i22_1))], [.int (f2 f (i22_1 + 2)), .int i22_4, .ref (q 32)], M338) _
                        refine ra_st (k := 32) rfl hR340 rfl (vin_lt hk0 (by omega)) (fun M348 R349 hR350 e351 g352 f353 => ?_)
                        show ml _ _ _ (260, [(6, .int i22_4), (0, .ref m0), (1, .int i22_1), (2, .int (f2 f fA)), (3, .int 0), (4, .int i22_4), (5, .int (f2 f i22_1))], [], M348) _
                        refine ml_st (S' := (261, [(6, .int i22_4), (0, .ref m0), (1, .int i22_1), (2, .int (f2 f fA)), (3, .int 0), (4, .int i22_4), (5, .int (f2 f i22_1))], [.ref m0], M348)) rfl rfl rfl ?_
                        refine rg_ref (S' := (264, [(6, .int i22_4), (0, .ref m0), (1, .int i22_1), (2, .int (f2 f fA)), (3, .int 0), (4, .int i22_4), (5, .int (f2 f i22_1))], [.ref (q 33)], M348)) rfl hR350 rfl rfl ?_
                        refine ml_blk 3 (S' := (268, [(6, .int i22_4), (0, .ref m0), (1, .int i22_1), (2, .int (f2 f fA)), (3, .int 0), (4, .int i22_4), (5, .int (f2 f i22_1))], [.int i22_1, .ref m0, .int i22_4, .ref (q 33)], M348)) rfl ?_
                        refine ml_blk 2 (S' := (270, [(6, .int i22_4), (0, .ref m0), (1, .int i22_1), (2, .int (f2 f fA)), (3, .int 0), (4, .int i22_4), (5, .int (f2 f i22_1))], [.int (i22_1 + 4), .ref m0, .int i22_4, .ref (q 33)], M348)) rfl ?_
                        have hF354 : FK n f I_22 R349 := (hF344.mono (fun _ _ => rfl) (pRx f353 (by decide)))
                        refine ml_call (a := [.ref m0, .int (i22_1 + 4)]) (rest := [.int i22_4, .ref (q 33)]) rfl (hR350.okc rfl rfl rfl) rfl rfl (rm_u2 hR350 hF354 (by omega) (by omega) (by omega)) (fun v355 M356 h357 => ?_)
                        obtain ⟨rfl, h357⟩ := h357
                        rw [h357]
                        show ml _ _ _ (273, [(6, .int i22_4), (0, .ref m0), (1, .int i22_1), (2, .int (f2 f fA)), (3, .int 0), (4, .int i22_4), (5, .int (f2 f i22_1))], [.int (f2 f (i22_1 + 4)), .int i22_4, .ref (q 33)], M348) _
                        refine ra_st (k := 33) rfl hR350 rfl (vin_lt hk0 (by omega)) (fun M358 R359 hR360 e361 g362 f363 => ?_)
                        show ml _ _ _ (274, [(6, .int i22_4), (0, .ref m0), (1, .int i22_1), (2, .int (f2 f fA)), (3, .int 0), (4, .int i22_4), (5, .int (f2 f i22_1))], [], M358) _
                        refine ml_st (S' := (275, [(6, .int i22_4), (0, .ref m0), (1, .int i22_1), (2, .int (f2 f fA)), (3, .int 0), (4, .int i22_4), (5, .int (f2 f i22_1))], [.int 0], M358)) rfl rfl rfl ?_
                        refine ml_st (S' := (277, [(0, .ref m0), (1, .int i22_1), (2, .int (f2 f fA)), (3, .int 0), (4, .int i22_4), (6, .int i22_4), (7, .int 0)], [], M358)) rfl rfl rfl ?_
                        have L_277 : ∀ (n_277 : Nat) (i277_7 : Int32), (2147483648 - i277_7.toInt).toNat ≤ n_277 → 0 ≤ i277_7.toInt → ml (mT g) d (mb_189 g).2 (277, [(0, .ref m0), (1, .int i22_1), (2, .int (f2 f fA)), (3, .int 0), (4, .int i22_4), (6, .int i22_4), (7, .int i277_7)], [], M358) (fun v M' => ∃ (x : Int32) (I' : rI) (R' : rR), v = some (.int x) ∧ RS g m0 q z I' R' M' ∧ eqI [25, 47, 48] I I' ∧ eqR [27, 28, 29, 30, 31, 32, 33] R R' ∧ (x = 0 ∨ x = 1) ∧ (x = 0 ∨ ∃ k : Nat, k ≤ 8192 ∧ I' 25 = some (nI k) ∧ FKN k R')) := by
                          intro n_277
                          induction n_277 with
                          | zero => intro i277_7 hn; exact (loop_zero hn).elim
                          | succ n_277 ih_277 =>
                            intro i277_7 hn_277 hi_277
                            have hq0 := hi_277
                            refine ml_blk 2 (S' := (281, [(0, .ref m0), (1, .int i22_1), (2, .int (f2 f fA)), (3, .int 0), (4, .int i22_4), (6, .int i22_4), (7, .int i277_7)], [.int i22_4, .int i277_7], M358)) rfl ?_
                            refine ml_if2 (S1 := (332, [(0, .ref m0), (1, .int i22_1), (2, .int (f2 f fA)), (3, .int 0), (4, .int i22_4), (6, .int i22_4), (7, .int i277_7)], [], M358)) (S2 := (284, [(0, .ref m0), (1, .int i22_1), (2, .int (f2 f fA)), (3, .int 0), (4, .int i22_4), (6, .int i22_4), (7, .int i277_7)], [], M358)) rfl rfl rfl (fun c_281 => ?_) (fun c_281 => ?_)
                            · have c_281 : i22_4 ≤ i277_7 := of_decide_eq_true c_281
                              refine ml_blk 2 (S' := (334, [(0, .ref m0), (1, .int i22_1), (2, .int (f2 f fA)), (3, .int 0), (4, .int i22_4), (6, .int i22_4), (7, .int i277_7)], [.ref m0, .ref m0], M358)) rfl ?_
                              refine rg_int (S' := (337, [(0, .ref m0), (1, .int i22_1), (2, .int (f2 f fA)), (3, .int 0), (4, .int i22_4), (6, .int i22_4), (7, .int i277_7)], [.int i22_4, .ref m0], M358)) rfl hR360 rfl (h25) rfl ?_
                              refine ml_blk 2 (S' := (339, [(0, .ref m0), (1, .int i22_1), (2, .int (f2 f fA)), (3, .int 0), (4, .int i22_4), (6, .int i22_4), (7, .int i277_7)], [.int (i22_4 + 1), .ref m0], M358)) rfl ?_
                              refine rp_int rfl hR360 rfl (fun M364 I365 hR366 e367 f368 => ?_)
                              show ml _ _ _ (342, [(0, .ref m0), (1, .int i22_1), (2, .int (f2 f fA)), (3, .int 0), (4, .int i22_4), (6, .int i22_4), (7, .int i277_7)], [], M364) _
                              refine ml_blk 3 (S' := (346, [(0, .ref m0), (1, .int i22_1), (2, .int (f2 f fA)), (3, .int 0), (4, .int i22_4), (6, .int i22_4), (7, .int i277_7)], [.int 6, .int i22_1, .ref m0], M364)) rfl ?_
                              refine ml_blk 3 (S' := (350, [(0, .ref m0), (1, .int i22_1), (2, .int (f2 f fA)), (3, .int 0), (4, .int i22_4), (6, .int i22_4), (7, .int i277_7)], [.int i22_4, .int 1, .int (i22_1 + 6), .ref m0], M364)) rfl ?_
                              have hF369 : FK n f I365 R359 := ((hF354.mono (fun _ _ => rfl) (pRx f363 (by decide))).mono (pIx f368 (by decide)) (fun _ _ => rfl))
                              have hY370 : SK S cN sa sl ch I365 R359 := ((((((((hY263.mono (fun _ _ => rfl) (pRx f303 (by decide))).mono (fun _ _ => rfl) (pRx f317 (by decide))).mono (fun _ _ => rfl) (pRx f331 (by decide))).mono (fun _ _ => rfl) (pRx f337 (by decide))).mono (fun _ _ => rfl) (pRx f343 (by decide))).mono (fun _ _ => rfl) (pRx f353 (by decide))).mono (fun _ _ => rfl) (pRx f363 (by decide))).mono (pIx f368 (by decide)) (fun _ _ => rfl))
                              have hP371 : PK n f S cp mj pa py I365 R359 := ((((((hP322.mono (fun _ _ => rfl) (pRx f331 (by decide))).mono (fun _ _ => rfl) (pRx f337 (by decide))).mono (fun _ _ => rfl) (pRx f343 (by decide))).mono (fun _ _ => rfl) (pRx f353 (by decide))).mono (fun _ _ => rfl) (pRx f363 (by decide))).mono (pIx f368 (by decide)) (fun _ _ => rfl))
                              have hK372 : KW I365 R359 := (((((((((hK.mono (cIx hI_22 (by decide)) (cRx hV_22 (by decide))).mono (fun _ _ => rfl) (pRx f303 (by decide))).mono (fun _ _ => rfl) (pRx f317 (by decide))).mono (fun _ _ => rfl) (pRx f331 (by decide))).mono (fun _ _ => rfl) (pRx f337 (by decide))).mono (fun _ _ => rfl) (pRx f343 (by decide))).mono (fun _ _ => rfl) (pRx f353 (by decide))).mono (fun _ _ => rfl) (pRx f363 (by decide))).mono (pIx f368 (by decide)) (fun _ _ => rfl))
                              refine ml_call (a := [.ref m0, .int (i22_1 + 6), .int 1, .int i22_4]) (rest := []) rfl (hR366.okc rfl rfl rfl) rfl rfl (rm_checkAttributes1 hR366 hF369 hY370 hP371 hK372 (rfl) (g2) (hk0) (hk8) ((congrFun ((f363 27 (by decide)).trans ((f353 27 (by decide)).trans ((f343 27 (by decide)).trans ((f337 27 (by decide)).trans ((f331 27 (by decide)).trans ((f317 27 (by decide)))))))) _).trans e301) ((congrFun ((f363 29 (by decide)).trans ((f353 29 (by decide)).trans ((f343 29 (by decide)).trans ((f337 29 (by decide)))))) _).trans e329) (hyB.2.2.1) (hyB.2.2.2) (hlnB) (fun k hk => by simp only [List.mem_cons, List.not_mem_nil, or_false] at hk; rcases hk with rfl | rfl; exact ⟨_, (congrFun ((f363 30 (by decide)).trans ((f353 30 (by decide)).trans ((f343 30 (by decide))))) _).trans e335⟩; exact ⟨_, (congrFun ((f363 31 (by decide)).trans ((f353 31 (by decide)))) _).trans e341⟩) (by omega)) (fun v373 M374 h375 => ?_)
                              obtain ⟨u381, I376, R377, rfl, hR378, hI379, hV380, w382⟩ := h375
                              show ml _ _ _ (353, [(0, .ref m0), (1, .int i22_1), (2, .int (f2 f fA)), (3, .int 0), (4, .int i22_4), (6, .int i22_4), (7, .int i277_7)], [.int u381], M374) _
                              obtain ⟨hend, hpw9, hkn9⟩ := w382
                              refine ml_st (S' := (354, [(1, .int u381), (0, .ref m0), (2, .int (f2 f fA)), (3, .int 0), (4, .int i22_4), (6, .int i22_4), (7, .int i277_7)], [], M374)) rfl rfl rfl ?_
                              refine ml_st (S' := (355, [(1, .int u381), (0, .ref m0), (2, .int (f2 f fA)), (3, .int 0), (4, .int i22_4), (6, .int i22_4), (7, .int i277_7)], [.int u381], M374)) rfl rfl rfl ?_
                              refine ml_if (S1 := (360, [(1, .int u381), (0, .ref m0), (2, .int (f2 f fA)), (3, .int 0), (4, .int i22_4), (6, .int i22_4), (7, .int i277_7)], [], M374)) (S2 := (358, [(1, .int u381), (0, .ref m0), (2, .int (f2 f fA)), (3, .int 0), (4, .int i22_4), (6, .int i22_4), (7, .int i277_7)], [], M374)) rfl rfl rfl (fun c_355 => ?_) (fun c_355 => ?_)
                              · have c_355 : 0 ≤ u381 := of_decide_eq_true c_355
                                have hub : u381 = b1 := hend.resolve_left (fun q => by have := i_le c_355; have : (0 : Int32).toInt = 0 := rfl; omega)
                                have hfk2 : FKN (i22_4.toInt.toNat + 1) R377 := FKN.step (k := i22_4.toInt.toNat) hfk ((((((((pw.rf.st g302 f303 rfl).st g316 f317 rfl).st g330 f331 rfl).st g336 f337 rfl).st g342 f343 rfl).st g352 f353 rfl).st g362 f363 rfl).tr hpw9) (fun k hk => by simp only [List.mem_cons, List.not_mem_nil, or_false] at hk; rcases hk with rfl | rfl | rfl | rfl | rfl | rfl | rfl; exact ⟨_, (congrFun ((hV380 27 (by decide)).trans ((f363 27 (by decide)).trans ((f353 27 (by decide)).trans ((f343 27 (by decide)).trans ((f337 27 (by decide)).trans ((f331 27 (by decide)).trans ((f317 27 (by decide))))))))) _).trans e301⟩; exact ⟨_, (congrFun ((hV380 28 (by decide)).trans ((f363 28 (by decide)).trans ((f353 28 (by decide)).trans ((f343 28 (by decide)).trans ((f337 28 (by decide)).trans ((f331 28 (by decide)))))))) _).trans e315⟩; exact ⟨_, (congrFun ((hV380 29 (by decide)).trans ((f363 29 (by decide)).trans ((f353 29 (by decide)).trans ((f343 29 (by decide)).trans ((f337 29 (by decide))))))) _).trans e329⟩; exact hkn9 30 (by decide); exact hkn9 31 (by decide); exact ⟨_, (congrFun ((hV380 32 (by decide)).trans ((f363 32 (by decide)))) _).trans e351⟩; exact ⟨_, (congrFun ((hV380 33 (by decide))) _).trans e361⟩)
                                refine ml_st (S' := (363, [(4, .int (i22_4 + 1)), (1, .int u381), (0, .ref m0), (2, .int (f2 f fA)), (3, .int 0), (6, .int i22_4), (7, .int i277_7)], [], M374)) rfl rfl rfl ?_
                                refine ml_st (S' := (22, [(0, .ref m0), (1, .int u381), (2, .int (f2 f fA)), (3, .int 0), (4, .int (i22_4 + 1))], [], M374)) rfl rfl rfl ?_
                                exact ih_22 u381 (i22_4 + 1) _ _ _ (loop_inc (Int32.not_le.mp c_25) hn_22) hR378 (((eqI.rf.tr hI_22 (by decide)).put f368 (by decide)).tr hI379 (by decide)) (((((((((eqR.rf.tr hV_22 (by decide)).put f303 (by decide)).put f317 (by decide)).put f331 (by decide)).put f337 (by decide)).put f343 (by decide)).put f353 (by decide)).put f363 (by decide)).tr hV380 (by decide)) (⟨by rw [inc_lt (Int32.not_le.mp c_25)]; omega, by rw [inc_lt (Int32.not_le.mp c_25)]; omega, (hI379 25 (by decide)).trans (e367), by rw [hub]; exact hnx, by rw [hub, inc_lt (Int32.not_le.mp c_25)]; have q := hg.1; omega, by rw [show (i22_4 + 1).toInt.toNat = i22_4.toInt.toNat + 1 by rw [inc_lt (Int32.not_le.mp c_25)]; omega]; exact hfk2⟩)
                              · have c_355 : ¬ (0 ≤ u381) := of_decide_eq_false c_355
                                refine ml_st (S' := (359, [(1, .int u381), (0, .ref m0), (2, .int (f2 f fA)), (3, .int 0), (4, .int i22_4), (6, .int i22_4), (7, .int i277_7)], [.int 0], M374)) rfl rfl rfl ?_
                                exact ml_ret rfl (r_z (Or.inl rfl)) (⟨_, _, _, rfl, hR378, (((eqI.rf.tr hI_22 (by decide)).put f368 (by decide)).tr hI379 (by decide)), (((((((((eqR.rf.tr hV_22 (by decide)).put f303 (by decide)).put f317 (by decide)).put f331 (by decide)).put f337 (by decide)).put f343 (by decide)).put f353 (by decide)).put f363 (by decide)).tr hV380 (by decide)), Or.inl rfl, Or.inl rfl⟩)
                            · have c_281 : ¬ (i22_4 ≤ i277_7) := of_decide_eq_false c_281
                              have hql := i_nle c_281
                              refine ml_st (S' := (285, [(0, .ref m0), (1, .int i22_1), (2, .int (f2 f fA)), (3, .int 0), (4, .int i22_4), (6, .int i22_4), (7, .int i277_7)], [.ref m0], M358)) rfl rfl rfl ?_
                              refine rg_ref (S' := (288, [(0, .ref m0), (1, .int i22_1), (2, .int (f2 f fA)), (3, .int 0), (4, .int i22_4), (6, .int i22_4), (7, .int i277_7)], [.ref (q 28)], M358)) rfl hR360 rfl rfl ?_
                              refine ml_st (S' := (290, [(0, .ref m0), (1, .int i22_1), (2, .int (f2 f fA)), (3, .int 0), (4, .int i22_4), (6, .int i22_4), (7, .int i277_7)], [.int i277_7, .ref (q 28)], M358)) rfl rfl rfl ?_
                              obtain ⟨v383, hv384⟩ := hfk i277_7.toNatClampNeg (by show i277_7.toInt.toNat < i22_4.toInt.toNat; omega) 28 (by decide)
                              have q385 : pw i22_4.toNatClampNeg R_22 R359 := (((((((pw.rf.st g302 f303 rfl).st g316 f317 rfl).st g330 f331 rfl).st g336 f337 rfl).st g342 f343 rfl).st g352 f353 rfl).st g362 f363 rfl)
                              refine ra_ld (k := 28) (S' := (291, [(0, .ref m0), (1, .int i22_1), (2, .int (f2 f fA)), (3, .int 0), (4, .int i22_4), (6, .int i22_4), (7, .int i277_7)], [.int v383], M358)) rfl hR360 rfl (vin_lt hq0 (by omega)) ((q385 28 _ (by show i277_7.toInt.toNat ≠ i22_4.toInt.toNat; omega)).trans hv384) rfl ?_
                              refine ml_st (S' := (292, [(0, .ref m0), (1, .int i22_1), (2, .int (f2 f fA)), (3, .int 0), (4, .int i22_4), (6, .int i22_4), (7, .int i277_7)], [.ref m0, .int v383], M358)) rfl rfl rfl ?_
                              refine rg_ref (S' := (295, [(0, .ref m0), (1, .int i22_1), (2, .int (f2 f fA)), (3, .int 0), (4, .int i22_4), (6, .int i22_4), (7, .int i277_7)], [.ref (q 28), .int v383], M358)) rfl hR360 rfl rfl ?_
                              refine ml_st (S' := (297, [(0, .ref m0), (1, .int i22_1), (2, .int (f2 f fA)), (3, .int 0), (4, .int i22_4), (6, .int i22_4), (7, .int i277_7)], [.int i22_4, .ref (q 28), .int v383], M358)) rfl rfl rfl ?_
                              refine ra_ld (k := 28) (S' := (298, [(0, .ref m0), (1, .int i22_1), (2, .int (f2 f fA)), (3, .int 0), (4, .int i22_4), (6, .int i22_4), (7, .int i277_7)], [.int (pyf py (f2 f (i22_1 + 2))), .int v383], M358)) rfl hR360 rfl (vin_lt hk0 (by omega)) ((congrFun ((f363 28 (by decide)).trans ((f353 28 (by decide)).trans ((f343 28 (by decide)).trans ((f337 28 (by decide)).trans ((f331 28 (by decide))))))) _).trans e315) rfl ?_
                              refine ml_if2 (S1 := (326, [(0, .ref m0), (1, .int i22_1), (2, .int (f2 f fA)), (3, .int 0), (4, .int i22_4), (6, .int i22_4), (7, .int i277_7)], [], M358)) (S2 := (301, [(0, .ref m0), (1, .int i22_1), (2, .int (f2 f fA)), (3, .int 0), (4, .int i22_4), (6, .int i22_4), (7, .int i277_7)], [], M358)) rfl rfl rfl (fun c_298 => ?_) (fun c_298 => ?_)
                              · have c_298 : ¬ v383 = (pyf py (f2 f (i22_1 + 2))) := of_decide_eq_true c_298
                                refine ml_st (S' := (329, [(7, .int (i277_7 + 1)), (0, .ref m0), (1, .int i22_1), (2, .int (f2 f fA)), (3, .int 0), (4, .int i22_4), (6, .int i22_4)], [], M358)) rfl rfl rfl ?_
                                refine ml_st (S' := (277, [(0, .ref m0), (1, .int i22_1), (2, .int (f2 f fA)), (3, .int 0), (4, .int i22_4), (6, .int i22_4), (7, .int (i277_7 + 1))], [], M358)) rfl rfl rfl ?_
                                exact ih_277 (i277_7 + 1) (loop_inc (Int32.not_le.mp c_281) hn_277) (by rw [inc_lt (Int32.not_le.mp c_281)]; omega)
                              · have c_298 : ¬ (¬ v383 = (pyf py (f2 f (i22_1 + 2)))) := of_decide_eq_false c_298
                                refine ml_st (S' := (302, [(0, .ref m0), (1, .int i22_1), (2, .int (f2 f fA)), (3, .int 0), (4, .int i22_4), (6, .int i22_4), (7, .int i277_7)], [.ref m0], M358)) rfl rfl rfl ?_
                                refine rg_ref (S' := (305, [(0, .ref m0), (1, .int i22_1), (2, .int (f2 f fA)), (3, .int 0), (4, .int i22_4), (6, .int i22_4), (7, .int i277_7)], [.ref (q 29)], M358)) rfl hR360 rfl rfl ?_
                                refine ml_st (S' := (307, [(0, .ref m0), (1, .int i22_1), (2, .int (f2 f fA)), (3, .int 0), (4, .int i22_4), (6, .int i22_4), (7, .int i277_7)], [.int i277_7, .ref (q 29)], M358)) rfl rfl rfl ?_
                                obtain ⟨v386, hv387⟩ := hfk i277_7.toNatClampNeg (by show i277_7.toInt.toNat < i22_4.toInt.toNat; omega) 29 (by decide)
                                have q388 : pw i22_4.toNatClampNeg R_22 R359 := (((((((pw.rf.st g302 f303 rfl).st g316 f317 rfl).st g330 f331 rfl).st g336 f337 rfl).st g342 f343 rfl).st g352 f353 rfl).st g362 f363 rfl)
                                refine ra_ld (k := 29) (S' := (308, [(0, .ref m0), (1, .int i22_1), (2, .int (f2 f fA)), (3, .int 0), (4, .int i22_4), (6, .int i22_4), (7, .int i277_7)], [.int v386], M358)) rfl hR360 rfl (vin_lt hq0 (by omega)) ((q388 29 _ (by show i277_7.toInt.toNat ≠ i22_4.toInt.toNat; omega)).trans hv387) rfl ?_
                                refine ml_st (S' := (309, [(0, .ref m0), (1, .int i22_1), (2, .int (f2 f fA)), (3, .int 0), (4, .int i22_4), (6, .int i22_4), (7, .int i277_7)], [.ref m0, .int v386], M358)) rfl rfl rfl ?_
                                refine rg_ref (S' := (312, [(0, .ref m0), (1, .int i22_1), (2, .int (f2 f fA)), (3, .int 0), (4, .int i22_4), (6, .int i22_4), (7, .int i277_7)], [.ref (q 29), .int v386], M358)) rfl hR360 rfl rfl ?_
                                refine ml_st (S' := (314, [(0, .ref m0), (1, .int i22_1), (2, .int (f2 f fA)), (3, .int 0), (4, .int i22_4), (6, .int i22_4), (7, .int i277_7)], [.int i22_4, .ref (q 29), .int v386], M358)) rfl rfl rfl ?_
                                refine ra_ld (k := 29) (S' := (315, [(0, .ref m0), (1, .int i22_1), (2, .int (f2 f fA)), (3, .int 0), (4, .int i22_4), (6, .int i22_4), (7, .int i277_7)], [.int (pyf py (f2 f (i22_1 + 4))), .int v386], M358)) rfl hR360 rfl (vin_lt hk0 (by omega)) ((congrFun ((f363 29 (by decide)).trans ((f353 29 (by decide)).trans ((f343 29 (by decide)).trans ((f337 29 (by decide)))))) _).trans e329) rfl ?_
                                refine ml_if2 (S1 := (326, [(0, .ref m0), (1, .int i22_1), (2, .int (f2 f fA)), (3, .int 0), (4, .int i22_4), (6, .int i22_4), (7, .int i277_7)], [], M358)) (S2 := (318, [(0, .ref m0), (1, .int i22_1), (2, .int (f2 f fA)), (3, .int 0), (4, .int i22_4), (6, .int i22_4), (7, .int i277_7)], [], M358)) rfl rfl rfl (fun c_315 => ?_) (fun c_315 => ?_)
                                · have c_315 : ¬ v386 = (pyf py (f2 f (i22_1 + 4))) := of_decide_eq_true c_315
                                  refine ml_st (S' := (329, [(7, .int (i277_7 + 1)), (0, .ref m0), (1, .int i22_1), (2, .int (f2 f fA)), (3, .int 0), (4, .int i22_4), (6, .int i22_4)], [], M358)) rfl rfl rfl ?_
                                  refine ml_st (S' := (277, [(0, .ref m0), (1, .int i22_1), (2, .int (f2 f fA)), (3, .int 0), (4, .int i22_4), (6, .int i22_4), (7, .int (i277_7 + 1))], [], M358)) rfl rfl rfl ?_
                                  exact ih_277 (i277_7 + 1) (loop_inc (Int32.not_le.mp c_281) hn_277) (by rw [inc_lt (Int32.not_le.mp c_281)]; omega)
                                · have c_315 : ¬ (¬ v386 = (pyf py (f2 f (i22_1 + 4)))) := of_decide_eq_false c_315
                                  refine ml_blk 3 (S' := (322, [(0, .ref m0), (1, .int i22_1), (2, .int (f2 f fA)), (3, .int 0), (4, .int i22_4), (6, .int i22_4), (7, .int i277_7)], [.int i22_1, .int 22, .ref m0], M358)) rfl ?_
                                  refine ml_call (a := [.ref m0, .int 22, .int i22_1]) (rest := []) rfl (hR360.okc rfl rfl rfl) rfl rfl (rm_wrong hR360 (by omega)) (fun v389 M390 h391 => ?_)
                                  obtain ⟨u397, I392, R393, rfl, hR394, hI395, hV396, z398, w399⟩ := h391
                                  show ml _ _ _ (325, [(0, .ref m0), (1, .int i22_1), (2, .int (f2 f fA)), (3, .int 0), (4, .int i22_4), (6, .int i22_4), (7, .int i277_7)], [.int u397], M390) _
                                  exact ml_ret rfl (r_z (z398)) (⟨_, _, _, rfl, hR394, ((eqI.rf.tr hI_22 (by decide)).tr hI395 (by decide)), (((((((((eqR.rf.tr hV_22 (by decide)).put f303 (by decide)).put f317 (by decide)).put f331 (by decide)).put f337 (by decide)).put f343 (by decide)).put f353 (by decide)).put f363 (by decide)).tr hV396 (by decide)), z398, Or.inl w399⟩)
                        exact L_277 _ 0 (Nat.le_refl _) (by decide)
                      · have c_166 : ¬ (¬ u295 = 0) := of_decide_eq_false c_166
                        refine ml_blk 3 (S' := (173, [(0, .ref m0), (1, .int i22_1)], [.int i22_1, .int 21, .ref m0], M_22)) rfl ?_
                        refine ml_blk 2 (S' := (175, [(0, .ref m0), (1, .int i22_1)], [.int (i22_1 + 4), .int 21, .ref m0], M_22)) rfl ?_
                        refine ml_call (a := [.ref m0, .int 21, .int (i22_1 + 4)]) (rest := []) rfl (hR_22.okc rfl rfl rfl) rfl rfl (rm_wrong hR_22 (by omega)) (fun v400 M401 h402 => ?_)
                        obtain ⟨u408, I403, R404, rfl, hR405, hI406, hV407, z409, w410⟩ := h402
                        show ml _ _ _ (178, [(0, .ref m0), (1, .int i22_1)], [.int u408], M401) _
                        exact ml_ret rfl (r_z (z409)) (⟨_, _, _, rfl, hR405, ((eqI.rf.tr hI_22 (by decide)).tr hI406 (by decide)), ((eqR.rf.tr hV_22 (by decide)).tr hV407 (by decide)), z409, Or.inl w410⟩)
                  · have c_123 : ¬ (¬ u267 = 0) := of_decide_eq_false c_123
                    refine ml_blk 3 (S' := (130, [(0, .ref m0), (1, .int i22_1)], [.int i22_1, .int 20, .ref m0], M_22)) rfl ?_
                    refine ml_blk 2 (S' := (132, [(0, .ref m0), (1, .int i22_1)], [.int (i22_1 + 2), .int 20, .ref m0], M_22)) rfl ?_
                    refine ml_call (a := [.ref m0, .int 20, .int (i22_1 + 2)]) (rest := []) rfl (hR_22.okc rfl rfl rfl) rfl rfl (rm_wrong hR_22 (by omega)) (fun v411 M412 h413 => ?_)
                    obtain ⟨u419, I414, R415, rfl, hR416, hI417, hV418, z420, w421⟩ := h413
                    show ml _ _ _ (135, [(0, .ref m0), (1, .int i22_1)], [.int u419], M412) _
                    exact ml_ret rfl (r_z (z420)) (⟨_, _, _, rfl, hR416, ((eqI.rf.tr hI_22 (by decide)).tr hI417 (by decide)), ((eqR.rf.tr hV_22 (by decide)).tr hV418 (by decide)), z420, Or.inl w421⟩)
              refine ml_if (S1 := (92, [(0, .ref m0), (1, .int i22_1), (2, .int (f2 f fA)), (3, .int 0), (4, .int i22_4), (5, .int (f2 f i22_1))], [], M_22)) (S2 := (73, [(0, .ref m0), (1, .int i22_1), (2, .int (f2 f fA)), (3, .int 0), (4, .int i22_4), (5, .int (f2 f i22_1))], [], M_22)) rfl rfl rfl (fun c_70 => ?_) (fun c_70 => ?_)
              · have c_70 : (nf &&& 512) = 0 := of_decide_eq_true c_70
                exact J_92 
              · have c_70 : ¬ ((nf &&& 512) = 0) := of_decide_eq_false c_70
                refine ml_blk 3 (S' := (79, [(0, .ref m0), (1, .int i22_1), (2, .int (f2 f fA)), (3, .int 0), (4, .int i22_4), (5, .int (f2 f i22_1))], [.int ((f2 f i22_1) &&& 16607)], M_22)) rfl ?_
                refine ml_st (S' := (81, [(0, .ref m0), (1, .int i22_1), (2, .int (f2 f fA)), (3, .int 0), (4, .int i22_4), (5, .int (f2 f i22_1))], [.int 25, .int ((f2 f i22_1) &&& 16607)], M_22)) rfl rfl rfl ?_
                refine ml_if2 (S1 := (92, [(0, .ref m0), (1, .int i22_1), (2, .int (f2 f fA)), (3, .int 0), (4, .int i22_4), (5, .int (f2 f i22_1))], [], M_22)) (S2 := (84, [(0, .ref m0), (1, .int i22_1)], [], M_22)) rfl rfl rfl (fun c_81 => ?_) (fun c_81 => ?_)
                · have c_81 : ((f2 f i22_1) &&& 16607) = 25 := of_decide_eq_true c_81
                  exact J_92 
                · have c_81 : ¬ (((f2 f i22_1) &&& 16607) = 25) := of_decide_eq_false c_81
                  refine ml_blk 3 (S' := (88, [(0, .ref m0), (1, .int i22_1)], [.int i22_1, .int 19, .ref m0], M_22)) rfl ?_
                  refine ml_call (a := [.ref m0, .int 19, .int i22_1]) (rest := []) rfl (hR_22.okc rfl rfl rfl) rfl rfl (rm_wrong hR_22 (by omega)) (fun v422 M423 h424 => ?_)
                  obtain ⟨u430, I425, R426, rfl, hR427, hI428, hV429, z431, w432⟩ := h424
                  show ml _ _ _ (91, [(0, .ref m0), (1, .int i22_1)], [.int u430], M423) _
                  exact ml_ret rfl (r_z (z431)) (⟨_, _, _, rfl, hR427, ((eqI.rf.tr hI_22 (by decide)).tr hI428 (by decide)), ((eqR.rf.tr hV_22 (by decide)).tr hV429 (by decide)), z431, Or.inl w432⟩)
  exact L_22 _ (fA + 2) 0 _ _ _ (Nat.le_refl _) hR eqI.rf eqR.rf (⟨by decide, by show (0 : Int) ≤ _; exact f2_pos, hk25, by rw [show ((f2 f fA).toInt - (0 : Int32).toInt).toNat = (f2 f fA).toInt.toNat by have : (0 : Int32).toInt = 0 := rfl; omega]; exact hmb.2.2.1, by rw [eA2]; have : (0 : Int32).toInt = 0 := rfl; omega, fun x hx => absurd hx (Nat.not_lt_zero x)⟩)
end
section
set_option maxHeartbeats 2000000 in
theorem rm_checkMethods {g : xe_G}  {m0 : Nat} {q : Nat → Nat} {z : Nat × Nat} {I : rI} {R : rR} {M : mi_H} {mA nf si sc : Int32} {n : Nat} {f : Nat → Int32} {S cN : Nat} {sa sl ch : Nat → Int32} {cp mj : Int32} {pa py : Nat → Int32} {aA : Int32}  (hR : RS g m0 q z I R M) (hk56 : I 56 = some mA) (hk26 : I 26 = some 0) (hk58 : I 58 = some nf) (hk9 : I 9 = some si) (hk10 : I 10 = some sc) (hF : FK n f I R) (hY : SK S cN sa sl ch I R) (hP : PK n f S cp mj pa py I R) (hK : KW I R) (hmb : MB f n mA aA) {d : Nat} (hd : 8 ≤ d) : mt (mT g) d 191 [.ref m0] M (fun v M' => ∃ (x : Int32) (I' : rI) (R' : rR), v = some (.int x) ∧ RS g m0 q z I' R' M' ∧ eqI [26, 47, 48] I I' ∧ eqR [34, 35, 36, 37, 38, 39, 40, 41, 42, 43, 44, 45, 46] R R' ∧ (x = 0 ∨ x = 1) ∧ (x = 0 ∨ ∃ k : Nat, k ≤ 8192 ∧ I' 26 = some (nI k) ∧ MKN f n S sa sl ch k R')) := by
  obtain ⟨d, rfl⟩ : ∃ e, d = e + 1 := ⟨d - 1, by omega⟩
  refine mt_in (b := mb_191 g) rfl rfl ?_
  show ml (mT g) d (mb_191 g).2 (0, [(0, .ref m0)], [], M) _
  have hn := hF.1
  have hA0 := hmb.1
  have hA1 := hmb.2.1
  have eA2 : (mA + 2).toInt = mA.toInt + 2 := i_add (by have : (2 : Int32).toInt = 2 := rfl; omega) (by have : (2 : Int32).toInt = 2 := rfl; omega)
  refine ml_st (S' := (1, [(0, .ref m0)], [.ref m0], M)) rfl rfl rfl ?_
  refine rg_int (S' := (4, [(0, .ref m0)], [.int mA], M)) rfl hR rfl (hk56) rfl ?_
  refine ml_st (S' := (5, [(1, .int mA), (0, .ref m0)], [], M)) rfl rfl rfl ?_
  refine ml_blk 2 (S' := (7, [(1, .int mA), (0, .ref m0)], [.int mA, .ref m0], M)) rfl ?_
  refine ml_call (a := [.ref m0, .int mA]) (rest := []) rfl (hR.okc rfl rfl rfl) rfl rfl (rm_u2 hR hF (hA0) (hA1) (by omega)) (fun v11 M12 h13 => ?_)
  obtain ⟨rfl, h13⟩ := h13
  rw [h13]
  show ml _ _ _ (10, [(1, .int mA), (0, .ref m0)], [.int (f2 f mA)], M) _
  refine ml_st (S' := (11, [(2, .int (f2 f mA)), (1, .int mA), (0, .ref m0)], [], M)) rfl rfl rfl ?_
  refine ml_st (S' := (14, [(1, .int (mA + 2)), (2, .int (f2 f mA)), (0, .ref m0)], [], M)) rfl rfl rfl ?_
  refine ml_st (S' := (15, [(1, .int (mA + 2)), (2, .int (f2 f mA)), (0, .ref m0)], [.ref m0], M)) rfl rfl rfl ?_
  refine rg_int (S' := (18, [(1, .int (mA + 2)), (2, .int (f2 f mA)), (0, .ref m0)], [.int 0], M)) rfl hR rfl (hk26) rfl ?_
  refine ml_st (S' := (19, [(3, .int 0), (1, .int (mA + 2)), (2, .int (f2 f mA)), (0, .ref m0)], [], M)) rfl rfl rfl ?_
  refine ml_st (S' := (20, [(3, .int 0), (1, .int (mA + 2)), (2, .int (f2 f mA)), (0, .ref m0)], [.ref m0], M)) rfl rfl rfl ?_
  refine rg_int (S' := (23, [(3, .int 0), (1, .int (mA + 2)), (2, .int (f2 f mA)), (0, .ref m0)], [.int nf], M)) rfl hR rfl (hk58) rfl ?_
  refine ml_blk 2 (S' := (27, [(3, .int 0), (1, .int (mA + 2)), (2, .int (f2 f mA)), (0, .ref m0)], [.int (nf &&& 512)], M)) rfl ?_
  have J_35 : ∀ (s35_0 : Int32), ml (mT g) d (mb_191 g).2 (35, [(0, .ref m0), (1, .int (mA + 2)), (2, .int (f2 f mA)), (3, .int 0)], [.int s35_0], M) (fun v M' => ∃ (x : Int32) (I' : rI) (R' : rR), v = some (.int x) ∧ RS g m0 q z I' R' M' ∧ eqI [26, 47, 48] I I' ∧ eqR [34, 35, 36, 37, 38, 39, 40, 41, 42, 43, 44, 45, 46] R R' ∧ (x = 0 ∨ x = 1) ∧ (x = 0 ∨ ∃ k : Nat, k ≤ 8192 ∧ I' 26 = some (nI k) ∧ MKN f n S sa sl ch k R')) := by
    intro s35_0
    refine ml_st (S' := (37, [(4, .int s35_0), (0, .ref m0), (1, .int (mA + 2)), (2, .int (f2 f mA)), (3, .int 0)], [], M)) rfl rfl rfl ?_
    refine ml_st (S' := (38, [(4, .int s35_0), (0, .ref m0), (1, .int (mA + 2)), (2, .int (f2 f mA)), (3, .int 0)], [.int 0], M)) rfl rfl rfl ?_
    refine ml_st (S' := (40, [(0, .ref m0), (1, .int (mA + 2)), (2, .int (f2 f mA)), (3, .int 0), (4, .int s35_0), (5, .int 0)], [], M)) rfl rfl rfl ?_
    have L_40 : ∀ (n_40 : Nat) (i40_1 : Int32) (i40_5 : Int32) (M_40 : mi_H) (I_40 : rI) (R_40 : rR), (2147483648 - i40_5.toInt).toNat ≤ n_40 → RS g m0 q z I_40 R_40 M_40 → eqI [26, 47, 48] I I_40 → eqR [34, 35, 36, 37, 38, 39, 40, 41, 42, 43, 44, 45, 46] R R_40 → (0 ≤ i40_5.toInt ∧ i40_5.toInt ≤ (f2 f mA).toInt ∧ I_40 26 = some i40_5 ∧ itr (MB1 f n) ((f2 f mA).toInt - i40_5.toInt).toNat i40_1 aA ∧ mA.toInt + 2 + 8 * i40_5.toInt ≤ i40_1.toInt ∧ MKN f n S sa sl ch i40_5.toInt.toNat R_40) → ml (mT g) d (mb_191 g).2 (40, [(0, .ref m0), (1, .int i40_1), (2, .int (f2 f mA)), (3, .int 0), (4, .int s35_0), (5, .int i40_5)], [], M_40) (fun v M' => ∃ (x : Int32) (I' : rI) (R' : rR), v = some (.int x) ∧ RS g m0 q z I' R' M' ∧ eqI [26, 47, 48] I I' ∧ eqR [34, 35, 36, 37, 38, 39, 40, 41, 42, 43, 44, 45, 46] R R' ∧ (x = 0 ∨ x = 1) ∧ (x = 0 ∨ ∃ k : Nat, k ≤ 8192 ∧ I' 26 = some (nI k) ∧ MKN f n S sa sl ch k R')) := by
      intro n_40
      induction n_40 with
      | zero => intro i40_1 i40_5 M_40 I_40 R_40 hn; exact (loop_zero hn).elim
      | succ n_40 ih_40 =>
        intro i40_1 i40_5 M_40 I_40 R_40 hn_40 hR_40 hI_40 hV_40 hi_40
        obtain ⟨hk0, hk1, h26, hit, hpk, hmk⟩ := hi_40
        refine ml_blk 2 (S' := (43, [(0, .ref m0), (1, .int i40_1), (2, .int (f2 f mA)), (3, .int 0), (4, .int s35_0), (5, .int i40_5)], [.int (f2 f mA), .int i40_5], M_40)) rfl ?_
        refine ml_if2 (S1 := (532, [(0, .ref m0), (1, .int i40_1), (2, .int (f2 f mA)), (3, .int 0), (4, .int s35_0), (5, .int i40_5)], [], M_40)) (S2 := (46, [(0, .ref m0), (1, .int i40_1), (2, .int (f2 f mA)), (3, .int 0), (4, .int s35_0), (5, .int i40_5)], [], M_40)) rfl rfl rfl (fun c_43 => ?_) (fun c_43 => ?_)
        · have c_43 : (f2 f mA) ≤ i40_5 := of_decide_eq_true c_43
          refine ml_st (S' := (533, [(0, .ref m0), (1, .int i40_1), (2, .int (f2 f mA)), (3, .int 0), (4, .int s35_0), (5, .int i40_5)], [.int 1], M_40)) rfl rfl rfl ?_
          exact ml_ret rfl (r_z (Or.inr rfl)) (⟨_, _, _, rfl, hR_40, (eqI.rf.tr hI_40 (by decide)), (eqR.rf.tr hV_40 (by decide)), Or.inr rfl, Or.inr ⟨i40_5.toInt.toNat, by have := itr.ge (w := 0) (fun a b h => by have := MB1.ge hn a b h; omega) hit; have := (mb_ge hn hmb).2; omega, by rw [nI_back hk0 (Int.le_trans hk1 f2_le)]; exact h26, hmk⟩⟩)
        · have c_43 : ¬ ((f2 f mA) ≤ i40_5) := of_decide_eq_false c_43
          obtain ⟨b1, hb1, hnx⟩ := itr_next hit c_43
          obtain ⟨g0, g1, g2⟩ := hb1
          have hg := at_ge hn g2
          have hkl := i_nle c_43
          have e2 : (i40_1 + 2).toInt = i40_1.toInt + 2 := i_add (by have : (2 : Int32).toInt = 2 := rfl; omega) (by have : (2 : Int32).toInt = 2 := rfl; omega)
          have e4 : (i40_1 + 4).toInt = i40_1.toInt + 4 := i_add (by have : (4 : Int32).toInt = 4 := rfl; omega) (by have : (4 : Int32).toInt = 4 := rfl; omega)
          have e6 : (i40_1 + 6).toInt = i40_1.toInt + 6 := i_add (by have : (6 : Int32).toInt = 6 := rfl; omega) (by have : (6 : Int32).toInt = 6 := rfl; omega)
          have hk8 : i40_5.toInt < 8300 := by omega
          refine ml_blk 2 (S' := (48, [(0, .ref m0), (1, .int i40_1), (2, .int (f2 f mA)), (3, .int 0), (4, .int s35_0), (5, .int i40_5)], [.int i40_1, .ref m0], M_40)) rfl ?_
          have hF14 : FK n f I_40 R_40 := (hF.mono (cIx hI_40 (by decide)) (cRx hV_40 (by decide)))
          refine ml_call (a := [.ref m0, .int i40_1]) (rest := []) rfl (hR_40.okc rfl rfl rfl) rfl rfl (rm_u2 hR_40 hF14 (g0) (by omega) (by omega)) (fun v15 M16 h17 => ?_)
          obtain ⟨rfl, h17⟩ := h17
          rw [h17]
          show ml _ _ _ (51, [(0, .ref m0), (1, .int i40_1), (2, .int (f2 f mA)), (3, .int 0), (4, .int s35_0), (5, .int i40_5)], [.int (f2 f i40_1)], M_40) _
          refine ml_st (S' := (53, [(6, .int (f2 f i40_1)), (0, .ref m0), (1, .int i40_1), (2, .int (f2 f mA)), (3, .int 0), (4, .int s35_0), (5, .int i40_5)], [], M_40)) rfl rfl rfl ?_
          refine ml_blk 3 (S' := (56, [(6, .int (f2 f i40_1)), (0, .ref m0), (1, .int i40_1), (2, .int (f2 f mA)), (3, .int 0), (4, .int s35_0), (5, .int i40_5)], [.int i40_1, .ref m0, .ref m0], M_40)) rfl ?_
          refine ml_blk 2 (S' := (58, [(6, .int (f2 f i40_1)), (0, .ref m0), (1, .int i40_1), (2, .int (f2 f mA)), (3, .int 0), (4, .int s35_0), (5, .int i40_5)], [.int (i40_1 + 2), .ref m0, .ref m0], M_40)) rfl ?_
          refine ml_call (a := [.ref m0, .int (i40_1 + 2)]) (rest := [.ref m0]) rfl (hR_40.okc rfl rfl rfl) rfl rfl (rm_u2 hR_40 hF14 (by omega) (by omega) (by omega)) (fun v18 M19 h20 => ?_)
          obtain ⟨rfl, h20⟩ := h20
          rw [h20]
          show ml _ _ _ (61, [(6, .int (f2 f i40_1)), (0, .ref m0), (1, .int i40_1), (2, .int (f2 f mA)), (3, .int 0), (4, .int s35_0), (5, .int i40_5)], [.int (f2 f (i40_1 + 2)), .ref m0], M_40) _
          have hP21 : PK n f S cp mj pa py I_40 R_40 := (hP.mono (cIx hI_40 (by decide)) (cRx hV_40 (by decide)))
          refine ml_call (a := [.ref m0, .int (f2 f (i40_1 + 2))]) (rest := []) rfl (hR_40.okc rfl rfl rfl) rfl rfl (rm_tag hR_40 hF14 hP21 (by omega)) (fun v22 M23 h24 => ?_)
          obtain ⟨rfl, h24⟩ := h24
          rw [h24]
          show ml _ _ _ (64, [(6, .int (f2 f i40_1)), (0, .ref m0), (1, .int i40_1), (2, .int (f2 f mA)), (3, .int 0), (4, .int s35_0), (5, .int i40_5)], [.int (tgf f cp pa (f2 f (i40_1 + 2)))], M_40) _
          refine ml_st (S' := (65, [(6, .int (f2 f i40_1)), (0, .ref m0), (1, .int i40_1), (2, .int (f2 f mA)), (3, .int 0), (4, .int s35_0), (5, .int i40_5)], [.int 1, .int (tgf f cp pa (f2 f (i40_1 + 2)))], M_40)) rfl rfl rfl ?_
          have J_83 : ∀ (s83_0 : Int32), (s83_0 < 0 ∨ 0 ≤ s83_0.toInt ∧ s83_0.toInt < S) → ml (mT g) d (mb_191 g).2 (83, [(0, .ref m0), (1, .int i40_1), (2, .int (f2 f mA)), (3, .int 0), (4, .int s35_0), (5, .int i40_5), (6, .int (f2 f i40_1))], [.int s83_0], M_40) (fun v M' => ∃ (x : Int32) (I' : rI) (R' : rR), v = some (.int x) ∧ RS g m0 q z I' R' M' ∧ eqI [26, 47, 48] I I' ∧ eqR [34, 35, 36, 37, 38, 39, 40, 41, 42, 43, 44, 45, 46] R R' ∧ (x = 0 ∨ x = 1) ∧ (x = 0 ∨ ∃ k : Nat, k ≤ 8192 ∧ I' 26 = some (nI k) ∧ MKN f n S sa sl ch k R')) := by
            intro s83_0 hj_83
            refine ml_st (S' := (85, [(7, .int s83_0), (0, .ref m0), (1, .int i40_1), (2, .int (f2 f mA)), (3, .int 0), (4, .int s35_0), (5, .int i40_5), (6, .int (f2 f i40_1))], [], M_40)) rfl rfl rfl ?_
            refine ml_blk 2 (S' := (88, [(7, .int s83_0), (0, .ref m0), (1, .int i40_1), (2, .int (f2 f mA)), (3, .int 0), (4, .int s35_0), (5, .int i40_5), (6, .int (f2 f i40_1))], [.ref m0, .int s83_0], M_40)) rfl ?_
            refine rg_int (S' := (91, [(7, .int s83_0), (0, .ref m0), (1, .int i40_1), (2, .int (f2 f mA)), (3, .int 0), (4, .int s35_0), (5, .int i40_5), (6, .int (f2 f i40_1))], [.int si, .int s83_0], M_40)) rfl hR_40 rfl ((hI_40 9 (by decide)).trans (hk9)) rfl ?_
            have J_99 : ∀ (s99_0 : Int32), ml (mT g) d (mb_191 g).2 (99, [(0, .ref m0), (1, .int i40_1), (2, .int (f2 f mA)), (3, .int 0), (4, .int s35_0), (5, .int i40_5), (6, .int (f2 f i40_1)), (7, .int s83_0)], [.int s99_0], M_40) (fun v M' => ∃ (x : Int32) (I' : rI) (R' : rR), v = some (.int x) ∧ RS g m0 q z I' R' M' ∧ eqI [26, 47, 48] I I' ∧ eqR [34, 35, 36, 37, 38, 39, 40, 41, 42, 43, 44, 45, 46] R R' ∧ (x = 0 ∨ x = 1) ∧ (x = 0 ∨ ∃ k : Nat, k ≤ 8192 ∧ I' 26 = some (nI k) ∧ MKN f n S sa sl ch k R')) := by
              intro s99_0
              refine ml_st (S' := (101, [(8, .int s99_0), (0, .ref m0), (1, .int i40_1), (2, .int (f2 f mA)), (3, .int 0), (4, .int s35_0), (5, .int i40_5), (6, .int (f2 f i40_1)), (7, .int s83_0)], [], M_40)) rfl rfl rfl ?_
              refine ml_blk 2 (S' := (104, [(8, .int s99_0), (0, .ref m0), (1, .int i40_1), (2, .int (f2 f mA)), (3, .int 0), (4, .int s35_0), (5, .int i40_5), (6, .int (f2 f i40_1)), (7, .int s83_0)], [.ref m0, .int s83_0], M_40)) rfl ?_
              refine rg_int (S' := (107, [(8, .int s99_0), (0, .ref m0), (1, .int i40_1), (2, .int (f2 f mA)), (3, .int 0), (4, .int s35_0), (5, .int i40_5), (6, .int (f2 f i40_1)), (7, .int s83_0)], [.int sc, .int s83_0], M_40)) rfl hR_40 rfl ((hI_40 10 (by decide)).trans (hk10)) rfl ?_
              have J_115 : ∀ (s115_0 : Int32), ml (mT g) d (mb_191 g).2 (115, [(0, .ref m0), (1, .int i40_1), (2, .int (f2 f mA)), (3, .int 0), (4, .int s35_0), (5, .int i40_5), (6, .int (f2 f i40_1)), (7, .int s83_0), (8, .int s99_0)], [.int s115_0], M_40) (fun v M' => ∃ (x : Int32) (I' : rI) (R' : rR), v = some (.int x) ∧ RS g m0 q z I' R' M' ∧ eqI [26, 47, 48] I I' ∧ eqR [34, 35, 36, 37, 38, 39, 40, 41, 42, 43, 44, 45, 46] R R' ∧ (x = 0 ∨ x = 1) ∧ (x = 0 ∨ ∃ k : Nat, k ≤ 8192 ∧ I' 26 = some (nI k) ∧ MKN f n S sa sl ch k R')) := by
                intro s115_0
                refine ml_st (S' := (117, [(9, .int s115_0), (0, .ref m0), (1, .int i40_1), (2, .int (f2 f mA)), (3, .int 0), (4, .int s35_0), (5, .int i40_5), (6, .int (f2 f i40_1)), (7, .int s83_0), (8, .int s99_0)], [], M_40)) rfl rfl rfl ?_
                refine ml_st (S' := (119, [(9, .int s115_0), (0, .ref m0), (1, .int i40_1), (2, .int (f2 f mA)), (3, .int 0), (4, .int s35_0), (5, .int i40_5), (6, .int (f2 f i40_1)), (7, .int s83_0), (8, .int s99_0)], [.int s83_0], M_40)) rfl rfl rfl ?_
                refine ml_if (S1 := (147, [(0, .ref m0), (1, .int i40_1)], [], M_40)) (S2 := (122, [(9, .int s115_0), (0, .ref m0), (1, .int i40_1), (2, .int (f2 f mA)), (3, .int 0), (4, .int s35_0), (5, .int i40_5), (6, .int (f2 f i40_1)), (7, .int s83_0), (8, .int s99_0)], [], M_40)) rfl rfl rfl (fun c_119 => ?_) (fun c_119 => ?_)
                · have c_119 : s83_0 < 0 := of_decide_eq_true c_119
                  refine ml_blk 3 (S' := (151, [(0, .ref m0), (1, .int i40_1)], [.int i40_1, .int 24, .ref m0], M_40)) rfl ?_
                  refine ml_blk 2 (S' := (153, [(0, .ref m0), (1, .int i40_1)], [.int (i40_1 + 2), .int 24, .ref m0], M_40)) rfl ?_
                  refine ml_call (a := [.ref m0, .int 24, .int (i40_1 + 2)]) (rest := []) rfl (hR_40.okc rfl rfl rfl) rfl rfl (rm_wrong hR_40 (by omega)) (fun v25 M26 h27 => ?_)
                  obtain ⟨u33, I28, R29, rfl, hR30, hI31, hV32, z34, w35⟩ := h27
                  show ml _ _ _ (156, [(0, .ref m0), (1, .int i40_1)], [.int u33], M26) _
                  exact ml_ret rfl (r_z (z34)) (⟨_, _, _, rfl, hR30, ((eqI.rf.tr hI_40 (by decide)).tr hI31 (by decide)), ((eqR.rf.tr hV_40 (by decide)).tr hV32 (by decide)), z34, Or.inl w35⟩)
                · have c_119 : ¬ (s83_0 < 0) := of_decide_eq_false c_119
                  have hnm := hj_83.resolve_left c_119
                  refine ml_st (S' := (124, [(9, .int s115_0), (0, .ref m0), (1, .int i40_1), (2, .int (f2 f mA)), (3, .int 0), (4, .int s35_0), (5, .int i40_5), (6, .int (f2 f i40_1)), (7, .int s83_0), (8, .int s99_0)], [.int s115_0], M_40)) rfl rfl rfl ?_
                  have J_157 : ml (mT g) d (mb_191 g).2 (157, [(0, .ref m0), (1, .int i40_1), (2, .int (f2 f mA)), (3, .int 0), (4, .int s35_0), (5, .int i40_5), (6, .int (f2 f i40_1)), (7, .int s83_0), (8, .int s99_0), (9, .int s115_0)], [], M_40) (fun v M' => ∃ (x : Int32) (I' : rI) (R' : rR), v = some (.int x) ∧ RS g m0 q z I' R' M' ∧ eqI [26, 47, 48] I I' ∧ eqR [34, 35, 36, 37, 38, 39, 40, 41, 42, 43, 44, 45, 46] R R' ∧ (x = 0 ∨ x = 1) ∧ (x = 0 ∨ ∃ k : Nat, k ≤ 8192 ∧ I' 26 = some (nI k) ∧ MKN f n S sa sl ch k R')) := by
                    refine ml_st (S' := (159, [(0, .ref m0), (1, .int i40_1), (2, .int (f2 f mA)), (3, .int 0), (4, .int s35_0), (5, .int i40_5), (6, .int (f2 f i40_1)), (7, .int s83_0), (8, .int s99_0), (9, .int s115_0)], [.int s115_0], M_40)) rfl rfl rfl ?_
                    have J_183 : ml (mT g) d (mb_191 g).2 (183, [(0, .ref m0), (1, .int i40_1), (2, .int (f2 f mA)), (3, .int 0), (4, .int s35_0), (5, .int i40_5), (6, .int (f2 f i40_1)), (7, .int s83_0), (8, .int s99_0), (9, .int s115_0)], [], M_40) (fun v M' => ∃ (x : Int32) (I' : rI) (R' : rR), v = some (.int x) ∧ RS g m0 q z I' R' M' ∧ eqI [26, 47, 48] I I' ∧ eqR [34, 35, 36, 37, 38, 39, 40, 41, 42, 43, 44, 45, 46] R R' ∧ (x = 0 ∨ x = 1) ∧ (x = 0 ∨ ∃ k : Nat, k ≤ 8192 ∧ I' 26 = some (nI k) ∧ MKN f n S sa sl ch k R')) := by
                      refine ml_blk 3 (S' := (186, [(0, .ref m0), (1, .int i40_1), (2, .int (f2 f mA)), (3, .int 0), (4, .int s35_0), (5, .int i40_5), (6, .int (f2 f i40_1)), (7, .int s83_0), (8, .int s99_0), (9, .int s115_0)], [.int i40_1, .ref m0, .ref m0], M_40)) rfl ?_
                      refine ml_blk 2 (S' := (188, [(0, .ref m0), (1, .int i40_1), (2, .int (f2 f mA)), (3, .int 0), (4, .int s35_0), (5, .int i40_5), (6, .int (f2 f i40_1)), (7, .int s83_0), (8, .int s99_0), (9, .int s115_0)], [.int (i40_1 + 4), .ref m0, .ref m0], M_40)) rfl ?_
                      refine ml_call (a := [.ref m0, .int (i40_1 + 4)]) (rest := [.ref m0]) rfl (hR_40.okc rfl rfl rfl) rfl rfl (rm_u2 hR_40 hF14 (by omega) (by omega) (by omega)) (fun v36 M37 h38 => ?_)
                      obtain ⟨rfl, h38⟩ := h38
                      rw [h38]
                      show ml _ _ _ (191, [(0, .ref m0), (1, .int i40_1), (2, .int (f2 f mA)), (3, .int 0), (4, .int s35_0), (5, .int i40_5), (6, .int (f2 f i40_1)), (7, .int s83_0), (8, .int s99_0), (9, .int s115_0)], [.int (f2 f (i40_1 + 4)), .ref m0], M_40) _
                      refine ml_call (a := [.ref m0, .int (f2 f (i40_1 + 4))]) (rest := []) rfl (hR_40.okc rfl rfl rfl) rfl rfl (rm_tag hR_40 hF14 hP21 (by omega)) (fun v39 M40 h41 => ?_)
                      obtain ⟨rfl, h41⟩ := h41
                      rw [h41]
                      show ml _ _ _ (194, [(0, .ref m0), (1, .int i40_1), (2, .int (f2 f mA)), (3, .int 0), (4, .int s35_0), (5, .int i40_5), (6, .int (f2 f i40_1)), (7, .int s83_0), (8, .int s99_0), (9, .int s115_0)], [.int (tgf f cp pa (f2 f (i40_1 + 4)))], M_40) _
                      refine ml_st (S' := (195, [(0, .ref m0), (1, .int i40_1), (2, .int (f2 f mA)), (3, .int 0), (4, .int s35_0), (5, .int i40_5), (6, .int (f2 f i40_1)), (7, .int s83_0), (8, .int s99_0), (9, .int s115_0)], [.int 1, .int (tgf f cp pa (f2 f (i40_1 + 4)))], M_40)) rfl rfl rfl ?_
                      have J_213 : ∀ (s213_0 : Int32), (s213_0 < 0 ∨ 0 ≤ s213_0.toInt ∧ s213_0.toInt < S) → ml (mT g) d (mb_191 g).2 (213, [(0, .ref m0), (1, .int i40_1), (2, .int (f2 f mA)), (3, .int 0), (4, .int s35_0), (5, .int i40_5), (6, .int (f2 f i40_1)), (7, .int s83_0), (8, .int s99_0), (9, .int s115_0)], [.int s213_0], M_40) (fun v M' => ∃ (x : Int32) (I' : rI) (R' : rR), v = some (.int x) ∧ RS g m0 q z I' R' M' ∧ eqI [26, 47, 48] I I' ∧ eqR [34, 35, 36, 37, 38, 39, 40, 41, 42, 43, 44, 45, 46] R R' ∧ (x = 0 ∨ x = 1) ∧ (x = 0 ∨ ∃ k : Nat, k ≤ 8192 ∧ I' 26 = some (nI k) ∧ MKN f n S sa sl ch k R')) := by
                        intro s213_0 hj_213
                        refine ml_st (S' := (215, [(10, .int s213_0), (0, .ref m0), (1, .int i40_1), (2, .int (f2 f mA)), (3, .int 0), (4, .int s35_0), (5, .int i40_5), (6, .int (f2 f i40_1)), (7, .int s83_0), (8, .int s99_0), (9, .int s115_0)], [], M_40)) rfl rfl rfl ?_
                        refine ml_st (S' := (217, [(10, .int s213_0), (0, .ref m0), (1, .int i40_1), (2, .int (f2 f mA)), (3, .int 0), (4, .int s35_0), (5, .int i40_5), (6, .int (f2 f i40_1)), (7, .int s83_0), (8, .int s99_0), (9, .int s115_0)], [.int s213_0], M_40)) rfl rfl rfl ?_
                        refine ml_if (S1 := (269, [(0, .ref m0), (1, .int i40_1)], [], M_40)) (S2 := (220, [(10, .int s213_0), (0, .ref m0), (1, .int i40_1), (2, .int (f2 f mA)), (3, .int 0), (4, .int s35_0), (5, .int i40_5), (6, .int (f2 f i40_1)), (7, .int s83_0), (8, .int s99_0), (9, .int s115_0)], [], M_40)) rfl rfl rfl (fun c_217 => ?_) (fun c_217 => ?_)
                        · have c_217 : s213_0 < 0 := of_decide_eq_true c_217
                          refine ml_blk 3 (S' := (273, [(0, .ref m0), (1, .int i40_1)], [.int i40_1, .int 25, .ref m0], M_40)) rfl ?_
                          refine ml_blk 2 (S' := (275, [(0, .ref m0), (1, .int i40_1)], [.int (i40_1 + 4), .int 25, .ref m0], M_40)) rfl ?_
                          refine ml_call (a := [.ref m0, .int 25, .int (i40_1 + 4)]) (rest := []) rfl (hR_40.okc rfl rfl rfl) rfl rfl (rm_wrong hR_40 (by omega)) (fun v42 M43 h44 => ?_)
                          obtain ⟨u50, I45, R46, rfl, hR47, hI48, hV49, z51, w52⟩ := h44
                          show ml _ _ _ (278, [(0, .ref m0), (1, .int i40_1)], [.int u50], M43) _
                          exact ml_ret rfl (r_z (z51)) (⟨_, _, _, rfl, hR47, ((eqI.rf.tr hI_40 (by decide)).tr hI48 (by decide)), ((eqR.rf.tr hV_40 (by decide)).tr hV49 (by decide)), z51, Or.inl w52⟩)
                        · have c_217 : ¬ (s213_0 < 0) := of_decide_eq_false c_217
                          have hds := hj_213.resolve_left c_217
                          refine ml_blk 2 (S' := (223, [(10, .int s213_0), (0, .ref m0), (1, .int i40_1), (2, .int (f2 f mA)), (3, .int 0), (4, .int s35_0), (5, .int i40_5), (6, .int (f2 f i40_1)), (7, .int s83_0), (8, .int s99_0), (9, .int s115_0)], [.int s213_0, .ref m0], M_40)) rfl ?_
                          have hY53 : SK S cN sa sl ch I_40 R_40 := (hY.mono (cIx hI_40 (by decide)) (cRx hV_40 (by decide)))
                          refine ml_call (a := [.ref m0, .int s213_0]) (rest := []) rfl (hR_40.okc rfl rfl rfl) rfl rfl (rm_isMethod hR_40 hY53 (hds.1) (hds.2) (by omega)) (fun v54 M55 h56 => ?_)
                          obtain ⟨⟨u57, rfl, z58, w59⟩, h56⟩ := h56
                          rw [h56]
                          show ml _ _ _ (226, [(10, .int s213_0), (0, .ref m0), (1, .int i40_1), (2, .int (f2 f mA)), (3, .int 0), (4, .int s35_0), (5, .int i40_5), (6, .int (f2 f i40_1)), (7, .int s83_0), (8, .int s99_0), (9, .int s115_0)], [.int u57], M_40) _
                          refine ml_if (S1 := (269, [(0, .ref m0), (1, .int i40_1)], [], M_40)) (S2 := (229, [(10, .int s213_0), (0, .ref m0), (1, .int i40_1), (2, .int (f2 f mA)), (3, .int 0), (4, .int s35_0), (5, .int i40_5), (6, .int (f2 f i40_1)), (7, .int s83_0), (8, .int s99_0), (9, .int s115_0)], [], M_40)) rfl rfl rfl (fun c_226 => ?_) (fun c_226 => ?_)
                          · have c_226 : u57 = 0 := of_decide_eq_true c_226
                            refine ml_blk 3 (S' := (273, [(0, .ref m0), (1, .int i40_1)], [.int i40_1, .int 25, .ref m0], M_40)) rfl ?_
                            refine ml_blk 2 (S' := (275, [(0, .ref m0), (1, .int i40_1)], [.int (i40_1 + 4), .int 25, .ref m0], M_40)) rfl ?_
                            refine ml_call (a := [.ref m0, .int 25, .int (i40_1 + 4)]) (rest := []) rfl (hR_40.okc rfl rfl rfl) rfl rfl (rm_wrong hR_40 (by omega)) (fun v60 M61 h62 => ?_)
                            obtain ⟨u68, I63, R64, rfl, hR65, hI66, hV67, z69, w70⟩ := h62
                            show ml _ _ _ (278, [(0, .ref m0), (1, .int i40_1)], [.int u68], M61) _
                            exact ml_ret rfl (r_z (z69)) (⟨_, _, _, rfl, hR65, ((eqI.rf.tr hI_40 (by decide)).tr hI66 (by decide)), ((eqR.rf.tr hV_40 (by decide)).tr hV67 (by decide)), z69, Or.inl w70⟩)
                          · have c_226 : ¬ (u57 = 0) := of_decide_eq_false c_226
                            have hmt := w59.resolve_left c_226
                            refine ml_st (S' := (231, [(10, .int s213_0), (0, .ref m0), (1, .int i40_1), (2, .int (f2 f mA)), (3, .int 0), (4, .int s35_0), (5, .int i40_5), (6, .int (f2 f i40_1)), (7, .int s83_0), (8, .int s99_0), (9, .int s115_0)], [.int s99_0], M_40)) rfl rfl rfl ?_
                            have J_243 : ml (mT g) d (mb_191 g).2 (243, [(0, .ref m0), (1, .int i40_1), (2, .int (f2 f mA)), (3, .int 0), (4, .int s35_0), (5, .int i40_5), (6, .int (f2 f i40_1)), (7, .int s83_0), (9, .int s115_0), (10, .int s213_0)], [], M_40) (fun v M' => ∃ (x : Int32) (I' : rI) (R' : rR), v = some (.int x) ∧ RS g m0 q z I' R' M' ∧ eqI [26, 47, 48] I I' ∧ eqR [34, 35, 36, 37, 38, 39, 40, 41, 42, 43, 44, 45, 46] R R' ∧ (x = 0 ∨ x = 1) ∧ (x = 0 ∨ ∃ k : Nat, k ≤ 8192 ∧ I' 26 = some (nI k) ∧ MKN f n S sa sl ch k R')) := by
                              refine ml_blk 2 (S' := (246, [(0, .ref m0), (1, .int i40_1), (2, .int (f2 f mA)), (3, .int 0), (4, .int s35_0), (5, .int i40_5), (6, .int (f2 f i40_1)), (7, .int s83_0), (9, .int s115_0), (10, .int s213_0)], [.int s213_0, .ref m0], M_40)) rfl ?_
                              refine ml_call (a := [.ref m0, .int s213_0]) (rest := []) rfl (hR_40.okc rfl rfl rfl) rfl rfl (rm_places0 hR_40 hY53 (hds.1) (hds.2) (hmt.1) (by omega)) (fun v71 M72 h73 => ?_)
                              obtain ⟨⟨u74, rfl⟩, h73⟩ := h73
                              rw [h73]
                              show ml _ _ _ (249, [(0, .ref m0), (1, .int i40_1), (2, .int (f2 f mA)), (3, .int 0), (4, .int s35_0), (5, .int i40_5), (6, .int (f2 f i40_1)), (7, .int s83_0), (9, .int s115_0), (10, .int s213_0)], [.int u74], M_40) _
                              refine ml_blk 3 (S' := (254, [(0, .ref m0), (1, .int i40_1), (2, .int (f2 f mA)), (3, .int 0), (4, .int s35_0), (5, .int i40_5), (6, .int (f2 f i40_1)), (7, .int s83_0), (9, .int s115_0), (10, .int s213_0)], [.int ((f2 f i40_1) &&& 8), .int u74], M_40)) rfl ?_
                              have J_262 : ∀ (s262_0 : Int32), ml (mT g) d (mb_191 g).2 (262, [(0, .ref m0), (1, .int i40_1), (2, .int (f2 f mA)), (3, .int 0), (4, .int s35_0), (5, .int i40_5), (6, .int (f2 f i40_1)), (7, .int s83_0), (9, .int s115_0), (10, .int s213_0)], [.int s262_0, .int u74], M_40) (fun v M' => ∃ (x : Int32) (I' : rI) (R' : rR), v = some (.int x) ∧ RS g m0 q z I' R' M' ∧ eqI [26, 47, 48] I I' ∧ eqR [34, 35, 36, 37, 38, 39, 40, 41, 42, 43, 44, 45, 46] R R' ∧ (x = 0 ∨ x = 1) ∧ (x = 0 ∨ ∃ k : Nat, k ≤ 8192 ∧ I' 26 = some (nI k) ∧ MKN f n S sa sl ch k R')) := by
                                intro s262_0
                                refine ml_blk 2 (S' := (266, [(0, .ref m0), (1, .int i40_1), (2, .int (f2 f mA)), (3, .int 0), (4, .int s35_0), (5, .int i40_5), (6, .int (f2 f i40_1)), (7, .int s83_0), (9, .int s115_0), (10, .int s213_0)], [.int 255, .int (u74 + s262_0)], M_40)) rfl ?_
                                refine ml_if2 (S1 := (279, [(0, .ref m0), (1, .int i40_1), (2, .int (f2 f mA)), (3, .int 0), (4, .int s35_0), (5, .int i40_5), (6, .int (f2 f i40_1)), (7, .int s83_0), (9, .int s115_0), (10, .int s213_0)], [], M_40)) (S2 := (269, [(0, .ref m0), (1, .int i40_1)], [], M_40)) rfl rfl rfl (fun c_266 => ?_) (fun c_266 => ?_)
                                · have c_266 : (u74 + s262_0) ≤ 255 := of_decide_eq_true c_266
                                  refine ml_st (S' := (280, [(0, .ref m0), (1, .int i40_1), (2, .int (f2 f mA)), (3, .int 0), (4, .int s35_0), (5, .int i40_5), (6, .int (f2 f i40_1)), (7, .int s83_0), (9, .int s115_0), (10, .int s213_0)], [.ref m0], M_40)) rfl rfl rfl ?_
                                  refine rg_int (S' := (283, [(0, .ref m0), (1, .int i40_1), (2, .int (f2 f mA)), (3, .int 0), (4, .int s35_0), (5, .int i40_5), (6, .int (f2 f i40_1)), (7, .int s83_0), (9, .int s115_0), (10, .int s213_0)], [.int i40_5], M_40)) rfl hR_40 rfl (h26) rfl ?_
                                  refine ml_st (S' := (285, [(11, .int i40_5), (0, .ref m0), (1, .int i40_1), (2, .int (f2 f mA)), (3, .int 0), (4, .int s35_0), (5, .int i40_5), (6, .int (f2 f i40_1)), (7, .int s83_0), (9, .int s115_0), (10, .int s213_0)], [], M_40)) rfl rfl rfl ?_
                                  refine ml_st (S' := (286, [(11, .int i40_5), (0, .ref m0), (1, .int i40_1), (2, .int (f2 f mA)), (3, .int 0), (4, .int s35_0), (5, .int i40_5), (6, .int (f2 f i40_1)), (7, .int s83_0), (9, .int s115_0), (10, .int s213_0)], [.ref m0], M_40)) rfl rfl rfl ?_
                                  refine rg_ref (S' := (289, [(11, .int i40_5), (0, .ref m0), (1, .int i40_1), (2, .int (f2 f mA)), (3, .int 0), (4, .int s35_0), (5, .int i40_5), (6, .int (f2 f i40_1)), (7, .int s83_0), (9, .int s115_0), (10, .int s213_0)], [.ref (q 34)], M_40)) rfl hR_40 rfl rfl ?_
                                  refine ml_blk 2 (S' := (293, [(11, .int i40_5), (0, .ref m0), (1, .int i40_1), (2, .int (f2 f mA)), (3, .int 0), (4, .int s35_0), (5, .int i40_5), (6, .int (f2 f i40_1)), (7, .int s83_0), (9, .int s115_0), (10, .int s213_0)], [.int (f2 f i40_1), .int i40_5, .ref (q 34)], M_40)) rfl ?_
                                  refine ra_st (k := 34) rfl hR_40 rfl (vin_lt hk0 (by omega)) (fun M75 R76 hR77 e78 g79 f80 => ?_)
                                  show ml _ _ _ (294, [(11, .int i40_5), (0, .ref m0), (1, .int i40_1), (2, .int (f2 f mA)), (3, .int 0), (4, .int s35_0), (5, .int i40_5), (6, .int (f2 f i40_1)), (7, .int s83_0), (9, .int s115_0), (10, .int s213_0)], [], M75) _
                                  refine ml_st (S' := (295, [(11, .int i40_5), (0, .ref m0), (1, .int i40_1), (2, .int (f2 f mA)), (3, .int 0), (4, .int s35_0), (5, .int i40_5), (6, .int (f2 f i40_1)), (7, .int s83_0), (9, .int s115_0), (10, .int s213_0)], [.ref m0], M75)) rfl rfl rfl ?_
                                  refine rg_ref (S' := (298, [(11, .int i40_5), (0, .ref m0), (1, .int i40_1), (2, .int (f2 f mA)), (3, .int 0), (4, .int s35_0), (5, .int i40_5), (6, .int (f2 f i40_1)), (7, .int s83_0), (9, .int s115_0), (10, .int s213_0)], [.ref (q 35)], M75)) rfl hR77 rfl rfl ?_
                                  refine ml_blk 2 (S' := (302, [(11, .int i40_5), (0, .ref m0), (1, .int i40_1), (2, .int (f2 f mA)), (3, .int 0), (4, .int s35_0), (5, .int i40_5), (6, .int (f2 f i40_1)), (7, .int s83_0), (9, .int s115_0), (10, .int s213_0)], [.int s83_0, .int i40_5, .ref (q 35)], M75)) rfl ?_
                                  refine ra_st (k := 35) rfl hR77 rfl (vin_lt hk0 (by omega)) (fun M81 R82 hR83 e84 g85 f86 => ?_)
                                  show ml _ _ _ (303, [(11, .int i40_5), (0, .ref m0), (1, .int i40_1), (2, .int (f2 f mA)), (3, .int 0), (4, .int s35_0), (5, .int i40_5), (6, .int (f2 f i40_1)), (7, .int s83_0), (9, .int s115_0), (10, .int s213_0)], [], M81) _
                                  refine ml_st (S' := (304, [(11, .int i40_5), (0, .ref m0), (1, .int i40_1), (2, .int (f2 f mA)), (3, .int 0), (4, .int s35_0), (5, .int i40_5), (6, .int (f2 f i40_1)), (7, .int s83_0), (9, .int s115_0), (10, .int s213_0)], [.ref m0], M81)) rfl rfl rfl ?_
                                  refine rg_ref (S' := (307, [(11, .int i40_5), (0, .ref m0), (1, .int i40_1), (2, .int (f2 f mA)), (3, .int 0), (4, .int s35_0), (5, .int i40_5), (6, .int (f2 f i40_1)), (7, .int s83_0), (9, .int s115_0), (10, .int s213_0)], [.ref (q 36)], M81)) rfl hR83 rfl rfl ?_
                                  refine ml_blk 2 (S' := (311, [(11, .int i40_5), (0, .ref m0), (1, .int i40_1), (2, .int (f2 f mA)), (3, .int 0), (4, .int s35_0), (5, .int i40_5), (6, .int (f2 f i40_1)), (7, .int s83_0), (9, .int s115_0), (10, .int s213_0)], [.int s213_0, .int i40_5, .ref (q 36)], M81)) rfl ?_
                                  refine ra_st (k := 36) rfl hR83 rfl (vin_lt hk0 (by omega)) (fun M87 R88 hR89 e90 g91 f92 => ?_)
                                  show ml _ _ _ (312, [(11, .int i40_5), (0, .ref m0), (1, .int i40_1), (2, .int (f2 f mA)), (3, .int 0), (4, .int s35_0), (5, .int i40_5), (6, .int (f2 f i40_1)), (7, .int s83_0), (9, .int s115_0), (10, .int s213_0)], [], M87) _
                                  refine ml_st (S' := (313, [(11, .int i40_5), (0, .ref m0), (1, .int i40_1), (2, .int (f2 f mA)), (3, .int 0), (4, .int s35_0), (5, .int i40_5), (6, .int (f2 f i40_1)), (7, .int s83_0), (9, .int s115_0), (10, .int s213_0)], [.ref m0], M87)) rfl rfl rfl ?_
                                  refine rg_ref (S' := (316, [(11, .int i40_5), (0, .ref m0), (1, .int i40_1), (2, .int (f2 f mA)), (3, .int 0), (4, .int s35_0), (5, .int i40_5), (6, .int (f2 f i40_1)), (7, .int s83_0), (9, .int s115_0), (10, .int s213_0)], [.ref (q 37)], M87)) rfl hR89 rfl rfl ?_
                                  refine ml_blk 2 (S' := (319, [(11, .int i40_5), (0, .ref m0), (1, .int i40_1), (2, .int (f2 f mA)), (3, .int 0), (4, .int s35_0), (5, .int i40_5), (6, .int (f2 f i40_1)), (7, .int s83_0), (9, .int s115_0), (10, .int s213_0)], [.int (-1), .int i40_5, .ref (q 37)], M87)) rfl ?_
                                  refine ra_st (k := 37) rfl hR89 rfl (vin_lt hk0 (by omega)) (fun M93 R94 hR95 e96 g97 f98 => ?_)
                                  show ml _ _ _ (320, [(11, .int i40_5), (0, .ref m0), (1, .int i40_1), (2, .int (f2 f mA)), (3, .int 0), (4, .int s35_0), (5, .int i40_5), (6, .int (f2 f i40_1)), (7, .int s83_0), (9, .int s115_0), (10, .int s213_0)], [], M93) _
                                  refine ml_st (S' := (321, [(11, .int i40_5), (0, .ref m0), (1, .int i40_1), (2, .int (f2 f mA)), (3, .int 0), (4, .int s35_0), (5, .int i40_5), (6, .int (f2 f i40_1)), (7, .int s83_0), (9, .int s115_0), (10, .int s213_0)], [.ref m0], M93)) rfl rfl rfl ?_
                                  refine rg_ref (S' := (324, [(11, .int i40_5), (0, .ref m0), (1, .int i40_1), (2, .int (f2 f mA)), (3, .int 0), (4, .int s35_0), (5, .int i40_5), (6, .int (f2 f i40_1)), (7, .int s83_0), (9, .int s115_0), (10, .int s213_0)], [.ref (q 38)], M93)) rfl hR95 rfl rfl ?_
                                  refine ml_blk 2 (S' := (327, [(11, .int i40_5), (0, .ref m0), (1, .int i40_1), (2, .int (f2 f mA)), (3, .int 0), (4, .int s35_0), (5, .int i40_5), (6, .int (f2 f i40_1)), (7, .int s83_0), (9, .int s115_0), (10, .int s213_0)], [.int 0, .int i40_5, .ref (q 38)], M93)) rfl ?_
                                  refine ra_st (k := 38) rfl hR95 rfl (vin_lt hk0 (by omega)) (fun M99 R100 hR101 e102 g103 f104 => ?_)
                                  show ml _ _ _ (328, [(11, .int i40_5), (0, .ref m0), (1, .int i40_1), (2, .int (f2 f mA)), (3, .int 0), (4, .int s35_0), (5, .int i40_5), (6, .int (f2 f i40_1)), (7, .int s83_0), (9, .int s115_0), (10, .int s213_0)], [], M99) _
                                  refine ml_st (S' := (329, [(11, .int i40_5), (0, .ref m0), (1, .int i40_1), (2, .int (f2 f mA)), (3, .int 0), (4, .int s35_0), (5, .int i40_5), (6, .int (f2 f i40_1)), (7, .int s83_0), (9, .int s115_0), (10, .int s213_0)], [.ref m0], M99)) rfl rfl rfl ?_
                                  refine rg_ref (S' := (332, [(11, .int i40_5), (0, .ref m0), (1, .int i40_1), (2, .int (f2 f mA)), (3, .int 0), (4, .int s35_0), (5, .int i40_5), (6, .int (f2 f i40_1)), (7, .int s83_0), (9, .int s115_0), (10, .int s213_0)], [.ref (q 39)], M99)) rfl hR101 rfl rfl ?_
                                  refine ml_blk 2 (S' := (335, [(11, .int i40_5), (0, .ref m0), (1, .int i40_1), (2, .int (f2 f mA)), (3, .int 0), (4, .int s35_0), (5, .int i40_5), (6, .int (f2 f i40_1)), (7, .int s83_0), (9, .int s115_0), (10, .int s213_0)], [.int 0, .int i40_5, .ref (q 39)], M99)) rfl ?_
                                  refine ra_st (k := 39) rfl hR101 rfl (vin_lt hk0 (by omega)) (fun M105 R106 hR107 e108 g109 f110 => ?_)
                                  show ml _ _ _ (336, [(11, .int i40_5), (0, .ref m0), (1, .int i40_1), (2, .int (f2 f mA)), (3, .int 0), (4, .int s35_0), (5, .int i40_5), (6, .int (f2 f i40_1)), (7, .int s83_0), (9, .int s115_0), (10, .int s213_0)], [], M105) _
                                  refine ml_st (S' := (337, [(11, .int i40_5), (0, .ref m0), (1, .int i40_1), (2, .int (f2 f mA)), (3, .int 0), (4, .int s35_0), (5, .int i40_5), (6, .int (f2 f i40_1)), (7, .int s83_0), (9, .int s115_0), (10, .int s213_0)], [.ref m0], M105)) rfl rfl rfl ?_
                                  refine rg_ref (S' := (340, [(11, .int i40_5), (0, .ref m0), (1, .int i40_1), (2, .int (f2 f mA)), (3, .int 0), (4, .int s35_0), (5, .int i40_5), (6, .int (f2 f i40_1)), (7, .int s83_0), (9, .int s115_0), (10, .int s213_0)], [.ref (q 40)], M105)) rfl hR107 rfl rfl ?_
                                  refine ml_blk 2 (S' := (343, [(11, .int i40_5), (0, .ref m0), (1, .int i40_1), (2, .int (f2 f mA)), (3, .int 0), (4, .int s35_0), (5, .int i40_5), (6, .int (f2 f i40_1)), (7, .int s83_0), (9, .int s115_0), (10, .int s213_0)], [.int 0, .int i40_5, .ref (q 40)], M105)) rfl ?_
                                  refine ra_st (k := 40) rfl hR107 rfl (vin_lt hk0 (by omega)) (fun M111 R112 hR113 e114 g115 f116 => ?_)
                                  show ml _ _ _ (344, [(11, .int i40_5), (0, .ref m0), (1, .int i40_1), (2, .int (f2 f mA)), (3, .int 0), (4, .int s35_0), (5, .int i40_5), (6, .int (f2 f i40_1)), (7, .int s83_0), (9, .int s115_0), (10, .int s213_0)], [], M111) _
                                  refine ml_st (S' := (345, [(11, .int i40_5), (0, .ref m0), (1, .int i40_1), (2, .int (f2 f mA)), (3, .int 0), (4, .int s35_0), (5, .int i40_5), (6, .int (f2 f i40_1)), (7, .int s83_0), (9, .int s115_0), (10, .int s213_0)], [.ref m0], M111)) rfl rfl rfl ?_
                                  refine rg_ref (S' := (348, [(11, .int i40_5), (0, .ref m0), (1, .int i40_1), (2, .int (f2 f mA)), (3, .int 0), (4, .int s35_0), (5, .int i40_5), (6, .int (f2 f i40_1)), (7, .int s83_0), (9, .int s115_0), (10, .int s213_0)], [.ref (q 42)], M111)) rfl hR113 rfl rfl ?_
                                  refine ml_blk 2 (S' := (351, [(11, .int i40_5), (0, .ref m0), (1, .int i40_1), (2, .int (f2 f mA)), (3, .int 0), (4, .int s35_0), (5, .int i40_5), (6, .int (f2 f i40_1)), (7, .int s83_0), (9, .int s115_0), (10, .int s213_0)], [.int 0, .int i40_5, .ref (q 42)], M111)) rfl ?_
                                  refine ra_st (k := 42) rfl hR113 rfl (vin_lt hk0 (by omega)) (fun M117 R118 hR119 e120 g121 f122 => ?_)
                                  show ml _ _ _ (352, [(11, .int i40_5), (0, .ref m0), (1, .int i40_1), (2, .int (f2 f mA)), (3, .int 0), (4, .int s35_0), (5, .int i40_5), (6, .int (f2 f i40_1)), (7, .int s83_0), (9, .int s115_0), (10, .int s213_0)], [], M117) _
                                  refine ml_st (S' := (353, [(11, .int i40_5), (0, .ref m0), (1, .int i40_1), (2, .int (f2 f mA)), (3, .int 0), (4, .int s35_0), (5, .int i40_5), (6, .int (f2 f i40_1)), (7, .int s83_0), (9, .int s115_0), (10, .int s213_0)], [.ref m0], M117)) rfl rfl rfl ?_
                                  refine rg_ref (S' := (356, [(11, .int i40_5), (0, .ref m0), (1, .int i40_1), (2, .int (f2 f mA)), (3, .int 0), (4, .int s35_0), (5, .int i40_5), (6, .int (f2 f i40_1)), (7, .int s83_0), (9, .int s115_0), (10, .int s213_0)], [.ref (q 43)], M117)) rfl hR119 rfl rfl ?_
                                  refine ml_blk 2 (S' := (359, [(11, .int i40_5), (0, .ref m0), (1, .int i40_1), (2, .int (f2 f mA)), (3, .int 0), (4, .int s35_0), (5, .int i40_5), (6, .int (f2 f i40_1)), (7, .int s83_0), (9, .int s115_0), (10, .int s213_0)], [.int 0, .int i40_5, .ref (q 43)], M117)) rfl ?_
                                  refine ra_st (k := 43) rfl hR119 rfl (vin_lt hk0 (by omega)) (fun M123 R124 hR125 e126 g127 f128 => ?_)
                                  show ml _ _ _ (360, [(11, .int i40_5), (0, .ref m0), (1, .int i40_1), (2, .int (f2 f mA)), (3, .int 0), (4, .int s35_0), (5, .int i40_5), (6, .int (f2 f i40_1)), (7, .int s83_0), (9, .int s115_0), (10, .int s213_0)], [], M123) _
                                  refine ml_st (S' := (361, [(11, .int i40_5), (0, .ref m0), (1, .int i40_1), (2, .int (f2 f mA)), (3, .int 0), (4, .int s35_0), (5, .int i40_5), (6, .int (f2 f i40_1)), (7, .int s83_0), (9, .int s115_0), (10, .int s213_0)], [.ref m0], M123)) rfl rfl rfl ?_
                                  refine rg_ref (S' := (364, [(11, .int i40_5), (0, .ref m0), (1, .int i40_1), (2, .int (f2 f mA)), (3, .int 0), (4, .int s35_0), (5, .int i40_5), (6, .int (f2 f i40_1)), (7, .int s83_0), (9, .int s115_0), (10, .int s213_0)], [.ref (q 44)], M123)) rfl hR125 rfl rfl ?_
                                  refine ml_blk 2 (S' := (367, [(11, .int i40_5), (0, .ref m0), (1, .int i40_1), (2, .int (f2 f mA)), (3, .int 0), (4, .int s35_0), (5, .int i40_5), (6, .int (f2 f i40_1)), (7, .int s83_0), (9, .int s115_0), (10, .int s213_0)], [.int 0, .int i40_5, .ref (q 44)], M123)) rfl ?_
                                  refine ra_st (k := 44) rfl hR125 rfl (vin_lt hk0 (by omega)) (fun M129 R130 hR131 e132 g133 f134 => ?_)
                                  show ml _ _ _ (368, [(11, .int i40_5), (0, .ref m0), (1, .int i40_1), (2, .int (f2 f mA)), (3, .int 0), (4, .int s35_0), (5, .int i40_5), (6, .int (f2 f i40_1)), (7, .int s83_0), (9, .int s115_0), (10, .int s213_0)], [], M129) _
                                  refine ml_st (S' := (369, [(11, .int i40_5), (0, .ref m0), (1, .int i40_1), (2, .int (f2 f mA)), (3, .int 0), (4, .int s35_0), (5, .int i40_5), (6, .int (f2 f i40_1)), (7, .int s83_0), (9, .int s115_0), (10, .int s213_0)], [.ref m0], M129)) rfl rfl rfl ?_
                                  refine rg_ref (S' := (372, [(11, .int i40_5), (0, .ref m0), (1, .int i40_1), (2, .int (f2 f mA)), (3, .int 0), (4, .int s35_0), (5, .int i40_5), (6, .int (f2 f i40_1)), (7, .int s83_0), (9, .int s115_0), (10, .int s213_0)], [.ref (q 45)], M129)) rfl hR131 rfl rfl ?_
                                  refine ml_blk 3 (S' := (376, [(11, .int i40_5), (0, .ref m0), (1, .int i40_1), (2, .int (f2 f mA)), (3, .int 0), (4, .int s35_0), (5, .int i40_5), (6, .int (f2 f i40_1)), (7, .int s83_0), (9, .int s115_0), (10, .int s213_0)], [.int i40_1, .ref m0, .int i40_5, .ref (q 45)], M129)) rfl ?_
                                  refine ml_blk 2 (S' := (378, [(11, .int i40_5), (0, .ref m0), (1, .int i40_1), (2, .int (f2 f mA)), (3, .int 0), (4, .int s35_0), (5, .int i40_5), (6, .int (f2 f i40_1)), (7, .int s83_0), (9, .int s115_0), (10, .int s213_0)], [.int (i40_1 + 2), .ref m0, .int i40_5, .ref (q 45)], M129)) rfl ?_
                                  have hF135 : FK n f I_40 R130 := ((((((((((hF14.mono (fun _ _ => rfl) (pRx f80 (by decide))).mono (fun _ _ => rfl) (pRx f86 (by decide))).mono (fun _ _ => rfl) (pRx f92 (by decide))).mono (fun _ _ => rfl) (pRx f98 (by decide))).mono (fun _ _ => rfl) (pRx f104 (by decide))).mono (fun _ _ => rfl) (pRx f110 (by decide))).mono (fun _ _ => rfl) (pRx f116 (by decide))).mono (fun _ _ => rfl) (pRx f122 (by decide))).mono (fun _ _ => rfl) (pRx f128 (by decide))).mono (fun _ _ => rfl) (pRx f134 (by decide)))
                                  refine ml_call (a := [.ref m0, .int (i40_1 + 2)]) (rest := [.int i40_5, .ref (q 45)]) rfl (hR131.okc rfl rfl rfl) rfl rfl (rm_u2 hR131 hF135 (by omega) (by omega) (by omega)) (fun v136 M137 h138 => ?_)
                                  obtain ⟨rfl, h138⟩ := h138
                                  rw [h138]
                                  show ml _ _ _ (381, [(11, .int i40_5), (0, .ref m0), (1, .int i40_1), (2, .int (f2 f mA)), (3, .int 0), (4, .int s35_0), (5, .int i40_5), (6, .int (f2 f i40_1)), (7, .int s83_0), (9, .int s115_0), (10, .int s213_0)], [.int (f2 f (i40_1 + 2)), .int i40_5, .ref (q 45)], M129) _
                                  refine ra_st (k := 45) rfl hR131 rfl (vin_lt hk0 (by omega)) (fun M139 R140 hR141 e142 g143 f144 => ?_)
                                  show ml _ _ _ (382, [(11, .int i40_5), (0, .ref m0), (1, .int i40_1), (2, .int (f2 f mA)), (3, .int 0), (4, .int s35_0), (5, .int i40_5), (6, .int (f2 f i40_1)), (7, .int s83_0), (9, .int s115_0), (10, .int s213_0)], [], M139) _
                                  refine ml_st (S' := (383, [(11, .int i40_5), (0, .ref m0), (1, .int i40_1), (2, .int (f2 f mA)), (3, .int 0), (4, .int s35_0), (5, .int i40_5), (6, .int (f2 f i40_1)), (7, .int s83_0), (9, .int s115_0), (10, .int s213_0)], [.ref m0], M139)) rfl rfl rfl ?_
                                  refine rg_ref (S' := (386, [(11, .int i40_5), (0, .ref m0), (1, .int i40_1), (2, .int (f2 f mA)), (3, .int 0), (4, .int s35_0), (5, .int i40_5), (6, .int (f2 f i40_1)), (7, .int s83_0), (9, .int s115_0), (10, .int s213_0)], [.ref (q 46)], M139)) rfl hR141 rfl rfl ?_
                                  refine ml_blk 3 (S' := (390, [(11, .int i40_5), (0, .ref m0), (1, .int i40_1), (2, .int (f2 f mA)), (3, .int 0), (4, .int s35_0), (5, .int i40_5), (6, .int (f2 f i40_1)), (7, .int s83_0), (9, .int s115_0), (10, .int s213_0)], [.int i40_1, .ref m0, .int i40_5, .ref (q 46)], M139)) rfl ?_
                                  refine ml_blk 2 (S' := (392, [(11, .int i40_5), (0, .ref m0), (1, .int i40_1), (2, .int (f2 f mA)), (3, .int 0), (4, .int s35_0), (5, .int i40_5), (6, .int (f2 f i40_1)), (7, .int s83_0), (9, .int s115_0), (10, .int s213_0)], [.int (i40_1 + 4), .ref m0, .int i40_5, .ref (q 46)], M139)) rfl ?_
                                  have hF145 : FK n f I_40 R140 := (hF135.mono (fun _ _ => rfl) (pRx f144 (by decide)))
                                  refine ml_call (a := [.ref m0, .int (i40_1 + 4)]) (rest := [.int i40_5, .ref (q 46)]) rfl (hR141.okc rfl rfl rfl) rfl rfl (rm_u2 hR141 hF145 (by omega) (by omega) (by omega)) (fun v146 M147 h148 => ?_)
                                  obtain ⟨rfl, h148⟩ := h148
                                  rw [h148]
                                  show ml _ _ _ (395, [(11, .int i40_5), (0, .ref m0), (1, .int i40_1), (2, .int (f2 f mA)), (3, .int 0), (4, .int s35_0), (5, .int i40_5), (6, .int (f2 f i40_1)), (7, .int s83_0), (9, .int s115_0), (10, .int s213_0)], [.int (f2 f (i40_1 + 4)), .int i40_5, .ref (q 46)], M139) _
                                  refine ra_st (k := 46) rfl hR141 rfl (vin_lt hk0 (by omega)) (fun M149 R150 hR151 e152 g153 f154 => ?_)
                                  show ml _ _ _ (396, [(11, .int i40_5), (0, .ref m0), (1, .int i40_1), (2, .int (f2 f mA)), (3, .int 0), (4, .int s35_0), (5, .int i40_5), (6, .int (f2 f i40_1)), (7, .int s83_0), (9, .int s115_0), (10, .int s213_0)], [], M149) _
                                  refine ml_st (S' := (397, [(11, .int i40_5), (0, .ref m0), (1, .int i40_1), (2, .int (f2 f mA)), (3, .int 0), (4, .int s35_0), (5, .int i40_5), (6, .int (f2 f i40_1)), (7, .int s83_0), (9, .int s115_0), (10, .int s213_0)], [.int 0], M149)) rfl rfl rfl ?_
                                  refine ml_st (S' := (399, [(0, .ref m0), (1, .int i40_1), (2, .int (f2 f mA)), (3, .int 0), (4, .int s35_0), (5, .int i40_5), (6, .int (f2 f i40_1)), (7, .int s83_0), (9, .int s115_0), (10, .int s213_0), (11, .int i40_5), (12, .int 0)], [], M149)) rfl rfl rfl ?_
                                  have L_399 : ∀ (n_399 : Nat) (i399_12 : Int32), (2147483648 - i399_12.toInt).toNat ≤ n_399 → 0 ≤ i399_12.toInt → ml (mT g) d (mb_191 g).2 (399, [(0, .ref m0), (1, .int i40_1), (2, .int (f2 f mA)), (3, .int 0), (4, .int s35_0), (5, .int i40_5), (6, .int (f2 f i40_1)), (7, .int s83_0), (9, .int s115_0), (10, .int s213_0), (11, .int i40_5), (12, .int i399_12)], [], M149) (fun v M' => ∃ (x : Int32) (I' : rI) (R' : rR), v = some (.int x) ∧ RS g m0 q z I' R' M' ∧ eqI [26, 47, 48] I I' ∧ eqR [34, 35, 36, 37, 38, 39, 40, 41, 42, 43, 44, 45, 46] R R' ∧ (x = 0 ∨ x = 1) ∧ (x = 0 ∨ ∃ k : Nat, k ≤ 8192 ∧ I' 26 = some (nI k) ∧ MKN f n S sa sl ch k R')) := by
                                    intro n_399
                                    induction n_399 with
                                    | zero => intro i399_12 hn; exact (loop_zero hn).elim
                                    | succ n_399 ih_399 =>
                                      intro i399_12 hn_399 hi_399
                                      have hq0 := hi_399
                                      refine ml_blk 2 (S' := (403, [(0, .ref m0), (1, .int i40_1), (2, .int (f2 f mA)), (3, .int 0), (4, .int s35_0), (5, .int i40_5), (6, .int (f2 f i40_1)), (7, .int s83_0), (9, .int s115_0), (10, .int s213_0), (11, .int i40_5), (12, .int i399_12)], [.int i40_5, .int i399_12], M149)) rfl ?_
                                      refine ml_if2 (S1 := (444, [(0, .ref m0), (1, .int i40_1), (2, .int (f2 f mA)), (3, .int 0), (4, .int s35_0), (5, .int i40_5), (6, .int (f2 f i40_1)), (7, .int s83_0), (9, .int s115_0), (10, .int s213_0), (11, .int i40_5), (12, .int i399_12)], [], M149)) (S2 := (406, [(0, .ref m0), (1, .int i40_1), (2, .int (f2 f mA)), (3, .int 0), (4, .int s35_0), (5, .int i40_5), (6, .int (f2 f i40_1)), (7, .int s83_0), (9, .int s115_0), (10, .int s213_0), (11, .int i40_5), (12, .int i399_12)], [], M149)) rfl rfl rfl (fun c_403 => ?_) (fun c_403 => ?_)
                                      · have c_403 : i40_5 ≤ i399_12 := of_decide_eq_true c_403
                                        refine ml_blk 2 (S' := (446, [(0, .ref m0), (1, .int i40_1), (2, .int (f2 f mA)), (3, .int 0), (4, .int s35_0), (5, .int i40_5), (6, .int (f2 f i40_1)), (7, .int s83_0), (9, .int s115_0), (10, .int s213_0), (11, .int i40_5), (12, .int i399_12)], [.ref m0, .ref m0], M149)) rfl ?_
                                        refine rg_int (S' := (449, [(0, .ref m0), (1, .int i40_1), (2, .int (f2 f mA)), (3, .int 0), (4, .int s35_0), (5, .int i40_5), (6, .int (f2 f i40_1)), (7, .int s83_0), (9, .int s115_0), (10, .int s213_0), (11, .int i40_5), (12, .int i399_12)], [.int i40_5, .ref m0], M149)) rfl hR151 rfl (h26) rfl ?_
                                        refine ml_blk 2 (S' := (451, [(0, .ref m0), (1, .int i40_1), (2, .int (f2 f mA)), (3, .int 0), (4, .int s35_0), (5, .int i40_5), (6, .int (f2 f i40_1)), (7, .int s83_0), (9, .int s115_0), (10, .int s213_0), (11, .int i40_5), (12, .int i399_12)], [.int (i40_5 + 1), .ref m0], M149)) rfl ?_
                                        refine rp_int rfl hR151 rfl (fun M155 I156 hR157 e158 f159 => ?_)
                                        show ml _ _ _ (454, [(0, .ref m0), (1, .int i40_1), (2, .int (f2 f mA)), (3, .int 0), (4, .int s35_0), (5, .int i40_5), (6, .int (f2 f i40_1)), (7, .int s83_0), (9, .int s115_0), (10, .int s213_0), (11, .int i40_5), (12, .int i399_12)], [], M155) _
                                        refine ml_blk 3 (S' := (458, [(0, .ref m0), (1, .int i40_1), (2, .int (f2 f mA)), (3, .int 0), (4, .int s35_0), (5, .int i40_5), (6, .int (f2 f i40_1)), (7, .int s83_0), (9, .int s115_0), (10, .int s213_0), (11, .int i40_5), (12, .int i399_12)], [.int 6, .int i40_1, .ref m0], M155)) rfl ?_
                                        refine ml_blk 3 (S' := (462, [(0, .ref m0), (1, .int i40_1), (2, .int (f2 f mA)), (3, .int 0), (4, .int s35_0), (5, .int i40_5), (6, .int (f2 f i40_1)), (7, .int s83_0), (9, .int s115_0), (10, .int s213_0), (11, .int i40_5), (12, .int i399_12)], [.int i40_5, .int 2, .int (i40_1 + 6), .ref m0], M155)) rfl ?_
                                        have hF160 : FK n f I156 R150 := ((hF145.mono (fun _ _ => rfl) (pRx f154 (by decide))).mono (pIx f159 (by decide)) (fun _ _ => rfl))
                                        have hY161 : SK S cN sa sl ch I156 R150 := (((((((((((((hY53.mono (fun _ _ => rfl) (pRx f80 (by decide))).mono (fun _ _ => rfl) (pRx f86 (by decide))).mono (fun _ _ => rfl) (pRx f92 (by decide))).mono (fun _ _ => rfl) (pRx f98 (by decide))).mono (fun _ _ => rfl) (pRx f104 (by decide))).mono (fun _ _ => rfl) (pRx f110 (by decide))).mono (fun _ _ => rfl) (pRx f116 (by decide))).mono (fun _ _ => rfl) (pRx f122 (by decide))).mono (fun _ _ => rfl) (pRx f128 (by decide))).mono (fun _ _ => rfl) (pRx f134 (by decide))).mono (fun _ _ => rfl) (pRx f144 (by decide))).mono (fun _ _ => rfl) (pRx f154 (by decide))).mono (pIx f159 (by decide)) (fun _ _ => rfl))
                                        have hP162 : PK n f S cp mj pa py I156 R150 := (((((((((((((hP21.mono (fun _ _ => rfl) (pRx f80 (by decide))).mono (fun _ _ => rfl) (pRx f86 (by decide))).mono (fun _ _ => rfl) (pRx f92 (by decide))).mono (fun _ _ => rfl) (pRx f98 (by decide))).mono (fun _ _ => rfl) (pRx f104 (by decide))).mono (fun _ _ => rfl) (pRx f110 (by decide))).mono (fun _ _ => rfl) (pRx f116 (by decide))).mono (fun _ _ => rfl) (pRx f122 (by decide))).mono (fun _ _ => rfl) (pRx f128 (by decide))).mono (fun _ _ => rfl) (pRx f134 (by decide))).mono (fun _ _ => rfl) (pRx f144 (by decide))).mono (fun _ _ => rfl) (pRx f154 (by decide))).mono (pIx f159 (by decide)) (fun _ _ => rfl))
                                        have hK163 : KW I156 R150 := ((((((((((((((hK.mono (cIx hI_40 (by decide)) (cRx hV_40 (by decide))).mono (fun _ _ => rfl) (pRx f80 (by decide))).mono (fun _ _ => rfl) (pRx f86 (by decide))).mono (fun _ _ => rfl) (pRx f92 (by decide))).mono (fun _ _ => rfl) (pRx f98 (by decide))).mono (fun _ _ => rfl) (pRx f104 (by decide))).mono (fun _ _ => rfl) (pRx f110 (by decide))).mono (fun _ _ => rfl) (pRx f116 (by decide))).mono (fun _ _ => rfl) (pRx f122 (by decide))).mono (fun _ _ => rfl) (pRx f128 (by decide))).mono (fun _ _ => rfl) (pRx f134 (by decide))).mono (fun _ _ => rfl) (pRx f144 (by decide))).mono (fun _ _ => rfl) (pRx f154 (by decide))).mono (pIx f159 (by decide)) (fun _ _ => rfl))
                                        refine ml_call (a := [.ref m0, .int (i40_1 + 6), .int 2, .int i40_5]) (rest := []) rfl (hR157.okc rfl rfl rfl) rfl rfl (rm_checkAttributes2 hR157 hF160 hY161 hP162 hK163 (rfl) (g2) (hk0) (hk8) ((congrFun ((f154 34 (by decide)).trans ((f144 34 (by decide)).trans ((f134 34 (by decide)).trans ((f128 34 (by decide)).trans ((f122 34 (by decide)).trans ((f116 34 (by decide)).trans ((f110 34 (by decide)).trans ((f104 34 (by decide)).trans ((f98 34 (by decide)).trans ((f92 34 (by decide)).trans ((f86 34 (by decide))))))))))))) _).trans e78) ((congrFun ((f154 36 (by decide)).trans ((f144 36 (by decide)).trans ((f134 36 (by decide)).trans ((f128 36 (by decide)).trans ((f122 36 (by decide)).trans ((f116 36 (by decide)).trans ((f110 36 (by decide)).trans ((f104 36 (by decide)).trans ((f98 36 (by decide))))))))))) _).trans e90) (hds.1) (hds.2) (hmt) (⟨_, (congrFun ((f154 37 (by decide)).trans ((f144 37 (by decide)).trans ((f134 37 (by decide)).trans ((f128 37 (by decide)).trans ((f122 37 (by decide)).trans ((f116 37 (by decide)).trans ((f110 37 (by decide)).trans ((f104 37 (by decide)))))))))) _).trans e96, Or.inl (by decide)⟩) (fun k hk => by simp only [List.mem_cons, List.not_mem_nil, or_false] at hk; rcases hk with rfl | rfl | rfl | rfl | rfl | rfl; exact ⟨_, (congrFun ((f154 38 (by decide)).trans ((f144 38 (by decide)).trans ((f134 38 (by decide)).trans ((f128 38 (by decide)).trans ((f122 38 (by decide)).trans ((f116 38 (by decide)).trans ((f110 38 (by decide))))))))) _).trans e102⟩; exact ⟨_, (congrFun ((f154 39 (by decide)).trans ((f144 39 (by decide)).trans ((f134 39 (by decide)).trans ((f128 39 (by decide)).trans ((f122 39 (by decide)).trans ((f116 39 (by decide)))))))) _).trans e108⟩; exact ⟨_, (congrFun ((f154 40 (by decide)).trans ((f144 40 (by decide)).trans ((f134 40 (by decide)).trans ((f128 40 (by decide)).trans ((f122 40 (by decide))))))) _).trans e114⟩; exact ⟨_, (congrFun ((f154 42 (by decide)).trans ((f144 42 (by decide)).trans ((f134 42 (by decide)).trans ((f128 42 (by decide)))))) _).trans e120⟩; exact ⟨_, (congrFun ((f154 43 (by decide)).trans ((f144 43 (by decide)).trans ((f134 43 (by decide))))) _).trans e126⟩; exact ⟨_, (congrFun ((f154 44 (by decide)).trans ((f144 44 (by decide)))) _).trans e132⟩) (by omega)) (fun v164 M165 h166 => ?_)
                                        obtain ⟨u172, I167, R168, rfl, hR169, hI170, hV171, w173⟩ := h166
                                        show ml _ _ _ (465, [(0, .ref m0), (1, .int i40_1), (2, .int (f2 f mA)), (3, .int 0), (4, .int s35_0), (5, .int i40_5), (6, .int (f2 f i40_1)), (7, .int s83_0), (9, .int s115_0), (10, .int s213_0), (11, .int i40_5), (12, .int i399_12)], [.int u172], M165) _
                                        obtain ⟨hend, hpw9, hmc9, hkn9⟩ := w173
                                        refine ml_st (S' := (467, [(12, .int u172), (0, .ref m0), (1, .int i40_1), (2, .int (f2 f mA)), (3, .int 0), (4, .int s35_0), (5, .int i40_5), (6, .int (f2 f i40_1)), (7, .int s83_0), (9, .int s115_0), (10, .int s213_0), (11, .int i40_5)], [], M165)) rfl rfl rfl ?_
                                        refine ml_st (S' := (469, [(12, .int u172), (0, .ref m0), (1, .int i40_1), (2, .int (f2 f mA)), (3, .int 0), (4, .int s35_0), (5, .int i40_5), (6, .int (f2 f i40_1)), (7, .int s83_0), (9, .int s115_0), (10, .int s213_0), (11, .int i40_5)], [.int u172], M165)) rfl rfl rfl ?_
                                        refine ml_if (S1 := (474, [(12, .int u172), (0, .ref m0), (1, .int i40_1), (2, .int (f2 f mA)), (3, .int 0), (4, .int s35_0), (5, .int i40_5), (6, .int (f2 f i40_1)), (7, .int s83_0), (9, .int s115_0), (10, .int s213_0), (11, .int i40_5)], [], M165)) (S2 := (472, [(12, .int u172), (0, .ref m0), (1, .int i40_1), (2, .int (f2 f mA)), (3, .int 0), (4, .int s35_0), (5, .int i40_5), (6, .int (f2 f i40_1)), (7, .int s83_0), (9, .int s115_0), (10, .int s213_0), (11, .int i40_5)], [], M165)) rfl rfl rfl (fun c_469 => ?_) (fun c_469 => ?_)
                                        · have c_469 : 0 ≤ u172 := of_decide_eq_true c_469
                                          have hub : u172 = b1 := hend.resolve_left (fun q => by have := i_le c_469; have : (0 : Int32).toInt = 0 := rfl; omega)
                                          have hmc8 := hmc9
                                          obtain ⟨vc, hvc, -⟩ := hmc8
                                          refine ml_blk 3 (S' := (480, [(12, .int u172), (0, .ref m0), (1, .int i40_1), (2, .int (f2 f mA)), (3, .int 0), (4, .int s35_0), (5, .int i40_5), (6, .int (f2 f i40_1)), (7, .int s83_0), (9, .int s115_0), (10, .int s213_0), (11, .int i40_5)], [.int ((f2 f i40_1) &&& 1280)], M165)) rfl ?_
                                          have J_493 : ∀ (s493_0 : Int32), ml (mT g) d (mb_191 g).2 (493, [(0, .ref m0), (1, .int i40_1), (2, .int (f2 f mA)), (3, .int 0), (4, .int s35_0), (5, .int i40_5), (11, .int i40_5), (12, .int u172)], [.int s493_0], M165) (fun v M' => ∃ (x : Int32) (I' : rI) (R' : rR), v = some (.int x) ∧ RS g m0 q z I' R' M' ∧ eqI [26, 47, 48] I I' ∧ eqR [34, 35, 36, 37, 38, 39, 40, 41, 42, 43, 44, 45, 46] R R' ∧ (x = 0 ∨ x = 1) ∧ (x = 0 ∨ ∃ k : Nat, k ≤ 8192 ∧ I' 26 = some (nI k) ∧ MKN f n S sa sl ch k R')) := by
                                            intro s493_0
                                            refine ml_st (S' := (495, [(13, .int s493_0), (0, .ref m0), (1, .int i40_1), (2, .int (f2 f mA)), (3, .int 0), (4, .int s35_0), (5, .int i40_5), (11, .int i40_5), (12, .int u172)], [], M165)) rfl rfl rfl ?_
                                            refine ml_st (S' := (496, [(13, .int s493_0), (0, .ref m0), (1, .int i40_1), (2, .int (f2 f mA)), (3, .int 0), (4, .int s35_0), (5, .int i40_5), (11, .int i40_5), (12, .int u172)], [.ref m0], M165)) rfl rfl rfl ?_
                                            refine rg_ref (S' := (499, [(13, .int s493_0), (0, .ref m0), (1, .int i40_1), (2, .int (f2 f mA)), (3, .int 0), (4, .int s35_0), (5, .int i40_5), (11, .int i40_5), (12, .int u172)], [.ref (q 37)], M165)) rfl hR169 rfl rfl ?_
                                            refine ml_st (S' := (501, [(13, .int s493_0), (0, .ref m0), (1, .int i40_1), (2, .int (f2 f mA)), (3, .int 0), (4, .int s35_0), (5, .int i40_5), (11, .int i40_5), (12, .int u172)], [.int i40_5, .ref (q 37)], M165)) rfl rfl rfl ?_
                                            refine ra_ld (k := 37) (S' := (502, [(13, .int s493_0), (0, .ref m0), (1, .int i40_1), (2, .int (f2 f mA)), (3, .int 0), (4, .int s35_0), (5, .int i40_5), (11, .int i40_5), (12, .int u172)], [.int vc], M165)) rfl hR169 rfl (vin_lt hk0 (by omega)) ((congrFun (rfl) _).trans hvc) rfl ?_
                                            have J_510 : ∀ (s510_0 : Int32), ml (mT g) d (mb_191 g).2 (510, [(0, .ref m0), (1, .int i40_1), (2, .int (f2 f mA)), (3, .int 0), (4, .int s35_0), (5, .int i40_5), (12, .int u172), (13, .int s493_0)], [.int s510_0], M165) (fun v M' => ∃ (x : Int32) (I' : rI) (R' : rR), v = some (.int x) ∧ RS g m0 q z I' R' M' ∧ eqI [26, 47, 48] I I' ∧ eqR [34, 35, 36, 37, 38, 39, 40, 41, 42, 43, 44, 45, 46] R R' ∧ (x = 0 ∨ x = 1) ∧ (x = 0 ∨ ∃ k : Nat, k ≤ 8192 ∧ I' 26 = some (nI k) ∧ MKN f n S sa sl ch k R')) := by
                                              intro s510_0
                                              refine ml_st (S' := (512, [(0, .ref m0), (1, .int i40_1), (2, .int (f2 f mA)), (3, .int 0), (4, .int s35_0), (5, .int i40_5), (12, .int u172), (13, .int s493_0)], [.int s493_0, .int s510_0], M165)) rfl rfl rfl ?_
                                              refine ml_if2 (S1 := (523, [(0, .ref m0), (1, .int i40_1), (2, .int (f2 f mA)), (3, .int 0), (4, .int s35_0), (5, .int i40_5), (12, .int u172), (13, .int s493_0)], [], M165)) (S2 := (515, [(0, .ref m0), (1, .int i40_1), (2, .int (f2 f mA)), (3, .int 0), (4, .int s35_0), (5, .int i40_5), (12, .int u172), (13, .int s493_0)], [], M165)) rfl rfl rfl (fun c_512 => ?_) (fun c_512 => ?_)
                                              · have c_512 : s510_0 = s493_0 := of_decide_eq_true c_512
                                                have hm1 : MK1 f n S sa sl ch i40_5.toInt.toNat R168 := ⟨fun k hk => by simp only [List.mem_cons, List.not_mem_nil, or_false] at hk; rcases hk with rfl | rfl | rfl | rfl | rfl | rfl | rfl | rfl | rfl | rfl | rfl; exact ⟨_, (congrFun ((hV171 34 (by decide)).trans ((f154 34 (by decide)).trans ((f144 34 (by decide)).trans ((f134 34 (by decide)).trans ((f128 34 (by decide)).trans ((f122 34 (by decide)).trans ((f116 34 (by decide)).trans ((f110 34 (by decide)).trans ((f104 34 (by decide)).trans ((f98 34 (by decide)).trans ((f92 34 (by decide)).trans ((f86 34 (by decide)))))))))))))) _).trans e78⟩; exact ⟨_, (congrFun ((hV171 35 (by decide)).trans ((f154 35 (by decide)).trans ((f144 35 (by decide)).trans ((f134 35 (by decide)).trans ((f128 35 (by decide)).trans ((f122 35 (by decide)).trans ((f116 35 (by decide)).trans ((f110 35 (by decide)).trans ((f104 35 (by decide)).trans ((f98 35 (by decide)).trans ((f92 35 (by decide))))))))))))) _).trans e84⟩; exact ⟨vc, (congrFun (rfl) _).trans hvc⟩; exact (by obtain ⟨v, hv⟩ := hkn9 38 (by decide); exact ⟨v, (congrFun (rfl) _).trans hv⟩); exact (by obtain ⟨v, hv⟩ := hkn9 39 (by decide); exact ⟨v, (congrFun (rfl) _).trans hv⟩); exact (by obtain ⟨v, hv⟩ := hkn9 40 (by decide); exact ⟨v, (congrFun (rfl) _).trans hv⟩); exact (by obtain ⟨v, hv⟩ := hkn9 42 (by decide); exact ⟨v, (congrFun (rfl) _).trans hv⟩); exact (by obtain ⟨v, hv⟩ := hkn9 43 (by decide); exact ⟨v, (congrFun (rfl) _).trans hv⟩); exact (by obtain ⟨v, hv⟩ := hkn9 44 (by decide); exact ⟨v, (congrFun (rfl) _).trans hv⟩); exact ⟨_, (congrFun ((hV171 45 (by decide)).trans ((f154 45 (by decide)))) _).trans e142⟩; exact ⟨_, (congrFun ((hV171 46 (by decide))) _).trans e152⟩, hmc9.fr (fun k hk => by simp only [List.mem_cons, List.not_mem_nil, or_false] at hk; rcases hk with rfl | rfl | rfl | rfl | rfl | rfl; exact congrFun (rfl) _; exact congrFun (rfl) _; exact congrFun (rfl) _; exact congrFun (rfl) _; exact congrFun (rfl) _; exact congrFun (rfl) _), _, (congrFun ((hV171 36 (by decide)).trans ((f154 36 (by decide)).trans ((f144 36 (by decide)).trans ((f134 36 (by decide)).trans ((f128 36 (by decide)).trans ((f122 36 (by decide)).trans ((f116 36 (by decide)).trans ((f110 36 (by decide)).trans ((f104 36 (by decide)).trans ((f98 36 (by decide)))))))))))) _).trans e90, hds.1, hds.2, hmt⟩
                                                have hmk2 := MKN.step (k := i40_5.toInt.toNat) hmk (((((((((((((pw.rf.st g79 f80 rfl).st g85 f86 rfl).st g91 f92 rfl).st g97 f98 rfl).st g103 f104 rfl).st g109 f110 rfl).st g115 f116 rfl).st g121 f122 rfl).st g127 f128 rfl).st g133 f134 rfl).st g143 f144 rfl).st g153 f154 rfl).tr hpw9) hm1
                                                refine ml_st (S' := (525, [(0, .ref m0), (1, .int i40_1), (2, .int (f2 f mA)), (3, .int 0), (4, .int s35_0), (5, .int i40_5), (12, .int u172), (13, .int s493_0)], [.int u172], M165)) rfl rfl rfl ?_
                                                refine ml_st (S' := (526, [(1, .int u172), (0, .ref m0), (2, .int (f2 f mA)), (3, .int 0), (4, .int s35_0), (5, .int i40_5), (12, .int u172), (13, .int s493_0)], [], M165)) rfl rfl rfl ?_
                                                refine ml_st (S' := (529, [(5, .int (i40_5 + 1)), (1, .int u172), (0, .ref m0), (2, .int (f2 f mA)), (3, .int 0), (4, .int s35_0), (12, .int u172), (13, .int s493_0)], [], M165)) rfl rfl rfl ?_
                                                refine ml_st (S' := (40, [(0, .ref m0), (1, .int u172), (2, .int (f2 f mA)), (3, .int 0), (4, .int s35_0), (5, .int (i40_5 + 1))], [], M165)) rfl rfl rfl ?_
                                                exact ih_40 u172 (i40_5 + 1) _ _ _ (loop_inc (Int32.not_le.mp c_43) hn_40) hR169 (((eqI.rf.tr hI_40 (by decide)).put f159 (by decide)).tr hI170 (by decide)) ((((((((((((((eqR.rf.tr hV_40 (by decide)).put f80 (by decide)).put f86 (by decide)).put f92 (by decide)).put f98 (by decide)).put f104 (by decide)).put f110 (by decide)).put f116 (by decide)).put f122 (by decide)).put f128 (by decide)).put f134 (by decide)).put f144 (by decide)).put f154 (by decide)).tr hV171 (by decide)) (⟨by rw [inc_lt (Int32.not_le.mp c_43)]; omega, by rw [inc_lt (Int32.not_le.mp c_43)]; omega, (hI170 26 (by decide)).trans (e158), by rw [hub]; exact hnx, by rw [hub, inc_lt (Int32.not_le.mp c_43)]; have q := hg.1; omega, by rw [show (i40_5 + 1).toInt.toNat = i40_5.toInt.toNat + 1 by rw [inc_lt (Int32.not_le.mp c_43)]; omega]; exact hmk2⟩)
                                              · have c_512 : ¬ (s510_0 = s493_0) := of_decide_eq_false c_512
                                                refine ml_blk 3 (S' := (519, [(0, .ref m0), (1, .int i40_1), (2, .int (f2 f mA)), (3, .int 0), (4, .int s35_0), (5, .int i40_5), (12, .int u172), (13, .int s493_0)], [.int i40_1, .int 27, .ref m0], M165)) rfl ?_
                                                refine ml_call (a := [.ref m0, .int 27, .int i40_1]) (rest := []) rfl (hR169.okc rfl rfl rfl) rfl rfl (rm_wrong hR169 (by omega)) (fun v174 M175 h176 => ?_)
                                                obtain ⟨u182, I177, R178, rfl, hR179, hI180, hV181, z183, w184⟩ := h176
                                                show ml _ _ _ (522, [(0, .ref m0), (1, .int i40_1), (2, .int (f2 f mA)), (3, .int 0), (4, .int s35_0), (5, .int i40_5), (12, .int u172), (13, .int s493_0)], [.int u182], M175) _
                                                exact ml_ret rfl (r_z (z183)) (⟨_, _, _, rfl, hR179, ((((eqI.rf.tr hI_40 (by decide)).put f159 (by decide)).tr hI170 (by decide)).tr hI180 (by decide)), (((((((((((((((eqR.rf.tr hV_40 (by decide)).put f80 (by decide)).put f86 (by decide)).put f92 (by decide)).put f98 (by decide)).put f104 (by decide)).put f110 (by decide)).put f116 (by decide)).put f122 (by decide)).put f128 (by decide)).put f134 (by decide)).put f144 (by decide)).put f154 (by decide)).tr hV171 (by decide)).tr hV181 (by decide)), z183, Or.inl w184⟩)
                                            refine ml_if (S1 := (509, [(13, .int s493_0), (0, .ref m0), (1, .int i40_1), (2, .int (f2 f mA)), (3, .int 0), (4, .int s35_0), (5, .int i40_5), (11, .int i40_5), (12, .int u172)], [], M165)) (S2 := (505, [(13, .int s493_0), (0, .ref m0), (1, .int i40_1), (2, .int (f2 f mA)), (3, .int 0), (4, .int s35_0), (5, .int i40_5), (11, .int i40_5), (12, .int u172)], [], M165)) rfl rfl rfl (fun c_502 => ?_) (fun c_502 => ?_)
                                            · have c_502 : 0 ≤ vc := of_decide_eq_true c_502
                                              refine ml_st (S' := (510, [(0, .ref m0), (1, .int i40_1), (2, .int (f2 f mA)), (3, .int 0), (4, .int s35_0), (5, .int i40_5), (12, .int u172), (13, .int s493_0)], [.int 0], M165)) rfl rfl rfl ?_
                                              exact J_510 0
                                            · have c_502 : ¬ (0 ≤ vc) := of_decide_eq_false c_502
                                              refine ml_st (S' := (506, [(13, .int s493_0), (0, .ref m0), (1, .int i40_1), (2, .int (f2 f mA)), (3, .int 0), (4, .int s35_0), (5, .int i40_5), (11, .int i40_5), (12, .int u172)], [.int 1], M165)) rfl rfl rfl ?_
                                              refine ml_st (S' := (510, [(0, .ref m0), (1, .int i40_1), (2, .int (f2 f mA)), (3, .int 0), (4, .int s35_0), (5, .int i40_5), (12, .int u172), (13, .int s493_0)], [.int 1], M165)) rfl rfl rfl ?_
                                              exact J_510 1
                                          refine ml_if (S1 := (492, [(0, .ref m0), (1, .int i40_1), (2, .int (f2 f mA)), (3, .int 0), (4, .int s35_0), (5, .int i40_5), (11, .int i40_5), (12, .int u172)], [], M165)) (S2 := (483, [(12, .int u172), (0, .ref m0), (1, .int i40_1), (2, .int (f2 f mA)), (3, .int 0), (4, .int s35_0), (5, .int i40_5), (6, .int (f2 f i40_1)), (7, .int s83_0), (9, .int s115_0), (10, .int s213_0), (11, .int i40_5)], [], M165)) rfl rfl rfl (fun c_480 => ?_) (fun c_480 => ?_)
                                          · have c_480 : ((f2 f i40_1) &&& 1280) = 0 := of_decide_eq_true c_480
                                            refine ml_st (S' := (493, [(0, .ref m0), (1, .int i40_1), (2, .int (f2 f mA)), (3, .int 0), (4, .int s35_0), (5, .int i40_5), (11, .int i40_5), (12, .int u172)], [.int 0], M165)) rfl rfl rfl ?_
                                            exact J_493 0
                                          · have c_480 : ¬ (((f2 f i40_1) &&& 1280) = 0) := of_decide_eq_false c_480
                                            refine ml_st (S' := (485, [(12, .int u172), (0, .ref m0), (1, .int i40_1), (2, .int (f2 f mA)), (3, .int 0), (4, .int s35_0), (5, .int i40_5), (6, .int (f2 f i40_1)), (7, .int s83_0), (9, .int s115_0), (10, .int s213_0), (11, .int i40_5)], [.int s115_0], M165)) rfl rfl rfl ?_
                                            refine ml_if (S1 := (492, [(0, .ref m0), (1, .int i40_1), (2, .int (f2 f mA)), (3, .int 0), (4, .int s35_0), (5, .int i40_5), (11, .int i40_5), (12, .int u172)], [], M165)) (S2 := (488, [(12, .int u172), (0, .ref m0), (1, .int i40_1), (2, .int (f2 f mA)), (3, .int 0), (4, .int s35_0), (5, .int i40_5), (6, .int (f2 f i40_1)), (7, .int s83_0), (9, .int s115_0), (10, .int s213_0), (11, .int i40_5)], [], M165)) rfl rfl rfl (fun c_485 => ?_) (fun c_485 => ?_)
                                            · have c_485 : ¬ s115_0 = 0 := of_decide_eq_true c_485
                                              refine ml_st (S' := (493, [(0, .ref m0), (1, .int i40_1), (2, .int (f2 f mA)), (3, .int 0), (4, .int s35_0), (5, .int i40_5), (11, .int i40_5), (12, .int u172)], [.int 0], M165)) rfl rfl rfl ?_
                                              exact J_493 0
                                            · have c_485 : ¬ (¬ s115_0 = 0) := of_decide_eq_false c_485
                                              refine ml_st (S' := (489, [(12, .int u172), (0, .ref m0), (1, .int i40_1), (2, .int (f2 f mA)), (3, .int 0), (4, .int s35_0), (5, .int i40_5), (6, .int (f2 f i40_1)), (7, .int s83_0), (9, .int s115_0), (10, .int s213_0), (11, .int i40_5)], [.int 1], M165)) rfl rfl rfl ?_
                                              refine ml_st (S' := (493, [(0, .ref m0), (1, .int i40_1), (2, .int (f2 f mA)), (3, .int 0), (4, .int s35_0), (5, .int i40_5), (11, .int i40_5), (12, .int u172)], [.int 1], M165)) rfl rfl rfl ?_
                                              exact J_493 1
                                        · have c_469 : ¬ (0 ≤ u172) := of_decide_eq_false c_469
                                          refine ml_st (S' := (473, [(12, .int u172), (0, .ref m0), (1, .int i40_1), (2, .int (f2 f mA)), (3, .int 0), (4, .int s35_0), (5, .int i40_5), (6, .int (f2 f i40_1)), (7, .int s83_0), (9, .int s115_0), (10, .int s213_0), (11, .int i40_5)], [.int 0], M165)) rfl rfl rfl ?_
                                          exact ml_ret rfl (r_z (Or.inl rfl)) (⟨_, _, _, rfl, hR169, (((eqI.rf.tr hI_40 (by decide)).put f159 (by decide)).tr hI170 (by decide)), ((((((((((((((eqR.rf.tr hV_40 (by decide)).put f80 (by decide)).put f86 (by decide)).put f92 (by decide)).put f98 (by decide)).put f104 (by decide)).put f110 (by decide)).put f116 (by decide)).put f122 (by decide)).put f128 (by decide)).put f134 (by decide)).put f144 (by decide)).put f154 (by decide)).tr hV171 (by decide)), Or.inl rfl, Or.inl rfl⟩)
                                      · have c_403 : ¬ (i40_5 ≤ i399_12) := of_decide_eq_false c_403
                                        have hql := i_nle c_403
                                        refine ml_st (S' := (407, [(0, .ref m0), (1, .int i40_1), (2, .int (f2 f mA)), (3, .int 0), (4, .int s35_0), (5, .int i40_5), (6, .int (f2 f i40_1)), (7, .int s83_0), (9, .int s115_0), (10, .int s213_0), (11, .int i40_5), (12, .int i399_12)], [.ref m0], M149)) rfl rfl rfl ?_
                                        refine rg_ref (S' := (410, [(0, .ref m0), (1, .int i40_1), (2, .int (f2 f mA)), (3, .int 0), (4, .int s35_0), (5, .int i40_5), (6, .int (f2 f i40_1)), (7, .int s83_0), (9, .int s115_0), (10, .int s213_0), (11, .int i40_5), (12, .int i399_12)], [.ref (q 35)], M149)) rfl hR151 rfl rfl ?_
                                        refine ml_st (S' := (412, [(0, .ref m0), (1, .int i40_1), (2, .int (f2 f mA)), (3, .int 0), (4, .int s35_0), (5, .int i40_5), (6, .int (f2 f i40_1)), (7, .int s83_0), (9, .int s115_0), (10, .int s213_0), (11, .int i40_5), (12, .int i399_12)], [.int i399_12, .ref (q 35)], M149)) rfl rfl rfl ?_
                                        have q185 : pw i40_5.toNatClampNeg R_40 R150 := ((((((((((((pw.rf.st g79 f80 rfl).st g85 f86 rfl).st g91 f92 rfl).st g97 f98 rfl).st g103 f104 rfl).st g109 f110 rfl).st g115 f116 rfl).st g121 f122 rfl).st g127 f128 rfl).st g133 f134 rfl).st g143 f144 rfl).st g153 f154 rfl)
                                        have hm9 := hmk i399_12.toNatClampNeg (by show i399_12.toInt.toNat < i40_5.toInt.toNat; omega)
                                        obtain ⟨v186, hv187⟩ := hm9.1 35 (by decide)
                                        refine ra_ld (k := 35) (S' := (413, [(0, .ref m0), (1, .int i40_1), (2, .int (f2 f mA)), (3, .int 0), (4, .int s35_0), (5, .int i40_5), (6, .int (f2 f i40_1)), (7, .int s83_0), (9, .int s115_0), (10, .int s213_0), (11, .int i40_5), (12, .int i399_12)], [.int v186], M149)) rfl hR151 rfl (vin_lt hq0 (by omega)) ((q185 35 _ (by show i399_12.toInt.toNat ≠ i40_5.toInt.toNat; omega)).trans hv187) rfl ?_
                                        refine ml_st (S' := (415, [(0, .ref m0), (1, .int i40_1), (2, .int (f2 f mA)), (3, .int 0), (4, .int s35_0), (5, .int i40_5), (6, .int (f2 f i40_1)), (7, .int s83_0), (9, .int s115_0), (10, .int s213_0), (11, .int i40_5), (12, .int i399_12)], [.int s83_0, .int v186], M149)) rfl rfl rfl ?_
                                        refine ml_if2 (S1 := (438, [(0, .ref m0), (1, .int i40_1), (2, .int (f2 f mA)), (3, .int 0), (4, .int s35_0), (5, .int i40_5), (6, .int (f2 f i40_1)), (7, .int s83_0), (9, .int s115_0), (10, .int s213_0), (11, .int i40_5), (12, .int i399_12)], [], M149)) (S2 := (418, [(0, .ref m0), (1, .int i40_1), (2, .int (f2 f mA)), (3, .int 0), (4, .int s35_0), (5, .int i40_5), (6, .int (f2 f i40_1)), (7, .int s83_0), (9, .int s115_0), (10, .int s213_0), (11, .int i40_5), (12, .int i399_12)], [], M149)) rfl rfl rfl (fun c_415 => ?_) (fun c_415 => ?_)
                                        · have c_415 : ¬ v186 = s83_0 := of_decide_eq_true c_415
                                          refine ml_st (S' := (441, [(12, .int (i399_12 + 1)), (0, .ref m0), (1, .int i40_1), (2, .int (f2 f mA)), (3, .int 0), (4, .int s35_0), (5, .int i40_5), (6, .int (f2 f i40_1)), (7, .int s83_0), (9, .int s115_0), (10, .int s213_0), (11, .int i40_5)], [], M149)) rfl rfl rfl ?_
                                          refine ml_st (S' := (399, [(0, .ref m0), (1, .int i40_1), (2, .int (f2 f mA)), (3, .int 0), (4, .int s35_0), (5, .int i40_5), (6, .int (f2 f i40_1)), (7, .int s83_0), (9, .int s115_0), (10, .int s213_0), (11, .int i40_5), (12, .int (i399_12 + 1))], [], M149)) rfl rfl rfl ?_
                                          exact ih_399 (i399_12 + 1) (loop_inc (Int32.not_le.mp c_403) hn_399) (by rw [inc_lt (Int32.not_le.mp c_403)]; omega)
                                        · have c_415 : ¬ (¬ v186 = s83_0) := of_decide_eq_false c_415
                                          refine ml_st (S' := (419, [(0, .ref m0), (1, .int i40_1), (2, .int (f2 f mA)), (3, .int 0), (4, .int s35_0), (5, .int i40_5), (6, .int (f2 f i40_1)), (7, .int s83_0), (9, .int s115_0), (10, .int s213_0), (11, .int i40_5), (12, .int i399_12)], [.ref m0], M149)) rfl rfl rfl ?_
                                          refine rg_ref (S' := (422, [(0, .ref m0), (1, .int i40_1), (2, .int (f2 f mA)), (3, .int 0), (4, .int s35_0), (5, .int i40_5), (6, .int (f2 f i40_1)), (7, .int s83_0), (9, .int s115_0), (10, .int s213_0), (11, .int i40_5), (12, .int i399_12)], [.ref (q 36)], M149)) rfl hR151 rfl rfl ?_
                                          refine ml_st (S' := (424, [(0, .ref m0), (1, .int i40_1), (2, .int (f2 f mA)), (3, .int 0), (4, .int s35_0), (5, .int i40_5), (6, .int (f2 f i40_1)), (7, .int s83_0), (9, .int s115_0), (10, .int s213_0), (11, .int i40_5), (12, .int i399_12)], [.int i399_12, .ref (q 36)], M149)) rfl rfl rfl ?_
                                          have q188 : pw i40_5.toNatClampNeg R_40 R150 := ((((((((((((pw.rf.st g79 f80 rfl).st g85 f86 rfl).st g91 f92 rfl).st g97 f98 rfl).st g103 f104 rfl).st g109 f110 rfl).st g115 f116 rfl).st g121 f122 rfl).st g127 f128 rfl).st g133 f134 rfl).st g143 f144 rfl).st g153 f154 rfl)
                                          have hm9 := hmk i399_12.toNatClampNeg (by show i399_12.toInt.toNat < i40_5.toInt.toNat; omega)
                                          obtain ⟨v189, hv190, -⟩ := hm9.2.2
                                          refine ra_ld (k := 36) (S' := (425, [(0, .ref m0), (1, .int i40_1), (2, .int (f2 f mA)), (3, .int 0), (4, .int s35_0), (5, .int i40_5), (6, .int (f2 f i40_1)), (7, .int s83_0), (9, .int s115_0), (10, .int s213_0), (11, .int i40_5), (12, .int i399_12)], [.int v189], M149)) rfl hR151 rfl (vin_lt hq0 (by omega)) ((q188 36 _ (by show i399_12.toInt.toNat ≠ i40_5.toInt.toNat; omega)).trans hv190) rfl ?_
                                          refine ml_st (S' := (427, [(0, .ref m0), (1, .int i40_1), (2, .int (f2 f mA)), (3, .int 0), (4, .int s35_0), (5, .int i40_5), (6, .int (f2 f i40_1)), (7, .int s83_0), (9, .int s115_0), (10, .int s213_0), (11, .int i40_5), (12, .int i399_12)], [.int s213_0, .int v189], M149)) rfl rfl rfl ?_
                                          refine ml_if2 (S1 := (438, [(0, .ref m0), (1, .int i40_1), (2, .int (f2 f mA)), (3, .int 0), (4, .int s35_0), (5, .int i40_5), (6, .int (f2 f i40_1)), (7, .int s83_0), (9, .int s115_0), (10, .int s213_0), (11, .int i40_5), (12, .int i399_12)], [], M149)) (S2 := (430, [(0, .ref m0), (1, .int i40_1), (2, .int (f2 f mA)), (3, .int 0), (4, .int s35_0), (5, .int i40_5), (6, .int (f2 f i40_1)), (7, .int s83_0), (9, .int s115_0), (10, .int s213_0), (11, .int i40_5), (12, .int i399_12)], [], M149)) rfl rfl rfl (fun c_427 => ?_) (fun c_427 => ?_)
                                          · have c_427 : ¬ v189 = s213_0 := of_decide_eq_true c_427
                                            refine ml_st (S' := (441, [(12, .int (i399_12 + 1)), (0, .ref m0), (1, .int i40_1), (2, .int (f2 f mA)), (3, .int 0), (4, .int s35_0), (5, .int i40_5), (6, .int (f2 f i40_1)), (7, .int s83_0), (9, .int s115_0), (10, .int s213_0), (11, .int i40_5)], [], M149)) rfl rfl rfl ?_
                                            refine ml_st (S' := (399, [(0, .ref m0), (1, .int i40_1), (2, .int (f2 f mA)), (3, .int 0), (4, .int s35_0), (5, .int i40_5), (6, .int (f2 f i40_1)), (7, .int s83_0), (9, .int s115_0), (10, .int s213_0), (11, .int i40_5), (12, .int (i399_12 + 1))], [], M149)) rfl rfl rfl ?_
                                            exact ih_399 (i399_12 + 1) (loop_inc (Int32.not_le.mp c_403) hn_399) (by rw [inc_lt (Int32.not_le.mp c_403)]; omega)
                                          · have c_427 : ¬ (¬ v189 = s213_0) := of_decide_eq_false c_427
                                            refine ml_blk 3 (S' := (434, [(0, .ref m0), (1, .int i40_1), (2, .int (f2 f mA)), (3, .int 0), (4, .int s35_0), (5, .int i40_5), (6, .int (f2 f i40_1)), (7, .int s83_0), (9, .int s115_0), (10, .int s213_0), (11, .int i40_5), (12, .int i399_12)], [.int i40_1, .int 26, .ref m0], M149)) rfl ?_
                                            refine ml_call (a := [.ref m0, .int 26, .int i40_1]) (rest := []) rfl (hR151.okc rfl rfl rfl) rfl rfl (rm_wrong hR151 (by omega)) (fun v191 M192 h193 => ?_)
                                            obtain ⟨u199, I194, R195, rfl, hR196, hI197, hV198, z200, w201⟩ := h193
                                            show ml _ _ _ (437, [(0, .ref m0), (1, .int i40_1), (2, .int (f2 f mA)), (3, .int 0), (4, .int s35_0), (5, .int i40_5), (6, .int (f2 f i40_1)), (7, .int s83_0), (9, .int s115_0), (10, .int s213_0), (11, .int i40_5), (12, .int i399_12)], [.int u199], M192) _
                                            exact ml_ret rfl (r_z (z200)) (⟨_, _, _, rfl, hR196, ((eqI.rf.tr hI_40 (by decide)).tr hI197 (by decide)), ((((((((((((((eqR.rf.tr hV_40 (by decide)).put f80 (by decide)).put f86 (by decide)).put f92 (by decide)).put f98 (by decide)).put f104 (by decide)).put f110 (by decide)).put f116 (by decide)).put f122 (by decide)).put f128 (by decide)).put f134 (by decide)).put f144 (by decide)).put f154 (by decide)).tr hV198 (by decide)), z200, Or.inl w201⟩)
                                  exact L_399 _ 0 (Nat.le_refl _) (by decide)
                                · have c_266 : ¬ ((u74 + s262_0) ≤ 255) := of_decide_eq_false c_266
                                  refine ml_blk 3 (S' := (273, [(0, .ref m0), (1, .int i40_1)], [.int i40_1, .int 25, .ref m0], M_40)) rfl ?_
                                  refine ml_blk 2 (S' := (275, [(0, .ref m0), (1, .int i40_1)], [.int (i40_1 + 4), .int 25, .ref m0], M_40)) rfl ?_
                                  refine ml_call (a := [.ref m0, .int 25, .int (i40_1 + 4)]) (rest := []) rfl (hR_40.okc rfl rfl rfl) rfl rfl (rm_wrong hR_40 (by omega)) (fun v202 M203 h204 => ?_)
                                  obtain ⟨u210, I205, R206, rfl, hR207, hI208, hV209, z211, w212⟩ := h204
                                  show ml _ _ _ (278, [(0, .ref m0), (1, .int i40_1)], [.int u210], M203) _
                                  exact ml_ret rfl (r_z (z211)) (⟨_, _, _, rfl, hR207, ((eqI.rf.tr hI_40 (by decide)).tr hI208 (by decide)), ((eqR.rf.tr hV_40 (by decide)).tr hV209 (by decide)), z211, Or.inl w212⟩)
                              refine ml_if (S1 := (261, [(0, .ref m0), (1, .int i40_1), (2, .int (f2 f mA)), (3, .int 0), (4, .int s35_0), (5, .int i40_5), (6, .int (f2 f i40_1)), (7, .int s83_0), (9, .int s115_0), (10, .int s213_0)], [.int u74], M_40)) (S2 := (257, [(0, .ref m0), (1, .int i40_1), (2, .int (f2 f mA)), (3, .int 0), (4, .int s35_0), (5, .int i40_5), (6, .int (f2 f i40_1)), (7, .int s83_0), (9, .int s115_0), (10, .int s213_0)], [.int u74], M_40)) rfl rfl rfl (fun c_254 => ?_) (fun c_254 => ?_)
                              · have c_254 : ¬ ((f2 f i40_1) &&& 8) = 0 := of_decide_eq_true c_254
                                refine ml_st (S' := (262, [(0, .ref m0), (1, .int i40_1), (2, .int (f2 f mA)), (3, .int 0), (4, .int s35_0), (5, .int i40_5), (6, .int (f2 f i40_1)), (7, .int s83_0), (9, .int s115_0), (10, .int s213_0)], [.int 0, .int u74], M_40)) rfl rfl rfl ?_
                                exact J_262 0
                              · have c_254 : ¬ (¬ ((f2 f i40_1) &&& 8) = 0) := of_decide_eq_false c_254
                                refine ml_st (S' := (258, [(0, .ref m0), (1, .int i40_1), (2, .int (f2 f mA)), (3, .int 0), (4, .int s35_0), (5, .int i40_5), (6, .int (f2 f i40_1)), (7, .int s83_0), (9, .int s115_0), (10, .int s213_0)], [.int 1, .int u74], M_40)) rfl rfl rfl ?_
                                refine ml_st (S' := (262, [(0, .ref m0), (1, .int i40_1), (2, .int (f2 f mA)), (3, .int 0), (4, .int s35_0), (5, .int i40_5), (6, .int (f2 f i40_1)), (7, .int s83_0), (9, .int s115_0), (10, .int s213_0)], [.int 1, .int u74], M_40)) rfl rfl rfl ?_
                                exact J_262 1
                            refine ml_if (S1 := (243, [(0, .ref m0), (1, .int i40_1), (2, .int (f2 f mA)), (3, .int 0), (4, .int s35_0), (5, .int i40_5), (6, .int (f2 f i40_1)), (7, .int s83_0), (9, .int s115_0), (10, .int s213_0)], [], M_40)) (S2 := (234, [(10, .int s213_0), (0, .ref m0), (1, .int i40_1), (2, .int (f2 f mA)), (3, .int 0), (4, .int s35_0), (5, .int i40_5), (6, .int (f2 f i40_1)), (7, .int s83_0), (8, .int s99_0), (9, .int s115_0)], [], M_40)) rfl rfl rfl (fun c_231 => ?_) (fun c_231 => ?_)
                            · have c_231 : s99_0 = 0 := of_decide_eq_true c_231
                              exact J_243 
                            · have c_231 : ¬ (s99_0 = 0) := of_decide_eq_false c_231
                              refine ml_blk 2 (S' := (237, [(10, .int s213_0), (0, .ref m0), (1, .int i40_1), (2, .int (f2 f mA)), (3, .int 0), (4, .int s35_0), (5, .int i40_5), (6, .int (f2 f i40_1)), (7, .int s83_0), (8, .int s99_0), (9, .int s115_0)], [.int s213_0, .ref m0], M_40)) rfl ?_
                              refine ml_call (a := [.ref m0, .int s213_0]) (rest := []) rfl (hR_40.okc rfl rfl rfl) rfl rfl (rm_endsV hR_40 hY53 (hds.1) (hds.2) (by have := hmt.2; omega) (by omega)) (fun v213 M214 h215 => ?_)
                              obtain ⟨⟨u216, rfl, z217⟩, h215⟩ := h215
                              rw [h215]
                              show ml _ _ _ (240, [(10, .int s213_0), (0, .ref m0), (1, .int i40_1), (2, .int (f2 f mA)), (3, .int 0), (4, .int s35_0), (5, .int i40_5), (6, .int (f2 f i40_1)), (7, .int s83_0), (8, .int s99_0), (9, .int s115_0)], [.int u216], M_40) _
                              refine ml_if (S1 := (269, [(0, .ref m0), (1, .int i40_1)], [], M_40)) (S2 := (243, [(0, .ref m0), (1, .int i40_1), (2, .int (f2 f mA)), (3, .int 0), (4, .int s35_0), (5, .int i40_5), (6, .int (f2 f i40_1)), (7, .int s83_0), (9, .int s115_0), (10, .int s213_0)], [], M_40)) rfl rfl rfl (fun c_240 => ?_) (fun c_240 => ?_)
                              · have c_240 : u216 = 0 := of_decide_eq_true c_240
                                refine ml_blk 3 (S' := (273, [(0, .ref m0), (1, .int i40_1)], [.int i40_1, .int 25, .ref m0], M_40)) rfl ?_
                                refine ml_blk 2 (S' := (275, [(0, .ref m0), (1, .int i40_1)], [.int (i40_1 + 4), .int 25, .ref m0], M_40)) rfl ?_
                                refine ml_call (a := [.ref m0, .int 25, .int (i40_1 + 4)]) (rest := []) rfl (hR_40.okc rfl rfl rfl) rfl rfl (rm_wrong hR_40 (by omega)) (fun v218 M219 h220 => ?_)
                                obtain ⟨u226, I221, R222, rfl, hR223, hI224, hV225, z227, w228⟩ := h220
                                show ml _ _ _ (278, [(0, .ref m0), (1, .int i40_1)], [.int u226], M219) _
                                exact ml_ret rfl (r_z (z227)) (⟨_, _, _, rfl, hR223, ((eqI.rf.tr hI_40 (by decide)).tr hI224 (by decide)), ((eqR.rf.tr hV_40 (by decide)).tr hV225 (by decide)), z227, Or.inl w228⟩)
                              · have c_240 : ¬ (u216 = 0) := of_decide_eq_false c_240
                                exact J_243 
                      refine ml_if2 (S1 := (212, [(0, .ref m0), (1, .int i40_1), (2, .int (f2 f mA)), (3, .int 0), (4, .int s35_0), (5, .int i40_5), (6, .int (f2 f i40_1)), (7, .int s83_0), (8, .int s99_0), (9, .int s115_0)], [], M_40)) (S2 := (198, [(0, .ref m0), (1, .int i40_1), (2, .int (f2 f mA)), (3, .int 0), (4, .int s35_0), (5, .int i40_5), (6, .int (f2 f i40_1)), (7, .int s83_0), (8, .int s99_0), (9, .int s115_0)], [], M_40)) rfl rfl rfl (fun c_195 => ?_) (fun c_195 => ?_)
                      · have c_195 : ¬ (tgf f cp pa (f2 f (i40_1 + 4))) = 1 := of_decide_eq_true c_195
                        refine ml_st (S' := (213, [(0, .ref m0), (1, .int i40_1), (2, .int (f2 f mA)), (3, .int 0), (4, .int s35_0), (5, .int i40_5), (6, .int (f2 f i40_1)), (7, .int s83_0), (8, .int s99_0), (9, .int s115_0)], [.int (-1)], M_40)) rfl rfl rfl ?_
                        exact J_213 (-1) (Or.inl (by decide))
                      · have c_195 : ¬ (¬ (tgf f cp pa (f2 f (i40_1 + 4))) = 1) := of_decide_eq_false c_195
                        refine ml_blk 3 (S' := (201, [(0, .ref m0), (1, .int i40_1), (2, .int (f2 f mA)), (3, .int 0), (4, .int s35_0), (5, .int i40_5), (6, .int (f2 f i40_1)), (7, .int s83_0), (8, .int s99_0), (9, .int s115_0)], [.int i40_1, .ref m0, .ref m0], M_40)) rfl ?_
                        refine ml_blk 2 (S' := (203, [(0, .ref m0), (1, .int i40_1), (2, .int (f2 f mA)), (3, .int 0), (4, .int s35_0), (5, .int i40_5), (6, .int (f2 f i40_1)), (7, .int s83_0), (8, .int s99_0), (9, .int s115_0)], [.int (i40_1 + 4), .ref m0, .ref m0], M_40)) rfl ?_
                        refine ml_call (a := [.ref m0, .int (i40_1 + 4)]) (rest := [.ref m0]) rfl (hR_40.okc rfl rfl rfl) rfl rfl (rm_u2 hR_40 hF14 (by omega) (by omega) (by omega)) (fun v229 M230 h231 => ?_)
                        obtain ⟨rfl, h231⟩ := h231
                        rw [h231]
                        show ml _ _ _ (206, [(0, .ref m0), (1, .int i40_1), (2, .int (f2 f mA)), (3, .int 0), (4, .int s35_0), (5, .int i40_5), (6, .int (f2 f i40_1)), (7, .int s83_0), (8, .int s99_0), (9, .int s115_0)], [.int (f2 f (i40_1 + 4)), .ref m0], M_40) _
                        refine ml_call (a := [.ref m0, .int (f2 f (i40_1 + 4))]) (rest := []) rfl (hR_40.okc rfl rfl rfl) rfl rfl (rm_symOf hR_40 hP21 (Decidable.not_not.mp c_195) (by omega)) (fun v232 M233 h234 => ?_)
                        obtain ⟨rfl, h234⟩ := h234
                        rw [h234]
                        show ml _ _ _ (209, [(0, .ref m0), (1, .int i40_1), (2, .int (f2 f mA)), (3, .int 0), (4, .int s35_0), (5, .int i40_5), (6, .int (f2 f i40_1)), (7, .int s83_0), (8, .int s99_0), (9, .int s115_0)], [.int (pyf py (f2 f (i40_1 + 4)))], M_40) _
                        refine ml_st (S' := (213, [(0, .ref m0), (1, .int i40_1), (2, .int (f2 f mA)), (3, .int 0), (4, .int s35_0), (5, .int i40_5), (6, .int (f2 f i40_1)), (7, .int s83_0), (8, .int s99_0), (9, .int s115_0)], [.int (pyf py (f2 f (i40_1 + 4)))], M_40)) rfl rfl rfl ?_
                        exact J_213 (pyf py (f2 f (i40_1 + 4))) (Or.inr ⟨(hP.y (show tgf f cp pa (f2 f (i40_1 + 4)) = 1 from Decidable.not_not.mp c_195)).2.2.1, (hP.y (show tgf f cp pa (f2 f (i40_1 + 4)) = 1 from Decidable.not_not.mp c_195)).2.2.2⟩)
                    refine ml_if (S1 := (183, [(0, .ref m0), (1, .int i40_1), (2, .int (f2 f mA)), (3, .int 0), (4, .int s35_0), (5, .int i40_5), (6, .int (f2 f i40_1)), (7, .int s83_0), (8, .int s99_0), (9, .int s115_0)], [], M_40)) (S2 := (162, [(0, .ref m0), (1, .int i40_1), (2, .int (f2 f mA)), (3, .int 0), (4, .int s35_0), (5, .int i40_5), (6, .int (f2 f i40_1)), (7, .int s83_0), (8, .int s99_0), (9, .int s115_0)], [], M_40)) rfl rfl rfl (fun c_159 => ?_) (fun c_159 => ?_)
                    · have c_159 : ¬ s115_0 = 0 := of_decide_eq_true c_159
                      exact J_183 
                    · have c_159 : ¬ (¬ s115_0 = 0) := of_decide_eq_false c_159
                      refine ml_blk 3 (S' := (167, [(0, .ref m0), (1, .int i40_1), (2, .int (f2 f mA)), (3, .int 0), (4, .int s35_0), (5, .int i40_5), (6, .int (f2 f i40_1)), (7, .int s83_0), (8, .int s99_0), (9, .int s115_0)], [.int s99_0, .int (f2 f i40_1), .ref m0], M_40)) rfl ?_
                      refine ml_st (S' := (169, [(0, .ref m0), (1, .int i40_1), (2, .int (f2 f mA)), (3, .int 0), (4, .int s35_0), (5, .int i40_5), (6, .int (f2 f i40_1)), (7, .int s83_0), (8, .int s99_0), (9, .int s115_0)], [.int s35_0, .int s99_0, .int (f2 f i40_1), .ref m0], M_40)) rfl rfl rfl ?_
                      refine ml_call (a := [.ref m0, .int (f2 f i40_1), .int s99_0, .int s35_0]) (rest := []) rfl (hR_40.okc rfl rfl rfl) rfl rfl (rm_flagsFit hR_40 ((hI_40 53 (by decide)).trans (hP.2.2.1)) (by omega)) (fun v235 M236 h237 => ?_)
                      obtain ⟨⟨u238, rfl, z239⟩, h237⟩ := h237
                      rw [h237]
                      show ml _ _ _ (172, [(0, .ref m0), (1, .int i40_1), (2, .int (f2 f mA)), (3, .int 0), (4, .int s35_0), (5, .int i40_5), (6, .int (f2 f i40_1)), (7, .int s83_0), (8, .int s99_0), (9, .int s115_0)], [.int u238], M_40) _
                      refine ml_if (S1 := (183, [(0, .ref m0), (1, .int i40_1), (2, .int (f2 f mA)), (3, .int 0), (4, .int s35_0), (5, .int i40_5), (6, .int (f2 f i40_1)), (7, .int s83_0), (8, .int s99_0), (9, .int s115_0)], [], M_40)) (S2 := (175, [(0, .ref m0), (1, .int i40_1), (2, .int (f2 f mA)), (3, .int 0), (4, .int s35_0), (5, .int i40_5), (6, .int (f2 f i40_1)), (7, .int s83_0), (8, .int s99_0), (9, .int s115_0)], [], M_40)) rfl rfl rfl (fun c_172 => ?_) (fun c_172 => ?_)
                      · have c_172 : ¬ u238 = 0 := of_decide_eq_true c_172
                        exact J_183 
                      · have c_172 : ¬ (¬ u238 = 0) := of_decide_eq_false c_172
                        refine ml_blk 3 (S' := (179, [(0, .ref m0), (1, .int i40_1), (2, .int (f2 f mA)), (3, .int 0), (4, .int s35_0), (5, .int i40_5), (6, .int (f2 f i40_1)), (7, .int s83_0), (8, .int s99_0), (9, .int s115_0)], [.int i40_1, .int 23, .ref m0], M_40)) rfl ?_
                        refine ml_call (a := [.ref m0, .int 23, .int i40_1]) (rest := []) rfl (hR_40.okc rfl rfl rfl) rfl rfl (rm_wrong hR_40 (by omega)) (fun v240 M241 h242 => ?_)
                        obtain ⟨u248, I243, R244, rfl, hR245, hI246, hV247, z249, w250⟩ := h242
                        show ml _ _ _ (182, [(0, .ref m0), (1, .int i40_1), (2, .int (f2 f mA)), (3, .int 0), (4, .int s35_0), (5, .int i40_5), (6, .int (f2 f i40_1)), (7, .int s83_0), (8, .int s99_0), (9, .int s115_0)], [.int u248], M241) _
                        exact ml_ret rfl (r_z (z249)) (⟨_, _, _, rfl, hR245, ((eqI.rf.tr hI_40 (by decide)).tr hI246 (by decide)), ((eqR.rf.tr hV_40 (by decide)).tr hV247 (by decide)), z249, Or.inl w250⟩)
                  refine ml_if (S1 := (157, [(0, .ref m0), (1, .int i40_1), (2, .int (f2 f mA)), (3, .int 0), (4, .int s35_0), (5, .int i40_5), (6, .int (f2 f i40_1)), (7, .int s83_0), (8, .int s99_0), (9, .int s115_0)], [], M_40)) (S2 := (127, [(9, .int s115_0), (0, .ref m0), (1, .int i40_1), (2, .int (f2 f mA)), (3, .int 0), (4, .int s35_0), (5, .int i40_5), (6, .int (f2 f i40_1)), (7, .int s83_0), (8, .int s99_0)], [], M_40)) rfl rfl rfl (fun c_124 => ?_) (fun c_124 => ?_)
                  · have c_124 : ¬ s115_0 = 0 := of_decide_eq_true c_124
                    exact J_157 
                  · have c_124 : ¬ (¬ s115_0 = 0) := of_decide_eq_false c_124
                    refine ml_st (S' := (129, [(9, .int s115_0), (0, .ref m0), (1, .int i40_1), (2, .int (f2 f mA)), (3, .int 0), (4, .int s35_0), (5, .int i40_5), (6, .int (f2 f i40_1)), (7, .int s83_0), (8, .int s99_0)], [.int s99_0], M_40)) rfl rfl rfl ?_
                    refine ml_if (S1 := (137, [(0, .ref m0), (1, .int i40_1), (2, .int (f2 f mA)), (3, .int 0), (4, .int s35_0), (5, .int i40_5), (6, .int (f2 f i40_1)), (7, .int s83_0), (8, .int s99_0), (9, .int s115_0)], [], M_40)) (S2 := (132, [(9, .int s115_0), (0, .ref m0), (1, .int i40_1), (2, .int (f2 f mA)), (3, .int 0), (4, .int s35_0), (5, .int i40_5), (6, .int (f2 f i40_1)), (7, .int s83_0), (8, .int s99_0)], [], M_40)) rfl rfl rfl (fun c_129 => ?_) (fun c_129 => ?_)
                    · have c_129 : s99_0 = 0 := of_decide_eq_true c_129
                      refine ml_blk 3 (S' := (141, [(0, .ref m0), (1, .int i40_1), (2, .int (f2 f mA)), (3, .int 0), (4, .int s35_0), (5, .int i40_5), (6, .int (f2 f i40_1)), (7, .int s83_0), (8, .int s99_0), (9, .int s115_0)], [.int 0, .int s83_0, .ref m0], M_40)) rfl ?_
                      have hY251 : SK S cN sa sl ch I_40 R_40 := (hY.mono (cIx hI_40 (by decide)) (cRx hV_40 (by decide)))
                      refine ml_call (a := [.ref m0, .int s83_0, .int 0]) (rest := []) rfl (hR_40.okc rfl rfl rfl) rfl rfl (rm_unqualified hR_40 hY251 (hnm.1) (hnm.2) (by omega)) (fun v252 M253 h254 => ?_)
                      obtain ⟨⟨u255, rfl, z256⟩, h254⟩ := h254
                      rw [h254]
                      show ml _ _ _ (144, [(0, .ref m0), (1, .int i40_1), (2, .int (f2 f mA)), (3, .int 0), (4, .int s35_0), (5, .int i40_5), (6, .int (f2 f i40_1)), (7, .int s83_0), (8, .int s99_0), (9, .int s115_0)], [.int u255], M_40) _
                      refine ml_if (S1 := (157, [(0, .ref m0), (1, .int i40_1), (2, .int (f2 f mA)), (3, .int 0), (4, .int s35_0), (5, .int i40_5), (6, .int (f2 f i40_1)), (7, .int s83_0), (8, .int s99_0), (9, .int s115_0)], [], M_40)) (S2 := (147, [(0, .ref m0), (1, .int i40_1)], [], M_40)) rfl rfl rfl (fun c_144 => ?_) (fun c_144 => ?_)
                      · have c_144 : ¬ u255 = 0 := of_decide_eq_true c_144
                        exact J_157 
                      · have c_144 : ¬ (¬ u255 = 0) := of_decide_eq_false c_144
                        refine ml_blk 3 (S' := (151, [(0, .ref m0), (1, .int i40_1)], [.int i40_1, .int 24, .ref m0], M_40)) rfl ?_
                        refine ml_blk 2 (S' := (153, [(0, .ref m0), (1, .int i40_1)], [.int (i40_1 + 2), .int 24, .ref m0], M_40)) rfl ?_
                        refine ml_call (a := [.ref m0, .int 24, .int (i40_1 + 2)]) (rest := []) rfl (hR_40.okc rfl rfl rfl) rfl rfl (rm_wrong hR_40 (by omega)) (fun v257 M258 h259 => ?_)
                        obtain ⟨u265, I260, R261, rfl, hR262, hI263, hV264, z266, w267⟩ := h259
                        show ml _ _ _ (156, [(0, .ref m0), (1, .int i40_1)], [.int u265], M258) _
                        exact ml_ret rfl (r_z (z266)) (⟨_, _, _, rfl, hR262, ((eqI.rf.tr hI_40 (by decide)).tr hI263 (by decide)), ((eqR.rf.tr hV_40 (by decide)).tr hV264 (by decide)), z266, Or.inl w267⟩)
                    · have c_129 : ¬ (s99_0 = 0) := of_decide_eq_false c_129
                      refine ml_st (S' := (134, [(9, .int s115_0), (0, .ref m0), (1, .int i40_1), (2, .int (f2 f mA)), (3, .int 0), (4, .int s35_0), (5, .int i40_5), (6, .int (f2 f i40_1)), (7, .int s83_0), (8, .int s99_0)], [.int s35_0], M_40)) rfl rfl rfl ?_
                      refine ml_if (S1 := (157, [(0, .ref m0), (1, .int i40_1), (2, .int (f2 f mA)), (3, .int 0), (4, .int s35_0), (5, .int i40_5), (6, .int (f2 f i40_1)), (7, .int s83_0), (8, .int s99_0), (9, .int s115_0)], [], M_40)) (S2 := (137, [(0, .ref m0), (1, .int i40_1), (2, .int (f2 f mA)), (3, .int 0), (4, .int s35_0), (5, .int i40_5), (6, .int (f2 f i40_1)), (7, .int s83_0), (8, .int s99_0), (9, .int s115_0)], [], M_40)) rfl rfl rfl (fun c_134 => ?_) (fun c_134 => ?_)
                      · have c_134 : s35_0 = 0 := of_decide_eq_true c_134
                        exact J_157 
                      · have c_134 : ¬ (s35_0 = 0) := of_decide_eq_false c_134
                        refine ml_blk 3 (S' := (141, [(0, .ref m0), (1, .int i40_1), (2, .int (f2 f mA)), (3, .int 0), (4, .int s35_0), (5, .int i40_5), (6, .int (f2 f i40_1)), (7, .int s83_0), (8, .int s99_0), (9, .int s115_0)], [.int 0, .int s83_0, .ref m0], M_40)) rfl ?_
                        have hY268 : SK S cN sa sl ch I_40 R_40 := (hY.mono (cIx hI_40 (by decide)) (cRx hV_40 (by decide)))
                        refine ml_call (a := [.ref m0, .int s83_0, .int 0]) (rest := []) rfl (hR_40.okc rfl rfl rfl) rfl rfl (rm_unqualified hR_40 hY268 (hnm.1) (hnm.2) (by omega)) (fun v269 M270 h271 => ?_)
                        obtain ⟨⟨u272, rfl, z273⟩, h271⟩ := h271
                        rw [h271]
                        show ml _ _ _ (144, [(0, .ref m0), (1, .int i40_1), (2, .int (f2 f mA)), (3, .int 0), (4, .int s35_0), (5, .int i40_5), (6, .int (f2 f i40_1)), (7, .int s83_0), (8, .int s99_0), (9, .int s115_0)], [.int u272], M_40) _
                        refine ml_if (S1 := (157, [(0, .ref m0), (1, .int i40_1), (2, .int (f2 f mA)), (3, .int 0), (4, .int s35_0), (5, .int i40_5), (6, .int (f2 f i40_1)), (7, .int s83_0), (8, .int s99_0), (9, .int s115_0)], [], M_40)) (S2 := (147, [(0, .ref m0), (1, .int i40_1)], [], M_40)) rfl rfl rfl (fun c_144 => ?_) (fun c_144 => ?_)
                        · have c_144 : ¬ u272 = 0 := of_decide_eq_true c_144
                          exact J_157 
                        · have c_144 : ¬ (¬ u272 = 0) := of_decide_eq_false c_144
                          refine ml_blk 3 (S' := (151, [(0, .ref m0), (1, .int i40_1)], [.int i40_1, .int 24, .ref m0], M_40)) rfl ?_
                          refine ml_blk 2 (S' := (153, [(0, .ref m0), (1, .int i40_1)], [.int (i40_1 + 2), .int 24, .ref m0], M_40)) rfl ?_
                          refine ml_call (a := [.ref m0, .int 24, .int (i40_1 + 2)]) (rest := []) rfl (hR_40.okc rfl rfl rfl) rfl rfl (rm_wrong hR_40 (by omega)) (fun v274 M275 h276 => ?_)
                          obtain ⟨u282, I277, R278, rfl, hR279, hI280, hV281, z283, w284⟩ := h276
                          show ml _ _ _ (156, [(0, .ref m0), (1, .int i40_1)], [.int u282], M275) _
                          exact ml_ret rfl (r_z (z283)) (⟨_, _, _, rfl, hR279, ((eqI.rf.tr hI_40 (by decide)).tr hI280 (by decide)), ((eqR.rf.tr hV_40 (by decide)).tr hV281 (by decide)), z283, Or.inl w284⟩)
              refine ml_if2 (S1 := (114, [(8, .int s99_0), (0, .ref m0), (1, .int i40_1), (2, .int (f2 f mA)), (3, .int 0), (4, .int s35_0), (5, .int i40_5), (6, .int (f2 f i40_1)), (7, .int s83_0)], [], M_40)) (S2 := (110, [(8, .int s99_0), (0, .ref m0), (1, .int i40_1), (2, .int (f2 f mA)), (3, .int 0), (4, .int s35_0), (5, .int i40_5), (6, .int (f2 f i40_1)), (7, .int s83_0)], [], M_40)) rfl rfl rfl (fun c_107 => ?_) (fun c_107 => ?_)
              · have c_107 : ¬ s83_0 = sc := of_decide_eq_true c_107
                refine ml_st (S' := (115, [(0, .ref m0), (1, .int i40_1), (2, .int (f2 f mA)), (3, .int 0), (4, .int s35_0), (5, .int i40_5), (6, .int (f2 f i40_1)), (7, .int s83_0), (8, .int s99_0)], [.int 0], M_40)) rfl rfl rfl ?_
                exact J_115 0
              · have c_107 : ¬ (¬ s83_0 = sc) := of_decide_eq_false c_107
                refine ml_st (S' := (111, [(8, .int s99_0), (0, .ref m0), (1, .int i40_1), (2, .int (f2 f mA)), (3, .int 0), (4, .int s35_0), (5, .int i40_5), (6, .int (f2 f i40_1)), (7, .int s83_0)], [.int 1], M_40)) rfl rfl rfl ?_
                refine ml_st (S' := (115, [(0, .ref m0), (1, .int i40_1), (2, .int (f2 f mA)), (3, .int 0), (4, .int s35_0), (5, .int i40_5), (6, .int (f2 f i40_1)), (7, .int s83_0), (8, .int s99_0)], [.int 1], M_40)) rfl rfl rfl ?_
                exact J_115 1
            refine ml_if2 (S1 := (98, [(7, .int s83_0), (0, .ref m0), (1, .int i40_1), (2, .int (f2 f mA)), (3, .int 0), (4, .int s35_0), (5, .int i40_5), (6, .int (f2 f i40_1))], [], M_40)) (S2 := (94, [(7, .int s83_0), (0, .ref m0), (1, .int i40_1), (2, .int (f2 f mA)), (3, .int 0), (4, .int s35_0), (5, .int i40_5), (6, .int (f2 f i40_1))], [], M_40)) rfl rfl rfl (fun c_91 => ?_) (fun c_91 => ?_)
            · have c_91 : ¬ s83_0 = si := of_decide_eq_true c_91
              refine ml_st (S' := (99, [(0, .ref m0), (1, .int i40_1), (2, .int (f2 f mA)), (3, .int 0), (4, .int s35_0), (5, .int i40_5), (6, .int (f2 f i40_1)), (7, .int s83_0)], [.int 0], M_40)) rfl rfl rfl ?_
              exact J_99 0
            · have c_91 : ¬ (¬ s83_0 = si) := of_decide_eq_false c_91
              refine ml_st (S' := (95, [(7, .int s83_0), (0, .ref m0), (1, .int i40_1), (2, .int (f2 f mA)), (3, .int 0), (4, .int s35_0), (5, .int i40_5), (6, .int (f2 f i40_1))], [.int 1], M_40)) rfl rfl rfl ?_
              refine ml_st (S' := (99, [(0, .ref m0), (1, .int i40_1), (2, .int (f2 f mA)), (3, .int 0), (4, .int s35_0), (5, .int i40_5), (6, .int (f2 f i40_1)), (7, .int s83_0)], [.int 1], M_40)) rfl rfl rfl ?_
              exact J_99 1
          refine ml_if2 (S1 := (82, [(6, .int (f2 f i40_1)), (0, .ref m0), (1, .int i40_1), (2, .int (f2 f mA)), (3, .int 0), (4, .int s35_0), (5, .int i40_5)], [], M_40)) (S2 := (68, [(6, .int (f2 f i40_1)), (0, .ref m0), (1, .int i40_1), (2, .int (f2 f mA)), (3, .int 0), (4, .int s35_0), (5, .int i40_5)], [], M_40)) rfl rfl rfl (fun c_65 => ?_) (fun c_65 => ?_)
          · have c_65 : ¬ (tgf f cp pa (f2 f (i40_1 + 2))) = 1 := of_decide_eq_true c_65
            refine ml_st (S' := (83, [(0, .ref m0), (1, .int i40_1), (2, .int (f2 f mA)), (3, .int 0), (4, .int s35_0), (5, .int i40_5), (6, .int (f2 f i40_1))], [.int (-1)], M_40)) rfl rfl rfl ?_
            exact J_83 (-1) (Or.inl (by decide))
          · have c_65 : ¬ (¬ (tgf f cp pa (f2 f (i40_1 + 2))) = 1) := of_decide_eq_false c_65
            refine ml_blk 3 (S' := (71, [(6, .int (f2 f i40_1)), (0, .ref m0), (1, .int i40_1), (2, .int (f2 f mA)), (3, .int 0), (4, .int s35_0), (5, .int i40_5)], [.int i40_1, .ref m0, .ref m0], M_40)) rfl ?_
            refine ml_blk 2 (S' := (73, [(6, .int (f2 f i40_1)), (0, .ref m0), (1, .int i40_1), (2, .int (f2 f mA)), (3, .int 0), (4, .int s35_0), (5, .int i40_5)], [.int (i40_1 + 2), .ref m0, .ref m0], M_40)) rfl ?_
            refine ml_call (a := [.ref m0, .int (i40_1 + 2)]) (rest := [.ref m0]) rfl (hR_40.okc rfl rfl rfl) rfl rfl (rm_u2 hR_40 hF14 (by omega) (by omega) (by omega)) (fun v285 M286 h287 => ?_)
            obtain ⟨rfl, h287⟩ := h287
            rw [h287]
            show ml _ _ _ (76, [(6, .int (f2 f i40_1)), (0, .ref m0), (1, .int i40_1), (2, .int (f2 f mA)), (3, .int 0), (4, .int s35_0), (5, .int i40_5)], [.int (f2 f (i40_1 + 2)), .ref m0], M_40) _
            refine ml_call (a := [.ref m0, .int (f2 f (i40_1 + 2))]) (rest := []) rfl (hR_40.okc rfl rfl rfl) rfl rfl (rm_symOf hR_40 hP21 (Decidable.not_not.mp c_65) (by omega)) (fun v288 M289 h290 => ?_)
            obtain ⟨rfl, h290⟩ := h290
            rw [h290]
            show ml _ _ _ (79, [(6, .int (f2 f i40_1)), (0, .ref m0), (1, .int i40_1), (2, .int (f2 f mA)), (3, .int 0), (4, .int s35_0), (5, .int i40_5)], [.int (pyf py (f2 f (i40_1 + 2)))], M_40) _
            refine ml_st (S' := (83, [(0, .ref m0), (1, .int i40_1), (2, .int (f2 f mA)), (3, .int 0), (4, .int s35_0), (5, .int i40_5), (6, .int (f2 f i40_1))], [.int (pyf py (f2 f (i40_1 + 2)))], M_40)) rfl rfl rfl ?_
            exact J_83 (pyf py (f2 f (i40_1 + 2))) (Or.inr ⟨(hP.y (show tgf f cp pa (f2 f (i40_1 + 2)) = 1 from Decidable.not_not.mp c_65)).2.2.1, (hP.y (show tgf f cp pa (f2 f (i40_1 + 2)) = 1 from Decidable.not_not.mp c_65)).2.2.2⟩)
    exact L_40 _ (mA + 2) 0 _ _ _ (Nat.le_refl _) hR eqI.rf eqR.rf (⟨by decide, by show (0 : Int) ≤ _; exact f2_pos, hk26, by rw [show ((f2 f mA).toInt - (0 : Int32).toInt).toNat = (f2 f mA).toInt.toNat by have : (0 : Int32).toInt = 0 := rfl; omega]; exact hmb.2.2.1, by rw [eA2]; have : (0 : Int32).toInt = 0 := rfl; omega, fun x hx => absurd hx (Nat.not_lt_zero x)⟩)
  refine ml_if (S1 := (34, [(3, .int 0), (1, .int (mA + 2)), (2, .int (f2 f mA)), (0, .ref m0)], [], M)) (S2 := (30, [(3, .int 0), (1, .int (mA + 2)), (2, .int (f2 f mA)), (0, .ref m0)], [], M)) rfl rfl rfl (fun c_27 => ?_) (fun c_27 => ?_)
  · have c_27 : (nf &&& 512) = 0 := of_decide_eq_true c_27
    refine ml_st (S' := (35, [(0, .ref m0), (1, .int (mA + 2)), (2, .int (f2 f mA)), (3, .int 0)], [.int 0], M)) rfl rfl rfl ?_
    exact J_35 0
  · have c_27 : ¬ ((nf &&& 512) = 0) := of_decide_eq_false c_27
    refine ml_st (S' := (31, [(3, .int 0), (1, .int (mA + 2)), (2, .int (f2 f mA)), (0, .ref m0)], [.int 1], M)) rfl rfl rfl ?_
    refine ml_st (S' := (35, [(0, .ref m0), (1, .int (mA + 2)), (2, .int (f2 f mA)), (3, .int 0)], [.int 1], M)) rfl rfl rfl ?_
    exact J_35 1
end
section
/-! the reference: a file that was accepted (my own text) -/
section MIA4
def GD (n : Nat) (f : Nat → Int32) (I : rI) (R : rR) : Prop := ∃ (S cN : Nat) (sa sl ch : Nat → Int32) (cp mj : Int32) (pa py : Nat → Int32) (hA fA mA aA nf ni : Int32) (kf km : Nat), FK n f I R ∧ SK S cN sa sl ch I R ∧ PK n f S cp mj pa py I R ∧ EK f cp pa py sa sl ch ∧ FO f n cp mj hA fA mA aA ∧ I 54 = some hA ∧ I 58 = some nf ∧ I 61 = some ni ∧ kf ≤ 8192 ∧ I 25 = some (nI kf) ∧ FKN kf R ∧ km ≤ 8192 ∧ I 26 = some (nI km) ∧ MKN f n S sa sl ch km R ∧ NW f n I
theorem pk_of {n S : Nat} {f : Nat → Int32} {cp mj : Int32} {I : rI} {R : rR} (h : PEN f n S cp.toInt.toNat R) (hc : 1 ≤ cp.toInt ∧ cp.toInt ≤ 65535) (i1 : I 51 = some 0) (i2 : I 52 = some cp) (i3 : I 53 = some mj) : ∃ pa py, PK n f S cp mj pa py I R := by
  refine ⟨fun j => (R 21 j).getD 0, fun j => (R 22 j).getD 0, i1, i2, i3, hc, fun j h1 h2 => ?_⟩
  obtain ⟨a, b1, b2⟩ := h.2 j h1 h2
  simp only [b1, Option.getD_some]
  refine ⟨trivial, b2.imp id (fun ⟨c1, c2, c3⟩ => ⟨c1, c2, fun e => ?_⟩)⟩
  obtain ⟨sy, e1, e2, e3⟩ := c3 e
  simp only [e1, Option.getD_some]
  exact ⟨trivial, e2, e3⟩
theorem nw_0 {n : Nat} {f : Nat → Int32} {I : rI} (h : ∀ k, k ∈ [65, 66, 67, 68, 69, 72] → ∃ v, I k = some v) (h0 : I 70 = some (-1)) (h1 : I 71 = some 0) : NW f n I := ⟨h, -1, 0, h0, h1, by decide, Or.inl rfl⟩
end MIA4
end
section
/-! the reference: the whole check (laid by wip/p2/c71.py) -/
set_option maxHeartbeats 2000000 in
theorem rm_checkFile {g : xe_G}  {m0 : Nat} {q : Nat → Nat} {z : Nat × Nat} {I : rI} {R : rR} {M : mi_H} {si sc so : Int32} {n : Nat} {f : Nat → Int32} {S cN : Nat}  (hR : RS g m0 q z I R M) (hk20 : I 20 = some 0) (hk25 : I 25 = some 0) (hk26 : I 26 = some 0) (hk9 : I 9 = some si) (hk10 : I 10 = some sc) (hk11 : I 11 = some so) (hF : FK n f I R) (hZ : SYM S cN I R) (hK : KW I R) (hS3 : S ≤ 3) (hC3 : cN ≤ 30) {d : Nat} (hd : 9 ≤ d) : mt (mT g) d 190 [.ref m0] M (fun v M' => ∃ (x : Int32) (I' : rI) (R' : rR), v = some (.int x) ∧ RS g m0 q z I' R' M' ∧ eqI [3, 8, 20, 25, 26, 47, 48, 50, 51, 52, 53, 54, 55, 56, 57, 58, 59, 60, 61, 65, 66, 67, 68, 69, 70, 71, 72] I I' ∧ eqR [1, 2, 4, 5, 6, 7, 21, 22, 27, 28, 29, 30, 31, 32, 33, 34, 35, 36, 37, 38, 39, 40, 41, 42, 43, 44, 45, 46] R R' ∧ (x = 0 ∨ x = 1) ∧ (x = 0 ∨ GD n f I' R')) := by
  obtain ⟨d, rfl⟩ : ∃ e, d = e + 1 := ⟨d - 1, by omega⟩
  refine mt_in (b := mb_190 g) rfl rfl ?_
  show ml (mT g) d (mb_190 g).2 (0, [(0, .ref m0)], [], M) _
  have hn := hF.1
  refine ml_blk 2 (S' := (2, [(0, .ref m0)], [.int (-1), .ref m0], M)) rfl ?_
  refine rp_int rfl hR rfl (fun M11 I12 hR13 e14 f15 => ?_)
  show ml _ _ _ (5, [(0, .ref m0)], [], M11) _
  refine ml_blk 2 (S' := (7, [(0, .ref m0)], [.int 0, .ref m0], M11)) rfl ?_
  refine rp_int rfl hR13 rfl (fun M16 I17 hR18 e19 f20 => ?_)
  show ml _ _ _ (10, [(0, .ref m0)], [], M16) _
  refine ml_blk 2 (S' := (12, [(0, .ref m0)], [.int 0, .ref m0], M16)) rfl ?_
  refine rp_int rfl hR18 rfl (fun M21 I22 hR23 e24 f25 => ?_)
  show ml _ _ _ (15, [(0, .ref m0)], [], M21) _
  refine ml_blk 2 (S' := (17, [(0, .ref m0)], [.int 0, .ref m0], M21)) rfl ?_
  refine rp_int rfl hR23 rfl (fun M26 I27 hR28 e29 f30 => ?_)
  show ml _ _ _ (20, [(0, .ref m0)], [], M26) _
  refine ml_blk 2 (S' := (22, [(0, .ref m0)], [.int 0, .ref m0], M26)) rfl ?_
  refine rp_int rfl hR28 rfl (fun M31 I32 hR33 e34 f35 => ?_)
  show ml _ _ _ (25, [(0, .ref m0)], [], M31) _
  refine ml_blk 2 (S' := (27, [(0, .ref m0)], [.int (-1), .ref m0], M31)) rfl ?_
  refine rp_int rfl hR33 rfl (fun M36 I37 hR38 e39 f40 => ?_)
  show ml _ _ _ (30, [(0, .ref m0)], [], M36) _
  refine ml_blk 2 (S' := (32, [(0, .ref m0)], [.int 0, .ref m0], M36)) rfl ?_
  refine rp_int rfl hR38 rfl (fun M41 I42 hR43 e44 f45 => ?_)
  show ml _ _ _ (35, [(0, .ref m0)], [], M41) _
  refine ml_blk 2 (S' := (37, [(0, .ref m0)], [.int (-1), .ref m0], M41)) rfl ?_
  refine rp_int rfl hR43 rfl (fun M46 I47 hR48 e49 f50 => ?_)
  show ml _ _ _ (40, [(0, .ref m0)], [], M46) _
  have hN0 : NW f n I47 := nw_0 (fun k hk => by simp only [List.mem_cons, List.not_mem_nil, or_false] at hk; rcases hk with rfl | rfl | rfl | rfl | rfl | rfl; exact ⟨_, (f50 65 (by decide)).trans ((f45 65 (by decide)).trans ((f40 65 (by decide)).trans ((f35 65 (by decide)).trans (e29))))⟩; exact ⟨_, (f50 66 (by decide)).trans ((f45 66 (by decide)).trans ((f40 66 (by decide)).trans (e34)))⟩; exact ⟨_, (f50 67 (by decide)).trans ((f45 67 (by decide)).trans ((f40 67 (by decide)).trans ((f35 67 (by decide)).trans ((f30 67 (by decide)).trans ((f25 67 (by decide)).trans ((f20 67 (by decide)).trans (e14)))))))⟩; exact ⟨_, (f50 68 (by decide)).trans ((f45 68 (by decide)).trans ((f40 68 (by decide)).trans ((f35 68 (by decide)).trans ((f30 68 (by decide)).trans ((f25 68 (by decide)).trans (e19))))))⟩; exact ⟨_, (f50 69 (by decide)).trans ((f45 69 (by decide)).trans ((f40 69 (by decide)).trans ((f35 69 (by decide)).trans ((f30 69 (by decide)).trans (e24)))))⟩; exact ⟨_, e49⟩) ((f50 70 (by decide)).trans ((f45 70 (by decide)).trans (e39))) ((f50 71 (by decide)).trans (e44))
  refine ml_st (S' := (41, [(0, .ref m0)], [.ref m0], M46)) rfl rfl rfl ?_
  have hF51 : FK n f I47 R := ((((((((hF.mono (pIx f15 (by decide)) (fun _ _ => rfl)).mono (pIx f20 (by decide)) (fun _ _ => rfl)).mono (pIx f25 (by decide)) (fun _ _ => rfl)).mono (pIx f30 (by decide)) (fun _ _ => rfl)).mono (pIx f35 (by decide)) (fun _ _ => rfl)).mono (pIx f40 (by decide)) (fun _ _ => rfl)).mono (pIx f45 (by decide)) (fun _ _ => rfl)).mono (pIx f50 (by decide)) (fun _ _ => rfl))
  have hZ52 : SYM S cN I47 R := ((((((((hZ.mono (pIx f15 (by decide)) (fun _ _ => rfl)).mono (pIx f20 (by decide)) (fun _ _ => rfl)).mono (pIx f25 (by decide)) (fun _ _ => rfl)).mono (pIx f30 (by decide)) (fun _ _ => rfl)).mono (pIx f35 (by decide)) (fun _ _ => rfl)).mono (pIx f40 (by decide)) (fun _ _ => rfl)).mono (pIx f45 (by decide)) (fun _ _ => rfl)).mono (pIx f50 (by decide)) (fun _ _ => rfl))
  refine ml_call (a := [.ref m0]) (rest := []) rfl (hR48.okc rfl rfl rfl) rfl rfl (rm_readFile hR48 ((f50 20 (by decide)).trans ((f45 20 (by decide)).trans ((f40 20 (by decide)).trans ((f35 20 (by decide)).trans ((f30 20 (by decide)).trans ((f25 20 (by decide)).trans ((f20 20 (by decide)).trans ((f15 20 (by decide)).trans (hk20))))))))) hF51 hZ52 (hS3) (hC3) (by omega)) (fun v53 M54 h55 => ?_)
  obtain ⟨u61, I56, R57, rfl, hR58, hI59, hV60, z62, w63⟩ := h55
  show ml _ _ _ (44, [(0, .ref m0)], [.int u61], M54) _
  have hfr0 := w63
  refine ml_if (S1 := (75, [], [], M54)) (S2 := (47, [(0, .ref m0)], [], M54)) rfl rfl rfl (fun c_44 => ?_) (fun c_44 => ?_)
  · have c_44 : u61 = 0 := of_decide_eq_true c_44
    refine ml_st (S' := (76, [], [.int 0], M54)) rfl rfl rfl ?_
    exact ml_ret rfl (r_z (Or.inl rfl)) (⟨_, _, _, rfl, hR58, (((((((((eqI.rf.put f15 (by decide)).put f20 (by decide)).put f25 (by decide)).put f30 (by decide)).put f35 (by decide)).put f40 (by decide)).put f45 (by decide)).put f50 (by decide)).tr hI59 (by decide)), (eqR.rf.tr hV60 (by decide)), Or.inl rfl, Or.inl rfl⟩)
  · have c_44 : ¬ (u61 = 0) := of_decide_eq_false c_44
    obtain ⟨S, cN, cp, mj, hA, fA, mA, aA, ⟨sa, sl, ch, he, nx, hY9, hH9⟩, hpen, hFO, h51, h52, h53, h54, h55, h56, h57⟩ := hfr0.resolve_left c_44
    obtain ⟨pa, py, hP9⟩ := pk_of hpen hFO.1 h51 h52 h53
    obtain ⟨hcp, ⟨hh0, hh1, hh2⟩, hmb1, hmb2, eE, hatE⟩ := hFO
    refine ml_st (S' := (48, [(0, .ref m0)], [.ref m0], M54)) rfl rfl rfl ?_
    have hF64 : FK n f I56 R57 := (hF51.mono (cIx hI59 (by decide)) (cRx hV60 (by decide)))
    refine ml_call (a := [.ref m0]) (rest := []) rfl (hR58.okc rfl rfl rfl) rfl rfl (rm_checkPool hR58 ((hI59 9 (by decide)).trans ((f50 9 (by decide)).trans ((f45 9 (by decide)).trans ((f40 9 (by decide)).trans ((f35 9 (by decide)).trans ((f30 9 (by decide)).trans ((f25 9 (by decide)).trans ((f20 9 (by decide)).trans ((f15 9 (by decide)).trans (hk9)))))))))) hF64 hY9 hP9 (by omega)) (fun v65 M66 h67 => ?_)
    obtain ⟨u73, I68, R69, rfl, hR70, hI71, hV72, z74, w75⟩ := h67
    show ml _ _ _ (51, [(0, .ref m0)], [.int u73], M66) _
    refine ml_if (S1 := (75, [], [], M66)) (S2 := (54, [(0, .ref m0)], [], M66)) rfl rfl rfl (fun c_51 => ?_) (fun c_51 => ?_)
    · have c_51 : u73 = 0 := of_decide_eq_true c_51
      refine ml_st (S' := (76, [], [.int 0], M66)) rfl rfl rfl ?_
      exact ml_ret rfl (r_z (Or.inl rfl)) (⟨_, _, _, rfl, hR70, ((((((((((eqI.rf.put f15 (by decide)).put f20 (by decide)).put f25 (by decide)).put f30 (by decide)).put f35 (by decide)).put f40 (by decide)).put f45 (by decide)).put f50 (by decide)).tr hI59 (by decide)).tr hI71 (by decide)), ((eqR.rf.tr hV60 (by decide)).tr hV72 (by decide)), Or.inl rfl, Or.inl rfl⟩)
    · have c_51 : ¬ (u73 = 0) := of_decide_eq_false c_51
      have hE9 := w75.resolve_left c_51
      refine ml_st (S' := (55, [(0, .ref m0)], [.ref m0], M66)) rfl rfl rfl ?_
      have hF76 : FK n f I68 R69 := (hF64.mono (cIx hI71 (by decide)) (cRx hV72 (by decide)))
      have hY77 : SK S cN sa sl ch I68 R69 := (hY9.mono (cIx hI71 (by decide)) (cRx hV72 (by decide)))
      have hP78 : PK n f S cp mj pa py I68 R69 := (hP9.mono (cIx hI71 (by decide)) (cRx hV72 (by decide)))
      refine ml_call (a := [.ref m0]) (rest := []) rfl (hR70.okc rfl rfl rfl) rfl rfl (rm_checkClass hR70 ((hI71 54 (by decide)).trans (h54)) ((hI71 11 (by decide)).trans ((hI59 11 (by decide)).trans ((f50 11 (by decide)).trans ((f45 11 (by decide)).trans ((f40 11 (by decide)).trans ((f35 11 (by decide)).trans ((f30 11 (by decide)).trans ((f25 11 (by decide)).trans ((f20 11 (by decide)).trans ((f15 11 (by decide)).trans (hk11))))))))))) hF76 hY77 hP78 hE9 (by omega) (by omega) (by omega)) (fun v79 M80 h81 => ?_)
      obtain ⟨u87, I82, R83, rfl, hR84, hI85, hV86, z88, w89⟩ := h81
      show ml _ _ _ (58, [(0, .ref m0)], [.int u87], M80) _
      refine ml_if (S1 := (75, [], [], M80)) (S2 := (61, [(0, .ref m0)], [], M80)) rfl rfl rfl (fun c_58 => ?_) (fun c_58 => ?_)
      · have c_58 : u87 = 0 := of_decide_eq_true c_58
        refine ml_st (S' := (76, [], [.int 0], M80)) rfl rfl rfl ?_
        exact ml_ret rfl (r_z (Or.inl rfl)) (⟨_, _, _, rfl, hR84, (((((((((((eqI.rf.put f15 (by decide)).put f20 (by decide)).put f25 (by decide)).put f30 (by decide)).put f35 (by decide)).put f40 (by decide)).put f45 (by decide)).put f50 (by decide)).tr hI59 (by decide)).tr hI71 (by decide)).tr hI85 (by decide)), (((eqR.rf.tr hV60 (by decide)).tr hV72 (by decide)).tr hV86 (by decide)), Or.inl rfl, Or.inl rfl⟩)
      · have c_58 : ¬ (u87 = 0) := of_decide_eq_false c_58
        obtain ⟨⟨nf, hnf⟩, ni, hni⟩ := w89.resolve_left c_58
        refine ml_st (S' := (62, [(0, .ref m0)], [.ref m0], M80)) rfl rfl rfl ?_
        have hF90 : FK n f I82 R83 := (hF76.mono (cIx hI85 (by decide)) (cRx hV86 (by decide)))
        have hY91 : SK S cN sa sl ch I82 R83 := (hY77.mono (cIx hI85 (by decide)) (cRx hV86 (by decide)))
        have hP92 : PK n f S cp mj pa py I82 R83 := (hP78.mono (cIx hI85 (by decide)) (cRx hV86 (by decide)))
        have hK93 : KW I82 R83 := (((((((((((hK.mono (pIx f15 (by decide)) (fun _ _ => rfl)).mono (pIx f20 (by decide)) (fun _ _ => rfl)).mono (pIx f25 (by decide)) (fun _ _ => rfl)).mono (pIx f30 (by decide)) (fun _ _ => rfl)).mono (pIx f35 (by decide)) (fun _ _ => rfl)).mono (pIx f40 (by decide)) (fun _ _ => rfl)).mono (pIx f45 (by decide)) (fun _ _ => rfl)).mono (pIx f50 (by decide)) (fun _ _ => rfl)).mono (cIx hI59 (by decide)) (cRx hV60 (by decide))).mono (cIx hI71 (by decide)) (cRx hV72 (by decide))).mono (cIx hI85 (by decide)) (cRx hV86 (by decide)))
        refine ml_call (a := [.ref m0]) (rest := []) rfl (hR84.okc rfl rfl rfl) rfl rfl (rm_checkFields hR84 ((hI85 55 (by decide)).trans ((hI71 55 (by decide)).trans (h55))) ((hI85 25 (by decide)).trans ((hI71 25 (by decide)).trans ((hI59 25 (by decide)).trans ((f50 25 (by decide)).trans ((f45 25 (by decide)).trans ((f40 25 (by decide)).trans ((f35 25 (by decide)).trans ((f30 25 (by decide)).trans ((f25 25 (by decide)).trans ((f20 25 (by decide)).trans ((f15 25 (by decide)).trans (hk25)))))))))))) (hnf) hF90 hY91 hP92 hK93 (hmb1) (by omega)) (fun v94 M95 h96 => ?_)
        obtain ⟨u102, I97, R98, rfl, hR99, hI100, hV101, z103, w104⟩ := h96
        show ml _ _ _ (65, [(0, .ref m0)], [.int u102], M95) _
        refine ml_if (S1 := (75, [], [], M95)) (S2 := (68, [(0, .ref m0)], [], M95)) rfl rfl rfl (fun c_65 => ?_) (fun c_65 => ?_)
        · have c_65 : u102 = 0 := of_decide_eq_true c_65
          refine ml_st (S' := (76, [], [.int 0], M95)) rfl rfl rfl ?_
          exact ml_ret rfl (r_z (Or.inl rfl)) (⟨_, _, _, rfl, hR99, ((((((((((((eqI.rf.put f15 (by decide)).put f20 (by decide)).put f25 (by decide)).put f30 (by decide)).put f35 (by decide)).put f40 (by decide)).put f45 (by decide)).put f50 (by decide)).tr hI59 (by decide)).tr hI71 (by decide)).tr hI85 (by decide)).tr hI100 (by decide)), ((((eqR.rf.tr hV60 (by decide)).tr hV72 (by decide)).tr hV86 (by decide)).tr hV101 (by decide)), Or.inl rfl, Or.inl rfl⟩)
        · have c_65 : ¬ (u102 = 0) := of_decide_eq_false c_65
          obtain ⟨kf, hkf, hkf2, hfk⟩ := w104.resolve_left c_65
          refine ml_st (S' := (69, [(0, .ref m0)], [.ref m0], M95)) rfl rfl rfl ?_
          have hF105 : FK n f I97 R98 := (hF90.mono (cIx hI100 (by decide)) (cRx hV101 (by decide)))
          have hY106 : SK S cN sa sl ch I97 R98 := (hY91.mono (cIx hI100 (by decide)) (cRx hV101 (by decide)))
          have hP107 : PK n f S cp mj pa py I97 R98 := (hP92.mono (cIx hI100 (by decide)) (cRx hV101 (by decide)))
          have hK108 : KW I97 R98 := (hK93.mono (cIx hI100 (by decide)) (cRx hV101 (by decide)))
          refine ml_call (a := [.ref m0]) (rest := []) rfl (hR99.okc rfl rfl rfl) rfl rfl (rm_checkMethods hR99 ((hI100 56 (by decide)).trans ((hI85 56 (by decide)).trans ((hI71 56 (by decide)).trans (h56)))) ((hI100 26 (by decide)).trans ((hI85 26 (by decide)).trans ((hI71 26 (by decide)).trans ((hI59 26 (by decide)).trans ((f50 26 (by decide)).trans ((f45 26 (by decide)).trans ((f40 26 (by decide)).trans ((f35 26 (by decide)).trans ((f30 26 (by decide)).trans ((f25 26 (by decide)).trans ((f20 26 (by decide)).trans ((f15 26 (by decide)).trans (hk26))))))))))))) ((hI100 58 (by decide)).trans (hnf)) ((hI100 9 (by decide)).trans ((hI85 9 (by decide)).trans ((hI71 9 (by decide)).trans ((hI59 9 (by decide)).trans ((f50 9 (by decide)).trans ((f45 9 (by decide)).trans ((f40 9 (by decide)).trans ((f35 9 (by decide)).trans ((f30 9 (by decide)).trans ((f25 9 (by decide)).trans ((f20 9 (by decide)).trans ((f15 9 (by decide)).trans (hk9))))))))))))) ((hI100 10 (by decide)).trans ((hI85 10 (by decide)).trans ((hI71 10 (by decide)).trans ((hI59 10 (by decide)).trans ((f50 10 (by decide)).trans ((f45 10 (by decide)).trans ((f40 10 (by decide)).trans ((f35 10 (by decide)).trans ((f30 10 (by decide)).trans ((f25 10 (by decide)).trans ((f20 10 (by decide)).trans ((f15 10 (by decide)).trans (hk10))))))))))))) hF105 hY106 hP107 hK108 (hmb2) (by omega)) (fun v109 M110 h111 => ?_)
          obtain ⟨u117, I112, R113, rfl, hR114, hI115, hV116, z118, w119⟩ := h111
          show ml _ _ _ (72, [(0, .ref m0)], [.int u117], M110) _
          refine ml_if (S1 := (77, [(0, .ref m0)], [], M110)) (S2 := (75, [], [], M110)) rfl rfl rfl (fun c_72 => ?_) (fun c_72 => ?_)
          · have c_72 : ¬ u117 = 0 := of_decide_eq_true c_72
            obtain ⟨km, hkm, hkm2, hmk⟩ := w119.resolve_left c_72
            refine ml_blk 2 (S' := (79, [(0, .ref m0)], [.ref m0, .ref m0], M110)) rfl ?_
            refine rg_int (S' := (82, [(0, .ref m0)], [.int aA, .ref m0], M110)) rfl hR114 rfl ((hI115 57 (by decide)).trans ((hI100 57 (by decide)).trans ((hI85 57 (by decide)).trans ((hI71 57 (by decide)).trans (h57))))) rfl ?_
            refine ml_blk 2 (S' := (84, [(0, .ref m0)], [.int 0, .int 4, .int aA, .ref m0], M110)) rfl ?_
            have hF120 : FK n f I112 R113 := (hF105.mono (cIx hI115 (by decide)) (cRx hV116 (by decide)))
            have hY121 : SK S cN sa sl ch I112 R113 := (hY106.mono (cIx hI115 (by decide)) (cRx hV116 (by decide)))
            have hP122 : PK n f S cp mj pa py I112 R113 := (hP107.mono (cIx hI115 (by decide)) (cRx hV116 (by decide)))
            have hK123 : KW I112 R113 := (hK108.mono (cIx hI115 (by decide)) (cRx hV116 (by decide)))
            refine ml_call (a := [.ref m0, .int aA, .int 4, .int 0]) (rest := []) rfl (hR114.okc rfl rfl rfl) rfl rfl (rm_checkAttributes4 hR114 ((hI115 58 (by decide)).trans ((hI100 58 (by decide)).trans (hnf))) hF120 hY121 hP122 hK123 (rfl) (hatE) ((((((hN0.fr (cIx hI59 (by decide))).fr (cIx hI71 (by decide))).fr (cIx hI85 (by decide))).fr (cIx hI100 (by decide))).fr (cIx hI115 (by decide)))) (by omega)) (fun v124 M125 h126 => ?_)
            obtain ⟨u132, I127, R128, rfl, hR129, hI130, hV131, w133⟩ := h126
            show ml _ _ _ (87, [(0, .ref m0)], [.int u132], M125) _
            obtain ⟨-, hN9⟩ := w133
            refine ml_if (S1 := (92, [(0, .ref m0)], [], M125)) (S2 := (90, [(0, .ref m0)], [], M125)) rfl rfl rfl (fun c_87 => ?_) (fun c_87 => ?_)
            · have c_87 : 0 ≤ u132 := of_decide_eq_true c_87
              have hN8 := hN9
              obtain ⟨hNk, nb, nbn, hnb, hnbn, hnc, hnd⟩ := hN8
              refine ml_st (S' := (93, [(0, .ref m0)], [.int 1], M125)) rfl rfl rfl ?_
              refine ml_st (S' := (94, [(0, .ref m0), (1, .int 1)], [], M125)) rfl rfl rfl ?_
              have L_94 : ∀ (n_94 : Nat) (i94_1 : Int32), (2147483648 - i94_1.toInt).toNat ≤ n_94 → 1 ≤ i94_1.toInt → ml (mT g) d (mb_190 g).2 (94, [(0, .ref m0), (1, .int i94_1)], [], M125) (fun v M' => ∃ (x : Int32) (I' : rI) (R' : rR), v = some (.int x) ∧ RS g m0 q z I' R' M' ∧ eqI [3, 8, 20, 25, 26, 47, 48, 50, 51, 52, 53, 54, 55, 56, 57, 58, 59, 60, 61, 65, 66, 67, 68, 69, 70, 71, 72] I I' ∧ eqR [1, 2, 4, 5, 6, 7, 21, 22, 27, 28, 29, 30, 31, 32, 33, 34, 35, 36, 37, 38, 39, 40, 41, 42, 43, 44, 45, 46] R R' ∧ (x = 0 ∨ x = 1) ∧ (x = 0 ∨ GD n f I' R')) := by
                intro n_94
                induction n_94 with
                | zero => intro i94_1 hn; exact (loop_zero hn).elim
                | succ n_94 ih_94 =>
                  intro i94_1 hn_94 hi_94
                  refine ml_blk 2 (S' := (96, [(0, .ref m0), (1, .int i94_1)], [.ref m0, .int i94_1], M125)) rfl ?_
                  refine rg_int (S' := (99, [(0, .ref m0), (1, .int i94_1)], [.int cp, .int i94_1], M125)) rfl hR129 rfl ((hI130 52 (by decide)).trans ((hI115 52 (by decide)).trans ((hI100 52 (by decide)).trans ((hI85 52 (by decide)).trans ((hI71 52 (by decide)).trans (h52)))))) rfl ?_
                  refine ml_if2 (S1 := (157, [(0, .ref m0), (1, .int i94_1)], [], M125)) (S2 := (102, [(0, .ref m0), (1, .int i94_1)], [], M125)) rfl rfl rfl (fun c_99 => ?_) (fun c_99 => ?_)
                  · have c_99 : cp ≤ i94_1 := of_decide_eq_true c_99
                    refine ml_st (S' := (158, [(0, .ref m0), (1, .int i94_1)], [.int 1], M125)) rfl rfl rfl ?_
                    have hF134 : FK n f I127 R128 := (hF120.mono (cIx hI130 (by decide)) (cRx hV131 (by decide)))
                    have hY135 : SK S cN sa sl ch I127 R128 := (hY121.mono (cIx hI130 (by decide)) (cRx hV131 (by decide)))
                    have hP136 : PK n f S cp mj pa py I127 R128 := (hP122.mono (cIx hI130 (by decide)) (cRx hV131 (by decide)))
                    exact ml_ret rfl (r_z (Or.inr rfl)) (⟨_, _, _, rfl, hR129, ((((((((((((((eqI.rf.put f15 (by decide)).put f20 (by decide)).put f25 (by decide)).put f30 (by decide)).put f35 (by decide)).put f40 (by decide)).put f45 (by decide)).put f50 (by decide)).tr hI59 (by decide)).tr hI71 (by decide)).tr hI85 (by decide)).tr hI100 (by decide)).tr hI115 (by decide)).tr hI130 (by decide)), ((((((eqR.rf.tr hV60 (by decide)).tr hV72 (by decide)).tr hV86 (by decide)).tr hV101 (by decide)).tr hV116 (by decide)).tr hV131 (by decide)), Or.inr rfl, Or.inr ⟨S, cN, sa, sl, ch, cp, mj, pa, py, hA, fA, mA, aA, nf, ni, kf, km, hF134, hY135, hP136, hE9, ⟨hcp, ⟨hh0, hh1, hh2⟩, hmb1, hmb2, eE, hatE⟩, (hI130 54 (by decide)).trans ((hI115 54 (by decide)).trans ((hI100 54 (by decide)).trans ((hI85 54 (by decide)).trans ((hI71 54 (by decide)).trans (h54))))), (hI130 58 (by decide)).trans ((hI115 58 (by decide)).trans ((hI100 58 (by decide)).trans (hnf))), (hI130 61 (by decide)).trans ((hI115 61 (by decide)).trans ((hI100 61 (by decide)).trans (hni))), hkf, (hI130 25 (by decide)).trans ((hI115 25 (by decide)).trans (hkf2)), ((hfk.eq hV116 (by decide)).eq hV131 (by decide)), hkm, (hI130 26 (by decide)).trans (hkm2), (hmk.eq hV131), hN9⟩⟩)
                  · have c_99 : ¬ (cp ≤ i94_1) := of_decide_eq_false c_99
                    refine ml_blk 2 (S' := (104, [(0, .ref m0), (1, .int i94_1)], [.int i94_1, .ref m0], M125)) rfl ?_
                    have hF137 : FK n f I127 R128 := (hF120.mono (cIx hI130 (by decide)) (cRx hV131 (by decide)))
                    have hP138 : PK n f S cp mj pa py I127 R128 := (hP122.mono (cIx hI130 (by decide)) (cRx hV131 (by decide)))
                    refine ml_call (a := [.ref m0, .int i94_1]) (rest := []) rfl (hR129.okc rfl rfl rfl) rfl rfl (rm_tag hR129 hF137 hP138 (by omega)) (fun v139 M140 h141 => ?_)
                    obtain ⟨rfl, h141⟩ := h141
                    rw [h141]
                    show ml _ _ _ (107, [(0, .ref m0), (1, .int i94_1)], [.int (tgf f cp pa i94_1)], M125) _
                    refine ml_st (S' := (108, [(2, .int (tgf f cp pa i94_1)), (0, .ref m0), (1, .int i94_1)], [], M125)) rfl rfl rfl ?_
                    refine ml_blk 2 (S' := (111, [(2, .int (tgf f cp pa i94_1)), (0, .ref m0), (1, .int i94_1)], [.int 17, .int (tgf f cp pa i94_1)], M125)) rfl ?_
                    have J_120 : (tgf f cp pa i94_1 = 17 ∨ tgf f cp pa i94_1 = 18) → ml (mT g) d (mb_190 g).2 (120, [(0, .ref m0), (1, .int i94_1)], [], M125) (fun v M' => ∃ (x : Int32) (I' : rI) (R' : rR), v = some (.int x) ∧ RS g m0 q z I' R' M' ∧ eqI [3, 8, 20, 25, 26, 47, 48, 50, 51, 52, 53, 54, 55, 56, 57, 58, 59, 60, 61, 65, 66, 67, 68, 69, 70, 71, 72] I I' ∧ eqR [1, 2, 4, 5, 6, 7, 21, 22, 27, 28, 29, 30, 31, 32, 33, 34, 35, 36, 37, 38, 39, 40, 41, 42, 43, 44, 45, 46] R R' ∧ (x = 0 ∨ x = 1) ∧ (x = 0 ∨ GD n f I' R')) := by
                      intro hj_120
                      have hz17 : tgf f cp pa i94_1 ≠ 0 := (fun e => by rcases hj_120 with h | h <;> rw [h] at e <;> exact absurd e (by decide))
                      have h17 := hP138.tg (rfl : tgf f cp pa i94_1 = _) hz17
                      have q17 : (pa (Int32.toNatClampNeg i94_1)).toInt + 5 ≤ n := by have q := h17.2.2.2.2; rw [show esz _ = 5 from esz_17 hj_120] at q; exact q
                      refine ml_blk 3 (S' := (123, [(0, .ref m0), (1, .int i94_1)], [.int 1, .int i94_1, .ref m0], M125)) rfl ?_
                      refine ml_call (a := [.ref m0, .int i94_1, .int 1]) (rest := []) rfl (hR129.okc rfl rfl rfl) rfl rfl (rm_index hR129 hF137 hP138 (h17.1) (h17.2.1) (h17.2.2.1) (by decide) (by have : (1 : Int32).toInt = 1 := rfl; omega) (by omega)) (fun v142 M143 h144 => ?_)
                      obtain ⟨rfl, h144⟩ := h144
                      rw [h144]
                      show ml _ _ _ (126, [(0, .ref m0), (1, .int i94_1)], [.int (ixf f pa i94_1 1)], M125) _
                      refine ml_st (S' := (127, [(0, .ref m0), (1, .int i94_1)], [.ref m0, .int (ixf f pa i94_1 1)], M125)) rfl rfl rfl ?_
                      refine rg_int (S' := (130, [(0, .ref m0), (1, .int i94_1)], [.int nbn, .int (ixf f pa i94_1 1)], M125)) rfl hR129 rfl (hnbn) rfl ?_
                      refine ml_if2 (S1 := (151, [(0, .ref m0), (1, .int i94_1)], [], M125)) (S2 := (133, [(0, .ref m0), (1, .int i94_1)], [], M125)) rfl rfl rfl (fun c_130 => ?_) (fun c_130 => ?_)
                      · have c_130 : (ixf f pa i94_1 1) < nbn := of_decide_eq_true c_130
                        refine ml_st (S' := (154, [(1, .int (i94_1 + 1)), (0, .ref m0)], [], M125)) rfl rfl rfl ?_
                        refine ml_st (S' := (94, [(0, .ref m0), (1, .int (i94_1 + 1))], [], M125)) rfl rfl rfl ?_
                        exact ih_94 (i94_1 + 1) (loop_inc (Int32.not_le.mp c_99) hn_94) (by rw [inc_lt (Int32.not_le.mp c_99)]; omega)
                      · have c_130 : ¬ ((ixf f pa i94_1 1) < nbn) := of_decide_eq_false c_130
                        refine ml_blk 3 (S' := (137, [(0, .ref m0), (1, .int i94_1)], [.ref m0, .int 40, .ref m0], M125)) rfl ?_
                        refine rg_ref (S' := (140, [(0, .ref m0), (1, .int i94_1)], [.ref (q 21), .int 40, .ref m0], M125)) rfl hR129 rfl rfl ?_
                        refine ml_st (S' := (141, [(0, .ref m0), (1, .int i94_1)], [.ref m0, .ref (q 21), .int 40, .ref m0], M125)) rfl rfl rfl ?_
                        refine rg_int (S' := (144, [(0, .ref m0), (1, .int i94_1)], [.int 0, .ref (q 21), .int 40, .ref m0], M125)) rfl hR129 rfl ((hI130 51 (by decide)).trans ((hI115 51 (by decide)).trans ((hI100 51 (by decide)).trans ((hI85 51 (by decide)).trans ((hI71 51 (by decide)).trans (h51)))))) rfl ?_
                        refine ml_blk 2 (S' := (146, [(0, .ref m0), (1, .int i94_1)], [.int (0 + i94_1), .ref (q 21), .int 40, .ref m0], M125)) rfl ?_
                        refine ra_ld (k := 21) (S' := (147, [(0, .ref m0), (1, .int i94_1)], [.int (pa (Int32.toNatClampNeg i94_1)), .int 40, .ref m0], M125)) rfl hR129 rfl ((hP138.e h17.1 h17.2.1).2.1) ((hP138.e h17.1 h17.2.1).1) rfl ?_
                        refine ml_call (a := [.ref m0, .int 40, .int (pa (Int32.toNatClampNeg i94_1))]) (rest := []) rfl (hR129.okc rfl rfl rfl) rfl rfl (rm_wrong hR129 (by omega)) (fun v145 M146 h147 => ?_)
                        obtain ⟨u153, I148, R149, rfl, hR150, hI151, hV152, z154, w155⟩ := h147
                        show ml _ _ _ (150, [(0, .ref m0), (1, .int i94_1)], [.int u153], M146) _
                        exact ml_ret rfl (r_z (z154)) (⟨_, _, _, rfl, hR150, (((((((((((((((eqI.rf.put f15 (by decide)).put f20 (by decide)).put f25 (by decide)).put f30 (by decide)).put f35 (by decide)).put f40 (by decide)).put f45 (by decide)).put f50 (by decide)).tr hI59 (by decide)).tr hI71 (by decide)).tr hI85 (by decide)).tr hI100 (by decide)).tr hI115 (by decide)).tr hI130 (by decide)).tr hI151 (by decide)), (((((((eqR.rf.tr hV60 (by decide)).tr hV72 (by decide)).tr hV86 (by decide)).tr hV101 (by decide)).tr hV116 (by decide)).tr hV131 (by decide)).tr hV152 (by decide)), z154, Or.inl w155⟩)
                    refine ml_if2 (S1 := (120, [(0, .ref m0), (1, .int i94_1)], [], M125)) (S2 := (114, [(2, .int (tgf f cp pa i94_1)), (0, .ref m0), (1, .int i94_1)], [], M125)) rfl rfl rfl (fun c_111 => ?_) (fun c_111 => ?_)
                    · have c_111 : (tgf f cp pa i94_1) = 17 := of_decide_eq_true c_111
                      exact J_120  (Or.inl c_111)
                    · have c_111 : ¬ ((tgf f cp pa i94_1) = 17) := of_decide_eq_false c_111
                      refine ml_blk 2 (S' := (117, [(2, .int (tgf f cp pa i94_1)), (0, .ref m0), (1, .int i94_1)], [.int 18, .int (tgf f cp pa i94_1)], M125)) rfl ?_
                      refine ml_if2 (S1 := (151, [(0, .ref m0), (1, .int i94_1)], [], M125)) (S2 := (120, [(0, .ref m0), (1, .int i94_1)], [], M125)) rfl rfl rfl (fun c_117 => ?_) (fun c_117 => ?_)
                      · have c_117 : ¬ (tgf f cp pa i94_1) = 18 := of_decide_eq_true c_117
                        refine ml_st (S' := (154, [(1, .int (i94_1 + 1)), (0, .ref m0)], [], M125)) rfl rfl rfl ?_
                        refine ml_st (S' := (94, [(0, .ref m0), (1, .int (i94_1 + 1))], [], M125)) rfl rfl rfl ?_
                        exact ih_94 (i94_1 + 1) (loop_inc (Int32.not_le.mp c_99) hn_94) (by rw [inc_lt (Int32.not_le.mp c_99)]; omega)
                      · have c_117 : ¬ (¬ (tgf f cp pa i94_1) = 18) := of_decide_eq_false c_117
                        exact J_120  (Or.inr (Decidable.not_not.mp c_117))
              exact L_94 _ 1 (Nat.le_refl _) (by decide)
            · have c_87 : ¬ (0 ≤ u132) := of_decide_eq_false c_87
              refine ml_st (S' := (91, [(0, .ref m0)], [.int 0], M125)) rfl rfl rfl ?_
              exact ml_ret rfl (r_z (Or.inl rfl)) (⟨_, _, _, rfl, hR129, ((((((((((((((eqI.rf.put f15 (by decide)).put f20 (by decide)).put f25 (by decide)).put f30 (by decide)).put f35 (by decide)).put f40 (by decide)).put f45 (by decide)).put f50 (by decide)).tr hI59 (by decide)).tr hI71 (by decide)).tr hI85 (by decide)).tr hI100 (by decide)).tr hI115 (by decide)).tr hI130 (by decide)), ((((((eqR.rf.tr hV60 (by decide)).tr hV72 (by decide)).tr hV86 (by decide)).tr hV101 (by decide)).tr hV116 (by decide)).tr hV131 (by decide)), Or.inl rfl, Or.inl rfl⟩)
          · have c_72 : ¬ (¬ u117 = 0) := of_decide_eq_false c_72
            refine ml_st (S' := (76, [], [.int 0], M110)) rfl rfl rfl ?_
            exact ml_ret rfl (r_z (Or.inl rfl)) (⟨_, _, _, rfl, hR114, (((((((((((((eqI.rf.put f15 (by decide)).put f20 (by decide)).put f25 (by decide)).put f30 (by decide)).put f35 (by decide)).put f40 (by decide)).put f45 (by decide)).put f50 (by decide)).tr hI59 (by decide)).tr hI71 (by decide)).tr hI85 (by decide)).tr hI100 (by decide)).tr hI115 (by decide)), (((((eqR.rf.tr hV60 (by decide)).tr hV72 (by decide)).tr hV86 (by decide)).tr hV101 (by decide)).tr hV116 (by decide)), Or.inl rfl, Or.inl rfl⟩)
end
