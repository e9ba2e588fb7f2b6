section
/-! the reference: the class, bootstraps, components (laid by wip/p2/c68.py) -/
theorem at_k {hA k : Int32} {n : Nat} (hn : n ≤ 65540) (h0 : 0 ≤ hA.toInt) (h1 : hA.toInt ≤ n) (k0 : 0 ≤ k.toInt) (k1 : k.toInt ≤ 65535) : (hA + 8 + 2 * k).toInt = hA.toInt + 8 + 2 * k.toInt := by
  have e8 : (8 : Int32).toInt = 8 := rfl
  have d8 : (hA + 8).toInt = hA.toInt + 8 := by rw [i_add (by omega) (by omega), e8]
  rw [i_add (by rw [two_k k0 (by omega)]; omega) (by rw [two_k k0 (by omega)]; omega), two_k k0 (by omega), d8]

set_option maxHeartbeats 2000000 in
theorem rm_checkClass {g : xe_G}  {m0 : Nat} {q : Nat → Nat} {z : Nat × Nat} {I : rI} {R : rR} {M : mi_H} {hA so : Int32} {n : Nat} {f : Nat → Int32} {S cN : Nat} {sa sl ch : Nat → Int32} {cp mj : Int32} {pa py : Nat → Int32}  (hR : RS g m0 q z I R M) (hk54 : I 54 = some hA) (hk11 : I 11 = some so) (hF : FK n f I R) (hY : SK S cN sa sl ch I R) (hP : PK n f S cp mj pa py I R) (hE : EK f cp pa py sa sl ch) (h0 : 0 ≤ hA.toInt) (h1 : hA.toInt + 8 + 2 * (f2 f (hA + 6)).toInt ≤ n) {d : Nat} (hd : 6 ≤ d) : mt (mT g) d 188 [.ref m0] M (fun v M' => ∃ (x : Int32) (I' : rI) (R' : rR), v = some (.int x) ∧ RS g m0 q z I' R' M' ∧ eqI [47, 48, 58, 59, 60, 61] I I' ∧ eqR [] R R' ∧ (x = 0 ∨ x = 1) ∧ (x = 0 ∨ (∃ v, I' 58 = some v) ∧ ∃ v, I' 61 = some v)) := by
  obtain ⟨d, rfl⟩ : ∃ e, d = e + 1 := ⟨d - 1, by omega⟩
  refine mt_in (b := mb_188 g) rfl rfl ?_
  show ml (mT g) d (mb_188 g).2 (0, [(0, .ref m0)], [], M) _
  have hn := hF.1
  have hc0 := f2_pos (f := f) (x := hA + 6)
  have hc1 := f2_le (f := f) (x := hA + 6)
  have a2 : (hA + 2).toInt = hA.toInt + 2 := i_add (by have : (2 : Int32).toInt = 2 := rfl; omega) (by have : (2 : Int32).toInt = 2 := rfl; omega)
  have a4 : (hA + 4).toInt = hA.toInt + 4 := i_add (by have : (4 : Int32).toInt = 4 := rfl; omega) (by have : (4 : Int32).toInt = 4 := rfl; omega)
  have a6 : (hA + 6).toInt = hA.toInt + 6 := i_add (by have : (6 : Int32).toInt = 6 := rfl; omega) (by have : (6 : Int32).toInt = 6 := rfl; omega)
  have a8 : (hA + 8).toInt = hA.toInt + 8 := i_add (by have : (8 : Int32).toInt = 8 := rfl; omega) (by have : (8 : Int32).toInt = 8 := rfl; omega)
  refine ml_blk 2 (S' := (2, [(0, .ref m0)], [.ref m0, .ref m0], M)) rfl ?_
  refine rg_int (S' := (5, [(0, .ref m0)], [.int hA, .ref m0], M)) rfl hR rfl (hk54) rfl ?_
  refine ml_call (a := [.ref m0, .int hA]) (rest := []) rfl (hR.okc rfl rfl rfl) rfl rfl (rm_u2 hR hF (by omega) (by omega) (by omega)) (fun v11 M12 h13 => ?_)
  obtain ⟨rfl, h13⟩ := h13
  rw [h13]
  show ml _ _ _ (8, [(0, .ref m0)], [.int (f2 f hA)], M) _
  refine ml_st (S' := (9, [(1, .int (f2 f hA)), (0, .ref m0)], [], M)) rfl rfl rfl ?_
  refine ml_blk 2 (S' := (11, [(1, .int (f2 f hA)), (0, .ref m0)], [.int (f2 f hA), .ref m0], M)) rfl ?_
  refine rp_int rfl hR rfl (fun M14 I15 hR16 e17 f18 => ?_)
  show ml _ _ _ (14, [(1, .int (f2 f hA)), (0, .ref m0)], [], M14) _
  refine ml_blk 3 (S' := (19, [(1, .int (f2 f hA)), (0, .ref m0)], [.int ((f2 f hA) &&& 512)], M14)) rfl ?_
  have J_27 : ∀ (s27_0 : Int32), ml (mT g) d (mb_188 g).2 (27, [(0, .ref m0), (1, .int (f2 f hA))], [.int s27_0], M14) (fun v M' => ∃ (x : Int32) (I' : rI) (R' : rR), v = some (.int x) ∧ RS g m0 q z I' R' M' ∧ eqI [47, 48, 58, 59, 60, 61] I I' ∧ eqR [] R R' ∧ (x = 0 ∨ x = 1) ∧ (x = 0 ∨ (∃ v, I' 58 = some v) ∧ ∃ v, I' 61 = some v)) := by
    intro s27_0
    refine ml_st (S' := (28, [(2, .int s27_0), (0, .ref m0), (1, .int (f2 f hA))], [], M14)) rfl rfl rfl ?_
    refine ml_blk 3 (S' := (33, [(2, .int s27_0), (0, .ref m0), (1, .int (f2 f hA))], [.int ((f2 f hA) &&& 32768)], M14)) rfl ?_
    have J_82 : ml (mT g) d (mb_188 g).2 (82, [(0, .ref m0), (1, .int (f2 f hA)), (2, .int s27_0)], [], M14) (fun v M' => ∃ (x : Int32) (I' : rI) (R' : rR), v = some (.int x) ∧ RS g m0 q z I' R' M' ∧ eqI [47, 48, 58, 59, 60, 61] I I' ∧ eqR [] R R' ∧ (x = 0 ∨ x = 1) ∧ (x = 0 ∨ (∃ v, I' 58 = some v) ∧ ∃ v, I' 61 = some v)) := by
      refine ml_st (S' := (83, [(0, .ref m0), (1, .int (f2 f hA)), (2, .int s27_0)], [.int s27_0], M14)) rfl rfl rfl ?_
      have J_110 : ml (mT g) d (mb_188 g).2 (110, [(0, .ref m0)], [], M14) (fun v M' => ∃ (x : Int32) (I' : rI) (R' : rR), v = some (.int x) ∧ RS g m0 q z I' R' M' ∧ eqI [47, 48, 58, 59, 60, 61] I I' ∧ eqR [] R R' ∧ (x = 0 ∨ x = 1) ∧ (x = 0 ∨ (∃ v, I' 58 = some v) ∧ ∃ v, I' 61 = some v)) := by
        refine ml_blk 3 (S' := (114, [(0, .ref m0)], [.ref m0, .int 15, .ref m0], M14)) rfl ?_
        refine rg_int (S' := (117, [(0, .ref m0)], [.int hA, .int 15, .ref m0], M14)) rfl hR16 rfl ((f18 54 (by decide)).trans (hk54)) rfl ?_
        refine ml_call (a := [.ref m0, .int 15, .int hA]) (rest := []) rfl (hR16.okc rfl rfl rfl) rfl rfl (rm_wrong hR16 (by omega)) (fun v19 M20 h21 => ?_)
        obtain ⟨u27, I22, R23, rfl, hR24, hI25, hV26, z28, w29⟩ := h21
        show ml _ _ _ (120, [(0, .ref m0)], [.int u27], M20) _
        exact ml_ret rfl (r_z (z28)) (⟨_, _, _, rfl, hR24, ((eqI.rf.put f18 (by decide)).tr hI25 (by decide)), (eqR.rf.tr hV26 (by decide)), z28, Or.inl w29⟩)
      refine ml_if (S1 := (110, [(0, .ref m0)], [], M14)) (S2 := (86, [(0, .ref m0), (1, .int (f2 f hA)), (2, .int s27_0)], [], M14)) rfl rfl rfl (fun c_83 => ?_) (fun c_83 => ?_)
      · have c_83 : s27_0 = 0 := of_decide_eq_true c_83
        exact J_110 
      · have c_83 : ¬ (s27_0 = 0) := of_decide_eq_false c_83
        refine ml_blk 3 (S' := (91, [(0, .ref m0), (1, .int (f2 f hA)), (2, .int s27_0)], [.int ((f2 f hA) &&& 32768)], M14)) rfl ?_
        refine ml_if (S1 := (110, [(0, .ref m0)], [], M14)) (S2 := (94, [(0, .ref m0), (1, .int (f2 f hA)), (2, .int s27_0)], [], M14)) rfl rfl rfl (fun c_91 => ?_) (fun c_91 => ?_)
        · have c_91 : ¬ ((f2 f hA) &&& 32768) = 0 := of_decide_eq_true c_91
          exact J_110 
        · have c_91 : ¬ (¬ ((f2 f hA) &&& 32768) = 0) := of_decide_eq_false c_91
          refine ml_blk 3 (S' := (99, [(0, .ref m0), (1, .int (f2 f hA)), (2, .int s27_0)], [.int ((f2 f hA) &&& 1024)], M14)) rfl ?_
          refine ml_if (S1 := (110, [(0, .ref m0)], [], M14)) (S2 := (102, [(0, .ref m0), (1, .int (f2 f hA)), (2, .int s27_0)], [], M14)) rfl rfl rfl (fun c_99 => ?_) (fun c_99 => ?_)
          · have c_99 : ((f2 f hA) &&& 1024) = 0 := of_decide_eq_true c_99
            exact J_110 
          · have c_99 : ¬ (((f2 f hA) &&& 1024) = 0) := of_decide_eq_false c_99
            refine ml_blk 3 (S' := (107, [(0, .ref m0), (1, .int (f2 f hA)), (2, .int s27_0)], [.int ((f2 f hA) &&& 16400)], M14)) rfl ?_
            refine ml_if (S1 := (110, [(0, .ref m0)], [], M14)) (S2 := (110, [(0, .ref m0)], [], M14)) rfl rfl rfl (fun c_107 => ?_) (fun c_107 => ?_)
            · have c_107 : ¬ ((f2 f hA) &&& 16400) = 0 := of_decide_eq_true c_107
              exact J_110 
            · have c_107 : ¬ (¬ ((f2 f hA) &&& 16400) = 0) := of_decide_eq_false c_107
              exact J_110 
    refine ml_if (S1 := (82, [(0, .ref m0), (1, .int (f2 f hA)), (2, .int s27_0)], [], M14)) (S2 := (36, [(2, .int s27_0), (0, .ref m0), (1, .int (f2 f hA))], [], M14)) rfl rfl rfl (fun c_33 => ?_) (fun c_33 => ?_)
    · have c_33 : ¬ ((f2 f hA) &&& 32768) = 0 := of_decide_eq_true c_33
      exact J_82 
    · have c_33 : ¬ (¬ ((f2 f hA) &&& 32768) = 0) := of_decide_eq_false c_33
      refine ml_st (S' := (37, [(2, .int s27_0), (0, .ref m0), (1, .int (f2 f hA))], [.int s27_0], M14)) rfl rfl rfl ?_
      have J_121 : ml (mT g) d (mb_188 g).2 (121, [(0, .ref m0), (2, .int s27_0)], [], M14) (fun v M' => ∃ (x : Int32) (I' : rI) (R' : rR), v = some (.int x) ∧ RS g m0 q z I' R' M' ∧ eqI [47, 48, 58, 59, 60, 61] I I' ∧ eqR [] R R' ∧ (x = 0 ∨ x = 1) ∧ (x = 0 ∨ (∃ v, I' 58 = some v) ∧ ∃ v, I' 61 = some v)) := by
        refine ml_blk 3 (S' := (124, [(0, .ref m0), (2, .int s27_0)], [.ref m0, .ref m0, .ref m0], M14)) rfl ?_
        refine rg_int (S' := (127, [(0, .ref m0), (2, .int s27_0)], [.int hA, .ref m0, .ref m0], M14)) rfl hR16 rfl ((f18 54 (by decide)).trans (hk54)) rfl ?_
        refine ml_blk 2 (S' := (129, [(0, .ref m0), (2, .int s27_0)], [.int (hA + 2), .ref m0, .ref m0], M14)) rfl ?_
        have hF30 : FK n f I15 R := (hF.mono (pIx f18 (by decide)) (fun _ _ => rfl))
        refine ml_call (a := [.ref m0, .int (hA + 2)]) (rest := [.ref m0]) rfl (hR16.okc rfl rfl rfl) rfl rfl (rm_u2 hR16 hF30 (by omega) (by omega) (by omega)) (fun v31 M32 h33 => ?_)
        obtain ⟨rfl, h33⟩ := h33
        rw [h33]
        show ml _ _ _ (132, [(0, .ref m0), (2, .int s27_0)], [.int (f2 f (hA + 2)), .ref m0], M14) _
        have hY34 : SK S cN sa sl ch I15 R := (hY.mono (pIx f18 (by decide)) (fun _ _ => rfl))
        have hP35 : PK n f S cp mj pa py I15 R := (hP.mono (pIx f18 (by decide)) (fun _ _ => rfl))
        refine ml_call (a := [.ref m0, .int (f2 f (hA + 2))]) (rest := []) rfl (hR16.okc rfl rfl rfl) rfl rfl (rm_plainClass hR16 hF30 hY34 hP35 hE (by omega)) (fun v36 M37 h38 => ?_)
        obtain ⟨⟨u39, rfl, z40, w41⟩, h38⟩ := h38
        rw [h38]
        show ml _ _ _ (135, [(0, .ref m0), (2, .int s27_0)], [.int u39], M14) _
        refine ml_if (S1 := (151, [(0, .ref m0), (2, .int s27_0)], [], M14)) (S2 := (138, [(0, .ref m0), (2, .int s27_0)], [], M14)) rfl rfl rfl (fun c_135 => ?_) (fun c_135 => ?_)
        · have c_135 : ¬ u39 = 0 := of_decide_eq_true c_135
          have hA7 := w41.resolve_left c_135
          refine ml_blk 3 (S' := (154, [(0, .ref m0), (2, .int s27_0)], [.ref m0, .ref m0, .ref m0], M14)) rfl ?_
          refine ml_st (S' := (155, [(0, .ref m0), (2, .int s27_0)], [.ref m0, .ref m0, .ref m0, .ref m0], M14)) rfl rfl rfl ?_
          refine rg_int (S' := (158, [(0, .ref m0), (2, .int s27_0)], [.int hA, .ref m0, .ref m0, .ref m0], M14)) rfl hR16 rfl ((f18 54 (by decide)).trans (hk54)) rfl ?_
          refine ml_blk 2 (S' := (160, [(0, .ref m0), (2, .int s27_0)], [.int (hA + 2), .ref m0, .ref m0, .ref m0], M14)) rfl ?_
          refine ml_call (a := [.ref m0, .int (hA + 2)]) (rest := [.ref m0, .ref m0]) rfl (hR16.okc rfl rfl rfl) rfl rfl (rm_u2 hR16 hF30 (by omega) (by omega) (by omega)) (fun v42 M43 h44 => ?_)
          obtain ⟨rfl, h44⟩ := h44
          rw [h44]
          show ml _ _ _ (163, [(0, .ref m0), (2, .int s27_0)], [.int (f2 f (hA + 2)), .ref m0, .ref m0], M14) _
          refine ml_call (a := [.ref m0, .int (f2 f (hA + 2))]) (rest := [.ref m0]) rfl (hR16.okc rfl rfl rfl) rfl rfl (rm_className hR16 hF30 hP35 (hA7) ((hE _ (by rw [hA7]; decide)).1.1 (by rw [hA7]; exact Or.inl rfl)) (by omega)) (fun v45 M46 h47 => ?_)
          obtain ⟨rfl, h47⟩ := h47
          rw [h47]
          show ml _ _ _ (166, [(0, .ref m0), (2, .int s27_0)], [.int (pyf py (ixf f pa (f2 f (hA + 2)) 1)), .ref m0], M14) _
          refine rp_int rfl hR16 rfl (fun M48 I49 hR50 e51 f52 => ?_)
          show ml _ _ _ (169, [(0, .ref m0), (2, .int s27_0)], [], M48) _
          refine ml_blk 2 (S' := (171, [(0, .ref m0), (2, .int s27_0)], [.ref m0, .ref m0], M48)) rfl ?_
          refine rg_int (S' := (174, [(0, .ref m0), (2, .int s27_0)], [.int hA, .ref m0], M48)) rfl hR50 rfl ((f52 54 (by decide)).trans ((f18 54 (by decide)).trans (hk54))) rfl ?_
          refine ml_blk 2 (S' := (176, [(0, .ref m0), (2, .int s27_0)], [.int (hA + 4), .ref m0], M48)) rfl ?_
          have hF53 : FK n f I49 R := (hF30.mono (pIx f52 (by decide)) (fun _ _ => rfl))
          refine ml_call (a := [.ref m0, .int (hA + 4)]) (rest := []) rfl (hR50.okc rfl rfl rfl) rfl rfl (rm_u2 hR50 hF53 (by omega) (by omega) (by omega)) (fun v54 M55 h56 => ?_)
          obtain ⟨rfl, h56⟩ := h56
          rw [h56]
          show ml _ _ _ (179, [(0, .ref m0), (2, .int s27_0)], [.int (f2 f (hA + 4))], M48) _
          refine ml_st (S' := (180, [(3, .int (f2 f (hA + 4))), (0, .ref m0), (2, .int s27_0)], [], M48)) rfl rfl rfl ?_
          refine ml_blk 2 (S' := (182, [(3, .int (f2 f (hA + 4))), (0, .ref m0), (2, .int s27_0)], [.int (f2 f (hA + 4)), .ref m0], M48)) rfl ?_
          have hY57 : SK S cN sa sl ch I49 R := (hY34.mono (pIx f52 (by decide)) (fun _ _ => rfl))
          have hP58 : PK n f S cp mj pa py I49 R := (hP35.mono (pIx f52 (by decide)) (fun _ _ => rfl))
          refine ml_call (a := [.ref m0, .int (f2 f (hA + 4))]) (rest := []) rfl (hR50.okc rfl rfl rfl) rfl rfl (rm_plainClass hR50 hF53 hY57 hP58 hE (by omega)) (fun v59 M60 h61 => ?_)
          obtain ⟨⟨u62, rfl, z63, w64⟩, h61⟩ := h61
          rw [h61]
          show ml _ _ _ (185, [(3, .int (f2 f (hA + 4))), (0, .ref m0), (2, .int s27_0)], [.int u62], M48) _
          refine ml_if (S1 := (204, [(0, .ref m0)], [], M48)) (S2 := (188, [(3, .int (f2 f (hA + 4))), (0, .ref m0), (2, .int s27_0)], [], M48)) rfl rfl rfl (fun c_185 => ?_) (fun c_185 => ?_)
          · have c_185 : u62 = 0 := of_decide_eq_true c_185
            refine ml_blk 3 (S' := (208, [(0, .ref m0)], [.ref m0, .int 17, .ref m0], M48)) rfl ?_
            refine rg_int (S' := (211, [(0, .ref m0)], [.int hA, .int 17, .ref m0], M48)) rfl hR50 rfl ((f52 54 (by decide)).trans ((f18 54 (by decide)).trans (hk54))) rfl ?_
            refine ml_blk 2 (S' := (213, [(0, .ref m0)], [.int (hA + 4), .int 17, .ref m0], M48)) rfl ?_
            refine ml_call (a := [.ref m0, .int 17, .int (hA + 4)]) (rest := []) rfl (hR50.okc rfl rfl rfl) rfl rfl (rm_wrong hR50 (by omega)) (fun v65 M66 h67 => ?_)
            obtain ⟨u73, I68, R69, rfl, hR70, hI71, hV72, z74, w75⟩ := h67
            show ml _ _ _ (216, [(0, .ref m0)], [.int u73], M66) _
            exact ml_ret rfl (r_z (z74)) (⟨_, _, _, rfl, hR70, (((eqI.rf.put f18 (by decide)).put f52 (by decide)).tr hI71 (by decide)), (eqR.rf.tr hV72 (by decide)), z74, Or.inl w75⟩)
          · have c_185 : ¬ (u62 = 0) := of_decide_eq_false c_185
            have hB7 := w64.resolve_left c_185
            refine ml_st (S' := (189, [(3, .int (f2 f (hA + 4))), (0, .ref m0), (2, .int s27_0)], [.int s27_0], M48)) rfl rfl rfl ?_
            have J_217 : (tgf f cp pa (f2 f (hA + 4)) = 7) → ml (mT g) d (mb_188 g).2 (217, [(0, .ref m0), (3, .int (f2 f (hA + 4)))], [], M48) (fun v M' => ∃ (x : Int32) (I' : rI) (R' : rR), v = some (.int x) ∧ RS g m0 q z I' R' M' ∧ eqI [47, 48, 58, 59, 60, 61] I I' ∧ eqR [] R R' ∧ (x = 0 ∨ x = 1) ∧ (x = 0 ∨ (∃ v, I' 58 = some v) ∧ ∃ v, I' 61 = some v)) := by
              intro hj_217
              refine ml_blk 3 (S' := (220, [(0, .ref m0), (3, .int (f2 f (hA + 4)))], [.int (f2 f (hA + 4)), .ref m0, .ref m0], M48)) rfl ?_
              refine ml_call (a := [.ref m0, .int (f2 f (hA + 4))]) (rest := [.ref m0]) rfl (hR50.okc rfl rfl rfl) rfl rfl (rm_className hR50 hF53 hP58 (hj_217) ((hE _ (by rw [hj_217]; decide)).1.1 (by rw [hj_217]; exact Or.inl rfl)) (by omega)) (fun v76 M77 h78 => ?_)
              obtain ⟨rfl, h78⟩ := h78
              rw [h78]
              show ml _ _ _ (223, [(0, .ref m0), (3, .int (f2 f (hA + 4)))], [.int (pyf py (ixf f pa (f2 f (hA + 4)) 1)), .ref m0], M48) _
              refine rp_int rfl hR50 rfl (fun M79 I80 hR81 e82 f83 => ?_)
              show ml _ _ _ (226, [(0, .ref m0), (3, .int (f2 f (hA + 4)))], [], M79) _
              refine ml_blk 2 (S' := (228, [(0, .ref m0), (3, .int (f2 f (hA + 4)))], [.ref m0, .ref m0], M79)) rfl ?_
              refine rg_int (S' := (231, [(0, .ref m0), (3, .int (f2 f (hA + 4)))], [.int hA, .ref m0], M79)) rfl hR81 rfl ((f83 54 (by decide)).trans ((f52 54 (by decide)).trans ((f18 54 (by decide)).trans (hk54)))) rfl ?_
              refine ml_blk 2 (S' := (234, [(0, .ref m0), (3, .int (f2 f (hA + 4)))], [.int (hA + 6), .ref m0], M79)) rfl ?_
              have hF84 : FK n f I80 R := (hF53.mono (pIx f83 (by decide)) (fun _ _ => rfl))
              refine ml_call (a := [.ref m0, .int (hA + 6)]) (rest := []) rfl (hR81.okc rfl rfl rfl) rfl rfl (rm_u2 hR81 hF84 (by omega) (by omega) (by omega)) (fun v85 M86 h87 => ?_)
              obtain ⟨rfl, h87⟩ := h87
              rw [h87]
              show ml _ _ _ (237, [(0, .ref m0), (3, .int (f2 f (hA + 4)))], [.int (f2 f (hA + 6))], M79) _
              refine ml_st (S' := (239, [(4, .int (f2 f (hA + 6))), (0, .ref m0), (3, .int (f2 f (hA + 4)))], [], M79)) rfl rfl rfl ?_
              refine ml_st (S' := (240, [(4, .int (f2 f (hA + 6))), (0, .ref m0), (3, .int (f2 f (hA + 4)))], [.int 0], M79)) rfl rfl rfl ?_
              refine ml_st (S' := (242, [(0, .ref m0), (4, .int (f2 f (hA + 6))), (5, .int 0)], [], M79)) rfl rfl rfl ?_
              have L_242 : ∀ (n_242 : Nat) (i242_5 : Int32), (2147483648 - i242_5.toInt).toNat ≤ n_242 → (0 ≤ i242_5.toInt ∧ i242_5.toInt ≤ (f2 f (hA + 6)).toInt ∧ ∀ j : Int32, 0 ≤ j.toInt → j.toInt < i242_5.toInt → tgf f cp pa (f2 f ((hA + 8) + (2 * j))) = 7) → ml (mT g) d (mb_188 g).2 (242, [(0, .ref m0), (4, .int (f2 f (hA + 6))), (5, .int i242_5)], [], M79) (fun v M' => ∃ (x : Int32) (I' : rI) (R' : rR), v = some (.int x) ∧ RS g m0 q z I' R' M' ∧ eqI [47, 48, 58, 59, 60, 61] I I' ∧ eqR [] R R' ∧ (x = 0 ∨ x = 1) ∧ (x = 0 ∨ (∃ v, I' 58 = some v) ∧ ∃ v, I' 61 = some v)) := by
                intro n_242
                induction n_242 with
                | zero => intro i242_5 hn; exact (loop_zero hn).elim
                | succ n_242 ih_242 =>
                  intro i242_5 hn_242 hi_242
                  obtain ⟨hk0, hk1, hall⟩ := hi_242
                  refine ml_blk 2 (S' := (246, [(0, .ref m0), (4, .int (f2 f (hA + 6))), (5, .int i242_5)], [.int (f2 f (hA + 6)), .int i242_5], M79)) rfl ?_
                  refine ml_if2 (S1 := (349, [(0, .ref m0), (4, .int (f2 f (hA + 6))), (5, .int i242_5)], [], M79)) (S2 := (249, [(0, .ref m0), (4, .int (f2 f (hA + 6))), (5, .int i242_5)], [], M79)) rfl rfl rfl (fun c_246 => ?_) (fun c_246 => ?_)
                  · have c_246 : (f2 f (hA + 6)) ≤ i242_5 := of_decide_eq_true c_246
                    refine ml_blk 2 (S' := (352, [(0, .ref m0), (4, .int (f2 f (hA + 6))), (5, .int i242_5)], [.int (f2 f (hA + 6)), .ref m0], M79)) rfl ?_
                    refine rp_int rfl hR81 rfl (fun M88 I89 hR90 e91 f92 => ?_)
                    show ml _ _ _ (355, [(0, .ref m0), (4, .int (f2 f (hA + 6))), (5, .int i242_5)], [], M88) _
                    refine ml_st (S' := (356, [(0, .ref m0), (4, .int (f2 f (hA + 6))), (5, .int i242_5)], [.int 1], M88)) rfl rfl rfl ?_
                    exact ml_ret rfl (r_z (Or.inr rfl)) (⟨_, _, _, rfl, hR90, ((((eqI.rf.put f18 (by decide)).put f52 (by decide)).put f83 (by decide)).put f92 (by decide)), eqR.rf, Or.inr rfl, Or.inr ⟨⟨_, (f92 58 (by decide)).trans ((f83 58 (by decide)).trans ((f52 58 (by decide)).trans (e17)))⟩, _, e91⟩⟩)
                  · have c_246 : ¬ ((f2 f (hA + 6)) ≤ i242_5) := of_decide_eq_false c_246
                    have hkl := i_nle c_246
                    have hak := at_k (hA := hA) (k := i242_5) hn (by omega) (by omega) hk0 (by omega)
                    refine ml_st (S' := (250, [(0, .ref m0), (4, .int (f2 f (hA + 6))), (5, .int i242_5)], [.ref m0], M79)) rfl rfl rfl ?_
                    refine rg_int (S' := (253, [(0, .ref m0), (4, .int (f2 f (hA + 6))), (5, .int i242_5)], [.int hA], M79)) rfl hR81 rfl ((f83 54 (by decide)).trans ((f52 54 (by decide)).trans ((f18 54 (by decide)).trans (hk54)))) rfl ?_
                    refine ml_blk 3 (S' := (257, [(0, .ref m0), (4, .int (f2 f (hA + 6))), (5, .int i242_5)], [.int 2, .int (hA + 8)], M79)) rfl ?_
                    refine ml_blk 3 (S' := (261, [(0, .ref m0), (4, .int (f2 f (hA + 6))), (5, .int i242_5)], [.int ((hA + 8) + (2 * i242_5))], M79)) rfl ?_
                    refine ml_st (S' := (263, [(6, .int ((hA + 8) + (2 * i242_5))), (0, .ref m0), (4, .int (f2 f (hA + 6))), (5, .int i242_5)], [], M79)) rfl rfl rfl ?_
                    refine ml_blk 3 (S' := (267, [(6, .int ((hA + 8) + (2 * i242_5))), (0, .ref m0), (4, .int (f2 f (hA + 6))), (5, .int i242_5)], [.int ((hA + 8) + (2 * i242_5)), .ref m0, .ref m0], M79)) rfl ?_
                    refine ml_call (a := [.ref m0, .int ((hA + 8) + (2 * i242_5))]) (rest := [.ref m0]) rfl (hR81.okc rfl rfl rfl) rfl rfl (rm_u2 hR81 hF84 (by omega) (by omega) (by omega)) (fun v93 M94 h95 => ?_)
                    obtain ⟨rfl, h95⟩ := h95
                    rw [h95]
                    show ml _ _ _ (270, [(6, .int ((hA + 8) + (2 * i242_5))), (0, .ref m0), (4, .int (f2 f (hA + 6))), (5, .int i242_5)], [.int (f2 f ((hA + 8) + (2 * i242_5))), .ref m0], M79) _
                    have hY96 : SK S cN sa sl ch I80 R := (hY57.mono (pIx f83 (by decide)) (fun _ _ => rfl))
                    have hP97 : PK n f S cp mj pa py I80 R := (hP58.mono (pIx f83 (by decide)) (fun _ _ => rfl))
                    refine ml_call (a := [.ref m0, .int (f2 f ((hA + 8) + (2 * i242_5)))]) (rest := []) rfl (hR81.okc rfl rfl rfl) rfl rfl (rm_plainClass hR81 hF84 hY96 hP97 hE (by omega)) (fun v98 M99 h100 => ?_)
                    obtain ⟨⟨u101, rfl, z102, w103⟩, h100⟩ := h100
                    rw [h100]
                    show ml _ _ _ (273, [(6, .int ((hA + 8) + (2 * i242_5))), (0, .ref m0), (4, .int (f2 f (hA + 6))), (5, .int i242_5)], [.int u101], M79) _
                    refine ml_if (S1 := (285, [(6, .int ((hA + 8) + (2 * i242_5))), (0, .ref m0), (4, .int (f2 f (hA + 6))), (5, .int i242_5)], [], M79)) (S2 := (276, [(6, .int ((hA + 8) + (2 * i242_5))), (0, .ref m0), (4, .int (f2 f (hA + 6))), (5, .int i242_5)], [], M79)) rfl rfl rfl (fun c_273 => ?_) (fun c_273 => ?_)
                    · have c_273 : ¬ u101 = 0 := of_decide_eq_true c_273
                      have hq7 := w103.resolve_left c_273
                      refine ml_st (S' := (286, [(6, .int ((hA + 8) + (2 * i242_5))), (0, .ref m0), (4, .int (f2 f (hA + 6))), (5, .int i242_5)], [.int 0], M79)) rfl rfl rfl ?_
                      refine ml_st (S' := (288, [(0, .ref m0), (4, .int (f2 f (hA + 6))), (5, .int i242_5), (6, .int ((hA + 8) + (2 * i242_5))), (7, .int 0)], [], M79)) rfl rfl rfl ?_
                      have L_288 : ∀ (n_288 : Nat) (i288_7 : Int32), (2147483648 - i288_7.toInt).toNat ≤ n_288 → 0 ≤ i288_7.toInt → ml (mT g) d (mb_188 g).2 (288, [(0, .ref m0), (4, .int (f2 f (hA + 6))), (5, .int i242_5), (6, .int ((hA + 8) + (2 * i242_5))), (7, .int i288_7)], [], M79) (fun v M' => ∃ (x : Int32) (I' : rI) (R' : rR), v = some (.int x) ∧ RS g m0 q z I' R' M' ∧ eqI [47, 48, 58, 59, 60, 61] I I' ∧ eqR [] R R' ∧ (x = 0 ∨ x = 1) ∧ (x = 0 ∨ (∃ v, I' 58 = some v) ∧ ∃ v, I' 61 = some v)) := by
                        intro n_288
                        induction n_288 with
                        | zero => intro i288_7 hn; exact (loop_zero hn).elim
                        | succ n_288 ih_288 =>
                          intro i288_7 hn_288 hi_288
                          refine ml_blk 2 (S' := (292, [(0, .ref m0), (4, .int (f2 f (hA + 6))), (5, .int i242_5), (6, .int ((hA + 8) + (2 * i242_5))), (7, .int i288_7)], [.int i242_5, .int i288_7], M79)) rfl ?_
                          refine ml_if2 (S1 := (343, [(0, .ref m0), (4, .int (f2 f (hA + 6))), (5, .int i242_5), (6, .int ((hA + 8) + (2 * i242_5))), (7, .int i288_7)], [], M79)) (S2 := (295, [(0, .ref m0), (4, .int (f2 f (hA + 6))), (5, .int i242_5), (6, .int ((hA + 8) + (2 * i242_5))), (7, .int i288_7)], [], M79)) rfl rfl rfl (fun c_292 => ?_) (fun c_292 => ?_)
                          · have c_292 : i242_5 ≤ i288_7 := of_decide_eq_true c_292
                            refine ml_st (S' := (346, [(5, .int (i242_5 + 1)), (0, .ref m0), (4, .int (f2 f (hA + 6))), (6, .int ((hA + 8) + (2 * i242_5))), (7, .int i288_7)], [], M79)) rfl rfl rfl ?_
                            refine ml_st (S' := (242, [(0, .ref m0), (4, .int (f2 f (hA + 6))), (5, .int (i242_5 + 1))], [], M79)) rfl rfl rfl ?_
                            exact ih_242 (i242_5 + 1) (loop_inc (Int32.not_le.mp c_246) hn_242) (⟨by rw [inc_lt (Int32.not_le.mp c_246)]; omega, by rw [inc_lt (Int32.not_le.mp c_246)]; omega, fun j h0 h1 => by rw [inc_lt (Int32.not_le.mp c_246)] at h1; by_cases e : j = i242_5; (rw [e]; exact hq7); (exact hall j h0 (by have : j.toInt ≠ i242_5.toInt := fun q => e (Int32.toInt_inj.mp q); omega))⟩)
                          · have c_292 : ¬ (i242_5 ≤ i288_7) := of_decide_eq_false c_292
                            have hjl := i_nle c_292
                            have hj7 := hall i288_7 hi_288 hjl
                            have haj := at_k (hA := hA) (k := i288_7) hn (by omega) (by omega) hi_288 (by omega)
                            refine ml_blk 3 (S' := (298, [(0, .ref m0), (4, .int (f2 f (hA + 6))), (5, .int i242_5), (6, .int ((hA + 8) + (2 * i242_5))), (7, .int i288_7)], [.ref m0, .ref m0, .ref m0], M79)) rfl ?_
                            refine rg_int (S' := (301, [(0, .ref m0), (4, .int (f2 f (hA + 6))), (5, .int i242_5), (6, .int ((hA + 8) + (2 * i242_5))), (7, .int i288_7)], [.int hA, .ref m0, .ref m0], M79)) rfl hR81 rfl ((f83 54 (by decide)).trans ((f52 54 (by decide)).trans ((f18 54 (by decide)).trans (hk54)))) rfl ?_
                            refine ml_blk 3 (S' := (305, [(0, .ref m0), (4, .int (f2 f (hA + 6))), (5, .int i242_5), (6, .int ((hA + 8) + (2 * i242_5))), (7, .int i288_7)], [.int 2, .int (hA + 8), .ref m0, .ref m0], M79)) rfl ?_
                            refine ml_blk 3 (S' := (309, [(0, .ref m0), (4, .int (f2 f (hA + 6))), (5, .int i242_5), (6, .int ((hA + 8) + (2 * i242_5))), (7, .int i288_7)], [.int ((hA + 8) + (2 * i288_7)), .ref m0, .ref m0], M79)) rfl ?_
                            refine ml_call (a := [.ref m0, .int ((hA + 8) + (2 * i288_7))]) (rest := [.ref m0]) rfl (hR81.okc rfl rfl rfl) rfl rfl (rm_u2 hR81 hF84 (by omega) (by omega) (by omega)) (fun v104 M105 h106 => ?_)
                            obtain ⟨rfl, h106⟩ := h106
                            rw [h106]
                            show ml _ _ _ (312, [(0, .ref m0), (4, .int (f2 f (hA + 6))), (5, .int i242_5), (6, .int ((hA + 8) + (2 * i242_5))), (7, .int i288_7)], [.int (f2 f ((hA + 8) + (2 * i288_7))), .ref m0], M79) _
                            refine ml_call (a := [.ref m0, .int (f2 f ((hA + 8) + (2 * i288_7)))]) (rest := []) rfl (hR81.okc rfl rfl rfl) rfl rfl (rm_className hR81 hF84 hP97 (hj7) ((hE _ (by rw [hj7]; decide)).1.1 (by rw [hj7]; exact Or.inl rfl)) (by omega)) (fun v107 M108 h109 => ?_)
                            obtain ⟨rfl, h109⟩ := h109
                            rw [h109]
                            show ml _ _ _ (315, [(0, .ref m0), (4, .int (f2 f (hA + 6))), (5, .int i242_5), (6, .int ((hA + 8) + (2 * i242_5))), (7, .int i288_7)], [.int (pyf py (ixf f pa (f2 f ((hA + 8) + (2 * i288_7))) 1))], M79) _
                            refine ml_blk 3 (S' := (319, [(0, .ref m0), (4, .int (f2 f (hA + 6))), (5, .int i242_5), (6, .int ((hA + 8) + (2 * i242_5))), (7, .int i288_7)], [.int ((hA + 8) + (2 * i242_5)), .ref m0, .ref m0, .int (pyf py (ixf f pa (f2 f ((hA + 8) + (2 * i288_7))) 1))], M79)) rfl ?_
                            refine ml_call (a := [.ref m0, .int ((hA + 8) + (2 * i242_5))]) (rest := [.ref m0, .int (pyf py (ixf f pa (f2 f ((hA + 8) + (2 * i288_7))) 1))]) rfl (hR81.okc rfl rfl rfl) rfl rfl (rm_u2 hR81 hF84 (by omega) (by omega) (by omega)) (fun v110 M111 h112 => ?_)
                            obtain ⟨rfl, h112⟩ := h112
                            rw [h112]
                            show ml _ _ _ (322, [(0, .ref m0), (4, .int (f2 f (hA + 6))), (5, .int i242_5), (6, .int ((hA + 8) + (2 * i242_5))), (7, .int i288_7)], [.int (f2 f ((hA + 8) + (2 * i242_5))), .ref m0, .int (pyf py (ixf f pa (f2 f ((hA + 8) + (2 * i288_7))) 1))], M79) _
                            refine ml_call (a := [.ref m0, .int (f2 f ((hA + 8) + (2 * i242_5)))]) (rest := [.int (pyf py (ixf f pa (f2 f ((hA + 8) + (2 * i288_7))) 1))]) rfl (hR81.okc rfl rfl rfl) rfl rfl (rm_className hR81 hF84 hP97 (hq7) ((hE _ (by rw [hq7]; decide)).1.1 (by rw [hq7]; exact Or.inl rfl)) (by omega)) (fun v113 M114 h115 => ?_)
                            obtain ⟨rfl, h115⟩ := h115
                            rw [h115]
                            show ml _ _ _ (325, [(0, .ref m0), (4, .int (f2 f (hA + 6))), (5, .int i242_5), (6, .int ((hA + 8) + (2 * i242_5))), (7, .int i288_7)], [.int (pyf py (ixf f pa (f2 f ((hA + 8) + (2 * i242_5))) 1)), .int (pyf py (ixf f pa (f2 f ((hA + 8) + (2 * i288_7))) 1))], M79) _
                            refine ml_if2 (S1 := (337, [(0, .ref m0), (4, .int (f2 f (hA + 6))), (5, .int i242_5), (6, .int ((hA + 8) + (2 * i242_5))), (7, .int i288_7)], [], M79)) (S2 := (328, [(0, .ref m0), (4, .int (f2 f (hA + 6))), (5, .int i242_5), (6, .int ((hA + 8) + (2 * i242_5))), (7, .int i288_7)], [], M79)) rfl rfl rfl (fun c_325 => ?_) (fun c_325 => ?_)
                            · have c_325 : ¬ (pyf py (ixf f pa (f2 f ((hA + 8) + (2 * i288_7))) 1)) = (pyf py (ixf f pa (f2 f ((hA + 8) + (2 * i242_5))) 1)) := of_decide_eq_true c_325
                              refine ml_st (S' := (340, [(7, .int (i288_7 + 1)), (0, .ref m0), (4, .int (f2 f (hA + 6))), (5, .int i242_5), (6, .int ((hA + 8) + (2 * i242_5)))], [], M79)) rfl rfl rfl ?_
                              refine ml_st (S' := (288, [(0, .ref m0), (4, .int (f2 f (hA + 6))), (5, .int i242_5), (6, .int ((hA + 8) + (2 * i242_5))), (7, .int (i288_7 + 1))], [], M79)) rfl rfl rfl ?_
                              exact ih_288 (i288_7 + 1) (loop_inc (Int32.not_le.mp c_292) hn_288) (by rw [inc_lt (Int32.not_le.mp c_292)]; omega)
                            · have c_325 : ¬ (¬ (pyf py (ixf f pa (f2 f ((hA + 8) + (2 * i288_7))) 1)) = (pyf py (ixf f pa (f2 f ((hA + 8) + (2 * i242_5))) 1))) := of_decide_eq_false c_325
                              refine ml_blk 3 (S' := (333, [(0, .ref m0), (4, .int (f2 f (hA + 6))), (5, .int i242_5), (6, .int ((hA + 8) + (2 * i242_5))), (7, .int i288_7)], [.int ((hA + 8) + (2 * i242_5)), .int 18, .ref m0], M79)) rfl ?_
                              refine ml_call (a := [.ref m0, .int 18, .int ((hA + 8) + (2 * i242_5))]) (rest := []) rfl (hR81.okc rfl rfl rfl) rfl rfl (rm_wrong hR81 (by omega)) (fun v116 M117 h118 => ?_)
                              obtain ⟨u124, I119, R120, rfl, hR121, hI122, hV123, z125, w126⟩ := h118
                              show ml _ _ _ (336, [(0, .ref m0), (4, .int (f2 f (hA + 6))), (5, .int i242_5), (6, .int ((hA + 8) + (2 * i242_5))), (7, .int i288_7)], [.int u124], M117) _
                              exact ml_ret rfl (r_z (z125)) (⟨_, _, _, rfl, hR121, ((((eqI.rf.put f18 (by decide)).put f52 (by decide)).put f83 (by decide)).tr hI122 (by decide)), (eqR.rf.tr hV123 (by decide)), z125, Or.inl w126⟩)
                      exact L_288 _ 0 (Nat.le_refl _) (by decide)
                    · have c_273 : ¬ (¬ u101 = 0) := of_decide_eq_false c_273
                      refine ml_blk 3 (S' := (281, [(6, .int ((hA + 8) + (2 * i242_5))), (0, .ref m0), (4, .int (f2 f (hA + 6))), (5, .int i242_5)], [.int ((hA + 8) + (2 * i242_5)), .int 18, .ref m0], M79)) rfl ?_
                      refine ml_call (a := [.ref m0, .int 18, .int ((hA + 8) + (2 * i242_5))]) (rest := []) rfl (hR81.okc rfl rfl rfl) rfl rfl (rm_wrong hR81 (by omega)) (fun v127 M128 h129 => ?_)
                      obtain ⟨u135, I130, R131, rfl, hR132, hI133, hV134, z136, w137⟩ := h129
                      show ml _ _ _ (284, [(6, .int ((hA + 8) + (2 * i242_5))), (0, .ref m0), (4, .int (f2 f (hA + 6))), (5, .int i242_5)], [.int u135], M128) _
                      exact ml_ret rfl (r_z (z136)) (⟨_, _, _, rfl, hR132, ((((eqI.rf.put f18 (by decide)).put f52 (by decide)).put f83 (by decide)).tr hI133 (by decide)), (eqR.rf.tr hV134 (by decide)), z136, Or.inl w137⟩)
              exact L_242 _ 0 (Nat.le_refl _) (⟨by decide, by show (0 : Int) ≤ _; omega, fun j h0 h1 => by have : (0 : Int32).toInt = 0 := rfl; omega⟩)
            refine ml_if (S1 := (217, [(0, .ref m0), (3, .int (f2 f (hA + 4)))], [], M48)) (S2 := (192, [(3, .int (f2 f (hA + 4))), (0, .ref m0), (2, .int s27_0)], [], M48)) rfl rfl rfl (fun c_189 => ?_) (fun c_189 => ?_)
            · have c_189 : s27_0 = 0 := of_decide_eq_true c_189
              exact J_217  (hB7)
            · have c_189 : ¬ (s27_0 = 0) := of_decide_eq_false c_189
              refine ml_blk 2 (S' := (194, [(3, .int (f2 f (hA + 4))), (0, .ref m0), (2, .int s27_0)], [.int (f2 f (hA + 4)), .ref m0], M48)) rfl ?_
              refine ml_call (a := [.ref m0, .int (f2 f (hA + 4))]) (rest := []) rfl (hR50.okc rfl rfl rfl) rfl rfl (rm_className hR50 hF53 hP58 (hB7) ((hE _ (by rw [hB7]; decide)).1.1 (by rw [hB7]; exact Or.inl rfl)) (by omega)) (fun v138 M139 h140 => ?_)
              obtain ⟨rfl, h140⟩ := h140
              rw [h140]
              show ml _ _ _ (197, [(3, .int (f2 f (hA + 4))), (0, .ref m0), (2, .int s27_0)], [.int (pyf py (ixf f pa (f2 f (hA + 4)) 1))], M48) _
              refine ml_st (S' := (198, [(3, .int (f2 f (hA + 4))), (0, .ref m0), (2, .int s27_0)], [.ref m0, .int (pyf py (ixf f pa (f2 f (hA + 4)) 1))], M48)) rfl rfl rfl ?_
              refine rg_int (S' := (201, [(3, .int (f2 f (hA + 4))), (0, .ref m0), (2, .int s27_0)], [.int so, .int (pyf py (ixf f pa (f2 f (hA + 4)) 1))], M48)) rfl hR50 rfl ((f52 11 (by decide)).trans ((f18 11 (by decide)).trans (hk11))) rfl ?_
              refine ml_if2 (S1 := (217, [(0, .ref m0), (3, .int (f2 f (hA + 4)))], [], M48)) (S2 := (204, [(0, .ref m0)], [], M48)) rfl rfl rfl (fun c_201 => ?_) (fun c_201 => ?_)
              · have c_201 : (pyf py (ixf f pa (f2 f (hA + 4)) 1)) = so := of_decide_eq_true c_201
                exact J_217  (hB7)
              · have c_201 : ¬ ((pyf py (ixf f pa (f2 f (hA + 4)) 1)) = so) := of_decide_eq_false c_201
                refine ml_blk 3 (S' := (208, [(0, .ref m0)], [.ref m0, .int 17, .ref m0], M48)) rfl ?_
                refine rg_int (S' := (211, [(0, .ref m0)], [.int hA, .int 17, .ref m0], M48)) rfl hR50 rfl ((f52 54 (by decide)).trans ((f18 54 (by decide)).trans (hk54))) rfl ?_
                refine ml_blk 2 (S' := (213, [(0, .ref m0)], [.int (hA + 4), .int 17, .ref m0], M48)) rfl ?_
                refine ml_call (a := [.ref m0, .int 17, .int (hA + 4)]) (rest := []) rfl (hR50.okc rfl rfl rfl) rfl rfl (rm_wrong hR50 (by omega)) (fun v141 M142 h143 => ?_)
                obtain ⟨u149, I144, R145, rfl, hR146, hI147, hV148, z150, w151⟩ := h143
                show ml _ _ _ (216, [(0, .ref m0)], [.int u149], M142) _
                exact ml_ret rfl (r_z (z150)) (⟨_, _, _, rfl, hR146, (((eqI.rf.put f18 (by decide)).put f52 (by decide)).tr hI147 (by decide)), (eqR.rf.tr hV148 (by decide)), z150, Or.inl w151⟩)
        · have c_135 : ¬ (¬ u39 = 0) := of_decide_eq_false c_135
          refine ml_blk 3 (S' := (142, [(0, .ref m0), (2, .int s27_0)], [.ref m0, .int 16, .ref m0], M14)) rfl ?_
          refine rg_int (S' := (145, [(0, .ref m0), (2, .int s27_0)], [.int hA, .int 16, .ref m0], M14)) rfl hR16 rfl ((f18 54 (by decide)).trans (hk54)) rfl ?_
          refine ml_blk 2 (S' := (147, [(0, .ref m0), (2, .int s27_0)], [.int (hA + 2), .int 16, .ref m0], M14)) rfl ?_
          refine ml_call (a := [.ref m0, .int 16, .int (hA + 2)]) (rest := []) rfl (hR16.okc rfl rfl rfl) rfl rfl (rm_wrong hR16 (by omega)) (fun v152 M153 h154 => ?_)
          obtain ⟨u160, I155, R156, rfl, hR157, hI158, hV159, z161, w162⟩ := h154
          show ml _ _ _ (150, [(0, .ref m0), (2, .int s27_0)], [.int u160], M153) _
          exact ml_ret rfl (r_z (z161)) (⟨_, _, _, rfl, hR157, ((eqI.rf.put f18 (by decide)).tr hI158 (by decide)), (eqR.rf.tr hV159 (by decide)), z161, Or.inl w162⟩)
      refine ml_if (S1 := (59, [(2, .int s27_0), (0, .ref m0), (1, .int (f2 f hA))], [], M14)) (S2 := (40, [(2, .int s27_0), (0, .ref m0), (1, .int (f2 f hA))], [], M14)) rfl rfl rfl (fun c_37 => ?_) (fun c_37 => ?_)
      · have c_37 : s27_0 = 0 := of_decide_eq_true c_37
        refine ml_blk 3 (S' := (64, [(2, .int s27_0), (0, .ref m0), (1, .int (f2 f hA))], [.int ((f2 f hA) &&& 8192)], M14)) rfl ?_
        refine ml_if (S1 := (82, [(0, .ref m0), (1, .int (f2 f hA)), (2, .int s27_0)], [], M14)) (S2 := (67, [(2, .int s27_0), (0, .ref m0), (1, .int (f2 f hA))], [], M14)) rfl rfl rfl (fun c_64 => ?_) (fun c_64 => ?_)
        · have c_64 : ¬ ((f2 f hA) &&& 8192) = 0 := of_decide_eq_true c_64
          exact J_82 
        · have c_64 : ¬ (¬ ((f2 f hA) &&& 8192) = 0) := of_decide_eq_false c_64
          refine ml_blk 3 (S' := (71, [(2, .int s27_0), (0, .ref m0), (1, .int (f2 f hA))], [.int ((f2 f hA) &&& 16)], M14)) rfl ?_
          refine ml_if (S1 := (121, [(0, .ref m0), (2, .int s27_0)], [], M14)) (S2 := (74, [(2, .int s27_0), (0, .ref m0), (1, .int (f2 f hA))], [], M14)) rfl rfl rfl (fun c_71 => ?_) (fun c_71 => ?_)
          · have c_71 : ((f2 f hA) &&& 16) = 0 := of_decide_eq_true c_71
            exact J_121 
          · have c_71 : ¬ (((f2 f hA) &&& 16) = 0) := of_decide_eq_false c_71
            refine ml_blk 3 (S' := (79, [(2, .int s27_0), (0, .ref m0), (1, .int (f2 f hA))], [.int ((f2 f hA) &&& 1024)], M14)) rfl ?_
            refine ml_if (S1 := (121, [(0, .ref m0), (2, .int s27_0)], [], M14)) (S2 := (82, [(0, .ref m0), (1, .int (f2 f hA)), (2, .int s27_0)], [], M14)) rfl rfl rfl (fun c_79 => ?_) (fun c_79 => ?_)
            · have c_79 : ((f2 f hA) &&& 1024) = 0 := of_decide_eq_true c_79
              exact J_121 
            · have c_79 : ¬ (((f2 f hA) &&& 1024) = 0) := of_decide_eq_false c_79
              exact J_82 
      · have c_37 : ¬ (s27_0 = 0) := of_decide_eq_false c_37
        refine ml_blk 3 (S' := (45, [(2, .int s27_0), (0, .ref m0), (1, .int (f2 f hA))], [.int ((f2 f hA) &&& 1024)], M14)) rfl ?_
        refine ml_if (S1 := (82, [(0, .ref m0), (1, .int (f2 f hA)), (2, .int s27_0)], [], M14)) (S2 := (48, [(2, .int s27_0), (0, .ref m0), (1, .int (f2 f hA))], [], M14)) rfl rfl rfl (fun c_45 => ?_) (fun c_45 => ?_)
        · have c_45 : ((f2 f hA) &&& 1024) = 0 := of_decide_eq_true c_45
          exact J_82 
        · have c_45 : ¬ (((f2 f hA) &&& 1024) = 0) := of_decide_eq_false c_45
          refine ml_blk 3 (S' := (53, [(2, .int s27_0), (0, .ref m0), (1, .int (f2 f hA))], [.int ((f2 f hA) &&& 16432)], M14)) rfl ?_
          refine ml_if (S1 := (121, [(0, .ref m0), (2, .int s27_0)], [], M14)) (S2 := (56, [(2, .int s27_0), (0, .ref m0), (1, .int (f2 f hA))], [], M14)) rfl rfl rfl (fun c_53 => ?_) (fun c_53 => ?_)
          · have c_53 : ((f2 f hA) &&& 16432) = 0 := of_decide_eq_true c_53
            exact J_121 
          · have c_53 : ¬ (((f2 f hA) &&& 16432) = 0) := of_decide_eq_false c_53
            refine ml_st (S' := (82, [(0, .ref m0), (1, .int (f2 f hA)), (2, .int s27_0)], [], M14)) rfl rfl rfl ?_
            exact J_82 
  refine ml_if (S1 := (26, [(1, .int (f2 f hA)), (0, .ref m0)], [], M14)) (S2 := (22, [(1, .int (f2 f hA)), (0, .ref m0)], [], M14)) rfl rfl rfl (fun c_19 => ?_) (fun c_19 => ?_)
  · have c_19 : ((f2 f hA) &&& 512) = 0 := of_decide_eq_true c_19
    refine ml_st (S' := (27, [(0, .ref m0), (1, .int (f2 f hA))], [.int 0], M14)) rfl rfl rfl ?_
    exact J_27 0
  · have c_19 : ¬ (((f2 f hA) &&& 512) = 0) := of_decide_eq_false c_19
    refine ml_st (S' := (23, [(1, .int (f2 f hA)), (0, .ref m0)], [.int 1], M14)) rfl rfl rfl ?_
    refine ml_st (S' := (27, [(0, .ref m0), (1, .int (f2 f hA))], [.int 1], M14)) rfl rfl rfl ?_
    exact J_27 1
set_option maxHeartbeats 2000000 in
theorem rm_bootstraps {g : xe_G}  {m0 : Nat} {q : Nat → Nat} {z : Nat × Nat} {I : rI} {R : rR} {M : mi_H} {x1 x2 : Int32} {n : Nat} {f : Nat → Int32} {S : Nat} {cp mj : Int32} {pa py : Nat → Int32}  (hR : RS g m0 q z I R M) (hF : FK n f I R) (hP : PK n f S cp mj pa py I R) (h0 : 0 ≤ x1.toInt) (h1 : x1.toInt ≤ x2.toInt) (h2 : x2.toInt ≤ n) {d : Nat} (hd : 3 ≤ d) : mt (mT g) d 185 [.ref m0, .int x1, .int x2] M (fun v M' => ∃ (x : Int32) (I' : rI) (R' : rR), v = some (.int x) ∧ RS g m0 q z I' R' M' ∧ eqI [70, 71] I I' ∧ eqR [] R R' ∧ (x ≠ 0 ∧ I' = I ∨ x = 0 ∧ I' 70 = some x1 ∧ I' 71 = some (f2 f x1) ∧ BSW f n x1 (f2 f x1))) := by
  obtain ⟨d, rfl⟩ : ∃ e, d = e + 1 := ⟨d - 1, by omega⟩
  refine mt_in (b := mb_185 g) rfl rfl ?_
  show ml (mT g) d (mb_185 g).2 (0, [(0, .ref m0), (1, .int x1), (2, .int x2)], [], M) _
  have hn := hF.1
  refine ml_blk 3 (S' := (3, [(0, .ref m0), (1, .int x1), (2, .int x2)], [.int (x2 - x1)], M)) rfl ?_
  refine ml_st (S' := (4, [(0, .ref m0), (1, .int x1), (2, .int x2)], [.int 2, .int (x2 - x1)], M)) rfl rfl rfl ?_
  refine ml_if2 (S1 := (10, [(0, .ref m0), (1, .int x1), (2, .int x2)], [], M)) (S2 := (7, [(0, .ref m0), (1, .int x1), (2, .int x2)], [], M)) rfl rfl rfl (fun c_4 => ?_) (fun c_4 => ?_)
  · have c_4 : 2 ≤ (x2 - x1) := of_decide_eq_true c_4
    have hd2 := i_le c_4
    rw [i_sub (by omega) (by omega)] at hd2
    have i2_ : (2 : Int32).toInt = 2 := rfl
    have ex2 : (x1 + 2).toInt = x1.toInt + 2 := i_add (by have : (2 : Int32).toInt = 2 := rfl; omega) (by have : (2 : Int32).toInt = 2 := rfl; omega)
    have hc0 := f2_pos (f := f) (x := x1)
    have hc1 := f2_le (f := f) (x := x1)
    refine ml_blk 2 (S' := (12, [(0, .ref m0), (1, .int x1), (2, .int x2)], [.int x1, .ref m0], M)) rfl ?_
    refine ml_call (a := [.ref m0, .int x1]) (rest := []) rfl (hR.okc rfl rfl rfl) rfl rfl (rm_u2 hR hF (h0) (by omega) (by omega)) (fun v11 M12 h13 => ?_)
    obtain ⟨rfl, h13⟩ := h13
    rw [h13]
    show ml _ _ _ (15, [(0, .ref m0), (1, .int x1), (2, .int x2)], [.int (f2 f x1)], M) _
    refine ml_st (S' := (16, [(3, .int (f2 f x1)), (0, .ref m0), (1, .int x1), (2, .int x2)], [], M)) rfl rfl rfl ?_
    refine ml_blk 3 (S' := (19, [(3, .int (f2 f x1)), (0, .ref m0), (1, .int x1), (2, .int x2)], [.int (x1 + 2)], M)) rfl ?_
    refine ml_st (S' := (21, [(4, .int (x1 + 2)), (3, .int (f2 f x1)), (0, .ref m0), (1, .int x1), (2, .int x2)], [], M)) rfl rfl rfl ?_
    refine ml_st (S' := (22, [(4, .int (x1 + 2)), (3, .int (f2 f x1)), (0, .ref m0), (1, .int x1), (2, .int x2)], [.int 0], M)) rfl rfl rfl ?_
    refine ml_st (S' := (24, [(0, .ref m0), (1, .int x1), (2, .int x2), (3, .int (f2 f x1)), (4, .int (x1 + 2)), (5, .int 0)], [], M)) rfl rfl rfl ?_
    have L_24 : ∀ (n_24 : Nat) (i24_4 : Int32) (i24_5 : Int32), (2147483648 - i24_5.toInt).toNat ≤ n_24 → (x1.toInt + 2 ≤ i24_4.toInt ∧ i24_4.toInt ≤ x2.toInt ∧ 0 ≤ i24_5.toInt ∧ i24_5.toInt ≤ (f2 f x1).toInt ∧ itr (BS1 f n) i24_5.toInt.toNat (x1 + 2) i24_4) → ml (mT g) d (mb_185 g).2 (24, [(0, .ref m0), (1, .int x1), (2, .int x2), (3, .int (f2 f x1)), (4, .int i24_4), (5, .int i24_5)], [], M) (fun v M' => ∃ (x : Int32) (I' : rI) (R' : rR), v = some (.int x) ∧ RS g m0 q z I' R' M' ∧ eqI [70, 71] I I' ∧ eqR [] R R' ∧ (x ≠ 0 ∧ I' = I ∨ x = 0 ∧ I' 70 = some x1 ∧ I' 71 = some (f2 f x1) ∧ BSW f n x1 (f2 f x1))) := by
      intro n_24
      induction n_24 with
      | zero => intro i24_4 i24_5 hn; exact (loop_zero hn).elim
      | succ n_24 ih_24 =>
        intro i24_4 i24_5 hn_24 hi_24
        obtain ⟨hp0, hp1, hk0, hk1, hit⟩ := hi_24
        refine ml_blk 2 (S' := (27, [(0, .ref m0), (1, .int x1), (2, .int x2), (3, .int (f2 f x1)), (4, .int i24_4), (5, .int i24_5)], [.int (f2 f x1), .int i24_5], M)) rfl ?_
        refine ml_if2 (S1 := (83, [(0, .ref m0), (1, .int x1), (2, .int x2), (3, .int (f2 f x1)), (4, .int i24_4), (5, .int i24_5)], [], M)) (S2 := (30, [(0, .ref m0), (1, .int x1), (2, .int x2), (3, .int (f2 f x1)), (4, .int i24_4), (5, .int i24_5)], [], M)) rfl rfl rfl (fun c_27 => ?_) (fun c_27 => ?_)
        · have c_27 : (f2 f x1) ≤ i24_5 := of_decide_eq_true c_27
          refine ml_blk 2 (S' := (86, [(0, .ref m0), (1, .int x1), (2, .int x2), (3, .int (f2 f x1)), (4, .int i24_4), (5, .int i24_5)], [.int x2, .int i24_4], M)) rfl ?_
          refine ml_if2 (S1 := (92, [(0, .ref m0), (1, .int x1), (2, .int x2), (3, .int (f2 f x1)), (4, .int i24_4), (5, .int i24_5)], [], M)) (S2 := (89, [(0, .ref m0), (1, .int x1), (2, .int x2), (3, .int (f2 f x1)), (4, .int i24_4), (5, .int i24_5)], [], M)) rfl rfl rfl (fun c_86 => ?_) (fun c_86 => ?_)
          · have c_86 : i24_4 = x2 := of_decide_eq_true c_86
            have hend : i24_4 = x2 := c_86
            have hit2 := itr_end hit hk1 c_27
            have hw : BSW f n x1 (f2 f x1) := ⟨h0, by omega, _, hit2, by omega⟩
            refine ml_blk 3 (S' := (95, [(0, .ref m0), (1, .int x1), (2, .int x2), (3, .int (f2 f x1)), (4, .int i24_4), (5, .int i24_5)], [.int (x1 + 2)], M)) rfl ?_
            refine ml_st (S' := (97, [(4, .int (x1 + 2)), (0, .ref m0), (1, .int x1), (2, .int x2), (3, .int (f2 f x1)), (5, .int i24_5)], [], M)) rfl rfl rfl ?_
            refine ml_st (S' := (98, [(4, .int (x1 + 2)), (0, .ref m0), (1, .int x1), (2, .int x2), (3, .int (f2 f x1)), (5, .int i24_5)], [.int 0], M)) rfl rfl rfl ?_
            refine ml_st (S' := (100, [(0, .ref m0), (1, .int x1), (3, .int (f2 f x1)), (4, .int (x1 + 2)), (5, .int 0)], [], M)) rfl rfl rfl ?_
            have L_100 : ∀ (n_100 : Nat) (i100_4 : Int32) (i100_5 : Int32), (2147483648 - i100_5.toInt).toNat ≤ n_100 → (0 ≤ i100_5.toInt ∧ itr (BS1 f n) ((f2 f x1).toInt - i100_5.toInt).toNat i100_4 i24_4) → ml (mT g) d (mb_185 g).2 (100, [(0, .ref m0), (1, .int x1), (3, .int (f2 f x1)), (4, .int i100_4), (5, .int i100_5)], [], M) (fun v M' => ∃ (x : Int32) (I' : rI) (R' : rR), v = some (.int x) ∧ RS g m0 q z I' R' M' ∧ eqI [70, 71] I I' ∧ eqR [] R R' ∧ (x ≠ 0 ∧ I' = I ∨ x = 0 ∧ I' 70 = some x1 ∧ I' 71 = some (f2 f x1) ∧ BSW f n x1 (f2 f x1))) := by
              intro n_100
              induction n_100 with
              | zero => intro i100_4 i100_5 hn; exact (loop_zero hn).elim
              | succ n_100 ih_100 =>
                intro i100_4 i100_5 hn_100 hi_100
                obtain ⟨hk0b, hitb⟩ := hi_100
                refine ml_blk 2 (S' := (103, [(0, .ref m0), (1, .int x1), (3, .int (f2 f x1)), (4, .int i100_4), (5, .int i100_5)], [.int (f2 f x1), .int i100_5], M)) rfl ?_
                refine ml_if2 (S1 := (218, [(0, .ref m0), (1, .int x1), (3, .int (f2 f x1)), (4, .int i100_4), (5, .int i100_5)], [], M)) (S2 := (106, [(0, .ref m0), (1, .int x1), (3, .int (f2 f x1)), (4, .int i100_4), (5, .int i100_5)], [], M)) rfl rfl rfl (fun c_103 => ?_) (fun c_103 => ?_)
                · have c_103 : (f2 f x1) ≤ i100_5 := of_decide_eq_true c_103
                  refine ml_blk 2 (S' := (220, [(0, .ref m0), (1, .int x1), (3, .int (f2 f x1)), (4, .int i100_4), (5, .int i100_5)], [.int x1, .ref m0], M)) rfl ?_
                  refine rp_int rfl hR rfl (fun M14 I15 hR16 e17 f18 => ?_)
                  show ml _ _ _ (223, [(0, .ref m0), (1, .int x1), (3, .int (f2 f x1)), (4, .int i100_4), (5, .int i100_5)], [], M14) _
                  refine ml_blk 2 (S' := (225, [(0, .ref m0), (1, .int x1), (3, .int (f2 f x1)), (4, .int i100_4), (5, .int i100_5)], [.int (f2 f x1), .ref m0], M14)) rfl ?_
                  refine rp_int rfl hR16 rfl (fun M19 I20 hR21 e22 f23 => ?_)
                  show ml _ _ _ (228, [(0, .ref m0), (1, .int x1), (3, .int (f2 f x1)), (4, .int i100_4), (5, .int i100_5)], [], M19) _
                  refine ml_st (S' := (229, [(0, .ref m0), (1, .int x1), (3, .int (f2 f x1)), (4, .int i100_4), (5, .int i100_5)], [.int 0], M19)) rfl rfl rfl ?_
                  exact ml_ret rfl (rfl) (⟨_, _, _, rfl, hR21, ((eqI.rf.put f18 (by decide)).put f23 (by decide)), eqR.rf, Or.inr ⟨rfl, (f23 70 (by decide)).trans (e17), e22, hw⟩⟩)
                · have c_103 : ¬ ((f2 f x1) ≤ i100_5) := of_decide_eq_false c_103
                  obtain ⟨b1, hb1, hnx⟩ := itr_next hitb c_103
                  have hb2 := hb1
                  obtain ⟨g0, g1, g2, g3⟩ := hb2
                  have eq2 : (i100_4 + 2).toInt = i100_4.toInt + 2 := i_add (by have : (2 : Int32).toInt = 2 := rfl; omega) (by have : (2 : Int32).toInt = 2 := rfl; omega)
                  have hbs2 := bs_of (f := f) hn g0 g1
                  have hm0 := f2_pos (f := f) (x := i100_4 + 2)
                  have hm1 := f2_le (f := f) (x := i100_4 + 2)
                  refine ml_blk 3 (S' := (110, [(0, .ref m0), (1, .int x1), (3, .int (f2 f x1)), (4, .int i100_4), (5, .int i100_5)], [.int i100_4, .ref m0, .ref m0], M)) rfl ?_
                  refine ml_call (a := [.ref m0, .int i100_4]) (rest := [.ref m0]) rfl (hR.okc rfl rfl rfl) rfl rfl (rm_u2 hR hF (g0) (by omega) (by omega)) (fun v24 M25 h26 => ?_)
                  obtain ⟨rfl, h26⟩ := h26
                  rw [h26]
                  show ml _ _ _ (113, [(0, .ref m0), (1, .int x1), (3, .int (f2 f x1)), (4, .int i100_4), (5, .int i100_5)], [.int (f2 f i100_4), .ref m0], M) _
                  refine ml_call (a := [.ref m0, .int (f2 f i100_4)]) (rest := []) rfl (hR.okc rfl rfl rfl) rfl rfl (rm_tag hR hF hP (by omega)) (fun v27 M28 h29 => ?_)
                  obtain ⟨rfl, h29⟩ := h29
                  rw [h29]
                  show ml _ _ _ (116, [(0, .ref m0), (1, .int x1), (3, .int (f2 f x1)), (4, .int i100_4), (5, .int i100_5)], [.int (tgf f cp pa (f2 f i100_4))], M) _
                  refine ml_st (S' := (118, [(0, .ref m0), (1, .int x1), (3, .int (f2 f x1)), (4, .int i100_4), (5, .int i100_5)], [.int 15, .int (tgf f cp pa (f2 f i100_4))], M)) rfl rfl rfl ?_
                  refine ml_if2 (S1 := (124, [(0, .ref m0), (1, .int x1), (3, .int (f2 f x1)), (4, .int i100_4), (5, .int i100_5)], [], M)) (S2 := (121, [(0, .ref m0), (1, .int x1), (3, .int (f2 f x1)), (4, .int i100_4), (5, .int i100_5)], [], M)) rfl rfl rfl (fun c_118 => ?_) (fun c_118 => ?_)
                  · have c_118 : (tgf f cp pa (f2 f i100_4)) = 15 := of_decide_eq_true c_118
                    refine ml_st (S' := (125, [(0, .ref m0), (1, .int x1), (3, .int (f2 f x1)), (4, .int i100_4), (5, .int i100_5)], [.int 0], M)) rfl rfl rfl ?_
                    refine ml_st (S' := (127, [(0, .ref m0), (1, .int x1), (3, .int (f2 f x1)), (4, .int i100_4), (5, .int i100_5), (6, .int 0)], [], M)) rfl rfl rfl ?_
                    have L_127 : ∀ (n_127 : Nat) (i127_6 : Int32), (2147483648 - i127_6.toInt).toNat ≤ n_127 → 0 ≤ i127_6.toInt → ml (mT g) d (mb_185 g).2 (127, [(0, .ref m0), (1, .int x1), (3, .int (f2 f x1)), (4, .int i100_4), (5, .int i100_5), (6, .int i127_6)], [], M) (fun v M' => ∃ (x : Int32) (I' : rI) (R' : rR), v = some (.int x) ∧ RS g m0 q z I' R' M' ∧ eqI [70, 71] I I' ∧ eqR [] R R' ∧ (x ≠ 0 ∧ I' = I ∨ x = 0 ∧ I' 70 = some x1 ∧ I' 71 = some (f2 f x1) ∧ BSW f n x1 (f2 f x1))) := by
                      intro n_127
                      induction n_127 with
                      | zero => intro i127_6 hn; exact (loop_zero hn).elim
                      | succ n_127 ih_127 =>
                        intro i127_6 hn_127 hi_127
                        refine ml_blk 3 (S' := (132, [(0, .ref m0), (1, .int x1), (3, .int (f2 f x1)), (4, .int i100_4), (5, .int i100_5), (6, .int i127_6)], [.int i100_4, .ref m0, .int i127_6], M)) rfl ?_
                        refine ml_blk 2 (S' := (134, [(0, .ref m0), (1, .int x1), (3, .int (f2 f x1)), (4, .int i100_4), (5, .int i100_5), (6, .int i127_6)], [.int (i100_4 + 2), .ref m0, .int i127_6], M)) rfl ?_
                        refine ml_call (a := [.ref m0, .int (i100_4 + 2)]) (rest := [.int i127_6]) rfl (hR.okc rfl rfl rfl) rfl rfl (rm_u2 hR hF (by omega) (by omega) (by omega)) (fun v30 M31 h32 => ?_)
                        obtain ⟨rfl, h32⟩ := h32
                        rw [h32]
                        show ml _ _ _ (137, [(0, .ref m0), (1, .int x1), (3, .int (f2 f x1)), (4, .int i100_4), (5, .int i100_5), (6, .int i127_6)], [.int (f2 f (i100_4 + 2)), .int i127_6], M) _
                        refine ml_if2 (S1 := (195, [(0, .ref m0), (1, .int x1), (3, .int (f2 f x1)), (4, .int i100_4), (5, .int i100_5), (6, .int i127_6)], [], M)) (S2 := (140, [(0, .ref m0), (1, .int x1), (3, .int (f2 f x1)), (4, .int i100_4), (5, .int i100_5), (6, .int i127_6)], [], M)) rfl rfl rfl (fun c_137 => ?_) (fun c_137 => ?_)
                        · have c_137 : (f2 f (i100_4 + 2)) ≤ i127_6 := of_decide_eq_true c_137
                          refine ml_blk 3 (S' := (199, [(0, .ref m0), (1, .int x1), (3, .int (f2 f x1)), (4, .int i100_4), (5, .int i100_5), (6, .int i127_6)], [.int 2, .int 4, .int i100_4], M)) rfl ?_
                          refine ml_blk 3 (S' := (203, [(0, .ref m0), (1, .int x1), (3, .int (f2 f x1)), (4, .int i100_4), (5, .int i100_5), (6, .int i127_6)], [.int 2, .int i100_4, .ref m0, .int 2, .int 4, .int i100_4], M)) rfl ?_
                          refine ml_st (S' := (204, [(0, .ref m0), (1, .int x1), (3, .int (f2 f x1)), (4, .int i100_4), (5, .int i100_5), (6, .int i127_6)], [.int (i100_4 + 2), .ref m0, .int 2, .int 4, .int i100_4], M)) rfl rfl rfl ?_
                          refine ml_call (a := [.ref m0, .int (i100_4 + 2)]) (rest := [.int 2, .int 4, .int i100_4]) rfl (hR.okc rfl rfl rfl) rfl rfl (rm_u2 hR hF (by omega) (by omega) (by omega)) (fun v33 M34 h35 => ?_)
                          obtain ⟨rfl, h35⟩ := h35
                          rw [h35]
                          show ml _ _ _ (207, [(0, .ref m0), (1, .int x1), (3, .int (f2 f x1)), (4, .int i100_4), (5, .int i100_5), (6, .int i127_6)], [.int (f2 f (i100_4 + 2)), .int 2, .int 4, .int i100_4], M) _
                          refine ml_blk 3 (S' := (210, [(0, .ref m0), (1, .int x1), (3, .int (f2 f x1)), (4, .int i100_4), (5, .int i100_5), (6, .int i127_6)], [.int (i100_4 + (4 + (2 * (f2 f (i100_4 + 2)))))], M)) rfl ?_
                          refine ml_st (S' := (212, [(4, .int (i100_4 + (4 + (2 * (f2 f (i100_4 + 2)))))), (0, .ref m0), (1, .int x1), (3, .int (f2 f x1)), (5, .int i100_5), (6, .int i127_6)], [], M)) rfl rfl rfl ?_
                          refine ml_st (S' := (215, [(5, .int (i100_5 + 1)), (4, .int (i100_4 + (4 + (2 * (f2 f (i100_4 + 2)))))), (0, .ref m0), (1, .int x1), (3, .int (f2 f x1)), (6, .int i127_6)], [], M)) rfl rfl rfl ?_
                          refine ml_st (S' := (100, [(0, .ref m0), (1, .int x1), (3, .int (f2 f x1)), (4, .int (i100_4 + (4 + (2 * (f2 f (i100_4 + 2)))))), (5, .int (i100_5 + 1))], [], M)) rfl rfl rfl ?_
                          exact ih_100 (i100_4 + (4 + (2 * (f2 f (i100_4 + 2))))) (i100_5 + 1) (loop_inc (Int32.not_le.mp c_103) hn_100) (⟨by rw [inc_lt (Int32.not_le.mp c_103)]; omega, hb1.eq hbs2.1 ▸ hnx⟩)
                        · have c_137 : ¬ ((f2 f (i100_4 + 2)) ≤ i127_6) := of_decide_eq_false c_137
                          have hjl := i_nle c_137
                          have e4j : (i100_4 + 4 + 2 * i127_6).toInt = i100_4.toInt + 4 + 2 * i127_6.toInt := by have d4 : (i100_4 + 4).toInt = i100_4.toInt + 4 := (by rw [i_add (by have : (4 : Int32).toInt = 4 := rfl; omega) (by have : (4 : Int32).toInt = 4 := rfl; omega)]; rfl); rw [i_add (by rw [two_k hi_127 (by omega)]; omega) (by rw [two_k hi_127 (by omega)]; omega), two_k hi_127 (by omega), d4]
                          refine ml_blk 3 (S' := (144, [(0, .ref m0), (1, .int x1), (3, .int (f2 f x1)), (4, .int i100_4), (5, .int i100_5), (6, .int i127_6)], [.int i100_4, .ref m0, .ref m0], M)) rfl ?_
                          refine ml_blk 3 (S' := (147, [(0, .ref m0), (1, .int x1), (3, .int (f2 f x1)), (4, .int i100_4), (5, .int i100_5), (6, .int i127_6)], [.int 2, .int (i100_4 + 4), .ref m0, .ref m0], M)) rfl ?_
                          refine ml_blk 3 (S' := (151, [(0, .ref m0), (1, .int x1), (3, .int (f2 f x1)), (4, .int i100_4), (5, .int i100_5), (6, .int i127_6)], [.int ((i100_4 + 4) + (2 * i127_6)), .ref m0, .ref m0], M)) rfl ?_
                          refine ml_call (a := [.ref m0, .int ((i100_4 + 4) + (2 * i127_6))]) (rest := [.ref m0]) rfl (hR.okc rfl rfl rfl) rfl rfl (rm_u2 hR hF (by omega) (by omega) (by omega)) (fun v36 M37 h38 => ?_)
                          obtain ⟨rfl, h38⟩ := h38
                          rw [h38]
                          show ml _ _ _ (154, [(0, .ref m0), (1, .int x1), (3, .int (f2 f x1)), (4, .int i100_4), (5, .int i100_5), (6, .int i127_6)], [.int (f2 f ((i100_4 + 4) + (2 * i127_6))), .ref m0], M) _
                          refine ml_call (a := [.ref m0, .int (f2 f ((i100_4 + 4) + (2 * i127_6)))]) (rest := []) rfl (hR.okc rfl rfl rfl) rfl rfl (rm_tag hR hF hP (by omega)) (fun v39 M40 h41 => ?_)
                          obtain ⟨rfl, h41⟩ := h41
                          rw [h41]
                          show ml _ _ _ (157, [(0, .ref m0), (1, .int x1), (3, .int (f2 f x1)), (4, .int i100_4), (5, .int i100_5), (6, .int i127_6)], [.int (tgf f cp pa (f2 f ((i100_4 + 4) + (2 * i127_6))))], M) _
                          refine ml_st (S' := (159, [(7, .int (tgf f cp pa (f2 f ((i100_4 + 4) + (2 * i127_6))))), (0, .ref m0), (1, .int x1), (3, .int (f2 f x1)), (4, .int i100_4), (5, .int i100_5), (6, .int i127_6)], [], M)) rfl rfl rfl ?_
                          refine ml_blk 2 (S' := (162, [(7, .int (tgf f cp pa (f2 f ((i100_4 + 4) + (2 * i127_6))))), (0, .ref m0), (1, .int x1), (3, .int (f2 f x1)), (4, .int i100_4), (5, .int i100_5), (6, .int i127_6)], [.int 3, .int (tgf f cp pa (f2 f ((i100_4 + 4) + (2 * i127_6))))], M)) rfl ?_
                          refine ml_if2 (S1 := (172, [(0, .ref m0), (1, .int x1), (3, .int (f2 f x1)), (4, .int i100_4), (5, .int i100_5), (6, .int i127_6), (7, .int (tgf f cp pa (f2 f ((i100_4 + 4) + (2 * i127_6)))))], [], M)) (S2 := (165, [(7, .int (tgf f cp pa (f2 f ((i100_4 + 4) + (2 * i127_6))))), (0, .ref m0), (1, .int x1), (3, .int (f2 f x1)), (4, .int i100_4), (5, .int i100_5), (6, .int i127_6)], [], M)) rfl rfl rfl (fun c_162 => ?_) (fun c_162 => ?_)
                          · have c_162 : (tgf f cp pa (f2 f ((i100_4 + 4) + (2 * i127_6)))) < 3 := of_decide_eq_true c_162
                            refine ml_blk 2 (S' := (176, [(0, .ref m0), (1, .int x1), (3, .int (f2 f x1)), (4, .int i100_4), (5, .int i100_5), (6, .int i127_6), (7, .int (tgf f cp pa (f2 f ((i100_4 + 4) + (2 * i127_6)))))], [.int 15, .int (tgf f cp pa (f2 f ((i100_4 + 4) + (2 * i127_6))))], M)) rfl ?_
                            refine ml_if2 (S1 := (186, [], [], M)) (S2 := (179, [(0, .ref m0), (1, .int x1), (3, .int (f2 f x1)), (4, .int i100_4), (5, .int i100_5), (6, .int i127_6), (7, .int (tgf f cp pa (f2 f ((i100_4 + 4) + (2 * i127_6)))))], [], M)) rfl rfl rfl (fun c_176 => ?_) (fun c_176 => ?_)
                            · have c_176 : (tgf f cp pa (f2 f ((i100_4 + 4) + (2 * i127_6)))) < 15 := of_decide_eq_true c_176
                              refine ml_st (S' := (188, [], [.int 38], M)) rfl rfl rfl ?_
                              exact ml_ret rfl (rfl) (⟨_, _, _, rfl, hR, eqI.rf, eqR.rf, Or.inl ⟨by decide, rfl⟩⟩)
                            · have c_176 : ¬ ((tgf f cp pa (f2 f ((i100_4 + 4) + (2 * i127_6)))) < 15) := of_decide_eq_false c_176
                              refine ml_blk 2 (S' := (183, [(0, .ref m0), (1, .int x1), (3, .int (f2 f x1)), (4, .int i100_4), (5, .int i100_5), (6, .int i127_6), (7, .int (tgf f cp pa (f2 f ((i100_4 + 4) + (2 * i127_6)))))], [.int 17, .int (tgf f cp pa (f2 f ((i100_4 + 4) + (2 * i127_6))))], M)) rfl ?_
                              refine ml_if2 (S1 := (189, [(0, .ref m0), (1, .int x1), (3, .int (f2 f x1)), (4, .int i100_4), (5, .int i100_5), (6, .int i127_6)], [], M)) (S2 := (186, [], [], M)) rfl rfl rfl (fun c_183 => ?_) (fun c_183 => ?_)
                              · have c_183 : (tgf f cp pa (f2 f ((i100_4 + 4) + (2 * i127_6)))) ≤ 17 := of_decide_eq_true c_183
                                refine ml_st (S' := (192, [(6, .int (i127_6 + 1)), (0, .ref m0), (1, .int x1), (3, .int (f2 f x1)), (4, .int i100_4), (5, .int i100_5)], [], M)) rfl rfl rfl ?_
                                refine ml_st (S' := (127, [(0, .ref m0), (1, .int x1), (3, .int (f2 f x1)), (4, .int i100_4), (5, .int i100_5), (6, .int (i127_6 + 1))], [], M)) rfl rfl rfl ?_
                                exact ih_127 (i127_6 + 1) (loop_inc (Int32.not_le.mp c_137) hn_127) (by rw [inc_lt (Int32.not_le.mp c_137)]; omega)
                              · have c_183 : ¬ ((tgf f cp pa (f2 f ((i100_4 + 4) + (2 * i127_6)))) ≤ 17) := of_decide_eq_false c_183
                                refine ml_st (S' := (188, [], [.int 38], M)) rfl rfl rfl ?_
                                exact ml_ret rfl (rfl) (⟨_, _, _, rfl, hR, eqI.rf, eqR.rf, Or.inl ⟨by decide, rfl⟩⟩)
                          · have c_162 : ¬ ((tgf f cp pa (f2 f ((i100_4 + 4) + (2 * i127_6)))) < 3) := of_decide_eq_false c_162
                            refine ml_blk 2 (S' := (169, [(7, .int (tgf f cp pa (f2 f ((i100_4 + 4) + (2 * i127_6))))), (0, .ref m0), (1, .int x1), (3, .int (f2 f x1)), (4, .int i100_4), (5, .int i100_5), (6, .int i127_6)], [.int 8, .int (tgf f cp pa (f2 f ((i100_4 + 4) + (2 * i127_6))))], M)) rfl ?_
                            refine ml_if2 (S1 := (189, [(0, .ref m0), (1, .int x1), (3, .int (f2 f x1)), (4, .int i100_4), (5, .int i100_5), (6, .int i127_6)], [], M)) (S2 := (172, [(0, .ref m0), (1, .int x1), (3, .int (f2 f x1)), (4, .int i100_4), (5, .int i100_5), (6, .int i127_6), (7, .int (tgf f cp pa (f2 f ((i100_4 + 4) + (2 * i127_6)))))], [], M)) rfl rfl rfl (fun c_169 => ?_) (fun c_169 => ?_)
                            · have c_169 : (tgf f cp pa (f2 f ((i100_4 + 4) + (2 * i127_6)))) ≤ 8 := of_decide_eq_true c_169
                              refine ml_st (S' := (192, [(6, .int (i127_6 + 1)), (0, .ref m0), (1, .int x1), (3, .int (f2 f x1)), (4, .int i100_4), (5, .int i100_5)], [], M)) rfl rfl rfl ?_
                              refine ml_st (S' := (127, [(0, .ref m0), (1, .int x1), (3, .int (f2 f x1)), (4, .int i100_4), (5, .int i100_5), (6, .int (i127_6 + 1))], [], M)) rfl rfl rfl ?_
                              exact ih_127 (i127_6 + 1) (loop_inc (Int32.not_le.mp c_137) hn_127) (by rw [inc_lt (Int32.not_le.mp c_137)]; omega)
                            · have c_169 : ¬ ((tgf f cp pa (f2 f ((i100_4 + 4) + (2 * i127_6)))) ≤ 8) := of_decide_eq_false c_169
                              refine ml_blk 2 (S' := (176, [(0, .ref m0), (1, .int x1), (3, .int (f2 f x1)), (4, .int i100_4), (5, .int i100_5), (6, .int i127_6), (7, .int (tgf f cp pa (f2 f ((i100_4 + 4) + (2 * i127_6)))))], [.int 15, .int (tgf f cp pa (f2 f ((i100_4 + 4) + (2 * i127_6))))], M)) rfl ?_
                              refine ml_if2 (S1 := (186, [], [], M)) (S2 := (179, [(0, .ref m0), (1, .int x1), (3, .int (f2 f x1)), (4, .int i100_4), (5, .int i100_5), (6, .int i127_6), (7, .int (tgf f cp pa (f2 f ((i100_4 + 4) + (2 * i127_6)))))], [], M)) rfl rfl rfl (fun c_176 => ?_) (fun c_176 => ?_)
                              · have c_176 : (tgf f cp pa (f2 f ((i100_4 + 4) + (2 * i127_6)))) < 15 := of_decide_eq_true c_176
                                refine ml_st (S' := (188, [], [.int 38], M)) rfl rfl rfl ?_
                                exact ml_ret rfl (rfl) (⟨_, _, _, rfl, hR, eqI.rf, eqR.rf, Or.inl ⟨by decide, rfl⟩⟩)
                              · have c_176 : ¬ ((tgf f cp pa (f2 f ((i100_4 + 4) + (2 * i127_6)))) < 15) := of_decide_eq_false c_176
                                refine ml_blk 2 (S' := (183, [(0, .ref m0), (1, .int x1), (3, .int (f2 f x1)), (4, .int i100_4), (5, .int i100_5), (6, .int i127_6), (7, .int (tgf f cp pa (f2 f ((i100_4 + 4) + (2 * i127_6)))))], [.int 17, .int (tgf f cp pa (f2 f ((i100_4 + 4) + (2 * i127_6))))], M)) rfl ?_
                                refine ml_if2 (S1 := (189, [(0, .ref m0), (1, .int x1), (3, .int (f2 f x1)), (4, .int i100_4), (5, .int i100_5), (6, .int i127_6)], [], M)) (S2 := (186, [], [], M)) rfl rfl rfl (fun c_183 => ?_) (fun c_183 => ?_)
                                · have c_183 : (tgf f cp pa (f2 f ((i100_4 + 4) + (2 * i127_6)))) ≤ 17 := of_decide_eq_true c_183
                                  refine ml_st (S' := (192, [(6, .int (i127_6 + 1)), (0, .ref m0), (1, .int x1), (3, .int (f2 f x1)), (4, .int i100_4), (5, .int i100_5)], [], M)) rfl rfl rfl ?_
                                  refine ml_st (S' := (127, [(0, .ref m0), (1, .int x1), (3, .int (f2 f x1)), (4, .int i100_4), (5, .int i100_5), (6, .int (i127_6 + 1))], [], M)) rfl rfl rfl ?_
                                  exact ih_127 (i127_6 + 1) (loop_inc (Int32.not_le.mp c_137) hn_127) (by rw [inc_lt (Int32.not_le.mp c_137)]; omega)
                                · have c_183 : ¬ ((tgf f cp pa (f2 f ((i100_4 + 4) + (2 * i127_6)))) ≤ 17) := of_decide_eq_false c_183
                                  refine ml_st (S' := (188, [], [.int 38], M)) rfl rfl rfl ?_
                                  exact ml_ret rfl (rfl) (⟨_, _, _, rfl, hR, eqI.rf, eqR.rf, Or.inl ⟨by decide, rfl⟩⟩)
                    exact L_127 _ 0 (Nat.le_refl _) (by decide)
                  · have c_118 : ¬ ((tgf f cp pa (f2 f i100_4)) = 15) := of_decide_eq_false c_118
                    refine ml_st (S' := (123, [(0, .ref m0), (1, .int x1), (3, .int (f2 f x1)), (4, .int i100_4), (5, .int i100_5)], [.int 38], M)) rfl rfl rfl ?_
                    exact ml_ret rfl (rfl) (⟨_, _, _, rfl, hR, eqI.rf, eqR.rf, Or.inl ⟨by decide, rfl⟩⟩)
            exact L_100 _ (x1 + 2) 0 (Nat.le_refl _) (⟨by decide, by rw [show ((f2 f x1).toInt - (0 : Int32).toInt).toNat = (f2 f x1).toInt.toNat by have : (0 : Int32).toInt = 0 := rfl; omega]; exact hit2⟩)
          · have c_86 : ¬ (i24_4 = x2) := of_decide_eq_false c_86
            refine ml_st (S' := (91, [(0, .ref m0), (1, .int x1), (2, .int x2), (3, .int (f2 f x1)), (4, .int i24_4), (5, .int i24_5)], [.int 30], M)) rfl rfl rfl ?_
            exact ml_ret rfl (rfl) (⟨_, _, _, rfl, hR, eqI.rf, eqR.rf, Or.inl ⟨by decide, rfl⟩⟩)
        · have c_27 : ¬ ((f2 f x1) ≤ i24_5) := of_decide_eq_false c_27
          refine ml_blk 3 (S' := (34, [(0, .ref m0), (1, .int x1), (2, .int x2), (3, .int (f2 f x1)), (4, .int i24_4), (5, .int i24_5)], [.int (i24_4 + 4)], M)) rfl ?_
          refine ml_st (S' := (35, [(0, .ref m0), (1, .int x1), (2, .int x2), (3, .int (f2 f x1)), (4, .int i24_4), (5, .int i24_5)], [.int x2, .int (i24_4 + 4)], M)) rfl rfl rfl ?_
          refine ml_if2 (S1 := (57, [], [], M)) (S2 := (38, [(0, .ref m0), (1, .int x1), (2, .int x2), (3, .int (f2 f x1)), (4, .int i24_4), (5, .int i24_5)], [], M)) rfl rfl rfl (fun c_35 => ?_) (fun c_35 => ?_)
          · have c_35 : x2 < (i24_4 + 4) := of_decide_eq_true c_35
            refine ml_st (S' := (59, [], [.int 30], M)) rfl rfl rfl ?_
            exact ml_ret rfl (rfl) (⟨_, _, _, rfl, hR, eqI.rf, eqR.rf, Or.inl ⟨by decide, rfl⟩⟩)
          · have c_35 : ¬ (x2 < (i24_4 + 4)) := of_decide_eq_false c_35
            have hq4 := i_nlt c_35
            rw [i_add (by have : (4 : Int32).toInt = 4 := rfl; omega) (by have : (4 : Int32).toInt = 4 := rfl; omega)] at hq4
            have i4_ : (4 : Int32).toInt = 4 := rfl
            have ep2 : (i24_4 + 2).toInt = i24_4.toInt + 2 := i_add (by have : (2 : Int32).toInt = 2 := rfl; omega) (by have : (2 : Int32).toInt = 2 := rfl; omega)
            have hbs := bs_of (f := f) hn (by omega : 0 ≤ i24_4.toInt) (by omega)
            refine ml_blk 3 (S' := (42, [(0, .ref m0), (1, .int x1), (2, .int x2), (3, .int (f2 f x1)), (4, .int i24_4), (5, .int i24_5)], [.int (i24_4 + 4)], M)) rfl ?_
            refine ml_blk 3 (S' := (46, [(0, .ref m0), (1, .int x1), (2, .int x2), (3, .int (f2 f x1)), (4, .int i24_4), (5, .int i24_5)], [.int i24_4, .ref m0, .int 2, .int (i24_4 + 4)], M)) rfl ?_
            refine ml_blk 2 (S' := (48, [(0, .ref m0), (1, .int x1), (2, .int x2), (3, .int (f2 f x1)), (4, .int i24_4), (5, .int i24_5)], [.int (i24_4 + 2), .ref m0, .int 2, .int (i24_4 + 4)], M)) rfl ?_
            refine ml_call (a := [.ref m0, .int (i24_4 + 2)]) (rest := [.int 2, .int (i24_4 + 4)]) rfl (hR.okc rfl rfl rfl) rfl rfl (rm_u2 hR hF (by omega) (by omega) (by omega)) (fun v42 M43 h44 => ?_)
            obtain ⟨rfl, h44⟩ := h44
            rw [h44]
            show ml _ _ _ (51, [(0, .ref m0), (1, .int x1), (2, .int x2), (3, .int (f2 f x1)), (4, .int i24_4), (5, .int i24_5)], [.int (f2 f (i24_4 + 2)), .int 2, .int (i24_4 + 4)], M) _
            refine ml_blk 3 (S' := (54, [(0, .ref m0), (1, .int x1), (2, .int x2), (3, .int (f2 f x1)), (4, .int i24_4), (5, .int i24_5)], [.int x2, .int ((i24_4 + 4) + (2 * (f2 f (i24_4 + 2))))], M)) rfl ?_
            refine ml_if2 (S1 := (60, [(0, .ref m0), (1, .int x1), (2, .int x2), (3, .int (f2 f x1)), (4, .int i24_4), (5, .int i24_5)], [], M)) (S2 := (57, [], [], M)) rfl rfl rfl (fun c_54 => ?_) (fun c_54 => ?_)
            · have c_54 : ((i24_4 + 4) + (2 * (f2 f (i24_4 + 2)))) ≤ x2 := of_decide_eq_true c_54
              have hq5 := i_le c_54
              rw [hbs.2] at hq5
              refine ml_blk 3 (S' := (64, [(0, .ref m0), (1, .int x1), (2, .int x2), (3, .int (f2 f x1)), (4, .int i24_4), (5, .int i24_5)], [.int 2, .int 4, .int i24_4], M)) rfl ?_
              refine ml_blk 3 (S' := (68, [(0, .ref m0), (1, .int x1), (2, .int x2), (3, .int (f2 f x1)), (4, .int i24_4), (5, .int i24_5)], [.int 2, .int i24_4, .ref m0, .int 2, .int 4, .int i24_4], M)) rfl ?_
              refine ml_st (S' := (69, [(0, .ref m0), (1, .int x1), (2, .int x2), (3, .int (f2 f x1)), (4, .int i24_4), (5, .int i24_5)], [.int (i24_4 + 2), .ref m0, .int 2, .int 4, .int i24_4], M)) rfl rfl rfl ?_
              refine ml_call (a := [.ref m0, .int (i24_4 + 2)]) (rest := [.int 2, .int 4, .int i24_4]) rfl (hR.okc rfl rfl rfl) rfl rfl (rm_u2 hR hF (by omega) (by omega) (by omega)) (fun v45 M46 h47 => ?_)
              obtain ⟨rfl, h47⟩ := h47
              rw [h47]
              show ml _ _ _ (72, [(0, .ref m0), (1, .int x1), (2, .int x2), (3, .int (f2 f x1)), (4, .int i24_4), (5, .int i24_5)], [.int (f2 f (i24_4 + 2)), .int 2, .int 4, .int i24_4], M) _
              refine ml_blk 3 (S' := (75, [(0, .ref m0), (1, .int x1), (2, .int x2), (3, .int (f2 f x1)), (4, .int i24_4), (5, .int i24_5)], [.int (i24_4 + (4 + (2 * (f2 f (i24_4 + 2)))))], M)) rfl ?_
              refine ml_st (S' := (77, [(4, .int (i24_4 + (4 + (2 * (f2 f (i24_4 + 2)))))), (0, .ref m0), (1, .int x1), (2, .int x2), (3, .int (f2 f x1)), (5, .int i24_5)], [], M)) rfl rfl rfl ?_
              refine ml_st (S' := (80, [(5, .int (i24_5 + 1)), (4, .int (i24_4 + (4 + (2 * (f2 f (i24_4 + 2)))))), (0, .ref m0), (1, .int x1), (2, .int x2), (3, .int (f2 f x1))], [], M)) rfl rfl rfl ?_
              refine ml_st (S' := (24, [(0, .ref m0), (1, .int x1), (2, .int x2), (3, .int (f2 f x1)), (4, .int (i24_4 + (4 + (2 * (f2 f (i24_4 + 2)))))), (5, .int (i24_5 + 1))], [], M)) rfl rfl rfl ?_
              exact ih_24 (i24_4 + (4 + (2 * (f2 f (i24_4 + 2))))) (i24_5 + 1) (loop_inc (Int32.not_le.mp c_27) hn_24) (⟨by rw [hbs.1]; have := f2_pos (f := f) (x := i24_4 + 2); omega, by rw [hbs.1]; omega, by rw [inc_lt (Int32.not_le.mp c_27)]; omega, by rw [inc_lt (Int32.not_le.mp c_27)]; have := i_nle c_27; omega, itr_inc hk0 c_27 hit ⟨by omega, by omega, by omega, hbs.1⟩⟩)
            · have c_54 : ¬ (((i24_4 + 4) + (2 * (f2 f (i24_4 + 2)))) ≤ x2) := of_decide_eq_false c_54
              refine ml_st (S' := (59, [], [.int 30], M)) rfl rfl rfl ?_
              exact ml_ret rfl (rfl) (⟨_, _, _, rfl, hR, eqI.rf, eqR.rf, Or.inl ⟨by decide, rfl⟩⟩)
    exact L_24 _ (x1 + 2) 0 (Nat.le_refl _) (⟨by omega, by omega, by decide, by show (0 : Int) ≤ _; omega, rfl⟩)
  · have c_4 : ¬ (2 ≤ (x2 - x1)) := of_decide_eq_false c_4
    refine ml_st (S' := (9, [(0, .ref m0), (1, .int x1), (2, .int x2)], [.int 30], M)) rfl rfl rfl ?_
    exact ml_ret rfl (rfl) (⟨_, _, _, rfl, hR, eqI.rf, eqR.rf, Or.inl ⟨by decide, rfl⟩⟩)
set_option maxHeartbeats 2000000 in
theorem rm_components {g : xe_G}  {m0 : Nat} {q : Nat → Nat} {z : Nat × Nat} {I : rI} {R : rR} {M : mi_H} {x1 x2 : Int32} {n : Nat} {f : Nat → Int32} {S cN : Nat} {sa sl ch : Nat → Int32} {cp mj : Int32} {pa py : Nat → Int32}  (hR : RS g m0 q z I R M) (hF : FK n f I R) (hY : SK S cN sa sl ch I R) (hP : PK n f S cp mj pa py I R) (h0 : 0 ≤ x1.toInt) (h1 : x1.toInt ≤ x2.toInt) (h2 : x2.toInt ≤ n) {d : Nat} (hd : 5 ≤ d) : mt (mT g) d 197 [.ref m0, .int x1, .int x2] M (fun v M' => ∃ (x : Int32) (I' : rI) (R' : rR), v = some (.int x) ∧ RS g m0 q z I' R' M' ∧ eqI [47, 48, 72] I I' ∧ eqR [] R R' ∧ (x = 0 ∧ I' 72 = some (f2 f x1) ∨ x ≠ 0 ∧ I' 72 = I 72)) := by
  obtain ⟨d, rfl⟩ : ∃ e, d = e + 1 := ⟨d - 1, by omega⟩
  refine mt_in (b := mb_197 g) rfl rfl ?_
  show ml (mT g) d (mb_197 g).2 (0, [(0, .ref m0), (1, .int x1), (2, .int x2)], [], M) _
  have hn := hF.1
  refine ml_blk 3 (S' := (3, [(0, .ref m0), (1, .int x1), (2, .int x2)], [.int (x2 - x1)], M)) rfl ?_
  refine ml_st (S' := (4, [(0, .ref m0), (1, .int x1), (2, .int x2)], [.int 2, .int (x2 - x1)], M)) rfl rfl rfl ?_
  refine ml_if2 (S1 := (10, [(0, .ref m0), (1, .int x1), (2, .int x2)], [], M)) (S2 := (7, [(0, .ref m0), (1, .int x1), (2, .int x2)], [], M)) rfl rfl rfl (fun c_4 => ?_) (fun c_4 => ?_)
  · have c_4 : 2 ≤ (x2 - x1) := of_decide_eq_true c_4
    have hd2 := i_le c_4
    rw [i_sub (by omega) (by omega)] at hd2
    have i2_ : (2 : Int32).toInt = 2 := rfl
    have ex2 : (x1 + 2).toInt = x1.toInt + 2 := i_add (by have : (2 : Int32).toInt = 2 := rfl; omega) (by have : (2 : Int32).toInt = 2 := rfl; omega)
    have hc0 := f2_pos (f := f) (x := x1)
    have hc1 := f2_le (f := f) (x := x1)
    refine ml_blk 2 (S' := (12, [(0, .ref m0), (1, .int x1), (2, .int x2)], [.int x1, .ref m0], M)) rfl ?_
    refine ml_call (a := [.ref m0, .int x1]) (rest := []) rfl (hR.okc rfl rfl rfl) rfl rfl (rm_u2 hR hF (h0) (by omega) (by omega)) (fun v11 M12 h13 => ?_)
    obtain ⟨rfl, h13⟩ := h13
    rw [h13]
    show ml _ _ _ (15, [(0, .ref m0), (1, .int x1), (2, .int x2)], [.int (f2 f x1)], M) _
    refine ml_st (S' := (16, [(3, .int (f2 f x1)), (0, .ref m0), (1, .int x1), (2, .int x2)], [], M)) rfl rfl rfl ?_
    refine ml_blk 3 (S' := (19, [(3, .int (f2 f x1)), (0, .ref m0), (1, .int x1), (2, .int x2)], [.int (x1 + 2)], M)) rfl ?_
    refine ml_st (S' := (21, [(4, .int (x1 + 2)), (3, .int (f2 f x1)), (0, .ref m0), (1, .int x1), (2, .int x2)], [], M)) rfl rfl rfl ?_
    refine ml_st (S' := (22, [(4, .int (x1 + 2)), (3, .int (f2 f x1)), (0, .ref m0), (1, .int x1), (2, .int x2)], [.int 0], M)) rfl rfl rfl ?_
    refine ml_st (S' := (24, [(0, .ref m0), (1, .int x1), (2, .int x2), (3, .int (f2 f x1)), (4, .int (x1 + 2)), (5, .int 0)], [], M)) rfl rfl rfl ?_
    have L_24 : ∀ (n_24 : Nat) (i24_4 : Int32) (i24_5 : Int32), (2147483648 - i24_5.toInt).toNat ≤ n_24 → (x1.toInt + 2 ≤ i24_4.toInt ∧ i24_4.toInt ≤ x2.toInt ∧ 0 ≤ i24_5.toInt ∧ i24_5.toInt ≤ (f2 f x1).toInt ∧ itr (CM1 f n) i24_5.toInt.toNat (x1 + 2) i24_4) → ml (mT g) d (mb_197 g).2 (24, [(0, .ref m0), (1, .int x1), (2, .int x2), (3, .int (f2 f x1)), (4, .int i24_4), (5, .int i24_5)], [], M) (fun v M' => ∃ (x : Int32) (I' : rI) (R' : rR), v = some (.int x) ∧ RS g m0 q z I' R' M' ∧ eqI [47, 48, 72] I I' ∧ eqR [] R R' ∧ (x = 0 ∧ I' 72 = some (f2 f x1) ∨ x ≠ 0 ∧ I' 72 = I 72)) := by
      intro n_24
      induction n_24 with
      | zero => intro i24_4 i24_5 hn; exact (loop_zero hn).elim
      | succ n_24 ih_24 =>
        intro i24_4 i24_5 hn_24 hi_24
        obtain ⟨hp0, hp1, hk0, hk1, hit⟩ := hi_24
        refine ml_blk 2 (S' := (27, [(0, .ref m0), (1, .int x1), (2, .int x2), (3, .int (f2 f x1)), (4, .int i24_4), (5, .int i24_5)], [.int (f2 f x1), .int i24_5], M)) rfl ?_
        refine ml_if2 (S1 := (126, [(0, .ref m0), (1, .int x1), (2, .int x2), (3, .int (f2 f x1)), (4, .int i24_4), (5, .int i24_5)], [], M)) (S2 := (30, [(0, .ref m0), (1, .int x1), (2, .int x2), (3, .int (f2 f x1)), (4, .int i24_4), (5, .int i24_5)], [], M)) rfl rfl rfl (fun c_27 => ?_) (fun c_27 => ?_)
        · have c_27 : (f2 f x1) ≤ i24_5 := of_decide_eq_true c_27
          refine ml_blk 2 (S' := (129, [(0, .ref m0), (1, .int x1), (2, .int x2), (3, .int (f2 f x1)), (4, .int i24_4), (5, .int i24_5)], [.int x2, .int i24_4], M)) rfl ?_
          refine ml_if2 (S1 := (135, [(0, .ref m0), (1, .int x1), (2, .int x2), (3, .int (f2 f x1)), (4, .int i24_4), (5, .int i24_5)], [], M)) (S2 := (132, [(0, .ref m0), (1, .int x1), (2, .int x2), (3, .int (f2 f x1)), (4, .int i24_4), (5, .int i24_5)], [], M)) rfl rfl rfl (fun c_129 => ?_) (fun c_129 => ?_)
          · have c_129 : i24_4 = x2 := of_decide_eq_true c_129
            have hend : i24_4 = x2 := c_129
            have hit2 := itr_end hit hk1 c_27
            refine ml_blk 3 (S' := (138, [(0, .ref m0), (1, .int x1), (2, .int x2), (3, .int (f2 f x1)), (4, .int i24_4), (5, .int i24_5)], [.int (x1 + 2)], M)) rfl ?_
            refine ml_st (S' := (140, [(4, .int (x1 + 2)), (0, .ref m0), (1, .int x1), (2, .int x2), (3, .int (f2 f x1)), (5, .int i24_5)], [], M)) rfl rfl rfl ?_
            refine ml_st (S' := (141, [(4, .int (x1 + 2)), (0, .ref m0), (1, .int x1), (2, .int x2), (3, .int (f2 f x1)), (5, .int i24_5)], [.int 0], M)) rfl rfl rfl ?_
            refine ml_st (S' := (143, [(0, .ref m0), (3, .int (f2 f x1)), (4, .int (x1 + 2)), (5, .int 0)], [], M)) rfl rfl rfl ?_
            have L_143 : ∀ (n_143 : Nat) (i143_4 : Int32) (i143_5 : Int32), (2147483648 - i143_5.toInt).toNat ≤ n_143 → (0 ≤ i143_5.toInt ∧ itr (CM1 f n) ((f2 f x1).toInt - i143_5.toInt).toNat i143_4 i24_4) → ml (mT g) d (mb_197 g).2 (143, [(0, .ref m0), (3, .int (f2 f x1)), (4, .int i143_4), (5, .int i143_5)], [], M) (fun v M' => ∃ (x : Int32) (I' : rI) (R' : rR), v = some (.int x) ∧ RS g m0 q z I' R' M' ∧ eqI [47, 48, 72] I I' ∧ eqR [] R R' ∧ (x = 0 ∧ I' 72 = some (f2 f x1) ∨ x ≠ 0 ∧ I' 72 = I 72)) := by
              intro n_143
              induction n_143 with
              | zero => intro i143_4 i143_5 hn; exact (loop_zero hn).elim
              | succ n_143 ih_143 =>
                intro i143_4 i143_5 hn_143 hi_143
                obtain ⟨hk0b, hitb⟩ := hi_143
                refine ml_blk 2 (S' := (146, [(0, .ref m0), (3, .int (f2 f x1)), (4, .int i143_4), (5, .int i143_5)], [.int (f2 f x1), .int i143_5], M)) rfl ?_
                refine ml_if2 (S1 := (296, [(0, .ref m0), (3, .int (f2 f x1)), (4, .int i143_4), (5, .int i143_5)], [], M)) (S2 := (149, [(0, .ref m0), (3, .int (f2 f x1)), (4, .int i143_4), (5, .int i143_5)], [], M)) rfl rfl rfl (fun c_146 => ?_) (fun c_146 => ?_)
                · have c_146 : (f2 f x1) ≤ i143_5 := of_decide_eq_true c_146
                  refine ml_blk 2 (S' := (298, [(0, .ref m0), (3, .int (f2 f x1)), (4, .int i143_4), (5, .int i143_5)], [.int (f2 f x1), .ref m0], M)) rfl ?_
                  refine rp_int rfl hR rfl (fun M14 I15 hR16 e17 f18 => ?_)
                  show ml _ _ _ (301, [(0, .ref m0), (3, .int (f2 f x1)), (4, .int i143_4), (5, .int i143_5)], [], M14) _
                  refine ml_st (S' := (302, [(0, .ref m0), (3, .int (f2 f x1)), (4, .int i143_4), (5, .int i143_5)], [.int 0], M14)) rfl rfl rfl ?_
                  exact ml_ret rfl (rfl) (⟨_, _, _, rfl, hR16, (eqI.rf.put f18 (by decide)), eqR.rf, Or.inl ⟨rfl, e17⟩⟩)
                · have c_146 : ¬ ((f2 f x1) ≤ i143_5) := of_decide_eq_false c_146
                  obtain ⟨b1, hb1, hnx⟩ := itr_next hitb c_146
                  obtain ⟨g0, g1, g2⟩ := hb1
                  have i6b : (6 : Int32).toInt = 6 := rfl
                  have eq2 : (i143_4 + 2).toInt = i143_4.toInt + 2 := i_add (by have : (2 : Int32).toInt = 2 := rfl; omega) (by have : (2 : Int32).toInt = 2 := rfl; omega)
                  have eq4 : (i143_4 + 4).toInt = i143_4.toInt + 4 := i_add (by have : (4 : Int32).toInt = 4 := rfl; omega) (by have : (4 : Int32).toInt = 4 := rfl; omega)
                  have hm0 := f2_pos (f := f) (x := i143_4 + 4)
                  refine ml_blk 3 (S' := (153, [(0, .ref m0), (3, .int (f2 f x1)), (4, .int i143_4), (5, .int i143_5)], [.int i143_4, .ref m0, .ref m0], M)) rfl ?_
                  refine ml_call (a := [.ref m0, .int i143_4]) (rest := [.ref m0]) rfl (hR.okc rfl rfl rfl) rfl rfl (rm_u2 hR hF (g0) (by omega) (by omega)) (fun v19 M20 h21 => ?_)
                  obtain ⟨rfl, h21⟩ := h21
                  rw [h21]
                  show ml _ _ _ (156, [(0, .ref m0), (3, .int (f2 f x1)), (4, .int i143_4), (5, .int i143_5)], [.int (f2 f i143_4), .ref m0], M) _
                  refine ml_call (a := [.ref m0, .int (f2 f i143_4)]) (rest := []) rfl (hR.okc rfl rfl rfl) rfl rfl (rm_tag hR hF hP (by omega)) (fun v22 M23 h24 => ?_)
                  obtain ⟨rfl, h24⟩ := h24
                  rw [h24]
                  show ml _ _ _ (159, [(0, .ref m0), (3, .int (f2 f x1)), (4, .int i143_4), (5, .int i143_5)], [.int (tgf f cp pa (f2 f i143_4))], M) _
                  refine ml_st (S' := (160, [(0, .ref m0), (3, .int (f2 f x1)), (4, .int i143_4), (5, .int i143_5)], [.int 1, .int (tgf f cp pa (f2 f i143_4))], M)) rfl rfl rfl ?_
                  refine ml_if2 (S1 := (216, [], [], M)) (S2 := (163, [(0, .ref m0), (3, .int (f2 f x1)), (4, .int i143_4), (5, .int i143_5)], [], M)) rfl rfl rfl (fun c_160 => ?_) (fun c_160 => ?_)
                  · have c_160 : ¬ (tgf f cp pa (f2 f i143_4)) = 1 := of_decide_eq_true c_160
                    refine ml_st (S' := (218, [], [.int 37], M)) rfl rfl rfl ?_
                    exact ml_ret rfl (rfl) (⟨_, _, _, rfl, hR, eqI.rf, eqR.rf, Or.inr ⟨by decide, rfl⟩⟩)
                  · have c_160 : ¬ (¬ (tgf f cp pa (f2 f i143_4)) = 1) := of_decide_eq_false c_160
                    have hy1 := hP.y (show tgf f cp pa (f2 f i143_4) = 1 from Decidable.not_not.mp c_160)
                    refine ml_blk 3 (S' := (166, [(0, .ref m0), (3, .int (f2 f x1)), (4, .int i143_4), (5, .int i143_5)], [.ref m0, .ref m0, .ref m0], M)) rfl ?_
                    refine ml_st (S' := (168, [(0, .ref m0), (3, .int (f2 f x1)), (4, .int i143_4), (5, .int i143_5)], [.int i143_4, .ref m0, .ref m0, .ref m0], M)) rfl rfl rfl ?_
                    refine ml_call (a := [.ref m0, .int i143_4]) (rest := [.ref m0, .ref m0]) rfl (hR.okc rfl rfl rfl) rfl rfl (rm_u2 hR hF (g0) (by omega) (by omega)) (fun v25 M26 h27 => ?_)
                    obtain ⟨rfl, h27⟩ := h27
                    rw [h27]
                    show ml _ _ _ (171, [(0, .ref m0), (3, .int (f2 f x1)), (4, .int i143_4), (5, .int i143_5)], [.int (f2 f i143_4), .ref m0, .ref m0], M) _
                    refine ml_call (a := [.ref m0, .int (f2 f i143_4)]) (rest := [.ref m0]) rfl (hR.okc rfl rfl rfl) rfl rfl (rm_symOf hR hP (Decidable.not_not.mp c_160) (by omega)) (fun v28 M29 h30 => ?_)
                    obtain ⟨rfl, h30⟩ := h30
                    rw [h30]
                    show ml _ _ _ (174, [(0, .ref m0), (3, .int (f2 f x1)), (4, .int i143_4), (5, .int i143_5)], [.int (pyf py (f2 f i143_4)), .ref m0], M) _
                    refine ml_st (S' := (175, [(0, .ref m0), (3, .int (f2 f x1)), (4, .int i143_4), (5, .int i143_5)], [.int 1, .int (pyf py (f2 f i143_4)), .ref m0], M)) rfl rfl rfl ?_
                    refine ml_call (a := [.ref m0, .int (pyf py (f2 f i143_4)), .int 1]) (rest := []) rfl (hR.okc rfl rfl rfl) rfl rfl (rm_unqualified hR hY (hy1.2.2.1) (hy1.2.2.2) (by omega)) (fun v31 M32 h33 => ?_)
                    obtain ⟨⟨u34, rfl, z35⟩, h33⟩ := h33
                    rw [h33]
                    show ml _ _ _ (178, [(0, .ref m0), (3, .int (f2 f x1)), (4, .int i143_4), (5, .int i143_5)], [.int u34], M) _
                    refine ml_if (S1 := (216, [], [], M)) (S2 := (181, [(0, .ref m0), (3, .int (f2 f x1)), (4, .int i143_4), (5, .int i143_5)], [], M)) rfl rfl rfl (fun c_178 => ?_) (fun c_178 => ?_)
                    · have c_178 : u34 = 0 := of_decide_eq_true c_178
                      refine ml_st (S' := (218, [], [.int 37], M)) rfl rfl rfl ?_
                      exact ml_ret rfl (rfl) (⟨_, _, _, rfl, hR, eqI.rf, eqR.rf, Or.inr ⟨by decide, rfl⟩⟩)
                    · have c_178 : ¬ (u34 = 0) := of_decide_eq_false c_178
                      refine ml_blk 3 (S' := (185, [(0, .ref m0), (3, .int (f2 f x1)), (4, .int i143_4), (5, .int i143_5)], [.int i143_4, .ref m0, .ref m0], M)) rfl ?_
                      refine ml_blk 2 (S' := (187, [(0, .ref m0), (3, .int (f2 f x1)), (4, .int i143_4), (5, .int i143_5)], [.int (i143_4 + 2), .ref m0, .ref m0], M)) rfl ?_
                      refine ml_call (a := [.ref m0, .int (i143_4 + 2)]) (rest := [.ref m0]) rfl (hR.okc rfl rfl rfl) rfl rfl (rm_u2 hR hF (by omega) (by omega) (by omega)) (fun v36 M37 h38 => ?_)
                      obtain ⟨rfl, h38⟩ := h38
                      rw [h38]
                      show ml _ _ _ (190, [(0, .ref m0), (3, .int (f2 f x1)), (4, .int i143_4), (5, .int i143_5)], [.int (f2 f (i143_4 + 2)), .ref m0], M) _
                      refine ml_call (a := [.ref m0, .int (f2 f (i143_4 + 2))]) (rest := []) rfl (hR.okc rfl rfl rfl) rfl rfl (rm_tag hR hF hP (by omega)) (fun v39 M40 h41 => ?_)
                      obtain ⟨rfl, h41⟩ := h41
                      rw [h41]
                      show ml _ _ _ (193, [(0, .ref m0), (3, .int (f2 f x1)), (4, .int i143_4), (5, .int i143_5)], [.int (tgf f cp pa (f2 f (i143_4 + 2)))], M) _
                      refine ml_st (S' := (194, [(0, .ref m0), (3, .int (f2 f x1)), (4, .int i143_4), (5, .int i143_5)], [.int 1, .int (tgf f cp pa (f2 f (i143_4 + 2)))], M)) rfl rfl rfl ?_
                      refine ml_if2 (S1 := (216, [], [], M)) (S2 := (197, [(0, .ref m0), (3, .int (f2 f x1)), (4, .int i143_4), (5, .int i143_5)], [], M)) rfl rfl rfl (fun c_194 => ?_) (fun c_194 => ?_)
                      · have c_194 : ¬ (tgf f cp pa (f2 f (i143_4 + 2))) = 1 := of_decide_eq_true c_194
                        refine ml_st (S' := (218, [], [.int 37], M)) rfl rfl rfl ?_
                        exact ml_ret rfl (rfl) (⟨_, _, _, rfl, hR, eqI.rf, eqR.rf, Or.inr ⟨by decide, rfl⟩⟩)
                      · have c_194 : ¬ (¬ (tgf f cp pa (f2 f (i143_4 + 2))) = 1) := of_decide_eq_false c_194
                        have hy2 := hP.y (show tgf f cp pa (f2 f (i143_4 + 2)) = 1 from Decidable.not_not.mp c_194)
                        refine ml_blk 3 (S' := (200, [(0, .ref m0), (3, .int (f2 f x1)), (4, .int i143_4), (5, .int i143_5)], [.ref m0, .ref m0, .ref m0], M)) rfl ?_
                        refine ml_blk 3 (S' := (204, [(0, .ref m0), (3, .int (f2 f x1)), (4, .int i143_4), (5, .int i143_5)], [.int (i143_4 + 2), .ref m0, .ref m0, .ref m0], M)) rfl ?_
                        refine ml_call (a := [.ref m0, .int (i143_4 + 2)]) (rest := [.ref m0, .ref m0]) rfl (hR.okc rfl rfl rfl) rfl rfl (rm_u2 hR hF (by omega) (by omega) (by omega)) (fun v42 M43 h44 => ?_)
                        obtain ⟨rfl, h44⟩ := h44
                        rw [h44]
                        show ml _ _ _ (207, [(0, .ref m0), (3, .int (f2 f x1)), (4, .int i143_4), (5, .int i143_5)], [.int (f2 f (i143_4 + 2)), .ref m0, .ref m0], M) _
                        refine ml_call (a := [.ref m0, .int (f2 f (i143_4 + 2))]) (rest := [.ref m0]) rfl (hR.okc rfl rfl rfl) rfl rfl (rm_symOf hR hP (Decidable.not_not.mp c_194) (by omega)) (fun v45 M46 h47 => ?_)
                        obtain ⟨rfl, h47⟩ := h47
                        rw [h47]
                        show ml _ _ _ (210, [(0, .ref m0), (3, .int (f2 f x1)), (4, .int i143_4), (5, .int i143_5)], [.int (pyf py (f2 f (i143_4 + 2))), .ref m0], M) _
                        refine ml_call (a := [.ref m0, .int (pyf py (f2 f (i143_4 + 2)))]) (rest := []) rfl (hR.okc rfl rfl rfl) rfl rfl (rm_isField hR hY (hy2.2.2.1) (hy2.2.2.2) (by omega)) (fun v48 M49 h50 => ?_)
                        obtain ⟨⟨u51, rfl, z52, w53⟩, h50⟩ := h50
                        rw [h50]
                        show ml _ _ _ (213, [(0, .ref m0), (3, .int (f2 f x1)), (4, .int i143_4), (5, .int i143_5)], [.int u51], M) _
                        refine ml_if (S1 := (219, [(0, .ref m0), (3, .int (f2 f x1)), (4, .int i143_4), (5, .int i143_5)], [], M)) (S2 := (216, [], [], M)) rfl rfl rfl (fun c_213 => ?_) (fun c_213 => ?_)
                        · have c_213 : ¬ u51 = 0 := of_decide_eq_true c_213
                          refine ml_blk 3 (S' := (223, [(0, .ref m0), (3, .int (f2 f x1)), (4, .int i143_4), (5, .int i143_5)], [.int 4, .int i143_4, .ref m0], M)) rfl ?_
                          refine ml_st (S' := (224, [(0, .ref m0), (3, .int (f2 f x1)), (4, .int i143_4), (5, .int i143_5)], [.int (i143_4 + 4), .ref m0], M)) rfl rfl rfl ?_
                          refine ml_call (a := [.ref m0, .int (i143_4 + 4)]) (rest := []) rfl (hR.okc rfl rfl rfl) rfl rfl (rm_u2 hR hF (by omega) (by omega) (by omega)) (fun v54 M55 h56 => ?_)
                          obtain ⟨rfl, h56⟩ := h56
                          rw [h56]
                          show ml _ _ _ (227, [(0, .ref m0), (3, .int (f2 f x1)), (4, .int i143_4), (5, .int i143_5)], [.int (f2 f (i143_4 + 4))], M) _
                          refine ml_st (S' := (229, [(6, .int (f2 f (i143_4 + 4))), (0, .ref m0), (3, .int (f2 f x1)), (4, .int i143_4), (5, .int i143_5)], [], M)) rfl rfl rfl ?_
                          refine ml_st (S' := (232, [(4, .int (i143_4 + 6)), (6, .int (f2 f (i143_4 + 4))), (0, .ref m0), (3, .int (f2 f x1)), (5, .int i143_5)], [], M)) rfl rfl rfl ?_
                          refine ml_st (S' := (233, [(4, .int (i143_4 + 6)), (6, .int (f2 f (i143_4 + 4))), (0, .ref m0), (3, .int (f2 f x1)), (5, .int i143_5)], [.int 0], M)) rfl rfl rfl ?_
                          refine ml_st (S' := (235, [(0, .ref m0), (3, .int (f2 f x1)), (4, .int (i143_4 + 6)), (5, .int i143_5), (6, .int (f2 f (i143_4 + 4))), (7, .int 0)], [], M)) rfl rfl rfl ?_
                          have L_235 : ∀ (n_235 : Nat) (i235_4 : Int32) (i235_7 : Int32), (2147483648 - i235_7.toInt).toNat ≤ n_235 → (0 ≤ i235_7.toInt ∧ itr (RA1 f n) ((f2 f (i143_4 + 4)).toInt - i235_7.toInt).toNat i235_4 b1) → ml (mT g) d (mb_197 g).2 (235, [(0, .ref m0), (3, .int (f2 f x1)), (4, .int i235_4), (5, .int i143_5), (6, .int (f2 f (i143_4 + 4))), (7, .int i235_7)], [], M) (fun v M' => ∃ (x : Int32) (I' : rI) (R' : rR), v = some (.int x) ∧ RS g m0 q z I' R' M' ∧ eqI [47, 48, 72] I I' ∧ eqR [] R R' ∧ (x = 0 ∧ I' 72 = some (f2 f x1) ∨ x ≠ 0 ∧ I' 72 = I 72)) := by
                            intro n_235
                            induction n_235 with
                            | zero => intro i235_4 i235_7 hn; exact (loop_zero hn).elim
                            | succ n_235 ih_235 =>
                              intro i235_4 i235_7 hn_235 hi_235
                              obtain ⟨hj0b, hit6⟩ := hi_235
                              refine ml_blk 2 (S' := (239, [(0, .ref m0), (3, .int (f2 f x1)), (4, .int i235_4), (5, .int i143_5), (6, .int (f2 f (i143_4 + 4))), (7, .int i235_7)], [.int (f2 f (i143_4 + 4)), .int i235_7], M)) rfl ?_
                              refine ml_if2 (S1 := (290, [(0, .ref m0), (3, .int (f2 f x1)), (4, .int i235_4), (5, .int i143_5), (6, .int (f2 f (i143_4 + 4))), (7, .int i235_7)], [], M)) (S2 := (242, [(0, .ref m0), (3, .int (f2 f x1)), (4, .int i235_4), (5, .int i143_5), (6, .int (f2 f (i143_4 + 4))), (7, .int i235_7)], [], M)) rfl rfl rfl (fun c_239 => ?_) (fun c_239 => ?_)
                              · have c_239 : (f2 f (i143_4 + 4)) ≤ i235_7 := of_decide_eq_true c_239
                                refine ml_st (S' := (293, [(5, .int (i143_5 + 1)), (0, .ref m0), (3, .int (f2 f x1)), (4, .int i235_4), (6, .int (f2 f (i143_4 + 4))), (7, .int i235_7)], [], M)) rfl rfl rfl ?_
                                refine ml_st (S' := (143, [(0, .ref m0), (3, .int (f2 f x1)), (4, .int i235_4), (5, .int (i143_5 + 1))], [], M)) rfl rfl rfl ?_
                                exact ih_143 i235_4 (i143_5 + 1) (loop_inc (Int32.not_le.mp c_146) hn_143) (⟨by rw [inc_lt (Int32.not_le.mp c_146)]; omega, itr_one hit6 (by have := i_le c_239; omega) ▸ hnx⟩)
                              · have c_239 : ¬ ((f2 f (i143_4 + 4)) ≤ i235_7) := of_decide_eq_false c_239
                                obtain ⟨r1, hr1, hrx⟩ := itr_next hit6 c_239
                                have hr2 := hr1
                                obtain ⟨u0, u1, u2, u3⟩ := hr2
                                have es2 : (i235_4 + 2).toInt = i235_4.toInt + 2 := i_add (by have : (2 : Int32).toInt = 2 := rfl; omega) (by have : (2 : Int32).toInt = 2 := rfl; omega)
                                have hra2 := ra_of (f := f) hn u0 u2
                                refine ml_blk 3 (S' := (246, [(0, .ref m0), (3, .int (f2 f x1)), (4, .int i235_4), (5, .int i143_5), (6, .int (f2 f (i143_4 + 4))), (7, .int i235_7)], [.int i235_4, .ref m0, .ref m0], M)) rfl ?_
                                refine ml_call (a := [.ref m0, .int i235_4]) (rest := [.ref m0]) rfl (hR.okc rfl rfl rfl) rfl rfl (rm_u2 hR hF (u0) (by omega) (by omega)) (fun v57 M58 h59 => ?_)
                                obtain ⟨rfl, h59⟩ := h59
                                rw [h59]
                                show ml _ _ _ (249, [(0, .ref m0), (3, .int (f2 f x1)), (4, .int i235_4), (5, .int i143_5), (6, .int (f2 f (i143_4 + 4))), (7, .int i235_7)], [.int (f2 f i235_4), .ref m0], M) _
                                refine ml_call (a := [.ref m0, .int (f2 f i235_4)]) (rest := []) rfl (hR.okc rfl rfl rfl) rfl rfl (rm_tag hR hF hP (by omega)) (fun v60 M61 h62 => ?_)
                                obtain ⟨rfl, h62⟩ := h62
                                rw [h62]
                                show ml _ _ _ (252, [(0, .ref m0), (3, .int (f2 f x1)), (4, .int i235_4), (5, .int i143_5), (6, .int (f2 f (i143_4 + 4))), (7, .int i235_7)], [.int (tgf f cp pa (f2 f i235_4))], M) _
                                refine ml_st (S' := (253, [(0, .ref m0), (3, .int (f2 f x1)), (4, .int i235_4), (5, .int i143_5), (6, .int (f2 f (i143_4 + 4))), (7, .int i235_7)], [.int 1, .int (tgf f cp pa (f2 f i235_4))], M)) rfl rfl rfl ?_
                                refine ml_if2 (S1 := (267, [(0, .ref m0), (3, .int (f2 f x1)), (4, .int i235_4), (5, .int i143_5), (6, .int (f2 f (i143_4 + 4))), (7, .int i235_7)], [], M)) (S2 := (256, [(0, .ref m0), (3, .int (f2 f x1)), (4, .int i235_4), (5, .int i143_5), (6, .int (f2 f (i143_4 + 4))), (7, .int i235_7)], [], M)) rfl rfl rfl (fun c_253 => ?_) (fun c_253 => ?_)
                                · have c_253 : (tgf f cp pa (f2 f i235_4)) = 1 := of_decide_eq_true c_253
                                  refine ml_blk 3 (S' := (272, [(0, .ref m0), (3, .int (f2 f x1)), (4, .int i235_4), (5, .int i143_5), (6, .int (f2 f (i143_4 + 4))), (7, .int i235_7)], [.ref m0, .int 6, .int i235_4], M)) rfl ?_
                                  refine ml_blk 3 (S' := (276, [(0, .ref m0), (3, .int (f2 f x1)), (4, .int i235_4), (5, .int i143_5), (6, .int (f2 f (i143_4 + 4))), (7, .int i235_7)], [.int (i235_4 + 2), .ref m0, .int 6, .int i235_4], M)) rfl ?_
                                  refine ml_call (a := [.ref m0, .int (i235_4 + 2)]) (rest := [.int 6, .int i235_4]) rfl (hR.okc rfl rfl rfl) rfl rfl (rm_u4 hR hF (by omega) (by omega) (by omega)) (fun v63 M64 h65 => ?_)
                                  obtain ⟨rfl, h65⟩ := h65
                                  rw [h65]
                                  show ml _ _ _ (279, [(0, .ref m0), (3, .int (f2 f x1)), (4, .int i235_4), (5, .int i143_5), (6, .int (f2 f (i143_4 + 4))), (7, .int i235_7)], [.long (f4 f (i235_4 + 2)), .int 6, .int i235_4], M) _
                                  refine ml_blk 3 (S' := (282, [(0, .ref m0), (3, .int (f2 f x1)), (4, .int i235_4), (5, .int i143_5), (6, .int (f2 f (i143_4 + 4))), (7, .int i235_7)], [.int (i235_4 + (6 + (Int64.toInt32 (f4 f (i235_4 + 2)))))], M)) rfl ?_
                                  refine ml_st (S' := (284, [(4, .int (i235_4 + (6 + (Int64.toInt32 (f4 f (i235_4 + 2)))))), (0, .ref m0), (3, .int (f2 f x1)), (5, .int i143_5), (6, .int (f2 f (i143_4 + 4))), (7, .int i235_7)], [], M)) rfl rfl rfl ?_
                                  refine ml_st (S' := (287, [(7, .int (i235_7 + 1)), (4, .int (i235_4 + (6 + (Int64.toInt32 (f4 f (i235_4 + 2)))))), (0, .ref m0), (3, .int (f2 f x1)), (5, .int i143_5), (6, .int (f2 f (i143_4 + 4)))], [], M)) rfl rfl rfl ?_
                                  refine ml_st (S' := (235, [(0, .ref m0), (3, .int (f2 f x1)), (4, .int (i235_4 + (6 + (Int64.toInt32 (f4 f (i235_4 + 2)))))), (5, .int i143_5), (6, .int (f2 f (i143_4 + 4))), (7, .int (i235_7 + 1))], [], M)) rfl rfl rfl ?_
                                  exact ih_235 (i235_4 + (6 + (Int64.toInt32 (f4 f (i235_4 + 2))))) (i235_7 + 1) (loop_inc (Int32.not_le.mp c_239) hn_235) (⟨by rw [inc_lt (Int32.not_le.mp c_239)]; omega, hr1.eq hra2 ▸ hrx⟩)
                                · have c_253 : ¬ ((tgf f cp pa (f2 f i235_4)) = 1) := of_decide_eq_false c_253
                                  refine ml_blk 3 (S' := (261, [(0, .ref m0), (3, .int (f2 f x1)), (4, .int i235_4), (5, .int i143_5), (6, .int (f2 f (i143_4 + 4))), (7, .int i235_7)], [.int i235_4, .int 28, .ref m0], M)) rfl ?_
                                  refine ml_call (a := [.ref m0, .int 28, .int i235_4]) (rest := []) rfl (hR.okc rfl rfl rfl) rfl rfl (rm_wrong hR (by omega)) (fun v66 M67 h68 => ?_)
                                  obtain ⟨u74, I69, R70, rfl, hR71, hI72, hV73, z75, w76⟩ := h68
                                  show ml _ _ _ (264, [(0, .ref m0), (3, .int (f2 f x1)), (4, .int i235_4), (5, .int i143_5), (6, .int (f2 f (i143_4 + 4))), (7, .int i235_7)], [.int u74], M67) _
                                  refine ml_blk 2 (S' := (266, [(0, .ref m0), (3, .int (f2 f x1)), (4, .int i235_4), (5, .int i143_5), (6, .int (f2 f (i143_4 + 4))), (7, .int i235_7)], [.int (-1)], M67)) rfl ?_
                                  exact ml_ret rfl (rfl) (⟨_, _, _, rfl, hR71, (eqI.rf.tr hI72 (by decide)), (eqR.rf.tr hV73 (by decide)), Or.inr ⟨by decide, hI72 72 (by decide)⟩⟩)
                          exact L_235 _ (i143_4 + 6) 0 (Nat.le_refl _) (⟨by decide, by rw [show ((f2 f (i143_4 + 4)).toInt - (0 : Int32).toInt).toNat = (f2 f (i143_4 + 4)).toInt.toNat by have : (0 : Int32).toInt = 0 := rfl; omega]; exact g2⟩)
                        · have c_213 : ¬ (¬ u51 = 0) := of_decide_eq_false c_213
                          refine ml_st (S' := (218, [], [.int 37], M)) rfl rfl rfl ?_
                          exact ml_ret rfl (rfl) (⟨_, _, _, rfl, hR, eqI.rf, eqR.rf, Or.inr ⟨by decide, rfl⟩⟩)
            exact L_143 _ (x1 + 2) 0 (Nat.le_refl _) (⟨by decide, by rw [show ((f2 f x1).toInt - (0 : Int32).toInt).toNat = (f2 f x1).toInt.toNat by have : (0 : Int32).toInt = 0 := rfl; omega]; exact hit2⟩)
          · have c_129 : ¬ (i24_4 = x2) := of_decide_eq_false c_129
            refine ml_st (S' := (134, [(0, .ref m0), (1, .int x1), (2, .int x2), (3, .int (f2 f x1)), (4, .int i24_4), (5, .int i24_5)], [.int 30], M)) rfl rfl rfl ?_
            exact ml_ret rfl (rfl) (⟨_, _, _, rfl, hR, eqI.rf, eqR.rf, Or.inr ⟨by decide, rfl⟩⟩)
        · have c_27 : ¬ ((f2 f x1) ≤ i24_5) := of_decide_eq_false c_27
          refine ml_blk 3 (S' := (35, [(0, .ref m0), (1, .int x1), (2, .int x2), (3, .int (f2 f x1)), (4, .int i24_4), (5, .int i24_5)], [.int (i24_4 + 6)], M)) rfl ?_
          refine ml_st (S' := (36, [(0, .ref m0), (1, .int x1), (2, .int x2), (3, .int (f2 f x1)), (4, .int i24_4), (5, .int i24_5)], [.int x2, .int (i24_4 + 6)], M)) rfl rfl rfl ?_
          refine ml_if2 (S1 := (42, [(0, .ref m0), (1, .int x1), (2, .int x2), (3, .int (f2 f x1)), (4, .int i24_4), (5, .int i24_5)], [], M)) (S2 := (39, [(0, .ref m0), (1, .int x1), (2, .int x2), (3, .int (f2 f x1)), (4, .int i24_4), (5, .int i24_5)], [], M)) rfl rfl rfl (fun c_36 => ?_) (fun c_36 => ?_)
          · have c_36 : (i24_4 + 6) ≤ x2 := of_decide_eq_true c_36
            have hq6 := i_le c_36
            rw [i_add (by have : (6 : Int32).toInt = 6 := rfl; omega) (by have : (6 : Int32).toInt = 6 := rfl; omega)] at hq6
            have i6_ : (6 : Int32).toInt = 6 := rfl
            have ep4 : (i24_4 + 4).toInt = i24_4.toInt + 4 := i_add (by have : (4 : Int32).toInt = 4 := rfl; omega) (by have : (4 : Int32).toInt = 4 := rfl; omega)
            have ep6 : (i24_4 + 6).toInt = i24_4.toInt + 6 := i_add (by have : (6 : Int32).toInt = 6 := rfl; omega) (by have : (6 : Int32).toInt = 6 := rfl; omega)
            have hd0 := f2_pos (f := f) (x := i24_4 + 4)
            refine ml_blk 3 (S' := (46, [(0, .ref m0), (1, .int x1), (2, .int x2), (3, .int (f2 f x1)), (4, .int i24_4), (5, .int i24_5)], [.int 4, .int i24_4, .ref m0], M)) rfl ?_
            refine ml_st (S' := (47, [(0, .ref m0), (1, .int x1), (2, .int x2), (3, .int (f2 f x1)), (4, .int i24_4), (5, .int i24_5)], [.int (i24_4 + 4), .ref m0], M)) rfl rfl rfl ?_
            refine ml_call (a := [.ref m0, .int (i24_4 + 4)]) (rest := []) rfl (hR.okc rfl rfl rfl) rfl rfl (rm_u2 hR hF (by omega) (by omega) (by omega)) (fun v77 M78 h79 => ?_)
            obtain ⟨rfl, h79⟩ := h79
            rw [h79]
            show ml _ _ _ (50, [(0, .ref m0), (1, .int x1), (2, .int x2), (3, .int (f2 f x1)), (4, .int i24_4), (5, .int i24_5)], [.int (f2 f (i24_4 + 4))], M) _
            refine ml_st (S' := (52, [(6, .int (f2 f (i24_4 + 4))), (0, .ref m0), (1, .int x1), (2, .int x2), (3, .int (f2 f x1)), (4, .int i24_4), (5, .int i24_5)], [], M)) rfl rfl rfl ?_
            refine ml_st (S' := (55, [(4, .int (i24_4 + 6)), (6, .int (f2 f (i24_4 + 4))), (0, .ref m0), (1, .int x1), (2, .int x2), (3, .int (f2 f x1)), (5, .int i24_5)], [], M)) rfl rfl rfl ?_
            refine ml_st (S' := (56, [(4, .int (i24_4 + 6)), (6, .int (f2 f (i24_4 + 4))), (0, .ref m0), (1, .int x1), (2, .int x2), (3, .int (f2 f x1)), (5, .int i24_5)], [.int 0], M)) rfl rfl rfl ?_
            refine ml_st (S' := (58, [(0, .ref m0), (1, .int x1), (2, .int x2), (3, .int (f2 f x1)), (4, .int (i24_4 + 6)), (5, .int i24_5), (6, .int (f2 f (i24_4 + 4))), (7, .int 0)], [], M)) rfl rfl rfl ?_
            have L_58 : ∀ (n_58 : Nat) (i58_4 : Int32) (i58_7 : Int32), (2147483648 - i58_7.toInt).toNat ≤ n_58 → (i24_4.toInt + 6 ≤ i58_4.toInt ∧ i58_4.toInt ≤ x2.toInt ∧ 0 ≤ i58_7.toInt ∧ i58_7.toInt ≤ (f2 f (i24_4 + 4)).toInt ∧ itr (RA1 f n) i58_7.toInt.toNat (i24_4 + 6) i58_4) → ml (mT g) d (mb_197 g).2 (58, [(0, .ref m0), (1, .int x1), (2, .int x2), (3, .int (f2 f x1)), (4, .int i58_4), (5, .int i24_5), (6, .int (f2 f (i24_4 + 4))), (7, .int i58_7)], [], M) (fun v M' => ∃ (x : Int32) (I' : rI) (R' : rR), v = some (.int x) ∧ RS g m0 q z I' R' M' ∧ eqI [47, 48, 72] I I' ∧ eqR [] R R' ∧ (x = 0 ∧ I' 72 = some (f2 f x1) ∨ x ≠ 0 ∧ I' 72 = I 72)) := by
              intro n_58
              induction n_58 with
              | zero => intro i58_4 i58_7 hn; exact (loop_zero hn).elim
              | succ n_58 ih_58 =>
                intro i58_4 i58_7 hn_58 hi_58
                obtain ⟨hq0, hq1, hj0, hj1, hit5⟩ := hi_58
                refine ml_blk 2 (S' := (62, [(0, .ref m0), (1, .int x1), (2, .int x2), (3, .int (f2 f x1)), (4, .int i58_4), (5, .int i24_5), (6, .int (f2 f (i24_4 + 4))), (7, .int i58_7)], [.int (f2 f (i24_4 + 4)), .int i58_7], M)) rfl ?_
                refine ml_if2 (S1 := (120, [(0, .ref m0), (1, .int x1), (2, .int x2), (3, .int (f2 f x1)), (4, .int i58_4), (5, .int i24_5), (6, .int (f2 f (i24_4 + 4))), (7, .int i58_7)], [], M)) (S2 := (65, [(0, .ref m0), (1, .int x1), (2, .int x2), (3, .int (f2 f x1)), (4, .int i58_4), (5, .int i24_5), (6, .int (f2 f (i24_4 + 4))), (7, .int i58_7)], [], M)) rfl rfl rfl (fun c_62 => ?_) (fun c_62 => ?_)
                · have c_62 : (f2 f (i24_4 + 4)) ≤ i58_7 := of_decide_eq_true c_62
                  refine ml_st (S' := (123, [(5, .int (i24_5 + 1)), (0, .ref m0), (1, .int x1), (2, .int x2), (3, .int (f2 f x1)), (4, .int i58_4), (6, .int (f2 f (i24_4 + 4))), (7, .int i58_7)], [], M)) rfl rfl rfl ?_
                  refine ml_st (S' := (24, [(0, .ref m0), (1, .int x1), (2, .int x2), (3, .int (f2 f x1)), (4, .int i58_4), (5, .int (i24_5 + 1))], [], M)) rfl rfl rfl ?_
                  exact ih_24 i58_4 (i24_5 + 1) (loop_inc (Int32.not_le.mp c_27) hn_24) (⟨by omega, by omega, by rw [inc_lt (Int32.not_le.mp c_27)]; omega, by rw [inc_lt (Int32.not_le.mp c_27)]; have := i_nle c_27; omega, itr_inc hk0 c_27 hit ⟨by omega, by omega, itr_end hit5 hj1 c_62⟩⟩)
                · have c_62 : ¬ ((f2 f (i24_4 + 4)) ≤ i58_7) := of_decide_eq_false c_62
                  refine ml_blk 3 (S' := (70, [(0, .ref m0), (1, .int x1), (2, .int x2), (3, .int (f2 f x1)), (4, .int i58_4), (5, .int i24_5), (6, .int (f2 f (i24_4 + 4))), (7, .int i58_7)], [.int (i58_4 + 6)], M)) rfl ?_
                  refine ml_st (S' := (71, [(0, .ref m0), (1, .int x1), (2, .int x2), (3, .int (f2 f x1)), (4, .int i58_4), (5, .int i24_5), (6, .int (f2 f (i24_4 + 4))), (7, .int i58_7)], [.int x2, .int (i58_4 + 6)], M)) rfl rfl rfl ?_
                  refine ml_if2 (S1 := (94, [], [], M)) (S2 := (74, [(0, .ref m0), (1, .int x1), (2, .int x2), (3, .int (f2 f x1)), (4, .int i58_4), (5, .int i24_5), (6, .int (f2 f (i24_4 + 4))), (7, .int i58_7)], [], M)) rfl rfl rfl (fun c_71 => ?_) (fun c_71 => ?_)
                  · have c_71 : x2 < (i58_4 + 6) := of_decide_eq_true c_71
                    refine ml_st (S' := (96, [], [.int 30], M)) rfl rfl rfl ?_
                    exact ml_ret rfl (rfl) (⟨_, _, _, rfl, hR, eqI.rf, eqR.rf, Or.inr ⟨by decide, rfl⟩⟩)
                  · have c_71 : ¬ (x2 < (i58_4 + 6)) := of_decide_eq_false c_71
                    have hr6 := i_nlt c_71
                    rw [i_add (by have : (6 : Int32).toInt = 6 := rfl; omega) (by have : (6 : Int32).toInt = 6 := rfl; omega)] at hr6
                    have er2 : (i58_4 + 2).toInt = i58_4.toInt + 2 := i_add (by have : (2 : Int32).toInt = 2 := rfl; omega) (by have : (2 : Int32).toInt = 2 := rfl; omega)
                    refine ml_blk 3 (S' := (78, [(0, .ref m0), (1, .int x1), (2, .int x2), (3, .int (f2 f x1)), (4, .int i58_4), (5, .int i24_5), (6, .int (f2 f (i24_4 + 4))), (7, .int i58_7)], [.int 2, .int i58_4, .ref m0], M)) rfl ?_
                    refine ml_st (S' := (79, [(0, .ref m0), (1, .int x1), (2, .int x2), (3, .int (f2 f x1)), (4, .int i58_4), (5, .int i24_5), (6, .int (f2 f (i24_4 + 4))), (7, .int i58_7)], [.int (i58_4 + 2), .ref m0], M)) rfl rfl rfl ?_
                    refine ml_call (a := [.ref m0, .int (i58_4 + 2)]) (rest := []) rfl (hR.okc rfl rfl rfl) rfl rfl (rm_u4 hR hF (by omega) (by omega) (by omega)) (fun v80 M81 h82 => ?_)
                    obtain ⟨rfl, h82⟩ := h82
                    rw [h82]
                    show ml _ _ _ (82, [(0, .ref m0), (1, .int x1), (2, .int x2), (3, .int (f2 f x1)), (4, .int i58_4), (5, .int i24_5), (6, .int (f2 f (i24_4 + 4))), (7, .int i58_7)], [.long (f4 f (i58_4 + 2))], M) _
                    refine ml_blk 3 (S' := (86, [(0, .ref m0), (1, .int x1), (2, .int x2), (3, .int (f2 f x1)), (4, .int i58_4), (5, .int i24_5), (6, .int (f2 f (i24_4 + 4))), (7, .int i58_7)], [.int (x2 - i58_4), .long (f4 f (i58_4 + 2))], M)) rfl ?_
                    refine ml_blk 3 (S' := (90, [(0, .ref m0), (1, .int x1), (2, .int x2), (3, .int (f2 f x1)), (4, .int i58_4), (5, .int i24_5), (6, .int (f2 f (i24_4 + 4))), (7, .int i58_7)], [.long (Int32.toInt64 ((x2 - i58_4) - 6)), .long (f4 f (i58_4 + 2))], M)) rfl ?_
                    refine ml_st (S' := (91, [(0, .ref m0), (1, .int x1), (2, .int x2), (3, .int (f2 f x1)), (4, .int i58_4), (5, .int i24_5), (6, .int (f2 f (i24_4 + 4))), (7, .int i58_7)], [.int (lg_cmp (f4 f (i58_4 + 2)) (Int32.toInt64 ((x2 - i58_4) - 6)))], M)) rfl rfl rfl ?_
                    refine ml_if (S1 := (97, [(0, .ref m0), (1, .int x1), (2, .int x2), (3, .int (f2 f x1)), (4, .int i58_4), (5, .int i24_5), (6, .int (f2 f (i24_4 + 4))), (7, .int i58_7)], [], M)) (S2 := (94, [], [], M)) rfl rfl rfl (fun c_91 => ?_) (fun c_91 => ?_)
                    · have c_91 : (lg_cmp (f4 f (i58_4 + 2)) (Int32.toInt64 ((x2 - i58_4) - 6))) ≤ 0 := of_decide_eq_true c_91
                      have hr7 := lc_le c_91
                      rw [l_of, i_sub (by rw [i_sub (by omega) (by omega)]; omega) (by rw [i_sub (by omega) (by omega)]; omega), i_sub (by omega) (by omega)] at hr7
                      have hra := ra_of (f := f) hn (by omega : 0 ≤ i58_4.toInt) (by omega)
                      refine ml_blk 3 (S' := (102, [(0, .ref m0), (1, .int x1), (2, .int x2), (3, .int (f2 f x1)), (4, .int i58_4), (5, .int i24_5), (6, .int (f2 f (i24_4 + 4))), (7, .int i58_7)], [.ref m0, .int 6, .int i58_4], M)) rfl ?_
                      refine ml_blk 3 (S' := (106, [(0, .ref m0), (1, .int x1), (2, .int x2), (3, .int (f2 f x1)), (4, .int i58_4), (5, .int i24_5), (6, .int (f2 f (i24_4 + 4))), (7, .int i58_7)], [.int (i58_4 + 2), .ref m0, .int 6, .int i58_4], M)) rfl ?_
                      refine ml_call (a := [.ref m0, .int (i58_4 + 2)]) (rest := [.int 6, .int i58_4]) rfl (hR.okc rfl rfl rfl) rfl rfl (rm_u4 hR hF (by omega) (by omega) (by omega)) (fun v83 M84 h85 => ?_)
                      obtain ⟨rfl, h85⟩ := h85
                      rw [h85]
                      show ml _ _ _ (109, [(0, .ref m0), (1, .int x1), (2, .int x2), (3, .int (f2 f x1)), (4, .int i58_4), (5, .int i24_5), (6, .int (f2 f (i24_4 + 4))), (7, .int i58_7)], [.long (f4 f (i58_4 + 2)), .int 6, .int i58_4], M) _
                      refine ml_blk 3 (S' := (112, [(0, .ref m0), (1, .int x1), (2, .int x2), (3, .int (f2 f x1)), (4, .int i58_4), (5, .int i24_5), (6, .int (f2 f (i24_4 + 4))), (7, .int i58_7)], [.int (i58_4 + (6 + (Int64.toInt32 (f4 f (i58_4 + 2)))))], M)) rfl ?_
                      refine ml_st (S' := (114, [(4, .int (i58_4 + (6 + (Int64.toInt32 (f4 f (i58_4 + 2)))))), (0, .ref m0), (1, .int x1), (2, .int x2), (3, .int (f2 f x1)), (5, .int i24_5), (6, .int (f2 f (i24_4 + 4))), (7, .int i58_7)], [], M)) rfl rfl rfl ?_
                      refine ml_st (S' := (117, [(7, .int (i58_7 + 1)), (4, .int (i58_4 + (6 + (Int64.toInt32 (f4 f (i58_4 + 2)))))), (0, .ref m0), (1, .int x1), (2, .int x2), (3, .int (f2 f x1)), (5, .int i24_5), (6, .int (f2 f (i24_4 + 4)))], [], M)) rfl rfl rfl ?_
                      refine ml_st (S' := (58, [(0, .ref m0), (1, .int x1), (2, .int x2), (3, .int (f2 f x1)), (4, .int (i58_4 + (6 + (Int64.toInt32 (f4 f (i58_4 + 2)))))), (5, .int i24_5), (6, .int (f2 f (i24_4 + 4))), (7, .int (i58_7 + 1))], [], M)) rfl rfl rfl ?_
                      exact ih_58 (i58_4 + (6 + (Int64.toInt32 (f4 f (i58_4 + 2))))) (i58_7 + 1) (loop_inc (Int32.not_le.mp c_62) hn_58) (⟨by rw [hra]; have := f4_pos (f := f) (x := i58_4 + 2); omega, by rw [hra]; omega, by rw [inc_lt (Int32.not_le.mp c_62)]; omega, by rw [inc_lt (Int32.not_le.mp c_62)]; have := i_nle c_62; omega, itr_inc hj0 c_62 hit5 ⟨by omega, by omega, by omega, hra⟩⟩)
                    · have c_91 : ¬ ((lg_cmp (f4 f (i58_4 + 2)) (Int32.toInt64 ((x2 - i58_4) - 6))) ≤ 0) := of_decide_eq_false c_91
                      refine ml_st (S' := (96, [], [.int 30], M)) rfl rfl rfl ?_
                      exact ml_ret rfl (rfl) (⟨_, _, _, rfl, hR, eqI.rf, eqR.rf, Or.inr ⟨by decide, rfl⟩⟩)
            exact L_58 _ (i24_4 + 6) 0 (Nat.le_refl _) (⟨by omega, by omega, by decide, by show (0 : Int) ≤ _; omega, rfl⟩)
          · have c_36 : ¬ ((i24_4 + 6) ≤ x2) := of_decide_eq_false c_36
            refine ml_st (S' := (41, [(0, .ref m0), (1, .int x1), (2, .int x2), (3, .int (f2 f x1)), (4, .int i24_4), (5, .int i24_5)], [.int 30], M)) rfl rfl rfl ?_
            exact ml_ret rfl (rfl) (⟨_, _, _, rfl, hR, eqI.rf, eqR.rf, Or.inr ⟨by decide, rfl⟩⟩)
    exact L_24 _ (x1 + 2) 0 (Nat.le_refl _) (⟨by omega, by omega, by decide, by show (0 : Int) ≤ _; omega, rfl⟩)
  · have c_4 : ¬ (2 ≤ (x2 - x1)) := of_decide_eq_false c_4
    refine ml_st (S' := (9, [(0, .ref m0), (1, .int x1), (2, .int x2)], [.int 30], M)) rfl rfl rfl ?_
    exact ml_ret rfl (rfl) (⟨_, _, _, rfl, hR, eqI.rf, eqR.rf, Or.inr ⟨by decide, rfl⟩⟩)
end
section
/-! the reference: attributes (laid by wip/p2/c69.py) -/
set_option maxHeartbeats 2000000 in
theorem rm_attr3 {g : xe_G}  {m0 : Nat} {q : Nat → Nat} {z : Nat × Nat} {I : rI} {R : rR} {M : mi_H} {x1 x2 x3 x4 x5 x6 : Int32}  (hR : RS g m0 q z I R M) (hw : x1 = 3) {d : Nat} (hd : 1 ≤ d) : mt (mT g) d 177 [.ref m0, .int x1, .int x2, .int x3, .int x4, .int x5, .int x6] M (fun v M' => v = some (.int 0) ∧ M' = M) := by
  obtain ⟨d, rfl⟩ : ∃ e, d = e + 1 := ⟨d - 1, by omega⟩
  refine mt_in (b := mb_177 g) rfl rfl ?_
  show ml (mT g) d (mb_177 g).2 (0, [(0, .ref m0), (1, .int x1), (2, .int x2), (3, .int x3), (4, .int x4), (5, .int x5), (6, .int x6)], [], M) _
  refine ml_st (S' := (1, [(0, .ref m0), (1, .int x1), (2, .int x2), (3, .int x3), (4, .int x4), (5, .int x5), (6, .int x6)], [.int x1], M)) rfl rfl rfl ?_
  refine ml_sw rfl (fun t_1 ht_1 => ?_)
  have kt_1 := ht_1
  have ht_1 : t_1 ∈ [56, 208, 219, 398, 400, 542, 550, 600] := mi_sw_sub ht_1 (by decide)
  simp only [List.mem_cons, List.not_mem_nil, or_false] at ht_1
  rcases ht_1 with rfl | rfl | rfl | rfl | rfl | rfl | rfl | rfl
  · show ml _ _ _ (56, [(0, .ref m0), (1, .int x1), (2, .int x2), (3, .int x3), (4, .int x4), (5, .int x5), (6, .int x6)], [], M) _
    exfalso
    rw [hw] at kt_1
    exact absurd kt_1 (by decide)
  · show ml _ _ _ (208, [(0, .ref m0), (1, .int x1), (2, .int x2), (3, .int x3), (4, .int x4), (5, .int x5), (6, .int x6)], [], M) _
    exfalso
    rw [hw] at kt_1
    exact absurd kt_1 (by decide)
  · show ml _ _ _ (219, [(0, .ref m0), (1, .int x1), (2, .int x2), (3, .int x3), (4, .int x4), (5, .int x5), (6, .int x6)], [], M) _
    exfalso
    rw [hw] at kt_1
    exact absurd kt_1 (by decide)
  · show ml _ _ _ (398, [(0, .ref m0), (1, .int x1), (2, .int x2), (3, .int x3), (4, .int x4), (5, .int x5), (6, .int x6)], [], M) _
    refine ml_st (S' := (399, [(0, .ref m0), (1, .int x1), (2, .int x2), (3, .int x3), (4, .int x4), (5, .int x5), (6, .int x6)], [.int 0], M)) rfl rfl rfl ?_
    exact ml_ret rfl (rfl) (⟨rfl, rfl⟩)
  · show ml _ _ _ (400, [(0, .ref m0), (1, .int x1), (2, .int x2), (3, .int x3), (4, .int x4), (5, .int x5), (6, .int x6)], [], M) _
    exfalso
    rw [hw] at kt_1
    exact absurd kt_1 (by decide)
  · show ml _ _ _ (542, [(0, .ref m0), (1, .int x1), (2, .int x2), (3, .int x3), (4, .int x4), (5, .int x5), (6, .int x6)], [], M) _
    exfalso
    rw [hw] at kt_1
    exact absurd kt_1 (by decide)
  · show ml _ _ _ (550, [(0, .ref m0), (1, .int x1), (2, .int x2), (3, .int x3), (4, .int x4), (5, .int x5), (6, .int x6)], [], M) _
    exfalso
    rw [hw] at kt_1
    exact absurd kt_1 (by decide)
  · show ml _ _ _ (600, [(0, .ref m0), (1, .int x1), (2, .int x2), (3, .int x3), (4, .int x4), (5, .int x5), (6, .int x6)], [], M) _
    exfalso
    rw [hw] at kt_1
    exact absurd kt_1 (by decide)
set_option maxHeartbeats 2000000 in
theorem rm_checkAttributes3 {g : xe_G}  {m0 : Nat} {q : Nat → Nat} {z : Nat × Nat} {I : rI} {R : rR} {M : mi_H} {x1 x2 x3 : Int32} {n : Nat} {f : Nat → Int32} {S cN : Nat} {sa sl ch : Nat → Int32} {cp mj : Int32} {pa py : Nat → Int32} {e : Int32}  (hR : RS g m0 q z I R M) (hF : FK n f I R) (hY : SK S cN sa sl ch I R) (hP : PK n f S cp mj pa py I R) (hK : KW I R) (hw : x2 = 3) (hat : AT f n x1 e) {d : Nat} (hd : 4 ≤ d) : mt (mT g) d 187 [.ref m0, .int x1, .int x2, .int x3] M (fun v M' => ∃ (x : Int32) (I' : rI) (R' : rR), v = some (.int x) ∧ RS g m0 q z I' R' M' ∧ eqI [47, 48] I I' ∧ eqR [] R R' ∧ (x.toInt < 0 ∨ x = e)) := by
  obtain ⟨d, rfl⟩ : ∃ e, d = e + 1 := ⟨d - 1, by omega⟩
  refine mt_in (b := mb_187 g) rfl rfl ?_
  show ml (mT g) d (mb_187 g).2 (0, [(0, .ref m0), (1, .int x1), (2, .int x2), (3, .int x3)], [], M) _
  have hn := hF.1
  refine ml_blk 2 (S' := (2, [(0, .ref m0), (1, .int x1), (2, .int x2), (3, .int x3)], [.int x1, .ref m0], M)) rfl ?_
  refine ml_call (a := [.ref m0, .int x1]) (rest := []) rfl (hR.okc rfl rfl rfl) rfl rfl (rm_u2 hR hF (hat.1) (hat.2.1) (by omega)) (fun v11 M12 h13 => ?_)
  obtain ⟨rfl, h13⟩ := h13
  rw [h13]
  show ml _ _ _ (5, [(0, .ref m0), (1, .int x1), (2, .int x2), (3, .int x3)], [.int (f2 f x1)], M) _
  refine ml_st (S' := (7, [(4, .int (f2 f x1)), (0, .ref m0), (1, .int x1), (2, .int x2), (3, .int x3)], [], M)) rfl rfl rfl ?_
  refine ml_blk 3 (S' := (10, [(4, .int (f2 f x1)), (0, .ref m0), (1, .int x1), (2, .int x2), (3, .int x3)], [.int (x1 + 2)], M)) rfl ?_
  refine ml_st (S' := (12, [(5, .int (x1 + 2)), (4, .int (f2 f x1)), (0, .ref m0), (1, .int x1), (2, .int x2), (3, .int x3)], [], M)) rfl rfl rfl ?_
  refine ml_st (S' := (13, [(5, .int (x1 + 2)), (4, .int (f2 f x1)), (0, .ref m0), (1, .int x1), (2, .int x2), (3, .int x3)], [.int 0], M)) rfl rfl rfl ?_
  refine ml_st (S' := (15, [(6, .int 0), (5, .int (x1 + 2)), (4, .int (f2 f x1)), (0, .ref m0), (1, .int x1), (2, .int x2), (3, .int x3)], [], M)) rfl rfl rfl ?_
  refine ml_st (S' := (16, [(6, .int 0), (5, .int (x1 + 2)), (4, .int (f2 f x1)), (0, .ref m0), (1, .int x1), (2, .int x2), (3, .int x3)], [.int 0], M)) rfl rfl rfl ?_
  refine ml_st (S' := (18, [(0, .ref m0), (2, .int x2), (3, .int x3), (4, .int (f2 f x1)), (5, .int (x1 + 2)), (6, .int 0), (7, .int 0)], [], M)) rfl rfl rfl ?_
  have L_18 : ∀ (n_18 : Nat) (i18_5 : Int32) (i18_6 : Int32) (i18_7 : Int32) (M_18 : mi_H) (I_18 : rI) (R_18 : rR), (2147483648 - i18_7.toInt).toNat ≤ n_18 → RS g m0 q z I_18 R_18 M_18 → eqI [47, 48] I I_18 → eqR [] R R_18 → (0 ≤ i18_7.toInt ∧ i18_7.toInt ≤ (f2 f x1).toInt ∧ itr (RA1 f n) ((f2 f x1).toInt - i18_7.toInt).toNat i18_5 e) → ml (mT g) d (mb_187 g).2 (18, [(0, .ref m0), (2, .int x2), (3, .int x3), (4, .int (f2 f x1)), (5, .int i18_5), (6, .int i18_6), (7, .int i18_7)], [], M_18) (fun v M' => ∃ (x : Int32) (I' : rI) (R' : rR), v = some (.int x) ∧ RS g m0 q z I' R' M' ∧ eqI [47, 48] I I' ∧ eqR [] R R' ∧ (x.toInt < 0 ∨ x = e)) := by
    intro n_18
    induction n_18 with
    | zero => intro i18_5 i18_6 i18_7 M_18 I_18 R_18 hn; exact (loop_zero hn).elim
    | succ n_18 ih_18 =>
      intro i18_5 i18_6 i18_7 M_18 I_18 R_18 hn_18 hR_18 hI_18 hV_18 hi_18
      obtain ⟨hk0, hk1, hit⟩ := hi_18
      refine ml_blk 2 (S' := (22, [(0, .ref m0), (2, .int x2), (3, .int x3), (4, .int (f2 f x1)), (5, .int i18_5), (6, .int i18_6), (7, .int i18_7)], [.int (f2 f x1), .int i18_7], M_18)) rfl ?_
      refine ml_if2 (S1 := (284, [(0, .ref m0), (2, .int x2), (3, .int x3), (4, .int (f2 f x1)), (5, .int i18_5), (6, .int i18_6), (7, .int i18_7)], [], M_18)) (S2 := (25, [(0, .ref m0), (2, .int x2), (3, .int x3), (4, .int (f2 f x1)), (5, .int i18_5), (6, .int i18_6), (7, .int i18_7)], [], M_18)) rfl rfl rfl (fun c_22 => ?_) (fun c_22 => ?_)
      · have c_22 : (f2 f x1) ≤ i18_7 := of_decide_eq_true c_22
        refine ml_st (S' := (286, [(0, .ref m0), (2, .int x2), (3, .int x3), (4, .int (f2 f x1)), (5, .int i18_5), (6, .int i18_6), (7, .int i18_7)], [.int i18_5], M_18)) rfl rfl rfl ?_
        exact ml_ret rfl (rfl) (⟨_, _, _, rfl, hR_18, (eqI.rf.tr hI_18 (by decide)), (eqR.rf.tr hV_18 (by decide)), Or.inr (itr_one hit (by have := i_le c_22; omega)).symm⟩)
      · have c_22 : ¬ ((f2 f x1) ≤ i18_7) := of_decide_eq_false c_22
        obtain ⟨b1, hb1, hnx⟩ := itr_next hit c_22
        have hb2 := hb1
        obtain ⟨g0, g1, g2, g3⟩ := hb2
        have ep2 : (i18_5 + 2).toInt = i18_5.toInt + 2 := i_add (by have : (2 : Int32).toInt = 2 := rfl; omega) (by have : (2 : Int32).toInt = 2 := rfl; omega)
        have ep6 : (i18_5 + 6).toInt = i18_5.toInt + 6 := i_add (by have : (6 : Int32).toInt = 6 := rfl; omega) (by have : (6 : Int32).toInt = 6 := rfl; omega)
        have hra := ra_of (f := f) hn g0 g2
        have hl0 := f4_pos (f := f) (x := i18_5 + 2)
        have hle : (i18_5 + 6 + Int64.toInt32 (f4 f (i18_5 + 2))).toInt = i18_5.toInt + 6 + (f4 f (i18_5 + 2)).toInt := by have di : (Int64.toInt32 (f4 f (i18_5 + 2))).toInt = (f4 f (i18_5 + 2)).toInt := i_of (by omega) (by omega); rw [i_add (by omega) (by omega), di, ep6]
        refine ml_blk 3 (S' := (29, [(0, .ref m0), (2, .int x2), (3, .int x3), (4, .int (f2 f x1)), (5, .int i18_5), (6, .int i18_6), (7, .int i18_7)], [.int 2, .int i18_5, .ref m0], M_18)) rfl ?_
        refine ml_st (S' := (30, [(0, .ref m0), (2, .int x2), (3, .int x3), (4, .int (f2 f x1)), (5, .int i18_5), (6, .int i18_6), (7, .int i18_7)], [.int (i18_5 + 2), .ref m0], M_18)) rfl rfl rfl ?_
        have hF14 : FK n f I_18 R_18 := (hF.mono (cIx hI_18 (by decide)) (cRx hV_18 (by decide)))
        refine ml_call (a := [.ref m0, .int (i18_5 + 2)]) (rest := []) rfl (hR_18.okc rfl rfl rfl) rfl rfl (rm_u4 hR_18 hF14 (by omega) (by omega) (by omega)) (fun v15 M16 h17 => ?_)
        obtain ⟨rfl, h17⟩ := h17
        rw [h17]
        show ml _ _ _ (33, [(0, .ref m0), (2, .int x2), (3, .int x3), (4, .int (f2 f x1)), (5, .int i18_5), (6, .int i18_6), (7, .int i18_7)], [.long (f4 f (i18_5 + 2))], M_18) _
        refine ml_st (S' := (34, [(0, .ref m0), (2, .int x2), (3, .int x3), (4, .int (f2 f x1)), (5, .int i18_5), (6, .int i18_6), (7, .int i18_7)], [.int (Int64.toInt32 (f4 f (i18_5 + 2)))], M_18)) rfl rfl rfl ?_
        refine ml_st (S' := (36, [(8, .int (Int64.toInt32 (f4 f (i18_5 + 2)))), (0, .ref m0), (2, .int x2), (3, .int x3), (4, .int (f2 f x1)), (5, .int i18_5), (6, .int i18_6), (7, .int i18_7)], [], M_18)) rfl rfl rfl ?_
        refine ml_blk 3 (S' := (40, [(8, .int (Int64.toInt32 (f4 f (i18_5 + 2)))), (0, .ref m0), (2, .int x2), (3, .int x3), (4, .int (f2 f x1)), (5, .int i18_5), (6, .int i18_6), (7, .int i18_7)], [.int i18_5, .ref m0, .ref m0], M_18)) rfl ?_
        refine ml_call (a := [.ref m0, .int i18_5]) (rest := [.ref m0]) rfl (hR_18.okc rfl rfl rfl) rfl rfl (rm_u2 hR_18 hF14 (g0) (by omega) (by omega)) (fun v18 M19 h20 => ?_)
        obtain ⟨rfl, h20⟩ := h20
        rw [h20]
        show ml _ _ _ (43, [(8, .int (Int64.toInt32 (f4 f (i18_5 + 2)))), (0, .ref m0), (2, .int x2), (3, .int x3), (4, .int (f2 f x1)), (5, .int i18_5), (6, .int i18_6), (7, .int i18_7)], [.int (f2 f i18_5), .ref m0], M_18) _
        have hP21 : PK n f S cp mj pa py I_18 R_18 := (hP.mono (cIx hI_18 (by decide)) (cRx hV_18 (by decide)))
        refine ml_call (a := [.ref m0, .int (f2 f i18_5)]) (rest := []) rfl (hR_18.okc rfl rfl rfl) rfl rfl (rm_tag hR_18 hF14 hP21 (by omega)) (fun v22 M23 h24 => ?_)
        obtain ⟨rfl, h24⟩ := h24
        rw [h24]
        show ml _ _ _ (46, [(8, .int (Int64.toInt32 (f4 f (i18_5 + 2)))), (0, .ref m0), (2, .int x2), (3, .int x3), (4, .int (f2 f x1)), (5, .int i18_5), (6, .int i18_6), (7, .int i18_7)], [.int (tgf f cp pa (f2 f i18_5))], M_18) _
        refine ml_st (S' := (47, [(8, .int (Int64.toInt32 (f4 f (i18_5 + 2)))), (0, .ref m0), (2, .int x2), (3, .int x3), (4, .int (f2 f x1)), (5, .int i18_5), (6, .int i18_6), (7, .int i18_7)], [.int 1, .int (tgf f cp pa (f2 f i18_5))], M_18)) rfl rfl rfl ?_
        refine ml_if2 (S1 := (61, [(8, .int (Int64.toInt32 (f4 f (i18_5 + 2)))), (0, .ref m0), (2, .int x2), (3, .int x3), (4, .int (f2 f x1)), (5, .int i18_5), (6, .int i18_6), (7, .int i18_7)], [], M_18)) (S2 := (50, [(8, .int (Int64.toInt32 (f4 f (i18_5 + 2)))), (0, .ref m0), (2, .int x2), (3, .int x3), (4, .int (f2 f x1)), (5, .int i18_5), (6, .int i18_6), (7, .int i18_7)], [], M_18)) rfl rfl rfl (fun c_47 => ?_) (fun c_47 => ?_)
        · have c_47 : (tgf f cp pa (f2 f i18_5)) = 1 := of_decide_eq_true c_47
          refine ml_blk 3 (S' := (65, [(8, .int (Int64.toInt32 (f4 f (i18_5 + 2)))), (0, .ref m0), (2, .int x2), (3, .int x3), (4, .int (f2 f x1)), (5, .int i18_5), (6, .int i18_6), (7, .int i18_7)], [.int i18_5, .ref m0, .ref m0], M_18)) rfl ?_
          refine ml_call (a := [.ref m0, .int i18_5]) (rest := [.ref m0]) rfl (hR_18.okc rfl rfl rfl) rfl rfl (rm_u2 hR_18 hF14 (g0) (by omega) (by omega)) (fun v25 M26 h27 => ?_)
          obtain ⟨rfl, h27⟩ := h27
          rw [h27]
          show ml _ _ _ (68, [(8, .int (Int64.toInt32 (f4 f (i18_5 + 2)))), (0, .ref m0), (2, .int x2), (3, .int x3), (4, .int (f2 f x1)), (5, .int i18_5), (6, .int i18_6), (7, .int i18_7)], [.int (f2 f i18_5), .ref m0], M_18) _
          refine ml_call (a := [.ref m0, .int (f2 f i18_5)]) (rest := []) rfl (hR_18.okc rfl rfl rfl) rfl rfl (rm_symOf hR_18 hP21 (c_47) (by omega)) (fun v28 M29 h30 => ?_)
          obtain ⟨rfl, h30⟩ := h30
          rw [h30]
          show ml _ _ _ (71, [(8, .int (Int64.toInt32 (f4 f (i18_5 + 2)))), (0, .ref m0), (2, .int x2), (3, .int x3), (4, .int (f2 f x1)), (5, .int i18_5), (6, .int i18_6), (7, .int i18_7)], [.int (pyf py (f2 f i18_5))], M_18) _
          refine ml_st (S' := (73, [(9, .int (pyf py (f2 f i18_5))), (8, .int (Int64.toInt32 (f4 f (i18_5 + 2)))), (0, .ref m0), (2, .int x2), (3, .int x3), (4, .int (f2 f x1)), (5, .int i18_5), (6, .int i18_6), (7, .int i18_7)], [], M_18)) rfl rfl rfl ?_
          have hy9 := hP.y (show tgf f cp pa (f2 f i18_5) = 1 from c_47)
          refine ml_st (S' := (74, [(9, .int (pyf py (f2 f i18_5))), (8, .int (Int64.toInt32 (f4 f (i18_5 + 2)))), (0, .ref m0), (2, .int x2), (3, .int x3), (4, .int (f2 f x1)), (5, .int i18_5), (6, .int i18_6), (7, .int i18_7)], [.int (-1)], M_18)) rfl rfl rfl ?_
          refine ml_st (S' := (76, [(10, .int (-1)), (9, .int (pyf py (f2 f i18_5))), (8, .int (Int64.toInt32 (f4 f (i18_5 + 2)))), (0, .ref m0), (2, .int x2), (3, .int x3), (4, .int (f2 f x1)), (5, .int i18_5), (6, .int i18_6), (7, .int i18_7)], [], M_18)) rfl rfl rfl ?_
          refine ml_st (S' := (77, [(10, .int (-1)), (9, .int (pyf py (f2 f i18_5))), (8, .int (Int64.toInt32 (f4 f (i18_5 + 2)))), (0, .ref m0), (2, .int x2), (3, .int x3), (4, .int (f2 f x1)), (5, .int i18_5), (6, .int i18_6), (7, .int i18_7)], [.int 0], M_18)) rfl rfl rfl ?_
          refine ml_st (S' := (79, [(0, .ref m0), (2, .int x2), (3, .int x3), (4, .int (f2 f x1)), (5, .int i18_5), (6, .int i18_6), (7, .int i18_7), (8, .int (Int64.toInt32 (f4 f (i18_5 + 2)))), (9, .int (pyf py (f2 f i18_5))), (10, .int (-1)), (11, .int 0)], [], M_18)) rfl rfl rfl ?_
          have L_79 : ∀ (n_79 : Nat) (i79_10 : Int32) (i79_11 : Int32), (2147483648 - i79_11.toInt).toNat ≤ n_79 → (0 ≤ i79_11.toInt ∧ (i79_10 < 0 ∨ (0 ≤ i79_10.toInt ∧ i79_10.toInt < 10 ∧ kin i79_10 = x2))) → ml (mT g) d (mb_187 g).2 (79, [(0, .ref m0), (2, .int x2), (3, .int x3), (4, .int (f2 f x1)), (5, .int i18_5), (6, .int i18_6), (7, .int i18_7), (8, .int (Int64.toInt32 (f4 f (i18_5 + 2)))), (9, .int (pyf py (f2 f i18_5))), (10, .int i79_10), (11, .int i79_11)], [], M_18) (fun v M' => ∃ (x : Int32) (I' : rI) (R' : rR), v = some (.int x) ∧ RS g m0 q z I' R' M' ∧ eqI [47, 48] I I' ∧ eqR [] R R' ∧ (x.toInt < 0 ∨ x = e)) := by
            intro n_79
            induction n_79 with
            | zero => intro i79_10 i79_11 hn; exact (loop_zero hn).elim
            | succ n_79 ih_79 =>
              intro i79_10 i79_11 hn_79 hi_79
              obtain ⟨hj0, hjw⟩ := hi_79
              refine ml_blk 2 (S' := (82, [(0, .ref m0), (2, .int x2), (3, .int x3), (4, .int (f2 f x1)), (5, .int i18_5), (6, .int i18_6), (7, .int i18_7), (8, .int (Int64.toInt32 (f4 f (i18_5 + 2)))), (9, .int (pyf py (f2 f i18_5))), (10, .int i79_10), (11, .int i79_11)], [.ref m0, .int i79_11], M_18)) rfl ?_
              refine rg_ref (S' := (85, [(0, .ref m0), (2, .int x2), (3, .int x3), (4, .int (f2 f x1)), (5, .int i18_5), (6, .int i18_6), (7, .int i18_7), (8, .int (Int64.toInt32 (f4 f (i18_5 + 2)))), (9, .int (pyf py (f2 f i18_5))), (10, .int i79_10), (11, .int i79_11)], [.ref (q 62), .int i79_11], M_18)) rfl hR_18 rfl rfl ?_
              refine rl_kn (S' := (86, [(0, .ref m0), (2, .int x2), (3, .int x3), (4, .int (f2 f x1)), (5, .int i18_5), (6, .int i18_6), (7, .int i18_7), (8, .int (Int64.toInt32 (f4 f (i18_5 + 2)))), (9, .int (pyf py (f2 f i18_5))), (10, .int i79_10), (11, .int i79_11)], [.int (nI 10), .int i79_11], M_18)) rfl hR_18 rfl ?_
              refine ml_if2 (S1 := (140, [(0, .ref m0), (2, .int x2), (3, .int x3), (4, .int (f2 f x1)), (5, .int i18_5), (6, .int i18_6), (7, .int i18_7), (8, .int (Int64.toInt32 (f4 f (i18_5 + 2)))), (9, .int (pyf py (f2 f i18_5))), (10, .int i79_10), (11, .int i79_11)], [], M_18)) (S2 := (89, [(0, .ref m0), (2, .int x2), (3, .int x3), (4, .int (f2 f x1)), (5, .int i18_5), (6, .int i18_6), (7, .int i18_7), (8, .int (Int64.toInt32 (f4 f (i18_5 + 2)))), (9, .int (pyf py (f2 f i18_5))), (10, .int i79_10), (11, .int i79_11)], [], M_18)) rfl rfl rfl (fun c_86 => ?_) (fun c_86 => ?_)
              · have c_86 : (nI 10) ≤ i79_11 := of_decide_eq_true c_86
                refine ml_st (S' := (142, [(0, .ref m0), (2, .int x2), (3, .int x3), (4, .int (f2 f x1)), (5, .int i18_5), (6, .int i18_6), (7, .int i18_7), (8, .int (Int64.toInt32 (f4 f (i18_5 + 2)))), (9, .int (pyf py (f2 f i18_5))), (10, .int i79_10), (11, .int i79_11)], [.int i79_10], M_18)) rfl rfl rfl ?_
                refine ml_if (S1 := (268, [(0, .ref m0), (2, .int x2), (3, .int x3), (4, .int (f2 f x1)), (5, .int i18_5), (6, .int i18_6), (7, .int i18_7), (8, .int (Int64.toInt32 (f4 f (i18_5 + 2))))], [], M_18)) (S2 := (145, [(0, .ref m0), (2, .int x2), (3, .int x3), (4, .int (f2 f x1)), (5, .int i18_5), (6, .int i18_6), (7, .int i18_7), (8, .int (Int64.toInt32 (f4 f (i18_5 + 2)))), (9, .int (pyf py (f2 f i18_5))), (10, .int i79_10), (11, .int i79_11)], [], M_18)) rfl rfl rfl (fun c_142 => ?_) (fun c_142 => ?_)
                · have c_142 : i79_10 < 0 := of_decide_eq_true c_142
                  refine ml_blk 3 (S' := (274, [(0, .ref m0), (2, .int x2), (3, .int x3), (4, .int (f2 f x1)), (5, .int i18_5), (6, .int i18_6), (7, .int i18_7), (8, .int (Int64.toInt32 (f4 f (i18_5 + 2))))], [.int (Int64.toInt32 (f4 f (i18_5 + 2))), .int 6, .int i18_5], M_18)) rfl ?_
                  refine ml_blk 2 (S' := (276, [(0, .ref m0), (2, .int x2), (3, .int x3), (4, .int (f2 f x1)), (5, .int i18_5), (6, .int i18_6), (7, .int i18_7), (8, .int (Int64.toInt32 (f4 f (i18_5 + 2))))], [.int (i18_5 + (6 + (Int64.toInt32 (f4 f (i18_5 + 2)))))], M_18)) rfl ?_
                  refine ml_st (S' := (278, [(5, .int (i18_5 + (6 + (Int64.toInt32 (f4 f (i18_5 + 2)))))), (0, .ref m0), (2, .int x2), (3, .int x3), (4, .int (f2 f x1)), (6, .int i18_6), (7, .int i18_7), (8, .int (Int64.toInt32 (f4 f (i18_5 + 2))))], [], M_18)) rfl rfl rfl ?_
                  refine ml_st (S' := (281, [(7, .int (i18_7 + 1)), (5, .int (i18_5 + (6 + (Int64.toInt32 (f4 f (i18_5 + 2)))))), (0, .ref m0), (2, .int x2), (3, .int x3), (4, .int (f2 f x1)), (6, .int i18_6), (8, .int (Int64.toInt32 (f4 f (i18_5 + 2))))], [], M_18)) rfl rfl rfl ?_
                  refine ml_st (S' := (18, [(0, .ref m0), (2, .int x2), (3, .int x3), (4, .int (f2 f x1)), (5, .int (i18_5 + (6 + (Int64.toInt32 (f4 f (i18_5 + 2)))))), (6, .int i18_6), (7, .int (i18_7 + 1))], [], M_18)) rfl rfl rfl ?_
                  exact ih_18 (i18_5 + (6 + (Int64.toInt32 (f4 f (i18_5 + 2))))) i18_6 (i18_7 + 1) _ _ _ (loop_inc (Int32.not_le.mp c_22) hn_18) hR_18 (eqI.rf.tr hI_18 (by decide)) (eqR.rf.tr hV_18 (by decide)) (⟨by rw [inc_lt (Int32.not_le.mp c_22)]; omega, by rw [inc_lt (Int32.not_le.mp c_22)]; have := i_nle c_22; omega, hb1.eq hra ▸ hnx⟩)
                · have c_142 : ¬ (i79_10 < 0) := of_decide_eq_false c_142
                  have hwn := hjw.resolve_left c_142
                  refine ml_blk 2 (S' := (147, [(0, .ref m0), (2, .int x2), (3, .int x3), (4, .int (f2 f x1)), (5, .int i18_5), (6, .int i18_6), (7, .int i18_7), (8, .int (Int64.toInt32 (f4 f (i18_5 + 2)))), (9, .int (pyf py (f2 f i18_5))), (10, .int i79_10), (11, .int i79_11)], [.int 1, .int x2], M_18)) rfl ?_
                  refine ml_if2 (S1 := (160, [(0, .ref m0), (2, .int x2), (3, .int x3), (4, .int (f2 f x1)), (5, .int i18_5), (6, .int i18_6), (7, .int i18_7), (8, .int (Int64.toInt32 (f4 f (i18_5 + 2)))), (10, .int i79_10)], [], M_18)) (S2 := (150, [(0, .ref m0), (2, .int x2), (3, .int x3), (4, .int (f2 f x1)), (5, .int i18_5), (6, .int i18_6), (7, .int i18_7), (8, .int (Int64.toInt32 (f4 f (i18_5 + 2)))), (9, .int (pyf py (f2 f i18_5))), (10, .int i79_10), (11, .int i79_11)], [], M_18)) rfl rfl rfl (fun c_147 => ?_) (fun c_147 => ?_)
                  rotate_left
                  · exact absurd ((by rw [hw]; decide : ¬ x2 = 1)) (of_decide_eq_false c_147)
                  refine ml_blk 2 (S' := (162, [(0, .ref m0), (2, .int x2), (3, .int x3), (4, .int (f2 f x1)), (5, .int i18_5), (6, .int i18_6), (7, .int i18_7), (8, .int (Int64.toInt32 (f4 f (i18_5 + 2)))), (10, .int i79_10)], [.int 2, .int x2], M_18)) rfl ?_
                  refine ml_if2 (S1 := (175, [(0, .ref m0), (2, .int x2), (3, .int x3), (4, .int (f2 f x1)), (5, .int i18_5), (6, .int i18_6), (7, .int i18_7), (8, .int (Int64.toInt32 (f4 f (i18_5 + 2)))), (10, .int i79_10)], [], M_18)) (S2 := (165, [(0, .ref m0), (2, .int x2), (3, .int x3), (4, .int (f2 f x1)), (5, .int i18_5), (6, .int i18_6), (7, .int i18_7), (8, .int (Int64.toInt32 (f4 f (i18_5 + 2)))), (10, .int i79_10)], [], M_18)) rfl rfl rfl (fun c_162 => ?_) (fun c_162 => ?_)
                  rotate_left
                  · exact absurd ((by rw [hw]; decide : ¬ x2 = 2)) (of_decide_eq_false c_162)
                  refine ml_blk 2 (S' := (177, [(0, .ref m0), (2, .int x2), (3, .int x3), (4, .int (f2 f x1)), (5, .int i18_5), (6, .int i18_6), (7, .int i18_7), (8, .int (Int64.toInt32 (f4 f (i18_5 + 2)))), (10, .int i79_10)], [.int 4, .int x2], M_18)) rfl ?_
                  refine ml_if2 (S1 := (190, [(0, .ref m0), (2, .int x2), (3, .int x3), (4, .int (f2 f x1)), (5, .int i18_5), (6, .int i18_6), (7, .int i18_7), (8, .int (Int64.toInt32 (f4 f (i18_5 + 2)))), (10, .int i79_10)], [], M_18)) (S2 := (180, [(0, .ref m0), (2, .int x2), (3, .int x3), (4, .int (f2 f x1)), (5, .int i18_5), (6, .int i18_6), (7, .int i18_7), (8, .int (Int64.toInt32 (f4 f (i18_5 + 2)))), (10, .int i79_10)], [], M_18)) rfl rfl rfl (fun c_177 => ?_) (fun c_177 => ?_)
                  rotate_left
                  · exact absurd ((by rw [hw]; decide : ¬ x2 = 4)) (of_decide_eq_false c_177)
                  refine ml_blk 3 (S' := (195, [(0, .ref m0), (2, .int x2), (3, .int x3), (4, .int (f2 f x1)), (5, .int i18_5), (6, .int i18_6), (7, .int i18_7), (8, .int (Int64.toInt32 (f4 f (i18_5 + 2)))), (10, .int i79_10)], [.int (i18_6 >>> (i79_10 &&& 31))], M_18)) rfl ?_
                  refine ml_blk 3 (S' := (198, [(0, .ref m0), (2, .int x2), (3, .int x3), (4, .int (f2 f x1)), (5, .int i18_5), (6, .int i18_6), (7, .int i18_7), (8, .int (Int64.toInt32 (f4 f (i18_5 + 2)))), (10, .int i79_10)], [.int 1, .int ((i18_6 >>> (i79_10 &&& 31)) &&& 1)], M_18)) rfl ?_
                  refine ml_if2 (S1 := (212, [(0, .ref m0), (2, .int x2), (3, .int x3), (4, .int (f2 f x1)), (5, .int i18_5), (6, .int i18_6), (7, .int i18_7), (8, .int (Int64.toInt32 (f4 f (i18_5 + 2)))), (10, .int i79_10)], [], M_18)) (S2 := (201, [(0, .ref m0), (2, .int x2), (3, .int x3), (4, .int (f2 f x1)), (5, .int i18_5), (6, .int i18_6), (7, .int i18_7), (8, .int (Int64.toInt32 (f4 f (i18_5 + 2)))), (10, .int i79_10)], [], M_18)) rfl rfl rfl (fun c_198 => ?_) (fun c_198 => ?_)
                  · have c_198 : ¬ ((i18_6 >>> (i79_10 &&& 31)) &&& 1) = 1 := of_decide_eq_true c_198
                    refine ml_blk 3 (S' := (217, [(0, .ref m0), (2, .int x2), (3, .int x3), (4, .int (f2 f x1)), (5, .int i18_5), (6, .int i18_6), (7, .int i18_7), (8, .int (Int64.toInt32 (f4 f (i18_5 + 2)))), (10, .int i79_10)], [.int i18_5, .int i79_10, .ref m0], M_18)) rfl ?_
                    refine ml_blk 3 (S' := (222, [(0, .ref m0), (2, .int x2), (3, .int x3), (4, .int (f2 f x1)), (5, .int i18_5), (6, .int i18_6), (7, .int i18_7), (8, .int (Int64.toInt32 (f4 f (i18_5 + 2)))), (10, .int i79_10)], [.int (i18_5 + 6), .int i18_5, .int i79_10, .ref m0], M_18)) rfl ?_
                    refine ml_blk 3 (S' := (227, [(0, .ref m0), (2, .int x2), (3, .int x3), (4, .int (f2 f x1)), (5, .int i18_5), (6, .int i18_6), (7, .int i18_7), (8, .int (Int64.toInt32 (f4 f (i18_5 + 2)))), (10, .int i79_10)], [.int (i18_5 + 6), .int (i18_5 + 6), .int i18_5, .int i79_10, .ref m0], M_18)) rfl ?_
                    refine ml_blk 3 (S' := (231, [(0, .ref m0), (2, .int x2), (3, .int x3), (4, .int (f2 f x1)), (5, .int i18_5), (6, .int i18_6), (7, .int i18_7), (8, .int (Int64.toInt32 (f4 f (i18_5 + 2)))), (10, .int i79_10)], [.int x3, .int ((i18_5 + 6) + (Int64.toInt32 (f4 f (i18_5 + 2)))), .int (i18_5 + 6), .int i18_5, .int i79_10, .ref m0], M_18)) rfl ?_
                    refine ml_st (S' := (233, [(0, .ref m0), (2, .int x2), (3, .int x3), (4, .int (f2 f x1)), (5, .int i18_5), (6, .int i18_6), (7, .int i18_7), (8, .int (Int64.toInt32 (f4 f (i18_5 + 2)))), (10, .int i79_10)], [.int i18_6, .int x3, .int ((i18_5 + 6) + (Int64.toInt32 (f4 f (i18_5 + 2)))), .int (i18_5 + 6), .int i18_5, .int i79_10, .ref m0], M_18)) rfl rfl rfl ?_
                    refine ml_call (a := [.ref m0, .int i79_10, .int i18_5, .int (i18_5 + 6), .int ((i18_5 + 6) + (Int64.toInt32 (f4 f (i18_5 + 2)))), .int x3, .int i18_6]) (rest := []) rfl (hR_18.okc rfl rfl rfl) rfl rfl (rm_attr3 hR_18 (kin_3 (hwn.2.2.trans hw)) (by omega)) (fun v31 M32 h33 => ?_)
                    obtain ⟨rfl, h33⟩ := h33
                    rw [h33]
                    show ml _ _ _ (236, [(0, .ref m0), (2, .int x2), (3, .int x3), (4, .int (f2 f x1)), (5, .int i18_5), (6, .int i18_6), (7, .int i18_7), (8, .int (Int64.toInt32 (f4 f (i18_5 + 2)))), (10, .int i79_10)], [.int 0], M_18) _
                    refine ml_st (S' := (238, [(11, .int 0), (0, .ref m0), (2, .int x2), (3, .int x3), (4, .int (f2 f x1)), (5, .int i18_5), (6, .int i18_6), (7, .int i18_7), (8, .int (Int64.toInt32 (f4 f (i18_5 + 2)))), (10, .int i79_10)], [], M_18)) rfl rfl rfl ?_
                    refine ml_blk 3 (S' := (243, [(11, .int 0), (0, .ref m0), (2, .int x2), (3, .int x3), (4, .int (f2 f x1)), (5, .int i18_5), (6, .int i18_6), (7, .int i18_7), (8, .int (Int64.toInt32 (f4 f (i18_5 + 2)))), (10, .int i79_10)], [.int i79_10, .int 1, .int i18_6], M_18)) rfl ?_
                    refine ml_blk 2 (S' := (245, [(11, .int 0), (0, .ref m0), (2, .int x2), (3, .int x3), (4, .int (f2 f x1)), (5, .int i18_5), (6, .int i18_6), (7, .int i18_7), (8, .int (Int64.toInt32 (f4 f (i18_5 + 2)))), (10, .int i79_10)], [.int (i18_6 ||| (1 <<< (i79_10 &&& 31)))], M_18)) rfl ?_
                    refine ml_st (S' := (247, [(6, .int (i18_6 ||| (1 <<< (i79_10 &&& 31)))), (11, .int 0), (0, .ref m0), (2, .int x2), (3, .int x3), (4, .int (f2 f x1)), (5, .int i18_5), (7, .int i18_7), (8, .int (Int64.toInt32 (f4 f (i18_5 + 2)))), (10, .int i79_10)], [], M_18)) rfl rfl rfl ?_
                    refine ml_st (S' := (249, [(6, .int (i18_6 ||| (1 <<< (i79_10 &&& 31)))), (11, .int 0), (0, .ref m0), (2, .int x2), (3, .int x3), (4, .int (f2 f x1)), (5, .int i18_5), (7, .int i18_7), (8, .int (Int64.toInt32 (f4 f (i18_5 + 2)))), (10, .int i79_10)], [.int 0], M_18)) rfl rfl rfl ?_
                    refine ml_if (S1 := (261, [(0, .ref m0), (2, .int x2), (3, .int x3), (4, .int (f2 f x1)), (5, .int i18_5), (6, .int (i18_6 ||| (1 <<< (i79_10 &&& 31)))), (7, .int i18_7), (8, .int (Int64.toInt32 (f4 f (i18_5 + 2)))), (11, .int 0)], [], M_18)) (S2 := (252, [(6, .int (i18_6 ||| (1 <<< (i79_10 &&& 31)))), (11, .int 0), (0, .ref m0), (2, .int x2), (3, .int x3), (4, .int (f2 f x1)), (5, .int i18_5), (7, .int i18_7), (8, .int (Int64.toInt32 (f4 f (i18_5 + 2)))), (10, .int i79_10)], [], M_18)) rfl rfl rfl (fun c_249 => ?_) (fun c_249 => ?_)
                    · have c_249 : 0 ≤ 0 := of_decide_eq_true c_249
                      refine ml_st (S' := (263, [(0, .ref m0), (2, .int x2), (3, .int x3), (4, .int (f2 f x1)), (5, .int i18_5), (6, .int (i18_6 ||| (1 <<< (i79_10 &&& 31)))), (7, .int i18_7), (8, .int (Int64.toInt32 (f4 f (i18_5 + 2)))), (11, .int 0)], [.int 0], M_18)) rfl rfl rfl ?_
                      refine ml_if (S1 := (268, [(0, .ref m0), (2, .int x2), (3, .int x3), (4, .int (f2 f x1)), (5, .int i18_5), (6, .int (i18_6 ||| (1 <<< (i79_10 &&& 31)))), (7, .int i18_7), (8, .int (Int64.toInt32 (f4 f (i18_5 + 2))))], [], M_18)) (S2 := (266, [(0, .ref m0), (2, .int x2), (3, .int x3), (4, .int (f2 f x1)), (5, .int i18_5), (6, .int (i18_6 ||| (1 <<< (i79_10 &&& 31)))), (7, .int i18_7), (8, .int (Int64.toInt32 (f4 f (i18_5 + 2)))), (11, .int 0)], [], M_18)) rfl rfl rfl (fun c_263 => ?_) (fun c_263 => ?_)
                      · have c_263 : 0 = 0 := of_decide_eq_true c_263
                        refine ml_blk 3 (S' := (274, [(0, .ref m0), (2, .int x2), (3, .int x3), (4, .int (f2 f x1)), (5, .int i18_5), (6, .int (i18_6 ||| (1 <<< (i79_10 &&& 31)))), (7, .int i18_7), (8, .int (Int64.toInt32 (f4 f (i18_5 + 2))))], [.int (Int64.toInt32 (f4 f (i18_5 + 2))), .int 6, .int i18_5], M_18)) rfl ?_
                        refine ml_blk 2 (S' := (276, [(0, .ref m0), (2, .int x2), (3, .int x3), (4, .int (f2 f x1)), (5, .int i18_5), (6, .int (i18_6 ||| (1 <<< (i79_10 &&& 31)))), (7, .int i18_7), (8, .int (Int64.toInt32 (f4 f (i18_5 + 2))))], [.int (i18_5 + (6 + (Int64.toInt32 (f4 f (i18_5 + 2)))))], M_18)) rfl ?_
                        refine ml_st (S' := (278, [(5, .int (i18_5 + (6 + (Int64.toInt32 (f4 f (i18_5 + 2)))))), (0, .ref m0), (2, .int x2), (3, .int x3), (4, .int (f2 f x1)), (6, .int (i18_6 ||| (1 <<< (i79_10 &&& 31)))), (7, .int i18_7), (8, .int (Int64.toInt32 (f4 f (i18_5 + 2))))], [], M_18)) rfl rfl rfl ?_
                        refine ml_st (S' := (281, [(7, .int (i18_7 + 1)), (5, .int (i18_5 + (6 + (Int64.toInt32 (f4 f (i18_5 + 2)))))), (0, .ref m0), (2, .int x2), (3, .int x3), (4, .int (f2 f x1)), (6, .int (i18_6 ||| (1 <<< (i79_10 &&& 31)))), (8, .int (Int64.toInt32 (f4 f (i18_5 + 2))))], [], M_18)) rfl rfl rfl ?_
                        refine ml_st (S' := (18, [(0, .ref m0), (2, .int x2), (3, .int x3), (4, .int (f2 f x1)), (5, .int (i18_5 + (6 + (Int64.toInt32 (f4 f (i18_5 + 2)))))), (6, .int (i18_6 ||| (1 <<< (i79_10 &&& 31)))), (7, .int (i18_7 + 1))], [], M_18)) rfl rfl rfl ?_
                        exact ih_18 (i18_5 + (6 + (Int64.toInt32 (f4 f (i18_5 + 2))))) (i18_6 ||| (1 <<< (i79_10 &&& 31))) (i18_7 + 1) _ _ _ (loop_inc (Int32.not_le.mp c_22) hn_18) hR_18 (eqI.rf.tr hI_18 (by decide)) (eqR.rf.tr hV_18 (by decide)) (⟨by rw [inc_lt (Int32.not_le.mp c_22)]; omega, by rw [inc_lt (Int32.not_le.mp c_22)]; have := i_nle c_22; omega, hb1.eq hra ▸ hnx⟩)
                      · have c_263 : ¬ (0 = 0) := of_decide_eq_false c_263
                        refine ml_st (S' := (267, [(0, .ref m0), (2, .int x2), (3, .int x3), (4, .int (f2 f x1)), (5, .int i18_5), (6, .int (i18_6 ||| (1 <<< (i79_10 &&& 31)))), (7, .int i18_7), (8, .int (Int64.toInt32 (f4 f (i18_5 + 2)))), (11, .int 0)], [.int (-1)], M_18)) rfl rfl rfl ?_
                        exact ml_ret rfl (rfl) (⟨_, _, _, rfl, hR_18, (eqI.rf.tr hI_18 (by decide)), (eqR.rf.tr hV_18 (by decide)), Or.inl (by decide)⟩)
                    · have c_249 : ¬ (0 ≤ 0) := of_decide_eq_false c_249
                      refine ml_blk 3 (S' := (257, [(6, .int (i18_6 ||| (1 <<< (i79_10 &&& 31)))), (11, .int 0), (0, .ref m0), (2, .int x2), (3, .int x3), (4, .int (f2 f x1)), (5, .int i18_5), (7, .int i18_7), (8, .int (Int64.toInt32 (f4 f (i18_5 + 2)))), (10, .int i79_10)], [.int i18_5, .int 0, .ref m0], M_18)) rfl ?_
                      refine ml_call (a := [.ref m0, .int 0, .int i18_5]) (rest := []) rfl (hR_18.okc rfl rfl rfl) rfl rfl (rm_wrong hR_18 (by omega)) (fun v34 M35 h36 => ?_)
                      obtain ⟨u42, I37, R38, rfl, hR39, hI40, hV41, z43, w44⟩ := h36
                      show ml _ _ _ (260, [(6, .int (i18_6 ||| (1 <<< (i79_10 &&& 31)))), (11, .int 0), (0, .ref m0), (2, .int x2), (3, .int x3), (4, .int (f2 f x1)), (5, .int i18_5), (7, .int i18_7), (8, .int (Int64.toInt32 (f4 f (i18_5 + 2)))), (10, .int i79_10)], [.int u42], M35) _
                      refine ml_st (S' := (261, [(0, .ref m0), (2, .int x2), (3, .int x3), (4, .int (f2 f x1)), (5, .int i18_5), (6, .int (i18_6 ||| (1 <<< (i79_10 &&& 31)))), (7, .int i18_7), (8, .int (Int64.toInt32 (f4 f (i18_5 + 2)))), (11, .int 0)], [], M35)) rfl rfl rfl ?_
                      refine ml_st (S' := (263, [(0, .ref m0), (2, .int x2), (3, .int x3), (4, .int (f2 f x1)), (5, .int i18_5), (6, .int (i18_6 ||| (1 <<< (i79_10 &&& 31)))), (7, .int i18_7), (8, .int (Int64.toInt32 (f4 f (i18_5 + 2)))), (11, .int 0)], [.int 0], M35)) rfl rfl rfl ?_
                      refine ml_if (S1 := (268, [(0, .ref m0), (2, .int x2), (3, .int x3), (4, .int (f2 f x1)), (5, .int i18_5), (6, .int (i18_6 ||| (1 <<< (i79_10 &&& 31)))), (7, .int i18_7), (8, .int (Int64.toInt32 (f4 f (i18_5 + 2))))], [], M35)) (S2 := (266, [(0, .ref m0), (2, .int x2), (3, .int x3), (4, .int (f2 f x1)), (5, .int i18_5), (6, .int (i18_6 ||| (1 <<< (i79_10 &&& 31)))), (7, .int i18_7), (8, .int (Int64.toInt32 (f4 f (i18_5 + 2)))), (11, .int 0)], [], M35)) rfl rfl rfl (fun c_263 => ?_) (fun c_263 => ?_)
                      · have c_263 : 0 = 0 := of_decide_eq_true c_263
                        refine ml_blk 3 (S' := (274, [(0, .ref m0), (2, .int x2), (3, .int x3), (4, .int (f2 f x1)), (5, .int i18_5), (6, .int (i18_6 ||| (1 <<< (i79_10 &&& 31)))), (7, .int i18_7), (8, .int (Int64.toInt32 (f4 f (i18_5 + 2))))], [.int (Int64.toInt32 (f4 f (i18_5 + 2))), .int 6, .int i18_5], M35)) rfl ?_
                        refine ml_blk 2 (S' := (276, [(0, .ref m0), (2, .int x2), (3, .int x3), (4, .int (f2 f x1)), (5, .int i18_5), (6, .int (i18_6 ||| (1 <<< (i79_10 &&& 31)))), (7, .int i18_7), (8, .int (Int64.toInt32 (f4 f (i18_5 + 2))))], [.int (i18_5 + (6 + (Int64.toInt32 (f4 f (i18_5 + 2)))))], M35)) rfl ?_
                        refine ml_st (S' := (278, [(5, .int (i18_5 + (6 + (Int64.toInt32 (f4 f (i18_5 + 2)))))), (0, .ref m0), (2, .int x2), (3, .int x3), (4, .int (f2 f x1)), (6, .int (i18_6 ||| (1 <<< (i79_10 &&& 31)))), (7, .int i18_7), (8, .int (Int64.toInt32 (f4 f (i18_5 + 2))))], [], M35)) rfl rfl rfl ?_
                        refine ml_st (S' := (281, [(7, .int (i18_7 + 1)), (5, .int (i18_5 + (6 + (Int64.toInt32 (f4 f (i18_5 + 2)))))), (0, .ref m0), (2, .int x2), (3, .int x3), (4, .int (f2 f x1)), (6, .int (i18_6 ||| (1 <<< (i79_10 &&& 31)))), (8, .int (Int64.toInt32 (f4 f (i18_5 + 2))))], [], M35)) rfl rfl rfl ?_
                        refine ml_st (S' := (18, [(0, .ref m0), (2, .int x2), (3, .int x3), (4, .int (f2 f x1)), (5, .int (i18_5 + (6 + (Int64.toInt32 (f4 f (i18_5 + 2)))))), (6, .int (i18_6 ||| (1 <<< (i79_10 &&& 31)))), (7, .int (i18_7 + 1))], [], M35)) rfl rfl rfl ?_
                        exact ih_18 (i18_5 + (6 + (Int64.toInt32 (f4 f (i18_5 + 2))))) (i18_6 ||| (1 <<< (i79_10 &&& 31))) (i18_7 + 1) _ _ _ (loop_inc (Int32.not_le.mp c_22) hn_18) hR39 ((eqI.rf.tr hI_18 (by decide)).tr hI40 (by decide)) ((eqR.rf.tr hV_18 (by decide)).tr hV41 (by decide)) (⟨by rw [inc_lt (Int32.not_le.mp c_22)]; omega, by rw [inc_lt (Int32.not_le.mp c_22)]; have := i_nle c_22; omega, hb1.eq hra ▸ hnx⟩)
                      · have c_263 : ¬ (0 = 0) := of_decide_eq_false c_263
                        refine ml_st (S' := (267, [(0, .ref m0), (2, .int x2), (3, .int x3), (4, .int (f2 f x1)), (5, .int i18_5), (6, .int (i18_6 ||| (1 <<< (i79_10 &&& 31)))), (7, .int i18_7), (8, .int (Int64.toInt32 (f4 f (i18_5 + 2)))), (11, .int 0)], [.int (-1)], M35)) rfl rfl rfl ?_
                        exact ml_ret rfl (rfl) (⟨_, _, _, rfl, hR39, ((eqI.rf.tr hI_18 (by decide)).tr hI40 (by decide)), ((eqR.rf.tr hV_18 (by decide)).tr hV41 (by decide)), Or.inl (by decide)⟩)
                  · have c_198 : ¬ (¬ ((i18_6 >>> (i79_10 &&& 31)) &&& 1) = 1) := of_decide_eq_false c_198
                    refine ml_blk 3 (S' := (206, [(0, .ref m0), (2, .int x2), (3, .int x3), (4, .int (f2 f x1)), (5, .int i18_5), (6, .int i18_6), (7, .int i18_7), (8, .int (Int64.toInt32 (f4 f (i18_5 + 2)))), (10, .int i79_10)], [.int i18_5, .int 29, .ref m0], M_18)) rfl ?_
                    refine ml_call (a := [.ref m0, .int 29, .int i18_5]) (rest := []) rfl (hR_18.okc rfl rfl rfl) rfl rfl (rm_wrong hR_18 (by omega)) (fun v45 M46 h47 => ?_)
                    obtain ⟨u53, I48, R49, rfl, hR50, hI51, hV52, z54, w55⟩ := h47
                    show ml _ _ _ (209, [(0, .ref m0), (2, .int x2), (3, .int x3), (4, .int (f2 f x1)), (5, .int i18_5), (6, .int i18_6), (7, .int i18_7), (8, .int (Int64.toInt32 (f4 f (i18_5 + 2)))), (10, .int i79_10)], [.int u53], M46) _
                    refine ml_blk 2 (S' := (211, [(0, .ref m0), (2, .int x2), (3, .int x3), (4, .int (f2 f x1)), (5, .int i18_5), (6, .int i18_6), (7, .int i18_7), (8, .int (Int64.toInt32 (f4 f (i18_5 + 2)))), (10, .int i79_10)], [.int (-1)], M46)) rfl ?_
                    exact ml_ret rfl (rfl) (⟨_, _, _, rfl, hR50, ((eqI.rf.tr hI_18 (by decide)).tr hI51 (by decide)), ((eqR.rf.tr hV_18 (by decide)).tr hV52 (by decide)), Or.inl (by decide)⟩)
              · have c_86 : ¬ ((nI 10) ≤ i79_11) := of_decide_eq_false c_86
                have hjl : i79_11.toInt < 10 := by have q := i_nle c_86; rw [nI_val (by decide)] at q; omega
                refine ml_st (S' := (90, [(0, .ref m0), (2, .int x2), (3, .int x3), (4, .int (f2 f x1)), (5, .int i18_5), (6, .int i18_6), (7, .int i18_7), (8, .int (Int64.toInt32 (f4 f (i18_5 + 2)))), (9, .int (pyf py (f2 f i18_5))), (10, .int i79_10), (11, .int i79_11)], [.ref m0], M_18)) rfl rfl rfl ?_
                refine rg_ref (S' := (93, [(0, .ref m0), (2, .int x2), (3, .int x3), (4, .int (f2 f x1)), (5, .int i18_5), (6, .int i18_6), (7, .int i18_7), (8, .int (Int64.toInt32 (f4 f (i18_5 + 2)))), (9, .int (pyf py (f2 f i18_5))), (10, .int i79_10), (11, .int i79_11)], [.ref (q 63)], M_18)) rfl hR_18 rfl rfl ?_
                refine ml_st (S' := (95, [(0, .ref m0), (2, .int x2), (3, .int x3), (4, .int (f2 f x1)), (5, .int i18_5), (6, .int i18_6), (7, .int i18_7), (8, .int (Int64.toInt32 (f4 f (i18_5 + 2)))), (9, .int (pyf py (f2 f i18_5))), (10, .int i79_10), (11, .int i79_11)], [.int i79_11, .ref (q 63)], M_18)) rfl rfl rfl ?_
                have hK56 : KW I_18 R_18 := (hK.mono (cIx hI_18 (by decide)) (cRx hV_18 (by decide)))
                refine ra_ld (k := 63) (S' := (96, [(0, .ref m0), (2, .int x2), (3, .int x3), (4, .int (f2 f x1)), (5, .int i18_5), (6, .int i18_6), (7, .int i18_7), (8, .int (Int64.toInt32 (f4 f (i18_5 + 2)))), (9, .int (pyf py (f2 f i18_5))), (10, .int i79_10), (11, .int i79_11)], [.int (kin i79_11)], M_18)) rfl hR_18 rfl (vin_lt hj0 (by omega)) (hK56.1 i79_11 hj0 hjl) rfl ?_
                refine ml_st (S' := (97, [(0, .ref m0), (2, .int x2), (3, .int x3), (4, .int (f2 f x1)), (5, .int i18_5), (6, .int i18_6), (7, .int i18_7), (8, .int (Int64.toInt32 (f4 f (i18_5 + 2)))), (9, .int (pyf py (f2 f i18_5))), (10, .int i79_10), (11, .int i79_11)], [.int x2, .int (kin i79_11)], M_18)) rfl rfl rfl ?_
                refine ml_if2 (S1 := (134, [(0, .ref m0), (2, .int x2), (3, .int x3), (4, .int (f2 f x1)), (5, .int i18_5), (6, .int i18_6), (7, .int i18_7), (8, .int (Int64.toInt32 (f4 f (i18_5 + 2)))), (9, .int (pyf py (f2 f i18_5))), (10, .int i79_10), (11, .int i79_11)], [], M_18)) (S2 := (100, [(0, .ref m0), (2, .int x2), (3, .int x3), (4, .int (f2 f x1)), (5, .int i18_5), (6, .int i18_6), (7, .int i18_7), (8, .int (Int64.toInt32 (f4 f (i18_5 + 2)))), (9, .int (pyf py (f2 f i18_5))), (10, .int i79_10), (11, .int i79_11)], [], M_18)) rfl rfl rfl (fun c_97 => ?_) (fun c_97 => ?_)
                · have c_97 : ¬ (kin i79_11) = x2 := of_decide_eq_true c_97
                  refine ml_st (S' := (137, [(11, .int (i79_11 + 1)), (0, .ref m0), (2, .int x2), (3, .int x3), (4, .int (f2 f x1)), (5, .int i18_5), (6, .int i18_6), (7, .int i18_7), (8, .int (Int64.toInt32 (f4 f (i18_5 + 2)))), (9, .int (pyf py (f2 f i18_5))), (10, .int i79_10)], [], M_18)) rfl rfl rfl ?_
                  refine ml_st (S' := (79, [(0, .ref m0), (2, .int x2), (3, .int x3), (4, .int (f2 f x1)), (5, .int i18_5), (6, .int i18_6), (7, .int i18_7), (8, .int (Int64.toInt32 (f4 f (i18_5 + 2)))), (9, .int (pyf py (f2 f i18_5))), (10, .int i79_10), (11, .int (i79_11 + 1))], [], M_18)) rfl rfl rfl ?_
                  exact ih_79 i79_10 (i79_11 + 1) (loop_inc (Int32.not_le.mp c_86) hn_79) (⟨by rw [inc_lt (Int32.not_le.mp c_86)]; omega, hjw⟩)
                · have c_97 : ¬ (¬ (kin i79_11) = x2) := of_decide_eq_false c_97
                  refine ml_st (S' := (101, [(0, .ref m0), (2, .int x2), (3, .int x3), (4, .int (f2 f x1)), (5, .int i18_5), (6, .int i18_6), (7, .int i18_7), (8, .int (Int64.toInt32 (f4 f (i18_5 + 2)))), (9, .int (pyf py (f2 f i18_5))), (10, .int i79_10), (11, .int i79_11)], [.ref m0], M_18)) rfl rfl rfl ?_
                  refine rg_int (S' := (104, [(0, .ref m0), (2, .int x2), (3, .int x3), (4, .int (f2 f x1)), (5, .int i18_5), (6, .int i18_6), (7, .int i18_7), (8, .int (Int64.toInt32 (f4 f (i18_5 + 2)))), (9, .int (pyf py (f2 f i18_5))), (10, .int i79_10), (11, .int i79_11)], [.int mj], M_18)) rfl hR_18 rfl ((hI_18 53 (by decide)).trans (hP.2.2.1)) rfl ?_
                  refine ml_st (S' := (105, [(0, .ref m0), (2, .int x2), (3, .int x3), (4, .int (f2 f x1)), (5, .int i18_5), (6, .int i18_6), (7, .int i18_7), (8, .int (Int64.toInt32 (f4 f (i18_5 + 2)))), (9, .int (pyf py (f2 f i18_5))), (10, .int i79_10), (11, .int i79_11)], [.ref m0, .int mj], M_18)) rfl rfl rfl ?_
                  refine rg_ref (S' := (108, [(0, .ref m0), (2, .int x2), (3, .int x3), (4, .int (f2 f x1)), (5, .int i18_5), (6, .int i18_6), (7, .int i18_7), (8, .int (Int64.toInt32 (f4 f (i18_5 + 2)))), (9, .int (pyf py (f2 f i18_5))), (10, .int i79_10), (11, .int i79_11)], [.ref (q 64), .int mj], M_18)) rfl hR_18 rfl rfl ?_
                  refine ml_st (S' := (110, [(0, .ref m0), (2, .int x2), (3, .int x3), (4, .int (f2 f x1)), (5, .int i18_5), (6, .int i18_6), (7, .int i18_7), (8, .int (Int64.toInt32 (f4 f (i18_5 + 2)))), (9, .int (pyf py (f2 f i18_5))), (10, .int i79_10), (11, .int i79_11)], [.int i79_11, .ref (q 64), .int mj], M_18)) rfl rfl rfl ?_
                  obtain ⟨v110, hv110⟩ := hK56.2 i79_11 hj0 hjl
                  refine ra_ld (k := 64) (S' := (111, [(0, .ref m0), (2, .int x2), (3, .int x3), (4, .int (f2 f x1)), (5, .int i18_5), (6, .int i18_6), (7, .int i18_7), (8, .int (Int64.toInt32 (f4 f (i18_5 + 2)))), (9, .int (pyf py (f2 f i18_5))), (10, .int i79_10), (11, .int i79_11)], [.int v110, .int mj], M_18)) rfl hR_18 rfl (vin_lt hj0 (by omega)) (hv110) rfl ?_
                  refine ml_if2 (S1 := (134, [(0, .ref m0), (2, .int x2), (3, .int x3), (4, .int (f2 f x1)), (5, .int i18_5), (6, .int i18_6), (7, .int i18_7), (8, .int (Int64.toInt32 (f4 f (i18_5 + 2)))), (9, .int (pyf py (f2 f i18_5))), (10, .int i79_10), (11, .int i79_11)], [], M_18)) (S2 := (114, [(0, .ref m0), (2, .int x2), (3, .int x3), (4, .int (f2 f x1)), (5, .int i18_5), (6, .int i18_6), (7, .int i18_7), (8, .int (Int64.toInt32 (f4 f (i18_5 + 2)))), (9, .int (pyf py (f2 f i18_5))), (10, .int i79_10), (11, .int i79_11)], [], M_18)) rfl rfl rfl (fun c_111 => ?_) (fun c_111 => ?_)
                  · have c_111 : mj < v110 := of_decide_eq_true c_111
                    refine ml_st (S' := (137, [(11, .int (i79_11 + 1)), (0, .ref m0), (2, .int x2), (3, .int x3), (4, .int (f2 f x1)), (5, .int i18_5), (6, .int i18_6), (7, .int i18_7), (8, .int (Int64.toInt32 (f4 f (i18_5 + 2)))), (9, .int (pyf py (f2 f i18_5))), (10, .int i79_10)], [], M_18)) rfl rfl rfl ?_
                    refine ml_st (S' := (79, [(0, .ref m0), (2, .int x2), (3, .int x3), (4, .int (f2 f x1)), (5, .int i18_5), (6, .int i18_6), (7, .int i18_7), (8, .int (Int64.toInt32 (f4 f (i18_5 + 2)))), (9, .int (pyf py (f2 f i18_5))), (10, .int i79_10), (11, .int (i79_11 + 1))], [], M_18)) rfl rfl rfl ?_
                    exact ih_79 i79_10 (i79_11 + 1) (loop_inc (Int32.not_le.mp c_86) hn_79) (⟨by rw [inc_lt (Int32.not_le.mp c_86)]; omega, hjw⟩)
                  · have c_111 : ¬ (mj < v110) := of_decide_eq_false c_111
                    refine ml_blk 3 (S' := (118, [(0, .ref m0), (2, .int x2), (3, .int x3), (4, .int (f2 f x1)), (5, .int i18_5), (6, .int i18_6), (7, .int i18_7), (8, .int (Int64.toInt32 (f4 f (i18_5 + 2)))), (9, .int (pyf py (f2 f i18_5))), (10, .int i79_10), (11, .int i79_11)], [.ref m0, .int (pyf py (f2 f i18_5)), .ref m0], M_18)) rfl ?_
                    refine rg_ref (S' := (121, [(0, .ref m0), (2, .int x2), (3, .int x3), (4, .int (f2 f x1)), (5, .int i18_5), (6, .int i18_6), (7, .int i18_7), (8, .int (Int64.toInt32 (f4 f (i18_5 + 2)))), (9, .int (pyf py (f2 f i18_5))), (10, .int i79_10), (11, .int i79_11)], [.ref (q 62), .int (pyf py (f2 f i18_5)), .ref m0], M_18)) rfl hR_18 rfl rfl ?_
                    refine ml_st (S' := (123, [(0, .ref m0), (2, .int x2), (3, .int x3), (4, .int (f2 f x1)), (5, .int i18_5), (6, .int i18_6), (7, .int i18_7), (8, .int (Int64.toInt32 (f4 f (i18_5 + 2)))), (9, .int (pyf py (f2 f i18_5))), (10, .int i79_10), (11, .int i79_11)], [.int i79_11, .ref (q 62), .int (pyf py (f2 f i18_5)), .ref m0], M_18)) rfl rfl rfl ?_
                    refine ra_kn (S' := (124, [(0, .ref m0), (2, .int x2), (3, .int x3), (4, .int (f2 f x1)), (5, .int i18_5), (6, .int i18_6), (7, .int i18_7), (8, .int (Int64.toInt32 (f4 f (i18_5 + 2)))), (9, .int (pyf py (f2 f i18_5))), (10, .int i79_10), (11, .int i79_11)], [.ref (g.2.1 (15 + Int32.toNatClampNeg i79_11)), .int (pyf py (f2 f i18_5)), .ref m0], M_18)) rfl hR_18 hj0 hjl rfl ?_
                    have hY57 : SK S cN sa sl ch I_18 R_18 := (hY.mono (cIx hI_18 (by decide)) (cRx hV_18 (by decide)))
                    refine ml_call (a := [.ref m0, .int (pyf py (f2 f i18_5)), .ref (g.2.1 (15 + Int32.toNatClampNeg i79_11))]) (rest := []) rfl (hR_18.okc rfl rfl rfl) rfl rfl (rm_is hR_18 hY57 (hy9.2.2.1) (hy9.2.2.2) (by show 15 ≤ 15 + i79_11.toInt.toNat ∧ 15 + i79_11.toInt.toNat < 30; omega) (by omega)) (fun v58 M59 h60 => ?_)
                    obtain ⟨⟨u61, rfl, z62⟩, h60⟩ := h60
                    rw [h60]
                    show ml _ _ _ (127, [(0, .ref m0), (2, .int x2), (3, .int x3), (4, .int (f2 f x1)), (5, .int i18_5), (6, .int i18_6), (7, .int i18_7), (8, .int (Int64.toInt32 (f4 f (i18_5 + 2)))), (9, .int (pyf py (f2 f i18_5))), (10, .int i79_10), (11, .int i79_11)], [.int u61], M_18) _
                    refine ml_if (S1 := (134, [(0, .ref m0), (2, .int x2), (3, .int x3), (4, .int (f2 f x1)), (5, .int i18_5), (6, .int i18_6), (7, .int i18_7), (8, .int (Int64.toInt32 (f4 f (i18_5 + 2)))), (9, .int (pyf py (f2 f i18_5))), (10, .int i79_10), (11, .int i79_11)], [], M_18)) (S2 := (130, [(0, .ref m0), (2, .int x2), (3, .int x3), (4, .int (f2 f x1)), (5, .int i18_5), (6, .int i18_6), (7, .int i18_7), (8, .int (Int64.toInt32 (f4 f (i18_5 + 2)))), (9, .int (pyf py (f2 f i18_5))), (10, .int i79_10), (11, .int i79_11)], [], M_18)) rfl rfl rfl (fun c_127 => ?_) (fun c_127 => ?_)
                    · have c_127 : u61 = 0 := of_decide_eq_true c_127
                      refine ml_st (S' := (137, [(11, .int (i79_11 + 1)), (0, .ref m0), (2, .int x2), (3, .int x3), (4, .int (f2 f x1)), (5, .int i18_5), (6, .int i18_6), (7, .int i18_7), (8, .int (Int64.toInt32 (f4 f (i18_5 + 2)))), (9, .int (pyf py (f2 f i18_5))), (10, .int i79_10)], [], M_18)) rfl rfl rfl ?_
                      refine ml_st (S' := (79, [(0, .ref m0), (2, .int x2), (3, .int x3), (4, .int (f2 f x1)), (5, .int i18_5), (6, .int i18_6), (7, .int i18_7), (8, .int (Int64.toInt32 (f4 f (i18_5 + 2)))), (9, .int (pyf py (f2 f i18_5))), (10, .int i79_10), (11, .int (i79_11 + 1))], [], M_18)) rfl rfl rfl ?_
                      exact ih_79 i79_10 (i79_11 + 1) (loop_inc (Int32.not_le.mp c_86) hn_79) (⟨by rw [inc_lt (Int32.not_le.mp c_86)]; omega, hjw⟩)
                    · have c_127 : ¬ (u61 = 0) := of_decide_eq_false c_127
                      refine ml_st (S' := (132, [(0, .ref m0), (2, .int x2), (3, .int x3), (4, .int (f2 f x1)), (5, .int i18_5), (6, .int i18_6), (7, .int i18_7), (8, .int (Int64.toInt32 (f4 f (i18_5 + 2)))), (9, .int (pyf py (f2 f i18_5))), (10, .int i79_10), (11, .int i79_11)], [.int i79_11], M_18)) rfl rfl rfl ?_
                      refine ml_st (S' := (134, [(0, .ref m0), (2, .int x2), (3, .int x3), (4, .int (f2 f x1)), (5, .int i18_5), (6, .int i18_6), (7, .int i18_7), (8, .int (Int64.toInt32 (f4 f (i18_5 + 2)))), (9, .int (pyf py (f2 f i18_5))), (10, .int i79_11), (11, .int i79_11)], [], M_18)) rfl rfl rfl ?_
                      refine ml_st (S' := (137, [(11, .int (i79_11 + 1)), (0, .ref m0), (2, .int x2), (3, .int x3), (4, .int (f2 f x1)), (5, .int i18_5), (6, .int i18_6), (7, .int i18_7), (8, .int (Int64.toInt32 (f4 f (i18_5 + 2)))), (9, .int (pyf py (f2 f i18_5))), (10, .int i79_11)], [], M_18)) rfl rfl rfl ?_
                      refine ml_st (S' := (79, [(0, .ref m0), (2, .int x2), (3, .int x3), (4, .int (f2 f x1)), (5, .int i18_5), (6, .int i18_6), (7, .int i18_7), (8, .int (Int64.toInt32 (f4 f (i18_5 + 2)))), (9, .int (pyf py (f2 f i18_5))), (10, .int i79_11), (11, .int (i79_11 + 1))], [], M_18)) rfl rfl rfl ?_
                      exact ih_79 i79_11 (i79_11 + 1) (loop_inc (Int32.not_le.mp c_86) hn_79) (⟨by rw [inc_lt (Int32.not_le.mp c_86)]; omega, Or.inr ⟨hj0, hjl, Decidable.not_not.mp c_97⟩⟩)
          exact L_79 _ (-1) 0 (Nat.le_refl _) (⟨by decide, Or.inl (by decide)⟩)
        · have c_47 : ¬ ((tgf f cp pa (f2 f i18_5)) = 1) := of_decide_eq_false c_47
          refine ml_blk 3 (S' := (55, [(8, .int (Int64.toInt32 (f4 f (i18_5 + 2)))), (0, .ref m0), (2, .int x2), (3, .int x3), (4, .int (f2 f x1)), (5, .int i18_5), (6, .int i18_6), (7, .int i18_7)], [.int i18_5, .int 28, .ref m0], M_18)) rfl ?_
          refine ml_call (a := [.ref m0, .int 28, .int i18_5]) (rest := []) rfl (hR_18.okc rfl rfl rfl) rfl rfl (rm_wrong hR_18 (by omega)) (fun v63 M64 h65 => ?_)
          obtain ⟨u71, I66, R67, rfl, hR68, hI69, hV70, z72, w73⟩ := h65
          show ml _ _ _ (58, [(8, .int (Int64.toInt32 (f4 f (i18_5 + 2)))), (0, .ref m0), (2, .int x2), (3, .int x3), (4, .int (f2 f x1)), (5, .int i18_5), (6, .int i18_6), (7, .int i18_7)], [.int u71], M64) _
          refine ml_blk 2 (S' := (60, [(8, .int (Int64.toInt32 (f4 f (i18_5 + 2)))), (0, .ref m0), (2, .int x2), (3, .int x3), (4, .int (f2 f x1)), (5, .int i18_5), (6, .int i18_6), (7, .int i18_7)], [.int (-1)], M64)) rfl ?_
          exact ml_ret rfl (rfl) (⟨_, _, _, rfl, hR68, ((eqI.rf.tr hI_18 (by decide)).tr hI69 (by decide)), ((eqR.rf.tr hV_18 (by decide)).tr hV70 (by decide)), Or.inl (by decide)⟩)
  exact L_18 _ (x1 + 2) 0 0 _ _ _ (Nat.le_refl _) hR eqI.rf eqR.rf (⟨by decide, by show (0 : Int) ≤ _; exact f2_pos, by rw [show ((f2 f x1).toInt - (0 : Int32).toInt).toNat = (f2 f x1).toInt.toNat by have : (0 : Int32).toInt = 0 := rfl; omega]; exact hat.2.2.1⟩)
end
