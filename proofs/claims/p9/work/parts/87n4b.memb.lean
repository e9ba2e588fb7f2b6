/-! all fields, all methods; their rows stay (laid by wip/p4/d27.py) -/
set_option maxHeartbeats 1000000 in
theorem dk_fieldsHold2 {g : xe_G} {M : mi_H} {f : Nat → Int32} {n N q : Nat} {E : List (Nat × Nat)} {o c b da vd ac mr fa ic mj na pa : Nat} {mi ru wa k1 k2 k3 k4 k5 k6 k7 : Int32} {ox : Nat} {og ga gf : Nat} {gn gw : Int32} {gk : Value} {s1 : Int32} {B : List Nat} {G : Nat → Nat} {mm : Nat} {B2 : List Nat} {G2 : Nat → Nat} {m2 kk2 : Nat} (h_ox : M.1 ox = some (ob 8 [.ref q, .int (nI mj), .ref vd])) (h_og : M.1 og = some (ob 11 [.ref ga, .int gn, .ref gf, gk, .int gw])) (h_o : M.1 o = some (ob 2 [.ref c, .ref b, .ref q, .ref vd, .ref ac])) (h_c : M.1 c = some (ob 3 [.ref b, .ref q, .int mi, .int (nI mj), .int (nI fa), .int (nI ic), .ref mm, .ref mr, .int (nI na), .int (nI pa), .int k1, .int k2, .int k3, .int k4, .int k5, .int k6, .int k7])) (h_b : M.1 b = some (ob 1 [.ref da])) (h_da : M.1 da = some (ar .byte n f)) (h_vd : M.1 vd = some (ob 10 [.int ru, .int wa])) (h_ac : M.1 ac = some (ob 0 [.ref c, .ref b, .ref q, .ref vd, .int s1])) (hn : n ≤ 65540) (hmj : mj < 65536) (hfa : fa + 8 ≤ n) (hB9 : B.length < 65536) (hB : ∀ i, i < B.length → B.getD i 0 + 8 ≤ n ∧ ∃ e0, s_atts f n (by2 f (B.getD i 0 + 6)) (B.getD i 0 + 8) = .inr e0) (hD : ∀ i j, i < B.length → j < B2.length → ¬ G i = G2 j) (l_o : o < M.2.1) (l_c : c < M.2.1) (l_b : b < M.2.1) (l_da : da < M.2.1) (l_vd : vd < M.2.1) (l_ac : ac < M.2.1) (l_q : q < M.2.1) (l_ox : ox < M.2.1) (l_og : og < M.2.1) (hV : PV g f n N E q M) (hM : MV f B mm G 0 M) (hM2 : MV f B2 m2 G2 kk2 M) : pt (mT g) 57 [.ref o] M (fun v M' => (∃ (s2 : Int32), (flS f n E (by2 f fa) B B.length 0 = none) ∧ (PV g f n N E q M') ∧ (MV f B2 m2 G2 kk2 M') ∧ (MV f B mm G B.length M') ∧ v = some (.int 1) ∧ M'.1 ox = some (ob 8 [.ref q, .int (nI mj), .ref vd]) ∧ M'.1 og = some (ob 11 [.ref ga, .int gn, .ref gf, gk, .int gw]) ∧ M'.1 o = some (ob 2 [.ref c, .ref b, .ref q, .ref vd, .ref ac]) ∧ M'.1 c = some (ob 3 [.ref b, .ref q, .int mi, .int (nI mj), .int (nI fa), .int (nI ic), .ref mm, .ref mr, .int (nI na), .int (nI pa), .int k1, .int k2, .int k3, .int k4, .int k5, .int k6, .int k7]) ∧ M'.1 b = some (ob 1 [.ref da]) ∧ M'.1 da = some (ar .byte n f) ∧ M'.1 vd = some (ob 10 [.int ru, .int wa]) ∧ M'.1 ac = some (ob 0 [.ref c, .ref b, .ref q, .ref vd, .int s2]) ∧ M.2.1 ≤ M'.2.1) ∨ (∃ (e9 : Nat × Nat), (flS f n E (by2 f fa) B B.length 0 = some e9) ∧ v = some (.int 0) ∧ M'.1 vd = some (ob 10 [.int (nI e9.1), .int (nI e9.2)]) ∧ M'.1 og = some (ob 11 [.ref ga, .int gn, .ref gf, gk, .int gw]) ∧ M.2.1 ≤ M'.2.1)) := by
  refine pt_in (b := mb_57 g) rfl (fun kf => ?_)
  show pl (mT g) kf (mb_57 g).2 (0, [(0, .ref o)], [], M) _
  obtain ⟨z0, tp0⟩ : ∃ z0, M.2.1 = z0 := ⟨_, rfl⟩
  have LL : ∀ (kf : Nat), (∀ (i t1 : Nat) (s2 : Int32) (M1 : mi_H), (M1.1 ox = some (ob 8 [.ref q, .int (nI mj), .ref vd])) → (M1.1 og = some (ob 11 [.ref ga, .int gn, .ref gf, gk, .int gw])) → (M1.1 o = some (ob 2 [.ref c, .ref b, .ref q, .ref vd, .ref ac])) → (M1.1 c = some (ob 3 [.ref b, .ref q, .int mi, .int (nI mj), .int (nI fa), .int (nI ic), .ref mm, .ref mr, .int (nI na), .int (nI pa), .int k1, .int k2, .int k3, .int k4, .int k5, .int k6, .int k7])) → (M1.1 b = some (ob 1 [.ref da])) → (M1.1 da = some (ar .byte n f)) → (M1.1 vd = some (ob 10 [.int ru, .int wa])) → (M1.1 ac = some (ob 0 [.ref c, .ref b, .ref q, .ref vd, .int s2])) → (PV g f n N E q M1) → (MV f B mm G i M1) → (MV f B2 m2 G2 kk2 M1) → (M1.2.1 = t1) → (z0 ≤ t1) → (i ≤ B.length) → (flS f n E (by2 f fa) B (B.length - i) i = flS f n E (by2 f fa) B B.length 0) →  pl (mT g) kf (mb_57 g).2 (2, [(0, .ref o), (1, .int (nI i))], [], M1) (fun v M' => (∃ (s2 : Int32), (flS f n E (by2 f fa) B B.length 0 = none) ∧ (PV g f n N E q M') ∧ (MV f B2 m2 G2 kk2 M') ∧ (MV f B mm G B.length M') ∧ v = some (.int 1) ∧ M'.1 ox = some (ob 8 [.ref q, .int (nI mj), .ref vd]) ∧ M'.1 og = some (ob 11 [.ref ga, .int gn, .ref gf, gk, .int gw]) ∧ M'.1 o = some (ob 2 [.ref c, .ref b, .ref q, .ref vd, .ref ac]) ∧ M'.1 c = some (ob 3 [.ref b, .ref q, .int mi, .int (nI mj), .int (nI fa), .int (nI ic), .ref mm, .ref mr, .int (nI na), .int (nI pa), .int k1, .int k2, .int k3, .int k4, .int k5, .int k6, .int k7]) ∧ M'.1 b = some (ob 1 [.ref da]) ∧ M'.1 da = some (ar .byte n f) ∧ M'.1 vd = some (ob 10 [.int ru, .int wa]) ∧ M'.1 ac = some (ob 0 [.ref c, .ref b, .ref q, .ref vd, .int s2]) ∧ M.2.1 ≤ M'.2.1) ∨ (∃ (e9 : Nat × Nat), (flS f n E (by2 f fa) B B.length 0 = some e9) ∧ v = some (.int 0) ∧ M'.1 vd = some (ob 10 [.int (nI e9.1), .int (nI e9.2)]) ∧ M'.1 og = some (ob 11 [.ref ga, .int gn, .ref gf, gk, .int gw]) ∧ M.2.1 ≤ M'.2.1))) := by
    intro kf
    induction kf with
    | zero => exact (by intros; exact pl_0)
    | succ kf ih =>
      intro i t1 s2 M1 hl_ox hl_og hl_o hl_c hl_b hl_da hl_vd hl_ac hV1 hM1 hM21 tp1 ht hi hs
      refine ps_st1 (S' := (3, [(0, .ref o), (1, .int (nI i))], [.int (nI i)], M1)) rfl rfl rfl ?_
      obtain ⟨R, h_mm, hR⟩ := hM1.2.1
      have l_mm := hM1.1
      refine ps_st (S' := (4, [(0, .ref o), (1, .int (nI i))], [.ref o, .int (nI i)], M1)) rfl rfl rfl ?_
      refine ps_get (S' := (7, [(0, .ref o), (1, .int (nI i))], [.ref c, .int (nI i)], M1)) rfl hl_o rfl rfl ?_
      refine ps_get (S' := (10, [(0, .ref o), (1, .int (nI i))], [.ref mm, .int (nI i)], M1)) rfl hl_c rfl rfl ?_
      refine ps_aalen (S' := (11, [(0, .ref o), (1, .int (nI i))], [.int (nI B.length), .int (nI i)], M1)) rfl h_mm rfl ?_
      refine ps_if2 (S1 := (59, [(0, .ref o), (1, .int (nI i))], [], M1)) (S2 := (14, [(0, .ref o), (1, .int (nI i))], [], M1)) rfl rfl rfl (fun c_11 => ?_) (fun c_11 => ?_)
      · have c_11 : (nI B.length) ≤ (nI i) := of_decide_eq_true c_11
        have n_11 : B.length ≤ i := (le_nI (p := B.length) (n := i) (by omega) (by omega)).mp c_11
        refine ps_st (S' := (60, [(0, .ref o), (1, .int (nI i))], [.int 1], M1)) rfl rfl rfl ?_
        exact ps_ret rfl rfl (Or.inl ⟨s2, by rw [← hs, show B.length - i = 0 by omega]; rfl, hV1, hM21, hM1.le (by omega), rfl, hl_ox, hl_og, hl_o, hl_c, hl_b, hl_da, hl_vd, hl_ac, by omega⟩)
      · have c_11 : ¬ ((nI B.length) ≤ (nI i)) := of_decide_eq_false c_11
        have n_11 : ¬ (B.length ≤ i) := fun h9 => c_11 ((le_nI (p := B.length) (n := i) (by omega) (by omega)).mpr h9)
        refine ps_st (S' := (15, [(0, .ref o), (1, .int (nI i))], [.ref o], M1)) rfl rfl rfl ?_
        refine ps_get (S' := (18, [(0, .ref o), (1, .int (nI i))], [.ref c], M1)) rfl hl_o rfl rfl ?_
        refine ps_get (S' := (21, [(0, .ref o), (1, .int (nI i))], [.ref mm], M1)) rfl hl_c rfl rfl ?_
        refine ps_st (S' := (22, [(0, .ref o), (1, .int (nI i))], [.int (nI i), .ref mm], M1)) rfl rfl rfl ?_
        obtain ⟨hl8, y1, y2, y3, y4, yv, hc8, hv8⟩ := hM1.2.2.2 i (by omega)
        obtain ⟨a, ha⟩ : ∃ a, G i = a := ⟨_, rfl⟩
        rw [ha] at hc8 hl8
        have hA : G i = a ∧ i < B.length ∧ i < i + 1 := ⟨ha, by omega, by omega⟩
        have hM9 := hM1.le (Nat.le_succ i)
        have hb0 : B.getD i 0 = B.getD i 0 := rfl
        have hDa : ∀ j, j < B2.length → ¬ G2 j = a := fun j hj e9 => hD i j (by omega) hj (ha.trans e9.symm)
        obtain ⟨hb1, e0, hat⟩ := hB i (by omega)
        refine ps_aald (S' := (23, [(0, .ref o), (1, .int (nI i))], [.ref a], M1)) rfl h_mm (⟨by omega, by rw [hR i (by omega), ha]⟩) rfl ?_
        refine ps_st (S' := (24, [(2, .ref a), (0, .ref o), (1, .int (nI i))], [], M1)) rfl rfl rfl ?_
        refine ps_st (S' := (25, [(2, .ref a), (0, .ref o), (1, .int (nI i))], [.ref a], M1)) rfl rfl rfl ?_
        refine ps_st (S' := (31, [(2, .ref a), (0, .ref o), (1, .int (nI i))], [], M1)) rfl rfl rfl ?_
        refine ps_st (S' := (32, [(2, .ref a), (0, .ref o), (1, .int (nI i))], [.ref o], M1)) rfl rfl rfl ?_
        refine ps_st (S' := (33, [(2, .ref a), (0, .ref o), (1, .int (nI i))], [.ref a, .ref o], M1)) rfl rfl rfl ?_
        refine ps_st (S' := (34, [(2, .ref a), (0, .ref o), (1, .int (nI i))], [.int (nI i), .ref a, .ref o], M1)) rfl rfl rfl ?_
        refine pl_call (a := [.ref o, .ref a, .int (nI i)]) (rest := []) rfl rfl rfl (dk_fieldHolds (f := f) (n := n) (N := N) (q := q) (E := E) (o := o) (c := c) (b := b) (da := da) (vd := vd) (ac := ac) (mr := mr) (fa := fa) (ic := ic) (mj := mj) (na := na) (pa := pa) (mi := mi) (ru := ru) (wa := wa) (k1 := k1) (k2 := k2) (k3 := k3) (k4 := k4) (k5 := k5) (k6 := k6) (k7 := k7) (a := a) (b0 := (B.getD i 0)) (kn := y1) (co := y2) (ap := y3) (ex := y4) (cd := yv) (B := B) (G := G) (mm := mm) (kk := (i + 1)) (i0 := i) hl_o hl_c hl_b hl_da hl_vd hc8 (hn) (hmj) (hfa) (hA) (rfl) (hB9) (hb1) (hV1) (hM9)) (fun v1 M2 q3 => ?_)
        rcases q3 with q3 | q3
        · skip
          obtain ⟨q34_s, rfl, h4, f5⟩ := q3
          have h7 := (f5.1 ox (nin1 (ob_ne hl_ox hl_vd (by decide)))).trans hl_ox
          have h8 := (f5.1 og (nin1 (ob_ne hl_og hl_vd (by decide)))).trans hl_og
          have h9 := (f5.1 o (nin1 (ob_ne hl_o hl_vd (by decide)))).trans hl_o
          have h10 := (f5.1 c (nin1 (ob_ne hl_c hl_vd (by decide)))).trans hl_c
          have h11 := (f5.1 b (nin1 (ob_ne hl_b hl_vd (by decide)))).trans hl_b
          have h12 := (f5.1 da (nin1 (Ne.symm (ob_ar hl_vd hl_da)))).trans hl_da
          have h13 := (f5.1 ac (nin1 (ob_ne hl_ac hl_vd (by decide)))).trans hl_ac
          have h14 := (f5.1 mm (nin1 (Ne.symm (ob_ro hl_vd h_mm)))).trans h_mm
          have h15 := (f5.1 a (nin1 (ob_ne hc8 hl_vd (by decide)))).trans hc8
          have tp17 : M2.2.1 = t1 := by rw [f5.2]; exact tp1
          have hV18 := hV1.keep f5.gm (n7c hl_vd (by decide) (n7nil))
          have hV19 := hM9.keep f5.gm (n6o hl_vd (by decide) (n6on))
          have hV20 := hM21.keep f5.gm (n6o hl_vd (by decide) (n6on))
          show pl _ _ _ (37, [(2, .ref a), (0, .ref o), (1, .int (nI i))], [.int 1], M2) _
          refine ps_if (S1 := (51, [], [], M2)) (S2 := (40, [(2, .ref a), (0, .ref o), (1, .int (nI i))], [], M2)) rfl rfl rfl (fun c_37 => ?_) (fun c_37 => ?_)
          · exact absurd (of_decide_eq_true c_37) (by decide)
          refine ps_st (S' := (41, [(2, .ref a), (0, .ref o), (1, .int (nI i))], [.ref o], M2)) rfl rfl rfl ?_
          refine ps_get (S' := (44, [(2, .ref a), (0, .ref o), (1, .int (nI i))], [.ref ac], M2)) rfl h9 rfl rfl ?_
          refine ps_st (S' := (45, [(2, .ref a), (0, .ref o), (1, .int (nI i))], [.ref a, .ref ac], M2)) rfl rfl rfl ?_
          refine pl_call (a := [.ref ac, .ref a]) (rest := []) rfl rfl rfl (dk_ofField (f := f) (n := n) (N := N) (q := q) (E := E) (ac := ac) (c := c) (b := b) (da := da) (vd := vd) (fr := mm) (mr := mr) (fa := fa) (ic := ic) (mj := mj) (na := na) (pa := pa) (mi := mi) (ru := ru) (wa := wa) (s1 := s2) (k1 := k1) (k2 := k2) (k3 := k3) (k4 := k4) (k5 := k5) (k6 := k6) (k7 := k7) (a := a) (b0 := (B.getD i 0)) (e0 := e0) (kn := y1) (co := y2) (ap := y3) (ex := y4) (cd := yv) h13 h11 h12 h10 h4 h15 (hn) (hmj) (hb1) (hat) (hV18)) (fun v21 M22 q23 => ?_)
          rcases q23 with q23 | q23
          · skip
            obtain ⟨s224, kn225, co226, q45_s, rfl, h27, h28, h29, f30⟩ := q23
            have h32 := (f30.1 ox (nin3 (ob_ne h7 h13 (by decide)) (ob_ne h7 h4 (by decide)) (ob_ne h7 h15 (by decide)))).trans h7
            have h33 := (f30.1 og (nin3 (ob_ne h8 h13 (by decide)) (ob_ne h8 h4 (by decide)) (ob_ne h8 h15 (by decide)))).trans h8
            have h34 := (f30.1 o (nin3 (ob_ne h9 h13 (by decide)) (ob_ne h9 h4 (by decide)) (ob_ne h9 h15 (by decide)))).trans h9
            have h35 := (f30.1 c (nin3 (ob_ne h10 h13 (by decide)) (ob_ne h10 h4 (by decide)) (ob_ne h10 h15 (by decide)))).trans h10
            have h36 := (f30.1 b (nin3 (ob_ne h11 h13 (by decide)) (ob_ne h11 h4 (by decide)) (ob_ne h11 h15 (by decide)))).trans h11
            have h37 := (f30.1 da (nin3 (Ne.symm (ob_ar h13 h12)) (Ne.symm (ob_ar h4 h12)) (Ne.symm (ob_ar h15 h12)))).trans h12
            have h38 := (f30.1 mm (nin3 (Ne.symm (ob_ro h13 h14)) (Ne.symm (ob_ro h4 h14)) (Ne.symm (ob_ro h15 h14)))).trans h14
            have tp40 : M22.2.1 = t1 := by rw [f30.2]; exact tp17
            have hV41 := hV18.keep f30.gm (n7c h13 (by decide) (n7c h4 (by decide) (n7c h15 (by decide) (n7nil))))
            have hV42 := hV19.keepA f30.gm (n6c h13 (by decide) (n6c h4 (by decide) (n6a (n6nil)))) hA h29 hb0
            have hV43 := hV20.keepB f30.gm (n6c h13 (by decide) (n6c h4 (by decide) (n6a (n6nil)))) h15 hDa
            show pl _ _ _ (48, [(2, .ref a), (0, .ref o), (1, .int (nI i))], [.int 1], M22) _
            refine ps_if (S1 := (53, [(0, .ref o), (1, .int (nI i))], [], M22)) (S2 := (51, [], [], M22)) rfl rfl rfl (fun c_48 => ?_) (fun c_48 => ?_)
            rotate_left
            · exact absurd (by decide) (of_decide_eq_false c_48)
            refine ps_st (S' := (56, [(1, .int ((nI i) + 1)), (0, .ref o)], [], M22)) rfl rfl rfl ?_
            rw [nI_add1 (p := i) (k := 1) (x := 1) rfl (by omega)]
            show pl _ _ _ (_, [(1, .int (nI (i + 1))), (0, .ref o)], [], M22) _
            refine ps_st (S' := (2, [(0, .ref o), (1, .int (nI (i + 1)))], [], M22)) rfl rfl rfl ?_
            exact ih (i + 1) (t1) (s224) M22 h32 h33 h34 h35 h36 h37 h27 h28 hV41 hV42 hV43  (tp40) (by omega) (by omega) (by
                rw [← hs, flS_st (i := i) (by omega)]
                rw [q34_s]
                try dsimp only
                rw [q45_s]
                try dsimp only
                first | done | rfl)
          · skip
            obtain ⟨e944, q45_s, rfl, h45, f46⟩ := q23
            have h48 := (f46.1 ox (nin3 (ob_ne h7 h13 (by decide)) (ob_ne h7 h4 (by decide)) (ob_ne h7 h15 (by decide)))).trans h7
            have h49 := (f46.1 og (nin3 (ob_ne h8 h13 (by decide)) (ob_ne h8 h4 (by decide)) (ob_ne h8 h15 (by decide)))).trans h8
            have h50 := (f46.1 o (nin3 (ob_ne h9 h13 (by decide)) (ob_ne h9 h4 (by decide)) (ob_ne h9 h15 (by decide)))).trans h9
            have h51 := (f46.1 c (nin3 (ob_ne h10 h13 (by decide)) (ob_ne h10 h4 (by decide)) (ob_ne h10 h15 (by decide)))).trans h10
            have h52 := (f46.1 b (nin3 (ob_ne h11 h13 (by decide)) (ob_ne h11 h4 (by decide)) (ob_ne h11 h15 (by decide)))).trans h11
            have h53 := (f46.1 da (nin3 (Ne.symm (ob_ar h13 h12)) (Ne.symm (ob_ar h4 h12)) (Ne.symm (ob_ar h15 h12)))).trans h12
            have h54 := (f46.1 mm (nin3 (Ne.symm (ob_ro h13 h14)) (Ne.symm (ob_ro h4 h14)) (Ne.symm (ob_ro h15 h14)))).trans h14
            have tp56 : M22.2.1 = t1 := by rw [f46.2]; exact tp17
            have hV57 := hV18.keep f46.gm (n7c h13 (by decide) (n7c h4 (by decide) (n7c h15 (by decide) (n7nil))))
            have hV58 := hV20.keepB f46.gm (n6c h13 (by decide) (n6c h4 (by decide) (n6a (n6nil)))) h15 hDa
            show pl _ _ _ (48, [(2, .ref a), (0, .ref o), (1, .int (nI i))], [.int 0], M22) _
            refine ps_if (S1 := (53, [(0, .ref o), (1, .int (nI i))], [], M22)) (S2 := (51, [], [], M22)) rfl rfl rfl (fun c_48 => ?_) (fun c_48 => ?_)
            · exact absurd (of_decide_eq_true c_48) (by decide)
            refine ps_st (S' := (52, [], [.int 0], M22)) rfl rfl rfl ?_
            exact ps_ret rfl rfl (Or.inr ⟨e944, by
                rw [← hs, flS_st (i := i) (by omega)]
                rw [q34_s]
                try dsimp only
                rw [q45_s]
                try dsimp only
                first | done | rfl, rfl, h45, h49, by omega⟩)
        · skip
          obtain ⟨e59, q34_s, rfl, h60, f61⟩ := q3
          have h63 := (f61.1 ox (nin1 (ob_ne hl_ox hl_vd (by decide)))).trans hl_ox
          have h64 := (f61.1 og (nin1 (ob_ne hl_og hl_vd (by decide)))).trans hl_og
          have h65 := (f61.1 o (nin1 (ob_ne hl_o hl_vd (by decide)))).trans hl_o
          have h66 := (f61.1 c (nin1 (ob_ne hl_c hl_vd (by decide)))).trans hl_c
          have h67 := (f61.1 b (nin1 (ob_ne hl_b hl_vd (by decide)))).trans hl_b
          have h68 := (f61.1 da (nin1 (Ne.symm (ob_ar hl_vd hl_da)))).trans hl_da
          have h69 := (f61.1 ac (nin1 (ob_ne hl_ac hl_vd (by decide)))).trans hl_ac
          have h70 := (f61.1 mm (nin1 (Ne.symm (ob_ro hl_vd h_mm)))).trans h_mm
          have h71 := (f61.1 a (nin1 (ob_ne hc8 hl_vd (by decide)))).trans hc8
          have tp73 : M2.2.1 = t1 := by rw [f61.2]; exact tp1
          have hV74 := hV1.keep f61.gm (n7c hl_vd (by decide) (n7nil))
          have hV75 := hM9.keep f61.gm (n6o hl_vd (by decide) (n6on))
          have hV76 := hM21.keep f61.gm (n6o hl_vd (by decide) (n6on))
          show pl _ _ _ (37, [(2, .ref a), (0, .ref o), (1, .int (nI i))], [.int 0], M2) _
          refine ps_if (S1 := (51, [], [], M2)) (S2 := (40, [(2, .ref a), (0, .ref o), (1, .int (nI i))], [], M2)) rfl rfl rfl (fun c_37 => ?_) (fun c_37 => ?_)
          rotate_left
          · exact absurd (by decide) (of_decide_eq_false c_37)
          refine ps_st (S' := (52, [], [.int 0], M2)) rfl rfl rfl ?_
          exact ps_ret rfl rfl (Or.inr ⟨e59, by
              rw [← hs, flS_st (i := i) (by omega)]
              rw [q34_s]
              try dsimp only
              first | done | rfl, rfl, h60, h64, by omega⟩)
  refine ps_st (S' := (1, [(0, .ref o)], [.int 0], M)) rfl rfl rfl ?_
  refine ps_st (S' := (2, [(0, .ref o), (1, .int 0)], [], M)) rfl rfl rfl ?_
  exact (LL kf) (0) (z0) (s1) M h_ox h_og h_o h_c h_b h_da h_vd h_ac hV hM hM2  (tp0) (Nat.le_refl _) (by omega) (rfl)
set_option maxHeartbeats 1000000 in
theorem dk_methodsHold2 {g : xe_G} {M : mi_H} {f : Nat → Int32} {n N q : Nat} {E : List (Nat × Nat)} {o c b da vd ac fr fa ic mj na pa : Nat} {mi ru wa k1 k2 k3 k4 k5 k6 k7 : Int32} {ox : Nat} {og ga gf : Nat} {gn gw : Int32} {gk : Value} {s1 : Int32} {B : List Nat} {G : Nat → Nat} {mm : Nat} {B2 : List Nat} {G2 : Nat → Nat} {m2 kk2 : Nat} (h_ox : M.1 ox = some (ob 8 [.ref q, .int (nI mj), .ref vd])) (h_og : M.1 og = some (ob 11 [.ref ga, .int gn, .ref gf, gk, .int gw])) (h_o : M.1 o = some (ob 2 [.ref c, .ref b, .ref q, .ref vd, .ref ac])) (h_c : M.1 c = some (ob 3 [.ref b, .ref q, .int mi, .int (nI mj), .int (nI fa), .int (nI ic), .ref fr, .ref mm, .int (nI na), .int (nI pa), .int k1, .int k2, .int k3, .int k4, .int k5, .int k6, .int k7])) (h_b : M.1 b = some (ob 1 [.ref da])) (h_da : M.1 da = some (ar .byte n f)) (h_vd : M.1 vd = some (ob 10 [.int ru, .int wa])) (h_ac : M.1 ac = some (ob 0 [.ref c, .ref b, .ref q, .ref vd, .int s1])) (hn : n ≤ 65540) (hmj : mj < 65536) (hfa : fa + 8 ≤ n) (hB9 : B.length < 65536) (hB : ∀ i, i < B.length → B.getD i 0 + 8 ≤ n ∧ ∃ e0, s_atts f n (by2 f (B.getD i 0 + 6)) (B.getD i 0 + 8) = .inr e0) (hD : ∀ i j, i < B.length → j < B2.length → ¬ G i = G2 j) (l_o : o < M.2.1) (l_c : c < M.2.1) (l_b : b < M.2.1) (l_da : da < M.2.1) (l_vd : vd < M.2.1) (l_ac : ac < M.2.1) (l_q : q < M.2.1) (l_ox : ox < M.2.1) (l_og : og < M.2.1) (hV : PV g f n N E q M) (hM : MV f B mm G 0 M) (hM2 : MV f B2 m2 G2 kk2 M) : pt (mT g) 67 [.ref o] M (fun v M' => (∃ (s2 : Int32), (mtS f n E (by2 f fa) mj B B.length 0 = none) ∧ (PV g f n N E q M') ∧ (MV f B2 m2 G2 kk2 M') ∧ (MV f B mm G B.length M') ∧ v = some (.int 1) ∧ M'.1 ox = some (ob 8 [.ref q, .int (nI mj), .ref vd]) ∧ M'.1 og = some (ob 11 [.ref ga, .int gn, .ref gf, gk, .int gw]) ∧ M'.1 o = some (ob 2 [.ref c, .ref b, .ref q, .ref vd, .ref ac]) ∧ M'.1 c = some (ob 3 [.ref b, .ref q, .int mi, .int (nI mj), .int (nI fa), .int (nI ic), .ref fr, .ref mm, .int (nI na), .int (nI pa), .int k1, .int k2, .int k3, .int k4, .int k5, .int k6, .int k7]) ∧ M'.1 b = some (ob 1 [.ref da]) ∧ M'.1 da = some (ar .byte n f) ∧ M'.1 vd = some (ob 10 [.int ru, .int wa]) ∧ M'.1 ac = some (ob 0 [.ref c, .ref b, .ref q, .ref vd, .int s2]) ∧ M.2.1 ≤ M'.2.1) ∨ (∃ (e9 : Nat × Nat), (mtS f n E (by2 f fa) mj B B.length 0 = some e9) ∧ v = some (.int 0) ∧ M'.1 vd = some (ob 10 [.int (nI e9.1), .int (nI e9.2)]) ∧ M'.1 og = some (ob 11 [.ref ga, .int gn, .ref gf, gk, .int gw]) ∧ M.2.1 ≤ M'.2.1)) := by
  refine pt_in (b := mb_67 g) rfl (fun kf => ?_)
  show pl (mT g) kf (mb_67 g).2 (0, [(0, .ref o)], [], M) _
  obtain ⟨z0, tp0⟩ : ∃ z0, M.2.1 = z0 := ⟨_, rfl⟩
  have LL : ∀ (kf : Nat), (∀ (i t1 : Nat) (s2 : Int32) (M1 : mi_H), (M1.1 ox = some (ob 8 [.ref q, .int (nI mj), .ref vd])) → (M1.1 og = some (ob 11 [.ref ga, .int gn, .ref gf, gk, .int gw])) → (M1.1 o = some (ob 2 [.ref c, .ref b, .ref q, .ref vd, .ref ac])) → (M1.1 c = some (ob 3 [.ref b, .ref q, .int mi, .int (nI mj), .int (nI fa), .int (nI ic), .ref fr, .ref mm, .int (nI na), .int (nI pa), .int k1, .int k2, .int k3, .int k4, .int k5, .int k6, .int k7])) → (M1.1 b = some (ob 1 [.ref da])) → (M1.1 da = some (ar .byte n f)) → (M1.1 vd = some (ob 10 [.int ru, .int wa])) → (M1.1 ac = some (ob 0 [.ref c, .ref b, .ref q, .ref vd, .int s2])) → (PV g f n N E q M1) → (MV f B mm G i M1) → (MV f B2 m2 G2 kk2 M1) → (M1.2.1 = t1) → (z0 ≤ t1) → (i ≤ B.length) → (mtS f n E (by2 f fa) mj B (B.length - i) i = mtS f n E (by2 f fa) mj B B.length 0) →  pl (mT g) kf (mb_67 g).2 (2, [(0, .ref o), (1, .int (nI i))], [], M1) (fun v M' => (∃ (s2 : Int32), (mtS f n E (by2 f fa) mj B B.length 0 = none) ∧ (PV g f n N E q M') ∧ (MV f B2 m2 G2 kk2 M') ∧ (MV f B mm G B.length M') ∧ v = some (.int 1) ∧ M'.1 ox = some (ob 8 [.ref q, .int (nI mj), .ref vd]) ∧ M'.1 og = some (ob 11 [.ref ga, .int gn, .ref gf, gk, .int gw]) ∧ M'.1 o = some (ob 2 [.ref c, .ref b, .ref q, .ref vd, .ref ac]) ∧ M'.1 c = some (ob 3 [.ref b, .ref q, .int mi, .int (nI mj), .int (nI fa), .int (nI ic), .ref fr, .ref mm, .int (nI na), .int (nI pa), .int k1, .int k2, .int k3, .int k4, .int k5, .int k6, .int k7]) ∧ M'.1 b = some (ob 1 [.ref da]) ∧ M'.1 da = some (ar .byte n f) ∧ M'.1 vd = some (ob 10 [.int ru, .int wa]) ∧ M'.1 ac = some (ob 0 [.ref c, .ref b, .ref q, .ref vd, .int s2]) ∧ M.2.1 ≤ M'.2.1) ∨ (∃ (e9 : Nat × Nat), (mtS f n E (by2 f fa) mj B B.length 0 = some e9) ∧ v = some (.int 0) ∧ M'.1 vd = some (ob 10 [.int (nI e9.1), .int (nI e9.2)]) ∧ M'.1 og = some (ob 11 [.ref ga, .int gn, .ref gf, gk, .int gw]) ∧ M.2.1 ≤ M'.2.1))) := by
    intro kf
    induction kf with
    | zero => exact (by intros; exact pl_0)
    | succ kf ih =>
      intro i t1 s2 M1 hl_ox hl_og hl_o hl_c hl_b hl_da hl_vd hl_ac hV1 hM1 hM21 tp1 ht hi hs
      refine ps_st1 (S' := (3, [(0, .ref o), (1, .int (nI i))], [.int (nI i)], M1)) rfl rfl rfl ?_
      obtain ⟨R, h_mm, hR⟩ := hM1.2.1
      have l_mm := hM1.1
      refine ps_st (S' := (4, [(0, .ref o), (1, .int (nI i))], [.ref o, .int (nI i)], M1)) rfl rfl rfl ?_
      refine ps_get (S' := (7, [(0, .ref o), (1, .int (nI i))], [.ref c, .int (nI i)], M1)) rfl hl_o rfl rfl ?_
      refine ps_get (S' := (10, [(0, .ref o), (1, .int (nI i))], [.ref mm, .int (nI i)], M1)) rfl hl_c rfl rfl ?_
      refine ps_aalen (S' := (11, [(0, .ref o), (1, .int (nI i))], [.int (nI B.length), .int (nI i)], M1)) rfl h_mm rfl ?_
      refine ps_if2 (S1 := (67, [(0, .ref o), (1, .int (nI i))], [], M1)) (S2 := (14, [(0, .ref o), (1, .int (nI i))], [], M1)) rfl rfl rfl (fun c_11 => ?_) (fun c_11 => ?_)
      · have c_11 : (nI B.length) ≤ (nI i) := of_decide_eq_true c_11
        have n_11 : B.length ≤ i := (le_nI (p := B.length) (n := i) (by omega) (by omega)).mp c_11
        refine ps_st (S' := (68, [(0, .ref o), (1, .int (nI i))], [.int 1], M1)) rfl rfl rfl ?_
        exact ps_ret rfl rfl (Or.inl ⟨s2, by rw [← hs, show B.length - i = 0 by omega]; rfl, hV1, hM21, hM1.le (by omega), rfl, hl_ox, hl_og, hl_o, hl_c, hl_b, hl_da, hl_vd, hl_ac, by omega⟩)
      · have c_11 : ¬ ((nI B.length) ≤ (nI i)) := of_decide_eq_false c_11
        have n_11 : ¬ (B.length ≤ i) := fun h9 => c_11 ((le_nI (p := B.length) (n := i) (by omega) (by omega)).mpr h9)
        refine ps_st (S' := (15, [(0, .ref o), (1, .int (nI i))], [.ref o], M1)) rfl rfl rfl ?_
        refine ps_get (S' := (18, [(0, .ref o), (1, .int (nI i))], [.ref c], M1)) rfl hl_o rfl rfl ?_
        refine ps_get (S' := (21, [(0, .ref o), (1, .int (nI i))], [.ref mm], M1)) rfl hl_c rfl rfl ?_
        refine ps_st (S' := (22, [(0, .ref o), (1, .int (nI i))], [.int (nI i), .ref mm], M1)) rfl rfl rfl ?_
        obtain ⟨hl8, y1, y2, y3, y4, yv, hc8, hv8⟩ := hM1.2.2.2 i (by omega)
        obtain ⟨a, ha⟩ : ∃ a, G i = a := ⟨_, rfl⟩
        rw [ha] at hc8 hl8
        have hA : G i = a ∧ i < B.length ∧ i < i + 1 := ⟨ha, by omega, by omega⟩
        have hM9 := hM1.le (Nat.le_succ i)
        have hb0 : B.getD i 0 = B.getD i 0 := rfl
        have hv9 := (hv8 (Nat.le_refl _)).2.2.2.2
        subst hv9
        have hDa : ∀ j, j < B2.length → ¬ G2 j = a := fun j hj e9 => hD i j (by omega) hj (ha.trans e9.symm)
        obtain ⟨hb1, e0, hat⟩ := hB i (by omega)
        refine ps_aald (S' := (23, [(0, .ref o), (1, .int (nI i))], [.ref a], M1)) rfl h_mm (⟨by omega, by rw [hR i (by omega), ha]⟩) rfl ?_
        refine ps_st (S' := (24, [(2, .ref a), (0, .ref o), (1, .int (nI i))], [], M1)) rfl rfl rfl ?_
        refine ps_st (S' := (25, [(2, .ref a), (0, .ref o), (1, .int (nI i))], [.ref a], M1)) rfl rfl rfl ?_
        refine ps_st (S' := (31, [(2, .ref a), (0, .ref o), (1, .int (nI i))], [], M1)) rfl rfl rfl ?_
        refine ps_st (S' := (32, [(2, .ref a), (0, .ref o), (1, .int (nI i))], [.ref o], M1)) rfl rfl rfl ?_
        refine ps_st (S' := (33, [(2, .ref a), (0, .ref o), (1, .int (nI i))], [.ref a, .ref o], M1)) rfl rfl rfl ?_
        refine ps_st (S' := (34, [(2, .ref a), (0, .ref o), (1, .int (nI i))], [.int (nI i), .ref a, .ref o], M1)) rfl rfl rfl ?_
        refine pl_call (a := [.ref o, .ref a, .int (nI i)]) (rest := []) rfl rfl rfl (dk_methodHolds (f := f) (n := n) (N := N) (q := q) (E := E) (o := o) (c := c) (b := b) (da := da) (vd := vd) (ac := ac) (fr := fr) (fa := fa) (ic := ic) (mj := mj) (na := na) (pa := pa) (mi := mi) (ru := ru) (wa := wa) (k1 := k1) (k2 := k2) (k3 := k3) (k4 := k4) (k5 := k5) (k6 := k6) (k7 := k7) (a := a) (b0 := (B.getD i 0)) (kn := y1) (co := y2) (ap := y3) (ex := y4) (cd := .null) (B := B) (G := G) (mm := mm) (kk := (i + 1)) (i0 := i) hl_o hl_c hl_b hl_da hl_vd hc8 (hn) (hmj) (hfa) (hA) (rfl) (hB9) (hb1) (hV1) (hM9)) (fun v1 M2 q3 => ?_)
        rcases q3 with q3 | q3
        · skip
          obtain ⟨q34_s, rfl, h4, h5, f6⟩ := q3
          have h8 := (f6.1 ox (nin2 (ob_ne hl_ox hl_vd (by decide)) (ob_ne hl_ox hc8 (by decide)))).trans hl_ox
          have h9 := (f6.1 og (nin2 (ob_ne hl_og hl_vd (by decide)) (ob_ne hl_og hc8 (by decide)))).trans hl_og
          have h10 := (f6.1 o (nin2 (ob_ne hl_o hl_vd (by decide)) (ob_ne hl_o hc8 (by decide)))).trans hl_o
          have h11 := (f6.1 c (nin2 (ob_ne hl_c hl_vd (by decide)) (ob_ne hl_c hc8 (by decide)))).trans hl_c
          have h12 := (f6.1 b (nin2 (ob_ne hl_b hl_vd (by decide)) (ob_ne hl_b hc8 (by decide)))).trans hl_b
          have h13 := (f6.1 da (nin2 (Ne.symm (ob_ar hl_vd hl_da)) (Ne.symm (ob_ar hc8 hl_da)))).trans hl_da
          have h14 := (f6.1 ac (nin2 (ob_ne hl_ac hl_vd (by decide)) (ob_ne hl_ac hc8 (by decide)))).trans hl_ac
          have h15 := (f6.1 mm (nin2 (Ne.symm (ob_ro hl_vd h_mm)) (Ne.symm (ob_ro hc8 h_mm)))).trans h_mm
          have tp17 : M2.2.1 = t1 := by rw [f6.2]; exact tp1
          have hV18 := hV1.keep f6.gm (n7c hl_vd (by decide) (n7c hc8 (by decide) (n7nil)))
          have hV19 := hM9.keepA f6.gm (n6c hl_vd (by decide) (n6a (n6nil))) hA h5 hb0
          have hV20 := hM21.keepB f6.gm (n6c hl_vd (by decide) (n6a (n6nil))) hc8 hDa
          show pl _ _ _ (37, [(2, .ref a), (0, .ref o), (1, .int (nI i))], [.int 1], M2) _
          refine ps_if (S1 := (59, [], [], M2)) (S2 := (40, [(2, .ref a), (0, .ref o), (1, .int (nI i))], [], M2)) rfl rfl rfl (fun c_37 => ?_) (fun c_37 => ?_)
          · exact absurd (of_decide_eq_true c_37) (by decide)
          refine ps_st (S' := (41, [(2, .ref a), (0, .ref o), (1, .int (nI i))], [.ref o], M2)) rfl rfl rfl ?_
          refine ps_get (S' := (44, [(2, .ref a), (0, .ref o), (1, .int (nI i))], [.ref ac], M2)) rfl h10 rfl rfl ?_
          refine ps_st (S' := (45, [(2, .ref a), (0, .ref o), (1, .int (nI i))], [.ref a, .ref ac], M2)) rfl rfl rfl ?_
          refine pl_call (a := [.ref ac, .ref a]) (rest := []) rfl rfl rfl (dk_ofMethod (f := f) (n := n) (N := N) (q := q) (E := E) (ac := ac) (c := c) (b := b) (da := da) (vd := vd) (fr := fr) (mr := mm) (fa := fa) (ic := ic) (mj := mj) (na := na) (pa := pa) (mi := mi) (ru := ru) (wa := wa) (s1 := s2) (k1 := k1) (k2 := k2) (k3 := k3) (k4 := k4) (k5 := k5) (k6 := k6) (k7 := k7) (a := a) (b0 := (B.getD i 0)) (e0 := e0) (w := (apN f n E (B.getD i 0))) (kn := y1) (co := y2) (ex := y4) h14 h12 h13 h11 h4 h5 (hn) (hmj) (hb1) (hat) (Nat.lt_trans (apN_lt _ _ _ _) (by decide)) (hV18) (by omega) (by omega) (by omega) (by omega) (by omega) (by omega) (by omega)) (fun v21 M22 q23 => ?_)
          rcases q23 with q23 | q23
          · skip
            obtain ⟨h24, s225, kn226, ex227, cd228, q45_s, q45_h, rfl, h29, h30, h31, f32, tp33⟩ := q23
            have h34 := (f32.1 ox (by omega) (nin3 (ob_ne h8 h14 (by decide)) (ob_ne h8 h4 (by decide)) (ob_ne h8 h5 (by decide)))).trans h8
            have h35 := (f32.1 og (by omega) (nin3 (ob_ne h9 h14 (by decide)) (ob_ne h9 h4 (by decide)) (ob_ne h9 h5 (by decide)))).trans h9
            have h36 := (f32.1 o (by omega) (nin3 (ob_ne h10 h14 (by decide)) (ob_ne h10 h4 (by decide)) (ob_ne h10 h5 (by decide)))).trans h10
            have h37 := (f32.1 c (by omega) (nin3 (ob_ne h11 h14 (by decide)) (ob_ne h11 h4 (by decide)) (ob_ne h11 h5 (by decide)))).trans h11
            have h38 := (f32.1 b (by omega) (nin3 (ob_ne h12 h14 (by decide)) (ob_ne h12 h4 (by decide)) (ob_ne h12 h5 (by decide)))).trans h12
            have h39 := (f32.1 da (by omega) (nin3 (Ne.symm (ob_ar h14 h13)) (Ne.symm (ob_ar h4 h13)) (Ne.symm (ob_ar h5 h13)))).trans h13
            have h40 := (f32.1 mm (by omega) (nin3 (Ne.symm (ob_ro h14 h15)) (Ne.symm (ob_ro h4 h15)) (Ne.symm (ob_ro h5 h15)))).trans h15
            obtain ⟨t42, tp43⟩ : ∃ t9, M22.2.1 = t9 := ⟨_, rfl⟩
            rw [tp17, tp43] at tp33
            have hV44 := hV18.keep f32 (n7c h14 (by decide) (n7c h4 (by decide) (n7c h5 (by decide) (n7nil))))
            have hV45 := hV19.keepA f32 (n6c h14 (by decide) (n6c h4 (by decide) (n6a (n6nil)))) hA h31 hb0
            have hV46 := hV20.keepB f32 (n6c h14 (by decide) (n6c h4 (by decide) (n6a (n6nil)))) h5 hDa
            show pl _ _ _ (48, [(2, .ref a), (0, .ref o), (1, .int (nI i))], [.int 1], M22) _
            refine ps_if (S1 := (59, [], [], M22)) (S2 := (51, [(2, .ref a), (0, .ref o), (1, .int (nI i))], [], M22)) rfl rfl rfl (fun c_48 => ?_) (fun c_48 => ?_)
            · exact absurd (of_decide_eq_true c_48) (by decide)
            refine ps_st (S' := (52, [(2, .ref a), (0, .ref o), (1, .int (nI i))], [.ref o], M22)) rfl rfl rfl ?_
            refine ps_st (S' := (53, [(2, .ref a), (0, .ref o), (1, .int (nI i))], [.ref a, .ref o], M22)) rfl rfl rfl ?_
            refine pl_call (a := [.ref o, .ref a]) (rest := []) rfl rfl rfl (dk_codeIsDue (f := f) (n := n) (N := N) (q := q) (E := E) (o := o) (c := c) (b := b) (da := da) (vd := vd) (ac := ac) (fr := fr) (mr := mm) (fa := fa) (ic := ic) (mj := mj) (na := na) (pa := pa) (mi := mi) (ru := ru) (wa := wa) (k1 := k1) (k2 := k2) (k3 := k3) (k4 := k4) (k5 := k5) (k6 := k6) (k7 := k7) (a := a) (b0 := (B.getD i 0)) (kn := kn226) (co := y2) (ap := (nI (apN f n E (B.getD i 0)))) (ex := ex227) (cd := cd228) (h := h24) h36 h37 h38 h39 h29 h31 (hn) (hmj) (hfa) (q45_h) (hV44)) (fun v47 M48 q49 => ?_)
            rcases q49 with q49 | q49
            · skip
              obtain ⟨q53_s, rfl, h50, f51⟩ := q49
              have h53 := (f51.1 ox (nin1 (ob_ne h34 h29 (by decide)))).trans h34
              have h54 := (f51.1 og (nin1 (ob_ne h35 h29 (by decide)))).trans h35
              have h55 := (f51.1 o (nin1 (ob_ne h36 h29 (by decide)))).trans h36
              have h56 := (f51.1 c (nin1 (ob_ne h37 h29 (by decide)))).trans h37
              have h57 := (f51.1 b (nin1 (ob_ne h38 h29 (by decide)))).trans h38
              have h58 := (f51.1 da (nin1 (Ne.symm (ob_ar h29 h39)))).trans h39
              have h59 := (f51.1 ac (nin1 (ob_ne h30 h29 (by decide)))).trans h30
              have h60 := (f51.1 mm (nin1 (Ne.symm (ob_ro h29 h40)))).trans h40
              have h61 := (f51.1 a (nin1 (ob_ne h31 h29 (by decide)))).trans h31
              have tp63 : M48.2.1 = t42 := by rw [f51.2]; exact tp43
              have hV64 := hV44.keep f51.gm (n7c h29 (by decide) (n7nil))
              have hV65 := hV45.keep f51.gm (n6o h29 (by decide) (n6on))
              have hV66 := hV46.keep f51.gm (n6o h29 (by decide) (n6on))
              show pl _ _ _ (56, [(2, .ref a), (0, .ref o), (1, .int (nI i))], [.int 1], M48) _
              refine ps_if (S1 := (61, [(0, .ref o), (1, .int (nI i))], [], M48)) (S2 := (59, [], [], M48)) rfl rfl rfl (fun c_56 => ?_) (fun c_56 => ?_)
              rotate_left
              · exact absurd (by decide) (of_decide_eq_false c_56)
              refine ps_st (S' := (64, [(1, .int ((nI i) + 1)), (0, .ref o)], [], M48)) rfl rfl rfl ?_
              rw [nI_add1 (p := i) (k := 1) (x := 1) rfl (by omega)]
              show pl _ _ _ (_, [(1, .int (nI (i + 1))), (0, .ref o)], [], M48) _
              refine ps_st (S' := (2, [(0, .ref o), (1, .int (nI (i + 1)))], [], M48)) rfl rfl rfl ?_
              exact ih (i + 1) (t42) (s225) M48 h53 h54 h55 h56 h57 h58 h50 h59 hV64 hV65 hV66  (tp63) (by omega) (by omega) (by
                  rw [← hs, mtS_st (i := i) (by omega)]
                  rw [q34_s]
                  try dsimp only
                  rw [q45_s]
                  try dsimp only
                  rw [q53_s]
                  try dsimp only
                  first | done | rfl)
            · skip
              obtain ⟨e67, q53_s, rfl, h68, f69⟩ := q49
              have h71 := (f69.1 ox (nin1 (ob_ne h34 h29 (by decide)))).trans h34
              have h72 := (f69.1 og (nin1 (ob_ne h35 h29 (by decide)))).trans h35
              have h73 := (f69.1 o (nin1 (ob_ne h36 h29 (by decide)))).trans h36
              have h74 := (f69.1 c (nin1 (ob_ne h37 h29 (by decide)))).trans h37
              have h75 := (f69.1 b (nin1 (ob_ne h38 h29 (by decide)))).trans h38
              have h76 := (f69.1 da (nin1 (Ne.symm (ob_ar h29 h39)))).trans h39
              have h77 := (f69.1 ac (nin1 (ob_ne h30 h29 (by decide)))).trans h30
              have h78 := (f69.1 mm (nin1 (Ne.symm (ob_ro h29 h40)))).trans h40
              have h79 := (f69.1 a (nin1 (ob_ne h31 h29 (by decide)))).trans h31
              have tp81 : M48.2.1 = t42 := by rw [f69.2]; exact tp43
              have hV82 := hV44.keep f69.gm (n7c h29 (by decide) (n7nil))
              have hV83 := hV45.keep f69.gm (n6o h29 (by decide) (n6on))
              have hV84 := hV46.keep f69.gm (n6o h29 (by decide) (n6on))
              show pl _ _ _ (56, [(2, .ref a), (0, .ref o), (1, .int (nI i))], [.int 0], M48) _
              refine ps_if (S1 := (61, [(0, .ref o), (1, .int (nI i))], [], M48)) (S2 := (59, [], [], M48)) rfl rfl rfl (fun c_56 => ?_) (fun c_56 => ?_)
              · exact absurd (of_decide_eq_true c_56) (by decide)
              refine ps_st (S' := (60, [], [.int 0], M48)) rfl rfl rfl ?_
              exact ps_ret rfl rfl (Or.inr ⟨e67, by
                  rw [← hs, mtS_st (i := i) (by omega)]
                  rw [q34_s]
                  try dsimp only
                  rw [q45_s]
                  try dsimp only
                  rw [q53_s]
                  try dsimp only
                  first | done | rfl, rfl, h68, h72, by omega⟩)
          · skip
            obtain ⟨e985, q45_s, rfl, h86, f87, tp88⟩ := q23
            have h89 := (f87.1 ox (by omega) (nin3 (ob_ne h8 h14 (by decide)) (ob_ne h8 h4 (by decide)) (ob_ne h8 h5 (by decide)))).trans h8
            have h90 := (f87.1 og (by omega) (nin3 (ob_ne h9 h14 (by decide)) (ob_ne h9 h4 (by decide)) (ob_ne h9 h5 (by decide)))).trans h9
            have h91 := (f87.1 o (by omega) (nin3 (ob_ne h10 h14 (by decide)) (ob_ne h10 h4 (by decide)) (ob_ne h10 h5 (by decide)))).trans h10
            have h92 := (f87.1 c (by omega) (nin3 (ob_ne h11 h14 (by decide)) (ob_ne h11 h4 (by decide)) (ob_ne h11 h5 (by decide)))).trans h11
            have h93 := (f87.1 b (by omega) (nin3 (ob_ne h12 h14 (by decide)) (ob_ne h12 h4 (by decide)) (ob_ne h12 h5 (by decide)))).trans h12
            have h94 := (f87.1 da (by omega) (nin3 (Ne.symm (ob_ar h14 h13)) (Ne.symm (ob_ar h4 h13)) (Ne.symm (ob_ar h5 h13)))).trans h13
            have h95 := (f87.1 mm (by omega) (nin3 (Ne.symm (ob_ro h14 h15)) (Ne.symm (ob_ro h4 h15)) (Ne.symm (ob_ro h5 h15)))).trans h15
            obtain ⟨t97, tp98⟩ : ∃ t9, M22.2.1 = t9 := ⟨_, rfl⟩
            rw [tp17, tp98] at tp88
            have hV99 := hV18.keep f87 (n7c h14 (by decide) (n7c h4 (by decide) (n7c h5 (by decide) (n7nil))))
            have hV100 := hV20.keepB f87 (n6c h14 (by decide) (n6c h4 (by decide) (n6a (n6nil)))) h5 hDa
            show pl _ _ _ (48, [(2, .ref a), (0, .ref o), (1, .int (nI i))], [.int 0], M22) _
            refine ps_if (S1 := (59, [], [], M22)) (S2 := (51, [(2, .ref a), (0, .ref o), (1, .int (nI i))], [], M22)) rfl rfl rfl (fun c_48 => ?_) (fun c_48 => ?_)
            rotate_left
            · exact absurd (by decide) (of_decide_eq_false c_48)
            refine ps_st (S' := (60, [], [.int 0], M22)) rfl rfl rfl ?_
            exact ps_ret rfl rfl (Or.inr ⟨e985, by
                rw [← hs, mtS_st (i := i) (by omega)]
                rw [q34_s]
                try dsimp only
                rw [q45_s]
                try dsimp only
                first | done | rfl, rfl, h86, h90, by omega⟩)
        · skip
          obtain ⟨e101, q34_s, rfl, h102, f103⟩ := q3
          have h105 := (f103.1 ox (nin2 (ob_ne hl_ox hl_vd (by decide)) (ob_ne hl_ox hc8 (by decide)))).trans hl_ox
          have h106 := (f103.1 og (nin2 (ob_ne hl_og hl_vd (by decide)) (ob_ne hl_og hc8 (by decide)))).trans hl_og
          have h107 := (f103.1 o (nin2 (ob_ne hl_o hl_vd (by decide)) (ob_ne hl_o hc8 (by decide)))).trans hl_o
          have h108 := (f103.1 c (nin2 (ob_ne hl_c hl_vd (by decide)) (ob_ne hl_c hc8 (by decide)))).trans hl_c
          have h109 := (f103.1 b (nin2 (ob_ne hl_b hl_vd (by decide)) (ob_ne hl_b hc8 (by decide)))).trans hl_b
          have h110 := (f103.1 da (nin2 (Ne.symm (ob_ar hl_vd hl_da)) (Ne.symm (ob_ar hc8 hl_da)))).trans hl_da
          have h111 := (f103.1 ac (nin2 (ob_ne hl_ac hl_vd (by decide)) (ob_ne hl_ac hc8 (by decide)))).trans hl_ac
          have h112 := (f103.1 mm (nin2 (Ne.symm (ob_ro hl_vd h_mm)) (Ne.symm (ob_ro hc8 h_mm)))).trans h_mm
          have tp114 : M2.2.1 = t1 := by rw [f103.2]; exact tp1
          have hV115 := hV1.keep f103.gm (n7c hl_vd (by decide) (n7c hc8 (by decide) (n7nil)))
          have hV116 := hM21.keepB f103.gm (n6c hl_vd (by decide) (n6a (n6nil))) hc8 hDa
          show pl _ _ _ (37, [(2, .ref a), (0, .ref o), (1, .int (nI i))], [.int 0], M2) _
          refine ps_if (S1 := (59, [], [], M2)) (S2 := (40, [(2, .ref a), (0, .ref o), (1, .int (nI i))], [], M2)) rfl rfl rfl (fun c_37 => ?_) (fun c_37 => ?_)
          rotate_left
          · exact absurd (by decide) (of_decide_eq_false c_37)
          refine ps_st (S' := (60, [], [.int 0], M2)) rfl rfl rfl ?_
          exact ps_ret rfl rfl (Or.inr ⟨e101, by
              rw [← hs, mtS_st (i := i) (by omega)]
              rw [q34_s]
              try dsimp only
              first | done | rfl, rfl, h102, h106, by omega⟩)
  refine ps_st (S' := (1, [(0, .ref o)], [.int 0], M)) rfl rfl rfl ?_
  refine ps_st (S' := (2, [(0, .ref o), (1, .int 0)], [], M)) rfl rfl rfl ?_
  exact (LL kf) (0) (z0) (s1) M h_ox h_og h_o h_c h_b h_da h_vd h_ac hV hM hM2  (tp0) (Nat.le_refl _) (by omega) (rfl)
