/-! a file is read (laid by wip/p2/c56.py) -/
theorem WF.pool8 {g : xe_G} {Y : yT} {M : mi_H} {p : Nat} {pp : List Nat} (h : WF g Y M) (hY : Y.1 p = some (7, pp)) : ∃ n m t tp f s sh ch, pp = [n, m, t, tp, f, s, sh, ch] := by
  obtain ⟨size, n, m, q, f, cc, -, -, -, -, -, -, e⟩ := h.pool hY
  exact ⟨n, m, _, _, _, _, _, _, e⟩

set_option maxHeartbeats 2000000 in
theorem tg_isWhole {g : xe_G} {M : mi_H} {Y : yT} {c b da n vd : Nat}  (hW : WF g Y M) (hY0 : Y.1 c = some (3, [b, da, n])) (hY1 : Y.1 b = some (1, [da, n])) (hY2 : Y.1 vd = some (10, [])) {d : Nat} (hd : 6 ≤ d) : mt (mT g) d 13 [.ref c, .ref vd] M (fun v M' => ∃ Y', (∃ x : Int32, v = some (.int x) ∧ (x = 0 ∨ x = 1)) ∧ sa g Y M Y' M' (2 * n + 10) (7 * n + 18)) := by
  obtain ⟨d, rfl⟩ : ∃ e, d = e + 1 := ⟨d - 1, by omega⟩
  have hS : st g Y M M := st.rf hW
  refine mt_in (b := mb_13 g) rfl rfl ?_
  show ml (mT g) d (mb_13 g).2 (0, [(0, .ref c), (1, .ref vd)], [], M) _
  have hA := sa.rf hW
  have hW_hM2 := hS.1
  refine mm_newf (c := 0) (k := 9) (N := 5) (ds := [.null, .null, .null, .int 0, .int 0]) rfl hW_hM2 (fun M1 hM2 f3 => ?_)
  show ml _ _ _ (3, [(0, .ref c), (1, .ref vd)], [.ref M.2.1], M1) _
  refine ml_blk 3 (S' := (6, [(0, .ref c), (1, .ref vd)], [.ref vd, .ref c, .ref M.2.1, .ref M.2.1], M1)) rfl ?_
  refine ml_call (a := [.ref M.2.1, .ref c, .ref vd]) (rest := [.ref M.2.1]) rfl (okc_v rfl rfl rfl hM2.2.1) rfl rfl (tk_Reader hW_hM2 hM2 hY0 (by omega)) (fun v4 M5 h6 => ?_)
  obtain ⟨rfl, Y7, hM8, h9⟩ := h6
  have h10 := (h9 _ _ hY0).1
  have h11 := (h9 _ _ hY1).1
  have h12 := (h9 _ _ hY2).1
  refine mm_done (k := 9) (ps := [c, b, vd, n]) hM8 (okY_new (by decide) hM8.2.1 (by simp [sch]) ⟨rfl, rfl, rfl, ⟨_, rfl⟩, ⟨_, rfl⟩, trivial⟩ ⟨⟨_, (yadd_le hM8.2.2.1 _ _ h10).1, (yadd_le hM8.2.2.1 _ _ h11).1⟩, (yadd_le hM8.2.2.1 _ _ h12).1⟩ ⟨_, rfl, by decide, by show (0 : Int) ≤ _; omega⟩) (fun Y13 h14 h15 h16 => ?_)
  have h17 := (h15 _ _ h10).1
  have h18 := (h15 _ _ h11).1
  have h19 := (h15 _ _ h12).1
  have hA20 := (hA.st hS).tr h14.sa
  have hS21 := st.rf hA20.1
  show ml _ _ _ (9, [(0, .ref c), (1, .ref vd)], [.ref M.2.1], M5) _
  refine ml_st (S' := (10, [(2, .ref M.2.1), (0, .ref c), (1, .ref vd)], [], M5)) rfl rfl rfl ?_
  refine ml_st (S' := (11, [(2, .ref M.2.1), (0, .ref c), (1, .ref vd)], [.ref M.2.1], M5)) rfl rfl rfl ?_
  refine ml_call (a := [.ref M.2.1]) (rest := []) rfl (okc_t rfl rfl rfl hS21.1 h16 (by decide)) rfl rfl (tr_takesHead hS21.1 h16 h17 h18 h19 (by omega)) (fun v22 M23 h24 => ?_)
  obtain ⟨⟨u25, rfl, z26⟩, h24⟩ := h24
  have hS27 := hS21.tr h24
  show ml _ _ _ (14, [(2, .ref M.2.1), (0, .ref c), (1, .ref vd)], [.int u25], M23) _
  refine ml_if (S1 := (56, [], [], M23)) (S2 := (17, [(2, .ref M.2.1), (0, .ref c), (1, .ref vd)], [], M23)) rfl rfl rfl (fun c_14 => ?_) (fun c_14 => ?_)
  · have c_14 : u25 = 0 := of_decide_eq_true c_14
    refine ml_st (S' := (57, [], [.int 0], M23)) rfl rfl rfl ?_
    exact ml_ret rfl (r_z (Or.inl rfl)) (⟨Y13, ⟨_, rfl, Or.inl rfl⟩, (hA20.st hS27).le (by omega) (by omega)⟩)
  · have c_14 : ¬ (u25 = 0) := of_decide_eq_false c_14
    refine ml_st (S' := (18, [(2, .ref M.2.1), (0, .ref c), (1, .ref vd)], [.ref M.2.1], M23)) rfl rfl rfl ?_
    obtain ⟨u28, g29, -⟩ := hS27.1.rd h16
    refine ml_call (a := [.ref M.2.1]) (rest := []) rfl (okc_t rfl rfl rfl hS27.1 h16 (by decide)) rfl rfl (tr_takesPool hS27.1 h16 h17 h18 h19 g29 (by omega)) (fun v30 M31 h32 => ?_)
    obtain ⟨Y34, ⟨u33, rfl, z36⟩, hv35⟩ := h32
    have hA37 := (hA20.st hS27).tr hv35
    have hS38 := st.rf hA37.1
    have h39 := (hv35.2.1 _ _ h17).1
    have h40 := (hv35.2.1 _ _ h18).1
    have h41 := (hv35.2.1 _ _ h19).1
    have h42 := (hv35.2.1 _ _ h16).1
    show ml _ _ _ (21, [(2, .ref M.2.1), (0, .ref c), (1, .ref vd)], [.int u33], M31) _
    refine ml_if (S1 := (56, [], [], M31)) (S2 := (24, [(2, .ref M.2.1), (0, .ref c), (1, .ref vd)], [], M31)) rfl rfl rfl (fun c_21 => ?_) (fun c_21 => ?_)
    · have c_21 : u33 = 0 := of_decide_eq_true c_21
      refine ml_st (S' := (57, [], [.int 0], M31)) rfl rfl rfl ?_
      exact ml_ret rfl (r_z (Or.inl rfl)) (⟨Y34, ⟨_, rfl, Or.inl rfl⟩, (hA37.st hS38).le (by omega) (by omega)⟩)
    · have c_21 : ¬ (u33 = 0) := of_decide_eq_false c_21
      refine ml_st (S' := (25, [(2, .ref M.2.1), (0, .ref c), (1, .ref vd)], [.ref M.2.1], M31)) rfl rfl rfl ?_
      refine ml_call (a := [.ref M.2.1]) (rest := []) rfl (okc_t rfl rfl rfl hS38.1 h42 (by decide)) rfl rfl (tr_takesClass hS38.1 h42 h39 h40 h41 (by omega)) (fun v43 M44 h45 => ?_)
      obtain ⟨⟨u46, rfl, z47⟩, h45⟩ := h45
      have hS48 := hS38.tr h45
      show ml _ _ _ (28, [(2, .ref M.2.1), (0, .ref c), (1, .ref vd)], [.int u46], M44) _
      refine ml_if (S1 := (56, [], [], M44)) (S2 := (31, [(2, .ref M.2.1), (0, .ref c), (1, .ref vd)], [], M44)) rfl rfl rfl (fun c_28 => ?_) (fun c_28 => ?_)
      · have c_28 : u46 = 0 := of_decide_eq_true c_28
        refine ml_st (S' := (57, [], [.int 0], M44)) rfl rfl rfl ?_
        exact ml_ret rfl (r_z (Or.inl rfl)) (⟨Y34, ⟨_, rfl, Or.inl rfl⟩, (hA37.st hS48).le (by omega) (by omega)⟩)
      · have c_28 : ¬ (u46 = 0) := of_decide_eq_false c_28
        refine ml_st (S' := (32, [(2, .ref M.2.1), (0, .ref c), (1, .ref vd)], [.ref M.2.1], M44)) rfl rfl rfl ?_
        obtain ⟨u49, g50, -⟩ := hS48.1.rd h42
        refine ml_call (a := [.ref M.2.1]) (rest := []) rfl (okc_t rfl rfl rfl hS48.1 h42 (by decide)) rfl rfl (tr_takesFields hS48.1 h42 h39 h40 h41 g50 (by omega)) (fun v51 M52 h53 => ?_)
        obtain ⟨Y55, ⟨u54, rfl, z57⟩, hv56⟩ := h53
        have hA58 := (hA37.st hS48).tr hv56
        have hS59 := st.rf hA58.1
        have h60 := (hv56.2.1 _ _ h39).1
        have h61 := (hv56.2.1 _ _ h40).1
        have h62 := (hv56.2.1 _ _ h41).1
        have h63 := (hv56.2.1 _ _ h42).1
        show ml _ _ _ (35, [(2, .ref M.2.1), (0, .ref c), (1, .ref vd)], [.int u54], M52) _
        refine ml_if (S1 := (56, [], [], M52)) (S2 := (38, [(2, .ref M.2.1), (0, .ref c), (1, .ref vd)], [], M52)) rfl rfl rfl (fun c_35 => ?_) (fun c_35 => ?_)
        · have c_35 : u54 = 0 := of_decide_eq_true c_35
          refine ml_st (S' := (57, [], [.int 0], M52)) rfl rfl rfl ?_
          exact ml_ret rfl (r_z (Or.inl rfl)) (⟨Y55, ⟨_, rfl, Or.inl rfl⟩, (hA58.st hS59).le (by omega) (by omega)⟩)
        · have c_35 : ¬ (u54 = 0) := of_decide_eq_false c_35
          refine ml_st (S' := (39, [(2, .ref M.2.1), (0, .ref c), (1, .ref vd)], [.ref M.2.1], M52)) rfl rfl rfl ?_
          obtain ⟨u64, g65, -⟩ := hS59.1.rd h63
          refine ml_call (a := [.ref M.2.1]) (rest := []) rfl (okc_t rfl rfl rfl hS59.1 h63 (by decide)) rfl rfl (tr_takesMethods hS59.1 h63 h60 h61 h62 g65 (by omega)) (fun v66 M67 h68 => ?_)
          obtain ⟨Y70, ⟨u69, rfl, z72⟩, hv71⟩ := h68
          have hA73 := (hA58.st hS59).tr hv71
          have hS74 := st.rf hA73.1
          have h75 := (hv71.2.1 _ _ h60).1
          have h76 := (hv71.2.1 _ _ h61).1
          have h77 := (hv71.2.1 _ _ h62).1
          have h78 := (hv71.2.1 _ _ h63).1
          show ml _ _ _ (42, [(2, .ref M.2.1), (0, .ref c), (1, .ref vd)], [.int u69], M67) _
          refine ml_if (S1 := (56, [], [], M67)) (S2 := (45, [(2, .ref M.2.1), (0, .ref c), (1, .ref vd)], [], M67)) rfl rfl rfl (fun c_42 => ?_) (fun c_42 => ?_)
          · have c_42 : u69 = 0 := of_decide_eq_true c_42
            refine ml_st (S' := (57, [], [.int 0], M67)) rfl rfl rfl ?_
            exact ml_ret rfl (r_z (Or.inl rfl)) (⟨Y70, ⟨_, rfl, Or.inl rfl⟩, (hA73.st hS74).le (by omega) (by omega)⟩)
          · have c_42 : ¬ (u69 = 0) := of_decide_eq_false c_42
            refine ml_st (S' := (46, [(2, .ref M.2.1), (0, .ref c), (1, .ref vd)], [.ref M.2.1], M67)) rfl rfl rfl ?_
            refine ml_call (a := [.ref M.2.1]) (rest := []) rfl (okc_t rfl rfl rfl hS74.1 h78 (by decide)) rfl rfl (tr_takesEnd hS74.1 h78 h75 h76 h77 (by omega)) (fun v79 M80 h81 => ?_)
            obtain ⟨⟨u82, rfl, z83⟩, h81⟩ := h81
            have hS84 := hS74.tr h81
            show ml _ _ _ (49, [(2, .ref M.2.1), (0, .ref c), (1, .ref vd)], [.int u82], M80) _
            refine ml_if (S1 := (56, [], [], M80)) (S2 := (52, [(2, .ref M.2.1), (0, .ref c), (1, .ref vd)], [], M80)) rfl rfl rfl (fun c_49 => ?_) (fun c_49 => ?_)
            · have c_49 : u82 = 0 := of_decide_eq_true c_49
              refine ml_st (S' := (57, [], [.int 0], M80)) rfl rfl rfl ?_
              exact ml_ret rfl (r_z (Or.inl rfl)) (⟨Y70, ⟨_, rfl, Or.inl rfl⟩, (hA73.st hS84).le (by omega) (by omega)⟩)
            · have c_49 : ¬ (u82 = 0) := of_decide_eq_false c_49
              refine ml_st (S' := (53, [(2, .ref M.2.1), (0, .ref c), (1, .ref vd)], [.int 1], M80)) rfl rfl rfl ?_
              refine ml_st (S' := (57, [], [.int 1], M80)) rfl rfl rfl ?_
              exact ml_ret rfl (r_z (Or.inr rfl)) (⟨Y70, ⟨_, rfl, Or.inr rfl⟩, (hA73.st hS84).le (by omega) (by omega)⟩)
set_option maxHeartbeats 2000000 in
theorem tg_holds {g : xe_G} {M : mi_H} {Y : yT} {c b da n vd : Nat}  (hW : WF g Y M) (hY0 : Y.1 c = some (3, [b, da, n])) (hY1 : Y.1 b = some (1, [da, n])) (hY2 : Y.1 vd = some (10, [])) {d : Nat} (hd : 14 ≤ d) : mt (mT g) d 11 [.ref c, .ref vd] M (fun v M' => ∃ Y', (∃ x : Int32, v = some (.int x) ∧ (x = 0 ∨ x = 1)) ∧ sa g Y M Y' M' (n + 3) (3 * n + 13)) := by
  obtain ⟨d, rfl⟩ : ∃ e, d = e + 1 := ⟨d - 1, by omega⟩
  have hS : st g Y M M := st.rf hW
  refine mt_in (b := mb_11 g) rfl rfl ?_
  show ml (mT g) d (mb_11 g).2 (0, [(0, .ref c), (1, .ref vd)], [], M) _
  have hA := sa.rf hW
  refine ml_st (S' := (1, [(0, .ref c), (1, .ref vd)], [.ref c], M)) rfl rfl rfl ?_
  refine tg_vo rfl hS.1 hY0 (by decide) rfl (fun b1 g3 h2 => ?_)
  obtain ⟨s4, h2⟩ := h2
  show ml _ _ _ (4, [(0, .ref c), (1, .ref vd)], [.ref b1], M) _
  obtain ⟨n5, m6, t7, tp8, f9, s10, sh11, ch12, rfl⟩ := hS.1.pool8 h2
  refine ml_call (a := [.ref b1]) (rest := []) rfl (okc_t rfl rfl rfl hS.1 h2 (by decide)) rfl rfl (tm_describeTexts hS.1 h2 (by omega)) (fun v13 M14 h15 => ?_)
  obtain ⟨rfl, h15⟩ := h15
  have hS17 := hS.tr h15
  show ml _ _ _ (7, [(0, .ref c), (1, .ref vd)], [], M14) _
  obtain ⟨vq, gp1, p1, rfl, pp1, hp1⟩ := hS17.1.get (j := 1) hY0 (by decide) rfl
  obtain ⟨mj, gmj⟩ := hS17.1.int (j := 3) hY0 (by decide) rfl
  have hW_hM19 := hS17.1
  refine mm_newf (c := 0) (k := 8) (N := 3) (ds := [.null, .int 0, .null]) rfl hW_hM19 (fun M18 hM19 f20 => ?_)
  have g21 := gf_fr (f20 c (Nat.ne_of_lt (hW_hM19.2.1 _ _ hY0))) gp1
  have g22 := gf_fr (f20 c (Nat.ne_of_lt (hW_hM19.2.1 _ _ hY0))) gmj
  show ml _ _ _ (10, [(0, .ref c), (1, .ref vd)], [.ref M14.2.1], M18) _
  refine ml_blk 3 (S' := (13, [(0, .ref c), (1, .ref vd)], [.ref vd, .ref c, .ref M14.2.1, .ref M14.2.1], M18)) rfl ?_
  refine ml_call (a := [.ref M14.2.1, .ref c, .ref vd]) (rest := [.ref M14.2.1]) rfl (okc_v rfl rfl rfl hM19.2.1) rfl rfl (tk_PoolCheck hW_hM19 hM19 hY0 g21 g22 (by omega)) (fun v23 M24 h25 => ?_)
  obtain ⟨rfl, Y26, hM27, h28⟩ := h25
  have h29 := (h28 _ _ hY0).1
  have h30 := (h28 _ _ hY1).1
  have h31 := (h28 _ _ hY2).1
  have h32 := (h28 _ _ h2).1
  have h33 := (h28 _ _ hp1).1
  refine mm_done (k := 8) (ps := [p1, vd]) hM27 (okY_new (by decide) hM27.2.1 (by simp [sch]) ⟨rfl, ⟨_, rfl⟩, rfl, trivial⟩ ⟨⟨_, (yadd_le hM27.2.2.1 _ _ h33).1⟩, (yadd_le hM27.2.2.1 _ _ h31).1⟩ trivial) (fun Y34 h35 h36 h37 => ?_)
  have h38 := (h36 _ _ h29).1
  have h39 := (h36 _ _ h30).1
  have h40 := (h36 _ _ h31).1
  have h41 := (h36 _ _ h32).1
  have h42 := (h36 _ _ h33).1
  have hA43 := (hA.st hS17).tr h35.sa
  have hS44 := st.rf hA43.1
  have g45 := gf_fr (h35.2.2.2.2 c (hW_hM19.2.1 _ _ hY0)) gp1
  have g46 := gf_fr (h35.2.2.2.2 c (hW_hM19.2.1 _ _ hY0)) gmj
  show ml _ _ _ (16, [(0, .ref c), (1, .ref vd)], [.ref M14.2.1], M24) _
  refine ml_st (S' := (17, [(2, .ref M14.2.1), (0, .ref c), (1, .ref vd)], [], M24)) rfl rfl rfl ?_
  have hW_hM48 := hS44.1
  refine mm_newf (c := 0) (k := 0) (N := 5) (ds := [.null, .null, .null, .null, .int 0]) rfl hW_hM48 (fun M47 hM48 f49 => ?_)
  have g50 := gf_fr (f49 c (Nat.ne_of_lt (hW_hM48.2.1 _ _ h38))) g45
  have g51 := gf_fr (f49 c (Nat.ne_of_lt (hW_hM48.2.1 _ _ h38))) g46
  show ml _ _ _ (20, [(2, .ref M14.2.1), (0, .ref c), (1, .ref vd)], [.ref M24.2.1], M47) _
  refine ml_blk 3 (S' := (23, [(2, .ref M14.2.1), (0, .ref c), (1, .ref vd)], [.ref vd, .ref c, .ref M24.2.1, .ref M24.2.1], M47)) rfl ?_
  refine ml_call (a := [.ref M24.2.1, .ref c, .ref vd]) (rest := [.ref M24.2.1]) rfl (okc_v rfl rfl rfl hM48.2.1) rfl rfl (tk_AttributeCheck hW_hM48 hM48 h38 g50 (by omega)) (fun v52 M53 h54 => ?_)
  obtain ⟨rfl, Y55, hM56, h57⟩ := h54
  have h58 := (h57 _ _ h38).1
  have h59 := (h57 _ _ h39).1
  have h60 := (h57 _ _ h40).1
  have h61 := (h57 _ _ h41).1
  have h62 := (h57 _ _ h42).1
  have h63 := (h57 _ _ h37).1
  refine mm_done (k := 0) (ps := [c, b, p1, vd]) hM56 (okY_new (by decide) hM56.2.1 (by simp [sch]) ⟨rfl, rfl, rfl, rfl, ⟨_, rfl⟩, trivial⟩ ⟨⟨_, _, (yadd_le hM56.2.2.1 _ _ h58).1, (yadd_le hM56.2.2.1 _ _ h59).1⟩, ⟨_, (yadd_le hM56.2.2.1 _ _ h62).1⟩, (yadd_le hM56.2.2.1 _ _ h60).1⟩ trivial) (fun Y64 h65 h66 h67 => ?_)
  have h68 := (h66 _ _ h58).1
  have h69 := (h66 _ _ h59).1
  have h70 := (h66 _ _ h60).1
  have h71 := (h66 _ _ h61).1
  have h72 := (h66 _ _ h62).1
  have h73 := (h66 _ _ h63).1
  have hA74 := (hA43.st hS44).tr h65.sa
  have hS75 := st.rf hA74.1
  have g76 := gf_fr (h65.2.2.2.2 c (hW_hM48.2.1 _ _ h38)) g45
  have g77 := gf_fr (h65.2.2.2.2 c (hW_hM48.2.1 _ _ h38)) g46
  show ml _ _ _ (26, [(2, .ref M14.2.1), (0, .ref c), (1, .ref vd)], [.ref M24.2.1], M53) _
  refine ml_st (S' := (27, [(3, .ref M24.2.1), (2, .ref M14.2.1), (0, .ref c), (1, .ref vd)], [], M53)) rfl rfl rfl ?_
  have hW_hM79 := hS75.1
  refine mm_newf (c := 0) (k := 2) (N := 5) (ds := [.null, .null, .null, .null, .null]) rfl hW_hM79 (fun M78 hM79 f80 => ?_)
  have g81 := gf_fr (f80 c (Nat.ne_of_lt (hW_hM79.2.1 _ _ h68))) g76
  have g82 := gf_fr (f80 c (Nat.ne_of_lt (hW_hM79.2.1 _ _ h68))) g77
  show ml _ _ _ (30, [(3, .ref M24.2.1), (2, .ref M14.2.1), (0, .ref c), (1, .ref vd)], [.ref M53.2.1], M78) _
  refine ml_blk 3 (S' := (33, [(3, .ref M24.2.1), (2, .ref M14.2.1), (0, .ref c), (1, .ref vd)], [.ref vd, .ref c, .ref M53.2.1, .ref M53.2.1], M78)) rfl ?_
  refine ml_st (S' := (34, [(3, .ref M24.2.1), (2, .ref M14.2.1), (0, .ref c), (1, .ref vd)], [.ref M24.2.1, .ref vd, .ref c, .ref M53.2.1, .ref M53.2.1], M78)) rfl rfl rfl ?_
  refine ml_call (a := [.ref M53.2.1, .ref c, .ref vd, .ref M24.2.1]) (rest := [.ref M53.2.1]) rfl (okc_v rfl rfl rfl hM79.2.1) rfl rfl (tk_ClassCheck hW_hM79 hM79 h68 g81 (by omega)) (fun v83 M84 h85 => ?_)
  obtain ⟨rfl, Y86, hM87, h88⟩ := h85
  have h89 := (h88 _ _ h68).1
  have h90 := (h88 _ _ h69).1
  have h91 := (h88 _ _ h70).1
  have h92 := (h88 _ _ h71).1
  have h93 := (h88 _ _ h72).1
  have h94 := (h88 _ _ h73).1
  have h95 := (h88 _ _ h67).1
  refine mm_done (k := 2) (ps := [c, b, p1, vd, M24.2.1]) hM87 (okY_new (by decide) hM87.2.1 (by simp [sch]) ⟨rfl, rfl, rfl, rfl, rfl, trivial⟩ ⟨⟨_, _, (yadd_le hM87.2.2.1 _ _ h89).1, (yadd_le hM87.2.2.1 _ _ h90).1⟩, ⟨_, (yadd_le hM87.2.2.1 _ _ h93).1⟩, (yadd_le hM87.2.2.1 _ _ h91).1, (yadd_le hM87.2.2.1 _ _ h95).1⟩ trivial) (fun Y96 h97 h98 h99 => ?_)
  have h100 := (h98 _ _ h89).1
  have h101 := (h98 _ _ h90).1
  have h102 := (h98 _ _ h91).1
  have h103 := (h98 _ _ h92).1
  have h104 := (h98 _ _ h93).1
  have h105 := (h98 _ _ h94).1
  have h106 := (h98 _ _ h95).1
  have hA107 := (hA74.st hS75).tr h97.sa
  have hS108 := st.rf hA107.1
  have g109 := gf_fr (h97.2.2.2.2 c (hW_hM79.2.1 _ _ h68)) g76
  have g110 := gf_fr (h97.2.2.2.2 c (hW_hM79.2.1 _ _ h68)) g77
  show ml _ _ _ (37, [(3, .ref M24.2.1), (2, .ref M14.2.1), (0, .ref c), (1, .ref vd)], [.ref M53.2.1], M84) _
  refine ml_st (S' := (39, [(4, .ref M53.2.1), (3, .ref M24.2.1), (2, .ref M14.2.1), (0, .ref c), (1, .ref vd)], [], M84)) rfl rfl rfl ?_
  refine ml_st (S' := (40, [(4, .ref M53.2.1), (3, .ref M24.2.1), (2, .ref M14.2.1), (0, .ref c), (1, .ref vd)], [.ref M14.2.1], M84)) rfl rfl rfl ?_
  refine ml_call (a := [.ref M14.2.1]) (rest := []) rfl (okc_t rfl rfl rfl hS108.1 h105 (by decide)) rfl rfl (tw_Po_entriesHold hS108.1 h105 h104 h102 (by omega)) (fun v111 M112 h113 => ?_)
  obtain ⟨⟨u114, rfl, z115⟩, h113⟩ := h113
  have hS116 := hS108.tr h113
  show ml _ _ _ (43, [(4, .ref M53.2.1), (3, .ref M24.2.1), (2, .ref M14.2.1), (0, .ref c), (1, .ref vd)], [.int u114], M112) _
  refine ml_if (S1 := (100, [], [], M112)) (S2 := (46, [(4, .ref M53.2.1), (3, .ref M24.2.1), (2, .ref M14.2.1), (0, .ref c), (1, .ref vd)], [], M112)) rfl rfl rfl (fun c_43 => ?_) (fun c_43 => ?_)
  · have c_43 : u114 = 0 := of_decide_eq_true c_43
    refine ml_st (S' := (101, [], [.int 0], M112)) rfl rfl rfl ?_
    exact ml_ret rfl (r_z (Or.inl rfl)) (⟨Y96, ⟨_, rfl, Or.inl rfl⟩, (hA107.st hS116).le (by omega) (by omega)⟩)
  · have c_43 : ¬ (u114 = 0) := of_decide_eq_false c_43
    refine ml_st (S' := (48, [(4, .ref M53.2.1), (3, .ref M24.2.1), (2, .ref M14.2.1), (0, .ref c), (1, .ref vd)], [.ref M53.2.1], M112)) rfl rfl rfl ?_
    refine ml_call (a := [.ref M53.2.1]) (rest := []) rfl (okc_t rfl rfl rfl hS116.1 h99 (by decide)) rfl rfl (tw_Cl_headHolds hS116.1 h99 h100 h101 h104 h102 h106 (by omega)) (fun v117 M118 h119 => ?_)
    obtain ⟨⟨u120, rfl, z121⟩, h119⟩ := h119
    have hS122 := hS116.tr h119
    show ml _ _ _ (51, [(4, .ref M53.2.1), (3, .ref M24.2.1), (2, .ref M14.2.1), (0, .ref c), (1, .ref vd)], [.int u120], M118) _
    refine ml_if (S1 := (100, [], [], M118)) (S2 := (54, [(4, .ref M53.2.1), (3, .ref M24.2.1), (2, .ref M14.2.1), (0, .ref c), (1, .ref vd)], [], M118)) rfl rfl rfl (fun c_51 => ?_) (fun c_51 => ?_)
    · have c_51 : u120 = 0 := of_decide_eq_true c_51
      refine ml_st (S' := (101, [], [.int 0], M118)) rfl rfl rfl ?_
      exact ml_ret rfl (r_z (Or.inl rfl)) (⟨Y96, ⟨_, rfl, Or.inl rfl⟩, (hA107.st hS122).le (by omega) (by omega)⟩)
    · have c_51 : ¬ (u120 = 0) := of_decide_eq_false c_51
      refine ml_st (S' := (56, [(4, .ref M53.2.1), (3, .ref M24.2.1), (2, .ref M14.2.1), (0, .ref c), (1, .ref vd)], [.ref M53.2.1], M118)) rfl rfl rfl ?_
      refine ml_call (a := [.ref M53.2.1]) (rest := []) rfl (okc_t rfl rfl rfl hS122.1 h99 (by decide)) rfl rfl (tw_Cl_interfacesHold hS122.1 h99 h100 h101 h104 h102 h106 (by omega)) (fun v123 M124 h125 => ?_)
      obtain ⟨⟨u126, rfl, z127⟩, h125⟩ := h125
      have hS128 := hS122.tr h125
      show ml _ _ _ (59, [(4, .ref M53.2.1), (3, .ref M24.2.1), (2, .ref M14.2.1), (0, .ref c), (1, .ref vd)], [.int u126], M124) _
      refine ml_if (S1 := (100, [], [], M124)) (S2 := (62, [(4, .ref M53.2.1), (3, .ref M24.2.1), (2, .ref M14.2.1), (0, .ref c), (1, .ref vd)], [], M124)) rfl rfl rfl (fun c_59 => ?_) (fun c_59 => ?_)
      · have c_59 : u126 = 0 := of_decide_eq_true c_59
        refine ml_st (S' := (101, [], [.int 0], M124)) rfl rfl rfl ?_
        exact ml_ret rfl (r_z (Or.inl rfl)) (⟨Y96, ⟨_, rfl, Or.inl rfl⟩, (hA107.st hS128).le (by omega) (by omega)⟩)
      · have c_59 : ¬ (u126 = 0) := of_decide_eq_false c_59
        refine ml_st (S' := (64, [(4, .ref M53.2.1), (3, .ref M24.2.1), (2, .ref M14.2.1), (0, .ref c), (1, .ref vd)], [.ref M53.2.1], M124)) rfl rfl rfl ?_
        refine ml_call (a := [.ref M53.2.1]) (rest := []) rfl (okc_t rfl rfl rfl hS128.1 h99 (by decide)) rfl rfl (tw_Cl_fieldsHold hS128.1 h99 h100 h101 h104 h102 h106 (by omega)) (fun v129 M130 h131 => ?_)
        obtain ⟨⟨u132, rfl, z133⟩, h131⟩ := h131
        have hS134 := hS128.tr h131
        show ml _ _ _ (67, [(4, .ref M53.2.1), (3, .ref M24.2.1), (2, .ref M14.2.1), (0, .ref c), (1, .ref vd)], [.int u132], M130) _
        refine ml_if (S1 := (100, [], [], M130)) (S2 := (70, [(4, .ref M53.2.1), (3, .ref M24.2.1), (2, .ref M14.2.1), (0, .ref c), (1, .ref vd)], [], M130)) rfl rfl rfl (fun c_67 => ?_) (fun c_67 => ?_)
        · have c_67 : u132 = 0 := of_decide_eq_true c_67
          refine ml_st (S' := (101, [], [.int 0], M130)) rfl rfl rfl ?_
          exact ml_ret rfl (r_z (Or.inl rfl)) (⟨Y96, ⟨_, rfl, Or.inl rfl⟩, (hA107.st hS134).le (by omega) (by omega)⟩)
        · have c_67 : ¬ (u132 = 0) := of_decide_eq_false c_67
          refine ml_st (S' := (72, [(4, .ref M53.2.1), (3, .ref M24.2.1), (2, .ref M14.2.1), (0, .ref c), (1, .ref vd)], [.ref M53.2.1], M130)) rfl rfl rfl ?_
          refine ml_call (a := [.ref M53.2.1]) (rest := []) rfl (okc_t rfl rfl rfl hS134.1 h99 (by decide)) rfl rfl (tx_methodsHold hS134.1 h99 h100 h101 h104 h102 h106 (by omega)) (fun v135 M136 h137 => ?_)
          obtain ⟨Y139, ⟨u138, rfl, z141⟩, hv140⟩ := h137
          have hA142 := (hA107.st hS134).tr hv140
          have hS143 := st.rf hA142.1
          have h144 := (hv140.2.1 _ _ h100).1
          have h145 := (hv140.2.1 _ _ h101).1
          have h146 := (hv140.2.1 _ _ h102).1
          have h147 := (hv140.2.1 _ _ h103).1
          have h148 := (hv140.2.1 _ _ h104).1
          have h149 := (hv140.2.1 _ _ h105).1
          have h150 := (hv140.2.1 _ _ h106).1
          have h151 := (hv140.2.1 _ _ h99).1
          show ml _ _ _ (75, [(4, .ref M53.2.1), (3, .ref M24.2.1), (2, .ref M14.2.1), (0, .ref c), (1, .ref vd)], [.int u138], M136) _
          refine ml_if (S1 := (100, [], [], M136)) (S2 := (78, [(4, .ref M53.2.1), (3, .ref M24.2.1), (2, .ref M14.2.1), (0, .ref c), (1, .ref vd)], [], M136)) rfl rfl rfl (fun c_75 => ?_) (fun c_75 => ?_)
          · have c_75 : u138 = 0 := of_decide_eq_true c_75
            refine ml_st (S' := (101, [], [.int 0], M136)) rfl rfl rfl ?_
            exact ml_ret rfl (r_z (Or.inl rfl)) (⟨Y139, ⟨_, rfl, Or.inl rfl⟩, (hA142.st hS143).le (by omega) (by omega)⟩)
          · have c_75 : ¬ (u138 = 0) := of_decide_eq_false c_75
            refine ml_st (S' := (79, [(4, .ref M53.2.1), (3, .ref M24.2.1), (2, .ref M14.2.1), (0, .ref c), (1, .ref vd)], [.ref M24.2.1], M136)) rfl rfl rfl ?_
            refine ml_call (a := [.ref M24.2.1]) (rest := []) rfl (okc_t rfl rfl rfl hS143.1 h150 (by decide)) rfl rfl (tw_At_ofClass hS143.1 h150 h144 h145 h148 h146 (by omega)) (fun v152 M153 h154 => ?_)
            obtain ⟨⟨u155, rfl, z156⟩, h154⟩ := h154
            have hS157 := hS143.tr h154
            show ml _ _ _ (82, [(4, .ref M53.2.1), (3, .ref M24.2.1), (2, .ref M14.2.1), (0, .ref c), (1, .ref vd)], [.int u155], M153) _
            refine ml_if (S1 := (100, [], [], M153)) (S2 := (85, [(4, .ref M53.2.1), (3, .ref M24.2.1), (2, .ref M14.2.1), (0, .ref c), (1, .ref vd)], [], M153)) rfl rfl rfl (fun c_82 => ?_) (fun c_82 => ?_)
            · have c_82 : u155 = 0 := of_decide_eq_true c_82
              refine ml_st (S' := (101, [], [.int 0], M153)) rfl rfl rfl ?_
              exact ml_ret rfl (r_z (Or.inl rfl)) (⟨Y139, ⟨_, rfl, Or.inl rfl⟩, (hA142.st hS157).le (by omega) (by omega)⟩)
            · have c_82 : ¬ (u155 = 0) := of_decide_eq_false c_82
              refine ml_blk 2 (S' := (87, [(4, .ref M53.2.1), (3, .ref M24.2.1), (2, .ref M14.2.1), (0, .ref c), (1, .ref vd)], [.ref c, .ref M14.2.1], M153)) rfl ?_
              refine tg_int rfl hS157.1 h144 (by decide) rfl (fun u158 g159 => ?_)
              show ml _ _ _ (90, [(4, .ref M53.2.1), (3, .ref M24.2.1), (2, .ref M14.2.1), (0, .ref c), (1, .ref vd)], [.int u158, .ref M14.2.1], M153) _
              refine ml_call (a := [.ref M14.2.1, .int u158]) (rest := []) rfl (okc_t rfl rfl rfl hS157.1 h149 (by decide)) rfl rfl (tw_Po_bootstrapsHold hS157.1 h149 h148 h146 (by omega)) (fun v160 M161 h162 => ?_)
              obtain ⟨⟨u163, rfl, z164⟩, h162⟩ := h162
              have hS165 := hS157.tr h162
              show ml _ _ _ (93, [(4, .ref M53.2.1), (3, .ref M24.2.1), (2, .ref M14.2.1), (0, .ref c), (1, .ref vd)], [.int u163], M161) _
              refine ml_if (S1 := (100, [], [], M161)) (S2 := (96, [(4, .ref M53.2.1), (3, .ref M24.2.1), (2, .ref M14.2.1), (0, .ref c), (1, .ref vd)], [], M161)) rfl rfl rfl (fun c_93 => ?_) (fun c_93 => ?_)
              · have c_93 : u163 = 0 := of_decide_eq_true c_93
                refine ml_st (S' := (101, [], [.int 0], M161)) rfl rfl rfl ?_
                exact ml_ret rfl (r_z (Or.inl rfl)) (⟨Y139, ⟨_, rfl, Or.inl rfl⟩, (hA142.st hS165).le (by omega) (by omega)⟩)
              · have c_93 : ¬ (u163 = 0) := of_decide_eq_false c_93
                refine ml_st (S' := (97, [(4, .ref M53.2.1), (3, .ref M24.2.1), (2, .ref M14.2.1), (0, .ref c), (1, .ref vd)], [.int 1], M161)) rfl rfl rfl ?_
                refine ml_st (S' := (101, [], [.int 1], M161)) rfl rfl rfl ?_
                exact ml_ret rfl (r_z (Or.inr rfl)) (⟨Y139, ⟨_, rfl, Or.inr rfl⟩, (hA142.st hS165).le (by omega) (by omega)⟩)
