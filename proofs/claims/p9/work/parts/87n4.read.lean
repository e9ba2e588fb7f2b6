/-! read, whatever is kept (laid by wip/p2/c58r.py) -/
set_option maxHeartbeats 2000000 in
theorem tq_read0 {g : xe_G} {M : mi_H} {Y : yT} {x cm fl B m n : Nat} {cc wp : Int32} {kv : Value} (hW : WF g Y M) (hx : M.1 x = some (ob 11 [.ref cm, .int cc, .ref fl, kv, .int wp])) (hxn : Y.1 x = none) (hxl : x < M.2.1) (hlit : ∀ i, i < 15 → g.2.1 i ≠ x) (hst : Y.1 g.1 = some (24, [0])) (hfl : Y.1 fl = some (24, [n])) (hnB : n ≤ B) (hB : B ≤ 65540) {d : Nat} (hd : 16 ≤ d) : mt (mT g) d 18 [.ref x] M (fun v M' => ∃ Y' kv' wp', (∃ y : Int32, v = some (.int y)) ∧ sg g Y M Y' M' (3 * n + 25) (10 * n + 64) ∧ M'.1 x = some (ob 11 [.ref cm, .int cc, .ref g.1, kv', .int wp']) ∧ (kv' = kv ∨ kvOk Y' kv' B)) := by
  obtain ⟨d, rfl⟩ : ∃ e, d = e + 1 := ⟨d - 1, by omega⟩
  refine mt_in (b := mb_18 g) rfl rfl ?_
  show ml (mT g) d (mb_18 g).2 (0, [(0, .ref x)], [], M) _
  have hS : st g Y M M := st.rf hW
  have hA := sa.rf hW
  have hW_hM2 := hS.1
  refine mm_newf (c := 0) (k := 3) (N := 17) (ds := [.null, .null, .int 0, .int 0, .int 0, .int 0, .null, .null, .int 0, .int 0, .int 0, .int 0, .int 0, .int 0, .int 0, .int 0, .int 0]) rfl hW_hM2 (fun M1 hM2 f3 => ?_)
  show ml _ _ _ (3, [(0, .ref x)], [.ref M.2.1], M1) _
  refine ml_st (S' := (4, [(0, .ref x)], [.ref M.2.1, .ref M.2.1], M1)) rfl rfl rfl ?_
  have hW_hM5 := hM2.1.1
  refine mm_newf (c := 0) (k := 1) (N := 1) (ds := [.null]) rfl hW_hM5 (fun M4 hM5 f6 => ?_)
  show ml _ _ _ (7, [(0, .ref x)], [.ref M1.2.1, .ref M.2.1, .ref M.2.1], M4) _
  refine ml_blk 2 (S' := (9, [(0, .ref x)], [.ref x, .ref M1.2.1, .ref M1.2.1, .ref M.2.1, .ref M.2.1], M4)) rfl ?_
  refine mo_get (S' := (12, [(0, .ref x)], [.ref fl, .ref M1.2.1, .ref M1.2.1, .ref M.2.1, .ref M.2.1], M4)) rfl ((hM5.1.2.2.2.2 x (Nat.lt_of_lt_of_le hxl hM2.1.2.2.2.1.1)).trans ((hM2.1.2.2.2.2 x hxl).trans hx)) rfl rfl ?_
  refine ml_call (a := [.ref M1.2.1, .ref fl]) (rest := [.ref M1.2.1, .ref M.2.1, .ref M.2.1]) rfl (okc_v rfl rfl rfl hM5.2.1) rfl rfl (tk_Bytes hW_hM5 hM5  (by omega)) (fun v7 M8 h9 => ?_)
  obtain ⟨rfl, Y10, hM11, h12⟩ := h9
  have h13 := (h12 _ _ hst).1
  have h14 := (h12 _ _ hfl).1
  refine mm_done (k := 1) (ps := [fl, n]) hM11 (okY_new (by decide) hM11.2.1 (by simp [sch]) ⟨rfl, trivial⟩ ((yadd_le hM11.2.2.1 _ _ h14).1) (show n ≤ 65540 by omega)) (fun Y15 h16 h17 h18 => ?_)
  have h19 := (h17 _ _ h13).1
  have h20 := (h17 _ _ h14).1
  have hM21 := hM2.tr h16
  show ml _ _ _ (15, [(0, .ref x)], [.ref M1.2.1, .ref M.2.1, .ref M.2.1], M8) _
  refine ml_call (a := [.ref M.2.1, .ref M1.2.1]) (rest := [.ref M.2.1]) rfl (okc_v rfl rfl rfl hM21.2.1) rfl rfl (tk_ClassFile hW_hM2 hM21 h18 (by omega)) (fun v22 M23 h24 => ?_)
  obtain ⟨rfl, Y25, h26, h27, h28⟩ := h24
  have hA29 := (hA.st hS).tr h26.sa
  have hS30 := st.rf hA29.1
  have h31 := (h27 _ _ h19).1
  have h32 := (h27 _ _ h20).1
  have h33 := (h27 _ _ h18).1
  show ml _ _ _ (18, [(0, .ref x)], [.ref M.2.1], M23) _
  refine ml_st (S' := (19, [(1, .ref M.2.1), (0, .ref x)], [], M23)) rfl rfl rfl ?_
  have hW_hM35 := hS30.1
  refine mm_newf (c := 0) (k := 10) (N := 2) (ds := [.int 0, .int 0]) rfl hW_hM35 (fun M34 hM35 f36 => ?_)
  show ml _ _ _ (22, [(1, .ref M.2.1), (0, .ref x)], [.ref M23.2.1], M34) _
  refine ml_st (S' := (23, [(1, .ref M.2.1), (0, .ref x)], [.ref M23.2.1, .ref M23.2.1], M34)) rfl rfl rfl ?_
  refine ml_call (a := [.ref M23.2.1]) (rest := [.ref M23.2.1]) rfl (okc_v rfl rfl rfl hM35.2.1) rfl rfl (tk_Verdict hW_hM35 hM35  (by omega)) (fun v37 M38 h39 => ?_)
  obtain ⟨rfl, Y40, hM41, h42⟩ := h39
  have h43 := (h42 _ _ h31).1
  have h44 := (h42 _ _ h32).1
  have h45 := (h42 _ _ h33).1
  have h46 := (h42 _ _ h28).1
  refine mm_done (k := 10) (ps := []) hM41 (okY_new (by decide) hM41.2.1 (by simp [sch]) ⟨⟨_, rfl⟩, ⟨_, rfl⟩, trivial⟩ trivial trivial) (fun Y47 h48 h49 h50 => ?_)
  have h51 := (h49 _ _ h43).1
  have h52 := (h49 _ _ h44).1
  have h53 := (h49 _ _ h45).1
  have h54 := (h49 _ _ h46).1
  have hA55 := (hA29.st hS30).tr h48.sa
  have hS56 := st.rf hA55.1
  show ml _ _ _ (26, [(1, .ref M.2.1), (0, .ref x)], [.ref M23.2.1], M38) _
  refine ml_st (S' := (27, [(2, .ref M23.2.1), (1, .ref M.2.1), (0, .ref x)], [], M38)) rfl rfl rfl ?_
  refine ml_blk 2 (S' := (31, [(2, .ref M23.2.1), (1, .ref M.2.1), (0, .ref x)], [.ref g.1, .ref x], M38)) rfl ?_
  refine gx_put (l' := [.ref cm, .int cc, .ref g.1, kv, .int wp]) rfl ((hS56.2.2 x ((hA55.2.2.1 x hxl).trans hxn)).trans ((hA55.2.2.2.2 x hxn hxl).trans hx)) rfl rfl rfl hS56.1 ((hA55.2.2.1 x hxl).trans hxn) hlit (fun M57 hs58 hc59 hm60 hf61 => ?_)
  have hG62 := ((hA55.st hS56).sg).tr hs58
  have hxn63 := (hG62.2.2.1 x hxl).trans hxn
  have hxl64 := Nat.lt_of_lt_of_le hxl hG62.2.2.2.1
  have hA65 := sa.rf hG62.1
  have hS66 := st.rf hG62.1
  show ml _ _ _ (34, [(2, .ref M23.2.1), (1, .ref M.2.1), (0, .ref x)], [], M57) _
  refine ml_blk 2 (S' := (36, [(2, .ref M23.2.1), (1, .ref M.2.1), (0, .ref x)], [.ref M23.2.1, .ref M.2.1], M57)) rfl ?_
  refine ml_call (a := [.ref M.2.1, .ref M23.2.1]) (rest := []) rfl (rfl) rfl rfl (tg_isWhole hS66.1 h54 h53 h50 (by omega)) (fun v67 M68 h69 => ?_)
  obtain ⟨Y71, ⟨u70, rfl, z73⟩, hv72⟩ := h69
  have hA74 := (hA65.st hS66).tr hv72
  have hS75 := st.rf hA74.1
  have h76 := (hv72.2.1 _ _ h51).1
  have h77 := (hv72.2.1 _ _ h52).1
  have h78 := (hv72.2.1 _ _ h53).1
  have h79 := (hv72.2.1 _ _ h54).1
  have h80 := (hv72.2.1 _ _ h50).1
  show ml _ _ _ (39, [(2, .ref M23.2.1), (1, .ref M.2.1), (0, .ref x)], [.int u70], M68) _
  refine ml_if (S1 := (55, [(0, .ref x), (2, .ref M23.2.1)], [], M68)) (S2 := (42, [(2, .ref M23.2.1), (1, .ref M.2.1), (0, .ref x)], [], M68)) rfl rfl rfl (fun c_39 => ?_) (fun c_39 => ?_)
  · have c_39 : u70 = 0 := of_decide_eq_true c_39
    refine ml_blk 2 (S' := (57, [(0, .ref x), (2, .ref M23.2.1)], [.ref M23.2.1, .ref x], M68)) rfl ?_
    refine tg_int rfl hS75.1 h80 (by decide) rfl (fun u81 g82 => ?_)
    show ml _ _ _ (60, [(0, .ref x), (2, .ref M23.2.1)], [.int u81, .ref x], M68) _
    refine gx_put (l' := [.ref cm, .int cc, .ref g.1, kv, .int u81]) rfl ((hS75.2.2 x ((hA74.2.2.1 x hxl64).trans hxn63)).trans ((hA74.2.2.2.2 x hxn63 hxl64).trans hc59)) rfl rfl rfl hS75.1 ((hA74.2.2.1 x hxl64).trans hxn63) hlit (fun M83 hs84 hc85 hm86 hf87 => ?_)
    have hG88 := (hG62.tr (hA74.st hS75).sg).tr hs84
    have hxn89 := (hG88.2.2.1 x hxl).trans hxn
    have hxl90 := Nat.lt_of_lt_of_le hxl hG88.2.2.2.1
    have hA91 := sa.rf hG88.1
    have hS92 := st.rf hG88.1
    show ml _ _ _ (63, [(0, .ref x), (2, .ref M23.2.1)], [], M83) _
    refine ml_st (S' := (64, [(0, .ref x), (2, .ref M23.2.1)], [.ref M23.2.1], M83)) rfl rfl rfl ?_
    refine tg_int rfl hS92.1 h80 (by decide) rfl (fun u93 g94 => ?_)
    show ml _ _ _ (67, [(0, .ref x), (2, .ref M23.2.1)], [.int u93], M83) _
    exact ml_ret rfl (rfl) (⟨Y71, _, _, ⟨_, rfl⟩, (hG88.tr (hA91.st hS92).sg).le (by omega) (by omega), ((hS92.2.2 x ((hA91.2.2.1 x hxl90).trans hxn89)).trans ((hA91.2.2.2.2 x hxn89 hxl90).trans hc85)), Or.inl rfl⟩)
  · have c_39 : ¬ (u70 = 0) := of_decide_eq_false c_39
    refine ml_blk 2 (S' := (44, [(2, .ref M23.2.1), (1, .ref M.2.1), (0, .ref x)], [.ref M23.2.1, .ref M.2.1], M68)) rfl ?_
    refine ml_call (a := [.ref M.2.1, .ref M23.2.1]) (rest := []) rfl (rfl) rfl rfl (tg_holds hS75.1 h79 h78 h80 (by omega)) (fun v95 M96 h97 => ?_)
    obtain ⟨Y99, ⟨u98, rfl, z101⟩, hv100⟩ := h97
    have hA102 := (hA74.st hS75).tr hv100
    have hS103 := st.rf hA102.1
    have h104 := (hv100.2.1 _ _ h76).1
    have h105 := (hv100.2.1 _ _ h77).1
    have h106 := (hv100.2.1 _ _ h78).1
    have h107 := (hv100.2.1 _ _ h79).1
    have h108 := (hv100.2.1 _ _ h80).1
    show ml _ _ _ (47, [(2, .ref M23.2.1), (1, .ref M.2.1), (0, .ref x)], [.int u98], M96) _
    refine ml_if (S1 := (55, [(0, .ref x), (2, .ref M23.2.1)], [], M96)) (S2 := (50, [(2, .ref M23.2.1), (1, .ref M.2.1), (0, .ref x)], [], M96)) rfl rfl rfl (fun c_47 => ?_) (fun c_47 => ?_)
    · have c_47 : u98 = 0 := of_decide_eq_true c_47
      refine ml_blk 2 (S' := (57, [(0, .ref x), (2, .ref M23.2.1)], [.ref M23.2.1, .ref x], M96)) rfl ?_
      refine tg_int rfl hS103.1 h108 (by decide) rfl (fun u109 g110 => ?_)
      show ml _ _ _ (60, [(0, .ref x), (2, .ref M23.2.1)], [.int u109, .ref x], M96) _
      refine gx_put (l' := [.ref cm, .int cc, .ref g.1, kv, .int u109]) rfl ((hS103.2.2 x ((hA102.2.2.1 x hxl64).trans hxn63)).trans ((hA102.2.2.2.2 x hxn63 hxl64).trans hc59)) rfl rfl rfl hS103.1 ((hA102.2.2.1 x hxl64).trans hxn63) hlit (fun M111 hs112 hc113 hm114 hf115 => ?_)
      have hG116 := (hG62.tr (hA102.st hS103).sg).tr hs112
      have hxn117 := (hG116.2.2.1 x hxl).trans hxn
      have hxl118 := Nat.lt_of_lt_of_le hxl hG116.2.2.2.1
      have hA119 := sa.rf hG116.1
      have hS120 := st.rf hG116.1
      show ml _ _ _ (63, [(0, .ref x), (2, .ref M23.2.1)], [], M111) _
      refine ml_st (S' := (64, [(0, .ref x), (2, .ref M23.2.1)], [.ref M23.2.1], M111)) rfl rfl rfl ?_
      refine tg_int rfl hS120.1 h108 (by decide) rfl (fun u121 g122 => ?_)
      show ml _ _ _ (67, [(0, .ref x), (2, .ref M23.2.1)], [.int u121], M111) _
      exact ml_ret rfl (rfl) (⟨Y99, _, _, ⟨_, rfl⟩, (hG116.tr (hA119.st hS120).sg).le (by omega) (by omega), ((hS120.2.2 x ((hA119.2.2.1 x hxl118).trans hxn117)).trans ((hA119.2.2.2.2 x hxn117 hxl118).trans hc113)), Or.inl rfl⟩)
    · have c_47 : ¬ (u98 = 0) := of_decide_eq_false c_47
      refine ml_blk 2 (S' := (52, [(2, .ref M23.2.1), (1, .ref M.2.1), (0, .ref x)], [.ref M.2.1, .ref x], M96)) rfl ?_
      refine gx_put (l' := [.ref cm, .int cc, .ref g.1, .ref M.2.1, .int wp]) rfl ((hS103.2.2 x ((hA102.2.2.1 x hxl64).trans hxn63)).trans ((hA102.2.2.2.2 x hxn63 hxl64).trans hc59)) rfl rfl rfl hS103.1 ((hA102.2.2.1 x hxl64).trans hxn63) hlit (fun M123 hs124 hc125 hm126 hf127 => ?_)
      have hG128 := (hG62.tr (hA102.st hS103).sg).tr hs124
      have hxn129 := (hG128.2.2.1 x hxl).trans hxn
      have hxl130 := Nat.lt_of_lt_of_le hxl hG128.2.2.2.1
      have hA131 := sa.rf hG128.1
      have hS132 := st.rf hG128.1
      show ml _ _ _ (55, [(0, .ref x), (2, .ref M23.2.1)], [], M123) _
      refine ml_blk 2 (S' := (57, [(0, .ref x), (2, .ref M23.2.1)], [.ref M23.2.1, .ref x], M123)) rfl ?_
      refine tg_int rfl hS132.1 h108 (by decide) rfl (fun u133 g134 => ?_)
      show ml _ _ _ (60, [(0, .ref x), (2, .ref M23.2.1)], [.int u133, .ref x], M123) _
      refine gx_put (l' := [.ref cm, .int cc, .ref g.1, .ref M.2.1, .int u133]) rfl ((hS132.2.2 x ((hA131.2.2.1 x hxl130).trans hxn129)).trans ((hA131.2.2.2.2 x hxn129 hxl130).trans hc125)) rfl rfl rfl hS132.1 ((hA131.2.2.1 x hxl130).trans hxn129) hlit (fun M135 hs136 hc137 hm138 hf139 => ?_)
      have hG140 := (hG128.tr (hA131.st hS132).sg).tr hs136
      have hxn141 := (hG140.2.2.1 x hxl).trans hxn
      have hxl142 := Nat.lt_of_lt_of_le hxl hG140.2.2.2.1
      have hA143 := sa.rf hG140.1
      have hS144 := st.rf hG140.1
      show ml _ _ _ (63, [(0, .ref x), (2, .ref M23.2.1)], [], M135) _
      refine ml_st (S' := (64, [(0, .ref x), (2, .ref M23.2.1)], [.ref M23.2.1], M135)) rfl rfl rfl ?_
      refine tg_int rfl hS144.1 h108 (by decide) rfl (fun u145 g146 => ?_)
      show ml _ _ _ (67, [(0, .ref x), (2, .ref M23.2.1)], [.int u145], M135) _
      exact ml_ret rfl (rfl) (⟨Y99, _, _, ⟨_, rfl⟩, (hG140.tr (hA143.st hS144).sg).le (by omega) (by omega), ((hS144.2.2 x ((hA143.2.2.1 x hxl142).trans hxn141)).trans ((hA143.2.2.2.2 x hxn141 hxl142).trans hc137)), Or.inr (Or.inr ⟨_, _, _, _, rfl, h107, hnB⟩)⟩)
