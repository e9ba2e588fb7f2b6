set_option maxHeartbeats 2000000 in
theorem tw_Me_codeNumber {g : xe_G} {M : mi_H} {Y : yT} {me da n : Nat} {x1 : Int32}  (hW : WF g Y M) (hY0 : Y.1 me = some (6, [da, n])) {d : Nat} (hd : 1 ≤ d) : mt (mT g) d 107 [.ref me, .int x1] M (pI M) := by
  obtain ⟨d, rfl⟩ : ∃ e, d = e + 1 := ⟨d - 1, by omega⟩
  have hS : st g Y M M := st.rf hW
  refine mt_in (b := mb_107 g) rfl rfl ?_
  show ml (mT g) d (mb_107 g).2 (0, [(0, .ref me), (1, .int x1)], [], M) _
  refine ml_st (S' := (1, [(0, .ref me), (1, .int x1)], [.ref me], M)) rfl rfl rfl ?_
  refine tg_vn rfl hS.1 hY0 (by decide) rfl (fun g3 => ?_) (fun b1 g3 h2 => ?_)
  · show ml _ _ _ (4, [(0, .ref me), (1, .int x1)], [.null], M) _
    refine ml_st (S' := (7, [(0, .ref me), (1, .int x1)], [], M)) rfl rfl rfl ?_
    refine ml_st (S' := (8, [(0, .ref me), (1, .int x1)], [.int 0], M)) rfl rfl rfl ?_
    exact ml_ret rfl (rfl) (⟨⟨_, rfl⟩, rfl⟩)
  · skip
    obtain ⟨p4, o5, h2⟩ := h2
    obtain ⟨⟨pp6, h7⟩, b8, h9⟩ := hS.1.lnk h2 (by decide)
    obtain ⟨da10, n11, h12⟩ := hS.1.lnk h9 (by decide)
    show ml _ _ _ (4, [(0, .ref me), (1, .int x1)], [.ref b1], M) _
    refine ml_st (S' := (9, [(0, .ref me), (1, .int x1)], [], M)) rfl rfl rfl ?_
    refine ml_st (S' := (10, [(0, .ref me), (1, .int x1)], [.int x1], M)) rfl rfl rfl ?_
    refine ml_sw rfl (fun t_10 ht_10 => ?_)
    have ht_10 : t_10 ∈ [36, 44, 52, 60] := mi_sw_sub ht_10 (by decide)
    simp only [List.mem_cons, List.not_mem_nil, or_false] at ht_10
    rcases ht_10 with rfl | rfl | rfl | rfl
    · show ml _ _ _ (36, [(0, .ref me), (1, .int x1)], [], M) _
      refine ml_st (S' := (37, [(0, .ref me), (1, .int x1)], [.ref me], M)) rfl rfl rfl ?_
      refine ml_get (S' := (40, [(0, .ref me), (1, .int x1)], [.ref b1], M)) rfl g3 rfl ?_
      refine tg_int rfl hS.1 h2 (by decide) rfl (fun u13 g14 => ?_)
      show ml _ _ _ (43, [(0, .ref me), (1, .int x1)], [.int u13], M) _
      exact ml_ret rfl (rfl) (⟨⟨_, rfl⟩, rfl⟩)
    · show ml _ _ _ (44, [(0, .ref me), (1, .int x1)], [], M) _
      refine ml_st (S' := (45, [(0, .ref me), (1, .int x1)], [.ref me], M)) rfl rfl rfl ?_
      refine ml_get (S' := (48, [(0, .ref me), (1, .int x1)], [.ref b1], M)) rfl g3 rfl ?_
      refine tg_int rfl hS.1 h2 (by decide) rfl (fun u15 g16 => ?_)
      show ml _ _ _ (51, [(0, .ref me), (1, .int x1)], [.int u15], M) _
      exact ml_ret rfl (rfl) (⟨⟨_, rfl⟩, rfl⟩)
    · show ml _ _ _ (52, [(0, .ref me), (1, .int x1)], [], M) _
      refine ml_st (S' := (53, [(0, .ref me), (1, .int x1)], [.ref me], M)) rfl rfl rfl ?_
      refine ml_get (S' := (56, [(0, .ref me), (1, .int x1)], [.ref b1], M)) rfl g3 rfl ?_
      refine tg_int rfl hS.1 h2 (by decide) rfl (fun u17 g18 => ?_)
      show ml _ _ _ (59, [(0, .ref me), (1, .int x1)], [.int u17], M) _
      exact ml_ret rfl (rfl) (⟨⟨_, rfl⟩, rfl⟩)
    · show ml _ _ _ (60, [(0, .ref me), (1, .int x1)], [], M) _
      refine ml_st (S' := (61, [(0, .ref me), (1, .int x1)], [.ref me], M)) rfl rfl rfl ?_
      refine ml_get (S' := (64, [(0, .ref me), (1, .int x1)], [.ref b1], M)) rfl g3 rfl ?_
      refine tg_int rfl hS.1 h2 (by decide) rfl (fun u19 g20 => ?_)
      show ml _ _ _ (67, [(0, .ref me), (1, .int x1)], [.int u19], M) _
      exact ml_ret rfl (rfl) (⟨⟨_, rfl⟩, rfl⟩)
