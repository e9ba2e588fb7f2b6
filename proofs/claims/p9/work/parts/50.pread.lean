/-! the pool is read (laid by wip/p2/c50.py) -/
theorem WF.prows {g : xe_G} {Y : yT} {M : mi_H} {p n m t tp f s sh ch : Nat} (h : WF g Y M) (hY : Y.1 p = some (7, [n, m, t, tp, f, s, sh, ch])) : Y.1 t = some (31, [n, p]) ∧ Y.1 tp = some (32, [n, p]) ∧ Y.1 f = some (33, [n, p]) ∧ Y.1 s = some (34, [n, p]) ∧ Y.1 sh = some (35, [n, p]) ∧ Y.1 ch = some (36, [m, p]) := h.lnk hY (by decide)
theorem TG.fr {M M' : mi_H} {t : Nat} {k x : Int32} (h : TG M t k x) (h1 : M'.1 t = M.1 t) : TG M' t k x := fun n f1 h2 => h n f1 (h1.symm.trans h2)
theorem WF.ccb {g : xe_G} {Y : yT} {M : mi_H} {p : Nat} {pp : List Nat} {cc : Int32} (h : WF g Y M) (hY : Y.1 p = some (7, pp)) (hg : mi_gf M p 7 7 = some (.int cc)) : 0 ≤ cc.toInt ∧ cc.toInt < 1073741824 := by
  obtain ⟨size, n, m, q, f, cc', hP, hT, hn, hm, -⟩ := h.pool hY
  have : mi_gf M p 7 7 = some (.int cc') := gf_ob hP.1 rfl
  rw [this] at hg
  cases hg
  exact ⟨hT.1, by have := hT.2.1; omega⟩

set_option maxHeartbeats 2000000 in
theorem tr_takesIndexes {g : xe_G} {M : mi_H} {Y : yT} {r c b vd n da p np mp t tp f s sh ch : Nat} {x1 x2 : Int32} {a0 : Int32} (hW : WF g Y M) (hY0 : Y.1 r = some (9, [c, b, vd, n])) (hY1 : Y.1 c = some (3, [b, da, n])) (hY2 : Y.1 b = some (1, [da, n])) (hY3 : Y.1 vd = some (10, [])) (hY4 : Y.1 p = some (7, [np, mp, t, tp, f, s, sh, ch])) (hr3 : mi_gf M r 9 3 = some (.int a0)) (hcp : mi_gf M c 3 1 = some (.ref p)) (hnt : x2 ≠ 1) (htg : TG M t x1 x2) {d : Nat} (hd : 3 ≤ d) : mt (mT g) d 166 [.ref r, .int x1, .int x2] M (fun v M' => (∃ x : Int32, v = some (.int x) ∧ (x = 0 ∨ x = 1 ∧ (∀ k : Int32, x1.toInt < k.toInt → TZ M f s k → TZ M' f s k))) ∧ sf g Y [r, vd, f, s] M M') := by
  obtain ⟨d, rfl⟩ : ∃ e, d = e + 1 := ⟨d - 1, by omega⟩
  have hS : sf g Y [r, vd, f, s] M M := sf.rf hW
  refine mt_in (b := mb_166 g) rfl rfl ?_
  show ml (mT g) d (mb_166 g).2 (0, [(0, .ref r), (1, .int x1), (2, .int x2)], [], M) _
  obtain ⟨h0, h1⟩ := hW.rdb hY0 hr3
  have hn := hW.bn hY2
  obtain ⟨hyt, hytp, hyf, hys, hysh, hych⟩ := hW.prows hY4
  have hF : sf g Y [r, vd] M M := sf.rf hW
  refine ml_blk 3 (S' := (4, [(0, .ref r), (1, .int x1), (2, .int x2)], [.int 15, .int x2, .ref r], M)) rfl ?_
  refine ml_if2 (S1 := (11, [(0, .ref r), (1, .int x1), (2, .int x2)], [.ref r], M)) (S2 := (7, [(0, .ref r), (1, .int x1), (2, .int x2)], [.ref r], M)) rfl rfl rfl (fun c_4 => ?_) (fun c_4 => ?_)
  · have c_4 : ¬ x2 = 15 := of_decide_eq_true c_4
    refine ml_st (S' := (12, [(0, .ref r), (1, .int x1), (2, .int x2)], [.int 2, .ref r], M)) rfl rfl rfl ?_
    refine ml_call (a := [.ref r, .int 2]) (rest := []) rfl (okc_t rfl rfl rfl hS.1.1 hY0 (by decide)) rfl rfl (tr_takes hS.1.1 hY0 hY1 hY2 hY3 hr3 (by decide) (by omega)) (fun v1 M2 h3 => ?_)
    obtain ⟨⟨u4, rfl, z5⟩, h3⟩ := h3
    have g6 := h3.2.gf (nin_cons (ykne hY1 hY0 (by decide)) (nin_cons (ykne hY1 hY3 (by decide)) nin_nil)) hcp
    have hS7 := hS.tr h3 (by simp)
    have hF8 := hF.tr h3 (by simp)
    show ml _ _ _ (15, [(0, .ref r), (1, .int x1), (2, .int x2)], [.int u4], M2) _
    refine ml_if (S1 := (20, [(0, .ref r), (1, .int x1), (2, .int x2)], [], M2)) (S2 := (18, [(0, .ref r), (1, .int x1), (2, .int x2)], [], M2)) rfl rfl rfl (fun c_15 => ?_) (fun c_15 => ?_)
    · have c_15 : ¬ u4 = 0 := of_decide_eq_true c_15
      refine ml_st (S' := (21, [(0, .ref r), (1, .int x1), (2, .int x2)], [.ref r], M2)) rfl rfl rfl ?_
      refine tg_int rfl hS7.1.1 hY0 (by decide) rfl (fun u9 g10 => ?_)
      show ml _ _ _ (24, [(0, .ref r), (1, .int x1), (2, .int x2)], [.int u9], M2) _
      refine ml_st (S' := (25, [(3, .int u9), (0, .ref r), (1, .int x1), (2, .int x2)], [], M2)) rfl rfl rfl ?_
      refine ml_st (S' := (26, [(3, .int u9), (0, .ref r), (1, .int x1), (2, .int x2)], [.int 0], M2)) rfl rfl rfl ?_
      refine ml_st (S' := (28, [(4, .int 0), (3, .int u9), (0, .ref r), (1, .int x1), (2, .int x2)], [], M2)) rfl rfl rfl ?_
      refine ml_blk 2 (S' := (31, [(4, .int 0), (3, .int u9), (0, .ref r), (1, .int x1), (2, .int x2)], [.int 7, .int x2], M2)) rfl ?_
      refine ml_if2 (S1 := (74, [(0, .ref r), (1, .int x1), (3, .int u9), (4, .int 0)], [], M2)) (S2 := (34, [(4, .int 0), (3, .int u9), (0, .ref r), (1, .int x1), (2, .int x2)], [], M2)) rfl rfl rfl (fun c_31 => ?_) (fun c_31 => ?_)
      · have c_31 : x2 = 7 := of_decide_eq_true c_31
        refine ml_st (S' := (75, [(0, .ref r), (1, .int x1), (3, .int u9), (4, .int 0)], [.ref r], M2)) rfl rfl rfl ?_
        refine tg_ref (S' := (78, [(0, .ref r), (1, .int x1), (3, .int u9), (4, .int 0)], [.ref c], M2)) rfl hS7.1.1 hY0 (by decide) rfl rfl ?_
        refine ml_get (S' := (81, [(0, .ref r), (1, .int x1), (3, .int u9), (4, .int 0)], [.ref p], M2)) rfl g6 rfl ?_
        refine ml_blk 3 (S' := (85, [(0, .ref r), (1, .int x1), (3, .int u9), (4, .int 0)], [.int 0, .int u9, .int x1, .ref p], M2)) rfl ?_
        have h11 : M2.1 t = M.1 t := hS7.2 t (nin_cons (ykne hyt hY0 (by decide)) (nin_cons (ykne hyt hY3 (by decide)) (nin_cons (ykne hyt hyf (by decide)) (nin_cons (ykne hyt hys (by decide)) nin_nil))))
        have h12 : M2.1 f = M.1 f := hF8.2 f (nin_cons (ykne hyf hY0 (by decide)) (nin_cons (ykne hyf hY3 (by decide)) nin_nil))
        have h13 : M2.1 s = M.1 s := hF8.2 s (nin_cons (ykne hys hY0 (by decide)) (nin_cons (ykne hys hY3 (by decide)) nin_nil))
        refine ml_call (a := [.ref p, .int x1, .int u9, .int 0]) (rest := []) rfl (okc_t rfl rfl rfl hS7.1.1 hY4 (by decide)) rfl rfl (tm_setNumbers hS7.1.1 hY4 (Or.inl ⟨x2, hnt, htg.fr h11⟩) (by omega)) (fun v14 M15 h16 => ?_)
        obtain ⟨rfl, h18, h19, h20⟩ := h16
        have h21 : sf g Y [f, s] _ _ := ⟨h18, h19⟩
        have g22 := h21.2.gf (nin_cons (ykne hY1 hyf (by decide)) (nin_cons (ykne hY1 hys (by decide)) nin_nil)) g6
        have g23 := h21.2.gf (nin_cons (ykne hY0 hyf (by decide)) (nin_cons (ykne hY0 hys (by decide)) nin_nil)) g10
        have hS24 := hS7.tr h21 (by simp)
        show ml _ _ _ (88, [(0, .ref r), (1, .int x1), (3, .int u9), (4, .int 0)], [], M15) _
        refine ml_st (S' := (89, [(0, .ref r), (1, .int x1), (3, .int u9), (4, .int 0)], [.int 1], M15)) rfl rfl rfl ?_
        exact ml_ret rfl (r_z (Or.inr rfl)) (⟨⟨_, rfl, Or.inr ⟨rfl, fun k hk hz => h20 k hk (hz.fr h12 h13)⟩⟩, hS24⟩)
      · have c_31 : ¬ (x2 = 7) := of_decide_eq_false c_31
        refine ml_blk 2 (S' := (37, [(4, .int 0), (3, .int u9), (0, .ref r), (1, .int x1), (2, .int x2)], [.int 8, .int x2], M2)) rfl ?_
        refine ml_if2 (S1 := (74, [(0, .ref r), (1, .int x1), (3, .int u9), (4, .int 0)], [], M2)) (S2 := (40, [(4, .int 0), (3, .int u9), (0, .ref r), (1, .int x1), (2, .int x2)], [], M2)) rfl rfl rfl (fun c_37 => ?_) (fun c_37 => ?_)
        · have c_37 : x2 = 8 := of_decide_eq_true c_37
          refine ml_st (S' := (75, [(0, .ref r), (1, .int x1), (3, .int u9), (4, .int 0)], [.ref r], M2)) rfl rfl rfl ?_
          refine tg_ref (S' := (78, [(0, .ref r), (1, .int x1), (3, .int u9), (4, .int 0)], [.ref c], M2)) rfl hS7.1.1 hY0 (by decide) rfl rfl ?_
          refine ml_get (S' := (81, [(0, .ref r), (1, .int x1), (3, .int u9), (4, .int 0)], [.ref p], M2)) rfl g6 rfl ?_
          refine ml_blk 3 (S' := (85, [(0, .ref r), (1, .int x1), (3, .int u9), (4, .int 0)], [.int 0, .int u9, .int x1, .ref p], M2)) rfl ?_
          have h25 : M2.1 t = M.1 t := hS7.2 t (nin_cons (ykne hyt hY0 (by decide)) (nin_cons (ykne hyt hY3 (by decide)) (nin_cons (ykne hyt hyf (by decide)) (nin_cons (ykne hyt hys (by decide)) nin_nil))))
          have h26 : M2.1 f = M.1 f := hF8.2 f (nin_cons (ykne hyf hY0 (by decide)) (nin_cons (ykne hyf hY3 (by decide)) nin_nil))
          have h27 : M2.1 s = M.1 s := hF8.2 s (nin_cons (ykne hys hY0 (by decide)) (nin_cons (ykne hys hY3 (by decide)) nin_nil))
          refine ml_call (a := [.ref p, .int x1, .int u9, .int 0]) (rest := []) rfl (okc_t rfl rfl rfl hS7.1.1 hY4 (by decide)) rfl rfl (tm_setNumbers hS7.1.1 hY4 (Or.inl ⟨x2, hnt, htg.fr h25⟩) (by omega)) (fun v28 M29 h30 => ?_)
          obtain ⟨rfl, h32, h33, h34⟩ := h30
          have h35 : sf g Y [f, s] _ _ := ⟨h32, h33⟩
          have g36 := h35.2.gf (nin_cons (ykne hY1 hyf (by decide)) (nin_cons (ykne hY1 hys (by decide)) nin_nil)) g6
          have g37 := h35.2.gf (nin_cons (ykne hY0 hyf (by decide)) (nin_cons (ykne hY0 hys (by decide)) nin_nil)) g10
          have hS38 := hS7.tr h35 (by simp)
          show ml _ _ _ (88, [(0, .ref r), (1, .int x1), (3, .int u9), (4, .int 0)], [], M29) _
          refine ml_st (S' := (89, [(0, .ref r), (1, .int x1), (3, .int u9), (4, .int 0)], [.int 1], M29)) rfl rfl rfl ?_
          exact ml_ret rfl (r_z (Or.inr rfl)) (⟨⟨_, rfl, Or.inr ⟨rfl, fun k hk hz => h34 k hk (hz.fr h26 h27)⟩⟩, hS38⟩)
        · have c_37 : ¬ (x2 = 8) := of_decide_eq_false c_37
          refine ml_blk 2 (S' := (43, [(4, .int 0), (3, .int u9), (0, .ref r), (1, .int x1), (2, .int x2)], [.int 16, .int x2], M2)) rfl ?_
          refine ml_if2 (S1 := (74, [(0, .ref r), (1, .int x1), (3, .int u9), (4, .int 0)], [], M2)) (S2 := (46, [(4, .int 0), (3, .int u9), (0, .ref r), (1, .int x1), (2, .int x2)], [], M2)) rfl rfl rfl (fun c_43 => ?_) (fun c_43 => ?_)
          · have c_43 : x2 = 16 := of_decide_eq_true c_43
            refine ml_st (S' := (75, [(0, .ref r), (1, .int x1), (3, .int u9), (4, .int 0)], [.ref r], M2)) rfl rfl rfl ?_
            refine tg_ref (S' := (78, [(0, .ref r), (1, .int x1), (3, .int u9), (4, .int 0)], [.ref c], M2)) rfl hS7.1.1 hY0 (by decide) rfl rfl ?_
            refine ml_get (S' := (81, [(0, .ref r), (1, .int x1), (3, .int u9), (4, .int 0)], [.ref p], M2)) rfl g6 rfl ?_
            refine ml_blk 3 (S' := (85, [(0, .ref r), (1, .int x1), (3, .int u9), (4, .int 0)], [.int 0, .int u9, .int x1, .ref p], M2)) rfl ?_
            have h39 : M2.1 t = M.1 t := hS7.2 t (nin_cons (ykne hyt hY0 (by decide)) (nin_cons (ykne hyt hY3 (by decide)) (nin_cons (ykne hyt hyf (by decide)) (nin_cons (ykne hyt hys (by decide)) nin_nil))))
            have h40 : M2.1 f = M.1 f := hF8.2 f (nin_cons (ykne hyf hY0 (by decide)) (nin_cons (ykne hyf hY3 (by decide)) nin_nil))
            have h41 : M2.1 s = M.1 s := hF8.2 s (nin_cons (ykne hys hY0 (by decide)) (nin_cons (ykne hys hY3 (by decide)) nin_nil))
            refine ml_call (a := [.ref p, .int x1, .int u9, .int 0]) (rest := []) rfl (okc_t rfl rfl rfl hS7.1.1 hY4 (by decide)) rfl rfl (tm_setNumbers hS7.1.1 hY4 (Or.inl ⟨x2, hnt, htg.fr h39⟩) (by omega)) (fun v42 M43 h44 => ?_)
            obtain ⟨rfl, h46, h47, h48⟩ := h44
            have h49 : sf g Y [f, s] _ _ := ⟨h46, h47⟩
            have g50 := h49.2.gf (nin_cons (ykne hY1 hyf (by decide)) (nin_cons (ykne hY1 hys (by decide)) nin_nil)) g6
            have g51 := h49.2.gf (nin_cons (ykne hY0 hyf (by decide)) (nin_cons (ykne hY0 hys (by decide)) nin_nil)) g10
            have hS52 := hS7.tr h49 (by simp)
            show ml _ _ _ (88, [(0, .ref r), (1, .int x1), (3, .int u9), (4, .int 0)], [], M43) _
            refine ml_st (S' := (89, [(0, .ref r), (1, .int x1), (3, .int u9), (4, .int 0)], [.int 1], M43)) rfl rfl rfl ?_
            exact ml_ret rfl (r_z (Or.inr rfl)) (⟨⟨_, rfl, Or.inr ⟨rfl, fun k hk hz => h48 k hk (hz.fr h40 h41)⟩⟩, hS52⟩)
          · have c_43 : ¬ (x2 = 16) := of_decide_eq_false c_43
            refine ml_blk 2 (S' := (49, [(4, .int 0), (3, .int u9), (0, .ref r), (1, .int x1), (2, .int x2)], [.int 19, .int x2], M2)) rfl ?_
            refine ml_if2 (S1 := (74, [(0, .ref r), (1, .int x1), (3, .int u9), (4, .int 0)], [], M2)) (S2 := (52, [(4, .int 0), (3, .int u9), (0, .ref r), (1, .int x1), (2, .int x2)], [], M2)) rfl rfl rfl (fun c_49 => ?_) (fun c_49 => ?_)
            · have c_49 : x2 = 19 := of_decide_eq_true c_49
              refine ml_st (S' := (75, [(0, .ref r), (1, .int x1), (3, .int u9), (4, .int 0)], [.ref r], M2)) rfl rfl rfl ?_
              refine tg_ref (S' := (78, [(0, .ref r), (1, .int x1), (3, .int u9), (4, .int 0)], [.ref c], M2)) rfl hS7.1.1 hY0 (by decide) rfl rfl ?_
              refine ml_get (S' := (81, [(0, .ref r), (1, .int x1), (3, .int u9), (4, .int 0)], [.ref p], M2)) rfl g6 rfl ?_
              refine ml_blk 3 (S' := (85, [(0, .ref r), (1, .int x1), (3, .int u9), (4, .int 0)], [.int 0, .int u9, .int x1, .ref p], M2)) rfl ?_
              have h53 : M2.1 t = M.1 t := hS7.2 t (nin_cons (ykne hyt hY0 (by decide)) (nin_cons (ykne hyt hY3 (by decide)) (nin_cons (ykne hyt hyf (by decide)) (nin_cons (ykne hyt hys (by decide)) nin_nil))))
              have h54 : M2.1 f = M.1 f := hF8.2 f (nin_cons (ykne hyf hY0 (by decide)) (nin_cons (ykne hyf hY3 (by decide)) nin_nil))
              have h55 : M2.1 s = M.1 s := hF8.2 s (nin_cons (ykne hys hY0 (by decide)) (nin_cons (ykne hys hY3 (by decide)) nin_nil))
              refine ml_call (a := [.ref p, .int x1, .int u9, .int 0]) (rest := []) rfl (okc_t rfl rfl rfl hS7.1.1 hY4 (by decide)) rfl rfl (tm_setNumbers hS7.1.1 hY4 (Or.inl ⟨x2, hnt, htg.fr h53⟩) (by omega)) (fun v56 M57 h58 => ?_)
              obtain ⟨rfl, h60, h61, h62⟩ := h58
              have h63 : sf g Y [f, s] _ _ := ⟨h60, h61⟩
              have g64 := h63.2.gf (nin_cons (ykne hY1 hyf (by decide)) (nin_cons (ykne hY1 hys (by decide)) nin_nil)) g6
              have g65 := h63.2.gf (nin_cons (ykne hY0 hyf (by decide)) (nin_cons (ykne hY0 hys (by decide)) nin_nil)) g10
              have hS66 := hS7.tr h63 (by simp)
              show ml _ _ _ (88, [(0, .ref r), (1, .int x1), (3, .int u9), (4, .int 0)], [], M57) _
              refine ml_st (S' := (89, [(0, .ref r), (1, .int x1), (3, .int u9), (4, .int 0)], [.int 1], M57)) rfl rfl rfl ?_
              exact ml_ret rfl (r_z (Or.inr rfl)) (⟨⟨_, rfl, Or.inr ⟨rfl, fun k hk hz => h62 k hk (hz.fr h54 h55)⟩⟩, hS66⟩)
            · have c_49 : ¬ (x2 = 19) := of_decide_eq_false c_49
              refine ml_blk 2 (S' := (55, [(4, .int 0), (3, .int u9), (0, .ref r), (1, .int x1), (2, .int x2)], [.int 20, .int x2], M2)) rfl ?_
              refine ml_if2 (S1 := (74, [(0, .ref r), (1, .int x1), (3, .int u9), (4, .int 0)], [], M2)) (S2 := (58, [(4, .int 0), (3, .int u9), (0, .ref r), (1, .int x1), (2, .int x2)], [], M2)) rfl rfl rfl (fun c_55 => ?_) (fun c_55 => ?_)
              · have c_55 : x2 = 20 := of_decide_eq_true c_55
                refine ml_st (S' := (75, [(0, .ref r), (1, .int x1), (3, .int u9), (4, .int 0)], [.ref r], M2)) rfl rfl rfl ?_
                refine tg_ref (S' := (78, [(0, .ref r), (1, .int x1), (3, .int u9), (4, .int 0)], [.ref c], M2)) rfl hS7.1.1 hY0 (by decide) rfl rfl ?_
                refine ml_get (S' := (81, [(0, .ref r), (1, .int x1), (3, .int u9), (4, .int 0)], [.ref p], M2)) rfl g6 rfl ?_
                refine ml_blk 3 (S' := (85, [(0, .ref r), (1, .int x1), (3, .int u9), (4, .int 0)], [.int 0, .int u9, .int x1, .ref p], M2)) rfl ?_
                have h67 : M2.1 t = M.1 t := hS7.2 t (nin_cons (ykne hyt hY0 (by decide)) (nin_cons (ykne hyt hY3 (by decide)) (nin_cons (ykne hyt hyf (by decide)) (nin_cons (ykne hyt hys (by decide)) nin_nil))))
                have h68 : M2.1 f = M.1 f := hF8.2 f (nin_cons (ykne hyf hY0 (by decide)) (nin_cons (ykne hyf hY3 (by decide)) nin_nil))
                have h69 : M2.1 s = M.1 s := hF8.2 s (nin_cons (ykne hys hY0 (by decide)) (nin_cons (ykne hys hY3 (by decide)) nin_nil))
                refine ml_call (a := [.ref p, .int x1, .int u9, .int 0]) (rest := []) rfl (okc_t rfl rfl rfl hS7.1.1 hY4 (by decide)) rfl rfl (tm_setNumbers hS7.1.1 hY4 (Or.inl ⟨x2, hnt, htg.fr h67⟩) (by omega)) (fun v70 M71 h72 => ?_)
                obtain ⟨rfl, h74, h75, h76⟩ := h72
                have h77 : sf g Y [f, s] _ _ := ⟨h74, h75⟩
                have g78 := h77.2.gf (nin_cons (ykne hY1 hyf (by decide)) (nin_cons (ykne hY1 hys (by decide)) nin_nil)) g6
                have g79 := h77.2.gf (nin_cons (ykne hY0 hyf (by decide)) (nin_cons (ykne hY0 hys (by decide)) nin_nil)) g10
                have hS80 := hS7.tr h77 (by simp)
                show ml _ _ _ (88, [(0, .ref r), (1, .int x1), (3, .int u9), (4, .int 0)], [], M71) _
                refine ml_st (S' := (89, [(0, .ref r), (1, .int x1), (3, .int u9), (4, .int 0)], [.int 1], M71)) rfl rfl rfl ?_
                exact ml_ret rfl (r_z (Or.inr rfl)) (⟨⟨_, rfl, Or.inr ⟨rfl, fun k hk hz => h76 k hk (hz.fr h68 h69)⟩⟩, hS80⟩)
              · have c_55 : ¬ (x2 = 20) := of_decide_eq_false c_55
                refine ml_blk 2 (S' := (60, [(4, .int 0), (3, .int u9), (0, .ref r), (1, .int x1), (2, .int x2)], [.int 2, .ref r], M2)) rfl ?_
                obtain ⟨u81, g82, -⟩ := hS7.1.1.rd hY0
                refine ml_call (a := [.ref r, .int 2]) (rest := []) rfl (okc_t rfl rfl rfl hS7.1.1 hY0 (by decide)) rfl rfl (tr_takes hS7.1.1 hY0 hY1 hY2 hY3 g82 (by decide) (by omega)) (fun v83 M84 h85 => ?_)
                obtain ⟨⟨u86, rfl, z87⟩, h85⟩ := h85
                have g88 := h85.2.gf (nin_cons (ykne hY1 hY0 (by decide)) (nin_cons (ykne hY1 hY3 (by decide)) nin_nil)) g6
                have hS89 := hS7.tr h85 (by simp)
                have hF90 := hF8.tr h85 (by simp)
                show ml _ _ _ (63, [(4, .int 0), (3, .int u9), (0, .ref r), (1, .int x1), (2, .int x2)], [.int u86], M84) _
                refine ml_if (S1 := (68, [(4, .int 0), (3, .int u9), (0, .ref r), (1, .int x1), (2, .int x2)], [], M84)) (S2 := (66, [(4, .int 0), (3, .int u9), (0, .ref r), (1, .int x1), (2, .int x2)], [], M84)) rfl rfl rfl (fun c_63 => ?_) (fun c_63 => ?_)
                · have c_63 : ¬ u86 = 0 := of_decide_eq_true c_63
                  refine ml_st (S' := (69, [(4, .int 0), (3, .int u9), (0, .ref r), (1, .int x1), (2, .int x2)], [.ref r], M84)) rfl rfl rfl ?_
                  refine tg_int rfl hS89.1.1 hY0 (by decide) rfl (fun u91 g92 => ?_)
                  show ml _ _ _ (72, [(4, .int 0), (3, .int u9), (0, .ref r), (1, .int x1), (2, .int x2)], [.int u91], M84) _
                  refine ml_st (S' := (74, [(0, .ref r), (1, .int x1), (3, .int u9), (4, .int u91)], [], M84)) rfl rfl rfl ?_
                  refine ml_st (S' := (75, [(0, .ref r), (1, .int x1), (3, .int u9), (4, .int u91)], [.ref r], M84)) rfl rfl rfl ?_
                  refine tg_ref (S' := (78, [(0, .ref r), (1, .int x1), (3, .int u9), (4, .int u91)], [.ref c], M84)) rfl hS89.1.1 hY0 (by decide) rfl rfl ?_
                  refine ml_get (S' := (81, [(0, .ref r), (1, .int x1), (3, .int u9), (4, .int u91)], [.ref p], M84)) rfl g88 rfl ?_
                  refine ml_blk 3 (S' := (85, [(0, .ref r), (1, .int x1), (3, .int u9), (4, .int u91)], [.int u91, .int u9, .int x1, .ref p], M84)) rfl ?_
                  have h93 : M84.1 t = M.1 t := hS89.2 t (nin_cons (ykne hyt hY0 (by decide)) (nin_cons (ykne hyt hY3 (by decide)) (nin_cons (ykne hyt hyf (by decide)) (nin_cons (ykne hyt hys (by decide)) nin_nil))))
                  have h94 : M84.1 f = M.1 f := hF90.2 f (nin_cons (ykne hyf hY0 (by decide)) (nin_cons (ykne hyf hY3 (by decide)) nin_nil))
                  have h95 : M84.1 s = M.1 s := hF90.2 s (nin_cons (ykne hys hY0 (by decide)) (nin_cons (ykne hys hY3 (by decide)) nin_nil))
                  refine ml_call (a := [.ref p, .int x1, .int u9, .int u91]) (rest := []) rfl (okc_t rfl rfl rfl hS89.1.1 hY4 (by decide)) rfl rfl (tm_setNumbers hS89.1.1 hY4 (Or.inl ⟨x2, hnt, htg.fr h93⟩) (by omega)) (fun v96 M97 h98 => ?_)
                  obtain ⟨rfl, h100, h101, h102⟩ := h98
                  have h103 : sf g Y [f, s] _ _ := ⟨h100, h101⟩
                  have g104 := h103.2.gf (nin_cons (ykne hY1 hyf (by decide)) (nin_cons (ykne hY1 hys (by decide)) nin_nil)) g88
                  have g105 := h103.2.gf (nin_cons (ykne hY0 hyf (by decide)) (nin_cons (ykne hY0 hys (by decide)) nin_nil)) g92
                  have hS106 := hS89.tr h103 (by simp)
                  show ml _ _ _ (88, [(0, .ref r), (1, .int x1), (3, .int u9), (4, .int u91)], [], M97) _
                  refine ml_st (S' := (89, [(0, .ref r), (1, .int x1), (3, .int u9), (4, .int u91)], [.int 1], M97)) rfl rfl rfl ?_
                  exact ml_ret rfl (r_z (Or.inr rfl)) (⟨⟨_, rfl, Or.inr ⟨rfl, fun k hk hz => h102 k hk (hz.fr h94 h95)⟩⟩, hS106⟩)
                · have c_63 : ¬ (¬ u86 = 0) := of_decide_eq_false c_63
                  refine ml_st (S' := (67, [(4, .int 0), (3, .int u9), (0, .ref r), (1, .int x1), (2, .int x2)], [.int 0], M84)) rfl rfl rfl ?_
                  exact ml_ret rfl (r_z (Or.inl rfl)) (⟨⟨_, rfl, Or.inl rfl⟩, hS89⟩)
    · have c_15 : ¬ (¬ u4 = 0) := of_decide_eq_false c_15
      refine ml_st (S' := (19, [(0, .ref r), (1, .int x1), (2, .int x2)], [.int 0], M2)) rfl rfl rfl ?_
      exact ml_ret rfl (r_z (Or.inl rfl)) (⟨⟨_, rfl, Or.inl rfl⟩, hS7⟩)
  · have c_4 : ¬ (¬ x2 = 15) := of_decide_eq_false c_4
    refine ml_st (S' := (8, [(0, .ref r), (1, .int x1), (2, .int x2)], [.int 1, .ref r], M)) rfl rfl rfl ?_
    refine ml_st (S' := (12, [(0, .ref r), (1, .int x1), (2, .int x2)], [.int 1, .ref r], M)) rfl rfl rfl ?_
    refine ml_call (a := [.ref r, .int 1]) (rest := []) rfl (okc_t rfl rfl rfl hS.1.1 hY0 (by decide)) rfl rfl (tr_takes hS.1.1 hY0 hY1 hY2 hY3 hr3 (by decide) (by omega)) (fun v107 M108 h109 => ?_)
    obtain ⟨⟨u110, rfl, z111⟩, h109⟩ := h109
    have g112 := h109.2.gf (nin_cons (ykne hY1 hY0 (by decide)) (nin_cons (ykne hY1 hY3 (by decide)) nin_nil)) hcp
    have hS113 := hS.tr h109 (by simp)
    have hF114 := hF.tr h109 (by simp)
    show ml _ _ _ (15, [(0, .ref r), (1, .int x1), (2, .int x2)], [.int u110], M108) _
    refine ml_if (S1 := (20, [(0, .ref r), (1, .int x1), (2, .int x2)], [], M108)) (S2 := (18, [(0, .ref r), (1, .int x1), (2, .int x2)], [], M108)) rfl rfl rfl (fun c_15 => ?_) (fun c_15 => ?_)
    · have c_15 : ¬ u110 = 0 := of_decide_eq_true c_15
      refine ml_st (S' := (21, [(0, .ref r), (1, .int x1), (2, .int x2)], [.ref r], M108)) rfl rfl rfl ?_
      refine tg_int rfl hS113.1.1 hY0 (by decide) rfl (fun u115 g116 => ?_)
      show ml _ _ _ (24, [(0, .ref r), (1, .int x1), (2, .int x2)], [.int u115], M108) _
      refine ml_st (S' := (25, [(3, .int u115), (0, .ref r), (1, .int x1), (2, .int x2)], [], M108)) rfl rfl rfl ?_
      refine ml_st (S' := (26, [(3, .int u115), (0, .ref r), (1, .int x1), (2, .int x2)], [.int 0], M108)) rfl rfl rfl ?_
      refine ml_st (S' := (28, [(4, .int 0), (3, .int u115), (0, .ref r), (1, .int x1), (2, .int x2)], [], M108)) rfl rfl rfl ?_
      refine ml_blk 2 (S' := (31, [(4, .int 0), (3, .int u115), (0, .ref r), (1, .int x1), (2, .int x2)], [.int 7, .int x2], M108)) rfl ?_
      refine ml_if2 (S1 := (74, [(0, .ref r), (1, .int x1), (3, .int u115), (4, .int 0)], [], M108)) (S2 := (34, [(4, .int 0), (3, .int u115), (0, .ref r), (1, .int x1), (2, .int x2)], [], M108)) rfl rfl rfl (fun c_31 => ?_) (fun c_31 => ?_)
      · have c_31 : x2 = 7 := of_decide_eq_true c_31
        refine ml_st (S' := (75, [(0, .ref r), (1, .int x1), (3, .int u115), (4, .int 0)], [.ref r], M108)) rfl rfl rfl ?_
        refine tg_ref (S' := (78, [(0, .ref r), (1, .int x1), (3, .int u115), (4, .int 0)], [.ref c], M108)) rfl hS113.1.1 hY0 (by decide) rfl rfl ?_
        refine ml_get (S' := (81, [(0, .ref r), (1, .int x1), (3, .int u115), (4, .int 0)], [.ref p], M108)) rfl g112 rfl ?_
        refine ml_blk 3 (S' := (85, [(0, .ref r), (1, .int x1), (3, .int u115), (4, .int 0)], [.int 0, .int u115, .int x1, .ref p], M108)) rfl ?_
        have h117 : M108.1 t = M.1 t := hS113.2 t (nin_cons (ykne hyt hY0 (by decide)) (nin_cons (ykne hyt hY3 (by decide)) (nin_cons (ykne hyt hyf (by decide)) (nin_cons (ykne hyt hys (by decide)) nin_nil))))
        have h118 : M108.1 f = M.1 f := hF114.2 f (nin_cons (ykne hyf hY0 (by decide)) (nin_cons (ykne hyf hY3 (by decide)) nin_nil))
        have h119 : M108.1 s = M.1 s := hF114.2 s (nin_cons (ykne hys hY0 (by decide)) (nin_cons (ykne hys hY3 (by decide)) nin_nil))
        refine ml_call (a := [.ref p, .int x1, .int u115, .int 0]) (rest := []) rfl (okc_t rfl rfl rfl hS113.1.1 hY4 (by decide)) rfl rfl (tm_setNumbers hS113.1.1 hY4 (Or.inl ⟨x2, hnt, htg.fr h117⟩) (by omega)) (fun v120 M121 h122 => ?_)
        obtain ⟨rfl, h124, h125, h126⟩ := h122
        have h127 : sf g Y [f, s] _ _ := ⟨h124, h125⟩
        have g128 := h127.2.gf (nin_cons (ykne hY1 hyf (by decide)) (nin_cons (ykne hY1 hys (by decide)) nin_nil)) g112
        have g129 := h127.2.gf (nin_cons (ykne hY0 hyf (by decide)) (nin_cons (ykne hY0 hys (by decide)) nin_nil)) g116
        have hS130 := hS113.tr h127 (by simp)
        show ml _ _ _ (88, [(0, .ref r), (1, .int x1), (3, .int u115), (4, .int 0)], [], M121) _
        refine ml_st (S' := (89, [(0, .ref r), (1, .int x1), (3, .int u115), (4, .int 0)], [.int 1], M121)) rfl rfl rfl ?_
        exact ml_ret rfl (r_z (Or.inr rfl)) (⟨⟨_, rfl, Or.inr ⟨rfl, fun k hk hz => h126 k hk (hz.fr h118 h119)⟩⟩, hS130⟩)
      · have c_31 : ¬ (x2 = 7) := of_decide_eq_false c_31
        refine ml_blk 2 (S' := (37, [(4, .int 0), (3, .int u115), (0, .ref r), (1, .int x1), (2, .int x2)], [.int 8, .int x2], M108)) rfl ?_
        refine ml_if2 (S1 := (74, [(0, .ref r), (1, .int x1), (3, .int u115), (4, .int 0)], [], M108)) (S2 := (40, [(4, .int 0), (3, .int u115), (0, .ref r), (1, .int x1), (2, .int x2)], [], M108)) rfl rfl rfl (fun c_37 => ?_) (fun c_37 => ?_)
        · have c_37 : x2 = 8 := of_decide_eq_true c_37
          refine ml_st (S' := (75, [(0, .ref r), (1, .int x1), (3, .int u115), (4, .int 0)], [.ref r], M108)) rfl rfl rfl ?_
          refine tg_ref (S' := (78, [(0, .ref r), (1, .int x1), (3, .int u115), (4, .int 0)], [.ref c], M108)) rfl hS113.1.1 hY0 (by decide) rfl rfl ?_
          refine ml_get (S' := (81, [(0, .ref r), (1, .int x1), (3, .int u115), (4, .int 0)], [.ref p], M108)) rfl g112 rfl ?_
          refine ml_blk 3 (S' := (85, [(0, .ref r), (1, .int x1), (3, .int u115), (4, .int 0)], [.int 0, .int u115, .int x1, .ref p], M108)) rfl ?_
          have h131 : M108.1 t = M.1 t := hS113.2 t (nin_cons (ykne hyt hY0 (by decide)) (nin_cons (ykne hyt hY3 (by decide)) (nin_cons (ykne hyt hyf (by decide)) (nin_cons (ykne hyt hys (by decide)) nin_nil))))
          have h132 : M108.1 f = M.1 f := hF114.2 f (nin_cons (ykne hyf hY0 (by decide)) (nin_cons (ykne hyf hY3 (by decide)) nin_nil))
          have h133 : M108.1 s = M.1 s := hF114.2 s (nin_cons (ykne hys hY0 (by decide)) (nin_cons (ykne hys hY3 (by decide)) nin_nil))
          refine ml_call (a := [.ref p, .int x1, .int u115, .int 0]) (rest := []) rfl (okc_t rfl rfl rfl hS113.1.1 hY4 (by decide)) rfl rfl (tm_setNumbers hS113.1.1 hY4 (Or.inl ⟨x2, hnt, htg.fr h131⟩) (by omega)) (fun v134 M135 h136 => ?_)
          obtain ⟨rfl, h138, h139, h140⟩ := h136
          have h141 : sf g Y [f, s] _ _ := ⟨h138, h139⟩
          have g142 := h141.2.gf (nin_cons (ykne hY1 hyf (by decide)) (nin_cons (ykne hY1 hys (by decide)) nin_nil)) g112
          have g143 := h141.2.gf (nin_cons (ykne hY0 hyf (by decide)) (nin_cons (ykne hY0 hys (by decide)) nin_nil)) g116
          have hS144 := hS113.tr h141 (by simp)
          show ml _ _ _ (88, [(0, .ref r), (1, .int x1), (3, .int u115), (4, .int 0)], [], M135) _
          refine ml_st (S' := (89, [(0, .ref r), (1, .int x1), (3, .int u115), (4, .int 0)], [.int 1], M135)) rfl rfl rfl ?_
          exact ml_ret rfl (r_z (Or.inr rfl)) (⟨⟨_, rfl, Or.inr ⟨rfl, fun k hk hz => h140 k hk (hz.fr h132 h133)⟩⟩, hS144⟩)
        · have c_37 : ¬ (x2 = 8) := of_decide_eq_false c_37
          refine ml_blk 2 (S' := (43, [(4, .int 0), (3, .int u115), (0, .ref r), (1, .int x1), (2, .int x2)], [.int 16, .int x2], M108)) rfl ?_
          refine ml_if2 (S1 := (74, [(0, .ref r), (1, .int x1), (3, .int u115), (4, .int 0)], [], M108)) (S2 := (46, [(4, .int 0), (3, .int u115), (0, .ref r), (1, .int x1), (2, .int x2)], [], M108)) rfl rfl rfl (fun c_43 => ?_) (fun c_43 => ?_)
          · have c_43 : x2 = 16 := of_decide_eq_true c_43
            refine ml_st (S' := (75, [(0, .ref r), (1, .int x1), (3, .int u115), (4, .int 0)], [.ref r], M108)) rfl rfl rfl ?_
            refine tg_ref (S' := (78, [(0, .ref r), (1, .int x1), (3, .int u115), (4, .int 0)], [.ref c], M108)) rfl hS113.1.1 hY0 (by decide) rfl rfl ?_
            refine ml_get (S' := (81, [(0, .ref r), (1, .int x1), (3, .int u115), (4, .int 0)], [.ref p], M108)) rfl g112 rfl ?_
            refine ml_blk 3 (S' := (85, [(0, .ref r), (1, .int x1), (3, .int u115), (4, .int 0)], [.int 0, .int u115, .int x1, .ref p], M108)) rfl ?_
            have h145 : M108.1 t = M.1 t := hS113.2 t (nin_cons (ykne hyt hY0 (by decide)) (nin_cons (ykne hyt hY3 (by decide)) (nin_cons (ykne hyt hyf (by decide)) (nin_cons (ykne hyt hys (by decide)) nin_nil))))
            have h146 : M108.1 f = M.1 f := hF114.2 f (nin_cons (ykne hyf hY0 (by decide)) (nin_cons (ykne hyf hY3 (by decide)) nin_nil))
            have h147 : M108.1 s = M.1 s := hF114.2 s (nin_cons (ykne hys hY0 (by decide)) (nin_cons (ykne hys hY3 (by decide)) nin_nil))
            refine ml_call (a := [.ref p, .int x1, .int u115, .int 0]) (rest := []) rfl (okc_t rfl rfl rfl hS113.1.1 hY4 (by decide)) rfl rfl (tm_setNumbers hS113.1.1 hY4 (Or.inl ⟨x2, hnt, htg.fr h145⟩) (by omega)) (fun v148 M149 h150 => ?_)
            obtain ⟨rfl, h152, h153, h154⟩ := h150
            have h155 : sf g Y [f, s] _ _ := ⟨h152, h153⟩
            have g156 := h155.2.gf (nin_cons (ykne hY1 hyf (by decide)) (nin_cons (ykne hY1 hys (by decide)) nin_nil)) g112
            have g157 := h155.2.gf (nin_cons (ykne hY0 hyf (by decide)) (nin_cons (ykne hY0 hys (by decide)) nin_nil)) g116
            have hS158 := hS113.tr h155 (by simp)
            show ml _ _ _ (88, [(0, .ref r), (1, .int x1), (3, .int u115), (4, .int 0)], [], M149) _
            refine ml_st (S' := (89, [(0, .ref r), (1, .int x1), (3, .int u115), (4, .int 0)], [.int 1], M149)) rfl rfl rfl ?_
            exact ml_ret rfl (r_z (Or.inr rfl)) (⟨⟨_, rfl, Or.inr ⟨rfl, fun k hk hz => h154 k hk (hz.fr h146 h147)⟩⟩, hS158⟩)
          · have c_43 : ¬ (x2 = 16) := of_decide_eq_false c_43
            refine ml_blk 2 (S' := (49, [(4, .int 0), (3, .int u115), (0, .ref r), (1, .int x1), (2, .int x2)], [.int 19, .int x2], M108)) rfl ?_
            refine ml_if2 (S1 := (74, [(0, .ref r), (1, .int x1), (3, .int u115), (4, .int 0)], [], M108)) (S2 := (52, [(4, .int 0), (3, .int u115), (0, .ref r), (1, .int x1), (2, .int x2)], [], M108)) rfl rfl rfl (fun c_49 => ?_) (fun c_49 => ?_)
            · have c_49 : x2 = 19 := of_decide_eq_true c_49
              refine ml_st (S' := (75, [(0, .ref r), (1, .int x1), (3, .int u115), (4, .int 0)], [.ref r], M108)) rfl rfl rfl ?_
              refine tg_ref (S' := (78, [(0, .ref r), (1, .int x1), (3, .int u115), (4, .int 0)], [.ref c], M108)) rfl hS113.1.1 hY0 (by decide) rfl rfl ?_
              refine ml_get (S' := (81, [(0, .ref r), (1, .int x1), (3, .int u115), (4, .int 0)], [.ref p], M108)) rfl g112 rfl ?_
              refine ml_blk 3 (S' := (85, [(0, .ref r), (1, .int x1), (3, .int u115), (4, .int 0)], [.int 0, .int u115, .int x1, .ref p], M108)) rfl ?_
              have h159 : M108.1 t = M.1 t := hS113.2 t (nin_cons (ykne hyt hY0 (by decide)) (nin_cons (ykne hyt hY3 (by decide)) (nin_cons (ykne hyt hyf (by decide)) (nin_cons (ykne hyt hys (by decide)) nin_nil))))
              have h160 : M108.1 f = M.1 f := hF114.2 f (nin_cons (ykne hyf hY0 (by decide)) (nin_cons (ykne hyf hY3 (by decide)) nin_nil))
              have h161 : M108.1 s = M.1 s := hF114.2 s (nin_cons (ykne hys hY0 (by decide)) (nin_cons (ykne hys hY3 (by decide)) nin_nil))
              refine ml_call (a := [.ref p, .int x1, .int u115, .int 0]) (rest := []) rfl (okc_t rfl rfl rfl hS113.1.1 hY4 (by decide)) rfl rfl (tm_setNumbers hS113.1.1 hY4 (Or.inl ⟨x2, hnt, htg.fr h159⟩) (by omega)) (fun v162 M163 h164 => ?_)
              obtain ⟨rfl, h166, h167, h168⟩ := h164
              have h169 : sf g Y [f, s] _ _ := ⟨h166, h167⟩
              have g170 := h169.2.gf (nin_cons (ykne hY1 hyf (by decide)) (nin_cons (ykne hY1 hys (by decide)) nin_nil)) g112
              have g171 := h169.2.gf (nin_cons (ykne hY0 hyf (by decide)) (nin_cons (ykne hY0 hys (by decide)) nin_nil)) g116
              have hS172 := hS113.tr h169 (by simp)
              show ml _ _ _ (88, [(0, .ref r), (1, .int x1), (3, .int u115), (4, .int 0)], [], M163) _
              refine ml_st (S' := (89, [(0, .ref r), (1, .int x1), (3, .int u115), (4, .int 0)], [.int 1], M163)) rfl rfl rfl ?_
              exact ml_ret rfl (r_z (Or.inr rfl)) (⟨⟨_, rfl, Or.inr ⟨rfl, fun k hk hz => h168 k hk (hz.fr h160 h161)⟩⟩, hS172⟩)
            · have c_49 : ¬ (x2 = 19) := of_decide_eq_false c_49
              refine ml_blk 2 (S' := (55, [(4, .int 0), (3, .int u115), (0, .ref r), (1, .int x1), (2, .int x2)], [.int 20, .int x2], M108)) rfl ?_
              refine ml_if2 (S1 := (74, [(0, .ref r), (1, .int x1), (3, .int u115), (4, .int 0)], [], M108)) (S2 := (58, [(4, .int 0), (3, .int u115), (0, .ref r), (1, .int x1), (2, .int x2)], [], M108)) rfl rfl rfl (fun c_55 => ?_) (fun c_55 => ?_)
              · have c_55 : x2 = 20 := of_decide_eq_true c_55
                refine ml_st (S' := (75, [(0, .ref r), (1, .int x1), (3, .int u115), (4, .int 0)], [.ref r], M108)) rfl rfl rfl ?_
                refine tg_ref (S' := (78, [(0, .ref r), (1, .int x1), (3, .int u115), (4, .int 0)], [.ref c], M108)) rfl hS113.1.1 hY0 (by decide) rfl rfl ?_
                refine ml_get (S' := (81, [(0, .ref r), (1, .int x1), (3, .int u115), (4, .int 0)], [.ref p], M108)) rfl g112 rfl ?_
                refine ml_blk 3 (S' := (85, [(0, .ref r), (1, .int x1), (3, .int u115), (4, .int 0)], [.int 0, .int u115, .int x1, .ref p], M108)) rfl ?_
                have h173 : M108.1 t = M.1 t := hS113.2 t (nin_cons (ykne hyt hY0 (by decide)) (nin_cons (ykne hyt hY3 (by decide)) (nin_cons (ykne hyt hyf (by decide)) (nin_cons (ykne hyt hys (by decide)) nin_nil))))
                have h174 : M108.1 f = M.1 f := hF114.2 f (nin_cons (ykne hyf hY0 (by decide)) (nin_cons (ykne hyf hY3 (by decide)) nin_nil))
                have h175 : M108.1 s = M.1 s := hF114.2 s (nin_cons (ykne hys hY0 (by decide)) (nin_cons (ykne hys hY3 (by decide)) nin_nil))
                refine ml_call (a := [.ref p, .int x1, .int u115, .int 0]) (rest := []) rfl (okc_t rfl rfl rfl hS113.1.1 hY4 (by decide)) rfl rfl (tm_setNumbers hS113.1.1 hY4 (Or.inl ⟨x2, hnt, htg.fr h173⟩) (by omega)) (fun v176 M177 h178 => ?_)
                obtain ⟨rfl, h180, h181, h182⟩ := h178
                have h183 : sf g Y [f, s] _ _ := ⟨h180, h181⟩
                have g184 := h183.2.gf (nin_cons (ykne hY1 hyf (by decide)) (nin_cons (ykne hY1 hys (by decide)) nin_nil)) g112
                have g185 := h183.2.gf (nin_cons (ykne hY0 hyf (by decide)) (nin_cons (ykne hY0 hys (by decide)) nin_nil)) g116
                have hS186 := hS113.tr h183 (by simp)
                show ml _ _ _ (88, [(0, .ref r), (1, .int x1), (3, .int u115), (4, .int 0)], [], M177) _
                refine ml_st (S' := (89, [(0, .ref r), (1, .int x1), (3, .int u115), (4, .int 0)], [.int 1], M177)) rfl rfl rfl ?_
                exact ml_ret rfl (r_z (Or.inr rfl)) (⟨⟨_, rfl, Or.inr ⟨rfl, fun k hk hz => h182 k hk (hz.fr h174 h175)⟩⟩, hS186⟩)
              · have c_55 : ¬ (x2 = 20) := of_decide_eq_false c_55
                refine ml_blk 2 (S' := (60, [(4, .int 0), (3, .int u115), (0, .ref r), (1, .int x1), (2, .int x2)], [.int 2, .ref r], M108)) rfl ?_
                obtain ⟨u187, g188, -⟩ := hS113.1.1.rd hY0
                refine ml_call (a := [.ref r, .int 2]) (rest := []) rfl (okc_t rfl rfl rfl hS113.1.1 hY0 (by decide)) rfl rfl (tr_takes hS113.1.1 hY0 hY1 hY2 hY3 g188 (by decide) (by omega)) (fun v189 M190 h191 => ?_)
                obtain ⟨⟨u192, rfl, z193⟩, h191⟩ := h191
                have g194 := h191.2.gf (nin_cons (ykne hY1 hY0 (by decide)) (nin_cons (ykne hY1 hY3 (by decide)) nin_nil)) g112
                have hS195 := hS113.tr h191 (by simp)
                have hF196 := hF114.tr h191 (by simp)
                show ml _ _ _ (63, [(4, .int 0), (3, .int u115), (0, .ref r), (1, .int x1), (2, .int x2)], [.int u192], M190) _
                refine ml_if (S1 := (68, [(4, .int 0), (3, .int u115), (0, .ref r), (1, .int x1), (2, .int x2)], [], M190)) (S2 := (66, [(4, .int 0), (3, .int u115), (0, .ref r), (1, .int x1), (2, .int x2)], [], M190)) rfl rfl rfl (fun c_63 => ?_) (fun c_63 => ?_)
                · have c_63 : ¬ u192 = 0 := of_decide_eq_true c_63
                  refine ml_st (S' := (69, [(4, .int 0), (3, .int u115), (0, .ref r), (1, .int x1), (2, .int x2)], [.ref r], M190)) rfl rfl rfl ?_
                  refine tg_int rfl hS195.1.1 hY0 (by decide) rfl (fun u197 g198 => ?_)
                  show ml _ _ _ (72, [(4, .int 0), (3, .int u115), (0, .ref r), (1, .int x1), (2, .int x2)], [.int u197], M190) _
                  refine ml_st (S' := (74, [(0, .ref r), (1, .int x1), (3, .int u115), (4, .int u197)], [], M190)) rfl rfl rfl ?_
                  refine ml_st (S' := (75, [(0, .ref r), (1, .int x1), (3, .int u115), (4, .int u197)], [.ref r], M190)) rfl rfl rfl ?_
                  refine tg_ref (S' := (78, [(0, .ref r), (1, .int x1), (3, .int u115), (4, .int u197)], [.ref c], M190)) rfl hS195.1.1 hY0 (by decide) rfl rfl ?_
                  refine ml_get (S' := (81, [(0, .ref r), (1, .int x1), (3, .int u115), (4, .int u197)], [.ref p], M190)) rfl g194 rfl ?_
                  refine ml_blk 3 (S' := (85, [(0, .ref r), (1, .int x1), (3, .int u115), (4, .int u197)], [.int u197, .int u115, .int x1, .ref p], M190)) rfl ?_
                  have h199 : M190.1 t = M.1 t := hS195.2 t (nin_cons (ykne hyt hY0 (by decide)) (nin_cons (ykne hyt hY3 (by decide)) (nin_cons (ykne hyt hyf (by decide)) (nin_cons (ykne hyt hys (by decide)) nin_nil))))
                  have h200 : M190.1 f = M.1 f := hF196.2 f (nin_cons (ykne hyf hY0 (by decide)) (nin_cons (ykne hyf hY3 (by decide)) nin_nil))
                  have h201 : M190.1 s = M.1 s := hF196.2 s (nin_cons (ykne hys hY0 (by decide)) (nin_cons (ykne hys hY3 (by decide)) nin_nil))
                  refine ml_call (a := [.ref p, .int x1, .int u115, .int u197]) (rest := []) rfl (okc_t rfl rfl rfl hS195.1.1 hY4 (by decide)) rfl rfl (tm_setNumbers hS195.1.1 hY4 (Or.inl ⟨x2, hnt, htg.fr h199⟩) (by omega)) (fun v202 M203 h204 => ?_)
                  obtain ⟨rfl, h206, h207, h208⟩ := h204
                  have h209 : sf g Y [f, s] _ _ := ⟨h206, h207⟩
                  have g210 := h209.2.gf (nin_cons (ykne hY1 hyf (by decide)) (nin_cons (ykne hY1 hys (by decide)) nin_nil)) g194
                  have g211 := h209.2.gf (nin_cons (ykne hY0 hyf (by decide)) (nin_cons (ykne hY0 hys (by decide)) nin_nil)) g198
                  have hS212 := hS195.tr h209 (by simp)
                  show ml _ _ _ (88, [(0, .ref r), (1, .int x1), (3, .int u115), (4, .int u197)], [], M203) _
                  refine ml_st (S' := (89, [(0, .ref r), (1, .int x1), (3, .int u115), (4, .int u197)], [.int 1], M203)) rfl rfl rfl ?_
                  exact ml_ret rfl (r_z (Or.inr rfl)) (⟨⟨_, rfl, Or.inr ⟨rfl, fun k hk hz => h208 k hk (hz.fr h200 h201)⟩⟩, hS212⟩)
                · have c_63 : ¬ (¬ u192 = 0) := of_decide_eq_false c_63
                  refine ml_st (S' := (67, [(4, .int 0), (3, .int u115), (0, .ref r), (1, .int x1), (2, .int x2)], [.int 0], M190)) rfl rfl rfl ?_
                  exact ml_ret rfl (r_z (Or.inl rfl)) (⟨⟨_, rfl, Or.inl rfl⟩, hS195⟩)
    · have c_15 : ¬ (¬ u110 = 0) := of_decide_eq_false c_15
      refine ml_st (S' := (19, [(0, .ref r), (1, .int x1), (2, .int x2)], [.int 0], M108)) rfl rfl rfl ?_
      exact ml_ret rfl (r_z (Or.inl rfl)) (⟨⟨_, rfl, Or.inl rfl⟩, hS113⟩)
theorem loop_add {a x : Int32} {m n : Nat} {E : Int} (hn : n < 1073741824) (h0 : 0 ≤ a.toInt) (h1 : a.toInt ≤ n) (hx : 1 ≤ x.toInt) (hE : a.toInt + x.toInt ≤ E) (hEn : E ≤ n) (hm : (2147483648 - a.toInt).toNat ≤ m + 1) : (2147483648 - (a + x).toInt).toNat ≤ m := by
  rw [i_add (by omega) (by omega)]
  omega

set_option maxHeartbeats 2000000 in
theorem tr_takesText {g : xe_G} {M : mi_H} {Y : yT} {r c b vd n da p np mp t tp f s sh ch : Nat} {x1 : Int32} {a0 : Int32} (hW : WF g Y M) (hY0 : Y.1 r = some (9, [c, b, vd, n])) (hY1 : Y.1 c = some (3, [b, da, n])) (hY2 : Y.1 b = some (1, [da, n])) (hY3 : Y.1 vd = some (10, [])) (hY4 : Y.1 p = some (7, [np, mp, t, tp, f, s, sh, ch])) (hr3 : mi_gf M r 9 3 = some (.int a0)) (hcp : mi_gf M c 3 1 = some (.ref p)) {d : Nat} (hd : 3 ≤ d) : mt (mT g) d 170 [.ref r, .int x1] M (fun v M' => (∃ x : Int32, v = some (.int x) ∧ (x = 0 ∨ x = 1 ∧ (∀ k : Int32, x1.toInt < k.toInt → TZ M f s k → TZ M' f s k))) ∧ sf g Y [r, vd, p, ch, f, s] M M') := by
  obtain ⟨d, rfl⟩ : ∃ e, d = e + 1 := ⟨d - 1, by omega⟩
  have hS : sf g Y [r, vd, p, ch, f, s] M M := sf.rf hW
  refine mt_in (b := mb_170 g) rfl rfl ?_
  show ml (mT g) d (mb_170 g).2 (0, [(0, .ref r), (1, .int x1)], [], M) _
  obtain ⟨h0, h1⟩ := hW.rdb hY0 hr3
  have hn := hW.bn hY2
  obtain ⟨hyt, hytp, hyf, hys, hysh, hych⟩ := hW.prows hY4
  have hF : sf g Y [r, vd, p, ch] M M := sf.rf hW
  refine ml_blk 2 (S' := (2, [(0, .ref r), (1, .int x1)], [.int 2, .ref r], M)) rfl ?_
  refine ml_call (a := [.ref r, .int 2]) (rest := []) rfl (okc_t rfl rfl rfl hS.1.1 hY0 (by decide)) rfl rfl (tr_takes hS.1.1 hY0 hY1 hY2 hY3 hr3 (by decide) (by omega)) (fun v1 M2 h3 => ?_)
  obtain ⟨⟨u4, rfl, z5⟩, h3⟩ := h3
  have g6 := h3.2.gf (nin_cons (ykne hY1 hY0 (by decide)) (nin_cons (ykne hY1 hY3 (by decide)) nin_nil)) hcp
  have hS7 := hS.tr h3 (by simp)
  have hF8 := hF.tr h3 (by simp)
  show ml _ _ _ (5, [(0, .ref r), (1, .int x1)], [.int u4], M2) _
  refine ml_if (S1 := (10, [(0, .ref r), (1, .int x1)], [], M2)) (S2 := (8, [(0, .ref r), (1, .int x1)], [], M2)) rfl rfl rfl (fun c_5 => ?_) (fun c_5 => ?_)
  · have c_5 : ¬ u4 = 0 := of_decide_eq_true c_5
    have t9 := z5.resolve_left c_5
    have ha2 := t9.2.1
    have hb2 : 0 ≤ (a0 + 2).toInt ∧ (a0 + 2).toInt ≤ n := hS7.1.1.rdb hY0 t9.2.2.1
    refine ml_st (S' := (11, [(0, .ref r), (1, .int x1)], [.ref r], M2)) rfl rfl rfl ?_
    refine ml_get (S' := (14, [(0, .ref r), (1, .int x1)], [.int (sp_u2 n (Y.2 da) a0)], M2)) rfl t9.2.2.2 rfl ?_
    refine ml_st (S' := (15, [(0, .ref r), (1, .int x1)], [.ref r, .int (sp_u2 n (Y.2 da) a0)], M2)) rfl rfl rfl ?_
    refine tg_ref (S' := (18, [(0, .ref r), (1, .int x1)], [.ref b, .int (sp_u2 n (Y.2 da) a0)], M2)) rfl hS7.1.1 hY0 (by decide) rfl rfl ?_
    refine ml_call (a := [.ref b]) (rest := [.int (sp_u2 n (Y.2 da) a0)]) rfl (okc_t rfl rfl rfl hS7.1.1 hY2 (by decide)) rfl rfl (ct_size (hS7.1.1.bytes hY2).1 (by omega)) (fun v10 M11 h12 => ?_)
    obtain ⟨rfl, h12⟩ := h12
    rw [h12]
    show ml _ _ _ (21, [(0, .ref r), (1, .int x1)], [.int (nI n), .int (sp_u2 n (Y.2 da) a0)], M2) _
    refine ml_st (S' := (22, [(0, .ref r), (1, .int x1)], [.ref r, .int (nI n), .int (sp_u2 n (Y.2 da) a0)], M2)) rfl rfl rfl ?_
    refine ml_get (S' := (25, [(0, .ref r), (1, .int x1)], [.int (a0 + 2), .int (nI n), .int (sp_u2 n (Y.2 da) a0)], M2)) rfl t9.2.2.1 rfl ?_
    refine ml_st (S' := (26, [(0, .ref r), (1, .int x1)], [.int ((nI n) - (a0 + 2)), .int (sp_u2 n (Y.2 da) a0)], M2)) rfl rfl rfl ?_
    refine ml_if2 (S1 := (42, [(0, .ref r), (1, .int x1)], [], M2)) (S2 := (29, [(0, .ref r), (1, .int x1)], [], M2)) rfl rfl rfl (fun c_26 => ?_) (fun c_26 => ?_)
    · have c_26 : (sp_u2 n (Y.2 da) a0) ≤ ((nI n) - (a0 + 2)) := of_decide_eq_true c_26
      refine ml_st (S' := (43, [(0, .ref r), (1, .int x1)], [.ref r], M2)) rfl rfl rfl ?_
      refine ml_get (S' := (46, [(0, .ref r), (1, .int x1)], [.int (a0 + 2)], M2)) rfl t9.2.2.1 rfl ?_
      refine ml_st (S' := (47, [(0, .ref r), (1, .int x1)], [.ref r, .int (a0 + 2)], M2)) rfl rfl rfl ?_
      refine ml_get (S' := (50, [(0, .ref r), (1, .int x1)], [.int (sp_u2 n (Y.2 da) a0), .int (a0 + 2)], M2)) rfl t9.2.2.2 rfl ?_
      refine ml_st (S' := (51, [(0, .ref r), (1, .int x1)], [.int ((a0 + 2) + (sp_u2 n (Y.2 da) a0))], M2)) rfl rfl rfl ?_
      refine ml_st (S' := (52, [(2, .int ((a0 + 2) + (sp_u2 n (Y.2 da) a0))), (0, .ref r), (1, .int x1)], [], M2)) rfl rfl rfl ?_
      have hend := (le_room hn hb2.1 hb2.2 u2_pos c_26)
      refine ml_st (S' := (53, [(2, .int ((a0 + 2) + (sp_u2 n (Y.2 da) a0))), (0, .ref r), (1, .int x1)], [.ref r], M2)) rfl rfl rfl ?_
      refine tg_ref (S' := (56, [(2, .int ((a0 + 2) + (sp_u2 n (Y.2 da) a0))), (0, .ref r), (1, .int x1)], [.ref c], M2)) rfl hS7.1.1 hY0 (by decide) rfl rfl ?_
      refine ml_get (S' := (59, [(2, .int ((a0 + 2) + (sp_u2 n (Y.2 da) a0))), (0, .ref r), (1, .int x1)], [.ref p], M2)) rfl g6 rfl ?_
      refine tg_pint rfl hS7.1.1 hY4 rfl (fun u13 g14 => ?_)
      show ml _ _ _ (62, [(2, .int ((a0 + 2) + (sp_u2 n (Y.2 da) a0))), (0, .ref r), (1, .int x1)], [.int u13], M2) _
      have hcc0 := hS7.1.1.ccb hY4 g14
      refine ml_st (S' := (63, [(0, .ref r), (1, .int x1), (2, .int ((a0 + 2) + (sp_u2 n (Y.2 da) a0))), (3, .int u13)], [], M2)) rfl rfl rfl ?_
      have L_63 : ∀ (n_63 : Nat) (a63 : Int32) (c63 : Int32) (M_63 : mi_H), (2147483648 - a63.toInt).toNat ≤ n_63 → (mi_gf M_63 r 9 3 = some (.int a63) ∧ mi_gf M_63 c 3 1 = some (.ref p) ∧ mi_gf M_63 p 7 7 = some (.int c63) ∧ u13.toInt ≤ c63.toInt ∧ sf g Y [r, vd, p, ch] M M_63) → sf g Y [r, vd, p, ch, f, s] M M_63 → ml (mT g) d (mb_170 g).2 (63, [(0, .ref r), (1, .int x1), (2, .int ((a0 + 2) + (sp_u2 n (Y.2 da) a0))), (3, .int u13)], [], M_63) (fun v M' => (∃ x : Int32, v = some (.int x) ∧ (x = 0 ∨ x = 1 ∧ (∀ k : Int32, x1.toInt < k.toInt → TZ M f s k → TZ M' f s k))) ∧ sf g Y [r, vd, p, ch, f, s] M M') := by
        intro n_63
        induction n_63 with
        | zero => intro a63 c63 M_63 hn; exact (loop_zero hn).elim
        | succ n_63 ih_63 =>
          intro a63 c63 M_63 hn_63 hi_63 hS_63
          have hb_63 := hS_63.1.1.rdb hY0 hi_63.1
          refine ml_st (S' := (64, [(0, .ref r), (1, .int x1), (2, .int ((a0 + 2) + (sp_u2 n (Y.2 da) a0))), (3, .int u13)], [.ref r], M_63)) rfl rfl rfl ?_
          refine ml_get (S' := (67, [(0, .ref r), (1, .int x1), (2, .int ((a0 + 2) + (sp_u2 n (Y.2 da) a0))), (3, .int u13)], [.int a63], M_63)) rfl hi_63.1 rfl ?_
          refine ml_st (S' := (68, [(0, .ref r), (1, .int x1), (2, .int ((a0 + 2) + (sp_u2 n (Y.2 da) a0))), (3, .int u13)], [.int ((a0 + 2) + (sp_u2 n (Y.2 da) a0)), .int a63], M_63)) rfl rfl rfl ?_
          refine ml_if2 (S1 := (128, [(0, .ref r), (1, .int x1), (2, .int ((a0 + 2) + (sp_u2 n (Y.2 da) a0))), (3, .int u13)], [], M_63)) (S2 := (71, [(0, .ref r), (1, .int x1), (2, .int ((a0 + 2) + (sp_u2 n (Y.2 da) a0))), (3, .int u13)], [], M_63)) rfl rfl rfl (fun c_68 => ?_) (fun c_68 => ?_)
          · have c_68 : ((a0 + 2) + (sp_u2 n (Y.2 da) a0)) ≤ a63 := of_decide_eq_true c_68
            refine ml_st (S' := (129, [(0, .ref r), (1, .int x1), (2, .int ((a0 + 2) + (sp_u2 n (Y.2 da) a0))), (3, .int u13)], [.ref r], M_63)) rfl rfl rfl ?_
            refine tg_ref (S' := (132, [(0, .ref r), (1, .int x1), (2, .int ((a0 + 2) + (sp_u2 n (Y.2 da) a0))), (3, .int u13)], [.ref c], M_63)) rfl hS_63.1.1 hY0 (by decide) rfl rfl ?_
            refine ml_get (S' := (135, [(0, .ref r), (1, .int x1), (2, .int ((a0 + 2) + (sp_u2 n (Y.2 da) a0))), (3, .int u13)], [.ref p], M_63)) rfl hi_63.2.1 rfl ?_
            refine ml_blk 3 (S' := (138, [(0, .ref r), (1, .int x1), (2, .int ((a0 + 2) + (sp_u2 n (Y.2 da) a0))), (3, .int u13)], [.ref r, .int u13, .int x1, .ref p], M_63)) rfl ?_
            refine tg_ref (S' := (141, [(0, .ref r), (1, .int x1), (2, .int ((a0 + 2) + (sp_u2 n (Y.2 da) a0))), (3, .int u13)], [.ref c, .int u13, .int x1, .ref p], M_63)) rfl hS_63.1.1 hY0 (by decide) rfl rfl ?_
            refine ml_get (S' := (144, [(0, .ref r), (1, .int x1), (2, .int ((a0 + 2) + (sp_u2 n (Y.2 da) a0))), (3, .int u13)], [.ref p, .int u13, .int x1, .ref p], M_63)) rfl hi_63.2.1 rfl ?_
            refine ml_get (S' := (147, [(0, .ref r), (1, .int x1), (2, .int ((a0 + 2) + (sp_u2 n (Y.2 da) a0))), (3, .int u13)], [.int c63, .int u13, .int x1, .ref p], M_63)) rfl hi_63.2.2.1 rfl ?_
            refine ml_blk 2 (S' := (149, [(0, .ref r), (1, .int x1), (2, .int ((a0 + 2) + (sp_u2 n (Y.2 da) a0))), (3, .int u13)], [.int (c63 - u13), .int u13, .int x1, .ref p], M_63)) rfl ?_
            have h15 : M_63.1 f = M.1 f := hi_63.2.2.2.2.2 f (nin_cons (ykne hyf hY0 (by decide)) (nin_cons (ykne hyf hY3 (by decide)) (nin_cons (ykne hyf hY4 (by decide)) (nin_cons (ykne hyf hych (by decide)) nin_nil))))
            have h16 : M_63.1 s = M.1 s := hi_63.2.2.2.2.2 s (nin_cons (ykne hys hY0 (by decide)) (nin_cons (ykne hys hY3 (by decide)) (nin_cons (ykne hys hY4 (by decide)) (nin_cons (ykne hys hych (by decide)) nin_nil))))
            refine ml_call (a := [.ref p, .int x1, .int u13, .int (c63 - u13)]) (rest := []) rfl (okc_t rfl rfl rfl hS_63.1.1 hY4 (by decide)) rfl rfl (tm_setNumbers hS_63.1.1 hY4 (Or.inr ⟨c63, hi_63.2.2.1, hcc0.1, by rw [i_sub (by have := hcc0.1; have := (hS_63.1.1.ccb hY4 hi_63.2.2.1); omega) (by have := hcc0.1; have := (hS_63.1.1.ccb hY4 hi_63.2.2.1); omega)]; have := hi_63.2.2.2.1; omega, by rw [i_sub (by have := hcc0.1; have := (hS_63.1.1.ccb hY4 hi_63.2.2.1); omega) (by have := hcc0.1; have := (hS_63.1.1.ccb hY4 hi_63.2.2.1); omega)]; omega⟩) (by omega)) (fun v17 M18 h19 => ?_)
            obtain ⟨rfl, h21, h22, h23⟩ := h19
            have h24 : sf g Y [f, s] _ _ := ⟨h21, h22⟩
            have g25 := h24.2.gf (nin_cons (ykne hY0 hyf (by decide)) (nin_cons (ykne hY0 hys (by decide)) nin_nil)) hi_63.1
            have g26 := h24.2.gf (nin_cons (ykne hY1 hyf (by decide)) (nin_cons (ykne hY1 hys (by decide)) nin_nil)) hi_63.2.1
            have g27 := h24.2.gf (nin_cons (ykne hY4 hyf (by decide)) (nin_cons (ykne hY4 hys (by decide)) nin_nil)) hi_63.2.2.1
            have hS28 := hS_63.tr h24 (by simp)
            show ml _ _ _ (152, [(0, .ref r), (1, .int x1), (2, .int ((a0 + 2) + (sp_u2 n (Y.2 da) a0))), (3, .int u13)], [], M18) _
            refine ml_st (S' := (153, [(0, .ref r), (1, .int x1), (2, .int ((a0 + 2) + (sp_u2 n (Y.2 da) a0))), (3, .int u13)], [.int 1], M18)) rfl rfl rfl ?_
            exact ml_ret rfl (r_z (Or.inr rfl)) (⟨⟨_, rfl, Or.inr ⟨rfl, fun k hk hz => h23 k hk (hz.fr h15 h16)⟩⟩, hS28⟩)
          · have c_68 : ¬ (((a0 + 2) + (sp_u2 n (Y.2 da) a0)) ≤ a63) := of_decide_eq_false c_68
            refine ml_blk 2 (S' := (73, [(0, .ref r), (1, .int x1), (2, .int ((a0 + 2) + (sp_u2 n (Y.2 da) a0))), (3, .int u13)], [.int ((a0 + 2) + (sp_u2 n (Y.2 da) a0)), .ref r], M_63)) rfl ?_
            refine ml_call (a := [.ref r, .int ((a0 + 2) + (sp_u2 n (Y.2 da) a0))]) (rest := []) rfl (okc_t rfl rfl rfl hS_63.1.1 hY0 (by decide)) rfl rfl (tr_characterSize hS_63.1.1 hY0 hY1 hY2 hY3 hi_63.1 (Int32.not_le.mp c_68) (by omega)) (fun v29 M30 h31 => ?_)
            obtain ⟨⟨u32, rfl, z33⟩, h31⟩ := h31
            rw [h31]
            show ml _ _ _ (76, [(0, .ref r), (1, .int x1), (2, .int ((a0 + 2) + (sp_u2 n (Y.2 da) a0))), (3, .int u13)], [.int u32], M_63) _
            refine ml_st (S' := (78, [(4, .int u32), (0, .ref r), (1, .int x1), (2, .int ((a0 + 2) + (sp_u2 n (Y.2 da) a0))), (3, .int u13)], [], M_63)) rfl rfl rfl ?_
            refine ml_blk 2 (S' := (81, [(4, .int u32), (0, .ref r), (1, .int x1), (2, .int ((a0 + 2) + (sp_u2 n (Y.2 da) a0))), (3, .int u13)], [.int 1, .int u32], M_63)) rfl ?_
            refine ml_if2 (S1 := (98, [(4, .int u32), (0, .ref r), (1, .int x1), (2, .int ((a0 + 2) + (sp_u2 n (Y.2 da) a0))), (3, .int u13)], [], M_63)) (S2 := (84, [(4, .int u32), (0, .ref r), (1, .int x1), (2, .int ((a0 + 2) + (sp_u2 n (Y.2 da) a0))), (3, .int u13)], [], M_63)) rfl rfl rfl (fun c_81 => ?_) (fun c_81 => ?_)
            · have c_81 : 1 ≤ u32 := of_decide_eq_true c_81
              have z34 := z33.resolve_left (fun e => absurd (e ▸ c_81 : (1 : Int32) ≤ 0) (by decide))
              have hx_ : (a63 + u32).toInt = a63.toInt + u32.toInt := i_add (by have := z34.1; omega) (by have := z34.2; have := hend.1; have := hend.2; omega)
              refine ml_st (S' := (99, [(4, .int u32), (0, .ref r), (1, .int x1), (2, .int ((a0 + 2) + (sp_u2 n (Y.2 da) a0))), (3, .int u13)], [.ref r], M_63)) rfl rfl rfl ?_
              refine tg_ref (S' := (102, [(4, .int u32), (0, .ref r), (1, .int x1), (2, .int ((a0 + 2) + (sp_u2 n (Y.2 da) a0))), (3, .int u13)], [.ref c], M_63)) rfl hS_63.1.1 hY0 (by decide) rfl rfl ?_
              refine ml_get (S' := (105, [(4, .int u32), (0, .ref r), (1, .int x1), (2, .int ((a0 + 2) + (sp_u2 n (Y.2 da) a0))), (3, .int u13)], [.ref p], M_63)) rfl hi_63.2.1 rfl ?_
              refine ml_blk 2 (S' := (108, [(4, .int u32), (0, .ref r), (1, .int x1), (2, .int ((a0 + 2) + (sp_u2 n (Y.2 da) a0))), (3, .int u13)], [.int u32, .ref r, .ref p], M_63)) rfl ?_
              refine ml_call (a := [.ref r, .int u32]) (rest := [.ref p]) rfl (okc_t rfl rfl rfl hS_63.1.1 hY0 (by decide)) rfl rfl (tr_characterOf hS_63.1.1 hY0 hY1 hY2 hY3 (by omega)) (fun v35 M36 h37 => ?_)
              obtain ⟨⟨u38, rfl⟩, h37⟩ := h37
              rw [h37]
              show ml _ _ _ (111, [(4, .int u32), (0, .ref r), (1, .int x1), (2, .int ((a0 + 2) + (sp_u2 n (Y.2 da) a0))), (3, .int u13)], [.int u38, .ref p], M_63) _
              refine ml_call (a := [.ref p, .int u38]) (rest := []) rfl (okc_t rfl rfl rfl hS_63.1.1 hY4 (by decide)) rfl rfl (tm_addCharacter hS_63.1.1 hY4 hi_63.2.2.1 (by omega)) (fun v39 M40 h41 => ?_)
              obtain ⟨rfl, h43, h44, h45⟩ := h41
              have h46 : sf g Y [p, ch] _ _ := ⟨h43, h44⟩
              have g47 := h46.2.gf (nin_cons (ykne hY0 hY4 (by decide)) (nin_cons (ykne hY0 hych (by decide)) nin_nil)) hi_63.1
              have g48 := h46.2.gf (nin_cons (ykne hY1 hY4 (by decide)) (nin_cons (ykne hY1 hych (by decide)) nin_nil)) hi_63.2.1
              have hS49 := hS_63.tr h46 (by simp)
              have hF50 := hi_63.2.2.2.2.tr h46 (by simp)
              obtain ⟨u51, g52, l53⟩ := h45
              show ml _ _ _ (114, [(4, .int u32), (0, .ref r), (1, .int x1), (2, .int ((a0 + 2) + (sp_u2 n (Y.2 da) a0))), (3, .int u13)], [], M40) _
              refine ml_blk 2 (S' := (116, [(4, .int u32), (0, .ref r), (1, .int x1), (2, .int ((a0 + 2) + (sp_u2 n (Y.2 da) a0))), (3, .int u13)], [.ref r, .ref r], M40)) rfl ?_
              refine ml_get (S' := (119, [(4, .int u32), (0, .ref r), (1, .int x1), (2, .int ((a0 + 2) + (sp_u2 n (Y.2 da) a0))), (3, .int u13)], [.int a63, .ref r], M40)) rfl g47 rfl ?_
              refine ml_blk 2 (S' := (122, [(4, .int u32), (0, .ref r), (1, .int x1), (2, .int ((a0 + 2) + (sp_u2 n (Y.2 da) a0))), (3, .int u13)], [.int (a63 + u32), .ref r], M40)) rfl ?_
              refine tp_putx rfl hS49.1 hY0 (by decide) rfl (⟨_, rfl⟩) rfl (fun l hl _ => xtr_at hl (by rw [hx_]; have := z34.1; omega) (by rw [hx_]; have := z34.2; have := hend.1; have := hend.2; omega)) (fun M54 hS55 f56 => ?_)
              have hF57 := hF50.put hS55 f56 (by simp)
              have hS58 := hS49.put hS55 f56 (by simp)
              have g59 := gf_fr (f56.1 c (ykne hY1 hY0 (by decide))) g48
              have g60 := gf_fr (f56.1 p (ykne hY4 hY0 (by decide))) g52
              show ml _ _ _ (125, [(4, .int u32), (0, .ref r), (1, .int x1), (2, .int ((a0 + 2) + (sp_u2 n (Y.2 da) a0))), (3, .int u13)], [], M54) _
              refine ml_st (S' := (63, [(0, .ref r), (1, .int x1), (2, .int ((a0 + 2) + (sp_u2 n (Y.2 da) a0))), (3, .int u13)], [], M54)) rfl rfl rfl ?_
              exact ih_63 (a63 + u32) u51 _ (loop_add hn hb_63.1 hb_63.2 z34.1 (Int.le_trans z34.2 (Int.le_of_eq hend.2)) hend.1 hn_63) (⟨f56.2.2.1, g59, g60, Int.le_trans hi_63.2.2.2.1 l53, hF57⟩) hS58
            · have c_81 : ¬ (1 ≤ u32) := of_decide_eq_false c_81
              refine ml_st (S' := (85, [(4, .int u32), (0, .ref r), (1, .int x1), (2, .int ((a0 + 2) + (sp_u2 n (Y.2 da) a0))), (3, .int u13)], [.ref r], M_63)) rfl rfl rfl ?_
              refine tg_ref (S' := (88, [(4, .int u32), (0, .ref r), (1, .int x1), (2, .int ((a0 + 2) + (sp_u2 n (Y.2 da) a0))), (3, .int u13)], [.ref vd], M_63)) rfl hS_63.1.1 hY0 (by decide) rfl rfl ?_
              refine ml_blk 2 (S' := (91, [(4, .int u32), (0, .ref r), (1, .int x1), (2, .int ((a0 + 2) + (sp_u2 n (Y.2 da) a0))), (3, .int u13)], [.ref r, .int 6, .ref vd], M_63)) rfl ?_
              refine ml_get (S' := (94, [(4, .int u32), (0, .ref r), (1, .int x1), (2, .int ((a0 + 2) + (sp_u2 n (Y.2 da) a0))), (3, .int u13)], [.int a63, .int 6, .ref vd], M_63)) rfl hi_63.1 rfl ?_
              refine ml_call (a := [.ref vd, .int 6, .int a63]) (rest := []) rfl (okc_t rfl rfl rfl hS_63.1.1 hY3 (by decide)) rfl rfl (tw_Ve_wrong hS_63.1.1 hY3 (by omega)) (fun v61 M62 h63 => ?_)
              obtain ⟨rfl, h63⟩ := h63
              have g65 := h63.2.gf (nin_cons (ykne hY0 hY3 (by decide)) nin_nil) hi_63.1
              have g66 := h63.2.gf (nin_cons (ykne hY1 hY3 (by decide)) nin_nil) hi_63.2.1
              have g67 := h63.2.gf (nin_cons (ykne hY4 hY3 (by decide)) nin_nil) hi_63.2.2.1
              have hS68 := hS_63.tr h63 (by simp)
              have hF69 := hi_63.2.2.2.2.tr h63 (by simp)
              show ml _ _ _ (97, [(4, .int u32), (0, .ref r), (1, .int x1), (2, .int ((a0 + 2) + (sp_u2 n (Y.2 da) a0))), (3, .int u13)], [.int 0], M62) _
              exact ml_ret rfl (r_z (Or.inl rfl)) (⟨⟨_, rfl, Or.inl rfl⟩, hS68⟩)
      exact L_63 _ (a0 + 2) u13 _ (Nat.le_refl _) (⟨t9.2.2.1, g6, g14, Int.le_refl _, hF8⟩) hS7
    · have c_26 : ¬ ((sp_u2 n (Y.2 da) a0) ≤ ((nI n) - (a0 + 2))) := of_decide_eq_false c_26
      refine ml_st (S' := (30, [(0, .ref r), (1, .int x1)], [.ref r], M2)) rfl rfl rfl ?_
      refine tg_ref (S' := (33, [(0, .ref r), (1, .int x1)], [.ref vd], M2)) rfl hS7.1.1 hY0 (by decide) rfl rfl ?_
      refine ml_blk 2 (S' := (35, [(0, .ref r), (1, .int x1)], [.ref r, .int 1, .ref vd], M2)) rfl ?_
      refine ml_get (S' := (38, [(0, .ref r), (1, .int x1)], [.int (a0 + 2), .int 1, .ref vd], M2)) rfl t9.2.2.1 rfl ?_
      refine ml_call (a := [.ref vd, .int 1, .int (a0 + 2)]) (rest := []) rfl (okc_t rfl rfl rfl hS7.1.1 hY3 (by decide)) rfl rfl (tw_Ve_wrong hS7.1.1 hY3 (by omega)) (fun v70 M71 h72 => ?_)
      obtain ⟨rfl, h72⟩ := h72
      have g74 := h72.2.gf (nin_cons (ykne hY0 hY3 (by decide)) nin_nil) t9.2.2.1
      have g75 := h72.2.gf (nin_cons (ykne hY1 hY3 (by decide)) nin_nil) g6
      have g76 := h72.2.gf (nin_cons (ykne hY0 hY3 (by decide)) nin_nil) t9.2.2.2
      have hS77 := hS7.tr h72 (by simp)
      have hF78 := hF8.tr h72 (by simp)
      show ml _ _ _ (41, [(0, .ref r), (1, .int x1)], [.int 0], M71) _
      exact ml_ret rfl (r_z (Or.inl rfl)) (⟨⟨_, rfl, Or.inl rfl⟩, hS77⟩)
  · have c_5 : ¬ (¬ u4 = 0) := of_decide_eq_false c_5
    refine ml_st (S' := (9, [(0, .ref r), (1, .int x1)], [.int 0], M2)) rfl rfl rfl ?_
    exact ml_ret rfl (r_z (Or.inl rfl)) (⟨⟨_, rfl, Or.inl rfl⟩, hS7⟩)
set_option maxHeartbeats 2000000 in
theorem tr_takesEntry {g : xe_G} {M : mi_H} {Y : yT} {r c b vd n da p np mp t tp f s sh ch : Nat} {x1 : Int32} {a0 : Int32} (hW : WF g Y M) (hY0 : Y.1 r = some (9, [c, b, vd, n])) (hY1 : Y.1 c = some (3, [b, da, n])) (hY2 : Y.1 b = some (1, [da, n])) (hY3 : Y.1 vd = some (10, [])) (hY4 : Y.1 p = some (7, [np, mp, t, tp, f, s, sh, ch])) (hr3 : mi_gf M r 9 3 = some (.int a0)) (hcp : mi_gf M c 3 1 = some (.ref p)) (hk0 : 0 ≤ x1.toInt) (hk1 : x1.toInt ≤ 65535) (htz : TZ M f s x1) {d : Nat} (hd : 4 ≤ d) : mt (mT g) d 163 [.ref r, .int x1] M (fun v M' => (∃ x : Int32, v = some (.int x) ∧ (x = 0 ∨ x = 1 ∧ TZ M' f s (x1 + 1))) ∧ sf g Y [r, vd, t, tp, f, s, p, ch] M M') := by
  obtain ⟨d, rfl⟩ : ∃ e, d = e + 1 := ⟨d - 1, by omega⟩
  have hS : sf g Y [r, vd, t, tp, f, s, p, ch] M M := sf.rf hW
  refine mt_in (b := mb_163 g) rfl rfl ?_
  show ml (mT g) d (mb_163 g).2 (0, [(0, .ref r), (1, .int x1)], [], M) _
  obtain ⟨h0, h1⟩ := hW.rdb hY0 hr3
  have hn := hW.bn hY2
  obtain ⟨hyt, hytp, hyf, hys, hysh, hych⟩ := hW.prows hY4
  have hF : sf g Y [r, vd, t, tp] M M := sf.rf hW
  have hx11 : (x1 + 1).toInt = x1.toInt + 1 := i_add (by have : (1 : Int32).toInt = 1 := rfl; omega) (by have : (1 : Int32).toInt = 1 := rfl; omega)
  refine ml_st (S' := (1, [(0, .ref r), (1, .int x1)], [.ref r], M)) rfl rfl rfl ?_
  refine ml_get (S' := (4, [(0, .ref r), (1, .int x1)], [.int a0], M)) rfl hr3 rfl ?_
  refine ml_st (S' := (5, [(2, .int a0), (0, .ref r), (1, .int x1)], [], M)) rfl rfl rfl ?_
  refine ml_blk 2 (S' := (7, [(2, .int a0), (0, .ref r), (1, .int x1)], [.int 1, .ref r], M)) rfl ?_
  refine ml_call (a := [.ref r, .int 1]) (rest := []) rfl (okc_t rfl rfl rfl hS.1.1 hY0 (by decide)) rfl rfl (tr_takes hS.1.1 hY0 hY1 hY2 hY3 hr3 (by decide) (by omega)) (fun v1 M2 h3 => ?_)
  obtain ⟨⟨u4, rfl, z5⟩, h3⟩ := h3
  have g6 := h3.2.gf (nin_cons (ykne hY1 hY0 (by decide)) (nin_cons (ykne hY1 hY3 (by decide)) nin_nil)) hcp
  have hS7 := hS.tr h3 (by simp)
  have hF8 := hF.tr h3 (by simp)
  show ml _ _ _ (10, [(2, .int a0), (0, .ref r), (1, .int x1)], [.int u4], M2) _
  refine ml_if (S1 := (15, [(2, .int a0), (0, .ref r), (1, .int x1)], [], M2)) (S2 := (13, [(2, .int a0), (0, .ref r), (1, .int x1)], [], M2)) rfl rfl rfl (fun c_10 => ?_) (fun c_10 => ?_)
  · have c_10 : ¬ u4 = 0 := of_decide_eq_true c_10
    refine ml_st (S' := (16, [(2, .int a0), (0, .ref r), (1, .int x1)], [.ref r], M2)) rfl rfl rfl ?_
    refine tg_int rfl hS7.1.1 hY0 (by decide) rfl (fun u9 g10 => ?_)
    show ml _ _ _ (19, [(2, .int a0), (0, .ref r), (1, .int x1)], [.int u9], M2) _
    refine ml_st (S' := (20, [(3, .int u9), (2, .int a0), (0, .ref r), (1, .int x1)], [], M2)) rfl rfl rfl ?_
    refine ml_blk 2 (S' := (22, [(3, .int u9), (2, .int a0), (0, .ref r), (1, .int x1)], [.int u9, .ref r], M2)) rfl ?_
    refine ml_call (a := [.ref r, .int u9]) (rest := []) rfl (okc_t rfl rfl rfl hS7.1.1 hY0 (by decide)) rfl rfl (tr_isTag hS7.1.1 hY0 hY1 hY2 hY3 (by omega)) (fun v11 M12 h13 => ?_)
    obtain ⟨⟨u14, rfl, z15⟩, h13⟩ := h13
    rw [h13]
    show ml _ _ _ (25, [(3, .int u9), (2, .int a0), (0, .ref r), (1, .int x1)], [.int u14], M2) _
    refine ml_if (S1 := (38, [(3, .int u9), (2, .int a0), (0, .ref r), (1, .int x1)], [], M2)) (S2 := (28, [(3, .int u9), (2, .int a0), (0, .ref r), (1, .int x1)], [], M2)) rfl rfl rfl (fun c_25 => ?_) (fun c_25 => ?_)
    · have c_25 : ¬ u14 = 0 := of_decide_eq_true c_25
      refine ml_blk 2 (S' := (40, [(3, .int u9), (2, .int a0), (0, .ref r), (1, .int x1)], [.int 5, .int u9], M2)) rfl ?_
      have J_76 : ml (mT g) d (mb_163 g).2 (76, [(0, .ref r), (1, .int x1), (2, .int a0), (3, .int u9)], [], M2) (fun v M' => (∃ x : Int32, v = some (.int x) ∧ (x = 0 ∨ x = 1 ∧ TZ M' f s (x1 + 1))) ∧ sf g Y [r, vd, t, tp, f, s, p, ch] M M') := by
        refine ml_st (S' := (77, [(0, .ref r), (1, .int x1), (2, .int a0), (3, .int u9)], [.ref r], M2)) rfl rfl rfl ?_
        refine tg_ref (S' := (80, [(0, .ref r), (1, .int x1), (2, .int a0), (3, .int u9)], [.ref c], M2)) rfl hS7.1.1 hY0 (by decide) rfl rfl ?_
        refine ml_get (S' := (83, [(0, .ref r), (1, .int x1), (2, .int a0), (3, .int u9)], [.ref p], M2)) rfl g6 rfl ?_
        refine ml_blk 3 (S' := (86, [(0, .ref r), (1, .int x1), (2, .int a0), (3, .int u9)], [.int a0, .int u9, .int x1, .ref p], M2)) rfl ?_
        refine ml_call (a := [.ref p, .int x1, .int u9, .int a0]) (rest := []) rfl (okc_t rfl rfl rfl hS7.1.1 hY4 (by decide)) rfl rfl (tm_setTag hS7.1.1 hY4 (htz.fr (hF8.2 f (nin_cons (ykne hyf hY0 (by decide)) (nin_cons (ykne hyf hY3 (by decide)) (nin_cons (ykne hyf hyt (by decide)) (nin_cons (ykne hyf hytp (by decide)) nin_nil))))) (hF8.2 s (nin_cons (ykne hys hY0 (by decide)) (nin_cons (ykne hys hY3 (by decide)) (nin_cons (ykne hys hyt (by decide)) (nin_cons (ykne hys hytp (by decide)) nin_nil)))))) (by omega)) (fun v16 M17 h18 => ?_)
        obtain ⟨rfl, h20, h21, h22⟩ := h18
        have h23 : sf g Y [t, tp] _ _ := ⟨h20, h21⟩
        have g24 := h23.2.gf (nin_cons (ykne hY1 hyt (by decide)) (nin_cons (ykne hY1 hytp (by decide)) nin_nil)) g6
        have g25 := h23.2.gf (nin_cons (ykne hY0 hyt (by decide)) (nin_cons (ykne hY0 hytp (by decide)) nin_nil)) g10
        have hS26 := hS7.tr h23 (by simp)
        have hF27 := hF8.tr h23 (by simp)
        show ml _ _ _ (89, [(0, .ref r), (1, .int x1), (2, .int a0), (3, .int u9)], [], M17) _
        refine ml_st (S' := (90, [(0, .ref r), (1, .int x1), (2, .int a0), (3, .int u9)], [.int u9], M17)) rfl rfl rfl ?_
        refine ml_sw rfl (fun t_90 ht_90 => ?_)
        have kt_90 := ht_90
        have ht_90 : t_90 ∈ [128, 134, 140, 162] := mi_sw_sub ht_90 (by decide)
        simp only [List.mem_cons, List.not_mem_nil, or_false] at ht_90
        rcases ht_90 with rfl | rfl | rfl | rfl
        · show ml _ _ _ (128, [(0, .ref r), (1, .int x1), (2, .int a0), (3, .int u9)], [], M17) _
          refine ml_blk 2 (S' := (130, [(0, .ref r), (1, .int x1), (2, .int a0), (3, .int u9)], [.int x1, .ref r], M17)) rfl ?_
          have h28 : M17.1 f = M.1 f := hF27.2 f (nin_cons (ykne hyf hY0 (by decide)) (nin_cons (ykne hyf hY3 (by decide)) (nin_cons (ykne hyf hyt (by decide)) (nin_cons (ykne hyf hytp (by decide)) nin_nil))))
          have h29 : M17.1 s = M.1 s := hF27.2 s (nin_cons (ykne hys hY0 (by decide)) (nin_cons (ykne hys hY3 (by decide)) (nin_cons (ykne hys hyt (by decide)) (nin_cons (ykne hys hytp (by decide)) nin_nil))))
          obtain ⟨u30, g31, -⟩ := hS26.1.1.rd hY0
          refine ml_call (a := [.ref r, .int x1]) (rest := []) rfl (okc_t rfl rfl rfl hS26.1.1 hY0 (by decide)) rfl rfl (tr_takesText hS26.1.1 hY0 hY1 hY2 hY3 hY4 g31 g24 (by omega)) (fun v32 M33 h34 => ?_)
          obtain ⟨⟨u35, rfl, z36⟩, h34⟩ := h34
          have g37 := h34.2.gf (nin_cons (ykne hY1 hY0 (by decide)) (nin_cons (ykne hY1 hY3 (by decide)) (nin_cons (ykne hY1 hY4 (by decide)) (nin_cons (ykne hY1 hych (by decide)) (nin_cons (ykne hY1 hyf (by decide)) (nin_cons (ykne hY1 hys (by decide)) nin_nil)))))) g24
          have hS38 := hS26.tr h34 (by simp)
          show ml _ _ _ (133, [(0, .ref r), (1, .int x1), (2, .int a0), (3, .int u9)], [.int u35], M33) _
          exact ml_ret rfl (r_z (qS_z z36)) (⟨⟨_, rfl, (z36).imp id (fun h => ⟨h.1, h.2 _ (by rw [hx11]; omega) (((htz.le (by rw [hx11]; omega) : TZ M f s (x1 + 1))).fr (h28) (h29))⟩)⟩, hS38⟩)
        · show ml _ _ _ (134, [(0, .ref r), (1, .int x1), (2, .int a0), (3, .int u9)], [], M17) _
          refine ml_blk 2 (S' := (136, [(0, .ref r), (1, .int x1), (2, .int a0), (3, .int u9)], [.int 4, .ref r], M17)) rfl ?_
          obtain ⟨u39, g40, -⟩ := hS26.1.1.rd hY0
          refine ml_call (a := [.ref r, .int 4]) (rest := []) rfl (okc_t rfl rfl rfl hS26.1.1 hY0 (by decide)) rfl rfl (tr_takes hS26.1.1 hY0 hY1 hY2 hY3 g40 (by decide) (by omega)) (fun v41 M42 h43 => ?_)
          obtain ⟨⟨u44, rfl, z45⟩, h43⟩ := h43
          have g46 := h43.2.gf (nin_cons (ykne hY1 hY0 (by decide)) (nin_cons (ykne hY1 hY3 (by decide)) nin_nil)) g24
          have hS47 := hS26.tr h43 (by simp)
          have hF48 := hF27.tr h43 (by simp)
          show ml _ _ _ (139, [(0, .ref r), (1, .int x1), (2, .int a0), (3, .int u9)], [.int u44], M42) _
          exact ml_ret rfl (r_z (qS_z z45)) (⟨⟨_, rfl, (z45).imp id (fun h => ⟨h.1, ((htz.le (by rw [hx11]; omega) : TZ M f s (x1 + 1))).fr (hF48.2 f (nin_cons (ykne hyf hY0 (by decide)) (nin_cons (ykne hyf hY3 (by decide)) (nin_cons (ykne hyf hyt (by decide)) (nin_cons (ykne hyf hytp (by decide)) nin_nil))))) (hF48.2 s (nin_cons (ykne hys hY0 (by decide)) (nin_cons (ykne hys hY3 (by decide)) (nin_cons (ykne hys hyt (by decide)) (nin_cons (ykne hys hytp (by decide)) nin_nil)))))⟩)⟩, hS47⟩)
        · show ml _ _ _ (140, [(0, .ref r), (1, .int x1), (2, .int a0), (3, .int u9)], [], M17) _
          refine ml_blk 2 (S' := (142, [(0, .ref r), (1, .int x1), (2, .int a0), (3, .int u9)], [.int 4, .ref r], M17)) rfl ?_
          obtain ⟨u49, g50, -⟩ := hS26.1.1.rd hY0
          refine ml_call (a := [.ref r, .int 4]) (rest := []) rfl (okc_t rfl rfl rfl hS26.1.1 hY0 (by decide)) rfl rfl (tr_takes hS26.1.1 hY0 hY1 hY2 hY3 g50 (by decide) (by omega)) (fun v51 M52 h53 => ?_)
          obtain ⟨⟨u54, rfl, z55⟩, h53⟩ := h53
          have g56 := h53.2.gf (nin_cons (ykne hY1 hY0 (by decide)) (nin_cons (ykne hY1 hY3 (by decide)) nin_nil)) g24
          have hS57 := hS26.tr h53 (by simp)
          have hF58 := hF27.tr h53 (by simp)
          show ml _ _ _ (145, [(0, .ref r), (1, .int x1), (2, .int a0), (3, .int u9)], [.int u54], M52) _
          refine ml_if (S1 := (160, [], [], M52)) (S2 := (148, [(0, .ref r), (1, .int x1), (2, .int a0), (3, .int u9)], [], M52)) rfl rfl rfl (fun c_145 => ?_) (fun c_145 => ?_)
          · have c_145 : u54 = 0 := of_decide_eq_true c_145
            refine ml_st (S' := (161, [], [.int 0], M52)) rfl rfl rfl ?_
            exact ml_ret rfl (r_z (Or.inl rfl)) (⟨⟨_, rfl, Or.inl rfl⟩, hS57⟩)
          · have c_145 : ¬ (u54 = 0) := of_decide_eq_false c_145
            refine ml_blk 2 (S' := (150, [(0, .ref r), (1, .int x1), (2, .int a0), (3, .int u9)], [.int 4, .ref r], M52)) rfl ?_
            obtain ⟨u59, g60, -⟩ := hS57.1.1.rd hY0
            refine ml_call (a := [.ref r, .int 4]) (rest := []) rfl (okc_t rfl rfl rfl hS57.1.1 hY0 (by decide)) rfl rfl (tr_takes hS57.1.1 hY0 hY1 hY2 hY3 g60 (by decide) (by omega)) (fun v61 M62 h63 => ?_)
            obtain ⟨⟨u64, rfl, z65⟩, h63⟩ := h63
            have g66 := h63.2.gf (nin_cons (ykne hY1 hY0 (by decide)) (nin_cons (ykne hY1 hY3 (by decide)) nin_nil)) g56
            have hS67 := hS57.tr h63 (by simp)
            have hF68 := hF58.tr h63 (by simp)
            show ml _ _ _ (153, [(0, .ref r), (1, .int x1), (2, .int a0), (3, .int u9)], [.int u64], M62) _
            refine ml_if (S1 := (160, [], [], M62)) (S2 := (156, [(0, .ref r), (1, .int x1), (2, .int a0), (3, .int u9)], [], M62)) rfl rfl rfl (fun c_153 => ?_) (fun c_153 => ?_)
            · have c_153 : u64 = 0 := of_decide_eq_true c_153
              refine ml_st (S' := (161, [], [.int 0], M62)) rfl rfl rfl ?_
              exact ml_ret rfl (r_z (Or.inl rfl)) (⟨⟨_, rfl, Or.inl rfl⟩, hS67⟩)
            · have c_153 : ¬ (u64 = 0) := of_decide_eq_false c_153
              refine ml_st (S' := (157, [(0, .ref r), (1, .int x1), (2, .int a0), (3, .int u9)], [.int 1], M62)) rfl rfl rfl ?_
              refine ml_st (S' := (161, [], [.int 1], M62)) rfl rfl rfl ?_
              exact ml_ret rfl (r_z (Or.inr rfl)) (⟨⟨_, rfl, Or.inr ⟨rfl, ((htz.le (by rw [hx11]; omega) : TZ M f s (x1 + 1))).fr (hF68.2 f (nin_cons (ykne hyf hY0 (by decide)) (nin_cons (ykne hyf hY3 (by decide)) (nin_cons (ykne hyf hyt (by decide)) (nin_cons (ykne hyf hytp (by decide)) nin_nil))))) (hF68.2 s (nin_cons (ykne hys hY0 (by decide)) (nin_cons (ykne hys hY3 (by decide)) (nin_cons (ykne hys hyt (by decide)) (nin_cons (ykne hys hytp (by decide)) nin_nil)))))⟩⟩, hS67⟩)
        · show ml _ _ _ (162, [(0, .ref r), (1, .int x1), (2, .int a0), (3, .int u9)], [], M17) _
          refine ml_blk 3 (S' := (165, [(0, .ref r), (1, .int x1), (2, .int a0), (3, .int u9)], [.int u9, .int x1, .ref r], M17)) rfl ?_
          obtain ⟨u69, g70, -⟩ := hS26.1.1.rd hY0
          have h71 : M17.1 f = M.1 f := hF27.2 f (nin_cons (ykne hyf hY0 (by decide)) (nin_cons (ykne hyf hY3 (by decide)) (nin_cons (ykne hyf hyt (by decide)) (nin_cons (ykne hyf hytp (by decide)) nin_nil))))
          have h72 : M17.1 s = M.1 s := hF27.2 s (nin_cons (ykne hys hY0 (by decide)) (nin_cons (ykne hys hY3 (by decide)) (nin_cons (ykne hys hyt (by decide)) (nin_cons (ykne hys hytp (by decide)) nin_nil))))
          refine ml_call (a := [.ref r, .int x1, .int u9]) (rest := []) rfl (okc_t rfl rfl rfl hS26.1.1 hY0 (by decide)) rfl rfl (tr_takesIndexes hS26.1.1 hY0 hY1 hY2 hY3 hY4 g70 g24 (fun e => by rw [e] at kt_90; exact absurd kt_90 (by decide)) (h22) (by omega)) (fun v73 M74 h75 => ?_)
          obtain ⟨⟨u76, rfl, z77⟩, h75⟩ := h75
          have g78 := h75.2.gf (nin_cons (ykne hY1 hY0 (by decide)) (nin_cons (ykne hY1 hY3 (by decide)) (nin_cons (ykne hY1 hyf (by decide)) (nin_cons (ykne hY1 hys (by decide)) nin_nil)))) g24
          have hS79 := hS26.tr h75 (by simp)
          show ml _ _ _ (168, [(0, .ref r), (1, .int x1), (2, .int a0), (3, .int u9)], [.int u76], M74) _
          exact ml_ret rfl (r_z (qS_z z77)) (⟨⟨_, rfl, (z77).imp id (fun h => ⟨h.1, h.2 _ (by rw [hx11]; omega) (((htz.le (by rw [hx11]; omega) : TZ M f s (x1 + 1))).fr (h71) (h72))⟩)⟩, hS79⟩)
      have J_49 : ml (mT g) d (mb_163 g).2 (49, [(0, .ref r), (1, .int x1), (2, .int a0), (3, .int u9)], [], M2) (fun v M' => (∃ x : Int32, v = some (.int x) ∧ (x = 0 ∨ x = 1 ∧ TZ M' f s (x1 + 1))) ∧ sf g Y [r, vd, t, tp, f, s, p, ch] M M') := by
        refine ml_blk 3 (S' := (52, [(0, .ref r), (1, .int x1), (2, .int a0), (3, .int u9)], [.int (x1 + 1)], M2)) rfl ?_
        refine ml_st (S' := (53, [(0, .ref r), (1, .int x1), (2, .int a0), (3, .int u9)], [.ref r, .int (x1 + 1)], M2)) rfl rfl rfl ?_
        refine tg_ref (S' := (56, [(0, .ref r), (1, .int x1), (2, .int a0), (3, .int u9)], [.ref c, .int (x1 + 1)], M2)) rfl hS7.1.1 hY0 (by decide) rfl rfl ?_
        refine ml_get (S' := (59, [(0, .ref r), (1, .int x1), (2, .int a0), (3, .int u9)], [.ref p, .int (x1 + 1)], M2)) rfl g6 rfl ?_
        refine tg_pint rfl hS7.1.1 hY4 rfl (fun u80 g81 => ?_)
        show ml _ _ _ (62, [(0, .ref r), (1, .int x1), (2, .int a0), (3, .int u9)], [.int u80, .int (x1 + 1)], M2) _
        refine ml_if2 (S1 := (76, [(0, .ref r), (1, .int x1), (2, .int a0), (3, .int u9)], [], M2)) (S2 := (65, [(0, .ref r), (1, .int x1), (2, .int a0), (3, .int u9)], [], M2)) rfl rfl rfl (fun c_62 => ?_) (fun c_62 => ?_)
        · have c_62 : (x1 + 1) < u80 := of_decide_eq_true c_62
          exact J_76 
        · have c_62 : ¬ ((x1 + 1) < u80) := of_decide_eq_false c_62
          refine ml_st (S' := (66, [(0, .ref r), (1, .int x1), (2, .int a0), (3, .int u9)], [.ref r], M2)) rfl rfl rfl ?_
          refine tg_ref (S' := (69, [(0, .ref r), (1, .int x1), (2, .int a0), (3, .int u9)], [.ref vd], M2)) rfl hS7.1.1 hY0 (by decide) rfl rfl ?_
          refine ml_blk 2 (S' := (72, [(0, .ref r), (1, .int x1), (2, .int a0), (3, .int u9)], [.int a0, .int 7, .ref vd], M2)) rfl ?_
          refine ml_call (a := [.ref vd, .int 7, .int a0]) (rest := []) rfl (okc_t rfl rfl rfl hS7.1.1 hY3 (by decide)) rfl rfl (tw_Ve_wrong hS7.1.1 hY3 (by omega)) (fun v82 M83 h84 => ?_)
          obtain ⟨rfl, h84⟩ := h84
          have g86 := h84.2.gf (nin_cons (ykne hY1 hY3 (by decide)) nin_nil) g6
          have g87 := h84.2.gf (nin_cons (ykne hY0 hY3 (by decide)) nin_nil) g10
          have hS88 := hS7.tr h84 (by simp)
          have hF89 := hF8.tr h84 (by simp)
          show ml _ _ _ (75, [(0, .ref r), (1, .int x1), (2, .int a0), (3, .int u9)], [.int 0], M83) _
          exact ml_ret rfl (r_z (Or.inl rfl)) (⟨⟨_, rfl, Or.inl rfl⟩, hS88⟩)
      refine ml_if2 (S1 := (49, [(0, .ref r), (1, .int x1), (2, .int a0), (3, .int u9)], [], M2)) (S2 := (43, [(3, .int u9), (2, .int a0), (0, .ref r), (1, .int x1)], [], M2)) rfl rfl rfl (fun c_40 => ?_) (fun c_40 => ?_)
      · have c_40 : u9 = 5 := of_decide_eq_true c_40
        exact J_49 
      · have c_40 : ¬ (u9 = 5) := of_decide_eq_false c_40
        refine ml_blk 2 (S' := (46, [(3, .int u9), (2, .int a0), (0, .ref r), (1, .int x1)], [.int 6, .int u9], M2)) rfl ?_
        refine ml_if2 (S1 := (76, [(0, .ref r), (1, .int x1), (2, .int a0), (3, .int u9)], [], M2)) (S2 := (49, [(0, .ref r), (1, .int x1), (2, .int a0), (3, .int u9)], [], M2)) rfl rfl rfl (fun c_46 => ?_) (fun c_46 => ?_)
        · have c_46 : ¬ u9 = 6 := of_decide_eq_true c_46
          exact J_76 
        · have c_46 : ¬ (¬ u9 = 6) := of_decide_eq_false c_46
          exact J_49 
    · have c_25 : ¬ (¬ u14 = 0) := of_decide_eq_false c_25
      refine ml_st (S' := (29, [(3, .int u9), (2, .int a0), (0, .ref r), (1, .int x1)], [.ref r], M2)) rfl rfl rfl ?_
      refine tg_ref (S' := (32, [(3, .int u9), (2, .int a0), (0, .ref r), (1, .int x1)], [.ref vd], M2)) rfl hS7.1.1 hY0 (by decide) rfl rfl ?_
      refine ml_blk 2 (S' := (34, [(3, .int u9), (2, .int a0), (0, .ref r), (1, .int x1)], [.int a0, .int 5, .ref vd], M2)) rfl ?_
      refine ml_call (a := [.ref vd, .int 5, .int a0]) (rest := []) rfl (okc_t rfl rfl rfl hS7.1.1 hY3 (by decide)) rfl rfl (tw_Ve_wrong hS7.1.1 hY3 (by omega)) (fun v90 M91 h92 => ?_)
      obtain ⟨rfl, h92⟩ := h92
      have g94 := h92.2.gf (nin_cons (ykne hY1 hY3 (by decide)) nin_nil) g6
      have g95 := h92.2.gf (nin_cons (ykne hY0 hY3 (by decide)) nin_nil) g10
      have hS96 := hS7.tr h92 (by simp)
      have hF97 := hF8.tr h92 (by simp)
      show ml _ _ _ (37, [(3, .int u9), (2, .int a0), (0, .ref r), (1, .int x1)], [.int 0], M91) _
      exact ml_ret rfl (r_z (Or.inl rfl)) (⟨⟨_, rfl, Or.inl rfl⟩, hS96⟩)
  · have c_10 : ¬ (¬ u4 = 0) := of_decide_eq_false c_10
    refine ml_st (S' := (14, [(2, .int a0), (0, .ref r), (1, .int x1)], [.int 0], M2)) rfl rfl rfl ?_
    exact ml_ret rfl (r_z (Or.inl rfl)) (⟨⟨_, rfl, Or.inl rfl⟩, hS7⟩)
