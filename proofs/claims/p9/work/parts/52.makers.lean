/-! objects are made (laid by wip/p2/c52.py) -/
set_option maxHeartbeats 2000000 in
theorem tk_Verdict {g : xe_G} {M M1 : mi_H} {Y Y1 : yT} {c9 s9 : Nat}  (hW : WF g Y M) (hM : sm g Y M Y1 M1 [.int 0, .int 0] 10 c9 s9) {d : Nat} (hd : 1 ≤ d) : mt (mT g) d 171 [.ref M.2.1] M1 (fun v M' => v = none ∧ ∃ Y2, sm g Y M Y2 M' [.int 0, .int (-1)] 10 (c9 + 0) (s9 + 0) ∧ yle Y1 Y2) := by
  obtain ⟨d, rfl⟩ : ∃ e, d = e + 1 := ⟨d - 1, by omega⟩
  refine mt_in (b := mb_171 g) rfl rfl ?_
  show ml (mT g) d (mb_171 g).2 (0, [(0, .ref M.2.1)], [], M1) _
  refine ml_st (S' := (1, [(0, .ref M.2.1)], [.ref M.2.1], M1)) rfl rfl rfl ?_
  refine ml_st (S' := (4, [(0, .ref M.2.1)], [], M1)) rfl rfl rfl ?_
  refine ml_blk 2 (S' := (6, [(0, .ref M.2.1)], [.int (-1), .ref M.2.1], M1)) rfl ?_
  refine mm_put (l' := [.int 0, .int (-1)]) rfl hW hM rfl rfl rfl (fun M11 hM12 f13 => ?_)
  show ml _ _ _ (9, [(0, .ref M.2.1)], [], M11) _
  exact ml_ret rfl (rfl) (⟨rfl, Y1, hM12, yle.rf⟩)
set_option maxHeartbeats 2000000 in
theorem tk_Bytes {g : xe_G} {M M1 : mi_H} {Y Y1 : yT} {c9 s9 : Nat} {da : Nat}  (hW : WF g Y M) (hM : sm g Y M Y1 M1 [.null] 1 c9 s9) {d : Nat} (hd : 1 ≤ d) : mt (mT g) d 44 [.ref M.2.1, .ref da] M1 (fun v M' => v = none ∧ ∃ Y2, sm g Y M Y2 M' [.ref da] 1 (c9 + 0) (s9 + 0) ∧ yle Y1 Y2) := by
  obtain ⟨d, rfl⟩ : ∃ e, d = e + 1 := ⟨d - 1, by omega⟩
  refine mt_in (b := mb_44 g) rfl rfl ?_
  show ml (mT g) d (mb_44 g).2 (0, [(0, .ref M.2.1), (1, .ref da)], [], M1) _
  refine ml_st (S' := (1, [(0, .ref M.2.1), (1, .ref da)], [.ref M.2.1], M1)) rfl rfl rfl ?_
  refine ml_st (S' := (4, [(0, .ref M.2.1), (1, .ref da)], [], M1)) rfl rfl rfl ?_
  refine ml_blk 2 (S' := (6, [(0, .ref M.2.1), (1, .ref da)], [.ref da, .ref M.2.1], M1)) rfl ?_
  refine mm_put (l' := [.ref da]) rfl hW hM rfl rfl rfl (fun M11 hM12 f13 => ?_)
  show ml _ _ _ (9, [(0, .ref M.2.1), (1, .ref da)], [], M11) _
  exact ml_ret rfl (rfl) (⟨rfl, Y1, hM12, yle.rf⟩)
set_option maxHeartbeats 2000000 in
theorem tk_Member {g : xe_G} {M M1 : mi_H} {Y Y1 : yT} {c9 s9 : Nat} {b da n : Nat} {x2 : Int32}  (hW : WF g Y M) (hM : sm g Y M Y1 M1 [.int 0, .int 0, .int 0, .int 0, .int 0, .int 0, .int 0, .int 0, .int 0, .int 0, .null] 6 c9 s9) (hY0 : Y1.1 b = some (1, [da, n])) {d : Nat} (hd : 2 ≤ d) : mt (mT g) d 106 [.ref M.2.1, .ref b, .int x2] M1 (fun v M' => v = none ∧ ∃ Y2, sm g Y M Y2 M' [.int x2, .int (sp_u2 n (Y1.2 da) x2), .int (sp_u2 n (Y1.2 da) (x2 + 2)), .int (sp_u2 n (Y1.2 da) (x2 + 4)), .int (sp_u2 n (Y1.2 da) (x2 + 6)), .int (x2 + 8), .int 0, .int 0, .int 0, .int 0, .null] 6 (c9 + 0) (s9 + 0) ∧ yle Y1 Y2) := by
  obtain ⟨d, rfl⟩ : ∃ e, d = e + 1 := ⟨d - 1, by omega⟩
  refine mt_in (b := mb_106 g) rfl rfl ?_
  show ml (mT g) d (mb_106 g).2 (0, [(0, .ref M.2.1), (1, .ref b), (2, .int x2)], [], M1) _
  refine ml_st (S' := (1, [(0, .ref M.2.1), (1, .ref b), (2, .int x2)], [.ref M.2.1], M1)) rfl rfl rfl ?_
  refine ml_st (S' := (4, [(0, .ref M.2.1), (1, .ref b), (2, .int x2)], [], M1)) rfl rfl rfl ?_
  refine ml_blk 2 (S' := (6, [(0, .ref M.2.1), (1, .ref b), (2, .int x2)], [.int x2, .ref M.2.1], M1)) rfl ?_
  refine mm_put (l' := [.int x2, .int 0, .int 0, .int 0, .int 0, .int 0, .int 0, .int 0, .int 0, .int 0, .null]) rfl hW hM rfl rfl rfl (fun M11 hM12 f13 => ?_)
  show ml _ _ _ (9, [(0, .ref M.2.1), (1, .ref b), (2, .int x2)], [], M11) _
  refine ml_blk 3 (S' := (12, [(0, .ref M.2.1), (1, .ref b), (2, .int x2)], [.int x2, .ref b, .ref M.2.1], M11)) rfl ?_
  refine ml_call (a := [.ref b, .int x2]) (rest := [.ref M.2.1]) rfl (okc_t rfl rfl rfl hM12.1.1 hY0 (by decide)) rfl rfl (ct_u2 (hM12.1.1.bytes hY0).1 (by omega)) (fun v14 M15 h16 => ?_)
  obtain ⟨rfl, h16⟩ := h16
  rw [h16]
  show ml _ _ _ (15, [(0, .ref M.2.1), (1, .ref b), (2, .int x2)], [.int (sp_u2 n (Y1.2 da) x2), .ref M.2.1], M11) _
  refine mm_put (l' := [.int x2, .int (sp_u2 n (Y1.2 da) x2), .int 0, .int 0, .int 0, .int 0, .int 0, .int 0, .int 0, .int 0, .null]) rfl hW hM12 rfl rfl rfl (fun M17 hM18 f19 => ?_)
  show ml _ _ _ (18, [(0, .ref M.2.1), (1, .ref b), (2, .int x2)], [], M17) _
  refine ml_blk 3 (S' := (21, [(0, .ref M.2.1), (1, .ref b), (2, .int x2)], [.int x2, .ref b, .ref M.2.1], M17)) rfl ?_
  refine ml_blk 2 (S' := (23, [(0, .ref M.2.1), (1, .ref b), (2, .int x2)], [.int (x2 + 2), .ref b, .ref M.2.1], M17)) rfl ?_
  refine ml_call (a := [.ref b, .int (x2 + 2)]) (rest := [.ref M.2.1]) rfl (okc_t rfl rfl rfl hM18.1.1 hY0 (by decide)) rfl rfl (ct_u2 (hM18.1.1.bytes hY0).1 (by omega)) (fun v20 M21 h22 => ?_)
  obtain ⟨rfl, h22⟩ := h22
  rw [h22]
  show ml _ _ _ (26, [(0, .ref M.2.1), (1, .ref b), (2, .int x2)], [.int (sp_u2 n (Y1.2 da) (x2 + 2)), .ref M.2.1], M17) _
  refine mm_put (l' := [.int x2, .int (sp_u2 n (Y1.2 da) x2), .int (sp_u2 n (Y1.2 da) (x2 + 2)), .int 0, .int 0, .int 0, .int 0, .int 0, .int 0, .int 0, .null]) rfl hW hM18 rfl rfl rfl (fun M23 hM24 f25 => ?_)
  show ml _ _ _ (29, [(0, .ref M.2.1), (1, .ref b), (2, .int x2)], [], M23) _
  refine ml_blk 3 (S' := (32, [(0, .ref M.2.1), (1, .ref b), (2, .int x2)], [.int x2, .ref b, .ref M.2.1], M23)) rfl ?_
  refine ml_blk 2 (S' := (34, [(0, .ref M.2.1), (1, .ref b), (2, .int x2)], [.int (x2 + 4), .ref b, .ref M.2.1], M23)) rfl ?_
  refine ml_call (a := [.ref b, .int (x2 + 4)]) (rest := [.ref M.2.1]) rfl (okc_t rfl rfl rfl hM24.1.1 hY0 (by decide)) rfl rfl (ct_u2 (hM24.1.1.bytes hY0).1 (by omega)) (fun v26 M27 h28 => ?_)
  obtain ⟨rfl, h28⟩ := h28
  rw [h28]
  show ml _ _ _ (37, [(0, .ref M.2.1), (1, .ref b), (2, .int x2)], [.int (sp_u2 n (Y1.2 da) (x2 + 4)), .ref M.2.1], M23) _
  refine mm_put (l' := [.int x2, .int (sp_u2 n (Y1.2 da) x2), .int (sp_u2 n (Y1.2 da) (x2 + 2)), .int (sp_u2 n (Y1.2 da) (x2 + 4)), .int 0, .int 0, .int 0, .int 0, .int 0, .int 0, .null]) rfl hW hM24 rfl rfl rfl (fun M29 hM30 f31 => ?_)
  show ml _ _ _ (40, [(0, .ref M.2.1), (1, .ref b), (2, .int x2)], [], M29) _
  refine ml_blk 3 (S' := (43, [(0, .ref M.2.1), (1, .ref b), (2, .int x2)], [.int x2, .ref b, .ref M.2.1], M29)) rfl ?_
  refine ml_blk 2 (S' := (46, [(0, .ref M.2.1), (1, .ref b), (2, .int x2)], [.int (x2 + 6), .ref b, .ref M.2.1], M29)) rfl ?_
  refine ml_call (a := [.ref b, .int (x2 + 6)]) (rest := [.ref M.2.1]) rfl (okc_t rfl rfl rfl hM30.1.1 hY0 (by decide)) rfl rfl (ct_u2 (hM30.1.1.bytes hY0).1 (by omega)) (fun v32 M33 h34 => ?_)
  obtain ⟨rfl, h34⟩ := h34
  rw [h34]
  show ml _ _ _ (49, [(0, .ref M.2.1), (1, .ref b), (2, .int x2)], [.int (sp_u2 n (Y1.2 da) (x2 + 6)), .ref M.2.1], M29) _
  refine mm_put (l' := [.int x2, .int (sp_u2 n (Y1.2 da) x2), .int (sp_u2 n (Y1.2 da) (x2 + 2)), .int (sp_u2 n (Y1.2 da) (x2 + 4)), .int (sp_u2 n (Y1.2 da) (x2 + 6)), .int 0, .int 0, .int 0, .int 0, .int 0, .null]) rfl hW hM30 rfl rfl rfl (fun M35 hM36 f37 => ?_)
  show ml _ _ _ (52, [(0, .ref M.2.1), (1, .ref b), (2, .int x2)], [], M35) _
  refine ml_blk 3 (S' := (56, [(0, .ref M.2.1), (1, .ref b), (2, .int x2)], [.int 8, .int x2, .ref M.2.1], M35)) rfl ?_
  refine ml_st (S' := (57, [(0, .ref M.2.1), (1, .ref b), (2, .int x2)], [.int (x2 + 8), .ref M.2.1], M35)) rfl rfl rfl ?_
  refine mm_put (l' := [.int x2, .int (sp_u2 n (Y1.2 da) x2), .int (sp_u2 n (Y1.2 da) (x2 + 2)), .int (sp_u2 n (Y1.2 da) (x2 + 4)), .int (sp_u2 n (Y1.2 da) (x2 + 6)), .int (x2 + 8), .int 0, .int 0, .int 0, .int 0, .null]) rfl hW hM36 rfl rfl rfl (fun M38 hM39 f40 => ?_)
  show ml _ _ _ (60, [(0, .ref M.2.1), (1, .ref b), (2, .int x2)], [], M38) _
  exact ml_ret rfl (rfl) (⟨rfl, Y1, hM39, yle.rf⟩)
set_option maxHeartbeats 2000000 in
theorem tk_Instruction {g : xe_G} {M M1 : mi_H} {Y Y1 : yT} {c9 s9 : Nat} {b : Nat} {x2 x3 : Int32}  (hW : WF g Y M) (hM : sm g Y M Y1 M1 [.null, .int 0, .int 0, .int 0, .int 0, .int 0, .int 0, .int 0, .int 0, .int 0, .int 0, .int 0] 5 c9 s9) {d : Nat} (hd : 1 ≤ d) : mt (mT g) d 86 [.ref M.2.1, .ref b, .int x2, .int x3] M1 (fun v M' => v = none ∧ ∃ Y2, sm g Y M Y2 M' [.ref b, .int x2, .int x3, .int 0, .int 0, .int 0, .int 0, .int 0, .int 0, .int 0, .int 0, .int 0] 5 (c9 + 0) (s9 + 0) ∧ yle Y1 Y2) := by
  obtain ⟨d, rfl⟩ : ∃ e, d = e + 1 := ⟨d - 1, by omega⟩
  refine mt_in (b := mb_86 g) rfl rfl ?_
  show ml (mT g) d (mb_86 g).2 (0, [(0, .ref M.2.1), (1, .ref b), (2, .int x2), (3, .int x3)], [], M1) _
  refine ml_st (S' := (1, [(0, .ref M.2.1), (1, .ref b), (2, .int x2), (3, .int x3)], [.ref M.2.1], M1)) rfl rfl rfl ?_
  refine ml_st (S' := (4, [(0, .ref M.2.1), (1, .ref b), (2, .int x2), (3, .int x3)], [], M1)) rfl rfl rfl ?_
  refine ml_blk 2 (S' := (6, [(0, .ref M.2.1), (1, .ref b), (2, .int x2), (3, .int x3)], [.ref b, .ref M.2.1], M1)) rfl ?_
  refine mm_put (l' := [.ref b, .int 0, .int 0, .int 0, .int 0, .int 0, .int 0, .int 0, .int 0, .int 0, .int 0, .int 0]) rfl hW hM rfl rfl rfl (fun M11 hM12 f13 => ?_)
  show ml _ _ _ (9, [(0, .ref M.2.1), (1, .ref b), (2, .int x2), (3, .int x3)], [], M11) _
  refine ml_blk 2 (S' := (11, [(0, .ref M.2.1), (1, .ref b), (2, .int x2), (3, .int x3)], [.int x2, .ref M.2.1], M11)) rfl ?_
  refine mm_put (l' := [.ref b, .int x2, .int 0, .int 0, .int 0, .int 0, .int 0, .int 0, .int 0, .int 0, .int 0, .int 0]) rfl hW hM12 rfl rfl rfl (fun M14 hM15 f16 => ?_)
  show ml _ _ _ (14, [(0, .ref M.2.1), (1, .ref b), (2, .int x2), (3, .int x3)], [], M14) _
  refine ml_blk 2 (S' := (16, [(0, .ref M.2.1), (1, .ref b), (2, .int x2), (3, .int x3)], [.int x3, .ref M.2.1], M14)) rfl ?_
  refine mm_put (l' := [.ref b, .int x2, .int x3, .int 0, .int 0, .int 0, .int 0, .int 0, .int 0, .int 0, .int 0, .int 0]) rfl hW hM15 rfl rfl rfl (fun M17 hM18 f19 => ?_)
  show ml _ _ _ (19, [(0, .ref M.2.1), (1, .ref b), (2, .int x2), (3, .int x3)], [], M17) _
  exact ml_ret rfl (rfl) (⟨rfl, Y1, hM18, yle.rf⟩)
set_option maxHeartbeats 2000000 in
theorem tk_Reader {g : xe_G} {M M1 : mi_H} {Y Y1 : yT} {c9 s9 : Nat} {c b da n vd : Nat}  (hW : WF g Y M) (hM : sm g Y M Y1 M1 [.null, .null, .null, .int 0, .int 0] 9 c9 s9) (hY0 : Y1.1 c = some (3, [b, da, n])) {d : Nat} (hd : 1 ≤ d) : mt (mT g) d 154 [.ref M.2.1, .ref c, .ref vd] M1 (fun v M' => v = none ∧ ∃ Y2, sm g Y M Y2 M' [.ref c, .ref b, .ref vd, .int 0, .int 0] 9 (c9 + 0) (s9 + 0) ∧ yle Y1 Y2) := by
  obtain ⟨d, rfl⟩ : ∃ e, d = e + 1 := ⟨d - 1, by omega⟩
  refine mt_in (b := mb_154 g) rfl rfl ?_
  show ml (mT g) d (mb_154 g).2 (0, [(0, .ref M.2.1), (1, .ref c), (2, .ref vd)], [], M1) _
  refine ml_st (S' := (1, [(0, .ref M.2.1), (1, .ref c), (2, .ref vd)], [.ref M.2.1], M1)) rfl rfl rfl ?_
  refine ml_st (S' := (4, [(0, .ref M.2.1), (1, .ref c), (2, .ref vd)], [], M1)) rfl rfl rfl ?_
  refine ml_blk 2 (S' := (6, [(0, .ref M.2.1), (1, .ref c), (2, .ref vd)], [.ref c, .ref M.2.1], M1)) rfl ?_
  refine mm_put (l' := [.ref c, .null, .null, .int 0, .int 0]) rfl hW hM rfl rfl rfl (fun M11 hM12 f13 => ?_)
  show ml _ _ _ (9, [(0, .ref M.2.1), (1, .ref c), (2, .ref vd)], [], M11) _
  refine ml_blk 2 (S' := (11, [(0, .ref M.2.1), (1, .ref c), (2, .ref vd)], [.ref vd, .ref M.2.1], M11)) rfl ?_
  refine mm_put (l' := [.ref c, .null, .ref vd, .int 0, .int 0]) rfl hW hM12 rfl rfl rfl (fun M14 hM15 f16 => ?_)
  show ml _ _ _ (14, [(0, .ref M.2.1), (1, .ref c), (2, .ref vd)], [], M14) _
  refine ml_blk 2 (S' := (16, [(0, .ref M.2.1), (1, .ref c), (2, .ref vd)], [.ref c, .ref M.2.1], M14)) rfl ?_
  refine tg_ref (S' := (19, [(0, .ref M.2.1), (1, .ref c), (2, .ref vd)], [.ref b, .ref M.2.1], M14)) rfl hM15.1.1 hY0 (by decide) rfl rfl ?_
  refine mm_put (l' := [.ref c, .ref b, .ref vd, .int 0, .int 0]) rfl hW hM15 rfl rfl rfl (fun M17 hM18 f19 => ?_)
  show ml _ _ _ (22, [(0, .ref M.2.1), (1, .ref c), (2, .ref vd)], [], M17) _
  exact ml_ret rfl (rfl) (⟨rfl, Y1, hM18, yle.rf⟩)
set_option maxHeartbeats 2000000 in
theorem tk_PoolCheck {g : xe_G} {M M1 : mi_H} {Y Y1 : yT} {c9 s9 : Nat} {c b da n vd p : Nat} {mj : Int32}  (hW : WF g Y M) (hM : sm g Y M Y1 M1 [.null, .int 0, .null] 8 c9 s9) (hY0 : Y1.1 c = some (3, [b, da, n])) (hcp : mi_gf M1 c 3 1 = some (.ref p)) (hcm : mi_gf M1 c 3 3 = some (.int mj)) {d : Nat} (hd : 1 ≤ d) : mt (mT g) d 143 [.ref M.2.1, .ref c, .ref vd] M1 (fun v M' => v = none ∧ ∃ Y2, sm g Y M Y2 M' [.ref p, .int mj, .ref vd] 8 (c9 + 0) (s9 + 0) ∧ yle Y1 Y2) := by
  obtain ⟨d, rfl⟩ : ∃ e, d = e + 1 := ⟨d - 1, by omega⟩
  refine mt_in (b := mb_143 g) rfl rfl ?_
  show ml (mT g) d (mb_143 g).2 (0, [(0, .ref M.2.1), (1, .ref c), (2, .ref vd)], [], M1) _
  refine ml_st (S' := (1, [(0, .ref M.2.1), (1, .ref c), (2, .ref vd)], [.ref M.2.1], M1)) rfl rfl rfl ?_
  refine ml_st (S' := (4, [(0, .ref M.2.1), (1, .ref c), (2, .ref vd)], [], M1)) rfl rfl rfl ?_
  refine ml_blk 2 (S' := (6, [(0, .ref M.2.1), (1, .ref c), (2, .ref vd)], [.ref c, .ref M.2.1], M1)) rfl ?_
  refine ml_get (S' := (9, [(0, .ref M.2.1), (1, .ref c), (2, .ref vd)], [.ref p, .ref M.2.1], M1)) rfl hcp rfl ?_
  refine mm_put (l' := [.ref p, .int 0, .null]) rfl hW hM rfl rfl rfl (fun M11 hM12 f13 => ?_)
  have g14 := gf_fr (f13 c (ne_non hY0 hM.2.2.1)) hcp
  have g15 := gf_fr (f13 c (ne_non hY0 hM.2.2.1)) hcm
  show ml _ _ _ (12, [(0, .ref M.2.1), (1, .ref c), (2, .ref vd)], [], M11) _
  refine ml_blk 2 (S' := (14, [(0, .ref M.2.1), (1, .ref c), (2, .ref vd)], [.ref c, .ref M.2.1], M11)) rfl ?_
  refine ml_get (S' := (17, [(0, .ref M.2.1), (1, .ref c), (2, .ref vd)], [.int mj, .ref M.2.1], M11)) rfl g15 rfl ?_
  refine mm_put (l' := [.ref p, .int mj, .null]) rfl hW hM12 rfl rfl rfl (fun M16 hM17 f18 => ?_)
  have g19 := gf_fr (f18 c (ne_non hY0 hM12.2.2.1)) g14
  have g20 := gf_fr (f18 c (ne_non hY0 hM12.2.2.1)) g15
  show ml _ _ _ (20, [(0, .ref M.2.1), (1, .ref c), (2, .ref vd)], [], M16) _
  refine ml_blk 2 (S' := (22, [(0, .ref M.2.1), (1, .ref c), (2, .ref vd)], [.ref vd, .ref M.2.1], M16)) rfl ?_
  refine mm_put (l' := [.ref p, .int mj, .ref vd]) rfl hW hM17 rfl rfl rfl (fun M21 hM22 f23 => ?_)
  have g24 := gf_fr (f23 c (ne_non hY0 hM17.2.2.1)) g19
  have g25 := gf_fr (f23 c (ne_non hY0 hM17.2.2.1)) g20
  show ml _ _ _ (25, [(0, .ref M.2.1), (1, .ref c), (2, .ref vd)], [], M21) _
  exact ml_ret rfl (rfl) (⟨rfl, Y1, hM22, yle.rf⟩)
set_option maxHeartbeats 2000000 in
theorem tk_AttributeCheck {g : xe_G} {M M1 : mi_H} {Y Y1 : yT} {c9 s9 : Nat} {c b da n vd p : Nat}  (hW : WF g Y M) (hM : sm g Y M Y1 M1 [.null, .null, .null, .null, .int 0] 0 c9 s9) (hY0 : Y1.1 c = some (3, [b, da, n])) (hcp : mi_gf M1 c 3 1 = some (.ref p)) {d : Nat} (hd : 1 ≤ d) : mt (mT g) d 21 [.ref M.2.1, .ref c, .ref vd] M1 (fun v M' => v = none ∧ ∃ Y2, sm g Y M Y2 M' [.ref c, .ref b, .ref p, .ref vd, .int 0] 0 (c9 + 0) (s9 + 0) ∧ yle Y1 Y2) := by
  obtain ⟨d, rfl⟩ : ∃ e, d = e + 1 := ⟨d - 1, by omega⟩
  refine mt_in (b := mb_21 g) rfl rfl ?_
  show ml (mT g) d (mb_21 g).2 (0, [(0, .ref M.2.1), (1, .ref c), (2, .ref vd)], [], M1) _
  refine ml_st (S' := (1, [(0, .ref M.2.1), (1, .ref c), (2, .ref vd)], [.ref M.2.1], M1)) rfl rfl rfl ?_
  refine ml_st (S' := (4, [(0, .ref M.2.1), (1, .ref c), (2, .ref vd)], [], M1)) rfl rfl rfl ?_
  refine ml_blk 2 (S' := (6, [(0, .ref M.2.1), (1, .ref c), (2, .ref vd)], [.ref c, .ref M.2.1], M1)) rfl ?_
  refine mm_put (l' := [.ref c, .null, .null, .null, .int 0]) rfl hW hM rfl rfl rfl (fun M11 hM12 f13 => ?_)
  have g14 := gf_fr (f13 c (ne_non hY0 hM.2.2.1)) hcp
  show ml _ _ _ (9, [(0, .ref M.2.1), (1, .ref c), (2, .ref vd)], [], M11) _
  refine ml_blk 2 (S' := (11, [(0, .ref M.2.1), (1, .ref c), (2, .ref vd)], [.ref vd, .ref M.2.1], M11)) rfl ?_
  refine mm_put (l' := [.ref c, .null, .null, .ref vd, .int 0]) rfl hW hM12 rfl rfl rfl (fun M15 hM16 f17 => ?_)
  have g18 := gf_fr (f17 c (ne_non hY0 hM12.2.2.1)) g14
  show ml _ _ _ (14, [(0, .ref M.2.1), (1, .ref c), (2, .ref vd)], [], M15) _
  refine ml_blk 2 (S' := (16, [(0, .ref M.2.1), (1, .ref c), (2, .ref vd)], [.ref c, .ref M.2.1], M15)) rfl ?_
  refine tg_ref (S' := (19, [(0, .ref M.2.1), (1, .ref c), (2, .ref vd)], [.ref b, .ref M.2.1], M15)) rfl hM16.1.1 hY0 (by decide) rfl rfl ?_
  refine mm_put (l' := [.ref c, .ref b, .null, .ref vd, .int 0]) rfl hW hM16 rfl rfl rfl (fun M19 hM20 f21 => ?_)
  have g22 := gf_fr (f21 c (ne_non hY0 hM16.2.2.1)) g18
  show ml _ _ _ (22, [(0, .ref M.2.1), (1, .ref c), (2, .ref vd)], [], M19) _
  refine ml_blk 2 (S' := (24, [(0, .ref M.2.1), (1, .ref c), (2, .ref vd)], [.ref c, .ref M.2.1], M19)) rfl ?_
  refine ml_get (S' := (27, [(0, .ref M.2.1), (1, .ref c), (2, .ref vd)], [.ref p, .ref M.2.1], M19)) rfl g22 rfl ?_
  refine mm_put (l' := [.ref c, .ref b, .ref p, .ref vd, .int 0]) rfl hW hM20 rfl rfl rfl (fun M23 hM24 f25 => ?_)
  have g26 := gf_fr (f25 c (ne_non hY0 hM20.2.2.1)) g22
  show ml _ _ _ (30, [(0, .ref M.2.1), (1, .ref c), (2, .ref vd)], [], M23) _
  exact ml_ret rfl (rfl) (⟨rfl, Y1, hM24, yle.rf⟩)
set_option maxHeartbeats 2000000 in
theorem tk_ClassCheck {g : xe_G} {M M1 : mi_H} {Y Y1 : yT} {c9 s9 : Nat} {c b da n vd ac p : Nat}  (hW : WF g Y M) (hM : sm g Y M Y1 M1 [.null, .null, .null, .null, .null] 2 c9 s9) (hY0 : Y1.1 c = some (3, [b, da, n])) (hcp : mi_gf M1 c 3 1 = some (.ref p)) {d : Nat} (hd : 1 ≤ d) : mt (mT g) d 51 [.ref M.2.1, .ref c, .ref vd, .ref ac] M1 (fun v M' => v = none ∧ ∃ Y2, sm g Y M Y2 M' [.ref c, .ref b, .ref p, .ref vd, .ref ac] 2 (c9 + 0) (s9 + 0) ∧ yle Y1 Y2) := by
  obtain ⟨d, rfl⟩ : ∃ e, d = e + 1 := ⟨d - 1, by omega⟩
  refine mt_in (b := mb_51 g) rfl rfl ?_
  show ml (mT g) d (mb_51 g).2 (0, [(0, .ref M.2.1), (1, .ref c), (2, .ref vd), (3, .ref ac)], [], M1) _
  refine ml_st (S' := (1, [(0, .ref M.2.1), (1, .ref c), (2, .ref vd), (3, .ref ac)], [.ref M.2.1], M1)) rfl rfl rfl ?_
  refine ml_st (S' := (4, [(0, .ref M.2.1), (1, .ref c), (2, .ref vd), (3, .ref ac)], [], M1)) rfl rfl rfl ?_
  refine ml_blk 2 (S' := (6, [(0, .ref M.2.1), (1, .ref c), (2, .ref vd), (3, .ref ac)], [.ref c, .ref M.2.1], M1)) rfl ?_
  refine mm_put (l' := [.ref c, .null, .null, .null, .null]) rfl hW hM rfl rfl rfl (fun M11 hM12 f13 => ?_)
  have g14 := gf_fr (f13 c (ne_non hY0 hM.2.2.1)) hcp
  show ml _ _ _ (9, [(0, .ref M.2.1), (1, .ref c), (2, .ref vd), (3, .ref ac)], [], M11) _
  refine ml_blk 2 (S' := (11, [(0, .ref M.2.1), (1, .ref c), (2, .ref vd), (3, .ref ac)], [.ref vd, .ref M.2.1], M11)) rfl ?_
  refine mm_put (l' := [.ref c, .null, .null, .ref vd, .null]) rfl hW hM12 rfl rfl rfl (fun M15 hM16 f17 => ?_)
  have g18 := gf_fr (f17 c (ne_non hY0 hM12.2.2.1)) g14
  show ml _ _ _ (14, [(0, .ref M.2.1), (1, .ref c), (2, .ref vd), (3, .ref ac)], [], M15) _
  refine ml_blk 2 (S' := (16, [(0, .ref M.2.1), (1, .ref c), (2, .ref vd), (3, .ref ac)], [.ref ac, .ref M.2.1], M15)) rfl ?_
  refine mm_put (l' := [.ref c, .null, .null, .ref vd, .ref ac]) rfl hW hM16 rfl rfl rfl (fun M19 hM20 f21 => ?_)
  have g22 := gf_fr (f21 c (ne_non hY0 hM16.2.2.1)) g18
  show ml _ _ _ (19, [(0, .ref M.2.1), (1, .ref c), (2, .ref vd), (3, .ref ac)], [], M19) _
  refine ml_blk 2 (S' := (21, [(0, .ref M.2.1), (1, .ref c), (2, .ref vd), (3, .ref ac)], [.ref c, .ref M.2.1], M19)) rfl ?_
  refine tg_ref (S' := (24, [(0, .ref M.2.1), (1, .ref c), (2, .ref vd), (3, .ref ac)], [.ref b, .ref M.2.1], M19)) rfl hM20.1.1 hY0 (by decide) rfl rfl ?_
  refine mm_put (l' := [.ref c, .ref b, .null, .ref vd, .ref ac]) rfl hW hM20 rfl rfl rfl (fun M23 hM24 f25 => ?_)
  have g26 := gf_fr (f25 c (ne_non hY0 hM20.2.2.1)) g22
  show ml _ _ _ (27, [(0, .ref M.2.1), (1, .ref c), (2, .ref vd), (3, .ref ac)], [], M23) _
  refine ml_blk 2 (S' := (29, [(0, .ref M.2.1), (1, .ref c), (2, .ref vd), (3, .ref ac)], [.ref c, .ref M.2.1], M23)) rfl ?_
  refine ml_get (S' := (32, [(0, .ref M.2.1), (1, .ref c), (2, .ref vd), (3, .ref ac)], [.ref p, .ref M.2.1], M23)) rfl g26 rfl ?_
  refine mm_put (l' := [.ref c, .ref b, .ref p, .ref vd, .ref ac]) rfl hW hM24 rfl rfl rfl (fun M27 hM28 f29 => ?_)
  have g30 := gf_fr (f29 c (ne_non hY0 hM24.2.2.1)) g26
  show ml _ _ _ (35, [(0, .ref M.2.1), (1, .ref c), (2, .ref vd), (3, .ref ac)], [], M27) _
  exact ml_ret rfl (rfl) (⟨rfl, Y1, hM28, yle.rf⟩)
theorem mx0 {x : Int32} (h : 0 ≤ x.toInt) : (if (0 : Int32) < x then x else 0) = x := by
  split
  · rfl
  · rename_i h1
    have h2 := i_nlt h1
    have z : (0 : Int32).toInt = 0 := rfl
    apply Int32.toInt_inj.mp
    omega
theorem i_div3 {a : Int32} (h : 0 ≤ a.toInt) : (a / 3).toInt = a.toInt / 3 := by
  have f : (3 : Int32).toInt = 3 := rfl
  rw [Int32.toInt_div, f, Int.tdiv_eq_ediv_of_nonneg h]
  apply Int.bmod_eq_of_le <;> have := Int32.toInt_lt a <;> omega
theorem held_ok {x y : Int32} (h0 : 0 ≤ y.toInt) (h1 : y.toInt ≤ 100000000) : 0 ≤ (if 0 < (if (y / 3 + 1) < x then (y / 3 + 1) else x) then (if (y / 3 + 1) < x then (y / 3 + 1) else x) else 0).toInt ∧ (if 0 < (if (y / 3 + 1) < x then (y / 3 + 1) else x) then (if (y / 3 + 1) < x then (y / 3 + 1) else x) else 0).toInt ≤ y.toInt / 3 + 1 := by
  have e1 : (1 : Int32).toInt = 1 := rfl
  have z : (0 : Int32).toInt = 0 := rfl
  have e : (y / 3 + 1).toInt = y.toInt / 3 + 1 := by
    rw [i_add (by rw [i_div3 h0, e1]; omega) (by rw [i_div3 h0, e1]; omega), i_div3 h0, e1]
  have hu : (if (y / 3 + 1) < x then (y / 3 + 1) else x).toInt ≤ y.toInt / 3 + 1 := by
    split
    · omega
    · rename_i h2
      have := i_nlt h2
      omega
  generalize (if (y / 3 + 1) < x then (y / 3 + 1) else x) = u at *
  split
  · rename_i h2
    have := i_lt h2
    omega
  · omega
theorem okY_pool {Y1 : yT} {M1 : mi_H} {a nh m t tp f s sh ch : Nat} {x1 : Int32} (hn : nh < 1073741824) (hm : m < 1073741824) (hx : x1.toInt ≤ 65535) (hM : M1.1 a = some (ob 7 [.int x1, .ref t, .ref tp, .ref f, .ref s, .ref sh, .ref ch, .int 0])) (hle : yle Y1 (yadd Y1 a 7 [nh, m, t, tp, f, s, sh, ch])) (k1 : Y1.1 t = some (31, [nh, a])) (k2 : Y1.1 tp = some (32, [nh, a])) (k3 : Y1.1 f = some (33, [nh, a])) (k4 : Y1.1 s = some (34, [nh, a])) (k5 : Y1.1 sh = some (35, [nh, a])) (k6 : Y1.1 ch = some (36, [m, a])) (m1 : M1.1 t = some (ar .int nh (fun _ => 0))) (m3 : M1.1 f = some (ar .int nh (fun _ => 0))) (m4 : M1.1 s = some (ar .int nh (fun _ => 0))) : okY (yadd Y1 a 7 [nh, m, t, tp, f, s, sh, ch]) M1 a 7 [nh, m, t, tp, f, s, sh, ch] := by
  refine okY_new (by decide) hM (by simp [sch]) ⟨⟨_, rfl⟩, rfl, rfl, rfl, rfl, rfl, rfl, ⟨_, rfl⟩, trivial⟩ ⟨(hle _ _ k1).1, (hle _ _ k2).1, (hle _ _ k3).1, (hle _ _ k4).1, (hle _ _ k5).1, (hle _ _ k6).1⟩ ⟨hn, hm, 0, x1, fun _ => 0, fun _ => 0, fun _ => 0, rfl, rfl, hx, m1, m3, m4, by decide, by show (0 : Int32).toInt ≤ (m : Int); have z : (0 : Int32).toInt = 0 := rfl; omega, fun k _ h => ?_⟩
  exact absurd (show (0 : Int32) = 1 from h) (by decide)

set_option maxHeartbeats 2000000 in
theorem tk_Pool {g : xe_G} {M M1 : mi_H} {Y Y1 : yT} {c9 s9 : Nat} {x1 x2 : Int32}  (hW : WF g Y M) (hM : sm g Y M Y1 M1 [.int 0, .null, .null, .null, .null, .null, .null, .int 0] 7 c9 s9) (hx1 : x1.toInt ≤ 65535) (h20 : 0 ≤ x2.toInt) (h21 : x2.toInt ≤ 100000000) {d : Nat} (hd : 1 ≤ d) : mt (mT g) d 110 [.ref M.2.1, .int x1, .int x2] M1 (fun v M' => v = none ∧ ∃ Y3 nh t tp f s sh ch, sn g Y M Y3 M' (c9 + 6) (s9 + 5 * nh + x2.toNatClampNeg) ∧ yle Y1 Y3 ∧ Y3.1 M.2.1 = some (7, [nh, x2.toNatClampNeg, t, tp, f, s, sh, ch]) ∧ (∀ k, TZ M' f s k) ∧ (nh : Int) ≤ x2.toInt / 3 + 1) := by
  obtain ⟨d, rfl⟩ : ∃ e, d = e + 1 := ⟨d - 1, by omega⟩
  refine mt_in (b := mb_110 g) rfl rfl ?_
  show ml (mT g) d (mb_110 g).2 (0, [(0, .ref M.2.1), (1, .int x1), (2, .int x2)], [], M1) _
  refine ml_st (S' := (1, [(0, .ref M.2.1), (1, .int x1), (2, .int x2)], [.ref M.2.1], M1)) rfl rfl rfl ?_
  refine ml_st (S' := (4, [(0, .ref M.2.1), (1, .int x1), (2, .int x2)], [], M1)) rfl rfl rfl ?_
  refine ml_blk 2 (S' := (6, [(0, .ref M.2.1), (1, .int x1), (2, .int x2)], [.int x1, .ref M.2.1], M1)) rfl ?_
  refine mm_put (l' := [.int x1, .null, .null, .null, .null, .null, .null, .int 0]) rfl hW hM rfl rfl rfl (fun M11 hM12 f13 => ?_)
  show ml _ _ _ (9, [(0, .ref M.2.1), (1, .int x1), (2, .int x2)], [], M11) _
  refine ml_blk 3 (S' := (12, [(0, .ref M.2.1), (1, .int x1), (2, .int x2)], [.int x2, .int x1, .int 0], M11)) rfl ?_
  refine ml_st (S' := (13, [(0, .ref M.2.1), (1, .int x1), (2, .int x2)], [.int 3, .int x2, .int x1, .int 0], M11)) rfl rfl rfl ?_
  refine ml_blk 3 (S' := (16, [(0, .ref M.2.1), (1, .int x1), (2, .int x2)], [.int ((x2 / 3) + 1), .int x1, .int 0], M11)) rfl ?_
  refine ml_blk 2 (S' := (22, [(0, .ref M.2.1), (1, .int x1), (2, .int x2)], [.int (if 0 < (if ((x2 / 3) + 1) < x1 then ((x2 / 3) + 1) else x1) then (if ((x2 / 3) + 1) < x1 then ((x2 / 3) + 1) else x1) else 0)], M11)) rfl ?_
  have hh := held_ok (x := x1) h20 h21
  generalize (if 0 < (if (x2 / 3 + 1) < x1 then (x2 / 3 + 1) else x1) then (if (x2 / 3 + 1) < x1 then (x2 / 3 + 1) else x1) else 0) = hd9 at hh ⊢
  have hh2 : (hd9.toNatClampNeg : Int) = hd9.toInt := by show (hd9.toInt.toNat : Int) = _; omega
  refine ml_st (S' := (23, [(3, .int hd9), (0, .ref M.2.1), (1, .int x1), (2, .int x2)], [], M11)) rfl rfl rfl ?_
  refine ml_blk 2 (S' := (25, [(3, .int hd9), (0, .ref M.2.1), (1, .int x1), (2, .int x2)], [.int hd9, .ref M.2.1], M11)) rfl ?_
  have hn9 : hd9.toNatClampNeg < 1073741824 := by omega
  have hm9 : x2.toNatClampNeg < 1073741824 := by have : (x2.toNatClampNeg : Int) = x2.toInt := (by show (x2.toInt.toNat : Int) = _; omega); omega
  refine ml_newa (S' := (27, [(3, .int hd9), (0, .ref M.2.1), (1, .int x1), (2, .int x2)], [.ref M11.2.1, .ref M.2.1], (mk1 M11 (ar .int hd9.toNatClampNeg (fun _ => 0)) hd9.toNatClampNeg))) rfl hh.1 (by omega) rfl ?_
  refine mm_row (kr := 31) (pr := [hd9.toNatClampNeg, M.2.1]) hM12.1.1 (okY_row rfl hn9 (by decide) (fun h => absurd h (by decide)) (fun h => absurd h (by decide))) (fun Y14 M15 b16 _ h17 h18 h19 f20 => ?_)
  have hM21 := hM12.tr h17
  show ml _ _ _ (27, [(3, .int hd9), (0, .ref M.2.1), (1, .int x1), (2, .int x2)], [.ref b16, .ref M.2.1], M15) _
  refine mm_put (l' := [.int x1, .ref b16, .null, .null, .null, .null, .null, .int 0]) rfl hW hM21 rfl rfl rfl (fun M22 hM23 f24 => ?_)
  have h25 := (f24 _ (ne_non h18 hM23.2.2.1)).trans h19
  show ml _ _ _ (30, [(3, .int hd9), (0, .ref M.2.1), (1, .int x1), (2, .int x2)], [], M22) _
  refine ml_blk 2 (S' := (32, [(3, .int hd9), (0, .ref M.2.1), (1, .int x1), (2, .int x2)], [.int hd9, .ref M.2.1], M22)) rfl ?_
  refine ml_newa (S' := (34, [(3, .int hd9), (0, .ref M.2.1), (1, .int x1), (2, .int x2)], [.ref M22.2.1, .ref M.2.1], (mk1 M22 (ar .int hd9.toNatClampNeg (fun _ => 0)) hd9.toNatClampNeg))) rfl hh.1 (by omega) rfl ?_
  refine mm_row (kr := 32) (pr := [hd9.toNatClampNeg, M.2.1]) hM23.1.1 (okY_row rfl hn9 (by decide) (fun h => absurd h (by decide)) (fun h => absurd h (by decide))) (fun Y26 M27 b28 _ h29 h30 h31 f32 => ?_)
  have hM33 := hM23.tr h29
  have h34 := (h29.2.1 _ _ h18).1
  have h35 := (f32 _ (hM23.1.1.2.1 _ _ h18)).trans h25
  show ml _ _ _ (34, [(3, .int hd9), (0, .ref M.2.1), (1, .int x1), (2, .int x2)], [.ref b28, .ref M.2.1], M27) _
  refine mm_put (l' := [.int x1, .ref b16, .ref b28, .null, .null, .null, .null, .int 0]) rfl hW hM33 rfl rfl rfl (fun M36 hM37 f38 => ?_)
  have h39 := (f38 _ (ne_non h34 hM37.2.2.1)).trans h35
  have h40 := (f38 _ (ne_non h30 hM37.2.2.1)).trans h31
  show ml _ _ _ (37, [(3, .int hd9), (0, .ref M.2.1), (1, .int x1), (2, .int x2)], [], M36) _
  refine ml_blk 2 (S' := (39, [(3, .int hd9), (0, .ref M.2.1), (1, .int x1), (2, .int x2)], [.int hd9, .ref M.2.1], M36)) rfl ?_
  refine ml_newa (S' := (41, [(3, .int hd9), (0, .ref M.2.1), (1, .int x1), (2, .int x2)], [.ref M36.2.1, .ref M.2.1], (mk1 M36 (ar .int hd9.toNatClampNeg (fun _ => 0)) hd9.toNatClampNeg))) rfl hh.1 (by omega) rfl ?_
  refine mm_row (kr := 33) (pr := [hd9.toNatClampNeg, M.2.1]) hM37.1.1 (okY_row rfl hn9 (by decide) (fun h => absurd h (by decide)) (fun h => absurd h (by decide))) (fun Y41 M42 b43 _ h44 h45 h46 f47 => ?_)
  have hM48 := hM37.tr h44
  have h49 := (h44.2.1 _ _ h34).1
  have h50 := (f47 _ (hM37.1.1.2.1 _ _ h34)).trans h39
  have h51 := (h44.2.1 _ _ h30).1
  have h52 := (f47 _ (hM37.1.1.2.1 _ _ h30)).trans h40
  show ml _ _ _ (41, [(3, .int hd9), (0, .ref M.2.1), (1, .int x1), (2, .int x2)], [.ref b43, .ref M.2.1], M42) _
  refine mm_put (l' := [.int x1, .ref b16, .ref b28, .ref b43, .null, .null, .null, .int 0]) rfl hW hM48 rfl rfl rfl (fun M53 hM54 f55 => ?_)
  have h56 := (f55 _ (ne_non h49 hM54.2.2.1)).trans h50
  have h57 := (f55 _ (ne_non h51 hM54.2.2.1)).trans h52
  have h58 := (f55 _ (ne_non h45 hM54.2.2.1)).trans h46
  show ml _ _ _ (44, [(3, .int hd9), (0, .ref M.2.1), (1, .int x1), (2, .int x2)], [], M53) _
  refine ml_blk 2 (S' := (46, [(3, .int hd9), (0, .ref M.2.1), (1, .int x1), (2, .int x2)], [.int hd9, .ref M.2.1], M53)) rfl ?_
  refine ml_newa (S' := (48, [(3, .int hd9), (0, .ref M.2.1), (1, .int x1), (2, .int x2)], [.ref M53.2.1, .ref M.2.1], (mk1 M53 (ar .int hd9.toNatClampNeg (fun _ => 0)) hd9.toNatClampNeg))) rfl hh.1 (by omega) rfl ?_
  refine mm_row (kr := 34) (pr := [hd9.toNatClampNeg, M.2.1]) hM54.1.1 (okY_row rfl hn9 (by decide) (fun h => absurd h (by decide)) (fun h => absurd h (by decide))) (fun Y59 M60 b61 _ h62 h63 h64 f65 => ?_)
  have hM66 := hM54.tr h62
  have h67 := (h62.2.1 _ _ h49).1
  have h68 := (f65 _ (hM54.1.1.2.1 _ _ h49)).trans h56
  have h69 := (h62.2.1 _ _ h51).1
  have h70 := (f65 _ (hM54.1.1.2.1 _ _ h51)).trans h57
  have h71 := (h62.2.1 _ _ h45).1
  have h72 := (f65 _ (hM54.1.1.2.1 _ _ h45)).trans h58
  show ml _ _ _ (48, [(3, .int hd9), (0, .ref M.2.1), (1, .int x1), (2, .int x2)], [.ref b61, .ref M.2.1], M60) _
  refine mm_put (l' := [.int x1, .ref b16, .ref b28, .ref b43, .ref b61, .null, .null, .int 0]) rfl hW hM66 rfl rfl rfl (fun M73 hM74 f75 => ?_)
  have h76 := (f75 _ (ne_non h67 hM74.2.2.1)).trans h68
  have h77 := (f75 _ (ne_non h69 hM74.2.2.1)).trans h70
  have h78 := (f75 _ (ne_non h71 hM74.2.2.1)).trans h72
  have h79 := (f75 _ (ne_non h63 hM74.2.2.1)).trans h64
  show ml _ _ _ (51, [(3, .int hd9), (0, .ref M.2.1), (1, .int x1), (2, .int x2)], [], M73) _
  refine ml_blk 2 (S' := (53, [(3, .int hd9), (0, .ref M.2.1), (1, .int x1), (2, .int x2)], [.int hd9, .ref M.2.1], M73)) rfl ?_
  refine ml_newa (S' := (55, [(3, .int hd9), (0, .ref M.2.1), (1, .int x1), (2, .int x2)], [.ref M73.2.1, .ref M.2.1], (mk1 M73 (ar .int hd9.toNatClampNeg (fun _ => 0)) hd9.toNatClampNeg))) rfl hh.1 (by omega) rfl ?_
  refine mm_row (kr := 35) (pr := [hd9.toNatClampNeg, M.2.1]) hM74.1.1 (okY_row rfl hn9 (by decide) (fun h => absurd h (by decide)) (fun h => absurd h (by decide))) (fun Y80 M81 b82 _ h83 h84 h85 f86 => ?_)
  have hM87 := hM74.tr h83
  have h88 := (h83.2.1 _ _ h67).1
  have h89 := (f86 _ (hM74.1.1.2.1 _ _ h67)).trans h76
  have h90 := (h83.2.1 _ _ h69).1
  have h91 := (f86 _ (hM74.1.1.2.1 _ _ h69)).trans h77
  have h92 := (h83.2.1 _ _ h71).1
  have h93 := (f86 _ (hM74.1.1.2.1 _ _ h71)).trans h78
  have h94 := (h83.2.1 _ _ h63).1
  have h95 := (f86 _ (hM74.1.1.2.1 _ _ h63)).trans h79
  show ml _ _ _ (55, [(3, .int hd9), (0, .ref M.2.1), (1, .int x1), (2, .int x2)], [.ref b82, .ref M.2.1], M81) _
  refine mm_put (l' := [.int x1, .ref b16, .ref b28, .ref b43, .ref b61, .ref b82, .null, .int 0]) rfl hW hM87 rfl rfl rfl (fun M96 hM97 f98 => ?_)
  have h99 := (f98 _ (ne_non h88 hM97.2.2.1)).trans h89
  have h100 := (f98 _ (ne_non h90 hM97.2.2.1)).trans h91
  have h101 := (f98 _ (ne_non h92 hM97.2.2.1)).trans h93
  have h102 := (f98 _ (ne_non h94 hM97.2.2.1)).trans h95
  have h103 := (f98 _ (ne_non h84 hM97.2.2.1)).trans h85
  show ml _ _ _ (58, [(3, .int hd9), (0, .ref M.2.1), (1, .int x1), (2, .int x2)], [], M96) _
  refine ml_blk 3 (S' := (61, [(3, .int hd9), (0, .ref M.2.1), (1, .int x1), (2, .int x2)], [.int x2, .int 0, .ref M.2.1], M96)) rfl ?_
  refine ml_st (S' := (64, [(3, .int hd9), (0, .ref M.2.1), (1, .int x1), (2, .int x2)], [.int (if 0 < x2 then x2 else 0), .ref M.2.1], M96)) rfl rfl rfl ?_
  rw [mx0 h20]
  refine ml_newa (S' := (66, [(3, .int hd9), (0, .ref M.2.1), (1, .int x1), (2, .int x2)], [.ref M96.2.1, .ref M.2.1], (mk1 M96 (ar .char x2.toNatClampNeg (fun _ => 0)) x2.toNatClampNeg))) rfl h20 (by omega) rfl ?_
  refine mm_row (kr := 36) (pr := [x2.toNatClampNeg, M.2.1]) hM97.1.1 (okY_row rfl hm9 (by decide) (fun h => absurd h (by decide)) (fun h => (rfl : narrow .char (.int 0) = .int 0))) (fun Y104 M105 b106 _ h107 h108 h109 f110 => ?_)
  have hM111 := hM97.tr h107
  have h112 := (h107.2.1 _ _ h88).1
  have h113 := (f110 _ (hM97.1.1.2.1 _ _ h88)).trans h99
  have h114 := (h107.2.1 _ _ h90).1
  have h115 := (f110 _ (hM97.1.1.2.1 _ _ h90)).trans h100
  have h116 := (h107.2.1 _ _ h92).1
  have h117 := (f110 _ (hM97.1.1.2.1 _ _ h92)).trans h101
  have h118 := (h107.2.1 _ _ h94).1
  have h119 := (f110 _ (hM97.1.1.2.1 _ _ h94)).trans h102
  have h120 := (h107.2.1 _ _ h84).1
  have h121 := (f110 _ (hM97.1.1.2.1 _ _ h84)).trans h103
  show ml _ _ _ (66, [(3, .int hd9), (0, .ref M.2.1), (1, .int x1), (2, .int x2)], [.ref b106, .ref M.2.1], M105) _
  refine mm_put (l' := [.int x1, .ref b16, .ref b28, .ref b43, .ref b61, .ref b82, .ref b106, .int 0]) rfl hW hM111 rfl rfl rfl (fun M122 hM123 f124 => ?_)
  have h125 := (f124 _ (ne_non h112 hM123.2.2.1)).trans h113
  have h126 := (f124 _ (ne_non h114 hM123.2.2.1)).trans h115
  have h127 := (f124 _ (ne_non h116 hM123.2.2.1)).trans h117
  have h128 := (f124 _ (ne_non h118 hM123.2.2.1)).trans h119
  have h129 := (f124 _ (ne_non h120 hM123.2.2.1)).trans h121
  have h130 := (f124 _ (ne_non h108 hM123.2.2.1)).trans h109
  show ml _ _ _ (69, [(3, .int hd9), (0, .ref M.2.1), (1, .int x1), (2, .int x2)], [], M122) _
  have ho := okY_pool hn9 hm9 hx1 hM123.2.1 (yadd_le hM123.2.2.1) h112 h114 h116 h118 h120 h108 h125 h127 h128
  have hd := hM123.done ho
  exact ml_ret rfl (rfl) (⟨rfl, _, hd9.toNatClampNeg, b16, b28, b43, b61, b82, b106, hd.le (by omega) (by omega), ((((((h17.2.1).tr h29.2.1).tr h44.2.1).tr h62.2.1).tr h83.2.1).tr h107.2.1).tr (yadd_le hM123.2.2.1), yadd_at, fun k => ⟨_, _, _, h127, h128, fun _ _ => ⟨rfl, rfl⟩⟩, by omega⟩)
set_option maxHeartbeats 2000000 in
theorem tk_ClassFile {g : xe_G} {M M1 : mi_H} {Y Y1 : yT} {c9 s9 : Nat} {b da n : Nat}  (hW : WF g Y M) (hM : sm g Y M Y1 M1 [.null, .null, .int 0, .int 0, .int 0, .int 0, .null, .null, .int 0, .int 0, .int 0, .int 0, .int 0, .int 0, .int 0, .int 0, .int 0] 3 c9 s9) (hY0 : Y1.1 b = some (1, [da, n])) {d : Nat} (hd : 2 ≤ d) : mt (mT g) d 68 [.ref M.2.1, .ref b] M1 (fun v M' => v = none ∧ ∃ Y3, sn g Y M Y3 M' (c9 + 9) (s9 + 13) ∧ yle Y1 Y3 ∧ Y3.1 M.2.1 = some (3, [b, da, n])) := by
  obtain ⟨d, rfl⟩ : ∃ e, d = e + 1 := ⟨d - 1, by omega⟩
  refine mt_in (b := mb_68 g) rfl rfl ?_
  show ml (mT g) d (mb_68 g).2 (0, [(0, .ref M.2.1), (1, .ref b)], [], M1) _
  refine ml_st (S' := (1, [(0, .ref M.2.1), (1, .ref b)], [.ref M.2.1], M1)) rfl rfl rfl ?_
  refine ml_st (S' := (4, [(0, .ref M.2.1), (1, .ref b)], [], M1)) rfl rfl rfl ?_
  refine ml_blk 2 (S' := (6, [(0, .ref M.2.1), (1, .ref b)], [.ref b, .ref M.2.1], M1)) rfl ?_
  refine mm_put (l' := [.ref b, .null, .int 0, .int 0, .int 0, .int 0, .null, .null, .int 0, .int 0, .int 0, .int 0, .int 0, .int 0, .int 0, .int 0, .int 0]) rfl hW hM rfl rfl rfl (fun M11 hM12 f13 => ?_)
  show ml _ _ _ (9, [(0, .ref M.2.1), (1, .ref b)], [], M11) _
  refine ml_st (S' := (10, [(0, .ref M.2.1), (1, .ref b)], [.ref M.2.1], M11)) rfl rfl rfl ?_
  have hW_hM15 := hM12.1.1
  refine mm_new (k := 7) (N := 8) (ds := [.int 0, .null, .null, .null, .null, .null, .null, .int 0]) rfl hW_hM15 (fun M14 hM15 => ?_)
  show ml _ _ _ (13, [(0, .ref M.2.1), (1, .ref b)], [.ref M11.2.1, .ref M.2.1], M14) _
  refine ml_blk 3 (S' := (16, [(0, .ref M.2.1), (1, .ref b)], [.int 0, .int 0, .ref M11.2.1, .ref M11.2.1, .ref M.2.1], M14)) rfl ?_
  refine ml_call (a := [.ref M11.2.1, .int 0, .int 0]) (rest := [.ref M11.2.1, .ref M.2.1]) rfl (okc_v rfl rfl rfl hM15.2.1) rfl rfl (tk_Pool hW_hM15 hM15 (by decide) (by decide) (by decide) (by omega)) (fun v17 M18 h19 => ?_)
  obtain ⟨rfl, Y20, nh21, t22, tp23, f24, s25, sh26, ch27, h28, h29, h30, h31, h32⟩ := h19
  have hM33 := hM12.tr h28
  have h34 := (h29 _ _ hY0).1
  show ml _ _ _ (19, [(0, .ref M.2.1), (1, .ref b)], [.ref M11.2.1, .ref M.2.1], M18) _
  refine mm_put (l' := [.ref b, .ref M11.2.1, .int 0, .int 0, .int 0, .int 0, .null, .null, .int 0, .int 0, .int 0, .int 0, .int 0, .int 0, .int 0, .int 0, .int 0]) rfl hW hM33 rfl rfl rfl (fun M35 hM36 f37 => ?_)
  show ml _ _ _ (22, [(0, .ref M.2.1), (1, .ref b)], [], M35) _
  refine ml_blk 2 (S' := (24, [(0, .ref M.2.1), (1, .ref b)], [.int 0, .ref M.2.1], M35)) rfl ?_
  refine ml_anew (S' := (27, [(0, .ref M.2.1), (1, .ref b)], [.ref M35.2.1, .ref M.2.1], (mk1 M35 (.inl (.object "ClassGate$Member", (Int32.toNatClampNeg 0), fun _ => some .null)) (Int32.toNatClampNeg 0)))) rfl (by decide) (by decide) rfl ?_
  refine mm_row (kr := 23) (pr := [(Int32.toNatClampNeg 0), da, n]) hM36.1.1 (okY_mem (⟨by decide, Nat.zero_le _⟩)) (fun Y38 M39 b40 _ h41 h42 h43 f44 => ?_)
  have hM45 := hM36.tr h41
  have h46 := (h41.2.1 _ _ h34).1
  have h47 := (h41.2.1 _ _ h30).1
  show ml _ _ _ (27, [(0, .ref M.2.1), (1, .ref b)], [.ref b40, .ref M.2.1], M39) _
  refine mm_put (l' := [.ref b, .ref M11.2.1, .int 0, .int 0, .int 0, .int 0, .ref b40, .null, .int 0, .int 0, .int 0, .int 0, .int 0, .int 0, .int 0, .int 0, .int 0]) rfl hW hM45 rfl rfl rfl (fun M48 hM49 f50 => ?_)
  show ml _ _ _ (30, [(0, .ref M.2.1), (1, .ref b)], [], M48) _
  refine ml_blk 2 (S' := (32, [(0, .ref M.2.1), (1, .ref b)], [.int 0, .ref M.2.1], M48)) rfl ?_
  refine ml_anew (S' := (35, [(0, .ref M.2.1), (1, .ref b)], [.ref M48.2.1, .ref M.2.1], (mk1 M48 (.inl (.object "ClassGate$Member", (Int32.toNatClampNeg 0), fun _ => some .null)) (Int32.toNatClampNeg 0)))) rfl (by decide) (by decide) rfl ?_
  refine mm_row (kr := 23) (pr := [(Int32.toNatClampNeg 0), da, n]) hM49.1.1 (okY_mem (⟨by decide, Nat.zero_le _⟩)) (fun Y51 M52 b53 _ h54 h55 h56 f57 => ?_)
  have hM58 := hM49.tr h54
  have h59 := (h54.2.1 _ _ h46).1
  have h60 := (h54.2.1 _ _ h47).1
  have h61 := (h54.2.1 _ _ h42).1
  show ml _ _ _ (35, [(0, .ref M.2.1), (1, .ref b)], [.ref b53, .ref M.2.1], M52) _
  refine mm_put (l' := [.ref b, .ref M11.2.1, .int 0, .int 0, .int 0, .int 0, .ref b40, .ref b53, .int 0, .int 0, .int 0, .int 0, .int 0, .int 0, .int 0, .int 0, .int 0]) rfl hW hM58 rfl rfl rfl (fun M62 hM63 f64 => ?_)
  show ml _ _ _ (38, [(0, .ref M.2.1), (1, .ref b)], [], M62) _
  refine ml_blk 2 (S' := (40, [(0, .ref M.2.1), (1, .ref b)], [.int (-1), .ref M.2.1], M62)) rfl ?_
  refine mm_put (l' := [.ref b, .ref M11.2.1, .int 0, .int 0, .int 0, .int 0, .ref b40, .ref b53, .int 0, .int 0, .int 0, .int 0, .int 0, .int 0, .int 0, .int 0, .int (-1)]) rfl hW hM63 rfl rfl rfl (fun M65 hM66 f67 => ?_)
  show ml _ _ _ (43, [(0, .ref M.2.1), (1, .ref b)], [], M65) _
  have ho : okY (yadd Y51 M.2.1 3 [b, da, n]) M65 M.2.1 3 [b, da, n] := okY_new (by decide) hM66.2.1 (by simp [sch]) ⟨rfl, ⟨_, rfl, _, ((yadd_le hM66.2.2.1) _ _ h60).1⟩, ⟨_, rfl⟩, ⟨_, rfl⟩, ⟨_, rfl⟩, ⟨_, rfl⟩, ⟨_, rfl, _, ((yadd_le hM66.2.2.1) _ _ h61).1⟩, ⟨_, rfl, _, ((yadd_le hM66.2.2.1) _ _ h55).1⟩, ⟨_, rfl⟩, ⟨_, rfl⟩, ⟨_, rfl⟩, ⟨_, rfl⟩, ⟨_, rfl⟩, ⟨_, rfl⟩, ⟨_, rfl⟩, ⟨_, rfl⟩, ⟨_, rfl⟩, trivial⟩ (((yadd_le hM66.2.2.1) _ _ h59).1) trivial
  have hd9 := hM66.done ho
  have e0 : (0 : Int32).toInt = 0 := rfl
  have e1 : Int32.toNatClampNeg 0 = 0 := rfl
  exact ml_ret rfl (rfl) (⟨rfl, _, hd9.le (by omega) (by omega), (((h28.2.1).tr h41.2.1).tr h54.2.1).tr (yadd_le hM66.2.2.1), yadd_at⟩)
set_option maxHeartbeats 2000000 in
theorem tk_Code {g : xe_G} {M M1 : mi_H} {Y Y1 : yT} {c9 s9 : Nat} {c b da n : Nat} {x2 : Int32}  (hW : WF g Y M) (hM : sm g Y M Y1 M1 [.int 0, .int 0, .int 0, .int 0, .int 0, .null, .int 0, .null, .int 0, .null, .null] 4 c9 s9) (hY0 : Y1.1 c = some (3, [b, da, n])) (hY1 : Y1.1 b = some (1, [da, n])) (hl0 : 0 ≤ (sp_u4 n (Y1.2 da) (x2 + 4)).toInt) (hl1 : (sp_u4 n (Y1.2 da) (x2 + 4)).toInt ≤ n) {d : Nat} (hd : 2 ≤ d) : mt (mT g) d 74 [.ref M.2.1, .ref c, .int x2] M1 (fun v M' => v = none ∧ ∃ Y3 p o, sn g Y M Y3 M' (c9 + 1) (s9 + 12) ∧ yle Y1 Y3 ∧ Y3.1 M.2.1 = some (4, [p, o, n])) := by
  obtain ⟨d, rfl⟩ : ∃ e, d = e + 1 := ⟨d - 1, by omega⟩
  refine mt_in (b := mb_74 g) rfl rfl ?_
  show ml (mT g) d (mb_74 g).2 (0, [(0, .ref M.2.1), (1, .ref c), (2, .int x2)], [], M1) _
  have hn := hM.1.1.bn hY1
  have hn2 := hM.1.1.bm hY1
  refine ml_st (S' := (1, [(0, .ref M.2.1), (1, .ref c), (2, .int x2)], [.ref M.2.1], M1)) rfl rfl rfl ?_
  refine ml_st (S' := (4, [(0, .ref M.2.1), (1, .ref c), (2, .int x2)], [], M1)) rfl rfl rfl ?_
  refine ml_st (S' := (5, [(0, .ref M.2.1), (1, .ref c), (2, .int x2)], [.ref c], M1)) rfl rfl rfl ?_
  refine tg_ref (S' := (8, [(0, .ref M.2.1), (1, .ref c), (2, .int x2)], [.ref b], M1)) rfl hM.1.1 hY0 (by decide) rfl rfl ?_
  refine ml_st (S' := (9, [(3, .ref b), (0, .ref M.2.1), (1, .ref c), (2, .int x2)], [], M1)) rfl rfl rfl ?_
  refine ml_blk 3 (S' := (12, [(3, .ref b), (0, .ref M.2.1), (1, .ref c), (2, .int x2)], [.int x2, .ref b, .ref M.2.1], M1)) rfl ?_
  refine ml_call (a := [.ref b, .int x2]) (rest := [.ref M.2.1]) rfl (okc_t rfl rfl rfl hM.1.1 hY1 (by decide)) rfl rfl (ct_u2 (hM.1.1.bytes hY1).1 (by omega)) (fun v11 M12 h13 => ?_)
  obtain ⟨rfl, h13⟩ := h13
  rw [h13]
  show ml _ _ _ (15, [(3, .ref b), (0, .ref M.2.1), (1, .ref c), (2, .int x2)], [.int (sp_u2 n (Y1.2 da) x2), .ref M.2.1], M1) _
  refine mm_put (l' := [.int (sp_u2 n (Y1.2 da) x2), .int 0, .int 0, .int 0, .int 0, .null, .int 0, .null, .int 0, .null, .null]) rfl hW hM rfl rfl rfl (fun M14 hM15 f16 => ?_)
  show ml _ _ _ (18, [(3, .ref b), (0, .ref M.2.1), (1, .ref c), (2, .int x2)], [], M14) _
  refine ml_blk 3 (S' := (21, [(3, .ref b), (0, .ref M.2.1), (1, .ref c), (2, .int x2)], [.int x2, .ref b, .ref M.2.1], M14)) rfl ?_
  refine ml_blk 2 (S' := (23, [(3, .ref b), (0, .ref M.2.1), (1, .ref c), (2, .int x2)], [.int (x2 + 2), .ref b, .ref M.2.1], M14)) rfl ?_
  refine ml_call (a := [.ref b, .int (x2 + 2)]) (rest := [.ref M.2.1]) rfl (okc_t rfl rfl rfl hM15.1.1 hY1 (by decide)) rfl rfl (ct_u2 (hM15.1.1.bytes hY1).1 (by omega)) (fun v17 M18 h19 => ?_)
  obtain ⟨rfl, h19⟩ := h19
  rw [h19]
  show ml _ _ _ (26, [(3, .ref b), (0, .ref M.2.1), (1, .ref c), (2, .int x2)], [.int (sp_u2 n (Y1.2 da) (x2 + 2)), .ref M.2.1], M14) _
  refine mm_put (l' := [.int (sp_u2 n (Y1.2 da) x2), .int (sp_u2 n (Y1.2 da) (x2 + 2)), .int 0, .int 0, .int 0, .null, .int 0, .null, .int 0, .null, .null]) rfl hW hM15 rfl rfl rfl (fun M20 hM21 f22 => ?_)
  show ml _ _ _ (29, [(3, .ref b), (0, .ref M.2.1), (1, .ref c), (2, .int x2)], [], M20) _
  refine ml_blk 3 (S' := (32, [(3, .ref b), (0, .ref M.2.1), (1, .ref c), (2, .int x2)], [.int x2, .ref b, .ref M.2.1], M20)) rfl ?_
  refine ml_blk 2 (S' := (34, [(3, .ref b), (0, .ref M.2.1), (1, .ref c), (2, .int x2)], [.int (x2 + 4), .ref b, .ref M.2.1], M20)) rfl ?_
  refine ml_call (a := [.ref b, .int (x2 + 4)]) (rest := [.ref M.2.1]) rfl (okc_t rfl rfl rfl hM21.1.1 hY1 (by decide)) rfl rfl (ct_u4 (hM21.1.1.bytes hY1).1 (by omega)) (fun v23 M24 h25 => ?_)
  obtain ⟨rfl, h25⟩ := h25
  rw [h25]
  show ml _ _ _ (37, [(3, .ref b), (0, .ref M.2.1), (1, .ref c), (2, .int x2)], [.int (sp_u4 n (Y1.2 da) (x2 + 4)), .ref M.2.1], M20) _
  refine mm_put (l' := [.int (sp_u2 n (Y1.2 da) x2), .int (sp_u2 n (Y1.2 da) (x2 + 2)), .int (sp_u4 n (Y1.2 da) (x2 + 4)), .int 0, .int 0, .null, .int 0, .null, .int 0, .null, .null]) rfl hW hM21 rfl rfl rfl (fun M26 hM27 f28 => ?_)
  show ml _ _ _ (40, [(3, .ref b), (0, .ref M.2.1), (1, .ref c), (2, .int x2)], [], M26) _
  refine ml_blk 3 (S' := (44, [(3, .ref b), (0, .ref M.2.1), (1, .ref c), (2, .int x2)], [.int 8, .int x2, .ref M.2.1], M26)) rfl ?_
  refine ml_blk 2 (S' := (46, [(3, .ref b), (0, .ref M.2.1), (1, .ref c), (2, .int x2)], [.ref M.2.1, .int (x2 + 8), .ref M.2.1], M26)) rfl ?_
  refine mo_get (S' := (49, [(3, .ref b), (0, .ref M.2.1), (1, .ref c), (2, .int x2)], [.int (sp_u4 n (Y1.2 da) (x2 + 4)), .int (x2 + 8), .ref M.2.1], M26)) rfl hM27.2.1 rfl rfl ?_
  refine ml_blk 3 (S' := (52, [(3, .ref b), (0, .ref M.2.1), (1, .ref c), (2, .int x2)], [.int (((x2 + 8) + (sp_u4 n (Y1.2 da) (x2 + 4))) + 2), .ref M.2.1], M26)) rfl ?_
  refine mm_put (l' := [.int (sp_u2 n (Y1.2 da) x2), .int (sp_u2 n (Y1.2 da) (x2 + 2)), .int (sp_u4 n (Y1.2 da) (x2 + 4)), .int (((x2 + 8) + (sp_u4 n (Y1.2 da) (x2 + 4))) + 2), .int 0, .null, .int 0, .null, .int 0, .null, .null]) rfl hW hM27 rfl rfl rfl (fun M29 hM30 f31 => ?_)
  show ml _ _ _ (55, [(3, .ref b), (0, .ref M.2.1), (1, .ref c), (2, .int x2)], [], M29) _
  refine ml_blk 3 (S' := (58, [(3, .ref b), (0, .ref M.2.1), (1, .ref c), (2, .int x2)], [.ref M.2.1, .ref b, .ref M.2.1], M29)) rfl ?_
  refine mo_get (S' := (61, [(3, .ref b), (0, .ref M.2.1), (1, .ref c), (2, .int x2)], [.int (((x2 + 8) + (sp_u4 n (Y1.2 da) (x2 + 4))) + 2), .ref b, .ref M.2.1], M29)) rfl hM30.2.1 rfl rfl ?_
  refine ml_blk 2 (S' := (63, [(3, .ref b), (0, .ref M.2.1), (1, .ref c), (2, .int x2)], [.int ((((x2 + 8) + (sp_u4 n (Y1.2 da) (x2 + 4))) + 2) - 2), .ref b, .ref M.2.1], M29)) rfl ?_
  refine ml_call (a := [.ref b, .int ((((x2 + 8) + (sp_u4 n (Y1.2 da) (x2 + 4))) + 2) - 2)]) (rest := [.ref M.2.1]) rfl (okc_t rfl rfl rfl hM30.1.1 hY1 (by decide)) rfl rfl (ct_u2 (hM30.1.1.bytes hY1).1 (by omega)) (fun v32 M33 h34 => ?_)
  obtain ⟨rfl, h34⟩ := h34
  rw [h34]
  show ml _ _ _ (66, [(3, .ref b), (0, .ref M.2.1), (1, .ref c), (2, .int x2)], [.int (sp_u2 n (Y1.2 da) ((((x2 + 8) + (sp_u4 n (Y1.2 da) (x2 + 4))) + 2) - 2)), .ref M.2.1], M29) _
  refine mm_put (l' := [.int (sp_u2 n (Y1.2 da) x2), .int (sp_u2 n (Y1.2 da) (x2 + 2)), .int (sp_u4 n (Y1.2 da) (x2 + 4)), .int (((x2 + 8) + (sp_u4 n (Y1.2 da) (x2 + 4))) + 2), .int (sp_u2 n (Y1.2 da) ((((x2 + 8) + (sp_u4 n (Y1.2 da) (x2 + 4))) + 2) - 2)), .null, .int 0, .null, .int 0, .null, .null]) rfl hW hM30 rfl rfl rfl (fun M35 hM36 f37 => ?_)
  show ml _ _ _ (69, [(3, .ref b), (0, .ref M.2.1), (1, .ref c), (2, .int x2)], [], M35) _
  refine ml_blk 2 (S' := (71, [(3, .ref b), (0, .ref M.2.1), (1, .ref c), (2, .int x2)], [.ref c, .ref M.2.1], M35)) rfl ?_
  refine tg_vo rfl hM36.1.1 hY0 (by decide) rfl (fun b38 g40 h39 => ?_)
  obtain ⟨s41, h39⟩ := h39
  show ml _ _ _ (74, [(3, .ref b), (0, .ref M.2.1), (1, .ref c), (2, .int x2)], [.ref b38, .ref M.2.1], M35) _
  refine mm_put (l' := [.int (sp_u2 n (Y1.2 da) x2), .int (sp_u2 n (Y1.2 da) (x2 + 2)), .int (sp_u4 n (Y1.2 da) (x2 + 4)), .int (((x2 + 8) + (sp_u4 n (Y1.2 da) (x2 + 4))) + 2), .int (sp_u2 n (Y1.2 da) ((((x2 + 8) + (sp_u4 n (Y1.2 da) (x2 + 4))) + 2) - 2)), .ref b38, .int 0, .null, .int 0, .null, .null]) rfl hW hM36 rfl rfl rfl (fun M42 hM43 f44 => ?_)
  show ml _ _ _ (77, [(3, .ref b), (0, .ref M.2.1), (1, .ref c), (2, .int x2)], [], M42) _
  refine ml_blk 2 (S' := (79, [(3, .ref b), (0, .ref M.2.1), (1, .ref c), (2, .int x2)], [.ref c, .ref M.2.1], M42)) rfl ?_
  refine tg_int rfl hM43.1.1 hY0 (by decide) rfl (fun u45 g46 => ?_)
  show ml _ _ _ (82, [(3, .ref b), (0, .ref M.2.1), (1, .ref c), (2, .int x2)], [.int u45, .ref M.2.1], M42) _
  refine mm_put (l' := [.int (sp_u2 n (Y1.2 da) x2), .int (sp_u2 n (Y1.2 da) (x2 + 2)), .int (sp_u4 n (Y1.2 da) (x2 + 4)), .int (((x2 + 8) + (sp_u4 n (Y1.2 da) (x2 + 4))) + 2), .int (sp_u2 n (Y1.2 da) ((((x2 + 8) + (sp_u4 n (Y1.2 da) (x2 + 4))) + 2) - 2)), .ref b38, .int u45, .null, .int 0, .null, .null]) rfl hW hM43 rfl rfl rfl (fun M47 hM48 f49 => ?_)
  show ml _ _ _ (85, [(3, .ref b), (0, .ref M.2.1), (1, .ref c), (2, .int x2)], [], M47) _
  refine ml_st (S' := (86, [(3, .ref b), (0, .ref M.2.1), (1, .ref c), (2, .int x2)], [.ref M.2.1], M47)) rfl rfl rfl ?_
  have hW_hM51 := hM48.1.1
  refine mm_new (k := 5) (N := 12) (ds := [.null, .int 0, .int 0, .int 0, .int 0, .int 0, .int 0, .int 0, .int 0, .int 0, .int 0, .int 0]) rfl hW_hM51 (fun M50 hM51 => ?_)
  show ml _ _ _ (89, [(3, .ref b), (0, .ref M.2.1), (1, .ref c), (2, .int x2)], [.ref M47.2.1, .ref M.2.1], M50) _
  refine ml_blk 3 (S' := (92, [(3, .ref b), (0, .ref M.2.1), (1, .ref c), (2, .int x2)], [.int x2, .ref b, .ref M47.2.1, .ref M47.2.1, .ref M.2.1], M50)) rfl ?_
  refine ml_blk 3 (S' := (96, [(3, .ref b), (0, .ref M.2.1), (1, .ref c), (2, .int x2)], [.ref M.2.1, .int (x2 + 8), .ref b, .ref M47.2.1, .ref M47.2.1, .ref M.2.1], M50)) rfl ?_
  refine mo_get (S' := (99, [(3, .ref b), (0, .ref M.2.1), (1, .ref c), (2, .int x2)], [.int (sp_u4 n (Y1.2 da) (x2 + 4)), .int (x2 + 8), .ref b, .ref M47.2.1, .ref M47.2.1, .ref M.2.1], M50)) rfl ((hM51.1.2.2.2.2 _ hM48.2.2.2).trans hM48.2.1) rfl rfl ?_
  refine ml_call (a := [.ref M47.2.1, .ref b, .int (x2 + 8), .int (sp_u4 n (Y1.2 da) (x2 + 4))]) (rest := [.ref M47.2.1, .ref M.2.1]) rfl (okc_v rfl rfl rfl hM51.2.1) rfl rfl (tk_Instruction hW_hM51 hM51  (by omega)) (fun v53 M54 h55 => ?_)
  obtain ⟨rfl, Y56, hM57, h58⟩ := h55
  have h59 := (h58 _ _ hY0).1
  have h60 := (h58 _ _ hY1).1
  have h61 := (h58 _ _ h39).1
  refine mm_done (k := 5) (ps := [b, n]) hM57 (okY_new (by decide) hM57.2.1 (by simp [sch]) ⟨rfl, ⟨_, rfl⟩, ⟨_, rfl⟩, ⟨_, rfl⟩, ⟨_, rfl⟩, ⟨_, rfl⟩, ⟨_, rfl⟩, ⟨_, rfl⟩, ⟨_, rfl⟩, ⟨_, rfl⟩, ⟨_, rfl⟩, ⟨_, rfl⟩, trivial⟩ ⟨_, _, (yadd_le hM57.2.2.1 _ _ h60).1⟩ ⟨hn, _, rfl, hl0, hl1⟩) (fun Y62 h63 h64 h65 => ?_)
  have h66 := (h64 _ _ h59).1
  have h67 := (h64 _ _ h60).1
  have h68 := (h64 _ _ h61).1
  have hM69 := hM48.tr h63
  show ml _ _ _ (102, [(3, .ref b), (0, .ref M.2.1), (1, .ref c), (2, .int x2)], [.ref M47.2.1, .ref M.2.1], M54) _
  refine mm_put (l' := [.int (sp_u2 n (Y1.2 da) x2), .int (sp_u2 n (Y1.2 da) (x2 + 2)), .int (sp_u4 n (Y1.2 da) (x2 + 4)), .int (((x2 + 8) + (sp_u4 n (Y1.2 da) (x2 + 4))) + 2), .int (sp_u2 n (Y1.2 da) ((((x2 + 8) + (sp_u4 n (Y1.2 da) (x2 + 4))) + 2) - 2)), .ref b38, .int u45, .ref M47.2.1, .int 0, .null, .null]) rfl hW hM69 rfl rfl rfl (fun M70 hM71 f72 => ?_)
  show ml _ _ _ (105, [(3, .ref b), (0, .ref M.2.1), (1, .ref c), (2, .int x2)], [], M70) _
  refine ml_blk 2 (S' := (107, [(3, .ref b), (0, .ref M.2.1), (1, .ref c), (2, .int x2)], [.int 0, .ref M.2.1], M70)) rfl ?_
  refine mm_put (l' := [.int (sp_u2 n (Y1.2 da) x2), .int (sp_u2 n (Y1.2 da) (x2 + 2)), .int (sp_u4 n (Y1.2 da) (x2 + 4)), .int (((x2 + 8) + (sp_u4 n (Y1.2 da) (x2 + 4))) + 2), .int (sp_u2 n (Y1.2 da) ((((x2 + 8) + (sp_u4 n (Y1.2 da) (x2 + 4))) + 2) - 2)), .ref b38, .int u45, .ref M47.2.1, .int 0, .null, .null]) rfl hW hM71 rfl rfl rfl (fun M73 hM74 f75 => ?_)
  show ml _ _ _ (110, [(3, .ref b), (0, .ref M.2.1), (1, .ref c), (2, .int x2)], [], M73) _
  have ho : okY (yadd Y62 M.2.1 4 [b38, M47.2.1, n]) M73 M.2.1 4 [b38, M47.2.1, n] := okY_new (by decide) hM74.2.1 (by simp [sch]) ⟨⟨_, rfl⟩, ⟨_, rfl⟩, ⟨_, rfl⟩, ⟨_, rfl⟩, ⟨_, rfl⟩, rfl, ⟨_, rfl⟩, rfl, ⟨_, rfl⟩, Or.inl rfl, Or.inl rfl, trivial⟩ ⟨⟨_, ((yadd_le hM74.2.2.1) _ _ h68).1⟩, _, ((yadd_le hM74.2.2.1) _ _ h65).1⟩ ⟨hn2, _, rfl, hl0, hl1⟩
  have hd9 := hM74.done ho
  exact ml_ret rfl (rfl) (⟨rfl, _, _, _, hd9.le (by omega) (by omega), (h63.2.1).tr (yadd_le hM74.2.2.1), yadd_at⟩)
