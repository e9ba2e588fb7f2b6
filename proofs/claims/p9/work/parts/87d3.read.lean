/-! the pool is written (laid by wip/p4/d3.py) -/
set_option maxHeartbeats 1000000 in
theorem dx_setTag {g : xe_G} {M : mi_H} {pq q1 q2 q3 q4 q5 q6 hd cc : Nat} {sz : Int32} {F1 F2 : Nat → Int32} {k : Nat} {x2 x3 : Int32} (h_pq : M.1 pq = some (ob 7 [.int sz, .ref q1, .ref q2, .ref q3, .ref q4, .ref q5, .ref q6, .int (nI cc)])) (h_q1 : M.1 q1 = some (ar .int hd F1)) (h_q2 : M.1 q2 = some (ar .int hd F2)) (hD : dst5 q1 q2 q3 q4 q5) (hh : hd < 1073741824) (hk : k < hd) : pt (mT g) 136 [.ref pq, .int (nI k), .int x2, .int x3] M (fun v M' => (v = none ∧ M'.1 q1 = some (ar .int hd (upd F1 k x2)) ∧ M'.1 q2 = some (ar .int hd (upd F2 k x3)) ∧ fm [q1, q2] M M')) := by
  refine pt_in (b := mb_136 g) rfl (fun kf => ?_)
  show pl (mT g) kf (mb_136 g).2 (0, [(0, .ref pq), (1, .int (nI k)), (2, .int x2), (3, .int x3)], [], M) _
  have hF : fm [q1, q2] M M := fm.rf
  refine ps_st (S' := (1, [(0, .ref pq), (1, .int (nI k)), (2, .int x2), (3, .int x3)], [.int (nI k)], M)) rfl rfl rfl ?_
  refine ps_if (S1 := (27, [], [], M)) (S2 := (4, [(0, .ref pq), (1, .int (nI k)), (2, .int x2), (3, .int x3)], [], M)) rfl rfl rfl (fun c_1 => ?_) (fun c_1 => ?_)
  · exact absurd (of_decide_eq_true c_1) (nI_n0 (by omega))
  refine ps_st (S' := (5, [(0, .ref pq), (1, .int (nI k)), (2, .int x2), (3, .int x3)], [.int (nI k)], M)) rfl rfl rfl ?_
  refine ps_st (S' := (6, [(0, .ref pq), (1, .int (nI k)), (2, .int x2), (3, .int x3)], [.ref pq, .int (nI k)], M)) rfl rfl rfl ?_
  refine ps_get (S' := (9, [(0, .ref pq), (1, .int (nI k)), (2, .int x2), (3, .int x3)], [.ref q1, .int (nI k)], M)) rfl h_pq rfl rfl ?_
  refine ps_alen (S' := (10, [(0, .ref pq), (1, .int (nI k)), (2, .int x2), (3, .int x3)], [.int (nI hd), .int (nI k)], M)) rfl h_q1 rfl ?_
  refine ps_if2 (S1 := (27, [], [], M)) (S2 := (13, [(0, .ref pq), (1, .int (nI k)), (2, .int x2), (3, .int x3)], [], M)) rfl rfl rfl (fun c_10 => ?_) (fun c_10 => ?_)
  · exact absurd (of_decide_eq_true c_10) (fun h9 => absurd ((le_nI (by omega) (by omega)).mp h9) (by omega))
  refine ps_st (S' := (14, [(0, .ref pq), (1, .int (nI k)), (2, .int x2), (3, .int x3)], [.ref pq], M)) rfl rfl rfl ?_
  refine ps_get (S' := (17, [(0, .ref pq), (1, .int (nI k)), (2, .int x2), (3, .int x3)], [.ref q1], M)) rfl h_pq rfl rfl ?_
  refine ps_st (S' := (18, [(0, .ref pq), (1, .int (nI k)), (2, .int x2), (3, .int x3)], [.int (nI k), .ref q1], M)) rfl rfl rfl ?_
  refine ps_st (S' := (19, [(0, .ref pq), (1, .int (nI k)), (2, .int x2), (3, .int x3)], [.int x2, .int (nI k), .ref q1], M)) rfl rfl rfl ?_
  refine ps_ast rfl h_q1 (fun M1 i0_19 i1_19 h2 f3 z4 => ?_)
  have h5 := (f3 pq (ob_ar h_pq h_q1)).trans h_pq
  have h6 := (f3 q2 (Ne.symm hD.1.1)).trans h_q2
  have hF7 := hF.up (by simp) f3 z4
  show pl _ _ _ (20, [(0, .ref pq), (1, .int (nI k)), (2, .int x2), (3, .int x3)], [], M1) _
  refine ps_st (S' := (21, [(0, .ref pq), (1, .int (nI k)), (2, .int x2), (3, .int x3)], [.ref pq], M1)) rfl rfl rfl ?_
  refine ps_get (S' := (24, [(0, .ref pq), (1, .int (nI k)), (2, .int x2), (3, .int x3)], [.ref q2], M1)) rfl h5 rfl rfl ?_
  refine ps_st (S' := (25, [(0, .ref pq), (1, .int (nI k)), (2, .int x2), (3, .int x3)], [.int (nI k), .ref q2], M1)) rfl rfl rfl ?_
  refine ps_st (S' := (26, [(0, .ref pq), (1, .int (nI k)), (2, .int x2), (3, .int x3)], [.int x3, .int (nI k), .ref q2], M1)) rfl rfl rfl ?_
  refine ps_ast rfl h6 (fun M8 i0_26 i1_26 h9 f10 z11 => ?_)
  have h12 := (f10 pq (ob_ar h5 h6)).trans h5
  have h13 := (f10 q1 hD.1.1).trans h2
  have hF14 := hF7.up (by simp) f10 z11
  show pl _ _ _ (27, [], [], M8) _
  exact ps_ret rfl rfl (⟨rfl, by rw [h13, nI_toNat (by omega)], by rw [h9, nI_toNat (by omega)], hF14⟩)
set_option maxHeartbeats 1000000 in
theorem dx_setNumbers {g : xe_G} {M : mi_H} {pq q1 q2 q3 q4 q5 q6 hd cc : Nat} {sz : Int32} {F1 F3 F4 : Nat → Int32} {k : Nat} {x2 x3 : Int32} (h_pq : M.1 pq = some (ob 7 [.int sz, .ref q1, .ref q2, .ref q3, .ref q4, .ref q5, .ref q6, .int (nI cc)])) (h_q1 : M.1 q1 = some (ar .int hd F1)) (h_q3 : M.1 q3 = some (ar .int hd F3)) (h_q4 : M.1 q4 = some (ar .int hd F4)) (hD : dst5 q1 q2 q3 q4 q5) (hh : hd < 1073741824) (hk : k < hd) : pt (mT g) 135 [.ref pq, .int (nI k), .int x2, .int x3] M (fun v M' => (v = none ∧ M'.1 q3 = some (ar .int hd (upd F3 k x2)) ∧ M'.1 q4 = some (ar .int hd (upd F4 k x3)) ∧ fm [q3, q4] M M')) := by
  refine pt_in (b := mb_135 g) rfl (fun kf => ?_)
  show pl (mT g) kf (mb_135 g).2 (0, [(0, .ref pq), (1, .int (nI k)), (2, .int x2), (3, .int x3)], [], M) _
  have hF : fm [q3, q4] M M := fm.rf
  refine ps_st (S' := (1, [(0, .ref pq), (1, .int (nI k)), (2, .int x2), (3, .int x3)], [.int (nI k)], M)) rfl rfl rfl ?_
  refine ps_if (S1 := (27, [], [], M)) (S2 := (4, [(0, .ref pq), (1, .int (nI k)), (2, .int x2), (3, .int x3)], [], M)) rfl rfl rfl (fun c_1 => ?_) (fun c_1 => ?_)
  · exact absurd (of_decide_eq_true c_1) (nI_n0 (by omega))
  refine ps_st (S' := (5, [(0, .ref pq), (1, .int (nI k)), (2, .int x2), (3, .int x3)], [.int (nI k)], M)) rfl rfl rfl ?_
  refine ps_st (S' := (6, [(0, .ref pq), (1, .int (nI k)), (2, .int x2), (3, .int x3)], [.ref pq, .int (nI k)], M)) rfl rfl rfl ?_
  refine ps_get (S' := (9, [(0, .ref pq), (1, .int (nI k)), (2, .int x2), (3, .int x3)], [.ref q1, .int (nI k)], M)) rfl h_pq rfl rfl ?_
  refine ps_alen (S' := (10, [(0, .ref pq), (1, .int (nI k)), (2, .int x2), (3, .int x3)], [.int (nI hd), .int (nI k)], M)) rfl h_q1 rfl ?_
  refine ps_if2 (S1 := (27, [], [], M)) (S2 := (13, [(0, .ref pq), (1, .int (nI k)), (2, .int x2), (3, .int x3)], [], M)) rfl rfl rfl (fun c_10 => ?_) (fun c_10 => ?_)
  · exact absurd (of_decide_eq_true c_10) (fun h9 => absurd ((le_nI (by omega) (by omega)).mp h9) (by omega))
  refine ps_st (S' := (14, [(0, .ref pq), (1, .int (nI k)), (2, .int x2), (3, .int x3)], [.ref pq], M)) rfl rfl rfl ?_
  refine ps_get (S' := (17, [(0, .ref pq), (1, .int (nI k)), (2, .int x2), (3, .int x3)], [.ref q3], M)) rfl h_pq rfl rfl ?_
  refine ps_st (S' := (18, [(0, .ref pq), (1, .int (nI k)), (2, .int x2), (3, .int x3)], [.int (nI k), .ref q3], M)) rfl rfl rfl ?_
  refine ps_st (S' := (19, [(0, .ref pq), (1, .int (nI k)), (2, .int x2), (3, .int x3)], [.int x2, .int (nI k), .ref q3], M)) rfl rfl rfl ?_
  refine ps_ast rfl h_q3 (fun M1 i0_19 i1_19 h2 f3 z4 => ?_)
  have h5 := (f3 pq (ob_ar h_pq h_q3)).trans h_pq
  have h6 := (f3 q1 hD.1.2.1).trans h_q1
  have h7 := (f3 q4 (Ne.symm hD.2.2.1.1)).trans h_q4
  have hF8 := hF.up (by simp) f3 z4
  show pl _ _ _ (20, [(0, .ref pq), (1, .int (nI k)), (2, .int x2), (3, .int x3)], [], M1) _
  refine ps_st (S' := (21, [(0, .ref pq), (1, .int (nI k)), (2, .int x2), (3, .int x3)], [.ref pq], M1)) rfl rfl rfl ?_
  refine ps_get (S' := (24, [(0, .ref pq), (1, .int (nI k)), (2, .int x2), (3, .int x3)], [.ref q4], M1)) rfl h5 rfl rfl ?_
  refine ps_st (S' := (25, [(0, .ref pq), (1, .int (nI k)), (2, .int x2), (3, .int x3)], [.int (nI k), .ref q4], M1)) rfl rfl rfl ?_
  refine ps_st (S' := (26, [(0, .ref pq), (1, .int (nI k)), (2, .int x2), (3, .int x3)], [.int x3, .int (nI k), .ref q4], M1)) rfl rfl rfl ?_
  refine ps_ast rfl h7 (fun M9 i0_26 i1_26 h10 f11 z12 => ?_)
  have h13 := (f11 pq (ob_ar h5 h7)).trans h5
  have h14 := (f11 q1 hD.1.2.2.1).trans h6
  have h15 := (f11 q3 hD.2.2.1.1).trans h2
  have hF16 := hF8.up (by simp) f11 z12
  show pl _ _ _ (27, [], [], M9) _
  exact ps_ret rfl rfl (⟨rfl, by rw [h15, nI_toNat (by omega)], by rw [h10, nI_toNat (by omega)], hF16⟩)
set_option maxHeartbeats 1000000 in
theorem dx_addCharacter {g : xe_G} {M : mi_H} {pq q1 q2 q3 q4 q5 q6 m cc : Nat} {sz : Int32} {F6 : Nat → Int32} {x : Nat} (h_pq : M.1 pq = some (ob 7 [.int sz, .ref q1, .ref q2, .ref q3, .ref q4, .ref q5, .ref q6, .int (nI cc)])) (h_q6 : M.1 q6 = some (ar .char m F6)) (hm : m < 1073741824) (hx : x < 65536) (hc : cc < m) : pt (mT g) 111 [.ref pq, .int (nI x)] M (fun v M' => (v = none ∧ M'.1 pq = some (ob 7 [.int sz, .ref q1, .ref q2, .ref q3, .ref q4, .ref q5, .ref q6, .int (nI (cc + 1))]) ∧ M'.1 q6 = some (ar .char m (upd F6 cc (nI x))) ∧ fm [pq, q6] M M')) := by
  refine pt_in (b := mb_111 g) rfl (fun kf => ?_)
  show pl (mT g) kf (mb_111 g).2 (0, [(0, .ref pq), (1, .int (nI x))], [], M) _
  have hF : fm [pq, q6] M M := fm.rf
  refine ps_st (S' := (1, [(0, .ref pq), (1, .int (nI x))], [.ref pq], M)) rfl rfl rfl ?_
  refine ps_get (S' := (4, [(0, .ref pq), (1, .int (nI x))], [.int (nI cc)], M)) rfl h_pq rfl rfl ?_
  refine ps_st (S' := (5, [(0, .ref pq), (1, .int (nI x))], [.ref pq, .int (nI cc)], M)) rfl rfl rfl ?_
  refine ps_get (S' := (8, [(0, .ref pq), (1, .int (nI x))], [.ref q6, .int (nI cc)], M)) rfl h_pq rfl rfl ?_
  refine ps_alen (S' := (9, [(0, .ref pq), (1, .int (nI x))], [.int (nI m), .int (nI cc)], M)) rfl h_q6 rfl ?_
  refine ps_if2 (S1 := (33, [], [], M)) (S2 := (12, [(0, .ref pq), (1, .int (nI x))], [], M)) rfl rfl rfl (fun c_9 => ?_) (fun c_9 => ?_)
  · exact absurd (of_decide_eq_true c_9) (fun h9 => absurd ((le_nI (by omega) (by omega)).mp h9) (by omega))
  refine ps_st (S' := (13, [(0, .ref pq), (1, .int (nI x))], [.ref pq], M)) rfl rfl rfl ?_
  refine ps_get (S' := (16, [(0, .ref pq), (1, .int (nI x))], [.ref q6], M)) rfl h_pq rfl rfl ?_
  refine ps_st (S' := (17, [(0, .ref pq), (1, .int (nI x))], [.ref pq, .ref q6], M)) rfl rfl rfl ?_
  refine ps_get (S' := (20, [(0, .ref pq), (1, .int (nI x))], [.int (nI cc), .ref q6], M)) rfl h_pq rfl rfl ?_
  refine ps_st (S' := (21, [(0, .ref pq), (1, .int (nI x))], [.int (nI x), .int (nI cc), .ref q6], M)) rfl rfl rfl ?_
  refine ps_st (S' := (22, [(0, .ref pq), (1, .int (nI x))], [.int (((nI x).toUInt32 % 65536).toInt32), .int (nI cc), .ref q6], M)) rfl rfl rfl ?_
  refine ps_ast rfl h_q6 (fun M1 i0_22 i1_22 h2 f3 z4 => ?_)
  have h5 := (f3 pq (ob_ar h_pq h_q6)).trans h_pq
  have hF6 := hF.up (by simp) f3 z4
  show pl _ _ _ (23, [(0, .ref pq), (1, .int (nI x))], [], M1) _
  refine ps_st (S' := (24, [(0, .ref pq), (1, .int (nI x))], [.ref pq], M1)) rfl rfl rfl ?_
  refine ps_st (S' := (25, [(0, .ref pq), (1, .int (nI x))], [.ref pq, .ref pq], M1)) rfl rfl rfl ?_
  refine ps_get (S' := (28, [(0, .ref pq), (1, .int (nI x))], [.int (nI cc), .ref pq], M1)) rfl h5 rfl rfl ?_
  refine ps_st (S' := (29, [(0, .ref pq), (1, .int (nI x))], [.int 1, .int (nI cc), .ref pq], M1)) rfl rfl rfl ?_
  refine ps_st (S' := (30, [(0, .ref pq), (1, .int (nI x))], [.int ((nI cc) + 1), .ref pq], M1)) rfl rfl rfl ?_
  refine ps_put (l' := [.int sz, .ref q1, .ref q2, .ref q3, .ref q4, .ref q5, .ref q6, .int ((nI cc) + 1)]) rfl h5 rfl rfl (fun M7 h8 f9 z10 => ?_)
  have h11 := (f9 q6 (Ne.symm (ob_ar h5 h2))).trans h2
  have hF12 := hF6.up (by simp) f9 z10
  show pl _ _ _ (33, [], [], M7) _
  exact ps_ret rfl rfl (⟨rfl, by rw [h8, nI_plus (j := 1) rfl (by omega)], by rw [h11, nI_toNat (by omega), i2c_nI hx, nar_char hx], hF12⟩)
theorem dx_u1n {g : xe_G} {M : mi_H} {b da n p : Nat} {f : Nat → Int32} (h_b : M.1 b = some (ob 1 [.ref da])) (h_da : M.1 da = some (ar .byte n f)) (hn : n ≤ 65540) (hp : p < n) : pt (mT g) 48 [.ref b, .int (nI p)] M (fun v M' => (v = some (.int (nI (by1 f p))) ∧ fm [] M M')) := by
  have h := dx_u1 (x1 := nI p) (g := g) h_b h_da hn
  rw [u1_nI hn hp] at h
  exact h
theorem dx_goesOnn {g : xe_G} {M : mi_H} {b da n e q : Nat} {f : Nat → Int32} (h_b : M.1 b = some (ob 1 [.ref da])) (h_da : M.1 da = some (ar .byte n f)) (hn : n ≤ 65540) (he : e ≤ n) (hq : q < 1000000) : pt (mT g) 46 [.ref b, .int (nI q), .int (nI e)] M (fun v M' => ((q < e ∧ f q &&& 192 = 128) ∧ v = some (.int 1) ∧ fm [] M M') ∨ ((¬ (q < e ∧ f q &&& 192 = 128)) ∧ v = some (.int 0) ∧ fm [] M M')) := by
  refine (dx_goesOn (x1 := nI q) (x2 := nI e) (g := g) h_b h_da hn).mono (fun v M' h => ?_)
  obtain ⟨h1, h2⟩ := h
  rcases goesOn_nI (f := f) hn he hq with ⟨h3, h4⟩ | ⟨h3, h4⟩
  · exact Or.inl ⟨h3, by rw [h1, h4], h2⟩
  · exact Or.inr ⟨h3, by rw [h1, h4], h2⟩
set_option maxHeartbeats 1000000 in
theorem dx_characterSize {g : xe_G} {M : mi_H} {r c b vd da n p e : Nat} {f : Nat → Int32} {it : Int32} (h_r : M.1 r = some (ob 9 [.ref c, .ref b, .ref vd, .int (nI p), .int it])) (h_b : M.1 b = some (ob 1 [.ref da])) (h_da : M.1 da = some (ar .byte n f)) (hn : n ≤ 65540) (he : e ≤ n) (hp : p < e) : pt (mT g) 156 [.ref r, .int (nI e)] M (fun v M' => (v = some (.int (nI (u8k f e p))) ∧ fm [] M M')) := by
  refine pt_in (b := mb_156 g) rfl (fun kf => ?_)
  show pl (mT g) kf (mb_156 g).2 (0, [(0, .ref r), (1, .int (nI e))], [], M) _
  have hF : fm [] M M := fm.rf
  refine ps_st (S' := (1, [(0, .ref r), (1, .int (nI e))], [.ref r], M)) rfl rfl rfl ?_
  refine ps_get (S' := (4, [(0, .ref r), (1, .int (nI e))], [.ref b], M)) rfl h_r rfl rfl ?_
  refine ps_st (S' := (5, [(0, .ref r), (1, .int (nI e))], [.ref r, .ref b], M)) rfl rfl rfl ?_
  refine ps_get (S' := (8, [(0, .ref r), (1, .int (nI e))], [.int (nI p), .ref b], M)) rfl h_r rfl rfl ?_
  refine pl_call (a := [.ref b, .int (nI p)]) (rest := []) rfl rfl rfl (dx_u1n h_b h_da (hn) (by omega)) (fun v1 M2 q3 => ?_)
  obtain ⟨rfl, f4⟩ := q3
  have h6 := (f4.1 r (by simp)).trans h_r
  have h7 := (f4.1 b (by simp)).trans h_b
  have h8 := (f4.1 da (by simp)).trans h_da
  have hF9 := hF.tr f4 (by simp)
  show pl _ _ _ (11, [(0, .ref r), (1, .int (nI e))], [.int (nI (by1 f p))], M2) _
  refine ps_st (S' := (12, [(2, .int (nI (by1 f p))), (0, .ref r), (1, .int (nI e))], [], M2)) rfl rfl rfl ?_
  refine ps_st (S' := (13, [(2, .int (nI (by1 f p))), (0, .ref r), (1, .int (nI e))], [.int (nI (by1 f p))], M2)) rfl rfl rfl ?_
  refine ps_st (S' := (16, [(2, .int (nI (by1 f p))), (0, .ref r), (1, .int (nI e))], [.int 128, .int (nI (by1 f p))], M2)) rfl rfl rfl ?_
  refine ps_if2 (S1 := (29, [(2, .int (nI (by1 f p))), (0, .ref r), (1, .int (nI e))], [], M2)) (S2 := (19, [(2, .int (nI (by1 f p))), (0, .ref r), (1, .int (nI e))], [], M2)) rfl rfl rfl (fun c_16 => ?_) (fun c_16 => ?_)
  · have c_16 : 128 ≤ (nI (by1 f p)) := of_decide_eq_true c_16
    have n_16 : 128 ≤ by1 f p := (le_nI (p := 128) (n := by1 f p) (by decide) (Nat.lt_trans (by1_lt _ _) (by decide))).mp c_16
    refine ps_st (S' := (30, [(2, .int (nI (by1 f p))), (0, .ref r), (1, .int (nI e))], [.int (nI (by1 f p))], M2)) rfl rfl rfl ?_
    refine ps_st (S' := (33, [(2, .int (nI (by1 f p))), (0, .ref r), (1, .int (nI e))], [.int 192, .int (nI (by1 f p))], M2)) rfl rfl rfl ?_
    refine ps_if2 (S1 := (60, [], [], M2)) (S2 := (36, [(2, .int (nI (by1 f p))), (0, .ref r), (1, .int (nI e))], [], M2)) rfl rfl rfl (fun c_33 => ?_) (fun c_33 => ?_)
    · have c_33 : (nI (by1 f p)) < 192 := of_decide_eq_true c_33
      have n_33 : by1 f p < 192 := (lt_nI (p := by1 f p) (n := 192) (Nat.lt_trans (by1_lt _ _) (by decide)) (by decide)).mp c_33
      refine ps_st (S' := (61, [], [.int 0], M2)) rfl rfl rfl ?_
      exact ps_ret rfl rfl (⟨by
          have e9 : u8k f e p = 0 := by
            unfold u8k
            repeat' split
            all_goals first | rfl | (exfalso; omega) | (exfalso; simp_all; done) | (exfalso; simp_all; omega)
          rw [e9]; rfl, hF9⟩)
    · have c_33 : ¬ ((nI (by1 f p)) < 192) := of_decide_eq_false c_33
      have n_33 : ¬ (by1 f p < 192) := fun h9 => c_33 ((lt_nI (p := by1 f p) (n := 192) (Nat.lt_trans (by1_lt _ _) (by decide)) (by decide)).mpr h9)
      refine ps_st (S' := (37, [(2, .int (nI (by1 f p))), (0, .ref r), (1, .int (nI e))], [.int (nI (by1 f p))], M2)) rfl rfl rfl ?_
      refine ps_st (S' := (40, [(2, .int (nI (by1 f p))), (0, .ref r), (1, .int (nI e))], [.int 240, .int (nI (by1 f p))], M2)) rfl rfl rfl ?_
      refine ps_if2 (S1 := (60, [], [], M2)) (S2 := (43, [(2, .int (nI (by1 f p))), (0, .ref r), (1, .int (nI e))], [], M2)) rfl rfl rfl (fun c_40 => ?_) (fun c_40 => ?_)
      · have c_40 : 240 ≤ (nI (by1 f p)) := of_decide_eq_true c_40
        have n_40 : 240 ≤ by1 f p := (le_nI (p := 240) (n := by1 f p) (by decide) (Nat.lt_trans (by1_lt _ _) (by decide))).mp c_40
        refine ps_st (S' := (61, [], [.int 0], M2)) rfl rfl rfl ?_
        exact ps_ret rfl rfl (⟨by
            have e9 : u8k f e p = 0 := by
              unfold u8k
              repeat' split
              all_goals first | rfl | (exfalso; omega) | (exfalso; simp_all; done) | (exfalso; simp_all; omega)
            rw [e9]; rfl, hF9⟩)
      · have c_40 : ¬ (240 ≤ (nI (by1 f p))) := of_decide_eq_false c_40
        have n_40 : ¬ (240 ≤ by1 f p) := fun h9 => c_40 ((le_nI (p := 240) (n := by1 f p) (by decide) (Nat.lt_trans (by1_lt _ _) (by decide))).mpr h9)
        refine ps_st (S' := (44, [(2, .int (nI (by1 f p))), (0, .ref r), (1, .int (nI e))], [.ref r], M2)) rfl rfl rfl ?_
        refine ps_get (S' := (47, [(2, .int (nI (by1 f p))), (0, .ref r), (1, .int (nI e))], [.ref b], M2)) rfl h6 rfl rfl ?_
        refine ps_st (S' := (48, [(2, .int (nI (by1 f p))), (0, .ref r), (1, .int (nI e))], [.ref r, .ref b], M2)) rfl rfl rfl ?_
        refine ps_get (S' := (51, [(2, .int (nI (by1 f p))), (0, .ref r), (1, .int (nI e))], [.int (nI p), .ref b], M2)) rfl h6 rfl rfl ?_
        refine ps_st (S' := (52, [(2, .int (nI (by1 f p))), (0, .ref r), (1, .int (nI e))], [.int 1, .int (nI p), .ref b], M2)) rfl rfl rfl ?_
        refine ps_st (S' := (53, [(2, .int (nI (by1 f p))), (0, .ref r), (1, .int (nI e))], [.int ((nI p) + 1), .ref b], M2)) rfl rfl rfl ?_
        rw [nI_add1 (p := p) (k := 1) (x := 1) rfl (by omega)]
        show pl _ _ _ (_, [(2, .int (nI (by1 f p))), (0, .ref r), (1, .int (nI e))], [.int (nI (p + 1)), .ref b], M2) _
        refine ps_st (S' := (54, [(2, .int (nI (by1 f p))), (0, .ref r), (1, .int (nI e))], [.int (nI e), .int (nI (p + 1)), .ref b], M2)) rfl rfl rfl ?_
        refine pl_call (a := [.ref b, .int (nI (p + 1)), .int (nI e)]) (rest := []) rfl rfl rfl (dx_goesOnn h7 h8 (hn) (by omega) (by omega)) (fun v10 M11 q12 => ?_)
        rcases q12 with q12 | q12
        · skip
          obtain ⟨q54_y, rfl, f13⟩ := q12
          have h15 := (f13.1 r (by simp)).trans h6
          have h16 := (f13.1 b (by simp)).trans h7
          have h17 := (f13.1 da (by simp)).trans h8
          have hF18 := hF9.tr f13 (by simp)
          show pl _ _ _ (57, [(2, .int (nI (by1 f p))), (0, .ref r), (1, .int (nI e))], [.int 1], M11) _
          refine ps_if (S1 := (62, [(2, .int (nI (by1 f p))), (0, .ref r), (1, .int (nI e))], [], M11)) (S2 := (60, [], [], M11)) rfl rfl rfl (fun c_57 => ?_) (fun c_57 => ?_)
          rotate_left
          · exact absurd (by decide) (of_decide_eq_false c_57)
          refine ps_st (S' := (63, [(2, .int (nI (by1 f p))), (0, .ref r), (1, .int (nI e))], [.int (nI (by1 f p))], M11)) rfl rfl rfl ?_
          refine ps_st (S' := (66, [(2, .int (nI (by1 f p))), (0, .ref r), (1, .int (nI e))], [.int 224, .int (nI (by1 f p))], M11)) rfl rfl rfl ?_
          refine ps_if2 (S1 := (71, [(2, .int (nI (by1 f p))), (0, .ref r), (1, .int (nI e))], [], M11)) (S2 := (69, [(2, .int (nI (by1 f p))), (0, .ref r), (1, .int (nI e))], [], M11)) rfl rfl rfl (fun c_66 => ?_) (fun c_66 => ?_)
          · have c_66 : 224 ≤ (nI (by1 f p)) := of_decide_eq_true c_66
            have n_66 : 224 ≤ by1 f p := (le_nI (p := 224) (n := by1 f p) (by decide) (Nat.lt_trans (by1_lt _ _) (by decide))).mp c_66
            refine ps_st (S' := (72, [(2, .int (nI (by1 f p))), (0, .ref r), (1, .int (nI e))], [.ref r], M11)) rfl rfl rfl ?_
            refine ps_get (S' := (75, [(2, .int (nI (by1 f p))), (0, .ref r), (1, .int (nI e))], [.ref b], M11)) rfl h15 rfl rfl ?_
            refine ps_st (S' := (76, [(2, .int (nI (by1 f p))), (0, .ref r), (1, .int (nI e))], [.ref r, .ref b], M11)) rfl rfl rfl ?_
            refine ps_get (S' := (79, [(2, .int (nI (by1 f p))), (0, .ref r), (1, .int (nI e))], [.int (nI p), .ref b], M11)) rfl h15 rfl rfl ?_
            refine ps_st (S' := (80, [(2, .int (nI (by1 f p))), (0, .ref r), (1, .int (nI e))], [.int 2, .int (nI p), .ref b], M11)) rfl rfl rfl ?_
            refine ps_st (S' := (81, [(2, .int (nI (by1 f p))), (0, .ref r), (1, .int (nI e))], [.int ((nI p) + 2), .ref b], M11)) rfl rfl rfl ?_
            rw [nI_add1 (p := p) (k := 2) (x := 2) rfl (by omega)]
            show pl _ _ _ (_, [(2, .int (nI (by1 f p))), (0, .ref r), (1, .int (nI e))], [.int (nI (p + 2)), .ref b], M11) _
            refine ps_st (S' := (82, [(2, .int (nI (by1 f p))), (0, .ref r), (1, .int (nI e))], [.int (nI e), .int (nI (p + 2)), .ref b], M11)) rfl rfl rfl ?_
            refine pl_call (a := [.ref b, .int (nI (p + 2)), .int (nI e)]) (rest := []) rfl rfl rfl (dx_goesOnn h16 h17 (hn) (by omega) (by omega)) (fun v19 M20 q21 => ?_)
            rcases q21 with q21 | q21
            · skip
              obtain ⟨q82_y, rfl, f22⟩ := q21
              have h24 := (f22.1 r (by simp)).trans h15
              have h25 := (f22.1 b (by simp)).trans h16
              have h26 := (f22.1 da (by simp)).trans h17
              have hF27 := hF18.tr f22 (by simp)
              show pl _ _ _ (85, [(2, .int (nI (by1 f p))), (0, .ref r), (1, .int (nI e))], [.int 1], M20) _
              refine ps_if (S1 := (92, [(2, .int (nI (by1 f p))), (0, .ref r), (1, .int (nI e))], [], M20)) (S2 := (88, [(2, .int (nI (by1 f p))), (0, .ref r), (1, .int (nI e))], [], M20)) rfl rfl rfl (fun c_85 => ?_) (fun c_85 => ?_)
              · exact absurd (of_decide_eq_true c_85) (by decide)
              refine ps_st (S' := (89, [(2, .int (nI (by1 f p))), (0, .ref r), (1, .int (nI e))], [.int 3], M20)) rfl rfl rfl ?_
              refine ps_st (S' := (93, [], [.int 3], M20)) rfl rfl rfl ?_
              exact ps_ret rfl rfl (⟨by
                  have e9 : u8k f e p = 3 := by
                    unfold u8k
                    repeat' split
                    all_goals first | rfl | (exfalso; omega) | (exfalso; simp_all; done) | (exfalso; simp_all; omega)
                  rw [e9]; rfl, hF27⟩)
            · skip
              obtain ⟨q82_n, rfl, f28⟩ := q21
              have h30 := (f28.1 r (by simp)).trans h15
              have h31 := (f28.1 b (by simp)).trans h16
              have h32 := (f28.1 da (by simp)).trans h17
              have hF33 := hF18.tr f28 (by simp)
              show pl _ _ _ (85, [(2, .int (nI (by1 f p))), (0, .ref r), (1, .int (nI e))], [.int 0], M20) _
              refine ps_if (S1 := (92, [(2, .int (nI (by1 f p))), (0, .ref r), (1, .int (nI e))], [], M20)) (S2 := (88, [(2, .int (nI (by1 f p))), (0, .ref r), (1, .int (nI e))], [], M20)) rfl rfl rfl (fun c_85 => ?_) (fun c_85 => ?_)
              rotate_left
              · exact absurd (by decide) (of_decide_eq_false c_85)
              refine ps_st (S' := (93, [], [.int 0], M20)) rfl rfl rfl ?_
              exact ps_ret rfl rfl (⟨by
                  have e9 : u8k f e p = 0 := by
                    unfold u8k
                    repeat' split
                    all_goals first | rfl | (exfalso; omega) | (exfalso; simp_all; done) | (exfalso; simp_all; omega)
                  rw [e9]; rfl, hF33⟩)
          · have c_66 : ¬ (224 ≤ (nI (by1 f p))) := of_decide_eq_false c_66
            have n_66 : ¬ (224 ≤ by1 f p) := fun h9 => c_66 ((le_nI (p := 224) (n := by1 f p) (by decide) (Nat.lt_trans (by1_lt _ _) (by decide))).mpr h9)
            refine ps_st (S' := (70, [(2, .int (nI (by1 f p))), (0, .ref r), (1, .int (nI e))], [.int 2], M11)) rfl rfl rfl ?_
            exact ps_ret rfl rfl (⟨by
                have e9 : u8k f e p = 2 := by
                  unfold u8k
                  repeat' split
                  all_goals first | rfl | (exfalso; omega) | (exfalso; simp_all; done) | (exfalso; simp_all; omega)
                rw [e9]; rfl, hF18⟩)
        · skip
          obtain ⟨q54_n, rfl, f34⟩ := q12
          have h36 := (f34.1 r (by simp)).trans h6
          have h37 := (f34.1 b (by simp)).trans h7
          have h38 := (f34.1 da (by simp)).trans h8
          have hF39 := hF9.tr f34 (by simp)
          show pl _ _ _ (57, [(2, .int (nI (by1 f p))), (0, .ref r), (1, .int (nI e))], [.int 0], M11) _
          refine ps_if (S1 := (62, [(2, .int (nI (by1 f p))), (0, .ref r), (1, .int (nI e))], [], M11)) (S2 := (60, [], [], M11)) rfl rfl rfl (fun c_57 => ?_) (fun c_57 => ?_)
          · exact absurd (of_decide_eq_true c_57) (by decide)
          refine ps_st (S' := (61, [], [.int 0], M11)) rfl rfl rfl ?_
          exact ps_ret rfl rfl (⟨by
              have e9 : u8k f e p = 0 := by
                unfold u8k
                repeat' split
                all_goals first | rfl | (exfalso; omega) | (exfalso; simp_all; done) | (exfalso; simp_all; omega)
              rw [e9]; rfl, hF39⟩)
  · have c_16 : ¬ (128 ≤ (nI (by1 f p))) := of_decide_eq_false c_16
    have n_16 : ¬ (128 ≤ by1 f p) := fun h9 => c_16 ((le_nI (p := 128) (n := by1 f p) (by decide) (Nat.lt_trans (by1_lt _ _) (by decide))).mpr h9)
    refine ps_st (S' := (20, [(2, .int (nI (by1 f p))), (0, .ref r), (1, .int (nI e))], [.int (nI (by1 f p))], M2)) rfl rfl rfl ?_
    refine ps_if (S1 := (27, [(2, .int (nI (by1 f p))), (0, .ref r), (1, .int (nI e))], [], M2)) (S2 := (23, [(2, .int (nI (by1 f p))), (0, .ref r), (1, .int (nI e))], [], M2)) rfl rfl rfl (fun c_20 => ?_) (fun c_20 => ?_)
    · have c_20 : ¬ (nI (by1 f p)) = 0 := of_decide_eq_true c_20
      have n_20 : ¬ (by1 f p = 0) := fun h9 => c_20 ((eq_nI (p := by1 f p) (n := 0) (Nat.lt_trans (by1_lt _ _) (by decide)) (by decide)).mpr h9)
      refine ps_st (S' := (28, [], [.int 1], M2)) rfl rfl rfl ?_
      exact ps_ret rfl rfl (⟨by
          have e9 : u8k f e p = 1 := by
            unfold u8k
            repeat' split
            all_goals first | rfl | (exfalso; omega) | (exfalso; simp_all; done) | (exfalso; simp_all; omega)
          rw [e9]; rfl, hF9⟩)
    · have c_20 : ¬ (¬ (nI (by1 f p)) = 0) := of_decide_eq_false c_20
      have n_20 : by1 f p = 0 := (eq_nI (p := by1 f p) (n := 0) (Nat.lt_trans (by1_lt _ _) (by decide)) (by decide)).mp (Decidable.not_not.mp c_20)
      refine ps_st (S' := (24, [(2, .int (nI (by1 f p))), (0, .ref r), (1, .int (nI e))], [.int 0], M2)) rfl rfl rfl ?_
      refine ps_st (S' := (28, [], [.int 0], M2)) rfl rfl rfl ?_
      exact ps_ret rfl rfl (⟨by
          have e9 : u8k f e p = 0 := by
            unfold u8k
            repeat' split
            all_goals first | rfl | (exfalso; omega) | (exfalso; simp_all; done) | (exfalso; simp_all; omega)
          rw [e9]; rfl, hF9⟩)
set_option maxHeartbeats 1000000 in
theorem dx_characterOf {g : xe_G} {M : mi_H} {r c b vd da n p k : Nat} {f : Nat → Int32} {it : Int32} (h_r : M.1 r = some (ob 9 [.ref c, .ref b, .ref vd, .int (nI p), .int it])) (h_b : M.1 b = some (ob 1 [.ref da])) (h_da : M.1 da = some (ar .byte n f)) (hn : n ≤ 65540) (hk : 1 ≤ k ∧ k ≤ 3) (hp : p + k ≤ n) : pt (mT g) 155 [.ref r, .int (nI k)] M (fun v M' => (v = some (.int (nI (u8n f p k))) ∧ fm [] M M')) := by
  refine pt_in (b := mb_155 g) rfl (fun kf => ?_)
  show pl (mT g) kf (mb_155 g).2 (0, [(0, .ref r), (1, .int (nI k))], [], M) _
  have hF : fm [] M M := fm.rf
  refine ps_st (S' := (1, [(0, .ref r), (1, .int (nI k))], [.ref r], M)) rfl rfl rfl ?_
  refine ps_get (S' := (4, [(0, .ref r), (1, .int (nI k))], [.ref b], M)) rfl h_r rfl rfl ?_
  refine ps_st (S' := (5, [(0, .ref r), (1, .int (nI k))], [.ref r, .ref b], M)) rfl rfl rfl ?_
  refine ps_get (S' := (8, [(0, .ref r), (1, .int (nI k))], [.int (nI p), .ref b], M)) rfl h_r rfl rfl ?_
  refine pl_call (a := [.ref b, .int (nI p)]) (rest := []) rfl rfl rfl (dx_u1n h_b h_da (hn) (by omega)) (fun v1 M2 q3 => ?_)
  obtain ⟨rfl, f4⟩ := q3
  have h6 := (f4.1 r (by simp)).trans h_r
  have h7 := (f4.1 b (by simp)).trans h_b
  have h8 := (f4.1 da (by simp)).trans h_da
  have hF9 := hF.tr f4 (by simp)
  show pl _ _ _ (11, [(0, .ref r), (1, .int (nI k))], [.int (nI (by1 f p))], M2) _
  refine ps_st (S' := (12, [(2, .int (nI (by1 f p))), (0, .ref r), (1, .int (nI k))], [], M2)) rfl rfl rfl ?_
  refine ps_st (S' := (13, [(2, .int (nI (by1 f p))), (0, .ref r), (1, .int (nI k))], [.int (nI k)], M2)) rfl rfl rfl ?_
  refine ps_st (S' := (14, [(2, .int (nI (by1 f p))), (0, .ref r), (1, .int (nI k))], [.int 1, .int (nI k)], M2)) rfl rfl rfl ?_
  refine ps_if2 (S1 := (19, [(2, .int (nI (by1 f p))), (0, .ref r), (1, .int (nI k))], [], M2)) (S2 := (17, [(2, .int (nI (by1 f p))), (0, .ref r), (1, .int (nI k))], [], M2)) rfl rfl rfl (fun c_14 => ?_) (fun c_14 => ?_)
  · have c_14 : ¬ (nI k) = 1 := of_decide_eq_true c_14
    have n_14 : ¬ (k = 1) := fun h9 => c_14 ((eq_nI (p := k) (n := 1) (by omega) (by decide)).mpr h9)
    refine ps_st (S' := (20, [(2, .int (nI (by1 f p))), (0, .ref r), (1, .int (nI k))], [.int (nI k)], M2)) rfl rfl rfl ?_
    refine ps_st (S' := (21, [(2, .int (nI (by1 f p))), (0, .ref r), (1, .int (nI k))], [.int 2, .int (nI k)], M2)) rfl rfl rfl ?_
    refine ps_if2 (S1 := (49, [(2, .int (nI (by1 f p))), (0, .ref r), (1, .int (nI k))], [], M2)) (S2 := (24, [(2, .int (nI (by1 f p))), (0, .ref r), (1, .int (nI k))], [], M2)) rfl rfl rfl (fun c_21 => ?_) (fun c_21 => ?_)
    · have c_21 : ¬ (nI k) = 2 := of_decide_eq_true c_21
      have n_21 : ¬ (k = 2) := fun h9 => c_21 ((eq_nI (p := k) (n := 2) (by omega) (by decide)).mpr h9)
      refine ps_st (S' := (50, [(2, .int (nI (by1 f p))), (0, .ref r), (1, .int (nI k))], [.int (nI (by1 f p))], M2)) rfl rfl rfl ?_
      refine ps_st (S' := (52, [(2, .int (nI (by1 f p))), (0, .ref r), (1, .int (nI k))], [.int 15, .int (nI (by1 f p))], M2)) rfl rfl rfl ?_
      refine ps_st (S' := (53, [(2, .int (nI (by1 f p))), (0, .ref r), (1, .int (nI k))], [.int ((nI (by1 f p)) &&& 15)], M2)) rfl rfl rfl ?_
      refine ps_st (S' := (55, [(2, .int (nI (by1 f p))), (0, .ref r), (1, .int (nI k))], [.int 12, .int ((nI (by1 f p)) &&& 15)], M2)) rfl rfl rfl ?_
      refine ps_st (S' := (56, [(2, .int (nI (by1 f p))), (0, .ref r), (1, .int (nI k))], [.int (((nI (by1 f p)) &&& 15) <<< (12 &&& 31))], M2)) rfl rfl rfl ?_
      refine ps_st (S' := (57, [(2, .int (nI (by1 f p))), (0, .ref r), (1, .int (nI k))], [.ref r, .int (((nI (by1 f p)) &&& 15) <<< (12 &&& 31))], M2)) rfl rfl rfl ?_
      refine ps_get (S' := (60, [(2, .int (nI (by1 f p))), (0, .ref r), (1, .int (nI k))], [.ref b, .int (((nI (by1 f p)) &&& 15) <<< (12 &&& 31))], M2)) rfl h6 rfl rfl ?_
      refine ps_st (S' := (61, [(2, .int (nI (by1 f p))), (0, .ref r), (1, .int (nI k))], [.ref r, .ref b, .int (((nI (by1 f p)) &&& 15) <<< (12 &&& 31))], M2)) rfl rfl rfl ?_
      refine ps_get (S' := (64, [(2, .int (nI (by1 f p))), (0, .ref r), (1, .int (nI k))], [.int (nI p), .ref b, .int (((nI (by1 f p)) &&& 15) <<< (12 &&& 31))], M2)) rfl h6 rfl rfl ?_
      refine ps_st (S' := (65, [(2, .int (nI (by1 f p))), (0, .ref r), (1, .int (nI k))], [.int 1, .int (nI p), .ref b, .int (((nI (by1 f p)) &&& 15) <<< (12 &&& 31))], M2)) rfl rfl rfl ?_
      refine ps_st (S' := (66, [(2, .int (nI (by1 f p))), (0, .ref r), (1, .int (nI k))], [.int ((nI p) + 1), .ref b, .int (((nI (by1 f p)) &&& 15) <<< (12 &&& 31))], M2)) rfl rfl rfl ?_
      rw [nI_add1 (p := p) (k := 1) (x := 1) rfl (by omega)]
      show pl _ _ _ (_, [(2, .int (nI (by1 f p))), (0, .ref r), (1, .int (nI k))], [.int (nI (p + 1)), .ref b, .int (((nI (by1 f p)) &&& 15) <<< (12 &&& 31))], M2) _
      refine pl_call (a := [.ref b, .int (nI (p + 1))]) (rest := [.int (((nI (by1 f p)) &&& 15) <<< (12 &&& 31))]) rfl rfl rfl (dx_u1n h7 h8 (hn) (by omega)) (fun v10 M11 q12 => ?_)
      obtain ⟨rfl, f13⟩ := q12
      have h15 := (f13.1 r (by simp)).trans h6
      have h16 := (f13.1 b (by simp)).trans h7
      have h17 := (f13.1 da (by simp)).trans h8
      have hF18 := hF9.tr f13 (by simp)
      show pl _ _ _ (69, [(2, .int (nI (by1 f p))), (0, .ref r), (1, .int (nI k))], [.int (nI (by1 f (p + 1))), .int (((nI (by1 f p)) &&& 15) <<< (12 &&& 31))], M11) _
      refine ps_st (S' := (71, [(2, .int (nI (by1 f p))), (0, .ref r), (1, .int (nI k))], [.int 63, .int (nI (by1 f (p + 1))), .int (((nI (by1 f p)) &&& 15) <<< (12 &&& 31))], M11)) rfl rfl rfl ?_
      refine ps_st (S' := (72, [(2, .int (nI (by1 f p))), (0, .ref r), (1, .int (nI k))], [.int ((nI (by1 f (p + 1))) &&& 63), .int (((nI (by1 f p)) &&& 15) <<< (12 &&& 31))], M11)) rfl rfl rfl ?_
      refine ps_st (S' := (74, [(2, .int (nI (by1 f p))), (0, .ref r), (1, .int (nI k))], [.int 6, .int ((nI (by1 f (p + 1))) &&& 63), .int (((nI (by1 f p)) &&& 15) <<< (12 &&& 31))], M11)) rfl rfl rfl ?_
      refine ps_st (S' := (75, [(2, .int (nI (by1 f p))), (0, .ref r), (1, .int (nI k))], [.int (((nI (by1 f (p + 1))) &&& 63) <<< (6 &&& 31)), .int (((nI (by1 f p)) &&& 15) <<< (12 &&& 31))], M11)) rfl rfl rfl ?_
      refine ps_st (S' := (76, [(2, .int (nI (by1 f p))), (0, .ref r), (1, .int (nI k))], [.int ((((nI (by1 f p)) &&& 15) <<< (12 &&& 31)) ||| (((nI (by1 f (p + 1))) &&& 63) <<< (6 &&& 31)))], M11)) rfl rfl rfl ?_
      refine ps_st (S' := (77, [(2, .int (nI (by1 f p))), (0, .ref r), (1, .int (nI k))], [.ref r, .int ((((nI (by1 f p)) &&& 15) <<< (12 &&& 31)) ||| (((nI (by1 f (p + 1))) &&& 63) <<< (6 &&& 31)))], M11)) rfl rfl rfl ?_
      refine ps_get (S' := (80, [(2, .int (nI (by1 f p))), (0, .ref r), (1, .int (nI k))], [.ref b, .int ((((nI (by1 f p)) &&& 15) <<< (12 &&& 31)) ||| (((nI (by1 f (p + 1))) &&& 63) <<< (6 &&& 31)))], M11)) rfl h15 rfl rfl ?_
      refine ps_st (S' := (81, [(2, .int (nI (by1 f p))), (0, .ref r), (1, .int (nI k))], [.ref r, .ref b, .int ((((nI (by1 f p)) &&& 15) <<< (12 &&& 31)) ||| (((nI (by1 f (p + 1))) &&& 63) <<< (6 &&& 31)))], M11)) rfl rfl rfl ?_
      refine ps_get (S' := (84, [(2, .int (nI (by1 f p))), (0, .ref r), (1, .int (nI k))], [.int (nI p), .ref b, .int ((((nI (by1 f p)) &&& 15) <<< (12 &&& 31)) ||| (((nI (by1 f (p + 1))) &&& 63) <<< (6 &&& 31)))], M11)) rfl h15 rfl rfl ?_
      refine ps_st (S' := (85, [(2, .int (nI (by1 f p))), (0, .ref r), (1, .int (nI k))], [.int 2, .int (nI p), .ref b, .int ((((nI (by1 f p)) &&& 15) <<< (12 &&& 31)) ||| (((nI (by1 f (p + 1))) &&& 63) <<< (6 &&& 31)))], M11)) rfl rfl rfl ?_
      refine ps_st (S' := (86, [(2, .int (nI (by1 f p))), (0, .ref r), (1, .int (nI k))], [.int ((nI p) + 2), .ref b, .int ((((nI (by1 f p)) &&& 15) <<< (12 &&& 31)) ||| (((nI (by1 f (p + 1))) &&& 63) <<< (6 &&& 31)))], M11)) rfl rfl rfl ?_
      rw [nI_add1 (p := p) (k := 2) (x := 2) rfl (by omega)]
      show pl _ _ _ (_, [(2, .int (nI (by1 f p))), (0, .ref r), (1, .int (nI k))], [.int (nI (p + 2)), .ref b, .int ((((nI (by1 f p)) &&& 15) <<< (12 &&& 31)) ||| (((nI (by1 f (p + 1))) &&& 63) <<< (6 &&& 31)))], M11) _
      refine pl_call (a := [.ref b, .int (nI (p + 2))]) (rest := [.int ((((nI (by1 f p)) &&& 15) <<< (12 &&& 31)) ||| (((nI (by1 f (p + 1))) &&& 63) <<< (6 &&& 31)))]) rfl rfl rfl (dx_u1n h16 h17 (hn) (by omega)) (fun v19 M20 q21 => ?_)
      obtain ⟨rfl, f22⟩ := q21
      have h24 := (f22.1 r (by simp)).trans h15
      have h25 := (f22.1 b (by simp)).trans h16
      have h26 := (f22.1 da (by simp)).trans h17
      have hF27 := hF18.tr f22 (by simp)
      show pl _ _ _ (89, [(2, .int (nI (by1 f p))), (0, .ref r), (1, .int (nI k))], [.int (nI (by1 f (p + 2))), .int ((((nI (by1 f p)) &&& 15) <<< (12 &&& 31)) ||| (((nI (by1 f (p + 1))) &&& 63) <<< (6 &&& 31)))], M20) _
      refine ps_st (S' := (91, [(2, .int (nI (by1 f p))), (0, .ref r), (1, .int (nI k))], [.int 63, .int (nI (by1 f (p + 2))), .int ((((nI (by1 f p)) &&& 15) <<< (12 &&& 31)) ||| (((nI (by1 f (p + 1))) &&& 63) <<< (6 &&& 31)))], M20)) rfl rfl rfl ?_
      refine ps_st (S' := (92, [(2, .int (nI (by1 f p))), (0, .ref r), (1, .int (nI k))], [.int ((nI (by1 f (p + 2))) &&& 63), .int ((((nI (by1 f p)) &&& 15) <<< (12 &&& 31)) ||| (((nI (by1 f (p + 1))) &&& 63) <<< (6 &&& 31)))], M20)) rfl rfl rfl ?_
      refine ps_st (S' := (93, [(2, .int (nI (by1 f p))), (0, .ref r), (1, .int (nI k))], [.int (((((nI (by1 f p)) &&& 15) <<< (12 &&& 31)) ||| (((nI (by1 f (p + 1))) &&& 63) <<< (6 &&& 31))) ||| ((nI (by1 f (p + 2))) &&& 63))], M20)) rfl rfl rfl ?_
      exact ps_ret rfl rfl (⟨by
          rw [← (u8n_eq f p k).1]
          unfold u8c
          rw [if_neg (by omega), if_neg (by omega)], hF27⟩)
    · have c_21 : ¬ (¬ (nI k) = 2) := of_decide_eq_false c_21
      have n_21 : k = 2 := (eq_nI (p := k) (n := 2) (by omega) (by decide)).mp (Decidable.not_not.mp c_21)
      refine ps_st (S' := (25, [(2, .int (nI (by1 f p))), (0, .ref r), (1, .int (nI k))], [.int (nI (by1 f p))], M2)) rfl rfl rfl ?_
      refine ps_st (S' := (27, [(2, .int (nI (by1 f p))), (0, .ref r), (1, .int (nI k))], [.int 31, .int (nI (by1 f p))], M2)) rfl rfl rfl ?_
      refine ps_st (S' := (28, [(2, .int (nI (by1 f p))), (0, .ref r), (1, .int (nI k))], [.int ((nI (by1 f p)) &&& 31)], M2)) rfl rfl rfl ?_
      refine ps_st (S' := (30, [(2, .int (nI (by1 f p))), (0, .ref r), (1, .int (nI k))], [.int 6, .int ((nI (by1 f p)) &&& 31)], M2)) rfl rfl rfl ?_
      refine ps_st (S' := (31, [(2, .int (nI (by1 f p))), (0, .ref r), (1, .int (nI k))], [.int (((nI (by1 f p)) &&& 31) <<< (6 &&& 31))], M2)) rfl rfl rfl ?_
      refine ps_st (S' := (32, [(2, .int (nI (by1 f p))), (0, .ref r), (1, .int (nI k))], [.ref r, .int (((nI (by1 f p)) &&& 31) <<< (6 &&& 31))], M2)) rfl rfl rfl ?_
      refine ps_get (S' := (35, [(2, .int (nI (by1 f p))), (0, .ref r), (1, .int (nI k))], [.ref b, .int (((nI (by1 f p)) &&& 31) <<< (6 &&& 31))], M2)) rfl h6 rfl rfl ?_
      refine ps_st (S' := (36, [(2, .int (nI (by1 f p))), (0, .ref r), (1, .int (nI k))], [.ref r, .ref b, .int (((nI (by1 f p)) &&& 31) <<< (6 &&& 31))], M2)) rfl rfl rfl ?_
      refine ps_get (S' := (39, [(2, .int (nI (by1 f p))), (0, .ref r), (1, .int (nI k))], [.int (nI p), .ref b, .int (((nI (by1 f p)) &&& 31) <<< (6 &&& 31))], M2)) rfl h6 rfl rfl ?_
      refine ps_st (S' := (40, [(2, .int (nI (by1 f p))), (0, .ref r), (1, .int (nI k))], [.int 1, .int (nI p), .ref b, .int (((nI (by1 f p)) &&& 31) <<< (6 &&& 31))], M2)) rfl rfl rfl ?_
      refine ps_st (S' := (41, [(2, .int (nI (by1 f p))), (0, .ref r), (1, .int (nI k))], [.int ((nI p) + 1), .ref b, .int (((nI (by1 f p)) &&& 31) <<< (6 &&& 31))], M2)) rfl rfl rfl ?_
      rw [nI_add1 (p := p) (k := 1) (x := 1) rfl (by omega)]
      show pl _ _ _ (_, [(2, .int (nI (by1 f p))), (0, .ref r), (1, .int (nI k))], [.int (nI (p + 1)), .ref b, .int (((nI (by1 f p)) &&& 31) <<< (6 &&& 31))], M2) _
      refine pl_call (a := [.ref b, .int (nI (p + 1))]) (rest := [.int (((nI (by1 f p)) &&& 31) <<< (6 &&& 31))]) rfl rfl rfl (dx_u1n h7 h8 (hn) (by omega)) (fun v28 M29 q30 => ?_)
      obtain ⟨rfl, f31⟩ := q30
      have h33 := (f31.1 r (by simp)).trans h6
      have h34 := (f31.1 b (by simp)).trans h7
      have h35 := (f31.1 da (by simp)).trans h8
      have hF36 := hF9.tr f31 (by simp)
      show pl _ _ _ (44, [(2, .int (nI (by1 f p))), (0, .ref r), (1, .int (nI k))], [.int (nI (by1 f (p + 1))), .int (((nI (by1 f p)) &&& 31) <<< (6 &&& 31))], M29) _
      refine ps_st (S' := (46, [(2, .int (nI (by1 f p))), (0, .ref r), (1, .int (nI k))], [.int 63, .int (nI (by1 f (p + 1))), .int (((nI (by1 f p)) &&& 31) <<< (6 &&& 31))], M29)) rfl rfl rfl ?_
      refine ps_st (S' := (47, [(2, .int (nI (by1 f p))), (0, .ref r), (1, .int (nI k))], [.int ((nI (by1 f (p + 1))) &&& 63), .int (((nI (by1 f p)) &&& 31) <<< (6 &&& 31))], M29)) rfl rfl rfl ?_
      refine ps_st (S' := (48, [(2, .int (nI (by1 f p))), (0, .ref r), (1, .int (nI k))], [.int ((((nI (by1 f p)) &&& 31) <<< (6 &&& 31)) ||| ((nI (by1 f (p + 1))) &&& 63))], M29)) rfl rfl rfl ?_
      exact ps_ret rfl rfl (⟨by
          rw [← (u8n_eq f p k).1]
          unfold u8c
          rw [if_neg (by omega), if_pos (by omega)], hF36⟩)
  · have c_14 : ¬ (¬ (nI k) = 1) := of_decide_eq_false c_14
    have n_14 : k = 1 := (eq_nI (p := k) (n := 1) (by omega) (by decide)).mp (Decidable.not_not.mp c_14)
    refine ps_st (S' := (18, [(2, .int (nI (by1 f p))), (0, .ref r), (1, .int (nI k))], [.int (nI (by1 f p))], M2)) rfl rfl rfl ?_
    exact ps_ret rfl rfl (⟨by
        rw [← (u8n_eq f p k).1]
        unfold u8c
        rw [if_pos (by omega)], hF9⟩)
theorem lsub {c x : Nat} (h : c + x < 1073741824) : nI (c + x) - nI c = nI x := by
  apply Int32.toInt_inj.mp
  rw [Int32.toInt_sub, nI_val (by omega), nI_val (by omega), nI_val (by omega)]
  rw [Int.bmod_eq_of_le (by omega) (by omega)]
  omega
set_option maxHeartbeats 1000000 in
theorem dx_takesText {g : xe_G} {M : mi_H} {r c b vd da n p : Nat} {f : Nat → Int32} {it ru wa mi ma fa ic ac aa k1 k2 k3 k4 k5 k6 k7 : Int32} {u6 u7 : Value} {pq q1 q2 q3 q4 q5 q6 hd m cc : Nat} {sz : Int32} {F1 F3 F4 F6 : Nat → Int32} {k : Nat} (h_r : M.1 r = some (ob 9 [.ref c, .ref b, .ref vd, .int (nI p), .int it])) (h_b : M.1 b = some (ob 1 [.ref da])) (h_da : M.1 da = some (ar .byte n f)) (h_vd : M.1 vd = some (ob 10 [.int ru, .int wa])) (h_c : M.1 c = some (ob 3 [.ref b, .ref pq, .int mi, .int ma, .int fa, .int ic, u6, u7, .int ac, .int aa, .int k1, .int k2, .int k3, .int k4, .int k5, .int k6, .int k7])) (h_pq : M.1 pq = some (ob 7 [.int sz, .ref q1, .ref q2, .ref q3, .ref q4, .ref q5, .ref q6, .int (nI cc)])) (h_q1 : M.1 q1 = some (ar .int hd F1)) (h_q3 : M.1 q3 = some (ar .int hd F3)) (h_q4 : M.1 q4 = some (ar .int hd F4)) (h_q6 : M.1 q6 = some (ar .char m F6)) (hn : n ≤ 65540) (hp : p ≤ n) (hD : dst5 q1 q2 q3 q4 q5) (hh : hd < 1073741824) (hm : m = n) (hk : k < hd) (hc : cc ≤ p) : pt (mT g) 170 [.ref r, .int (nI k)] M (fun v M' => (∃ (l : List Nat) (it' : Int32), (s_utf f n p = .inr l) ∧ (p + 2 + by2 f p ≤ n) ∧ (cc + l.length ≤ p + 2 + by2 f p) ∧ v = some (.int 1) ∧ M'.1 r = some (ob 9 [.ref c, .ref b, .ref vd, .int (nI (p + 2 + by2 f p)), .int it']) ∧ M'.1 vd = some (ob 10 [.int ru, .int wa]) ∧ M'.1 pq = some (ob 7 [.int sz, .ref q1, .ref q2, .ref q3, .ref q4, .ref q5, .ref q6, .int (nI (cc + l.length))]) ∧ M'.1 q3 = some (ar .int hd (upd F3 k (nI cc))) ∧ M'.1 q4 = some (ar .int hd (upd F4 k (nI l.length))) ∧ M'.1 q6 = some (ar .char m (wr F6 cc l)) ∧ fm [r, vd, pq, q3, q4, q6] M M') ∨ (∃ (e : Nat × Nat), (s_utf f n p = .inl e) ∧ v = some (.int 0) ∧ M'.1 vd = some (ob 10 [.int (nI e.1), .int (nI e.2)]) ∧ fm [r, vd, pq, q3, q4, q6] M M')) := by
  refine pt_in (b := mb_170 g) rfl (fun kf => ?_)
  show pl (mT g) kf (mb_170 g).2 (0, [(0, .ref r), (1, .int (nI k))], [], M) _
  have hF : fm [r, vd, pq, q3, q4, q6] M M := fm.rf
  have hb2 := by2_lt f p
  have L63 : ∀ (kf : Nat) (p1 : Nat) (l1 : List Nat) (M1 : mi_H), (M1.1 r = some (ob 9 [.ref c, .ref b, .ref vd, .int (nI p1), .int (nI (by2 f p))])) → (M1.1 b = some (ob 1 [.ref da])) → (M1.1 da = some (ar .byte n f)) → (M1.1 vd = some (ob 10 [.int ru, .int wa])) → (M1.1 c = some (ob 3 [.ref b, .ref pq, .int mi, .int ma, .int fa, .int ic, u6, u7, .int ac, .int aa, .int k1, .int k2, .int k3, .int k4, .int k5, .int k6, .int k7])) → (M1.1 pq = some (ob 7 [.int sz, .ref q1, .ref q2, .ref q3, .ref q4, .ref q5, .ref q6, .int (nI (cc + l1.length))])) → (M1.1 q1 = some (ar .int hd F1)) → (M1.1 q3 = some (ar .int hd F3)) → (M1.1 q4 = some (ar .int hd F4)) → (M1.1 q6 = some (ar .char m (wr F6 cc l1))) → (fm [r, vd, pq, q3, q4, q6] M M1) → (p + 2 ≤ p1 ∧ p1 ≤ (p + 2 + by2 f p)) → ((p + 2 + by2 f p) ≤ n) → (cc + l1.length ≤ p1) → (s_text f (p + 2 + by2 f p) ((p + 2 + by2 f p) - p1) p1 l1 = s_text f (p + 2 + by2 f p) (by2 f p) (p + 2) []) → pl (mT g) kf (mb_170 g).2 (63, [(0, .ref r), (1, .int (nI k)), (2, .int (nI (p + 2 + by2 f p))), (3, .int (nI cc))], [], M1) (fun v M' => (∃ (l : List Nat) (it' : Int32), (s_utf f n p = .inr l) ∧ (p + 2 + by2 f p ≤ n) ∧ (cc + l.length ≤ p + 2 + by2 f p) ∧ v = some (.int 1) ∧ M'.1 r = some (ob 9 [.ref c, .ref b, .ref vd, .int (nI (p + 2 + by2 f p)), .int it']) ∧ M'.1 vd = some (ob 10 [.int ru, .int wa]) ∧ M'.1 pq = some (ob 7 [.int sz, .ref q1, .ref q2, .ref q3, .ref q4, .ref q5, .ref q6, .int (nI (cc + l.length))]) ∧ M'.1 q3 = some (ar .int hd (upd F3 k (nI cc))) ∧ M'.1 q4 = some (ar .int hd (upd F4 k (nI l.length))) ∧ M'.1 q6 = some (ar .char m (wr F6 cc l)) ∧ fm [r, vd, pq, q3, q4, q6] M M') ∨ (∃ (e : Nat × Nat), (s_utf f n p = .inl e) ∧ v = some (.int 0) ∧ M'.1 vd = some (ob 10 [.int (nI e.1), .int (nI e.2)]) ∧ fm [r, vd, pq, q3, q4, q6] M M')) := by
    intro kf
    induction kf with
    | zero => intros; exact pl_0
    | succ kf ih =>
      intro p1 l1 M1 hl_r hl_b hl_da hl_vd hl_c hl_pq hl_q1 hl_q3 hl_q4 hl_q6 hF1 hp1 he1 hl1 hs
      have hb2 := by2_lt f p
      refine ps_st1 (S' := (64, [(0, .ref r), (1, .int (nI k)), (2, .int (nI (p + 2 + by2 f p))), (3, .int (nI cc))], [.ref r], M1)) rfl rfl rfl ?_
      refine ps_get (S' := (67, [(0, .ref r), (1, .int (nI k)), (2, .int (nI (p + 2 + by2 f p))), (3, .int (nI cc))], [.int (nI p1)], M1)) rfl hl_r rfl rfl ?_
      refine ps_st (S' := (68, [(0, .ref r), (1, .int (nI k)), (2, .int (nI (p + 2 + by2 f p))), (3, .int (nI cc))], [.int (nI (p + 2 + by2 f p)), .int (nI p1)], M1)) rfl rfl rfl ?_
      refine ps_if2 (S1 := (128, [(0, .ref r), (1, .int (nI k)), (2, .int (nI (p + 2 + by2 f p))), (3, .int (nI cc))], [], M1)) (S2 := (71, [(0, .ref r), (1, .int (nI k)), (2, .int (nI (p + 2 + by2 f p))), (3, .int (nI cc))], [], M1)) rfl rfl rfl (fun c_68 => ?_) (fun c_68 => ?_)
      · have c_68 : (nI (p + 2 + by2 f p)) ≤ (nI p1) := of_decide_eq_true c_68
        have n_68 : p + 2 + by2 f p ≤ p1 := (le_nI (p := p + 2 + by2 f p) (n := p1) (by omega) (by omega)).mp c_68
        refine ps_st (S' := (129, [(0, .ref r), (1, .int (nI k)), (2, .int (nI (p + 2 + by2 f p))), (3, .int (nI cc))], [.ref r], M1)) rfl rfl rfl ?_
        refine ps_get (S' := (132, [(0, .ref r), (1, .int (nI k)), (2, .int (nI (p + 2 + by2 f p))), (3, .int (nI cc))], [.ref c], M1)) rfl hl_r rfl rfl ?_
        refine ps_get (S' := (135, [(0, .ref r), (1, .int (nI k)), (2, .int (nI (p + 2 + by2 f p))), (3, .int (nI cc))], [.ref pq], M1)) rfl hl_c rfl rfl ?_
        refine ps_st (S' := (136, [(0, .ref r), (1, .int (nI k)), (2, .int (nI (p + 2 + by2 f p))), (3, .int (nI cc))], [.int (nI k), .ref pq], M1)) rfl rfl rfl ?_
        refine ps_st (S' := (137, [(0, .ref r), (1, .int (nI k)), (2, .int (nI (p + 2 + by2 f p))), (3, .int (nI cc))], [.int (nI cc), .int (nI k), .ref pq], M1)) rfl rfl rfl ?_
        refine ps_st (S' := (138, [(0, .ref r), (1, .int (nI k)), (2, .int (nI (p + 2 + by2 f p))), (3, .int (nI cc))], [.ref r, .int (nI cc), .int (nI k), .ref pq], M1)) rfl rfl rfl ?_
        refine ps_get (S' := (141, [(0, .ref r), (1, .int (nI k)), (2, .int (nI (p + 2 + by2 f p))), (3, .int (nI cc))], [.ref c, .int (nI cc), .int (nI k), .ref pq], M1)) rfl hl_r rfl rfl ?_
        refine ps_get (S' := (144, [(0, .ref r), (1, .int (nI k)), (2, .int (nI (p + 2 + by2 f p))), (3, .int (nI cc))], [.ref pq, .int (nI cc), .int (nI k), .ref pq], M1)) rfl hl_c rfl rfl ?_
        refine ps_get (S' := (147, [(0, .ref r), (1, .int (nI k)), (2, .int (nI (p + 2 + by2 f p))), (3, .int (nI cc))], [.int (nI (cc + l1.length)), .int (nI cc), .int (nI k), .ref pq], M1)) rfl hl_pq rfl rfl ?_
        refine ps_st (S' := (148, [(0, .ref r), (1, .int (nI k)), (2, .int (nI (p + 2 + by2 f p))), (3, .int (nI cc))], [.int (nI cc), .int (nI (cc + l1.length)), .int (nI cc), .int (nI k), .ref pq], M1)) rfl rfl rfl ?_
        refine ps_st (S' := (149, [(0, .ref r), (1, .int (nI k)), (2, .int (nI (p + 2 + by2 f p))), (3, .int (nI cc))], [.int ((nI (cc + l1.length)) - (nI cc)), .int (nI cc), .int (nI k), .ref pq], M1)) rfl rfl rfl ?_
        refine pl_call (a := [.ref pq, .int (nI k), .int (nI cc), .int ((nI (cc + l1.length)) - (nI cc))]) (rest := []) rfl rfl rfl (dx_setNumbers hl_pq hl_q1 hl_q3 hl_q4 (hD) (hh) (hk)) (fun v1 M2 q3 => ?_)
        obtain ⟨rfl, h4, h5, f6⟩ := q3
        have h8 := (f6.1 r (nin2 (ob_ar hl_r hl_q3) (ob_ar hl_r hl_q4))).trans hl_r
        have h9 := (f6.1 b (nin2 (ob_ar hl_b hl_q3) (ob_ar hl_b hl_q4))).trans hl_b
        have h10 := (f6.1 da (nin2 (ar_ne hl_da hl_q3 (by decide)) (ar_ne hl_da hl_q4 (by decide)))).trans hl_da
        have h11 := (f6.1 vd (nin2 (ob_ar hl_vd hl_q3) (ob_ar hl_vd hl_q4))).trans hl_vd
        have h12 := (f6.1 c (nin2 (ob_ar hl_c hl_q3) (ob_ar hl_c hl_q4))).trans hl_c
        have h13 := (f6.1 pq (nin2 (ob_ar hl_pq hl_q3) (ob_ar hl_pq hl_q4))).trans hl_pq
        have h14 := (f6.1 q1 (nin2 hD.1.2.1 hD.1.2.2.1)).trans hl_q1
        have h15 := (f6.1 q6 (nin2 (ar_ne hl_q6 hl_q3 (by decide)) (ar_ne hl_q6 hl_q4 (by decide)))).trans hl_q6
        have hF16 := hF1.tr f6 (by simp)
        show pl _ _ _ (152, [(0, .ref r), (1, .int (nI k)), (2, .int (nI (p + 2 + by2 f p))), (3, .int (nI cc))], [], M2) _
        refine ps_st (S' := (153, [(0, .ref r), (1, .int (nI k)), (2, .int (nI (p + 2 + by2 f p))), (3, .int (nI cc))], [.int 1], M2)) rfl rfl rfl ?_
        exact ps_ret rfl rfl (Or.inl ⟨l1, _, by
            exact s_utf_ok (by omega) (by omega) (by rw [← hs]; exact s_text_0 (by omega)), by omega, by omega, rfl, by
            rw [h8, show p1 = (p + 2 + by2 f p) by omega], h11, h13, h4, by
            rw [h5, lsub (by omega)], h15, hF16⟩)
      · have c_68 : ¬ ((nI (p + 2 + by2 f p)) ≤ (nI p1)) := of_decide_eq_false c_68
        have n_68 : ¬ (p + 2 + by2 f p ≤ p1) := fun h9 => c_68 ((le_nI (p := p + 2 + by2 f p) (n := p1) (by omega) (by omega)).mpr h9)
        refine ps_st (S' := (72, [(0, .ref r), (1, .int (nI k)), (2, .int (nI (p + 2 + by2 f p))), (3, .int (nI cc))], [.ref r], M1)) rfl rfl rfl ?_
        refine ps_st (S' := (73, [(0, .ref r), (1, .int (nI k)), (2, .int (nI (p + 2 + by2 f p))), (3, .int (nI cc))], [.int (nI (p + 2 + by2 f p)), .ref r], M1)) rfl rfl rfl ?_
        refine pl_call (a := [.ref r, .int (nI (p + 2 + by2 f p))]) (rest := []) rfl rfl rfl (dx_characterSize hl_r hl_b hl_da (hn) (by omega) (by omega)) (fun v17 M18 q19 => ?_)
        obtain ⟨rfl, f20⟩ := q19
        have h22 := (f20.1 r (by simp)).trans hl_r
        have h23 := (f20.1 b (by simp)).trans hl_b
        have h24 := (f20.1 da (by simp)).trans hl_da
        have h25 := (f20.1 vd (by simp)).trans hl_vd
        have h26 := (f20.1 c (by simp)).trans hl_c
        have h27 := (f20.1 pq (by simp)).trans hl_pq
        have h28 := (f20.1 q1 (by simp)).trans hl_q1
        have h29 := (f20.1 q3 (by simp)).trans hl_q3
        have h30 := (f20.1 q4 (by simp)).trans hl_q4
        have h31 := (f20.1 q6 (by simp)).trans hl_q6
        have hF32 := hF1.tr f20 (by simp)
        show pl _ _ _ (76, [(0, .ref r), (1, .int (nI k)), (2, .int (nI (p + 2 + by2 f p))), (3, .int (nI cc))], [.int (nI (u8k f (p + 2 + by2 f p) p1))], M18) _
        have hk3 := u8k_le (f := f) (e := (p + 2 + by2 f p)) (p := p1) (by omega)
        refine ps_st (S' := (78, [(4, .int (nI (u8k f (p + 2 + by2 f p) p1))), (0, .ref r), (1, .int (nI k)), (2, .int (nI (p + 2 + by2 f p))), (3, .int (nI cc))], [], M18)) rfl rfl rfl ?_
        refine ps_st (S' := (80, [(4, .int (nI (u8k f (p + 2 + by2 f p) p1))), (0, .ref r), (1, .int (nI k)), (2, .int (nI (p + 2 + by2 f p))), (3, .int (nI cc))], [.int (nI (u8k f (p + 2 + by2 f p) p1))], M18)) rfl rfl rfl ?_
        refine ps_st (S' := (81, [(4, .int (nI (u8k f (p + 2 + by2 f p) p1))), (0, .ref r), (1, .int (nI k)), (2, .int (nI (p + 2 + by2 f p))), (3, .int (nI cc))], [.int 1, .int (nI (u8k f (p + 2 + by2 f p) p1))], M18)) rfl rfl rfl ?_
        refine ps_if2 (S1 := (98, [(4, .int (nI (u8k f (p + 2 + by2 f p) p1))), (0, .ref r), (1, .int (nI k)), (2, .int (nI (p + 2 + by2 f p))), (3, .int (nI cc))], [], M18)) (S2 := (84, [(4, .int (nI (u8k f (p + 2 + by2 f p) p1))), (0, .ref r), (1, .int (nI k)), (2, .int (nI (p + 2 + by2 f p))), (3, .int (nI cc))], [], M18)) rfl rfl rfl (fun c_81 => ?_) (fun c_81 => ?_)
        · have c_81 : 1 ≤ (nI (u8k f (p + 2 + by2 f p) p1)) := of_decide_eq_true c_81
          have n_81 : 1 ≤ u8k f (p + 2 + by2 f p) p1 := (le_nI (p := 1) (n := u8k f (p + 2 + by2 f p) p1) (by decide) (by omega)).mp c_81
          refine ps_st (S' := (99, [(4, .int (nI (u8k f (p + 2 + by2 f p) p1))), (0, .ref r), (1, .int (nI k)), (2, .int (nI (p + 2 + by2 f p))), (3, .int (nI cc))], [.ref r], M18)) rfl rfl rfl ?_
          refine ps_get (S' := (102, [(4, .int (nI (u8k f (p + 2 + by2 f p) p1))), (0, .ref r), (1, .int (nI k)), (2, .int (nI (p + 2 + by2 f p))), (3, .int (nI cc))], [.ref c], M18)) rfl h22 rfl rfl ?_
          refine ps_get (S' := (105, [(4, .int (nI (u8k f (p + 2 + by2 f p) p1))), (0, .ref r), (1, .int (nI k)), (2, .int (nI (p + 2 + by2 f p))), (3, .int (nI cc))], [.ref pq], M18)) rfl h26 rfl rfl ?_
          refine ps_st (S' := (106, [(4, .int (nI (u8k f (p + 2 + by2 f p) p1))), (0, .ref r), (1, .int (nI k)), (2, .int (nI (p + 2 + by2 f p))), (3, .int (nI cc))], [.ref r, .ref pq], M18)) rfl rfl rfl ?_
          refine ps_st (S' := (108, [(4, .int (nI (u8k f (p + 2 + by2 f p) p1))), (0, .ref r), (1, .int (nI k)), (2, .int (nI (p + 2 + by2 f p))), (3, .int (nI cc))], [.int (nI (u8k f (p + 2 + by2 f p) p1)), .ref r, .ref pq], M18)) rfl rfl rfl ?_
          refine pl_call (a := [.ref r, .int (nI (u8k f (p + 2 + by2 f p) p1))]) (rest := [.ref pq]) rfl rfl rfl (dx_characterOf h22 h23 h24 (hn) (by omega) (by omega)) (fun v33 M34 q35 => ?_)
          obtain ⟨rfl, f36⟩ := q35
          have h38 := (f36.1 r (by simp)).trans h22
          have h39 := (f36.1 b (by simp)).trans h23
          have h40 := (f36.1 da (by simp)).trans h24
          have h41 := (f36.1 vd (by simp)).trans h25
          have h42 := (f36.1 c (by simp)).trans h26
          have h43 := (f36.1 pq (by simp)).trans h27
          have h44 := (f36.1 q1 (by simp)).trans h28
          have h45 := (f36.1 q3 (by simp)).trans h29
          have h46 := (f36.1 q4 (by simp)).trans h30
          have h47 := (f36.1 q6 (by simp)).trans h31
          have hF48 := hF32.tr f36 (by simp)
          show pl _ _ _ (111, [(4, .int (nI (u8k f (p + 2 + by2 f p) p1))), (0, .ref r), (1, .int (nI k)), (2, .int (nI (p + 2 + by2 f p))), (3, .int (nI cc))], [.int (nI (u8n f p1 (u8k f (p + 2 + by2 f p) p1))), .ref pq], M34) _
          refine pl_call (a := [.ref pq, .int (nI (u8n f p1 (u8k f (p + 2 + by2 f p) p1)))]) (rest := []) rfl rfl rfl (dx_addCharacter h43 h47 (by omega) ((u8n_eq _ _ _).2) (by omega)) (fun v49 M50 q51 => ?_)
          obtain ⟨rfl, h52, h53, f54⟩ := q51
          have h56 := (f54.1 r (nin2 (ob_ne h38 h43 (by decide)) (ob_ar h38 h47))).trans h38
          have h57 := (f54.1 b (nin2 (ob_ne h39 h43 (by decide)) (ob_ar h39 h47))).trans h39
          have h58 := (f54.1 da (nin2 (Ne.symm (ob_ar h43 h40)) (ar_ne h40 h47 (by decide)))).trans h40
          have h59 := (f54.1 vd (nin2 (ob_ne h41 h43 (by decide)) (ob_ar h41 h47))).trans h41
          have h60 := (f54.1 c (nin2 (ob_ne h42 h43 (by decide)) (ob_ar h42 h47))).trans h42
          have h61 := (f54.1 q1 (nin2 (Ne.symm (ob_ar h43 h44)) (ar_ne h44 h47 (by decide)))).trans h44
          have h62 := (f54.1 q3 (nin2 (Ne.symm (ob_ar h43 h45)) (ar_ne h45 h47 (by decide)))).trans h45
          have h63 := (f54.1 q4 (nin2 (Ne.symm (ob_ar h43 h46)) (ar_ne h46 h47 (by decide)))).trans h46
          have hF64 := hF48.tr f54 (by simp)
          show pl _ _ _ (114, [(4, .int (nI (u8k f (p + 2 + by2 f p) p1))), (0, .ref r), (1, .int (nI k)), (2, .int (nI (p + 2 + by2 f p))), (3, .int (nI cc))], [], M50) _
          refine ps_st (S' := (115, [(4, .int (nI (u8k f (p + 2 + by2 f p) p1))), (0, .ref r), (1, .int (nI k)), (2, .int (nI (p + 2 + by2 f p))), (3, .int (nI cc))], [.ref r], M50)) rfl rfl rfl ?_
          refine ps_st (S' := (116, [(4, .int (nI (u8k f (p + 2 + by2 f p) p1))), (0, .ref r), (1, .int (nI k)), (2, .int (nI (p + 2 + by2 f p))), (3, .int (nI cc))], [.ref r, .ref r], M50)) rfl rfl rfl ?_
          refine ps_get (S' := (119, [(4, .int (nI (u8k f (p + 2 + by2 f p) p1))), (0, .ref r), (1, .int (nI k)), (2, .int (nI (p + 2 + by2 f p))), (3, .int (nI cc))], [.int (nI p1), .ref r], M50)) rfl h56 rfl rfl ?_
          refine ps_st (S' := (121, [(4, .int (nI (u8k f (p + 2 + by2 f p) p1))), (0, .ref r), (1, .int (nI k)), (2, .int (nI (p + 2 + by2 f p))), (3, .int (nI cc))], [.int (nI (u8k f (p + 2 + by2 f p) p1)), .int (nI p1), .ref r], M50)) rfl rfl rfl ?_
          refine ps_st (S' := (122, [(4, .int (nI (u8k f (p + 2 + by2 f p) p1))), (0, .ref r), (1, .int (nI k)), (2, .int (nI (p + 2 + by2 f p))), (3, .int (nI cc))], [.int ((nI p1) + (nI (u8k f (p + 2 + by2 f p) p1))), .ref r], M50)) rfl rfl rfl ?_
          rw [nI_add1 (p := p1) (k := u8k f (p + 2 + by2 f p) p1) (x := (nI (u8k f (p + 2 + by2 f p) p1))) rfl (by omega)]
          show pl _ _ _ (_, [(4, .int (nI (u8k f (p + 2 + by2 f p) p1))), (0, .ref r), (1, .int (nI k)), (2, .int (nI (p + 2 + by2 f p))), (3, .int (nI cc))], [.int (nI (p1 + u8k f (p + 2 + by2 f p) p1)), .ref r], M50) _
          refine ps_put (l' := [.ref c, .ref b, .ref vd, .int (nI (p1 + u8k f (p + 2 + by2 f p) p1)), .int (nI (by2 f p))]) rfl h56 rfl rfl (fun M65 h66 f67 z68 => ?_)
          have h69 := (f67 b (ob_ne h57 h56 (by decide))).trans h57
          have h70 := (f67 da (Ne.symm (ob_ar h56 h58))).trans h58
          have h71 := (f67 vd (ob_ne h59 h56 (by decide))).trans h59
          have h72 := (f67 c (ob_ne h60 h56 (by decide))).trans h60
          have h73 := (f67 pq (ob_ne h52 h56 (by decide))).trans h52
          have h74 := (f67 q1 (Ne.symm (ob_ar h56 h61))).trans h61
          have h75 := (f67 q3 (Ne.symm (ob_ar h56 h62))).trans h62
          have h76 := (f67 q4 (Ne.symm (ob_ar h56 h63))).trans h63
          have h77 := (f67 q6 (Ne.symm (ob_ar h56 h53))).trans h53
          have hF78 := hF64.up (by simp) f67 z68
          show pl _ _ _ (125, [(4, .int (nI (u8k f (p + 2 + by2 f p) p1))), (0, .ref r), (1, .int (nI k)), (2, .int (nI (p + 2 + by2 f p))), (3, .int (nI cc))], [], M65) _
          refine ps_st (S' := (63, [(0, .ref r), (1, .int (nI k)), (2, .int (nI (p + 2 + by2 f p))), (3, .int (nI cc))], [], M65)) rfl rfl rfl ?_
          have h79 := h77
          rw [wr_snoc] at h79
          have h80 := h73
          rw [show cc + l1.length + 1 = cc + (l1 ++ [u8n f p1 (u8k f (p + 2 + by2 f p) p1)]).length by simp; omega] at h80
          exact ih (p1 + (u8k f (p + 2 + by2 f p) p1)) (l1 ++ [u8n f p1 (u8k f (p + 2 + by2 f p) p1)]) M65 h66 h69 h70 h71 h72 h80 h74 h75 h76 h79 hF78 (by omega) (by omega) (by simp; omega) (by rw [← hs]; exact (s_text_step (by omega) (by omega)).symm)
        · have c_81 : ¬ (1 ≤ (nI (u8k f (p + 2 + by2 f p) p1))) := of_decide_eq_false c_81
          have n_81 : ¬ (1 ≤ u8k f (p + 2 + by2 f p) p1) := fun h9 => c_81 ((le_nI (p := 1) (n := u8k f (p + 2 + by2 f p) p1) (by decide) (by omega)).mpr h9)
          refine ps_st (S' := (85, [(4, .int (nI (u8k f (p + 2 + by2 f p) p1))), (0, .ref r), (1, .int (nI k)), (2, .int (nI (p + 2 + by2 f p))), (3, .int (nI cc))], [.ref r], M18)) rfl rfl rfl ?_
          refine ps_get (S' := (88, [(4, .int (nI (u8k f (p + 2 + by2 f p) p1))), (0, .ref r), (1, .int (nI k)), (2, .int (nI (p + 2 + by2 f p))), (3, .int (nI cc))], [.ref vd], M18)) rfl h22 rfl rfl ?_
          refine ps_st (S' := (90, [(4, .int (nI (u8k f (p + 2 + by2 f p) p1))), (0, .ref r), (1, .int (nI k)), (2, .int (nI (p + 2 + by2 f p))), (3, .int (nI cc))], [.int 6, .ref vd], M18)) rfl rfl rfl ?_
          refine ps_st (S' := (91, [(4, .int (nI (u8k f (p + 2 + by2 f p) p1))), (0, .ref r), (1, .int (nI k)), (2, .int (nI (p + 2 + by2 f p))), (3, .int (nI cc))], [.ref r, .int 6, .ref vd], M18)) rfl rfl rfl ?_
          refine ps_get (S' := (94, [(4, .int (nI (u8k f (p + 2 + by2 f p) p1))), (0, .ref r), (1, .int (nI k)), (2, .int (nI (p + 2 + by2 f p))), (3, .int (nI cc))], [.int (nI p1), .int 6, .ref vd], M18)) rfl h22 rfl rfl ?_
          refine pl_call (a := [.ref vd, .int 6, .int (nI p1)]) (rest := []) rfl rfl rfl (dx_wrong h25) (fun v81 M82 q83 => ?_)
          obtain ⟨rfl, h84, f85⟩ := q83
          have h87 := (f85.1 r (nin1 (ob_ne h22 h25 (by decide)))).trans h22
          have h88 := (f85.1 b (nin1 (ob_ne h23 h25 (by decide)))).trans h23
          have h89 := (f85.1 da (nin1 (Ne.symm (ob_ar h25 h24)))).trans h24
          have h90 := (f85.1 c (nin1 (ob_ne h26 h25 (by decide)))).trans h26
          have h91 := (f85.1 pq (nin1 (ob_ne h27 h25 (by decide)))).trans h27
          have h92 := (f85.1 q1 (nin1 (Ne.symm (ob_ar h25 h28)))).trans h28
          have h93 := (f85.1 q3 (nin1 (Ne.symm (ob_ar h25 h29)))).trans h29
          have h94 := (f85.1 q4 (nin1 (Ne.symm (ob_ar h25 h30)))).trans h30
          have h95 := (f85.1 q6 (nin1 (Ne.symm (ob_ar h25 h31)))).trans h31
          have hF96 := hF32.tr f85 (by simp)
          show pl _ _ _ (97, [(4, .int (nI (u8k f (p + 2 + by2 f p) p1))), (0, .ref r), (1, .int (nI k)), (2, .int (nI (p + 2 + by2 f p))), (3, .int (nI cc))], [.int 0], M82) _
          exact ps_ret rfl rfl (Or.inr ⟨(6, p1), by
              exact s_utf_bad (by omega) (by omega) (by rw [← hs]; exact s_text_bad (by omega) (by omega)), rfl, h84, hF96⟩)
  refine ps_st (S' := (1, [(0, .ref r), (1, .int (nI k))], [.ref r], M)) rfl rfl rfl ?_
  refine ps_st (S' := (2, [(0, .ref r), (1, .int (nI k))], [.int 2, .ref r], M)) rfl rfl rfl ?_
  refine pl_call (a := [.ref r, .int 2]) (rest := []) rfl rfl rfl (dx_takes2 h_r h_b h_da h_vd (hn) (by omega)) (fun v97 M98 q99 => ?_)
  rcases q99 with q99 | q99
  · skip
    obtain ⟨q2_ok, rfl, h100, h101, f102⟩ := q99
    have h104 := (f102.1 b (nin2 (ob_ne h_b h_r (by decide)) (ob_ne h_b h_vd (by decide)))).trans h_b
    have h105 := (f102.1 da (nin2 (Ne.symm (ob_ar h_r h_da)) (Ne.symm (ob_ar h_vd h_da)))).trans h_da
    have h106 := (f102.1 c (nin2 (ob_ne h_c h_r (by decide)) (ob_ne h_c h_vd (by decide)))).trans h_c
    have h107 := (f102.1 pq (nin2 (ob_ne h_pq h_r (by decide)) (ob_ne h_pq h_vd (by decide)))).trans h_pq
    have h108 := (f102.1 q1 (nin2 (Ne.symm (ob_ar h_r h_q1)) (Ne.symm (ob_ar h_vd h_q1)))).trans h_q1
    have h109 := (f102.1 q3 (nin2 (Ne.symm (ob_ar h_r h_q3)) (Ne.symm (ob_ar h_vd h_q3)))).trans h_q3
    have h110 := (f102.1 q4 (nin2 (Ne.symm (ob_ar h_r h_q4)) (Ne.symm (ob_ar h_vd h_q4)))).trans h_q4
    have h111 := (f102.1 q6 (nin2 (Ne.symm (ob_ar h_r h_q6)) (Ne.symm (ob_ar h_vd h_q6)))).trans h_q6
    have hF112 := hF.tr f102 (by simp)
    show pl _ _ _ (5, [(0, .ref r), (1, .int (nI k))], [.int 1], M98) _
    refine ps_if (S1 := (10, [(0, .ref r), (1, .int (nI k))], [], M98)) (S2 := (8, [(0, .ref r), (1, .int (nI k))], [], M98)) rfl rfl rfl (fun c_5 => ?_) (fun c_5 => ?_)
    rotate_left
    · exact absurd (by decide) (of_decide_eq_false c_5)
    refine ps_st (S' := (11, [(0, .ref r), (1, .int (nI k))], [.ref r], M98)) rfl rfl rfl ?_
    refine ps_get (S' := (14, [(0, .ref r), (1, .int (nI k))], [.int (nI (by2 f p))], M98)) rfl h100 rfl rfl ?_
    refine ps_st (S' := (15, [(0, .ref r), (1, .int (nI k))], [.ref r, .int (nI (by2 f p))], M98)) rfl rfl rfl ?_
    refine ps_get (S' := (18, [(0, .ref r), (1, .int (nI k))], [.ref b, .int (nI (by2 f p))], M98)) rfl h100 rfl rfl ?_
    refine pl_call (a := [.ref b]) (rest := [.int (nI (by2 f p))]) rfl rfl rfl (dx_size h104 h105 (hn)) (fun v113 M114 q115 => ?_)
    obtain ⟨rfl, f116⟩ := q115
    have h118 := (f116.1 r (by simp)).trans h100
    have h119 := (f116.1 b (by simp)).trans h104
    have h120 := (f116.1 da (by simp)).trans h105
    have h121 := (f116.1 vd (by simp)).trans h101
    have h122 := (f116.1 c (by simp)).trans h106
    have h123 := (f116.1 pq (by simp)).trans h107
    have h124 := (f116.1 q1 (by simp)).trans h108
    have h125 := (f116.1 q3 (by simp)).trans h109
    have h126 := (f116.1 q4 (by simp)).trans h110
    have h127 := (f116.1 q6 (by simp)).trans h111
    have hF128 := hF112.tr f116 (by simp)
    show pl _ _ _ (21, [(0, .ref r), (1, .int (nI k))], [.int (sp_size n f ), .int (nI (by2 f p))], M114) _
    refine ps_st (S' := (22, [(0, .ref r), (1, .int (nI k))], [.ref r, .int (sp_size n f ), .int (nI (by2 f p))], M114)) rfl rfl rfl ?_
    refine ps_get (S' := (25, [(0, .ref r), (1, .int (nI k))], [.int (nI (p + 2)), .int (sp_size n f ), .int (nI (by2 f p))], M114)) rfl h118 rfl rfl ?_
    refine ps_st (S' := (26, [(0, .ref r), (1, .int (nI k))], [.int ((sp_size n f ) - (nI (p + 2))), .int (nI (by2 f p))], M114)) rfl rfl rfl ?_
    refine ps_if2 (S1 := (42, [(0, .ref r), (1, .int (nI k))], [], M114)) (S2 := (29, [(0, .ref r), (1, .int (nI k))], [], M114)) rfl rfl rfl (fun c_26 => ?_) (fun c_26 => ?_)
    · have c_26 : (nI (by2 f p)) ≤ ((sp_size n f ) - (nI (p + 2))) := of_decide_eq_true c_26
      have n_26 : p + 2 + by2 f p ≤ n := (le_szn (x := by2 f p) (p := p + 2) (f := f) (Nat.lt_trans (by2_lt _ _) (by decide)) hn (by omega)).mp c_26
      refine ps_st (S' := (43, [(0, .ref r), (1, .int (nI k))], [.ref r], M114)) rfl rfl rfl ?_
      refine ps_get (S' := (46, [(0, .ref r), (1, .int (nI k))], [.int (nI (p + 2))], M114)) rfl h118 rfl rfl ?_
      refine ps_st (S' := (47, [(0, .ref r), (1, .int (nI k))], [.ref r, .int (nI (p + 2))], M114)) rfl rfl rfl ?_
      refine ps_get (S' := (50, [(0, .ref r), (1, .int (nI k))], [.int (nI (by2 f p)), .int (nI (p + 2))], M114)) rfl h118 rfl rfl ?_
      refine ps_st (S' := (51, [(0, .ref r), (1, .int (nI k))], [.int ((nI (p + 2)) + (nI (by2 f p)))], M114)) rfl rfl rfl ?_
      rw [nI_add1 (p := p + 2) (k := by2 f p) (x := (nI (by2 f p))) rfl (by omega)]
      show pl _ _ _ (_, [(0, .ref r), (1, .int (nI k))], [.int (nI (p + 2 + by2 f p))], M114) _
      refine ps_st (S' := (52, [(2, .int (nI (p + 2 + by2 f p))), (0, .ref r), (1, .int (nI k))], [], M114)) rfl rfl rfl ?_
      refine ps_st (S' := (53, [(2, .int (nI (p + 2 + by2 f p))), (0, .ref r), (1, .int (nI k))], [.ref r], M114)) rfl rfl rfl ?_
      refine ps_get (S' := (56, [(2, .int (nI (p + 2 + by2 f p))), (0, .ref r), (1, .int (nI k))], [.ref c], M114)) rfl h118 rfl rfl ?_
      refine ps_get (S' := (59, [(2, .int (nI (p + 2 + by2 f p))), (0, .ref r), (1, .int (nI k))], [.ref pq], M114)) rfl h122 rfl rfl ?_
      refine ps_get (S' := (62, [(2, .int (nI (p + 2 + by2 f p))), (0, .ref r), (1, .int (nI k))], [.int (nI cc)], M114)) rfl h123 rfl rfl ?_
      refine ps_st (S' := (63, [(0, .ref r), (1, .int (nI k)), (2, .int (nI (p + 2 + by2 f p))), (3, .int (nI cc))], [], M114)) rfl rfl rfl ?_
      have h129 := h127
      rw [← wr_nil (F := F6) (c := cc)] at h129
      exact L63 kf (p + 2) ([]) M114 h118 h119 h120 h121 h122 h123 h124 h125 h126 h129 hF128 (by omega) (by omega) (by simp; omega) (by rw [show (p + 2 + by2 f p) - (p + 2) = by2 f p by omega])
    · have c_26 : ¬ ((nI (by2 f p)) ≤ ((sp_size n f ) - (nI (p + 2)))) := of_decide_eq_false c_26
      have n_26 : ¬ (p + 2 + by2 f p ≤ n) := fun h9 => c_26 ((le_szn (x := by2 f p) (p := p + 2) (f := f) (Nat.lt_trans (by2_lt _ _) (by decide)) hn (by omega)).mpr h9)
      refine ps_st (S' := (30, [(0, .ref r), (1, .int (nI k))], [.ref r], M114)) rfl rfl rfl ?_
      refine ps_get (S' := (33, [(0, .ref r), (1, .int (nI k))], [.ref vd], M114)) rfl h118 rfl rfl ?_
      refine ps_st (S' := (34, [(0, .ref r), (1, .int (nI k))], [.int 1, .ref vd], M114)) rfl rfl rfl ?_
      refine ps_st (S' := (35, [(0, .ref r), (1, .int (nI k))], [.ref r, .int 1, .ref vd], M114)) rfl rfl rfl ?_
      refine ps_get (S' := (38, [(0, .ref r), (1, .int (nI k))], [.int (nI (p + 2)), .int 1, .ref vd], M114)) rfl h118 rfl rfl ?_
      refine pl_call (a := [.ref vd, .int 1, .int (nI (p + 2))]) (rest := []) rfl rfl rfl (dx_wrong h121) (fun v130 M131 q132 => ?_)
      obtain ⟨rfl, h133, f134⟩ := q132
      have h136 := (f134.1 r (nin1 (ob_ne h118 h121 (by decide)))).trans h118
      have h137 := (f134.1 b (nin1 (ob_ne h119 h121 (by decide)))).trans h119
      have h138 := (f134.1 da (nin1 (Ne.symm (ob_ar h121 h120)))).trans h120
      have h139 := (f134.1 c (nin1 (ob_ne h122 h121 (by decide)))).trans h122
      have h140 := (f134.1 pq (nin1 (ob_ne h123 h121 (by decide)))).trans h123
      have h141 := (f134.1 q1 (nin1 (Ne.symm (ob_ar h121 h124)))).trans h124
      have h142 := (f134.1 q3 (nin1 (Ne.symm (ob_ar h121 h125)))).trans h125
      have h143 := (f134.1 q4 (nin1 (Ne.symm (ob_ar h121 h126)))).trans h126
      have h144 := (f134.1 q6 (nin1 (Ne.symm (ob_ar h121 h127)))).trans h127
      have hF145 := hF128.tr f134 (by simp)
      show pl _ _ _ (41, [(0, .ref r), (1, .int (nI k))], [.int 0], M131) _
      exact ps_ret rfl rfl (Or.inr ⟨(1, p + 2), by
          unfold s_utf
          rw [if_neg (by omega), if_pos (by omega)], rfl, h133, hF145⟩)
  · skip
    obtain ⟨q2_no, rfl, h146, h147, f148⟩ := q99
    have h150 := (f148.1 b (nin2 (ob_ne h_b h_r (by decide)) (ob_ne h_b h_vd (by decide)))).trans h_b
    have h151 := (f148.1 da (nin2 (Ne.symm (ob_ar h_r h_da)) (Ne.symm (ob_ar h_vd h_da)))).trans h_da
    have h152 := (f148.1 c (nin2 (ob_ne h_c h_r (by decide)) (ob_ne h_c h_vd (by decide)))).trans h_c
    have h153 := (f148.1 pq (nin2 (ob_ne h_pq h_r (by decide)) (ob_ne h_pq h_vd (by decide)))).trans h_pq
    have h154 := (f148.1 q1 (nin2 (Ne.symm (ob_ar h_r h_q1)) (Ne.symm (ob_ar h_vd h_q1)))).trans h_q1
    have h155 := (f148.1 q3 (nin2 (Ne.symm (ob_ar h_r h_q3)) (Ne.symm (ob_ar h_vd h_q3)))).trans h_q3
    have h156 := (f148.1 q4 (nin2 (Ne.symm (ob_ar h_r h_q4)) (Ne.symm (ob_ar h_vd h_q4)))).trans h_q4
    have h157 := (f148.1 q6 (nin2 (Ne.symm (ob_ar h_r h_q6)) (Ne.symm (ob_ar h_vd h_q6)))).trans h_q6
    have hF158 := hF.tr f148 (by simp)
    show pl _ _ _ (5, [(0, .ref r), (1, .int (nI k))], [.int 0], M98) _
    refine ps_if (S1 := (10, [(0, .ref r), (1, .int (nI k))], [], M98)) (S2 := (8, [(0, .ref r), (1, .int (nI k))], [], M98)) rfl rfl rfl (fun c_5 => ?_) (fun c_5 => ?_)
    · exact absurd (of_decide_eq_true c_5) (by decide)
    refine ps_st (S' := (9, [(0, .ref r), (1, .int (nI k))], [.int 0], M98)) rfl rfl rfl ?_
    exact ps_ret rfl rfl (Or.inr ⟨(1, p), by
        unfold s_utf
        rw [if_pos (by omega)], rfl, h147, hF158⟩)
