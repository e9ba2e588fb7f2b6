/-! a member by its name and its descriptor, as both sides find it (my own text) -/
section FDA
variable {f : Nat → Int32} {n : Nat} {E : List (Nat × Nat)}
def smI (o : Option Nat) : Int32 := match o with
  | none => -1
  | some k => nI k
def fdI (f : Nat → Int32) (n : Nat) (E : List (Nat × Nat)) (B : List Nat) (x y : Int32) : Int32 := if tg f E x.toNatClampNeg = 1 ∧ tg f E y.toNatClampNeg = 1 then smI (smeS f n E B x.toNatClampNeg y.toNatClampNeg B.length 0) else -1
/-- what is kept finds it -/
def fdK (ko : Option (Nat × (Nat → Int32))) (t x y : Int32) : Int32 := match ko with
  | none => -1
  | some r => match s_whole r.2 r.1 with
    | .inl _ => -1
    | .inr w => fdI r.2 r.1 w.1 (if t = 0 then mbs r.2 r.1 (by2 r.2 w.2.2.1) (w.2.2.1 + 2) else mbs r.2 r.1 (by2 r.2 w.2.2.2.1) (w.2.2.2.1 + 2)) x y
theorem fdK_is {r : Nat × (Nat → Int32)} {t x y : Int32} {p1 pF pM pA : Nat} (h : s_whole r.2 r.1 = .inr (E, p1, pF, pM, pA)) : fdK (some r) t x y = fdI r.2 r.1 E (if t = 0 then mbs r.2 r.1 (by2 r.2 pF) (pF + 2) else mbs r.2 r.1 (by2 r.2 pM) (pM + 2)) x y := by
  show (match s_whole r.2 r.1 with | .inl _ => -1 | .inr w => fdI r.2 r.1 w.1 (if t = 0 then mbs r.2 r.1 (by2 r.2 w.2.2.1) (w.2.2.1 + 2) else mbs r.2 r.1 (by2 r.2 w.2.2.2.1) (w.2.2.2.1 + 2)) x y) = _
  rw [h]
theorem mbs_len {p p' : Nat} (h : s_mbs f n p = .inr p') : (mbs f n (by2 f p) (p + 2)).length < 65536 := by
  unfold s_mbs at h
  split at h
  · cases h
  · rw [(mbs_in h).1]
    exact by2_lt _ _
/-- a number whose entry is a text -/
theorem tg_nn {x : Int32} {H : Nat} (hH : H ≤ 65536) (hlo : ∀ j, H ≤ j → tg f E j = 0) (h0 : tg f E 0 = 0) (h : tg f E x.toNatClampNeg = 1) : x = nI x.toNatClampNeg ∧ x.toNatClampNeg < 65536 := by
  refine ⟨i32_nn (fun h9 => ?_), Nat.not_le.mp (fun h9 => ?_)⟩
  · rw [i32_cl h9, h0] at h
    cases h
  · rw [hlo _ (by omega)] at h
    cases h
end FDA
set_option maxHeartbeats 1000000 in
theorem dk_find0 {g : xe_G} {M : mi_H} {o ca fl : Nat} {cn wp t x y : Int32} (h_o : M.1 o = some (ob 11 [.ref ca, .int cn, .ref fl, .null, .int wp]))  : pt (mT g) 10 [.ref o, .int t, .int x, .int y] M (fun v M' => (v = some (.int (-1)) ∧ M = M')) := by
  refine pt_in (b := mb_10 g) rfl (fun kf => ?_)
  show pl (mT g) kf (mb_10 g).2 (0, [(0, .ref o), (1, .int t), (2, .int x), (3, .int y)], [], M) _
  refine ps_st (S' := (1, [(0, .ref o), (1, .int t), (2, .int x), (3, .int y)], [.ref o], M)) rfl rfl rfl ?_
  refine ps_get (S' := (4, [(0, .ref o), (1, .int t), (2, .int x), (3, .int y)], [.null], M)) rfl h_o rfl rfl ?_
  refine ps_st (S' := (37, [], [], M)) rfl rfl rfl ?_
  refine ps_st (S' := (38, [], [.int (-1)], M)) rfl rfl rfl ?_
  exact ps_ret rfl rfl (⟨rfl, rfl⟩)
set_option maxHeartbeats 1000000 in
theorem dk_findA {g : xe_G} {M : mi_H} {f : Nat → Int32} {n N q : Nat} {E : List (Nat × Nat)} {o ca fl c b fr mr : Nat} {cn wp u2 u3 u4 u5 : Int32} {w : List Value} {t x y : Int32} (h_o : M.1 o = some (ob 11 [.ref ca, .int cn, .ref fl, .ref c, .int wp])) (h_c : M.1 c = some (ob 3 (.ref b :: .ref q :: .int u2 :: .int u3 :: .int u4 :: .int u5 :: .ref fr :: .ref mr :: w))) (hV : PV g f n N E q M) (h0 : tg f E 0 = 0) (ht : ¬ tg f E x.toNatClampNeg = 1) : pt (mT g) 10 [.ref o, .int t, .int x, .int y] M (fun v M' => (v = some (.int (-1)) ∧ M = M')) := by
  refine pt_in (b := mb_10 g) rfl (fun kf => ?_)
  show pl (mT g) kf (mb_10 g).2 (0, [(0, .ref o), (1, .int t), (2, .int x), (3, .int y)], [], M) _
  obtain ⟨hL9, H, m, qq, F, cc, hP9, -, -, hb9, -⟩ := id hV
  have h_q := hP9.1
  have hN9 := hb9.2.2.1
  refine ps_st (S' := (1, [(0, .ref o), (1, .int t), (2, .int x), (3, .int y)], [.ref o], M)) rfl rfl rfl ?_
  refine ps_get (S' := (4, [(0, .ref o), (1, .int t), (2, .int x), (3, .int y)], [.ref c], M)) rfl h_o rfl rfl ?_
  refine ps_st (S' := (7, [(0, .ref o), (1, .int t), (2, .int x), (3, .int y)], [], M)) rfl rfl rfl ?_
  refine ps_st (S' := (8, [(0, .ref o), (1, .int t), (2, .int x), (3, .int y)], [.ref o], M)) rfl rfl rfl ?_
  refine ps_get (S' := (11, [(0, .ref o), (1, .int t), (2, .int x), (3, .int y)], [.ref c], M)) rfl h_o rfl rfl ?_
  refine ps_get (S' := (14, [(0, .ref o), (1, .int t), (2, .int x), (3, .int y)], [.ref q], M)) rfl h_c rfl rfl ?_
  refine ps_st (S' := (15, [(0, .ref o), (1, .int t), (2, .int x), (3, .int y)], [.int x, .ref q], M)) rfl rfl rfl ?_
  refine pl_call (a := [.ref q, .int x]) (rest := []) rfl rfl rfl (dz_tagOf (f := f) (n := n) (N := N) (q := q) (E := E) (k := x) (hV) (h0)) (fun v1 M2 q3 => ?_)
  obtain ⟨rfl, rfl⟩ := q3
  show pl _ _ _ (18, [(0, .ref o), (1, .int t), (2, .int x), (3, .int y)], [.int (nI (tg f E x.toNatClampNeg))], M) _
  refine ps_st (S' := (19, [(0, .ref o), (1, .int t), (2, .int x), (3, .int y)], [.int 1, .int (nI (tg f E x.toNatClampNeg))], M)) rfl rfl rfl ?_
  refine ps_if2 (S1 := (37, [], [], M)) (S2 := (22, [(0, .ref o), (1, .int t), (2, .int x), (3, .int y)], [], M)) rfl rfl rfl (fun c_19 => ?_) (fun c_19 => ?_)
  rotate_left
  · exact absurd (show ¬ (nI (tg f E x.toNatClampNeg)) = 1 from fun h9 => ht ((eq_nI (p := tg f E x.toNatClampNeg) (n := 1) (Nat.lt_trans (tg_lt _ _ _) (by decide)) (by decide)).mp h9)) (of_decide_eq_false c_19)
  refine ps_st (S' := (38, [], [.int (-1)], M)) rfl rfl rfl ?_
  exact ps_ret rfl rfl (⟨rfl, rfl⟩)
set_option maxHeartbeats 1000000 in
theorem dk_findB {g : xe_G} {M : mi_H} {f : Nat → Int32} {n N q : Nat} {E : List (Nat × Nat)} {o ca fl c b fr mr : Nat} {cn wp u2 u3 u4 u5 : Int32} {w : List Value} {t x y : Int32} (h_o : M.1 o = some (ob 11 [.ref ca, .int cn, .ref fl, .ref c, .int wp])) (h_c : M.1 c = some (ob 3 (.ref b :: .ref q :: .int u2 :: .int u3 :: .int u4 :: .int u5 :: .ref fr :: .ref mr :: w))) (hV : PV g f n N E q M) (h0 : tg f E 0 = 0) (hx : tg f E x.toNatClampNeg = 1) (ht : ¬ tg f E y.toNatClampNeg = 1) : pt (mT g) 10 [.ref o, .int t, .int x, .int y] M (fun v M' => (v = some (.int (-1)) ∧ M = M')) := by
  refine pt_in (b := mb_10 g) rfl (fun kf => ?_)
  show pl (mT g) kf (mb_10 g).2 (0, [(0, .ref o), (1, .int t), (2, .int x), (3, .int y)], [], M) _
  obtain ⟨hL9, H, m, qq, F, cc, hP9, -, -, hb9, -⟩ := id hV
  have h_q := hP9.1
  have hN9 := hb9.2.2.1
  refine ps_st (S' := (1, [(0, .ref o), (1, .int t), (2, .int x), (3, .int y)], [.ref o], M)) rfl rfl rfl ?_
  refine ps_get (S' := (4, [(0, .ref o), (1, .int t), (2, .int x), (3, .int y)], [.ref c], M)) rfl h_o rfl rfl ?_
  refine ps_st (S' := (7, [(0, .ref o), (1, .int t), (2, .int x), (3, .int y)], [], M)) rfl rfl rfl ?_
  refine ps_st (S' := (8, [(0, .ref o), (1, .int t), (2, .int x), (3, .int y)], [.ref o], M)) rfl rfl rfl ?_
  refine ps_get (S' := (11, [(0, .ref o), (1, .int t), (2, .int x), (3, .int y)], [.ref c], M)) rfl h_o rfl rfl ?_
  refine ps_get (S' := (14, [(0, .ref o), (1, .int t), (2, .int x), (3, .int y)], [.ref q], M)) rfl h_c rfl rfl ?_
  refine ps_st (S' := (15, [(0, .ref o), (1, .int t), (2, .int x), (3, .int y)], [.int x, .ref q], M)) rfl rfl rfl ?_
  refine pl_call (a := [.ref q, .int x]) (rest := []) rfl rfl rfl (dz_tagOf (f := f) (n := n) (N := N) (q := q) (E := E) (k := x) (hV) (h0)) (fun v1 M2 q3 => ?_)
  obtain ⟨rfl, rfl⟩ := q3
  show pl _ _ _ (18, [(0, .ref o), (1, .int t), (2, .int x), (3, .int y)], [.int (nI (tg f E x.toNatClampNeg))], M) _
  refine ps_st (S' := (19, [(0, .ref o), (1, .int t), (2, .int x), (3, .int y)], [.int 1, .int (nI (tg f E x.toNatClampNeg))], M)) rfl rfl rfl ?_
  refine ps_if2 (S1 := (37, [], [], M)) (S2 := (22, [(0, .ref o), (1, .int t), (2, .int x), (3, .int y)], [], M)) rfl rfl rfl (fun c_19 => ?_) (fun c_19 => ?_)
  · exact absurd (of_decide_eq_true c_19) (fun h9 => h9 ((eq_nI (p := tg f E x.toNatClampNeg) (n := 1) (Nat.lt_trans (tg_lt _ _ _) (by decide)) (by decide)).mpr hx))
  refine ps_st (S' := (23, [(0, .ref o), (1, .int t), (2, .int x), (3, .int y)], [.ref o], M)) rfl rfl rfl ?_
  refine ps_get (S' := (26, [(0, .ref o), (1, .int t), (2, .int x), (3, .int y)], [.ref c], M)) rfl h_o rfl rfl ?_
  refine ps_get (S' := (29, [(0, .ref o), (1, .int t), (2, .int x), (3, .int y)], [.ref q], M)) rfl h_c rfl rfl ?_
  refine ps_st (S' := (30, [(0, .ref o), (1, .int t), (2, .int x), (3, .int y)], [.int y, .ref q], M)) rfl rfl rfl ?_
  refine pl_call (a := [.ref q, .int y]) (rest := []) rfl rfl rfl (dz_tagOf (f := f) (n := n) (N := N) (q := q) (E := E) (k := y) (hV) (h0)) (fun v4 M5 q6 => ?_)
  obtain ⟨rfl, rfl⟩ := q6
  show pl _ _ _ (33, [(0, .ref o), (1, .int t), (2, .int x), (3, .int y)], [.int (nI (tg f E y.toNatClampNeg))], M) _
  refine ps_st (S' := (34, [(0, .ref o), (1, .int t), (2, .int x), (3, .int y)], [.int 1, .int (nI (tg f E y.toNatClampNeg))], M)) rfl rfl rfl ?_
  refine ps_if2 (S1 := (39, [(0, .ref o), (1, .int t), (2, .int x), (3, .int y)], [], M)) (S2 := (37, [], [], M)) rfl rfl rfl (fun c_34 => ?_) (fun c_34 => ?_)
  · exact absurd (of_decide_eq_true c_34) (fun h9 => ht ((eq_nI (p := tg f E y.toNatClampNeg) (n := 1) (Nat.lt_trans (tg_lt _ _ _) (by decide)) (by decide)).mp h9))
  refine ps_st (S' := (38, [], [.int (-1)], M)) rfl rfl rfl ?_
  exact ps_ret rfl rfl (⟨rfl, rfl⟩)
set_option maxHeartbeats 1000000 in
theorem dk_findF {g : xe_G} {M : mi_H} {f : Nat → Int32} {n N q : Nat} {E : List (Nat × Nat)} {o ca fl c b fr mr : Nat} {cn wp u2 u3 u4 u5 : Int32} {w : List Value} {t : Int32} {x y kk : Nat} {B : List Nat} {G : Nat → Nat} (h_o : M.1 o = some (ob 11 [.ref ca, .int cn, .ref fl, .ref c, .int wp])) (h_c : M.1 c = some (ob 3 (.ref b :: .ref q :: .int u2 :: .int u3 :: .int u4 :: .int u5 :: .ref fr :: .ref mr :: w))) (hV : PV g f n N E q M) (hx : x < 65536) (hy : y < 65536) (hx1 : tg f E x = 1) (hy1 : tg f E y = 1) (hM : MV f B fr G kk M) (hBl : B.length < 65536) (ht : t = 0) : pt (mT g) 10 [.ref o, .int t, .int (nI x), .int (nI y)] M (fun v M' => (v = some (.int (smI (smeS f n E B x y B.length 0))) ∧ M = M')) := by
  refine pt_in (b := mb_10 g) rfl (fun kf => ?_)
  show pl (mT g) kf (mb_10 g).2 (0, [(0, .ref o), (1, .int t), (2, .int (nI x)), (3, .int (nI y))], [], M) _
  obtain ⟨hL9, H, m, qq, F, cc, hP9, -, -, hb9, -⟩ := id hV
  have h_q := hP9.1
  have hN9 := hb9.2.2.1
  obtain ⟨R, h_mm, hR⟩ := hM.2.1
  refine ps_st (S' := (1, [(0, .ref o), (1, .int t), (2, .int (nI x)), (3, .int (nI y))], [.ref o], M)) rfl rfl rfl ?_
  refine ps_get (S' := (4, [(0, .ref o), (1, .int t), (2, .int (nI x)), (3, .int (nI y))], [.ref c], M)) rfl h_o rfl rfl ?_
  refine ps_st (S' := (7, [(0, .ref o), (1, .int t), (2, .int (nI x)), (3, .int (nI y))], [], M)) rfl rfl rfl ?_
  refine ps_st (S' := (8, [(0, .ref o), (1, .int t), (2, .int (nI x)), (3, .int (nI y))], [.ref o], M)) rfl rfl rfl ?_
  refine ps_get (S' := (11, [(0, .ref o), (1, .int t), (2, .int (nI x)), (3, .int (nI y))], [.ref c], M)) rfl h_o rfl rfl ?_
  refine ps_get (S' := (14, [(0, .ref o), (1, .int t), (2, .int (nI x)), (3, .int (nI y))], [.ref q], M)) rfl h_c rfl rfl ?_
  refine ps_st (S' := (15, [(0, .ref o), (1, .int t), (2, .int (nI x)), (3, .int (nI y))], [.int (nI x), .ref q], M)) rfl rfl rfl ?_
  refine pl_call (a := [.ref q, .int (nI x)]) (rest := []) rfl rfl rfl (dy_tagOf (f := f) (n := n) (N := N) (q := q) (E := E) (j := x) (hV) (hx)) (fun v1 M2 q3 => ?_)
  obtain ⟨rfl, rfl⟩ := q3
  show pl _ _ _ (18, [(0, .ref o), (1, .int t), (2, .int (nI x)), (3, .int (nI y))], [.int (nI (tg f E x))], M) _
  refine ps_st (S' := (19, [(0, .ref o), (1, .int t), (2, .int (nI x)), (3, .int (nI y))], [.int 1, .int (nI (tg f E x))], M)) rfl rfl rfl ?_
  refine ps_if2 (S1 := (37, [], [], M)) (S2 := (22, [(0, .ref o), (1, .int t), (2, .int (nI x)), (3, .int (nI y))], [], M)) rfl rfl rfl (fun c_19 => ?_) (fun c_19 => ?_)
  · exact absurd (of_decide_eq_true c_19) (fun h9 => h9 (by rw [hx1]; rfl))
  refine ps_st (S' := (23, [(0, .ref o), (1, .int t), (2, .int (nI x)), (3, .int (nI y))], [.ref o], M)) rfl rfl rfl ?_
  refine ps_get (S' := (26, [(0, .ref o), (1, .int t), (2, .int (nI x)), (3, .int (nI y))], [.ref c], M)) rfl h_o rfl rfl ?_
  refine ps_get (S' := (29, [(0, .ref o), (1, .int t), (2, .int (nI x)), (3, .int (nI y))], [.ref q], M)) rfl h_c rfl rfl ?_
  refine ps_st (S' := (30, [(0, .ref o), (1, .int t), (2, .int (nI x)), (3, .int (nI y))], [.int (nI y), .ref q], M)) rfl rfl rfl ?_
  refine pl_call (a := [.ref q, .int (nI y)]) (rest := []) rfl rfl rfl (dy_tagOf (f := f) (n := n) (N := N) (q := q) (E := E) (j := y) (hV) (hy)) (fun v4 M5 q6 => ?_)
  obtain ⟨rfl, rfl⟩ := q6
  show pl _ _ _ (33, [(0, .ref o), (1, .int t), (2, .int (nI x)), (3, .int (nI y))], [.int (nI (tg f E y))], M) _
  refine ps_st (S' := (34, [(0, .ref o), (1, .int t), (2, .int (nI x)), (3, .int (nI y))], [.int 1, .int (nI (tg f E y))], M)) rfl rfl rfl ?_
  refine ps_if2 (S1 := (39, [(0, .ref o), (1, .int t), (2, .int (nI x)), (3, .int (nI y))], [], M)) (S2 := (37, [], [], M)) rfl rfl rfl (fun c_34 => ?_) (fun c_34 => ?_)
  rotate_left
  · exact absurd (by rw [hy1]; rfl) (of_decide_eq_false c_34)
  refine ps_st (S' := (40, [(0, .ref o), (1, .int t), (2, .int (nI x)), (3, .int (nI y))], [.int t], M)) rfl rfl rfl ?_
  refine ps_if (S1 := (53, [(0, .ref o), (1, .int t), (2, .int (nI x)), (3, .int (nI y))], [], M)) (S2 := (43, [(0, .ref o), (1, .int t), (2, .int (nI x)), (3, .int (nI y))], [], M)) rfl rfl rfl (fun c_40 => ?_) (fun c_40 => ?_)
  rotate_left
  · exact absurd (ht) (of_decide_eq_false c_40)
  refine ps_st (S' := (54, [(0, .ref o), (1, .int t), (2, .int (nI x)), (3, .int (nI y))], [.ref o], M)) rfl rfl rfl ?_
  refine ps_get (S' := (57, [(0, .ref o), (1, .int t), (2, .int (nI x)), (3, .int (nI y))], [.ref c], M)) rfl h_o rfl rfl ?_
  refine ps_get (S' := (60, [(0, .ref o), (2, .int (nI x)), (3, .int (nI y))], [.ref fr], M)) rfl h_c rfl rfl ?_
  refine ps_st (S' := (62, [(4, .ref fr), (0, .ref o), (2, .int (nI x)), (3, .int (nI y))], [], M)) rfl rfl rfl ?_
  refine ps_st (S' := (63, [(4, .ref fr), (0, .ref o), (2, .int (nI x)), (3, .int (nI y))], [.ref o], M)) rfl rfl rfl ?_
  refine ps_get (S' := (66, [(4, .ref fr), (0, .ref o), (2, .int (nI x)), (3, .int (nI y))], [.ref c], M)) rfl h_o rfl rfl ?_
  refine ps_get (S' := (69, [(4, .ref fr), (0, .ref o), (2, .int (nI x)), (3, .int (nI y))], [.ref q], M)) rfl h_c rfl rfl ?_
  refine ps_st (S' := (71, [(4, .ref fr), (0, .ref o), (2, .int (nI x)), (3, .int (nI y))], [.ref fr, .ref q], M)) rfl rfl rfl ?_
  refine ps_st (S' := (73, [(4, .ref fr), (0, .ref o), (2, .int (nI x)), (3, .int (nI y))], [.ref fr, .ref fr, .ref q], M)) rfl rfl rfl ?_
  refine ps_aalen (S' := (74, [(4, .ref fr), (0, .ref o), (2, .int (nI x)), (3, .int (nI y))], [.int (nI B.length), .ref fr, .ref q], M)) rfl h_mm rfl ?_
  refine ps_st (S' := (75, [(4, .ref fr), (0, .ref o), (2, .int (nI x)), (3, .int (nI y))], [.int (nI x), .int (nI B.length), .ref fr, .ref q], M)) rfl rfl rfl ?_
  refine ps_st (S' := (76, [(4, .ref fr), (0, .ref o), (2, .int (nI x)), (3, .int (nI y))], [.int (nI y), .int (nI x), .int (nI B.length), .ref fr, .ref q], M)) rfl rfl rfl ?_
  refine pl_call (a := [.ref q, .ref fr, .int (nI B.length), .int (nI x), .int (nI y)]) (rest := []) rfl rfl rfl (dk_sameMember (f := f) (n := n) (N := N) (q := q) (E := E) (B := B) (G := G) (mm := fr) (kk := kk) (c0 := B.length) (x := x) (y := y) (hV) (hM) (⟨Nat.le_refl _, hBl⟩) (hx) (hy)) (fun v7 M8 q9 => ?_)
  rcases q9 with q9 | q9
  · skip
    obtain ⟨q76_s, rfl, rfl⟩ := q9
    show pl _ _ _ (79, [(4, .ref fr), (0, .ref o), (2, .int (nI x)), (3, .int (nI y))], [.int (-1)], M) _
    exact ps_ret rfl rfl (⟨by rw [q76_s]; rfl, rfl⟩)
  · skip
    obtain ⟨k10, q76_s, q76_k, rfl, rfl⟩ := q9
    show pl _ _ _ (79, [(4, .ref fr), (0, .ref o), (2, .int (nI x)), (3, .int (nI y))], [.int (nI k10)], M) _
    exact ps_reti rfl (⟨by rw [q76_s]; rfl, rfl⟩)
set_option maxHeartbeats 1000000 in
theorem dk_findM {g : xe_G} {M : mi_H} {f : Nat → Int32} {n N q : Nat} {E : List (Nat × Nat)} {o ca fl c b fr mr : Nat} {cn wp u2 u3 u4 u5 : Int32} {w : List Value} {t : Int32} {x y kk : Nat} {B : List Nat} {G : Nat → Nat} (h_o : M.1 o = some (ob 11 [.ref ca, .int cn, .ref fl, .ref c, .int wp])) (h_c : M.1 c = some (ob 3 (.ref b :: .ref q :: .int u2 :: .int u3 :: .int u4 :: .int u5 :: .ref fr :: .ref mr :: w))) (hV : PV g f n N E q M) (hx : x < 65536) (hy : y < 65536) (hx1 : tg f E x = 1) (hy1 : tg f E y = 1) (hM : MV f B mr G kk M) (hBl : B.length < 65536) (ht : ¬ t = 0) : pt (mT g) 10 [.ref o, .int t, .int (nI x), .int (nI y)] M (fun v M' => (v = some (.int (smI (smeS f n E B x y B.length 0))) ∧ M = M')) := by
  refine pt_in (b := mb_10 g) rfl (fun kf => ?_)
  show pl (mT g) kf (mb_10 g).2 (0, [(0, .ref o), (1, .int t), (2, .int (nI x)), (3, .int (nI y))], [], M) _
  obtain ⟨hL9, H, m, qq, F, cc, hP9, -, -, hb9, -⟩ := id hV
  have h_q := hP9.1
  have hN9 := hb9.2.2.1
  obtain ⟨R, h_mm, hR⟩ := hM.2.1
  refine ps_st (S' := (1, [(0, .ref o), (1, .int t), (2, .int (nI x)), (3, .int (nI y))], [.ref o], M)) rfl rfl rfl ?_
  refine ps_get (S' := (4, [(0, .ref o), (1, .int t), (2, .int (nI x)), (3, .int (nI y))], [.ref c], M)) rfl h_o rfl rfl ?_
  refine ps_st (S' := (7, [(0, .ref o), (1, .int t), (2, .int (nI x)), (3, .int (nI y))], [], M)) rfl rfl rfl ?_
  refine ps_st (S' := (8, [(0, .ref o), (1, .int t), (2, .int (nI x)), (3, .int (nI y))], [.ref o], M)) rfl rfl rfl ?_
  refine ps_get (S' := (11, [(0, .ref o), (1, .int t), (2, .int (nI x)), (3, .int (nI y))], [.ref c], M)) rfl h_o rfl rfl ?_
  refine ps_get (S' := (14, [(0, .ref o), (1, .int t), (2, .int (nI x)), (3, .int (nI y))], [.ref q], M)) rfl h_c rfl rfl ?_
  refine ps_st (S' := (15, [(0, .ref o), (1, .int t), (2, .int (nI x)), (3, .int (nI y))], [.int (nI x), .ref q], M)) rfl rfl rfl ?_
  refine pl_call (a := [.ref q, .int (nI x)]) (rest := []) rfl rfl rfl (dy_tagOf (f := f) (n := n) (N := N) (q := q) (E := E) (j := x) (hV) (hx)) (fun v1 M2 q3 => ?_)
  obtain ⟨rfl, rfl⟩ := q3
  show pl _ _ _ (18, [(0, .ref o), (1, .int t), (2, .int (nI x)), (3, .int (nI y))], [.int (nI (tg f E x))], M) _
  refine ps_st (S' := (19, [(0, .ref o), (1, .int t), (2, .int (nI x)), (3, .int (nI y))], [.int 1, .int (nI (tg f E x))], M)) rfl rfl rfl ?_
  refine ps_if2 (S1 := (37, [], [], M)) (S2 := (22, [(0, .ref o), (1, .int t), (2, .int (nI x)), (3, .int (nI y))], [], M)) rfl rfl rfl (fun c_19 => ?_) (fun c_19 => ?_)
  · exact absurd (of_decide_eq_true c_19) (fun h9 => h9 (by rw [hx1]; rfl))
  refine ps_st (S' := (23, [(0, .ref o), (1, .int t), (2, .int (nI x)), (3, .int (nI y))], [.ref o], M)) rfl rfl rfl ?_
  refine ps_get (S' := (26, [(0, .ref o), (1, .int t), (2, .int (nI x)), (3, .int (nI y))], [.ref c], M)) rfl h_o rfl rfl ?_
  refine ps_get (S' := (29, [(0, .ref o), (1, .int t), (2, .int (nI x)), (3, .int (nI y))], [.ref q], M)) rfl h_c rfl rfl ?_
  refine ps_st (S' := (30, [(0, .ref o), (1, .int t), (2, .int (nI x)), (3, .int (nI y))], [.int (nI y), .ref q], M)) rfl rfl rfl ?_
  refine pl_call (a := [.ref q, .int (nI y)]) (rest := []) rfl rfl rfl (dy_tagOf (f := f) (n := n) (N := N) (q := q) (E := E) (j := y) (hV) (hy)) (fun v4 M5 q6 => ?_)
  obtain ⟨rfl, rfl⟩ := q6
  show pl _ _ _ (33, [(0, .ref o), (1, .int t), (2, .int (nI x)), (3, .int (nI y))], [.int (nI (tg f E y))], M) _
  refine ps_st (S' := (34, [(0, .ref o), (1, .int t), (2, .int (nI x)), (3, .int (nI y))], [.int 1, .int (nI (tg f E y))], M)) rfl rfl rfl ?_
  refine ps_if2 (S1 := (39, [(0, .ref o), (1, .int t), (2, .int (nI x)), (3, .int (nI y))], [], M)) (S2 := (37, [], [], M)) rfl rfl rfl (fun c_34 => ?_) (fun c_34 => ?_)
  rotate_left
  · exact absurd (by rw [hy1]; rfl) (of_decide_eq_false c_34)
  refine ps_st (S' := (40, [(0, .ref o), (1, .int t), (2, .int (nI x)), (3, .int (nI y))], [.int t], M)) rfl rfl rfl ?_
  refine ps_if (S1 := (53, [(0, .ref o), (1, .int t), (2, .int (nI x)), (3, .int (nI y))], [], M)) (S2 := (43, [(0, .ref o), (1, .int t), (2, .int (nI x)), (3, .int (nI y))], [], M)) rfl rfl rfl (fun c_40 => ?_) (fun c_40 => ?_)
  · exact absurd (of_decide_eq_true c_40) (ht)
  refine ps_st (S' := (44, [(0, .ref o), (1, .int t), (2, .int (nI x)), (3, .int (nI y))], [.ref o], M)) rfl rfl rfl ?_
  refine ps_get (S' := (47, [(0, .ref o), (1, .int t), (2, .int (nI x)), (3, .int (nI y))], [.ref c], M)) rfl h_o rfl rfl ?_
  refine ps_get (S' := (50, [(0, .ref o), (1, .int t), (2, .int (nI x)), (3, .int (nI y))], [.ref mr], M)) rfl h_c rfl rfl ?_
  refine ps_st (S' := (60, [(0, .ref o), (2, .int (nI x)), (3, .int (nI y))], [.ref mr], M)) rfl rfl rfl ?_
  refine ps_st (S' := (62, [(4, .ref mr), (0, .ref o), (2, .int (nI x)), (3, .int (nI y))], [], M)) rfl rfl rfl ?_
  refine ps_st (S' := (63, [(4, .ref mr), (0, .ref o), (2, .int (nI x)), (3, .int (nI y))], [.ref o], M)) rfl rfl rfl ?_
  refine ps_get (S' := (66, [(4, .ref mr), (0, .ref o), (2, .int (nI x)), (3, .int (nI y))], [.ref c], M)) rfl h_o rfl rfl ?_
  refine ps_get (S' := (69, [(4, .ref mr), (0, .ref o), (2, .int (nI x)), (3, .int (nI y))], [.ref q], M)) rfl h_c rfl rfl ?_
  refine ps_st (S' := (71, [(4, .ref mr), (0, .ref o), (2, .int (nI x)), (3, .int (nI y))], [.ref mr, .ref q], M)) rfl rfl rfl ?_
  refine ps_st (S' := (73, [(4, .ref mr), (0, .ref o), (2, .int (nI x)), (3, .int (nI y))], [.ref mr, .ref mr, .ref q], M)) rfl rfl rfl ?_
  refine ps_aalen (S' := (74, [(4, .ref mr), (0, .ref o), (2, .int (nI x)), (3, .int (nI y))], [.int (nI B.length), .ref mr, .ref q], M)) rfl h_mm rfl ?_
  refine ps_st (S' := (75, [(4, .ref mr), (0, .ref o), (2, .int (nI x)), (3, .int (nI y))], [.int (nI x), .int (nI B.length), .ref mr, .ref q], M)) rfl rfl rfl ?_
  refine ps_st (S' := (76, [(4, .ref mr), (0, .ref o), (2, .int (nI x)), (3, .int (nI y))], [.int (nI y), .int (nI x), .int (nI B.length), .ref mr, .ref q], M)) rfl rfl rfl ?_
  refine pl_call (a := [.ref q, .ref mr, .int (nI B.length), .int (nI x), .int (nI y)]) (rest := []) rfl rfl rfl (dk_sameMember (f := f) (n := n) (N := N) (q := q) (E := E) (B := B) (G := G) (mm := mr) (kk := kk) (c0 := B.length) (x := x) (y := y) (hV) (hM) (⟨Nat.le_refl _, hBl⟩) (hx) (hy)) (fun v7 M8 q9 => ?_)
  rcases q9 with q9 | q9
  · skip
    obtain ⟨q76_s, rfl, rfl⟩ := q9
    show pl _ _ _ (79, [(4, .ref mr), (0, .ref o), (2, .int (nI x)), (3, .int (nI y))], [.int (-1)], M) _
    exact ps_ret rfl rfl (⟨by rw [q76_s]; rfl, rfl⟩)
  · skip
    obtain ⟨k10, q76_s, q76_k, rfl, rfl⟩ := q9
    show pl _ _ _ (79, [(4, .ref mr), (0, .ref o), (2, .int (nI x)), (3, .int (nI y))], [.int (nI k10)], M) _
    exact ps_reti rfl (⟨by rw [q76_s]; rfl, rfl⟩)
theorem dk_find {g : xe_G} {M : mi_H} {ko : Option (Nat × (Nat → Int32))} {kv : Value} {cm o fl : Nat} {cn wp t x y : Int32} (hx : M.1 o = some (ob 11 [.ref cm, .int cn, .ref fl, kv, .int wp])) (hK : KPC g ko kv cm M) : pt (mT g) 10 [.ref o, .int t, .int x, .int y] M (fun v M' => v = some (.int (fdK ko t x y)) ∧ M = M') := by
  cases ko with
  | none =>
    have e : kv = .null := hK
    subst e
    exact dk_find0 hx
  | some r =>
    obtain ⟨c, da, rfl, ⟨b, q, N, E, p1, pF, pM, pA, w, h1, h2, h3, h4, h5, rfl, -, -, fr, mr, G1, G2, k1, k2, bc, K, rfl, m1, m2, -, m3, m4, -⟩, -, -⟩ := hK
    rw [fdK_is h5]
    have h0 := tg_0 (whole_in h5)
    unfold fdI
    by_cases hx1 : tg r.2 E x.toNatClampNeg = 1
    · by_cases hy1 : tg r.2 E y.toNatClampNeg = 1
      · rw [if_pos ⟨hx1, hy1⟩]
        obtain ⟨hL9, H, m, qq, F, cc, hP9, hT9, -, hb9, hVF, -⟩ := id h4
        obtain ⟨ex, lx⟩ := tg_nn hb9.1 hVF.2.1 h0 hx1
        obtain ⟨ey, ly⟩ := tg_nn hb9.1 hVF.2.1 h0 hy1
        obtain ⟨i, ei⟩ : ∃ i, i = x.toNatClampNeg := ⟨_, rfl⟩
        obtain ⟨j, ej⟩ : ∃ j, j = y.toNatClampNeg := ⟨_, rfl⟩
        rw [← ei] at ex lx hx1 ⊢
        rw [← ej] at ey ly hy1 ⊢
        subst ex
        subst ey
        by_cases ht : t = 0
        · rw [if_pos ht]
          exact dk_findF hx h1 h4 lx ly hx1 hy1 m1 (mbs_len m3) ht
        · rw [if_neg ht]
          exact dk_findM hx h1 h4 lx ly hx1 hy1 m2 (mbs_len m4) ht
      · rw [if_neg (fun q => hy1 q.2)]
        exact dk_findB hx h1 h4 h0 hx1 hy1
    · rw [if_neg (fun q => hx1 q.1)]
      exact dk_findA hx h1 h4 h0 hx1
