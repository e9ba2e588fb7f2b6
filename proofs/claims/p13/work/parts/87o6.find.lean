section
/-! a member by its name and its descriptor, as both sides find it (my own text) -/
section FDA
variable {f : Nat → Int32} {n : Nat} {E : List (Nat × Nat)}
def smI (o : Option Nat) : Int32 := match o with
  | none => -1
  | some k => nI k
def fdI (f : Nat → Int32) (n : Nat) (E : List (Nat × Nat)) (B : List Nat) (x y : Int32) : Int32 := if tg f E x.toNatClampNeg = 1 ∧ tg f E y.toNatClampNeg = 1 then smI (smeS f n E B x.toNatClampNeg y.toNatClampNeg B.length 0) else -1
/-- what is kept finds it -/
def fdK (ko : Option (Nat × (Nat → Int32))) (t x y : Int32) : Int32 := match ko with
  | none => -1
  | some r => match s_whole r.2 r.1 with
    | .inl _ => -1
    | .inr w => fdI r.2 r.1 w.1 (if t = 0 then mbs r.2 r.1 (by2 r.2 w.2.2.1) (w.2.2.1 + 2) else mbs r.2 r.1 (by2 r.2 w.2.2.2.1) (w.2.2.2.1 + 2)) x y
theorem fdK_is {r : Nat × (Nat → Int32)} {t x y : Int32} {p1 pF pM pA : Nat} (h : s_whole r.2 r.1 = .inr (E, p1, pF, pM, pA)) : fdK (some r) t x y = fdI r.2 r.1 E (if t = 0 then mbs r.2 r.1 (by2 r.2 pF) (pF + 2) else mbs r.2 r.1 (by2 r.2 pM) (pM + 2)) x y := by
  show (match s_whole r.2 r.1 with | .inl _ => -1 | .inr w => fdI r.2 r.1 w.1 (if t = 0 then mbs r.2 r.1 (by2 r.2 w.2.2.1) (w.2.2.1 + 2) else mbs r.2 r.1 (by2 r.2 w.2.2.2.1) (w.2.2.2.1 + 2)) x y) = _
  rw [h]
theorem mbs_len {p p' : Nat} (h : s_mbs f n p = .inr p') : (mbs f n (by2 f p) (p + 2)).length < 65536 := by
  unfold s_mbs at h
  split at h
  · cases h
  · rw [(mbs_in h).1]
    exact by2_lt _ _
/-- a number whose entry is a text -/
theorem tg_nn {x : Int32} {H : Nat} (hH : H ≤ 65536) (hlo : ∀ j, H ≤ j → tg f E j = 0) (h0 : tg f E 0 = 0) (h : tg f E x.toNatClampNeg = 1) : x = nI x.toNatClampNeg ∧ x.toNatClampNeg < 65536 := by
  refine ⟨i32_nn (fun h9 => ?_), Nat.not_le.mp (fun h9 => ?_)⟩
  · rw [i32_cl h9, h0] at h
    cases h
  · rw [hlo _ (by omega)] at h
    cases h
end FDA
set_option maxHeartbeats 1000000 in
theorem dk_find0 {g : xe_G} {M : mi_H} {o ca fl : Nat} {cn wp t x y : Int32} (h_o : M.1 o = some (ob 11 [.ref ca, .int cn, .ref fl, .null, .int wp]))  : pt (mT g) 10 [.ref o, .int t, .int x, .int y] M (fun v M' => (v = some (.int (-1)) ∧ M = M')) := by
  refine pt_in (b := mb_10 g) rfl (fun kf => ?_)
  show pl (mT g) kf (mb_10 g).2 (0, [(0, .ref o), (1, .int t), (2, .int x), (3, .int y)], [], M) _
  refine ps_st (S' := (1, [(0, .ref o), (1, .int t), (2, .int x), (3, .int y)], [.ref o], M)) rfl rfl rfl ?_
  refine ps_get (S' := (4, [(0, .ref o), (1, .int t), (2, .int x), (3, .int y)], [.null], M)) rfl h_o rfl rfl ?_
  refine ps_st (S' := (37, [], [], M)) rfl rfl rfl ?_
  refine ps_st (S' := (38, [], [.int (-1)], M)) rfl rfl rfl ?_
  exact ps_ret rfl rfl (⟨rfl, rfl⟩)
set_option maxHeartbeats 1000000 in
theorem dk_findA {g : xe_G} {M : mi_H} {f : Nat → Int32} {n N q : Nat} {E : List (Nat × Nat)} {o ca fl c b fr mr : Nat} {cn wp u2 u3 u4 u5 : Int32} {w : List Value} {t x y : Int32} (h_o : M.1 o = some (ob 11 [.ref ca, .int cn, .ref fl, .ref c, .int wp])) (h_c : M.1 c = some (ob 3 (.ref b :: .ref q :: .int u2 :: .int u3 :: .int u4 :: .int u5 :: .ref fr :: .ref mr :: w))) (hV : PV g f n N E q M) (h0 : tg f E 0 = 0) (ht : ¬ tg f E x.toNatClampNeg = 1) : pt (mT g) 10 [.ref o, .int t, .int x, .int y] M (fun v M' => (v = some (.int (-1)) ∧ M = M')) := by
  refine pt_in (b := mb_10 g) rfl (fun kf => ?_)
  show pl (mT g) kf (mb_10 g).2 (0, [(0, .ref o), (1, .int t), (2, .int x), (3, .int y)], [], M) _
  obtain ⟨hL9, H, m, qq, F, cc, hP9, -, -, hb9, -⟩ := id hV
  have h_q := hP9.1
  have hN9 := hb9.2.2.1
  refine ps_st (S' := (1, [(0, .ref o), (1, .int t), (2, .int x), (3, .int y)], [.ref o], M)) rfl rfl rfl ?_
  refine ps_get (S' := (4, [(0, .ref o), (1, .int t), (2, .int x), (3, .int y)], [.ref c], M)) rfl h_o rfl rfl ?_
  refine ps_st (S' := (7, [(0, .ref o), (1, .int t), (2, .int x), (3, .int y)], [], M)) rfl rfl rfl ?_
  refine ps_st (S' := (8, [(0, .ref o), (1, .int t), (2, .int x), (3, .int y)], [.ref o], M)) rfl rfl rfl ?_
  refine ps_get (S' := (11, [(0, .ref o), (1, .int t), (2, .int x), (3, .int y)], [.ref c], M)) rfl h_o rfl rfl ?_
  refine ps_get (S' := (14, [(0, .ref o), (1, .int t), (2, .int x), (3, .int y)], [.ref q], M)) rfl h_c rfl rfl ?_
  refine ps_st (S' := (15, [(0, .ref o), (1, .int t), (2, .int x), (3, .int y)], [.int x, .ref q], M)) rfl rfl rfl ?_
  refine pl_call (a := [.ref q, .int x]) (rest := []) rfl rfl rfl (dz_tagOf (f := f) (n := n) (N := N) (q := q) (E := E) (k := x) (hV) (h0)) (fun v1 M2 q3 => ?_)
  obtain ⟨rfl, rfl⟩ := q3
  show pl _ _ _ (18, [(0, .ref o), (1, .int t), (2, .int x), (3, .int y)], [.int (nI (tg f E x.toNatClampNeg))], M) _
  refine ps_st (S' := (19, [(0, .ref o), (1, .int t), (2, .int x), (3, .int y)], [.int 1, .int (nI (tg f E x.toNatClampNeg))], M)) rfl rfl rfl ?_
  refine ps_if2 (S1 := (37, [], [], M)) (S2 := (22, [(0, .ref o), (1, .int t), (2, .int x), (3, .int y)], [], M)) rfl rfl rfl (fun c_19 => ?_) (fun c_19 => ?_)
  rotate_left
  · exact absurd (show ¬ (nI (tg f E x.toNatClampNeg)) = 1 from fun h9 => ht ((eq_nI (p := tg f E x.toNatClampNeg) (n := 1) (Nat.lt_trans (tg_lt _ _ _) (by decide)) (by decide)).mp h9)) (of_decide_eq_false c_19)
  refine ps_st (S' := (38, [], [.int (-1)], M)) rfl rfl rfl ?_
  exact ps_ret rfl rfl (⟨rfl, rfl⟩)
set_option maxHeartbeats 1000000 in
theorem dk_findB {g : xe_G} {M : mi_H} {f : Nat → Int32} {n N q : Nat} {E : List (Nat × Nat)} {o ca fl c b fr mr : Nat} {cn wp u2 u3 u4 u5 : Int32} {w : List Value} {t x y : Int32} (h_o : M.1 o = some (ob 11 [.ref ca, .int cn, .ref fl, .ref c, .int wp])) (h_c : M.1 c = some (ob 3 (.ref b :: .ref q :: .int u2 :: .int u3 :: .int u4 :: .int u5 :: .ref fr :: .ref mr :: w))) (hV : PV g f n N E q M) (h0 : tg f E 0 = 0) (hx : tg f E x.toNatClampNeg = 1) (ht : ¬ tg f E y.toNatClampNeg = 1) : pt (mT g) 10 [.ref o, .int t, .int x, .int y] M (fun v M' => (v = some (.int (-1)) ∧ M = M')) := by
  refine pt_in (b := mb_10 g) rfl (fun kf => ?_)
  show pl (mT g) kf (mb_10 g).2 (0, [(0, .ref o), (1, .int t), (2, .int x), (3, .int y)], [], M) _
  obtain ⟨hL9, H, m, qq, F, cc, hP9, -, -, hb9, -⟩ := id hV
  have h_q := hP9.1
  have hN9 := hb9.2.2.1
  refine ps_st (S' := (1, [(0, .ref o), (1, .int t), (2, .int x), (3, .int y)], [.ref o], M)) rfl rfl rfl ?_
  refine ps_get (S' := (4, [(0, .ref o), (1, .int t), (2, .int x), (3, .int y)], [.ref c], M)) rfl h_o rfl rfl ?_
  refine ps_st (S' := (7, [(0, .ref o), (1, .int t), (2, .int x), (3, .int y)], [], M)) rfl rfl rfl ?_
  refine ps_st (S' := (8, [(0, .ref o), (1, .int t), (2, .int x), (3, .int y)], [.ref o], M)) rfl rfl rfl ?_
  refine ps_get (S' := (11, [(0, .ref o), (1, .int t), (2, .int x), (3, .int y)], [.ref c], M)) rfl h_o rfl rfl ?_
  refine ps_get (S' := (14, [(0, .ref o), (1, .int t), (2, .int x), (3, .int y)], [.ref q], M)) rfl h_c rfl rfl ?_
  refine ps_st (S' := (15, [(0, .ref o), (1, .int t), (2, .int x), (3, .int y)], [.int x, .ref q], M)) rfl rfl rfl ?_
  refine pl_call (a := [.ref q, .int x]) (rest := []) rfl rfl rfl (dz_tagOf (f := f) (n := n) (N := N) (q := q) (E := E) (k := x) (hV) (h0)) (fun v1 M2 q3 => ?_)
  obtain ⟨rfl, rfl⟩ := q3
  show pl _ _ _ (18, [(0, .ref o), (1, .int t), (2, .int x), (3, .int y)], [.int (nI (tg f E x.toNatClampNeg))], M) _
  refine ps_st (S' := (19, [(0, .ref o), (1, .int t), (2, .int x), (3, .int y)], [.int 1, .int (nI (tg f E x.toNatClampNeg))], M)) rfl rfl rfl ?_
  refine ps_if2 (S1 := (37, [], [], M)) (S2 := (22, [(0, .ref o), (1, .int t), (2, .int x), (3, .int y)], [], M)) rfl rfl rfl (fun c_19 => ?_) (fun c_19 => ?_)
  · exact absurd (of_decide_eq_true c_19) (fun h9 => h9 ((eq_nI (p := tg f E x.toNatClampNeg) (n := 1) (Nat.lt_trans (tg_lt _ _ _) (by decide)) (by decide)).mpr hx))
  refine ps_st (S' := (23, [(0, .ref o), (1, .int t), (2, .int x), (3, .int y)], [.ref o], M)) rfl rfl rfl ?_
  refine ps_get (S' := (26, [(0, .ref o), (1, .int t), (2, .int x), (3, .int y)], [.ref c], M)) rfl h_o rfl rfl ?_
  refine ps_get (S' := (29, [(0, .ref o), (1, .int t), (2, .int x), (3, .int y)], [.ref q], M)) rfl h_c rfl rfl ?_
  refine ps_st (S' := (30, [(0, .ref o), (1, .int t), (2, .int x), (3, .int y)], [.int y, .ref q], M)) rfl rfl rfl ?_
  refine pl_call (a := [.ref q, .int y]) (rest := []) rfl rfl rfl (dz_tagOf (f := f) (n := n) (N := N) (q := q) (E := E) (k := y) (hV) (h0)) (fun v4 M5 q6 => ?_)
  obtain ⟨rfl, rfl⟩ := q6
  show pl _ _ _ (33, [(0, .ref o), (1, .int t), (2, .int x), (3, .int y)], [.int (nI (tg f E y.toNatClampNeg))], M) _
  refine ps_st (S' := (34, [(0, .ref o), (1, .int t), (2, .int x), (3, .int y)], [.int 1, .int (nI (tg f E y.toNatClampNeg))], M)) rfl rfl rfl ?_
  refine ps_if2 (S1 := (39, [(0, .ref o), (1, .int t), (2, .int x), (3, .int y)], [], M)) (S2 := (37, [], [], M)) rfl rfl rfl (fun c_34 => ?_) (fun c_34 => ?_)
  · exact absurd (of_decide_eq_true c_34) (fun h9 => ht ((eq_nI (p := tg f E y.toNatClampNeg) (n := 1) (Nat.lt_trans (tg_lt _ _ _) (by decide)) (by decide)).mp h9))
  refine ps_st (S' := (38, [], [.int (-1)], M)) rfl rfl rfl ?_
  exact ps_ret rfl rfl (⟨rfl, rfl⟩)
set_option maxHeartbeats 1000000 in
theorem dk_findF {g : xe_G} {M : mi_H} {f : Nat → Int32} {n N q : Nat} {E : List (Nat × Nat)} {o ca fl c b fr mr : Nat} {cn wp u2 u3 u4 u5 : Int32} {w : List Value} {t : Int32} {x y kk : Nat} {B : List Nat} {G : Nat → Nat} (h_o : M.1 o = some (ob 11 [.ref ca, .int cn, .ref fl, .ref c, .int wp])) (h_c : M.1 c = some (ob 3 (.ref b :: .ref q :: .int u2 :: .int u3 :: .int u4 :: .int u5 :: .ref fr :: .ref mr :: w))) (hV : PV g f n N E q M) (hx : x < 65536) (hy : y < 65536) (hx1 : tg f E x = 1) (hy1 : tg f E y = 1) (hM : MV f B fr G kk M) (hBl : B.length < 65536) (ht : t = 0) : pt (mT g) 10 [.ref o, .int t, .int (nI x), .int (nI y)] M (fun v M' => (v = some (.int (smI (smeS f n E B x y B.length 0))) ∧ M = M')) := by
  refine pt_in (b := mb_10 g) rfl (fun kf => ?_)
  show pl (mT g) kf (mb_10 g).2 (0, [(0, .ref o), (1, .int t), (2, .int (nI x)), (3, .int (nI y))], [], M) _
  obtain ⟨hL9, H, m, qq, F, cc, hP9, -, -, hb9, -⟩ := id hV
  have h_q := hP9.1
  have hN9 := hb9.2.2.1
  obtain ⟨R, h_mm, hR⟩ := hM.2.1
  refine ps_st (S' := (1, [(0, .ref o), (1, .int t), (2, .int (nI x)), (3, .int (nI y))], [.ref o], M)) rfl rfl rfl ?_
  refine ps_get (S' := (4, [(0, .ref o), (1, .int t), (2, .int (nI x)), (3, .int (nI y))], [.ref c], M)) rfl h_o rfl rfl ?_
  refine ps_st (S' := (7, [(0, .ref o), (1, .int t), (2, .int (nI x)), (3, .int (nI y))], [], M)) rfl rfl rfl ?_
  refine ps_st (S' := (8, [(0, .ref o), (1, .int t), (2, .int (nI x)), (3, .int (nI y))], [.ref o], M)) rfl rfl rfl ?_
  refine ps_get (S' := (11, [(0, .ref o), (1, .int t), (2, .int (nI x)), (3, .int (nI y))], [.ref c], M)) rfl h_o rfl rfl ?_
  refine ps_get (S' := (14, [(0, .ref o), (1, .int t), (2, .int (nI x)), (3, .int (nI y))], [.ref q], M)) rfl h_c rfl rfl ?_
  refine ps_st (S' := (15, [(0, .ref o), (1, .int t), (2, .int (nI x)), (3, .int (nI y))], [.int (nI x), .ref q], M)) rfl rfl rfl ?_
  refine pl_call (a := [.ref q, .int (nI x)]) (rest := []) rfl rfl rfl (dy_tagOf (f := f) (n := n) (N := N) (q := q) (E := E) (j := x) (hV) (hx)) (fun v1 M2 q3 => ?_)
  obtain ⟨rfl, rfl⟩ := q3
  show pl _ _ _ (18, [(0, .ref o), (1, .int t), (2, .int (nI x)), (3, .int (nI y))], [.int (nI (tg f E x))], M) _
  refine ps_st (S' := (19, [(0, .ref o), (1, .int t), (2, .int (nI x)), (3, .int (nI y))], [.int 1, .int (nI (tg f E x))], M)) rfl rfl rfl ?_
  refine ps_if2 (S1 := (37, [], [], M)) (S2 := (22, [(0, .ref o), (1, .int t), (2, .int (nI x)), (3, .int (nI y))], [], M)) rfl rfl rfl (fun c_19 => ?_) (fun c_19 => ?_)
  · exact absurd (of_decide_eq_true c_19) (fun h9 => h9 (by rw [hx1]; rfl))
  refine ps_st (S' := (23, [(0, .ref o), (1, .int t), (2, .int (nI x)), (3, .int (nI y))], [.ref o], M)) rfl rfl rfl ?_
  refine ps_get (S' := (26, [(0, .ref o), (1, .int t), (2, .int (nI x)), (3, .int (nI y))], [.ref c], M)) rfl h_o rfl rfl ?_
  refine ps_get (S' := (29, [(0, .ref o), (1, .int t), (2, .int (nI x)), (3, .int (nI y))], [.ref q], M)) rfl h_c rfl rfl ?_
  refine ps_st (S' := (30, [(0, .ref o), (1, .int t), (2, .int (nI x)), (3, .int (nI y))], [.int (nI y), .ref q], M)) rfl rfl rfl ?_
  refine pl_call (a := [.ref q, .int (nI y)]) (rest := []) rfl rfl rfl (dy_tagOf (f := f) (n := n) (N := N) (q := q) (E := E) (j := y) (hV) (hy)) (fun v4 M5 q6 => ?_)
  obtain ⟨rfl, rfl⟩ := q6
  show pl _ _ _ (33, [(0, .ref o), (1, .int t), (2, .int (nI x)), (3, .int (nI y))], [.int (nI (tg f E y))], M) _
  refine ps_st (S' := (34, [(0, .ref o), (1, .int t), (2, .int (nI x)), (3, .int (nI y))], [.int 1, .int (nI (tg f E y))], M)) rfl rfl rfl ?_
  refine ps_if2 (S1 := (39, [(0, .ref o), (1, .int t), (2, .int (nI x)), (3, .int (nI y))], [], M)) (S2 := (37, [], [], M)) rfl rfl rfl (fun c_34 => ?_) (fun c_34 => ?_)
  rotate_left
  · exact absurd (by rw [hy1]; rfl) (of_decide_eq_false c_34)
  refine ps_st (S' := (40, [(0, .ref o), (1, .int t), (2, .int (nI x)), (3, .int (nI y))], [.int t], M)) rfl rfl rfl ?_
  refine ps_if (S1 := (53, [(0, .ref o), (1, .int t), (2, .int (nI x)), (3, .int (nI y))], [], M)) (S2 := (43, [(0, .ref o), (1, .int t), (2, .int (nI x)), (3, .int (nI y))], [], M)) rfl rfl rfl (fun c_40 => ?_) (fun c_40 => ?_)
  rotate_left
  · exact absurd (ht) (of_decide_eq_false c_40)
  refine ps_st (S' := (54, [(0, .ref o), (1, .int t), (2, .int (nI x)), (3, .int (nI y))], [.ref o], M)) rfl rfl rfl ?_
  refine ps_get (S' := (57, [(0, .ref o), (1, .int t), (2, .int (nI x)), (3, .int (nI y))], [.ref c], M)) rfl h_o rfl rfl ?_
  refine ps_get (S' := (60, [(0, .ref o), (2, .int (nI x)), (3, .int (nI y))], [.ref fr], M)) rfl h_c rfl rfl ?_
  refine ps_st (S' := (62, [(4, .ref fr), (0, .ref o), (2, .int (nI x)), (3, .int (nI y))], [], M)) rfl rfl rfl ?_
  refine ps_st (S' := (63, [(4, .ref fr), (0, .ref o), (2, .int (nI x)), (3, .int (nI y))], [.ref o], M)) rfl rfl rfl ?_
  refine ps_get (S' := (66, [(4, .ref fr), (0, .ref o), (2, .int (nI x)), (3, .int (nI y))], [.ref c], M)) rfl h_o rfl rfl ?_
  refine ps_get (S' := (69, [(4, .ref fr), (0, .ref o), (2, .int (nI x)), (3, .int (nI y))], [.ref q], M)) rfl h_c rfl rfl ?_
  refine ps_st (S' := (71, [(4, .ref fr), (0, .ref o), (2, .int (nI x)), (3, .int (nI y))], [.ref fr, .ref q], M)) rfl rfl rfl ?_
  refine ps_st (S' := (73, [(4, .ref fr), (0, .ref o), (2, .int (nI x)), (3, .int (nI y))], [.ref fr, .ref fr, .ref q], M)) rfl rfl rfl ?_
  refine ps_aalen (S' := (74, [(4, .ref fr), (0, .ref o), (2, .int (nI x)), (3, .int (nI y))], [.int (nI B.length), .ref fr, .ref q], M)) rfl h_mm rfl ?_
  refine ps_st (S' := (75, [(4, .ref fr), (0, .ref o), (2, .int (nI x)), (3, .int (nI y))], [.int (nI x), .int (nI B.length), .ref fr, .ref q], M)) rfl rfl rfl ?_
  refine ps_st (S' := (76, [(4, .ref fr), (0, .ref o), (2, .int (nI x)), (3, .int (nI y))], [.int (nI y), .int (nI x), .int (nI B.length), .ref fr, .ref q], M)) rfl rfl rfl ?_
  refine pl_call (a := [.ref q, .ref fr, .int (nI B.length), .int (nI x), .int (nI y)]) (rest := []) rfl rfl rfl (dk_sameMember (f := f) (n := n) (N := N) (q := q) (E := E) (B := B) (G := G) (mm := fr) (kk := kk) (c0 := B.length) (x := x) (y := y) (hV) (hM) (⟨Nat.le_refl _, hBl⟩) (hx) (hy)) (fun v7 M8 q9 => ?_)
  rcases q9 with q9 | q9
  · skip
    obtain ⟨q76_s, rfl, rfl⟩ := q9
    show pl _ _ _ (79, [(4, .ref fr), (0, .ref o), (2, .int (nI x)), (3, .int (nI y))], [.int (-1)], M) _
    exact ps_ret rfl rfl (⟨by rw [q76_s]; rfl, rfl⟩)
  · skip
    obtain ⟨k10, q76_s, q76_k, rfl, rfl⟩ := q9
    show pl _ _ _ (79, [(4, .ref fr), (0, .ref o), (2, .int (nI x)), (3, .int (nI y))], [.int (nI k10)], M) _
    exact ps_reti rfl (⟨by rw [q76_s]; rfl, rfl⟩)
set_option maxHeartbeats 1000000 in
theorem dk_findM {g : xe_G} {M : mi_H} {f : Nat → Int32} {n N q : Nat} {E : List (Nat × Nat)} {o ca fl c b fr mr : Nat} {cn wp u2 u3 u4 u5 : Int32} {w : List Value} {t : Int32} {x y kk : Nat} {B : List Nat} {G : Nat → Nat} (h_o : M.1 o = some (ob 11 [.ref ca, .int cn, .ref fl, .ref c, .int wp])) (h_c : M.1 c = some (ob 3 (.ref b :: .ref q :: .int u2 :: .int u3 :: .int u4 :: .int u5 :: .ref fr :: .ref mr :: w))) (hV : PV g f n N E q M) (hx : x < 65536) (hy : y < 65536) (hx1 : tg f E x = 1) (hy1 : tg f E y = 1) (hM : MV f B mr G kk M) (hBl : B.length < 65536) (ht : ¬ t = 0) : pt (mT g) 10 [.ref o, .int t, .int (nI x), .int (nI y)] M (fun v M' => (v = some (.int (smI (smeS f n E B x y B.length 0))) ∧ M = M')) := by
  refine pt_in (b := mb_10 g) rfl (fun kf => ?_)
  show pl (mT g) kf (mb_10 g).2 (0, [(0, .ref o), (1, .int t), (2, .int (nI x)), (3, .int (nI y))], [], M) _
  obtain ⟨hL9, H, m, qq, F, cc, hP9, -, -, hb9, -⟩ := id hV
  have h_q := hP9.1
  have hN9 := hb9.2.2.1
  obtain ⟨R, h_mm, hR⟩ := hM.2.1
  refine ps_st (S' := (1, [(0, .ref o), (1, .int t), (2, .int (nI x)), (3, .int (nI y))], [.ref o], M)) rfl rfl rfl ?_
  refine ps_get (S' := (4, [(0, .ref o), (1, .int t), (2, .int (nI x)), (3, .int (nI y))], [.ref c], M)) rfl h_o rfl rfl ?_
  refine ps_st (S' := (7, [(0, .ref o), (1, .int t), (2, .int (nI x)), (3, .int (nI y))], [], M)) rfl rfl rfl ?_
  refine ps_st (S' := (8, [(0, .ref o), (1, .int t), (2, .int (nI x)), (3, .int (nI y))], [.ref o], M)) rfl rfl rfl ?_
  refine ps_get (S' := (11, [(0, .ref o), (1, .int t), (2, .int (nI x)), (3, .int (nI y))], [.ref c], M)) rfl h_o rfl rfl ?_
  refine ps_get (S' := (14, [(0, .ref o), (1, .int t), (2, .int (nI x)), (3, .int (nI y))], [.ref q], M)) rfl h_c rfl rfl ?_
  refine ps_st (S' := (15, [(0, .ref o), (1, .int t), (2, .int (nI x)), (3, .int (nI y))], [.int (nI x), .ref q], M)) rfl rfl rfl ?_
  refine pl_call (a := [.ref q, .int (nI x)]) (rest := []) rfl rfl rfl (dy_tagOf (f := f) (n := n) (N := N) (q := q) (E := E) (j := x) (hV) (hx)) (fun v1 M2 q3 => ?_)
  obtain ⟨rfl, rfl⟩ := q3
  show pl _ _ _ (18, [(0, .ref o), (1, .int t), (2, .int (nI x)), (3, .int (nI y))], [.int (nI (tg f E x))], M) _
  refine ps_st (S' := (19, [(0, .ref o), (1, .int t), (2, .int (nI x)), (3, .int (nI y))], [.int 1, .int (nI (tg f E x))], M)) rfl rfl rfl ?_
  refine ps_if2 (S1 := (37, [], [], M)) (S2 := (22, [(0, .ref o), (1, .int t), (2, .int (nI x)), (3, .int (nI y))], [], M)) rfl rfl rfl (fun c_19 => ?_) (fun c_19 => ?_)
  · exact absurd (of_decide_eq_true c_19) (fun h9 => h9 (by rw [hx1]; rfl))
  refine ps_st (S' := (23, [(0, .ref o), (1, .int t), (2, .int (nI x)), (3, .int (nI y))], [.ref o], M)) rfl rfl rfl ?_
  refine ps_get (S' := (26, [(0, .ref o), (1, .int t), (2, .int (nI x)), (3, .int (nI y))], [.ref c], M)) rfl h_o rfl rfl ?_
  refine ps_get (S' := (29, [(0, .ref o), (1, .int t), (2, .int (nI x)), (3, .int (nI y))], [.ref q], M)) rfl h_c rfl rfl ?_
  refine ps_st (S' := (30, [(0, .ref o), (1, .int t), (2, .int (nI x)), (3, .int (nI y))], [.int (nI y), .ref q], M)) rfl rfl rfl ?_
  refine pl_call (a := [.ref q, .int (nI y)]) (rest := []) rfl rfl rfl (dy_tagOf (f := f) (n := n) (N := N) (q := q) (E := E) (j := y) (hV) (hy)) (fun v4 M5 q6 => ?_)
  obtain ⟨rfl, rfl⟩ := q6
  show pl _ _ _ (33, [(0, .ref o), (1, .int t), (2, .int (nI x)), (3, .int (nI y))], [.int (nI (tg f E y))], M) _
  refine ps_st (S' := (34, [(0, .ref o), (1, .int t), (2, .int (nI x)), (3, .int (nI y))], [.int 1, .int (nI (tg f E y))], M)) rfl rfl rfl ?_
  refine ps_if2 (S1 := (39, [(0, .ref o), (1, .int t), (2, .int (nI x)), (3, .int (nI y))], [], M)) (S2 := (37, [], [], M)) rfl rfl rfl (fun c_34 => ?_) (fun c_34 => ?_)
  rotate_left
  · exact absurd (by rw [hy1]; rfl) (of_decide_eq_false c_34)
  refine ps_st (S' := (40, [(0, .ref o), (1, .int t), (2, .int (nI x)), (3, .int (nI y))], [.int t], M)) rfl rfl rfl ?_
  refine ps_if (S1 := (53, [(0, .ref o), (1, .int t), (2, .int (nI x)), (3, .int (nI y))], [], M)) (S2 := (43, [(0, .ref o), (1, .int t), (2, .int (nI x)), (3, .int (nI y))], [], M)) rfl rfl rfl (fun c_40 => ?_) (fun c_40 => ?_)
  · exact absurd (of_decide_eq_true c_40) (ht)
  refine ps_st (S' := (44, [(0, .ref o), (1, .int t), (2, .int (nI x)), (3, .int (nI y))], [.ref o], M)) rfl rfl rfl ?_
  refine ps_get (S' := (47, [(0, .ref o), (1, .int t), (2, .int (nI x)), (3, .int (nI y))], [.ref c], M)) rfl h_o rfl rfl ?_
  refine ps_get (S' := (50, [(0, .ref o), (1, .int t), (2, .int (nI x)), (3, .int (nI y))], [.ref mr], M)) rfl h_c rfl rfl ?_
  refine ps_st (S' := (60, [(0, .ref o), (2, .int (nI x)), (3, .int (nI y))], [.ref mr], M)) rfl rfl rfl ?_
  refine ps_st (S' := (62, [(4, .ref mr), (0, .ref o), (2, .int (nI x)), (3, .int (nI y))], [], M)) rfl rfl rfl ?_
  refine ps_st (S' := (63, [(4, .ref mr), (0, .ref o), (2, .int (nI x)), (3, .int (nI y))], [.ref o], M)) rfl rfl rfl ?_
  refine ps_get (S' := (66, [(4, .ref mr), (0, .ref o), (2, .int (nI x)), (3, .int (nI y))], [.ref c], M)) rfl h_o rfl rfl ?_
  refine ps_get (S' := (69, [(4, .ref mr), (0, .ref o), (2, .int (nI x)), (3, .int (nI y))], [.ref q], M)) rfl h_c rfl rfl ?_
  refine ps_st (S' := (71, [(4, .ref mr), (0, .ref o), (2, .int (nI x)), (3, .int (nI y))], [.ref mr, .ref q], M)) rfl rfl rfl ?_
  refine ps_st (S' := (73, [(4, .ref mr), (0, .ref o), (2, .int (nI x)), (3, .int (nI y))], [.ref mr, .ref mr, .ref q], M)) rfl rfl rfl ?_
  refine ps_aalen (S' := (74, [(4, .ref mr), (0, .ref o), (2, .int (nI x)), (3, .int (nI y))], [.int (nI B.length), .ref mr, .ref q], M)) rfl h_mm rfl ?_
  refine ps_st (S' := (75, [(4, .ref mr), (0, .ref o), (2, .int (nI x)), (3, .int (nI y))], [.int (nI x), .int (nI B.length), .ref mr, .ref q], M)) rfl rfl rfl ?_
  refine ps_st (S' := (76, [(4, .ref mr), (0, .ref o), (2, .int (nI x)), (3, .int (nI y))], [.int (nI y), .int (nI x), .int (nI B.length), .ref mr, .ref q], M)) rfl rfl rfl ?_
  refine pl_call (a := [.ref q, .ref mr, .int (nI B.length), .int (nI x), .int (nI y)]) (rest := []) rfl rfl rfl (dk_sameMember (f := f) (n := n) (N := N) (q := q) (E := E) (B := B) (G := G) (mm := mr) (kk := kk) (c0 := B.length) (x := x) (y := y) (hV) (hM) (⟨Nat.le_refl _, hBl⟩) (hx) (hy)) (fun v7 M8 q9 => ?_)
  rcases q9 with q9 | q9
  · skip
    obtain ⟨q76_s, rfl, rfl⟩ := q9
    show pl _ _ _ (79, [(4, .ref mr), (0, .ref o), (2, .int (nI x)), (3, .int (nI y))], [.int (-1)], M) _
    exact ps_ret rfl rfl (⟨by rw [q76_s]; rfl, rfl⟩)
  · skip
    obtain ⟨k10, q76_s, q76_k, rfl, rfl⟩ := q9
    show pl _ _ _ (79, [(4, .ref mr), (0, .ref o), (2, .int (nI x)), (3, .int (nI y))], [.int (nI k10)], M) _
    exact ps_reti rfl (⟨by rw [q76_s]; rfl, rfl⟩)
theorem dk_find {g : xe_G} {M : mi_H} {ko : Option (Nat × (Nat → Int32))} {kv : Value} {cm o fl : Nat} {cn wp t x y : Int32} (hx : M.1 o = some (ob 11 [.ref cm, .int cn, .ref fl, kv, .int wp])) (hK : KPC g ko kv cm M) : pt (mT g) 10 [.ref o, .int t, .int x, .int y] M (fun v M' => v = some (.int (fdK ko t x y)) ∧ M = M') := by
  cases ko with
  | none =>
    have e : kv = .null := hK
    subst e
    exact dk_find0 hx
  | some r =>
    obtain ⟨c, da, rfl, ⟨b, q, N, E, p1, pF, pM, pA, w, h1, h2, h3, h4, h5, rfl, -, -, fr, mr, G1, G2, k1, k2, bc, K, rfl, m1, m2, -, m3, m4, -⟩, -, -⟩ := hK
    rw [fdK_is h5]
    have h0 := tg_0 (whole_in h5)
    unfold fdI
    by_cases hx1 : tg r.2 E x.toNatClampNeg = 1
    · by_cases hy1 : tg r.2 E y.toNatClampNeg = 1
      · rw [if_pos ⟨hx1, hy1⟩]
        obtain ⟨hL9, H, m, qq, F, cc, hP9, hT9, -, hb9, hVF, -⟩ := id h4
        obtain ⟨ex, lx⟩ := tg_nn hb9.1 hVF.2.1 h0 hx1
        obtain ⟨ey, ly⟩ := tg_nn hb9.1 hVF.2.1 h0 hy1
        obtain ⟨i, ei⟩ : ∃ i, i = x.toNatClampNeg := ⟨_, rfl⟩
        obtain ⟨j, ej⟩ : ∃ j, j = y.toNatClampNeg := ⟨_, rfl⟩
        rw [← ei] at ex lx hx1 ⊢
        rw [← ej] at ey ly hy1 ⊢
        subst ex
        subst ey
        by_cases ht : t = 0
        · rw [if_pos ht]
          exact dk_findF hx h1 h4 lx ly hx1 hy1 m1 (mbs_len m3) ht
        · rw [if_neg ht]
          exact dk_findM hx h1 h4 lx ly hx1 hy1 m2 (mbs_len m4) ht
      · rw [if_neg (fun q => hy1 q.2)]
        exact dk_findB hx h1 h4 h0 hx1 hy1
    · rw [if_neg (fun q => hx1 q.1)]
      exact dk_findA hx h1 h4 h0 hx1
end
section
set_option maxHeartbeats 1000000 in
theorem rd_find0 {g : xe_G} {m0 : Nat} {q : Nat → Nat} {z : Nat × Nat} {I : rI} {R : rR} {M : mi_H} {kn t x y : Int32} (hR : RS g m0 q z I R M) (hi18 : I 18 = some kn)  (hk : kn < 0) : pt (mT g) 207 [.ref m0, .int t, .int x, .int y] M (fun v M' => (∃  (I' : rI) (R' : rR), v = some (.int (-1)) ∧ RS g m0 q z I' R' M' ∧ eqI [0] I I' ∧ eqR [] R R' ∧ I' 0 = some 0)) := by
  refine pt_in (b := mb_207 g) rfl (fun kf => ?_)
  show pl (mT g) kf (mb_207 g).2 (0, [(0, .ref m0), (1, .int t), (2, .int x), (3, .int y)], [], M) _
  have hEI : eqI [0] I I := eqI.rf
  have hER : eqR [] R R := eqR.rf
  refine ps_st (S' := (1, [(0, .ref m0), (1, .int t), (2, .int x), (3, .int y)], [.ref m0], M)) rfl rfl rfl ?_
  refine ps_st (S' := (2, [(0, .ref m0), (1, .int t), (2, .int x), (3, .int y)], [.int 0, .ref m0], M)) rfl rfl rfl ?_
  refine pr_put (j := 0) rfl hR rfl (fun M1 I2 hR3 hi4 hI5 => ?_)
  have hi6 := (hI5 18 (by decide)).trans hi18
  have hEI7 := hEI.put hI5 (by decide)
  show pl _ _ _ (5, [(0, .ref m0), (1, .int t), (2, .int x), (3, .int y)], [], M1) _
  refine ps_st (S' := (6, [(0, .ref m0), (1, .int t), (2, .int x), (3, .int y)], [.ref m0], M1)) rfl rfl rfl ?_
  refine pr_int (j := 18) (S' := (9, [(0, .ref m0), (1, .int t), (2, .int x), (3, .int y)], [.int kn], M1)) rfl hR3 rfl hi6 rfl ?_
  refine ps_if (S1 := (30, [], [], M1)) (S2 := (12, [(0, .ref m0), (1, .int t), (2, .int x), (3, .int y)], [], M1)) rfl rfl rfl (fun c_9 => ?_) (fun c_9 => ?_)
  rotate_left
  · exact absurd (hk) (of_decide_eq_false c_9)
  refine ps_st (S' := (31, [], [.int (-1)], M1)) rfl rfl rfl ?_
  exact ps_ret rfl rfl (⟨I2, R, rfl, hR3, hEI7, hER, hi4⟩)
set_option maxHeartbeats 1000000 in
theorem rd_findA {g : xe_G} {m0 : Nat} {q : Nat → Nat} {z : Nat × Nat} {I : rI} {R : rR} {M : mi_H} {n : Nat} {f : Nat → Int32} {tx : List (List Nat)} {cN : Nat} {A : Nat → Nat} {N mj : Nat} {E : List (Nat × Nat)} {n2 : Nat} {t x y : Int32} (hR : RS g m0 q z I R M) (hi18 : I 18 = some (nI n2)) (hi51 : I 51 = some 0) (hi52 : I 52 = some (nI N)) (hi53 : I 53 = some (nI mj)) (hF : FK n f I R) (hY : SYT tx cN A I R) (hP : RPV f n E tx N I R) (hEP : EP f n E) (hN : N < 65536) (hmj : mj < 65536) (hn2 : n2 ≤ 65540) (h0 : tg f E 0 = 0) (ht : ¬ tg f E x.toNatClampNeg = 1) : pt (mT g) 207 [.ref m0, .int t, .int x, .int y] M (fun v M' => (∃  (I' : rI) (R' : rR), v = some (.int (-1)) ∧ RS g m0 q z I' R' M' ∧ eqI [0] I I' ∧ eqR [] R R' ∧ I' 0 = some 0)) := by
  refine pt_in (b := mb_207 g) rfl (fun kf => ?_)
  show pl (mT g) kf (mb_207 g).2 (0, [(0, .ref m0), (1, .int t), (2, .int x), (3, .int y)], [], M) _
  have hEI : eqI [0] I I := eqI.rf
  have hER : eqR [] R R := eqR.rf
  refine ps_st (S' := (1, [(0, .ref m0), (1, .int t), (2, .int x), (3, .int y)], [.ref m0], M)) rfl rfl rfl ?_
  refine ps_st (S' := (2, [(0, .ref m0), (1, .int t), (2, .int x), (3, .int y)], [.int 0, .ref m0], M)) rfl rfl rfl ?_
  refine pr_put (j := 0) rfl hR rfl (fun M1 I2 hR3 hi4 hI5 => ?_)
  have hi6 := (hI5 18 (by decide)).trans hi18
  have hi7 := (hI5 51 (by decide)).trans hi51
  have hi8 := (hI5 52 (by decide)).trans hi52
  have hi9 := (hI5 53 (by decide)).trans hi53
  have hF_10 := hF.mono (pIx hI5 (by decide)) (fun _ _ => rfl)
  have hY_11 := hY.mono (pIx hI5 (by decide)) (fun _ _ => rfl)
  have hP_12 := hP.mono (pIx hI5 (by decide)) (fun _ _ => rfl)
  have hEI13 := hEI.put hI5 (by decide)
  show pl _ _ _ (5, [(0, .ref m0), (1, .int t), (2, .int x), (3, .int y)], [], M1) _
  refine ps_st (S' := (6, [(0, .ref m0), (1, .int t), (2, .int x), (3, .int y)], [.ref m0], M1)) rfl rfl rfl ?_
  refine pr_int (j := 18) (S' := (9, [(0, .ref m0), (1, .int t), (2, .int x), (3, .int y)], [.int (nI n2)], M1)) rfl hR3 rfl hi6 rfl ?_
  refine ps_if (S1 := (30, [], [], M1)) (S2 := (12, [(0, .ref m0), (1, .int t), (2, .int x), (3, .int y)], [], M1)) rfl rfl rfl (fun c_9 => ?_) (fun c_9 => ?_)
  · exact absurd (of_decide_eq_true c_9) (show ¬ ((nI n2) < 0) from fun h9 => absurd ((lt_nI (p := n2) (n := 0) (by omega) (by decide)).mp h9) (by omega))
  refine ps_st (S' := (13, [(0, .ref m0), (1, .int t), (2, .int x), (3, .int y)], [.ref m0], M1)) rfl rfl rfl ?_
  refine ps_st (S' := (14, [(0, .ref m0), (1, .int t), (2, .int x), (3, .int y)], [.int x, .ref m0], M1)) rfl rfl rfl ?_
  refine pl_call (a := [.ref m0, .int x]) (rest := []) rfl rfl rfl (rd_tagR (n := n) (f := f) (tx := tx) (cN := cN) (A := A) (N := N) (mj := mj) (E := E) (k := x) hR3 hi7 hi8 hi9 hF_10 hY_11 hP_12 (hEP) (hN) (hmj) (h0)) (fun v14 M15 q16 => ?_)
  obtain ⟨rfl, rfl⟩ := q16
  show pl _ _ _ (17, [(0, .ref m0), (1, .int t), (2, .int x), (3, .int y)], [.int (nI (tg f E x.toNatClampNeg))], M1) _
  refine ps_st (S' := (18, [(0, .ref m0), (1, .int t), (2, .int x), (3, .int y)], [.int 1, .int (nI (tg f E x.toNatClampNeg))], M1)) rfl rfl rfl ?_
  refine ps_if2 (S1 := (30, [], [], M1)) (S2 := (21, [(0, .ref m0), (1, .int t), (2, .int x), (3, .int y)], [], M1)) rfl rfl rfl (fun c_18 => ?_) (fun c_18 => ?_)
  rotate_left
  · exact absurd (show ¬ (nI (tg f E x.toNatClampNeg)) = 1 from fun h9 => ht ((eq_nI (p := tg f E x.toNatClampNeg) (n := 1) (Nat.lt_trans (tg_lt _ _ _) (by decide)) (by decide)).mp h9)) (of_decide_eq_false c_18)
  refine ps_st (S' := (31, [], [.int (-1)], M1)) rfl rfl rfl ?_
  exact ps_ret rfl rfl (⟨I2, R, rfl, hR3, hEI13, hER, hi4⟩)
set_option maxHeartbeats 1000000 in
theorem rd_findB {g : xe_G} {m0 : Nat} {q : Nat → Nat} {z : Nat × Nat} {I : rI} {R : rR} {M : mi_H} {n : Nat} {f : Nat → Int32} {tx : List (List Nat)} {cN : Nat} {A : Nat → Nat} {N mj : Nat} {E : List (Nat × Nat)} {n2 : Nat} {t x y : Int32} (hR : RS g m0 q z I R M) (hi18 : I 18 = some (nI n2)) (hi51 : I 51 = some 0) (hi52 : I 52 = some (nI N)) (hi53 : I 53 = some (nI mj)) (hF : FK n f I R) (hY : SYT tx cN A I R) (hP : RPV f n E tx N I R) (hEP : EP f n E) (hN : N < 65536) (hmj : mj < 65536) (hn2 : n2 ≤ 65540) (h0 : tg f E 0 = 0) (hx : tg f E x.toNatClampNeg = 1) (ht : ¬ tg f E y.toNatClampNeg = 1) : pt (mT g) 207 [.ref m0, .int t, .int x, .int y] M (fun v M' => (∃  (I' : rI) (R' : rR), v = some (.int (-1)) ∧ RS g m0 q z I' R' M' ∧ eqI [0] I I' ∧ eqR [] R R' ∧ I' 0 = some 0)) := by
  refine pt_in (b := mb_207 g) rfl (fun kf => ?_)
  show pl (mT g) kf (mb_207 g).2 (0, [(0, .ref m0), (1, .int t), (2, .int x), (3, .int y)], [], M) _
  have hEI : eqI [0] I I := eqI.rf
  have hER : eqR [] R R := eqR.rf
  refine ps_st (S' := (1, [(0, .ref m0), (1, .int t), (2, .int x), (3, .int y)], [.ref m0], M)) rfl rfl rfl ?_
  refine ps_st (S' := (2, [(0, .ref m0), (1, .int t), (2, .int x), (3, .int y)], [.int 0, .ref m0], M)) rfl rfl rfl ?_
  refine pr_put (j := 0) rfl hR rfl (fun M1 I2 hR3 hi4 hI5 => ?_)
  have hi6 := (hI5 18 (by decide)).trans hi18
  have hi7 := (hI5 51 (by decide)).trans hi51
  have hi8 := (hI5 52 (by decide)).trans hi52
  have hi9 := (hI5 53 (by decide)).trans hi53
  have hF_10 := hF.mono (pIx hI5 (by decide)) (fun _ _ => rfl)
  have hY_11 := hY.mono (pIx hI5 (by decide)) (fun _ _ => rfl)
  have hP_12 := hP.mono (pIx hI5 (by decide)) (fun _ _ => rfl)
  have hEI13 := hEI.put hI5 (by decide)
  show pl _ _ _ (5, [(0, .ref m0), (1, .int t), (2, .int x), (3, .int y)], [], M1) _
  refine ps_st (S' := (6, [(0, .ref m0), (1, .int t), (2, .int x), (3, .int y)], [.ref m0], M1)) rfl rfl rfl ?_
  refine pr_int (j := 18) (S' := (9, [(0, .ref m0), (1, .int t), (2, .int x), (3, .int y)], [.int (nI n2)], M1)) rfl hR3 rfl hi6 rfl ?_
  refine ps_if (S1 := (30, [], [], M1)) (S2 := (12, [(0, .ref m0), (1, .int t), (2, .int x), (3, .int y)], [], M1)) rfl rfl rfl (fun c_9 => ?_) (fun c_9 => ?_)
  · exact absurd (of_decide_eq_true c_9) (show ¬ ((nI n2) < 0) from fun h9 => absurd ((lt_nI (p := n2) (n := 0) (by omega) (by decide)).mp h9) (by omega))
  refine ps_st (S' := (13, [(0, .ref m0), (1, .int t), (2, .int x), (3, .int y)], [.ref m0], M1)) rfl rfl rfl ?_
  refine ps_st (S' := (14, [(0, .ref m0), (1, .int t), (2, .int x), (3, .int y)], [.int x, .ref m0], M1)) rfl rfl rfl ?_
  refine pl_call (a := [.ref m0, .int x]) (rest := []) rfl rfl rfl (rd_tagR (n := n) (f := f) (tx := tx) (cN := cN) (A := A) (N := N) (mj := mj) (E := E) (k := x) hR3 hi7 hi8 hi9 hF_10 hY_11 hP_12 (hEP) (hN) (hmj) (h0)) (fun v14 M15 q16 => ?_)
  obtain ⟨rfl, rfl⟩ := q16
  show pl _ _ _ (17, [(0, .ref m0), (1, .int t), (2, .int x), (3, .int y)], [.int (nI (tg f E x.toNatClampNeg))], M1) _
  refine ps_st (S' := (18, [(0, .ref m0), (1, .int t), (2, .int x), (3, .int y)], [.int 1, .int (nI (tg f E x.toNatClampNeg))], M1)) rfl rfl rfl ?_
  refine ps_if2 (S1 := (30, [], [], M1)) (S2 := (21, [(0, .ref m0), (1, .int t), (2, .int x), (3, .int y)], [], M1)) rfl rfl rfl (fun c_18 => ?_) (fun c_18 => ?_)
  · exact absurd (of_decide_eq_true c_18) (fun h9 => h9 ((eq_nI (p := tg f E x.toNatClampNeg) (n := 1) (Nat.lt_trans (tg_lt _ _ _) (by decide)) (by decide)).mpr hx))
  refine ps_st (S' := (22, [(0, .ref m0), (1, .int t), (2, .int x), (3, .int y)], [.ref m0], M1)) rfl rfl rfl ?_
  refine ps_st (S' := (23, [(0, .ref m0), (1, .int t), (2, .int x), (3, .int y)], [.int y, .ref m0], M1)) rfl rfl rfl ?_
  refine pl_call (a := [.ref m0, .int y]) (rest := []) rfl rfl rfl (rd_tagR (n := n) (f := f) (tx := tx) (cN := cN) (A := A) (N := N) (mj := mj) (E := E) (k := y) hR3 hi7 hi8 hi9 hF_10 hY_11 hP_12 (hEP) (hN) (hmj) (h0)) (fun v17 M18 q19 => ?_)
  obtain ⟨rfl, rfl⟩ := q19
  show pl _ _ _ (26, [(0, .ref m0), (1, .int t), (2, .int x), (3, .int y)], [.int (nI (tg f E y.toNatClampNeg))], M1) _
  refine ps_st (S' := (27, [(0, .ref m0), (1, .int t), (2, .int x), (3, .int y)], [.int 1, .int (nI (tg f E y.toNatClampNeg))], M1)) rfl rfl rfl ?_
  refine ps_if2 (S1 := (32, [(0, .ref m0), (1, .int t), (2, .int x), (3, .int y)], [], M1)) (S2 := (30, [], [], M1)) rfl rfl rfl (fun c_27 => ?_) (fun c_27 => ?_)
  · exact absurd (of_decide_eq_true c_27) (fun h9 => ht ((eq_nI (p := tg f E y.toNatClampNeg) (n := 1) (Nat.lt_trans (tg_lt _ _ _) (by decide)) (by decide)).mp h9))
  refine ps_st (S' := (31, [], [.int (-1)], M1)) rfl rfl rfl ?_
  exact ps_ret rfl rfl (⟨I2, R, rfl, hR3, hEI13, hER, hi4⟩)
set_option maxHeartbeats 1000000 in
theorem rd_findF {g : xe_G} {m0 : Nat} {q : Nat → Nat} {z : Nat × Nat} {I : rI} {R : rR} {M : mi_H} {n : Nat} {f : Nat → Int32} {tx : List (List Nat)} {cN : Nat} {A : Nat → Nat} {N mj : Nat} {E : List (Nat × Nat)} {n2 : Nat} {t : Int32} {x y : Nat} {B : List Nat} (hR : RS g m0 q z I R M) (hi18 : I 18 = some (nI n2)) (hi51 : I 51 = some 0) (hi52 : I 52 = some (nI N)) (hi53 : I 53 = some (nI mj)) (hi25 : I 25 = some (nI B.length)) (hF : FK n f I R) (hY : SYT tx cN A I R) (hP : RPV f n E tx N I R) (hN9 : FN 28 29 f n E tx B 0 B.length I R) (hEP : EP f n E) (hN : N < 65536) (hmj : mj < 65536) (hn2 : n2 ≤ 65540) (hx : x < 65536) (hy : y < 65536) (hx1 : tg f E x = 1) (hy1 : tg f E y = 1) (hBl : B.length < 65536) (ht : t = 0) : pt (mT g) 207 [.ref m0, .int t, .int (nI x), .int (nI y)] M (fun v M' => (∃  (I' : rI) (R' : rR), v = some (.int (smI (smeS f n E B x y B.length 0))) ∧ RS g m0 q z I' R' M' ∧ eqI [0] I I' ∧ eqR [] R R' ∧ I' 0 = some 0)) := by
  refine pt_in (b := mb_207 g) rfl (fun kf => ?_)
  show pl (mT g) kf (mb_207 g).2 (0, [(0, .ref m0), (1, .int t), (2, .int (nI x)), (3, .int (nI y))], [], M) _
  have hEI : eqI [0] I I := eqI.rf
  have hER : eqR [] R R := eqR.rf
  have hn := hF.1
  have LL : ∀ (kf : Nat), (∀ (s d i : Nat) (M1 : mi_H) (I1 : rI) (R1 : rR), (RS g m0 q z I1 R1 M1) → (eqI [0] I I1) → (eqR [] R R1) → (I1 0 = some 0) → (I1 25 = some (nI B.length)) → (SYT tx cN A I1 R1) → (FN 28 29 f n E tx B 0 B.length I1 R1) → (s < tx.length ∧ tx.getD s [] = tX f n E x) → (d < tx.length ∧ tx.getD d [] = tX f n E y) → (i ≤ B.length) → (smeS f n E B x y (B.length - i) i = smeS f n E B x y B.length 0) →  pl (mT g) kf (mb_207 g).2 (49, [(0, .ref m0), (1, .int t), (4, .int (nI s)), (5, .int (nI d)), (6, .int (nI i))], [], M1) (fun v M' => (∃  (I' : rI) (R' : rR), v = some (.int (smI (smeS f n E B x y B.length 0))) ∧ RS g m0 q z I' R' M' ∧ eqI [0] I I' ∧ eqR [] R R' ∧ I' 0 = some 0))) := by
    intro kf
    induction kf with
    | zero => exact (by intros; exact pl_0)
    | succ kf ih =>
      intro s d i M1 I1 R1 hR1 hEI1 hER1 hl0 hl25 hY1 hN91 hs hd hi hm
      have htl := hY1.1.2.2.1
      have hs7 := hs.1
      have hd7 := hd.1
      refine ps_st1 (S' := (51, [(0, .ref m0), (1, .int t), (4, .int (nI s)), (5, .int (nI d)), (6, .int (nI i))], [.int (nI i)], M1)) rfl rfl rfl ?_
      refine ps_st (S' := (52, [(0, .ref m0), (1, .int t), (4, .int (nI s)), (5, .int (nI d)), (6, .int (nI i))], [.int t, .int (nI i)], M1)) rfl rfl rfl ?_
      refine ps_if (S1 := (62, [(0, .ref m0), (1, .int t), (4, .int (nI s)), (5, .int (nI d)), (6, .int (nI i))], [.int (nI i)], M1)) (S2 := (55, [(0, .ref m0), (1, .int t), (4, .int (nI s)), (5, .int (nI d)), (6, .int (nI i))], [.int (nI i)], M1)) rfl rfl rfl (fun c_52 => ?_) (fun c_52 => ?_)
      rotate_left
      · exact absurd (ht) (of_decide_eq_false c_52)
      refine ps_st (S' := (63, [(0, .ref m0), (1, .int t), (4, .int (nI s)), (5, .int (nI d)), (6, .int (nI i))], [.ref m0, .int (nI i)], M1)) rfl rfl rfl ?_
      refine pr_int (j := 25) (S' := (66, [(0, .ref m0), (1, .int t), (4, .int (nI s)), (5, .int (nI d)), (6, .int (nI i))], [.int (nI B.length), .int (nI i)], M1)) rfl hR1 rfl hl25 rfl ?_
      refine ps_if2 (S1 := (130, [(0, .ref m0), (1, .int t), (4, .int (nI s)), (5, .int (nI d)), (6, .int (nI i))], [], M1)) (S2 := (69, [(0, .ref m0), (1, .int t), (4, .int (nI s)), (5, .int (nI d)), (6, .int (nI i))], [], M1)) rfl rfl rfl (fun c_66 => ?_) (fun c_66 => ?_)
      · have c_66 : (nI B.length) ≤ (nI i) := of_decide_eq_true c_66
        have n_66 : B.length ≤ i := (le_nI (p := B.length) (n := i) (by omega) (by omega)).mp c_66
        refine ps_st (S' := (131, [(0, .ref m0), (1, .int t), (4, .int (nI s)), (5, .int (nI d)), (6, .int (nI i))], [.int (-1)], M1)) rfl rfl rfl ?_
        exact ps_ret rfl rfl (⟨I1, R1, by
            rw [← hm, show B.length - i = 0 by omega]
            rfl, hR1, hEI1, hER1, hl0⟩)
      · have c_66 : ¬ ((nI B.length) ≤ (nI i)) := of_decide_eq_false c_66
        have n_66 : ¬ (B.length ≤ i) := fun h9 => c_66 ((le_nI (p := B.length) (n := i) (by omega) (by omega)).mpr h9)
        obtain ⟨a9, d9, g1, g2, g3, g4, g5, g6⟩ := hN91 i (by omega)
        rw [Nat.zero_add] at g1 g2
        have g7 := g3.1
        have g8 := g4.1
        have sm1 := sm_sym (k := by2 f (B.getD i 0 + 2)) (m := x) hY1 g3 hs g5 hx1
        have sm2 := sm_sym (k := by2 f (B.getD i 0 + 4)) (m := y) hY1 g4 hd g6 hy1
        refine ps_st (S' := (70, [(0, .ref m0), (1, .int t), (4, .int (nI s)), (5, .int (nI d)), (6, .int (nI i))], [.int t], M1)) rfl rfl rfl ?_
        refine ps_if (S1 := (83, [(0, .ref m0), (1, .int t), (4, .int (nI s)), (5, .int (nI d)), (6, .int (nI i))], [], M1)) (S2 := (73, [(0, .ref m0), (1, .int t), (4, .int (nI s)), (5, .int (nI d)), (6, .int (nI i))], [], M1)) rfl rfl rfl (fun c_70 => ?_) (fun c_70 => ?_)
        rotate_left
        · exact absurd (ht) (of_decide_eq_false c_70)
        refine ps_st (S' := (84, [(0, .ref m0), (1, .int t), (4, .int (nI s)), (5, .int (nI d)), (6, .int (nI i))], [.ref m0], M1)) rfl rfl rfl ?_
        refine pr_ref (j := 28) (S' := (87, [(0, .ref m0), (1, .int t), (4, .int (nI s)), (5, .int (nI d)), (6, .int (nI i))], [.ref (q 28)], M1)) rfl hR1 rfl rfl ?_
        refine ps_st (S' := (89, [(0, .ref m0), (1, .int t), (4, .int (nI s)), (5, .int (nI d)), (6, .int (nI i))], [.int (nI i), .ref (q 28)], M1)) rfl rfl rfl ?_
        refine pr_ld (a := 28) (j := i) (y := (nI a9)) (S' := (90, [(0, .ref m0), (1, .int t), (4, .int (nI s)), (5, .int (nI d)), (6, .int (nI i))], [.int (nI a9)], M1)) rfl hR1 rfl (by omega) (fun _ => g1) rfl (fun i1_89 => ?_)
        refine ps_st (S' := (92, [(0, .ref m0), (1, .int t), (4, .int (nI s)), (5, .int (nI d)), (6, .int (nI i))], [.int (nI s), .int (nI a9)], M1)) rfl rfl rfl ?_
        refine ps_if2 (S1 := (124, [(0, .ref m0), (1, .int t), (4, .int (nI s)), (5, .int (nI d)), (6, .int (nI i))], [], M1)) (S2 := (95, [(0, .ref m0), (1, .int t), (4, .int (nI s)), (5, .int (nI d)), (6, .int (nI i))], [], M1)) rfl rfl rfl (fun c_92 => ?_) (fun c_92 => ?_)
        · have c_92 : ¬ (nI a9) = (nI s) := of_decide_eq_true c_92
          have n_92 : ¬ (a9 = s) := fun h9 => c_92 ((eq_nI (p := a9) (n := s) (by omega) (by omega)).mpr h9)
          refine ps_st (S' := (127, [(6, .int ((nI i) + 1)), (0, .ref m0), (1, .int t), (4, .int (nI s)), (5, .int (nI d))], [], M1)) rfl rfl rfl ?_
          rw [nI_add1 (p := i) (k := 1) (x := 1) rfl (by omega)]
          show pl _ _ _ (_, [(6, .int (nI (i + 1))), (0, .ref m0), (1, .int t), (4, .int (nI s)), (5, .int (nI d))], [], M1) _
          refine ps_st (S' := (49, [(0, .ref m0), (1, .int t), (4, .int (nI s)), (5, .int (nI d)), (6, .int (nI (i + 1)))], [], M1)) rfl rfl rfl ?_
          exact ih (s) (d) (i + 1) M1 I1 R1 hR1 hEI1 hER1 hl0 hl25 hY1 hN91 (hs) (hd) (by omega) (by
              rw [← hm, smeS_st (i := i) (by omega), if_neg (by omega)])
        · have c_92 : ¬ (¬ (nI a9) = (nI s)) := of_decide_eq_false c_92
          have n_92 : a9 = s := (eq_nI (p := a9) (n := s) (by omega) (by omega)).mp (Decidable.not_not.mp c_92)
          refine ps_st (S' := (96, [(0, .ref m0), (1, .int t), (4, .int (nI s)), (5, .int (nI d)), (6, .int (nI i))], [.int t], M1)) rfl rfl rfl ?_
          refine ps_if (S1 := (109, [(0, .ref m0), (1, .int t), (4, .int (nI s)), (5, .int (nI d)), (6, .int (nI i))], [], M1)) (S2 := (99, [(0, .ref m0), (1, .int t), (4, .int (nI s)), (5, .int (nI d)), (6, .int (nI i))], [], M1)) rfl rfl rfl (fun c_96 => ?_) (fun c_96 => ?_)
          rotate_left
          · exact absurd (ht) (of_decide_eq_false c_96)
          refine ps_st (S' := (110, [(0, .ref m0), (1, .int t), (4, .int (nI s)), (5, .int (nI d)), (6, .int (nI i))], [.ref m0], M1)) rfl rfl rfl ?_
          refine pr_ref (j := 29) (S' := (113, [(0, .ref m0), (1, .int t), (4, .int (nI s)), (5, .int (nI d)), (6, .int (nI i))], [.ref (q 29)], M1)) rfl hR1 rfl rfl ?_
          refine ps_st (S' := (115, [(0, .ref m0), (1, .int t), (4, .int (nI s)), (5, .int (nI d)), (6, .int (nI i))], [.int (nI i), .ref (q 29)], M1)) rfl rfl rfl ?_
          refine pr_ld (a := 29) (j := i) (y := (nI d9)) (S' := (116, [(0, .ref m0), (1, .int t), (4, .int (nI s)), (5, .int (nI d)), (6, .int (nI i))], [.int (nI d9)], M1)) rfl hR1 rfl (by omega) (fun _ => g2) rfl (fun i1_115 => ?_)
          refine ps_st (S' := (118, [(0, .ref m0), (1, .int t), (4, .int (nI s)), (5, .int (nI d)), (6, .int (nI i))], [.int (nI d), .int (nI d9)], M1)) rfl rfl rfl ?_
          refine ps_if2 (S1 := (124, [(0, .ref m0), (1, .int t), (4, .int (nI s)), (5, .int (nI d)), (6, .int (nI i))], [], M1)) (S2 := (121, [(0, .ref m0), (1, .int t), (4, .int (nI s)), (5, .int (nI d)), (6, .int (nI i))], [], M1)) rfl rfl rfl (fun c_118 => ?_) (fun c_118 => ?_)
          · have c_118 : ¬ (nI d9) = (nI d) := of_decide_eq_true c_118
            have n_118 : ¬ (d9 = d) := fun h9 => c_118 ((eq_nI (p := d9) (n := d) (by omega) (by omega)).mpr h9)
            refine ps_st (S' := (127, [(6, .int ((nI i) + 1)), (0, .ref m0), (1, .int t), (4, .int (nI s)), (5, .int (nI d))], [], M1)) rfl rfl rfl ?_
            rw [nI_add1 (p := i) (k := 1) (x := 1) rfl (by omega)]
            show pl _ _ _ (_, [(6, .int (nI (i + 1))), (0, .ref m0), (1, .int t), (4, .int (nI s)), (5, .int (nI d))], [], M1) _
            refine ps_st (S' := (49, [(0, .ref m0), (1, .int t), (4, .int (nI s)), (5, .int (nI d)), (6, .int (nI (i + 1)))], [], M1)) rfl rfl rfl ?_
            exact ih (s) (d) (i + 1) M1 I1 R1 hR1 hEI1 hER1 hl0 hl25 hY1 hN91 (hs) (hd) (by omega) (by
                rw [← hm, smeS_st (i := i) (by omega), if_neg (by omega)])
          · have c_118 : ¬ (¬ (nI d9) = (nI d)) := of_decide_eq_false c_118
            have n_118 : d9 = d := (eq_nI (p := d9) (n := d) (by omega) (by omega)).mp (Decidable.not_not.mp c_118)
            refine ps_st (S' := (123, [(0, .ref m0), (1, .int t), (4, .int (nI s)), (5, .int (nI d)), (6, .int (nI i))], [.int (nI i)], M1)) rfl rfl rfl ?_
            exact ps_reti rfl (⟨I1, R1, by
                rw [← hm, smeS_st (i := i) (by omega), if_pos (by omega)]
                rfl, hR1, hEI1, hER1, hl0⟩)
  refine ps_st (S' := (1, [(0, .ref m0), (1, .int t), (2, .int (nI x)), (3, .int (nI y))], [.ref m0], M)) rfl rfl rfl ?_
  refine ps_st (S' := (2, [(0, .ref m0), (1, .int t), (2, .int (nI x)), (3, .int (nI y))], [.int 0, .ref m0], M)) rfl rfl rfl ?_
  refine pr_put (j := 0) rfl hR rfl (fun M1 I2 hR3 hi4 hI5 => ?_)
  have hi6 := (hI5 18 (by decide)).trans hi18
  have hi7 := (hI5 51 (by decide)).trans hi51
  have hi8 := (hI5 52 (by decide)).trans hi52
  have hi9 := (hI5 53 (by decide)).trans hi53
  have hi10 := (hI5 25 (by decide)).trans hi25
  have hF_11 := hF.mono (pIx hI5 (by decide)) (fun _ _ => rfl)
  have hY_12 := hY.mono (pIx hI5 (by decide)) (fun _ _ => rfl)
  have hP_13 := hP.mono (pIx hI5 (by decide)) (fun _ _ => rfl)
  have hN9_14 := hN9.mono (pIx hI5 (by decide)) (fun _ _ => rfl)
  have hEI15 := hEI.put hI5 (by decide)
  show pl _ _ _ (5, [(0, .ref m0), (1, .int t), (2, .int (nI x)), (3, .int (nI y))], [], M1) _
  refine ps_st (S' := (6, [(0, .ref m0), (1, .int t), (2, .int (nI x)), (3, .int (nI y))], [.ref m0], M1)) rfl rfl rfl ?_
  refine pr_int (j := 18) (S' := (9, [(0, .ref m0), (1, .int t), (2, .int (nI x)), (3, .int (nI y))], [.int (nI n2)], M1)) rfl hR3 rfl hi6 rfl ?_
  refine ps_if (S1 := (30, [], [], M1)) (S2 := (12, [(0, .ref m0), (1, .int t), (2, .int (nI x)), (3, .int (nI y))], [], M1)) rfl rfl rfl (fun c_9 => ?_) (fun c_9 => ?_)
  · exact absurd (of_decide_eq_true c_9) (show ¬ ((nI n2) < 0) from fun h9 => absurd ((lt_nI (p := n2) (n := 0) (by omega) (by decide)).mp h9) (by omega))
  refine ps_st (S' := (13, [(0, .ref m0), (1, .int t), (2, .int (nI x)), (3, .int (nI y))], [.ref m0], M1)) rfl rfl rfl ?_
  refine ps_st (S' := (14, [(0, .ref m0), (1, .int t), (2, .int (nI x)), (3, .int (nI y))], [.int (nI x), .ref m0], M1)) rfl rfl rfl ?_
  refine pl_call (a := [.ref m0, .int (nI x)]) (rest := []) rfl rfl rfl (rd_tag (n := n) (f := f) (tx := tx) (cN := cN) (A := A) (N := N) (mj := mj) (E := E) (k := x) hR3 hi7 hi8 hi9 hF_11 hY_12 hP_13 (hEP) (hN) (hmj) (by omega)) (fun v16 M17 q18 => ?_)
  obtain ⟨rfl, rfl⟩ := q18
  show pl _ _ _ (17, [(0, .ref m0), (1, .int t), (2, .int (nI x)), (3, .int (nI y))], [.int (nI (tg f E x))], M1) _
  have htg_14 := tg_lt f E x
  refine ps_st (S' := (18, [(0, .ref m0), (1, .int t), (2, .int (nI x)), (3, .int (nI y))], [.int 1, .int (nI (tg f E x))], M1)) rfl rfl rfl ?_
  refine ps_if2 (S1 := (30, [], [], M1)) (S2 := (21, [(0, .ref m0), (1, .int t), (2, .int (nI x)), (3, .int (nI y))], [], M1)) rfl rfl rfl (fun c_18 => ?_) (fun c_18 => ?_)
  · exact absurd (of_decide_eq_true c_18) (fun h9 => h9 (by rw [hx1]; rfl))
  refine ps_st (S' := (22, [(0, .ref m0), (1, .int t), (2, .int (nI x)), (3, .int (nI y))], [.ref m0], M1)) rfl rfl rfl ?_
  refine ps_st (S' := (23, [(0, .ref m0), (1, .int t), (2, .int (nI x)), (3, .int (nI y))], [.int (nI y), .ref m0], M1)) rfl rfl rfl ?_
  refine pl_call (a := [.ref m0, .int (nI y)]) (rest := []) rfl rfl rfl (rd_tag (n := n) (f := f) (tx := tx) (cN := cN) (A := A) (N := N) (mj := mj) (E := E) (k := y) hR3 hi7 hi8 hi9 hF_11 hY_12 hP_13 (hEP) (hN) (hmj) (by omega)) (fun v19 M20 q21 => ?_)
  obtain ⟨rfl, rfl⟩ := q21
  show pl _ _ _ (26, [(0, .ref m0), (1, .int t), (2, .int (nI x)), (3, .int (nI y))], [.int (nI (tg f E y))], M1) _
  have htg_23 := tg_lt f E y
  refine ps_st (S' := (27, [(0, .ref m0), (1, .int t), (2, .int (nI x)), (3, .int (nI y))], [.int 1, .int (nI (tg f E y))], M1)) rfl rfl rfl ?_
  refine ps_if2 (S1 := (32, [(0, .ref m0), (1, .int t), (2, .int (nI x)), (3, .int (nI y))], [], M1)) (S2 := (30, [], [], M1)) rfl rfl rfl (fun c_27 => ?_) (fun c_27 => ?_)
  rotate_left
  · exact absurd (by rw [hy1]; rfl) (of_decide_eq_false c_27)
  refine ps_st (S' := (33, [(0, .ref m0), (1, .int t), (2, .int (nI x)), (3, .int (nI y))], [.ref m0], M1)) rfl rfl rfl ?_
  refine ps_st (S' := (34, [(0, .ref m0), (1, .int t), (2, .int (nI x)), (3, .int (nI y))], [.int (nI x), .ref m0], M1)) rfl rfl rfl ?_
  refine pl_call (a := [.ref m0, .int (nI x)]) (rest := []) rfl rfl rfl (rd_symOf (n := n) (f := f) (tx := tx) (cN := cN) (A := A) (N := N) (mj := mj) (E := E) (k := x) hR3 hi7 hi8 hi9 hF_11 hY_12 hP_13 (hEP) (hN) (hmj) (by omega)) (fun v22 M23 q24 => ?_)
  obtain ⟨s25, q34_s, rfl, rfl⟩ := q24
  show pl _ _ _ (37, [(0, .ref m0), (1, .int t), (2, .int (nI x)), (3, .int (nI y))], [.int (nI s25)], M1) _
  have hsl_34 := q34_s.1
  have htl_34 := hY_12.1.2.2.1
  refine ps_st (S' := (39, [(4, .int (nI s25)), (0, .ref m0), (1, .int t), (2, .int (nI x)), (3, .int (nI y))], [], M1)) rfl rfl rfl ?_
  refine ps_st (S' := (40, [(4, .int (nI s25)), (0, .ref m0), (1, .int t), (2, .int (nI x)), (3, .int (nI y))], [.ref m0], M1)) rfl rfl rfl ?_
  refine ps_st (S' := (41, [(4, .int (nI s25)), (0, .ref m0), (1, .int t), (2, .int (nI x)), (3, .int (nI y))], [.int (nI y), .ref m0], M1)) rfl rfl rfl ?_
  refine pl_call (a := [.ref m0, .int (nI y)]) (rest := []) rfl rfl rfl (rd_symOf (n := n) (f := f) (tx := tx) (cN := cN) (A := A) (N := N) (mj := mj) (E := E) (k := y) hR3 hi7 hi8 hi9 hF_11 hY_12 hP_13 (hEP) (hN) (hmj) (by omega)) (fun v26 M27 q28 => ?_)
  obtain ⟨s29, q41_s, rfl, rfl⟩ := q28
  show pl _ _ _ (44, [(4, .int (nI s25)), (0, .ref m0), (1, .int t), (2, .int (nI x)), (3, .int (nI y))], [.int (nI s29)], M1) _
  have hsl_41 := q41_s.1
  have htl_41 := hY_12.1.2.2.1
  refine ps_st (S' := (46, [(5, .int (nI s29)), (4, .int (nI s25)), (0, .ref m0), (1, .int t), (2, .int (nI x)), (3, .int (nI y))], [], M1)) rfl rfl rfl ?_
  refine ps_st (S' := (47, [(5, .int (nI s29)), (4, .int (nI s25)), (0, .ref m0), (1, .int t), (2, .int (nI x)), (3, .int (nI y))], [.int 0], M1)) rfl rfl rfl ?_
  refine ps_st (S' := (49, [(0, .ref m0), (1, .int t), (4, .int (nI s25)), (5, .int (nI s29)), (6, .int 0)], [], M1)) rfl rfl rfl ?_
  exact (LL kf) (s25) (s29) (0) M1 I2 R hR3 hEI15 hER hi4 hi10 hY_12 hN9_14 (q34_s) (q41_s) (by omega) (rfl)
set_option maxHeartbeats 1000000 in
theorem rd_findM {g : xe_G} {m0 : Nat} {q : Nat → Nat} {z : Nat × Nat} {I : rI} {R : rR} {M : mi_H} {n : Nat} {f : Nat → Int32} {tx : List (List Nat)} {cN : Nat} {A : Nat → Nat} {N mj : Nat} {E : List (Nat × Nat)} {n2 : Nat} {t : Int32} {x y : Nat} {B : List Nat} (hR : RS g m0 q z I R M) (hi18 : I 18 = some (nI n2)) (hi51 : I 51 = some 0) (hi52 : I 52 = some (nI N)) (hi53 : I 53 = some (nI mj)) (hi26 : I 26 = some (nI B.length)) (hF : FK n f I R) (hY : SYT tx cN A I R) (hP : RPV f n E tx N I R) (hN9 : FN 35 36 f n E tx B 0 B.length I R) (hEP : EP f n E) (hN : N < 65536) (hmj : mj < 65536) (hn2 : n2 ≤ 65540) (hx : x < 65536) (hy : y < 65536) (hx1 : tg f E x = 1) (hy1 : tg f E y = 1) (hBl : B.length < 65536) (ht : ¬ t = 0) : pt (mT g) 207 [.ref m0, .int t, .int (nI x), .int (nI y)] M (fun v M' => (∃  (I' : rI) (R' : rR), v = some (.int (smI (smeS f n E B x y B.length 0))) ∧ RS g m0 q z I' R' M' ∧ eqI [0] I I' ∧ eqR [] R R' ∧ I' 0 = some 0)) := by
  refine pt_in (b := mb_207 g) rfl (fun kf => ?_)
  show pl (mT g) kf (mb_207 g).2 (0, [(0, .ref m0), (1, .int t), (2, .int (nI x)), (3, .int (nI y))], [], M) _
  have hEI : eqI [0] I I := eqI.rf
  have hER : eqR [] R R := eqR.rf
  have hn := hF.1
  have LL : ∀ (kf : Nat), (∀ (s d i : Nat) (M1 : mi_H) (I1 : rI) (R1 : rR), (RS g m0 q z I1 R1 M1) → (eqI [0] I I1) → (eqR [] R R1) → (I1 0 = some 0) → (I1 26 = some (nI B.length)) → (SYT tx cN A I1 R1) → (FN 35 36 f n E tx B 0 B.length I1 R1) → (s < tx.length ∧ tx.getD s [] = tX f n E x) → (d < tx.length ∧ tx.getD d [] = tX f n E y) → (i ≤ B.length) → (smeS f n E B x y (B.length - i) i = smeS f n E B x y B.length 0) →  pl (mT g) kf (mb_207 g).2 (49, [(0, .ref m0), (1, .int t), (4, .int (nI s)), (5, .int (nI d)), (6, .int (nI i))], [], M1) (fun v M' => (∃  (I' : rI) (R' : rR), v = some (.int (smI (smeS f n E B x y B.length 0))) ∧ RS g m0 q z I' R' M' ∧ eqI [0] I I' ∧ eqR [] R R' ∧ I' 0 = some 0))) := by
    intro kf
    induction kf with
    | zero => exact (by intros; exact pl_0)
    | succ kf ih =>
      intro s d i M1 I1 R1 hR1 hEI1 hER1 hl0 hl26 hY1 hN91 hs hd hi hm
      have htl := hY1.1.2.2.1
      have hs7 := hs.1
      have hd7 := hd.1
      refine ps_st1 (S' := (51, [(0, .ref m0), (1, .int t), (4, .int (nI s)), (5, .int (nI d)), (6, .int (nI i))], [.int (nI i)], M1)) rfl rfl rfl ?_
      refine ps_st (S' := (52, [(0, .ref m0), (1, .int t), (4, .int (nI s)), (5, .int (nI d)), (6, .int (nI i))], [.int t, .int (nI i)], M1)) rfl rfl rfl ?_
      refine ps_if (S1 := (62, [(0, .ref m0), (1, .int t), (4, .int (nI s)), (5, .int (nI d)), (6, .int (nI i))], [.int (nI i)], M1)) (S2 := (55, [(0, .ref m0), (1, .int t), (4, .int (nI s)), (5, .int (nI d)), (6, .int (nI i))], [.int (nI i)], M1)) rfl rfl rfl (fun c_52 => ?_) (fun c_52 => ?_)
      · exact absurd (of_decide_eq_true c_52) (ht)
      refine ps_st (S' := (56, [(0, .ref m0), (1, .int t), (4, .int (nI s)), (5, .int (nI d)), (6, .int (nI i))], [.ref m0, .int (nI i)], M1)) rfl rfl rfl ?_
      refine pr_int (j := 26) (S' := (59, [(0, .ref m0), (1, .int t), (4, .int (nI s)), (5, .int (nI d)), (6, .int (nI i))], [.int (nI B.length), .int (nI i)], M1)) rfl hR1 rfl hl26 rfl ?_
      refine ps_st (S' := (66, [(0, .ref m0), (1, .int t), (4, .int (nI s)), (5, .int (nI d)), (6, .int (nI i))], [.int (nI B.length), .int (nI i)], M1)) rfl rfl rfl ?_
      refine ps_if2 (S1 := (130, [(0, .ref m0), (1, .int t), (4, .int (nI s)), (5, .int (nI d)), (6, .int (nI i))], [], M1)) (S2 := (69, [(0, .ref m0), (1, .int t), (4, .int (nI s)), (5, .int (nI d)), (6, .int (nI i))], [], M1)) rfl rfl rfl (fun c_66 => ?_) (fun c_66 => ?_)
      · have c_66 : (nI B.length) ≤ (nI i) := of_decide_eq_true c_66
        have n_66 : B.length ≤ i := (le_nI (p := B.length) (n := i) (by omega) (by omega)).mp c_66
        refine ps_st (S' := (131, [(0, .ref m0), (1, .int t), (4, .int (nI s)), (5, .int (nI d)), (6, .int (nI i))], [.int (-1)], M1)) rfl rfl rfl ?_
        exact ps_ret rfl rfl (⟨I1, R1, by
            rw [← hm, show B.length - i = 0 by omega]
            rfl, hR1, hEI1, hER1, hl0⟩)
      · have c_66 : ¬ ((nI B.length) ≤ (nI i)) := of_decide_eq_false c_66
        have n_66 : ¬ (B.length ≤ i) := fun h9 => c_66 ((le_nI (p := B.length) (n := i) (by omega) (by omega)).mpr h9)
        obtain ⟨a9, d9, g1, g2, g3, g4, g5, g6⟩ := hN91 i (by omega)
        rw [Nat.zero_add] at g1 g2
        have g7 := g3.1
        have g8 := g4.1
        have sm1 := sm_sym (k := by2 f (B.getD i 0 + 2)) (m := x) hY1 g3 hs g5 hx1
        have sm2 := sm_sym (k := by2 f (B.getD i 0 + 4)) (m := y) hY1 g4 hd g6 hy1
        refine ps_st (S' := (70, [(0, .ref m0), (1, .int t), (4, .int (nI s)), (5, .int (nI d)), (6, .int (nI i))], [.int t], M1)) rfl rfl rfl ?_
        refine ps_if (S1 := (83, [(0, .ref m0), (1, .int t), (4, .int (nI s)), (5, .int (nI d)), (6, .int (nI i))], [], M1)) (S2 := (73, [(0, .ref m0), (1, .int t), (4, .int (nI s)), (5, .int (nI d)), (6, .int (nI i))], [], M1)) rfl rfl rfl (fun c_70 => ?_) (fun c_70 => ?_)
        · exact absurd (of_decide_eq_true c_70) (ht)
        refine ps_st (S' := (74, [(0, .ref m0), (1, .int t), (4, .int (nI s)), (5, .int (nI d)), (6, .int (nI i))], [.ref m0], M1)) rfl rfl rfl ?_
        refine pr_ref (j := 35) (S' := (77, [(0, .ref m0), (1, .int t), (4, .int (nI s)), (5, .int (nI d)), (6, .int (nI i))], [.ref (q 35)], M1)) rfl hR1 rfl rfl ?_
        refine ps_st (S' := (79, [(0, .ref m0), (1, .int t), (4, .int (nI s)), (5, .int (nI d)), (6, .int (nI i))], [.int (nI i), .ref (q 35)], M1)) rfl rfl rfl ?_
        refine pr_ld (a := 35) (j := i) (y := (nI a9)) (S' := (80, [(0, .ref m0), (1, .int t), (4, .int (nI s)), (5, .int (nI d)), (6, .int (nI i))], [.int (nI a9)], M1)) rfl hR1 rfl (by omega) (fun _ => g1) rfl (fun i1_79 => ?_)
        refine ps_st (S' := (90, [(0, .ref m0), (1, .int t), (4, .int (nI s)), (5, .int (nI d)), (6, .int (nI i))], [.int (nI a9)], M1)) rfl rfl rfl ?_
        refine ps_st (S' := (92, [(0, .ref m0), (1, .int t), (4, .int (nI s)), (5, .int (nI d)), (6, .int (nI i))], [.int (nI s), .int (nI a9)], M1)) rfl rfl rfl ?_
        refine ps_if2 (S1 := (124, [(0, .ref m0), (1, .int t), (4, .int (nI s)), (5, .int (nI d)), (6, .int (nI i))], [], M1)) (S2 := (95, [(0, .ref m0), (1, .int t), (4, .int (nI s)), (5, .int (nI d)), (6, .int (nI i))], [], M1)) rfl rfl rfl (fun c_92 => ?_) (fun c_92 => ?_)
        · have c_92 : ¬ (nI a9) = (nI s) := of_decide_eq_true c_92
          have n_92 : ¬ (a9 = s) := fun h9 => c_92 ((eq_nI (p := a9) (n := s) (by omega) (by omega)).mpr h9)
          refine ps_st (S' := (127, [(6, .int ((nI i) + 1)), (0, .ref m0), (1, .int t), (4, .int (nI s)), (5, .int (nI d))], [], M1)) rfl rfl rfl ?_
          rw [nI_add1 (p := i) (k := 1) (x := 1) rfl (by omega)]
          show pl _ _ _ (_, [(6, .int (nI (i + 1))), (0, .ref m0), (1, .int t), (4, .int (nI s)), (5, .int (nI d))], [], M1) _
          refine ps_st (S' := (49, [(0, .ref m0), (1, .int t), (4, .int (nI s)), (5, .int (nI d)), (6, .int (nI (i + 1)))], [], M1)) rfl rfl rfl ?_
          exact ih (s) (d) (i + 1) M1 I1 R1 hR1 hEI1 hER1 hl0 hl26 hY1 hN91 (hs) (hd) (by omega) (by
              rw [← hm, smeS_st (i := i) (by omega), if_neg (by omega)])
        · have c_92 : ¬ (¬ (nI a9) = (nI s)) := of_decide_eq_false c_92
          have n_92 : a9 = s := (eq_nI (p := a9) (n := s) (by omega) (by omega)).mp (Decidable.not_not.mp c_92)
          refine ps_st (S' := (96, [(0, .ref m0), (1, .int t), (4, .int (nI s)), (5, .int (nI d)), (6, .int (nI i))], [.int t], M1)) rfl rfl rfl ?_
          refine ps_if (S1 := (109, [(0, .ref m0), (1, .int t), (4, .int (nI s)), (5, .int (nI d)), (6, .int (nI i))], [], M1)) (S2 := (99, [(0, .ref m0), (1, .int t), (4, .int (nI s)), (5, .int (nI d)), (6, .int (nI i))], [], M1)) rfl rfl rfl (fun c_96 => ?_) (fun c_96 => ?_)
          · exact absurd (of_decide_eq_true c_96) (ht)
          refine ps_st (S' := (100, [(0, .ref m0), (1, .int t), (4, .int (nI s)), (5, .int (nI d)), (6, .int (nI i))], [.ref m0], M1)) rfl rfl rfl ?_
          refine pr_ref (j := 36) (S' := (103, [(0, .ref m0), (1, .int t), (4, .int (nI s)), (5, .int (nI d)), (6, .int (nI i))], [.ref (q 36)], M1)) rfl hR1 rfl rfl ?_
          refine ps_st (S' := (105, [(0, .ref m0), (1, .int t), (4, .int (nI s)), (5, .int (nI d)), (6, .int (nI i))], [.int (nI i), .ref (q 36)], M1)) rfl rfl rfl ?_
          refine pr_ld (a := 36) (j := i) (y := (nI d9)) (S' := (106, [(0, .ref m0), (1, .int t), (4, .int (nI s)), (5, .int (nI d)), (6, .int (nI i))], [.int (nI d9)], M1)) rfl hR1 rfl (by omega) (fun _ => g2) rfl (fun i1_105 => ?_)
          refine ps_st (S' := (116, [(0, .ref m0), (1, .int t), (4, .int (nI s)), (5, .int (nI d)), (6, .int (nI i))], [.int (nI d9)], M1)) rfl rfl rfl ?_
          refine ps_st (S' := (118, [(0, .ref m0), (1, .int t), (4, .int (nI s)), (5, .int (nI d)), (6, .int (nI i))], [.int (nI d), .int (nI d9)], M1)) rfl rfl rfl ?_
          refine ps_if2 (S1 := (124, [(0, .ref m0), (1, .int t), (4, .int (nI s)), (5, .int (nI d)), (6, .int (nI i))], [], M1)) (S2 := (121, [(0, .ref m0), (1, .int t), (4, .int (nI s)), (5, .int (nI d)), (6, .int (nI i))], [], M1)) rfl rfl rfl (fun c_118 => ?_) (fun c_118 => ?_)
          · have c_118 : ¬ (nI d9) = (nI d) := of_decide_eq_true c_118
            have n_118 : ¬ (d9 = d) := fun h9 => c_118 ((eq_nI (p := d9) (n := d) (by omega) (by omega)).mpr h9)
            refine ps_st (S' := (127, [(6, .int ((nI i) + 1)), (0, .ref m0), (1, .int t), (4, .int (nI s)), (5, .int (nI d))], [], M1)) rfl rfl rfl ?_
            rw [nI_add1 (p := i) (k := 1) (x := 1) rfl (by omega)]
            show pl _ _ _ (_, [(6, .int (nI (i + 1))), (0, .ref m0), (1, .int t), (4, .int (nI s)), (5, .int (nI d))], [], M1) _
            refine ps_st (S' := (49, [(0, .ref m0), (1, .int t), (4, .int (nI s)), (5, .int (nI d)), (6, .int (nI (i + 1)))], [], M1)) rfl rfl rfl ?_
            exact ih (s) (d) (i + 1) M1 I1 R1 hR1 hEI1 hER1 hl0 hl26 hY1 hN91 (hs) (hd) (by omega) (by
                rw [← hm, smeS_st (i := i) (by omega), if_neg (by omega)])
          · have c_118 : ¬ (¬ (nI d9) = (nI d)) := of_decide_eq_false c_118
            have n_118 : d9 = d := (eq_nI (p := d9) (n := d) (by omega) (by omega)).mp (Decidable.not_not.mp c_118)
            refine ps_st (S' := (123, [(0, .ref m0), (1, .int t), (4, .int (nI s)), (5, .int (nI d)), (6, .int (nI i))], [.int (nI i)], M1)) rfl rfl rfl ?_
            exact ps_reti rfl (⟨I1, R1, by
                rw [← hm, smeS_st (i := i) (by omega), if_pos (by omega)]
                rfl, hR1, hEI1, hER1, hl0⟩)
  refine ps_st (S' := (1, [(0, .ref m0), (1, .int t), (2, .int (nI x)), (3, .int (nI y))], [.ref m0], M)) rfl rfl rfl ?_
  refine ps_st (S' := (2, [(0, .ref m0), (1, .int t), (2, .int (nI x)), (3, .int (nI y))], [.int 0, .ref m0], M)) rfl rfl rfl ?_
  refine pr_put (j := 0) rfl hR rfl (fun M1 I2 hR3 hi4 hI5 => ?_)
  have hi6 := (hI5 18 (by decide)).trans hi18
  have hi7 := (hI5 51 (by decide)).trans hi51
  have hi8 := (hI5 52 (by decide)).trans hi52
  have hi9 := (hI5 53 (by decide)).trans hi53
  have hi10 := (hI5 26 (by decide)).trans hi26
  have hF_11 := hF.mono (pIx hI5 (by decide)) (fun _ _ => rfl)
  have hY_12 := hY.mono (pIx hI5 (by decide)) (fun _ _ => rfl)
  have hP_13 := hP.mono (pIx hI5 (by decide)) (fun _ _ => rfl)
  have hN9_14 := hN9.mono (pIx hI5 (by decide)) (fun _ _ => rfl)
  have hEI15 := hEI.put hI5 (by decide)
  show pl _ _ _ (5, [(0, .ref m0), (1, .int t), (2, .int (nI x)), (3, .int (nI y))], [], M1) _
  refine ps_st (S' := (6, [(0, .ref m0), (1, .int t), (2, .int (nI x)), (3, .int (nI y))], [.ref m0], M1)) rfl rfl rfl ?_
  refine pr_int (j := 18) (S' := (9, [(0, .ref m0), (1, .int t), (2, .int (nI x)), (3, .int (nI y))], [.int (nI n2)], M1)) rfl hR3 rfl hi6 rfl ?_
  refine ps_if (S1 := (30, [], [], M1)) (S2 := (12, [(0, .ref m0), (1, .int t), (2, .int (nI x)), (3, .int (nI y))], [], M1)) rfl rfl rfl (fun c_9 => ?_) (fun c_9 => ?_)
  · exact absurd (of_decide_eq_true c_9) (show ¬ ((nI n2) < 0) from fun h9 => absurd ((lt_nI (p := n2) (n := 0) (by omega) (by decide)).mp h9) (by omega))
  refine ps_st (S' := (13, [(0, .ref m0), (1, .int t), (2, .int (nI x)), (3, .int (nI y))], [.ref m0], M1)) rfl rfl rfl ?_
  refine ps_st (S' := (14, [(0, .ref m0), (1, .int t), (2, .int (nI x)), (3, .int (nI y))], [.int (nI x), .ref m0], M1)) rfl rfl rfl ?_
  refine pl_call (a := [.ref m0, .int (nI x)]) (rest := []) rfl rfl rfl (rd_tag (n := n) (f := f) (tx := tx) (cN := cN) (A := A) (N := N) (mj := mj) (E := E) (k := x) hR3 hi7 hi8 hi9 hF_11 hY_12 hP_13 (hEP) (hN) (hmj) (by omega)) (fun v16 M17 q18 => ?_)
  obtain ⟨rfl, rfl⟩ := q18
  show pl _ _ _ (17, [(0, .ref m0), (1, .int t), (2, .int (nI x)), (3, .int (nI y))], [.int (nI (tg f E x))], M1) _
  have htg_14 := tg_lt f E x
  refine ps_st (S' := (18, [(0, .ref m0), (1, .int t), (2, .int (nI x)), (3, .int (nI y))], [.int 1, .int (nI (tg f E x))], M1)) rfl rfl rfl ?_
  refine ps_if2 (S1 := (30, [], [], M1)) (S2 := (21, [(0, .ref m0), (1, .int t), (2, .int (nI x)), (3, .int (nI y))], [], M1)) rfl rfl rfl (fun c_18 => ?_) (fun c_18 => ?_)
  · exact absurd (of_decide_eq_true c_18) (fun h9 => h9 (by rw [hx1]; rfl))
  refine ps_st (S' := (22, [(0, .ref m0), (1, .int t), (2, .int (nI x)), (3, .int (nI y))], [.ref m0], M1)) rfl rfl rfl ?_
  refine ps_st (S' := (23, [(0, .ref m0), (1, .int t), (2, .int (nI x)), (3, .int (nI y))], [.int (nI y), .ref m0], M1)) rfl rfl rfl ?_
  refine pl_call (a := [.ref m0, .int (nI y)]) (rest := []) rfl rfl rfl (rd_tag (n := n) (f := f) (tx := tx) (cN := cN) (A := A) (N := N) (mj := mj) (E := E) (k := y) hR3 hi7 hi8 hi9 hF_11 hY_12 hP_13 (hEP) (hN) (hmj) (by omega)) (fun v19 M20 q21 => ?_)
  obtain ⟨rfl, rfl⟩ := q21
  show pl _ _ _ (26, [(0, .ref m0), (1, .int t), (2, .int (nI x)), (3, .int (nI y))], [.int (nI (tg f E y))], M1) _
  have htg_23 := tg_lt f E y
  refine ps_st (S' := (27, [(0, .ref m0), (1, .int t), (2, .int (nI x)), (3, .int (nI y))], [.int 1, .int (nI (tg f E y))], M1)) rfl rfl rfl ?_
  refine ps_if2 (S1 := (32, [(0, .ref m0), (1, .int t), (2, .int (nI x)), (3, .int (nI y))], [], M1)) (S2 := (30, [], [], M1)) rfl rfl rfl (fun c_27 => ?_) (fun c_27 => ?_)
  rotate_left
  · exact absurd (by rw [hy1]; rfl) (of_decide_eq_false c_27)
  refine ps_st (S' := (33, [(0, .ref m0), (1, .int t), (2, .int (nI x)), (3, .int (nI y))], [.ref m0], M1)) rfl rfl rfl ?_
  refine ps_st (S' := (34, [(0, .ref m0), (1, .int t), (2, .int (nI x)), (3, .int (nI y))], [.int (nI x), .ref m0], M1)) rfl rfl rfl ?_
  refine pl_call (a := [.ref m0, .int (nI x)]) (rest := []) rfl rfl rfl (rd_symOf (n := n) (f := f) (tx := tx) (cN := cN) (A := A) (N := N) (mj := mj) (E := E) (k := x) hR3 hi7 hi8 hi9 hF_11 hY_12 hP_13 (hEP) (hN) (hmj) (by omega)) (fun v22 M23 q24 => ?_)
  obtain ⟨s25, q34_s, rfl, rfl⟩ := q24
  show pl _ _ _ (37, [(0, .ref m0), (1, .int t), (2, .int (nI x)), (3, .int (nI y))], [.int (nI s25)], M1) _
  have hsl_34 := q34_s.1
  have htl_34 := hY_12.1.2.2.1
  refine ps_st (S' := (39, [(4, .int (nI s25)), (0, .ref m0), (1, .int t), (2, .int (nI x)), (3, .int (nI y))], [], M1)) rfl rfl rfl ?_
  refine ps_st (S' := (40, [(4, .int (nI s25)), (0, .ref m0), (1, .int t), (2, .int (nI x)), (3, .int (nI y))], [.ref m0], M1)) rfl rfl rfl ?_
  refine ps_st (S' := (41, [(4, .int (nI s25)), (0, .ref m0), (1, .int t), (2, .int (nI x)), (3, .int (nI y))], [.int (nI y), .ref m0], M1)) rfl rfl rfl ?_
  refine pl_call (a := [.ref m0, .int (nI y)]) (rest := []) rfl rfl rfl (rd_symOf (n := n) (f := f) (tx := tx) (cN := cN) (A := A) (N := N) (mj := mj) (E := E) (k := y) hR3 hi7 hi8 hi9 hF_11 hY_12 hP_13 (hEP) (hN) (hmj) (by omega)) (fun v26 M27 q28 => ?_)
  obtain ⟨s29, q41_s, rfl, rfl⟩ := q28
  show pl _ _ _ (44, [(4, .int (nI s25)), (0, .ref m0), (1, .int t), (2, .int (nI x)), (3, .int (nI y))], [.int (nI s29)], M1) _
  have hsl_41 := q41_s.1
  have htl_41 := hY_12.1.2.2.1
  refine ps_st (S' := (46, [(5, .int (nI s29)), (4, .int (nI s25)), (0, .ref m0), (1, .int t), (2, .int (nI x)), (3, .int (nI y))], [], M1)) rfl rfl rfl ?_
  refine ps_st (S' := (47, [(5, .int (nI s29)), (4, .int (nI s25)), (0, .ref m0), (1, .int t), (2, .int (nI x)), (3, .int (nI y))], [.int 0], M1)) rfl rfl rfl ?_
  refine ps_st (S' := (49, [(0, .ref m0), (1, .int t), (4, .int (nI s25)), (5, .int (nI s29)), (6, .int 0)], [], M1)) rfl rfl rfl ?_
  exact (LL kf) (s25) (s29) (0) M1 I2 R hR3 hEI15 hER hi4 hi10 hY_12 hN9_14 (q34_s) (q41_s) (by omega) (rfl)
theorem rd_find {g : xe_G} {m0 : Nat} {q : Nat → Nat} {z : Nat × Nat} {I : rI} {R : rR} {M : mi_H} {ko : Option (Nat × (Nat → Int32))} {t x y : Int32} (hR : RS g m0 q z I R M) (hK : KPR ko I R) : pt (mT g) 207 [.ref m0, .int t, .int x, .int y] M (fun v M' => ∃ (I' : rI) (R' : rR), v = some (.int (fdK ko t x y)) ∧ RS g m0 q z I' R' M' ∧ eqI [0] I I' ∧ eqR [] R R' ∧ I' 0 = some 0) := by
  cases ko with
  | none =>
    obtain ⟨kn, h1, h2⟩ := hK
    exact rd_find0 hR h1 h2
  | some r =>
    obtain ⟨h1, h2, -, -, tx, cN, A, E, N, mj, p1, pF, pM, pA, k1, k2, k3, k4, k5, k6, k7, rfl, rfl, m1, m2, m3, m4, m5, m6, -⟩ := hK
    rw [fdK_is k7]
    have hN := by2_lt r.2 8
    have hpl := whole_in k7
    have hEP := (EP_of hpl).1
    have h0 := tg_0 hpl
    unfold fdI
    by_cases hx1 : tg r.2 E x.toNatClampNeg = 1
    · by_cases hy1 : tg r.2 E y.toNatClampNeg = 1
      · rw [if_pos ⟨hx1, hy1⟩]
        have hlo : ∀ j, by2 r.2 8 ≤ j → tg r.2 E j = 0 := fun j hj => by
          unfold tg
          rw [lk_hi k3.1 (Or.inr hj)]
        obtain ⟨ex, lx⟩ := tg_nn (by omega) hlo h0 hx1
        obtain ⟨ey, ly⟩ := tg_nn (by omega) hlo h0 hy1
        obtain ⟨i, ei⟩ : ∃ i, i = x.toNatClampNeg := ⟨_, rfl⟩
        obtain ⟨j, ej⟩ : ∃ j, j = y.toNatClampNeg := ⟨_, rfl⟩
        rw [← ei] at ex lx hx1 ⊢
        rw [← ej] at ey ly hy1 ⊢
        subst ex
        subst ey
        by_cases ht : t = 0
        · rw [if_pos ht]
          exact rd_findF hR h1 k4 k5 k6 m1 k1 k2 k3 m3 hEP hN (by2_lt _ _) h2 lx ly hx1 hy1 (mbs_len m5) ht
        · rw [if_neg ht]
          exact rd_findM hR h1 k4 k5 k6 m2 k1 k2 k3 m4 hEP hN (by2_lt _ _) h2 lx ly hx1 hy1 (mbs_len m6) ht
      · rw [if_neg (fun q => hy1 q.2)]
        exact rd_findB hR h1 k4 k5 k6 k1 k2 k3 hEP hN (by2_lt _ _) h2 h0 hx1 hy1
    · rw [if_neg (fun q => hx1 q.1)]
      exact rd_findA hR h1 k4 k5 k6 k1 k2 k3 hEP hN (by2_lt _ _) h2 h0 hx1
end
section
/-! a bootstrap's parts, as both sides tell them (my own text) -/
section BSA
variable {f : Nat → Int32} {n : Nat} {E : List (Nat × Nat)}
/-- where the bootstrap number i is -/
def bsP (f : Nat → Int32) : Nat → Nat → Nat
  | 0, p => p
  | i + 1, p => bsP f i (p + 4 + 2 * by2 f (p + 2))
theorem bsP_st {c i p : Nat} (h : i < c) : bsP f (c - i) p = bsP f (c - (i + 1)) (p + 4 + 2 * by2 f (p + 2)) := by
  rw [show c - i = (c - (i + 1)) + 1 by omega]
  rfl
def bsV (f : Nat → Int32) (p u : Nat) : Int32 := if u = 0 then nI (by2 f p) else nI (by2 f (p + 2 + 2 * u))
def bsI (f : Nat → Int32) (bc bp : Nat) (i t : Int32) : Int32 := if i < 0 ∨ nI bc ≤ i then -1 else if t < 0 ∨ nI (by2 f (bsP f i.toNatClampNeg bp + 2)) < t then -1 else bsV f (bsP f i.toNatClampNeg bp) t.toNatClampNeg
/-- what is kept tells it -/
def bsK (ko : Option (Nat × (Nat → Int32))) (i t : Int32) : Int32 := match ko with
  | none => -1
  | some r => match s_whole r.2 r.1 with
    | .inl _ => -1
    | .inr w => match clS r.2 r.1 w.1 (by2 r.2 w.2.1) (by2 r.2 6) (by2 r.2 w.2.2.2.2) (w.2.2.2.2 + 2) 0 0 with
      | .inl _ => -1
      | .inr bc => bsI r.2 bc (clU r.2 r.1 w.1 (by2 r.2 6) (by2 r.2 w.2.2.2.2) (w.2.2.2.2 + 2) (0, 0, 0, 0, 0, -1)).2.1 i t
theorem bsK_is {r : Nat × (Nat → Int32)} {i t : Int32} {p1 pF pM pA bc : Nat} {K : KT} (h : s_whole r.2 r.1 = .inr (E, p1, pF, pM, pA)) (hB : clS r.2 r.1 E (by2 r.2 p1) (by2 r.2 6) (by2 r.2 pA) (pA + 2) 0 0 = .inr bc) (hU : clU r.2 r.1 E (by2 r.2 6) (by2 r.2 pA) (pA + 2) (0, 0, 0, 0, 0, -1) = K) : bsK (some r) i t = bsI r.2 bc K.2.1 i t := by
  show (match s_whole r.2 r.1 with | .inl _ => (-1 : Int32) | .inr w => match clS r.2 r.1 w.1 (by2 r.2 w.2.1) (by2 r.2 6) (by2 r.2 w.2.2.2.2) (w.2.2.2.2 + 2) 0 0 with | .inl _ => (-1 : Int32) | .inr bc => bsI r.2 bc (clU r.2 r.1 w.1 (by2 r.2 6) (by2 r.2 w.2.2.2.2) (w.2.2.2.2 + 2) (0, 0, 0, 0, 0, -1)).2.1 i t) = _
  rw [h]
  dsimp only
  rw [hB]
  dsimp only
  rw [hU]
/-- bootstraps lie well in the file -/
theorem cl_boot {x mj : Nat} : ∀ {c p s b b' e0 : Nat} {K : KT}, s_atts f n c p = .inr e0 → (b = 0 ∨ (8 ≤ K.2.1 ∧ ∃ e, e ≤ n ∧ s_bsE f e b K.2.1 = some e)) → clS f n E x mj c p s b = .inr b' → (b' = 0 ∨ (8 ≤ (clU f n E mj c p K).2.1 ∧ ∃ e, e ≤ n ∧ s_bsE f e b' (clU f n E mj c p K).2.1 = some e)) := by
  intro c
  induction c with
  | zero => intro p s b b' e0 K _ hb h; cases h; exact hb
  | succ c ih =>
    intro p s b b' e0 K ha hb h
    unfold s_atts at ha
    split at ha
    · cases ha
    · split at ha
      · cases ha
      · split at ha
        · cases ha
        · rename_i hn3
          unfold clS at h
          split at h
          · cases h
          · split at h
            · cases h
            · rename_i hfe
              split at h
              · cases h
              · cases h
              · refine ih (K := stU f (ckN f n E mj (by2 f p)) p K) ha ?_ h
                by_cases hk : ckN f n E mj (by2 f p) = 6
                · refine Or.inr ⟨by rw [show (stU f (ckN f n E mj (by2 f p)) p K).2.1 = p + 8 from if_pos hk]; omega, p + 6 + by4 f (p + 2), by omega, ?_⟩
                  have h1 : s_fe f (ckN f n E mj (by2 f p)) (p + 6) (p + 6 + by4 f (p + 2)) = some (p + 6 + by4 f (p + 2)) := Decidable.byContradiction (fun q => hfe ⟨by omega, q⟩)
                  rw [if_pos hk, show (stU f (ckN f n E mj (by2 f p)) p K).2.1 = p + 8 from if_pos hk]
                  exact (s_fe_in h1).2.2.2.2.1 hk
                · rw [if_neg hk, show (stU f (ckN f n E mj (by2 f p)) p K).2.1 = K.2.1 from if_neg hk]
                  exact hb
theorem cl_bt {x mj pA bc : Nat} {K : KT} (ha : s_attributes f n pA = .inr n) (hB : clS f n E x mj (by2 f pA) (pA + 2) 0 0 = .inr bc) (hU : clU f n E mj (by2 f pA) (pA + 2) (0, 0, 0, 0, 0, -1) = K) : bc = 0 ∨ (8 ≤ K.2.1 ∧ ∃ e, e ≤ n ∧ s_bsE f e bc K.2.1 = some e) := by
  rw [← hU]
  unfold s_attributes at ha
  split at ha
  · cases ha
  · exact cl_boot ha (Or.inl rfl) hB
end BSA
set_option maxHeartbeats 1000000 in
theorem dk_bsN {g : xe_G} {M : mi_H} {f : Nat → Int32} {n q c b da fr mr bc bp : Nat} {u2 u3 u4 u5 x8 x9 x10 x13 x14 x15 x16 : Int32} {i t : Int32} (h_c : M.1 c = some (ob 3 [.ref b, .ref q, .int u2, .int u3, .int u4, .int u5, .ref fr, .ref mr, .int x8, .int x9, .int x10, .int (nI bc), .int (nI bp), .int x13, .int x14, .int x15, .int x16])) (hi : i < 0 ∨ nI bc ≤ i) : pt (mT g) 70 [.ref c, .int i, .int t] M (fun v M' => (v = some (.int (-1)) ∧ M = M')) := by
  refine pt_in (b := mb_70 g) rfl (fun kf => ?_)
  show pl (mT g) kf (mb_70 g).2 (0, [(0, .ref c), (1, .int i), (2, .int t)], [], M) _
  refine ps_st (S' := (1, [(0, .ref c), (1, .int i), (2, .int t)], [.int i], M)) rfl rfl rfl ?_
  refine ps_if (S1 := (12, [], [], M)) (S2 := (4, [(0, .ref c), (1, .int i), (2, .int t)], [], M)) rfl rfl rfl (fun c_1 => ?_) (fun c_1 => ?_)
  · have c_1 : i < 0 := of_decide_eq_true c_1
    refine ps_st (S' := (13, [], [.int (-1)], M)) rfl rfl rfl ?_
    exact ps_ret rfl rfl (⟨rfl, rfl⟩)
  · have c_1 : ¬ (i < 0) := of_decide_eq_false c_1
    refine ps_st (S' := (5, [(0, .ref c), (1, .int i), (2, .int t)], [.int i], M)) rfl rfl rfl ?_
    refine ps_st (S' := (6, [(0, .ref c), (1, .int i), (2, .int t)], [.ref c, .int i], M)) rfl rfl rfl ?_
    refine ps_get (S' := (9, [(0, .ref c), (1, .int i), (2, .int t)], [.int (nI bc), .int i], M)) rfl h_c rfl rfl ?_
    refine ps_if2 (S1 := (14, [(0, .ref c), (1, .int i), (2, .int t)], [], M)) (S2 := (12, [], [], M)) rfl rfl rfl (fun c_9 => ?_) (fun c_9 => ?_)
    · exact absurd (of_decide_eq_true c_9) (Int32.not_lt.mpr (hi.resolve_left c_1))
    refine ps_st (S' := (13, [], [.int (-1)], M)) rfl rfl rfl ?_
    exact ps_ret rfl rfl (⟨rfl, rfl⟩)
set_option maxHeartbeats 1000000 in
theorem dk_bsB {g : xe_G} {M : mi_H} {f : Nat → Int32} {n q c b da fr mr bc bp : Nat} {u2 u3 u4 u5 x8 x9 x10 x13 x14 x15 x16 : Int32} {j e : Nat} {t : Int32} (h_c : M.1 c = some (ob 3 [.ref b, .ref q, .int u2, .int u3, .int u4, .int u5, .ref fr, .ref mr, .int x8, .int x9, .int x10, .int (nI bc), .int (nI bp), .int x13, .int x14, .int x15, .int x16])) (h_b : M.1 b = some (ob 1 [.ref da])) (h_da : M.1 da = some (ar .byte n f)) (hn : n ≤ 65540) (hbc : bc < 65536) (hj : j < bc) (he : e ≤ n) (hbs : s_bsE f e bc bp = some e) (hb9 : t < 0 ∨ nI (by2 f (bsP f j bp + 2)) < t) : pt (mT g) 70 [.ref c, .int (nI j), .int t] M (fun v M' => (v = some (.int (-1)) ∧ M = M')) := by
  refine pt_in (b := mb_70 g) rfl (fun kf => ?_)
  show pl (mT g) kf (mb_70 g).2 (0, [(0, .ref c), (1, .int (nI j)), (2, .int t)], [], M) _
  have hin8 := s_bsE_in (c := bc) (i := 0) (p := bp) hbs (by omega)
  have LL : ∀ (kf : Nat), (∀ (a p : Nat), (a ≤ j) → (s_bsE f e (bc - a) p = some e) → (bsP f (j - a) p = bsP f j bp) →  pl (mT g) kf (mb_70 g).2 (22, [(0, .ref c), (1, .int (nI j)), (2, .int t), (3, .int (nI p)), (4, .int (nI a))], [], M) (fun v M' => (v = some (.int (-1)) ∧ M = M'))) := by
    intro kf
    induction kf with
    | zero => exact (by intros; exact pl_0)
    | succ kf ih =>
      intro a p ha hf hp
      have hin9 := s_bsE_in (i := a) (p := p) hf (by omega)
      refine ps_st1 (S' := (24, [(0, .ref c), (1, .int (nI j)), (2, .int t), (3, .int (nI p)), (4, .int (nI a))], [.int (nI a)], M)) rfl rfl rfl ?_
      refine ps_st (S' := (25, [(0, .ref c), (1, .int (nI j)), (2, .int t), (3, .int (nI p)), (4, .int (nI a))], [.int (nI j), .int (nI a)], M)) rfl rfl rfl ?_
      refine ps_if2 (S1 := (51, [(0, .ref c), (1, .int (nI j)), (2, .int t), (3, .int (nI p)), (4, .int (nI a))], [], M)) (S2 := (28, [(0, .ref c), (1, .int (nI j)), (2, .int t), (3, .int (nI p)), (4, .int (nI a))], [], M)) rfl rfl rfl (fun c_25 => ?_) (fun c_25 => ?_)
      · have c_25 : (nI j) ≤ (nI a) := of_decide_eq_true c_25
        have n_25 : j ≤ a := (le_nI (p := j) (n := a) (by omega) (by omega)).mp c_25
        have eP : p = bsP f j bp := by rw [← hp, show j - a = 0 by omega]; rfl
        rw [← eP] at hb9
        refine ps_st (S' := (52, [(0, .ref c), (1, .int (nI j)), (2, .int t), (3, .int (nI p)), (4, .int (nI a))], [.int t], M)) rfl rfl rfl ?_
        refine ps_if (S1 := (69, [], [], M)) (S2 := (55, [(0, .ref c), (1, .int (nI j)), (2, .int t), (3, .int (nI p)), (4, .int (nI a))], [], M)) rfl rfl rfl (fun c_52 => ?_) (fun c_52 => ?_)
        · have c_52 : t < 0 := of_decide_eq_true c_52
          refine ps_st (S' := (70, [], [.int (-1)], M)) rfl rfl rfl ?_
          exact ps_ret rfl rfl (⟨rfl, rfl⟩)
        · have c_52 : ¬ (t < 0) := of_decide_eq_false c_52
          refine ps_st (S' := (56, [(0, .ref c), (1, .int (nI j)), (2, .int t), (3, .int (nI p)), (4, .int (nI a))], [.int t], M)) rfl rfl rfl ?_
          refine ps_st (S' := (57, [(0, .ref c), (1, .int (nI j)), (2, .int t), (3, .int (nI p)), (4, .int (nI a))], [.ref c, .int t], M)) rfl rfl rfl ?_
          refine ps_get (S' := (60, [(0, .ref c), (1, .int (nI j)), (2, .int t), (3, .int (nI p)), (4, .int (nI a))], [.ref b, .int t], M)) rfl h_c rfl rfl ?_
          refine ps_st (S' := (61, [(0, .ref c), (1, .int (nI j)), (2, .int t), (3, .int (nI p)), (4, .int (nI a))], [.int (nI p), .ref b, .int t], M)) rfl rfl rfl ?_
          refine ps_st (S' := (62, [(0, .ref c), (1, .int (nI j)), (2, .int t), (3, .int (nI p)), (4, .int (nI a))], [.int 2, .int (nI p), .ref b, .int t], M)) rfl rfl rfl ?_
          refine ps_st (S' := (63, [(0, .ref c), (1, .int (nI j)), (2, .int t), (3, .int (nI p)), (4, .int (nI a))], [.int ((nI p) + 2), .ref b, .int t], M)) rfl rfl rfl ?_
          rw [nI_add1 (p := p) (k := 2) (x := 2) rfl (by omega)]
          show pl _ _ _ (_, [(0, .ref c), (1, .int (nI j)), (2, .int t), (3, .int (nI p)), (4, .int (nI a))], [.int (nI (p + 2)), .ref b, .int t], M) _
          refine pl_call (a := [.ref b, .int (nI (p + 2))]) (rest := [.int t]) rfl rfl rfl (dk_u2 (f := f) (n := n) (b := b) (da := da) (p := (p + 2)) h_b h_da (hn) (by omega)) (fun v1 M2 q3 => ?_)
          obtain ⟨rfl, rfl⟩ := q3
          show pl _ _ _ (66, [(0, .ref c), (1, .int (nI j)), (2, .int t), (3, .int (nI p)), (4, .int (nI a))], [.int (nI (by2 f (p + 2))), .int t], M) _
          have hu_63 := by2_lt f (p + 2)
          refine ps_if2 (S1 := (71, [(0, .ref c), (1, .int (nI j)), (2, .int t), (3, .int (nI p)), (4, .int (nI a))], [], M)) (S2 := (69, [], [], M)) rfl rfl rfl (fun c_66 => ?_) (fun c_66 => ?_)
          · exact absurd (of_decide_eq_true c_66) (Int32.not_le.mpr (hb9.resolve_left c_52))
          refine ps_st (S' := (70, [], [.int (-1)], M)) rfl rfl rfl ?_
          exact ps_ret rfl rfl (⟨rfl, rfl⟩)
      · have c_25 : ¬ ((nI j) ≤ (nI a)) := of_decide_eq_false c_25
        have n_25 : ¬ (j ≤ a) := fun h9 => c_25 ((le_nI (p := j) (n := a) (by omega) (by omega)).mpr h9)
        refine ps_st (S' := (29, [(0, .ref c), (1, .int (nI j)), (2, .int t), (3, .int (nI p)), (4, .int (nI a))], [.int (nI p)], M)) rfl rfl rfl ?_
        refine ps_st (S' := (30, [(0, .ref c), (1, .int (nI j)), (2, .int t), (3, .int (nI p)), (4, .int (nI a))], [.int 4, .int (nI p)], M)) rfl rfl rfl ?_
        refine ps_st (S' := (31, [(0, .ref c), (1, .int (nI j)), (2, .int t), (3, .int (nI p)), (4, .int (nI a))], [.int 2, .int 4, .int (nI p)], M)) rfl rfl rfl ?_
        refine ps_st (S' := (32, [(0, .ref c), (1, .int (nI j)), (2, .int t), (3, .int (nI p)), (4, .int (nI a))], [.ref c, .int 2, .int 4, .int (nI p)], M)) rfl rfl rfl ?_
        refine ps_get (S' := (35, [(0, .ref c), (1, .int (nI j)), (2, .int t), (3, .int (nI p)), (4, .int (nI a))], [.ref b, .int 2, .int 4, .int (nI p)], M)) rfl h_c rfl rfl ?_
        refine ps_st (S' := (36, [(0, .ref c), (1, .int (nI j)), (2, .int t), (3, .int (nI p)), (4, .int (nI a))], [.int (nI p), .ref b, .int 2, .int 4, .int (nI p)], M)) rfl rfl rfl ?_
        refine ps_st (S' := (37, [(0, .ref c), (1, .int (nI j)), (2, .int t), (3, .int (nI p)), (4, .int (nI a))], [.int 2, .int (nI p), .ref b, .int 2, .int 4, .int (nI p)], M)) rfl rfl rfl ?_
        refine ps_st (S' := (38, [(0, .ref c), (1, .int (nI j)), (2, .int t), (3, .int (nI p)), (4, .int (nI a))], [.int ((nI p) + 2), .ref b, .int 2, .int 4, .int (nI p)], M)) rfl rfl rfl ?_
        rw [nI_add1 (p := p) (k := 2) (x := 2) rfl (by omega)]
        show pl _ _ _ (_, [(0, .ref c), (1, .int (nI j)), (2, .int t), (3, .int (nI p)), (4, .int (nI a))], [.int (nI (p + 2)), .ref b, .int 2, .int 4, .int (nI p)], M) _
        refine pl_call (a := [.ref b, .int (nI (p + 2))]) (rest := [.int 2, .int 4, .int (nI p)]) rfl rfl rfl (dk_u2 (f := f) (n := n) (b := b) (da := da) (p := (p + 2)) h_b h_da (hn) (by omega)) (fun v4 M5 q6 => ?_)
        obtain ⟨rfl, rfl⟩ := q6
        show pl _ _ _ (41, [(0, .ref c), (1, .int (nI j)), (2, .int t), (3, .int (nI p)), (4, .int (nI a))], [.int (nI (by2 f (p + 2))), .int 2, .int 4, .int (nI p)], M) _
        have hu_38 := by2_lt f (p + 2)
        refine ps_st (S' := (42, [(0, .ref c), (1, .int (nI j)), (2, .int t), (3, .int (nI p)), (4, .int (nI a))], [.int (2 * (nI (by2 f (p + 2)))), .int 4, .int (nI p)], M)) rfl rfl rfl ?_
        rw [nI_mul1 (p := 2) (k := by2 f (p + 2)) (x := 2) (y := (nI (by2 f (p + 2)))) rfl rfl (by omega)]
        show pl _ _ _ (_, [(0, .ref c), (1, .int (nI j)), (2, .int t), (3, .int (nI p)), (4, .int (nI a))], [.int (nI (2 * (by2 f (p + 2)))), .int 4, .int (nI p)], M) _
        refine ps_st (S' := (43, [(0, .ref c), (1, .int (nI j)), (2, .int t), (3, .int (nI p)), (4, .int (nI a))], [.int (4 + (nI (2 * (by2 f (p + 2))))), .int (nI p)], M)) rfl rfl rfl ?_
        rw [nI_add2 (p := 4) (k := 2 * (by2 f (p + 2))) (x := 4) (y := (nI (2 * (by2 f (p + 2))))) rfl rfl (by omega)]
        show pl _ _ _ (_, [(0, .ref c), (1, .int (nI j)), (2, .int t), (3, .int (nI p)), (4, .int (nI a))], [.int (nI (4 + 2 * (by2 f (p + 2)))), .int (nI p)], M) _
        refine ps_st (S' := (44, [(0, .ref c), (1, .int (nI j)), (2, .int t), (3, .int (nI p)), (4, .int (nI a))], [.int ((nI p) + (nI (4 + 2 * (by2 f (p + 2)))))], M)) rfl rfl rfl ?_
        rw [nI_add1 (p := p) (k := 4 + 2 * (by2 f (p + 2))) (x := (nI (4 + 2 * (by2 f (p + 2))))) rfl (by omega)]
        rw [show nI (p + (4 + 2 * (by2 f (p + 2)))) = nI (p + 4 + 2 * (by2 f (p + 2))) from congrArg nI (by omega)]
        show pl _ _ _ (_, [(0, .ref c), (1, .int (nI j)), (2, .int t), (3, .int (nI p)), (4, .int (nI a))], [.int (nI (p + 4 + 2 * (by2 f (p + 2))))], M) _
        refine ps_st (S' := (45, [(3, .int (nI (p + 4 + 2 * (by2 f (p + 2))))), (0, .ref c), (1, .int (nI j)), (2, .int t), (4, .int (nI a))], [], M)) rfl rfl rfl ?_
        refine ps_st (S' := (48, [(4, .int ((nI a) + 1)), (3, .int (nI (p + 4 + 2 * (by2 f (p + 2))))), (0, .ref c), (1, .int (nI j)), (2, .int t)], [], M)) rfl rfl rfl ?_
        rw [nI_add1 (p := a) (k := 1) (x := 1) rfl (by omega)]
        show pl _ _ _ (_, [(4, .int (nI (a + 1))), (3, .int (nI (p + 4 + 2 * (by2 f (p + 2))))), (0, .ref c), (1, .int (nI j)), (2, .int t)], [], M) _
        refine ps_st (S' := (22, [(0, .ref c), (1, .int (nI j)), (2, .int t), (3, .int (nI (p + 4 + 2 * (by2 f (p + 2))))), (4, .int (nI (a + 1)))], [], M)) rfl rfl rfl ?_
        exact ih (a + 1) (p + 4 + 2 * by2 f (p + 2))  (by omega) (hin9.2.2) (by
            rw [← hp, bsP_st (i := a) (by omega)])
  refine ps_st (S' := (1, [(0, .ref c), (1, .int (nI j)), (2, .int t)], [.int (nI j)], M)) rfl rfl rfl ?_
  refine ps_if (S1 := (12, [], [], M)) (S2 := (4, [(0, .ref c), (1, .int (nI j)), (2, .int t)], [], M)) rfl rfl rfl (fun c_1 => ?_) (fun c_1 => ?_)
  · exact absurd (of_decide_eq_true c_1) (show ¬ ((nI j) < 0) from fun h9 => absurd ((lt_nI (p := j) (n := 0) (by omega) (by decide)).mp h9) (by omega))
  refine ps_st (S' := (5, [(0, .ref c), (1, .int (nI j)), (2, .int t)], [.int (nI j)], M)) rfl rfl rfl ?_
  refine ps_st (S' := (6, [(0, .ref c), (1, .int (nI j)), (2, .int t)], [.ref c, .int (nI j)], M)) rfl rfl rfl ?_
  refine ps_get (S' := (9, [(0, .ref c), (1, .int (nI j)), (2, .int t)], [.int (nI bc), .int (nI j)], M)) rfl h_c rfl rfl ?_
  refine ps_if2 (S1 := (14, [(0, .ref c), (1, .int (nI j)), (2, .int t)], [], M)) (S2 := (12, [], [], M)) rfl rfl rfl (fun c_9 => ?_) (fun c_9 => ?_)
  rotate_left
  · exact absurd ((lt_nI (by omega) (by omega)).mpr hj) (of_decide_eq_false c_9)
  refine ps_st (S' := (15, [(0, .ref c), (1, .int (nI j)), (2, .int t)], [.ref c], M)) rfl rfl rfl ?_
  refine ps_get (S' := (18, [(0, .ref c), (1, .int (nI j)), (2, .int t)], [.int (nI bp)], M)) rfl h_c rfl rfl ?_
  refine ps_st (S' := (19, [(3, .int (nI bp)), (0, .ref c), (1, .int (nI j)), (2, .int t)], [], M)) rfl rfl rfl ?_
  refine ps_st (S' := (20, [(3, .int (nI bp)), (0, .ref c), (1, .int (nI j)), (2, .int t)], [.int 0], M)) rfl rfl rfl ?_
  refine ps_st (S' := (22, [(0, .ref c), (1, .int (nI j)), (2, .int t), (3, .int (nI bp)), (4, .int 0)], [], M)) rfl rfl rfl ?_
  exact (LL kf) (0) (bp)  (by omega) (hbs) (rfl)
set_option maxHeartbeats 1000000 in
theorem dk_bsG {g : xe_G} {M : mi_H} {f : Nat → Int32} {n q c b da fr mr bc bp : Nat} {u2 u3 u4 u5 x8 x9 x10 x13 x14 x15 x16 : Int32} {j e u : Nat} (h_c : M.1 c = some (ob 3 [.ref b, .ref q, .int u2, .int u3, .int u4, .int u5, .ref fr, .ref mr, .int x8, .int x9, .int x10, .int (nI bc), .int (nI bp), .int x13, .int x14, .int x15, .int x16])) (h_b : M.1 b = some (ob 1 [.ref da])) (h_da : M.1 da = some (ar .byte n f)) (hn : n ≤ 65540) (hbc : bc < 65536) (hj : j < bc) (he : e ≤ n) (hbs : s_bsE f e bc bp = some e) (hu : u ≤ by2 f (bsP f j bp + 2)) : pt (mT g) 70 [.ref c, .int (nI j), .int (nI u)] M (fun v M' => (v = some (.int (bsV f (bsP f j bp) u)) ∧ M = M')) := by
  refine pt_in (b := mb_70 g) rfl (fun kf => ?_)
  show pl (mT g) kf (mb_70 g).2 (0, [(0, .ref c), (1, .int (nI j)), (2, .int (nI u))], [], M) _
  have hin8 := s_bsE_in (c := bc) (i := 0) (p := bp) hbs (by omega)
  have hu7 := by2_lt f (bsP f j bp + 2)
  have LL : ∀ (kf : Nat), (∀ (a p : Nat), (a ≤ j) → (s_bsE f e (bc - a) p = some e) → (bsP f (j - a) p = bsP f j bp) →  pl (mT g) kf (mb_70 g).2 (22, [(0, .ref c), (1, .int (nI j)), (2, .int (nI u)), (3, .int (nI p)), (4, .int (nI a))], [], M) (fun v M' => (v = some (.int (bsV f (bsP f j bp) u)) ∧ M = M'))) := by
    intro kf
    induction kf with
    | zero => exact (by intros; exact pl_0)
    | succ kf ih =>
      intro a p ha hf hp
      have hin9 := s_bsE_in (i := a) (p := p) hf (by omega)
      refine ps_st1 (S' := (24, [(0, .ref c), (1, .int (nI j)), (2, .int (nI u)), (3, .int (nI p)), (4, .int (nI a))], [.int (nI a)], M)) rfl rfl rfl ?_
      refine ps_st (S' := (25, [(0, .ref c), (1, .int (nI j)), (2, .int (nI u)), (3, .int (nI p)), (4, .int (nI a))], [.int (nI j), .int (nI a)], M)) rfl rfl rfl ?_
      refine ps_if2 (S1 := (51, [(0, .ref c), (1, .int (nI j)), (2, .int (nI u)), (3, .int (nI p)), (4, .int (nI a))], [], M)) (S2 := (28, [(0, .ref c), (1, .int (nI j)), (2, .int (nI u)), (3, .int (nI p)), (4, .int (nI a))], [], M)) rfl rfl rfl (fun c_25 => ?_) (fun c_25 => ?_)
      · have c_25 : (nI j) ≤ (nI a) := of_decide_eq_true c_25
        have n_25 : j ≤ a := (le_nI (p := j) (n := a) (by omega) (by omega)).mp c_25
        have eP : p = bsP f j bp := by rw [← hp, show j - a = 0 by omega]; rfl
        rw [← eP] at hu
        have hu8 := by2_lt f (p + 2)
        refine ps_st (S' := (52, [(0, .ref c), (1, .int (nI j)), (2, .int (nI u)), (3, .int (nI p)), (4, .int (nI a))], [.int (nI u)], M)) rfl rfl rfl ?_
        refine ps_if (S1 := (69, [], [], M)) (S2 := (55, [(0, .ref c), (1, .int (nI j)), (2, .int (nI u)), (3, .int (nI p)), (4, .int (nI a))], [], M)) rfl rfl rfl (fun c_52 => ?_) (fun c_52 => ?_)
        · exact absurd (of_decide_eq_true c_52) (show ¬ ((nI u) < 0) from fun h9 => absurd ((lt_nI (p := u) (n := 0) (by omega) (by decide)).mp h9) (by omega))
        refine ps_st (S' := (56, [(0, .ref c), (1, .int (nI j)), (2, .int (nI u)), (3, .int (nI p)), (4, .int (nI a))], [.int (nI u)], M)) rfl rfl rfl ?_
        refine ps_st (S' := (57, [(0, .ref c), (1, .int (nI j)), (2, .int (nI u)), (3, .int (nI p)), (4, .int (nI a))], [.ref c, .int (nI u)], M)) rfl rfl rfl ?_
        refine ps_get (S' := (60, [(0, .ref c), (1, .int (nI j)), (2, .int (nI u)), (3, .int (nI p)), (4, .int (nI a))], [.ref b, .int (nI u)], M)) rfl h_c rfl rfl ?_
        refine ps_st (S' := (61, [(0, .ref c), (1, .int (nI j)), (2, .int (nI u)), (3, .int (nI p)), (4, .int (nI a))], [.int (nI p), .ref b, .int (nI u)], M)) rfl rfl rfl ?_
        refine ps_st (S' := (62, [(0, .ref c), (1, .int (nI j)), (2, .int (nI u)), (3, .int (nI p)), (4, .int (nI a))], [.int 2, .int (nI p), .ref b, .int (nI u)], M)) rfl rfl rfl ?_
        refine ps_st (S' := (63, [(0, .ref c), (1, .int (nI j)), (2, .int (nI u)), (3, .int (nI p)), (4, .int (nI a))], [.int ((nI p) + 2), .ref b, .int (nI u)], M)) rfl rfl rfl ?_
        rw [nI_add1 (p := p) (k := 2) (x := 2) rfl (by omega)]
        show pl _ _ _ (_, [(0, .ref c), (1, .int (nI j)), (2, .int (nI u)), (3, .int (nI p)), (4, .int (nI a))], [.int (nI (p + 2)), .ref b, .int (nI u)], M) _
        refine pl_call (a := [.ref b, .int (nI (p + 2))]) (rest := [.int (nI u)]) rfl rfl rfl (dk_u2 (f := f) (n := n) (b := b) (da := da) (p := (p + 2)) h_b h_da (hn) (by omega)) (fun v1 M2 q3 => ?_)
        obtain ⟨rfl, rfl⟩ := q3
        show pl _ _ _ (66, [(0, .ref c), (1, .int (nI j)), (2, .int (nI u)), (3, .int (nI p)), (4, .int (nI a))], [.int (nI (by2 f (p + 2))), .int (nI u)], M) _
        have hu_63 := by2_lt f (p + 2)
        refine ps_if2 (S1 := (71, [(0, .ref c), (1, .int (nI j)), (2, .int (nI u)), (3, .int (nI p)), (4, .int (nI a))], [], M)) (S2 := (69, [], [], M)) rfl rfl rfl (fun c_66 => ?_) (fun c_66 => ?_)
        rotate_left
        · exact absurd ((le_nI (p := u) (n := by2 f (p + 2)) (by omega) (Nat.lt_trans (by2_lt _ _) (by decide))).mpr hu) (of_decide_eq_false c_66)
        refine ps_st (S' := (72, [(0, .ref c), (1, .int (nI j)), (2, .int (nI u)), (3, .int (nI p)), (4, .int (nI a))], [.ref c], M)) rfl rfl rfl ?_
        refine ps_get (S' := (75, [(0, .ref c), (1, .int (nI j)), (2, .int (nI u)), (3, .int (nI p)), (4, .int (nI a))], [.ref b], M)) rfl h_c rfl rfl ?_
        refine ps_st (S' := (76, [(0, .ref c), (1, .int (nI j)), (2, .int (nI u)), (3, .int (nI p)), (4, .int (nI a))], [.int (nI u), .ref b], M)) rfl rfl rfl ?_
        refine ps_if (S1 := (83, [(0, .ref c), (1, .int (nI j)), (2, .int (nI u)), (3, .int (nI p)), (4, .int (nI a))], [.ref b], M)) (S2 := (79, [(0, .ref c), (1, .int (nI j)), (2, .int (nI u)), (3, .int (nI p)), (4, .int (nI a))], [.ref b], M)) rfl rfl rfl (fun c_76 => ?_) (fun c_76 => ?_)
        · have c_76 : ¬ (nI u) = 0 := of_decide_eq_true c_76
          have n_76 : ¬ (u = 0) := fun h9 => c_76 ((eq_nI (p := u) (n := 0) (by omega) (by decide)).mpr h9)
          refine ps_st (S' := (84, [(0, .ref c), (1, .int (nI j)), (2, .int (nI u)), (3, .int (nI p)), (4, .int (nI a))], [.int (nI p), .ref b], M)) rfl rfl rfl ?_
          refine ps_st (S' := (85, [(0, .ref c), (1, .int (nI j)), (2, .int (nI u)), (3, .int (nI p)), (4, .int (nI a))], [.int 2, .int (nI p), .ref b], M)) rfl rfl rfl ?_
          refine ps_st (S' := (86, [(0, .ref c), (1, .int (nI j)), (2, .int (nI u)), (3, .int (nI p)), (4, .int (nI a))], [.int ((nI p) + 2), .ref b], M)) rfl rfl rfl ?_
          rw [nI_add1 (p := p) (k := 2) (x := 2) rfl (by omega)]
          show pl _ _ _ (_, [(0, .ref c), (1, .int (nI j)), (2, .int (nI u)), (3, .int (nI p)), (4, .int (nI a))], [.int (nI (p + 2)), .ref b], M) _
          refine ps_st (S' := (87, [(0, .ref c), (1, .int (nI j)), (2, .int (nI u)), (3, .int (nI p)), (4, .int (nI a))], [.int 2, .int (nI (p + 2)), .ref b], M)) rfl rfl rfl ?_
          refine ps_st (S' := (88, [(0, .ref c), (1, .int (nI j)), (2, .int (nI u)), (3, .int (nI p)), (4, .int (nI a))], [.int (nI u), .int 2, .int (nI (p + 2)), .ref b], M)) rfl rfl rfl ?_
          refine ps_st (S' := (89, [(0, .ref c), (1, .int (nI j)), (2, .int (nI u)), (3, .int (nI p)), (4, .int (nI a))], [.int (2 * (nI u)), .int (nI (p + 2)), .ref b], M)) rfl rfl rfl ?_
          rw [nI_mul1 (p := 2) (k := u) (x := 2) (y := (nI u)) rfl rfl (by omega)]
          show pl _ _ _ (_, [(0, .ref c), (1, .int (nI j)), (2, .int (nI u)), (3, .int (nI p)), (4, .int (nI a))], [.int (nI (2 * u)), .int (nI (p + 2)), .ref b], M) _
          refine ps_st (S' := (90, [], [.int ((nI (p + 2)) + (nI (2 * u))), .ref b], M)) rfl rfl rfl ?_
          rw [nI_add1 (p := p + 2) (k := 2 * u) (x := (nI (2 * u))) rfl (by omega)]
          show pl _ _ _ (_, [], [.int (nI (p + 2 + 2 * u)), .ref b], M) _
          refine pl_call (a := [.ref b, .int (nI (p + 2 + 2 * u))]) (rest := []) rfl rfl rfl (dk_u2 (f := f) (n := n) (b := b) (da := da) (p := (p + 2 + 2 * u)) h_b h_da (hn) (by omega)) (fun v4 M5 q6 => ?_)
          obtain ⟨rfl, rfl⟩ := q6
          show pl _ _ _ (93, [], [.int (nI (by2 f (p + 2 + 2 * u)))], M) _
          have hu_90 := by2_lt f (p + 2 + 2 * u)
          exact ps_reti rfl (⟨congrArg (fun x => some (Value.int x)) (show (nI (by2 f (p + 2 + 2 * u))) = bsV f (bsP f j bp) u from by rw [← eP]; unfold bsV; rw [if_neg (by omega)]), rfl⟩)
        · have c_76 : ¬ (¬ (nI u) = 0) := of_decide_eq_false c_76
          have n_76 : u = 0 := (eq_nI (p := u) (n := 0) (by omega) (by decide)).mp (Decidable.not_not.mp c_76)
          refine ps_st (S' := (80, [(0, .ref c), (1, .int (nI j)), (2, .int (nI u)), (3, .int (nI p)), (4, .int (nI a))], [.int (nI p), .ref b], M)) rfl rfl rfl ?_
          refine ps_st (S' := (90, [], [.int (nI p), .ref b], M)) rfl rfl rfl ?_
          refine pl_call (a := [.ref b, .int (nI p)]) (rest := []) rfl rfl rfl (dk_u2 (f := f) (n := n) (b := b) (da := da) (p := (p)) h_b h_da (hn) (by omega)) (fun v7 M8 q9 => ?_)
          obtain ⟨rfl, rfl⟩ := q9
          show pl _ _ _ (93, [], [.int (nI (by2 f (p)))], M) _
          have hu_90 := by2_lt f (p)
          exact ps_reti rfl (⟨congrArg (fun x => some (Value.int x)) (show (nI (by2 f (p))) = bsV f (bsP f j bp) u from by rw [← eP]; unfold bsV; rw [if_pos (by omega)]), rfl⟩)
      · have c_25 : ¬ ((nI j) ≤ (nI a)) := of_decide_eq_false c_25
        have n_25 : ¬ (j ≤ a) := fun h9 => c_25 ((le_nI (p := j) (n := a) (by omega) (by omega)).mpr h9)
        refine ps_st (S' := (29, [(0, .ref c), (1, .int (nI j)), (2, .int (nI u)), (3, .int (nI p)), (4, .int (nI a))], [.int (nI p)], M)) rfl rfl rfl ?_
        refine ps_st (S' := (30, [(0, .ref c), (1, .int (nI j)), (2, .int (nI u)), (3, .int (nI p)), (4, .int (nI a))], [.int 4, .int (nI p)], M)) rfl rfl rfl ?_
        refine ps_st (S' := (31, [(0, .ref c), (1, .int (nI j)), (2, .int (nI u)), (3, .int (nI p)), (4, .int (nI a))], [.int 2, .int 4, .int (nI p)], M)) rfl rfl rfl ?_
        refine ps_st (S' := (32, [(0, .ref c), (1, .int (nI j)), (2, .int (nI u)), (3, .int (nI p)), (4, .int (nI a))], [.ref c, .int 2, .int 4, .int (nI p)], M)) rfl rfl rfl ?_
        refine ps_get (S' := (35, [(0, .ref c), (1, .int (nI j)), (2, .int (nI u)), (3, .int (nI p)), (4, .int (nI a))], [.ref b, .int 2, .int 4, .int (nI p)], M)) rfl h_c rfl rfl ?_
        refine ps_st (S' := (36, [(0, .ref c), (1, .int (nI j)), (2, .int (nI u)), (3, .int (nI p)), (4, .int (nI a))], [.int (nI p), .ref b, .int 2, .int 4, .int (nI p)], M)) rfl rfl rfl ?_
        refine ps_st (S' := (37, [(0, .ref c), (1, .int (nI j)), (2, .int (nI u)), (3, .int (nI p)), (4, .int (nI a))], [.int 2, .int (nI p), .ref b, .int 2, .int 4, .int (nI p)], M)) rfl rfl rfl ?_
        refine ps_st (S' := (38, [(0, .ref c), (1, .int (nI j)), (2, .int (nI u)), (3, .int (nI p)), (4, .int (nI a))], [.int ((nI p) + 2), .ref b, .int 2, .int 4, .int (nI p)], M)) rfl rfl rfl ?_
        rw [nI_add1 (p := p) (k := 2) (x := 2) rfl (by omega)]
        show pl _ _ _ (_, [(0, .ref c), (1, .int (nI j)), (2, .int (nI u)), (3, .int (nI p)), (4, .int (nI a))], [.int (nI (p + 2)), .ref b, .int 2, .int 4, .int (nI p)], M) _
        refine pl_call (a := [.ref b, .int (nI (p + 2))]) (rest := [.int 2, .int 4, .int (nI p)]) rfl rfl rfl (dk_u2 (f := f) (n := n) (b := b) (da := da) (p := (p + 2)) h_b h_da (hn) (by omega)) (fun v10 M11 q12 => ?_)
        obtain ⟨rfl, rfl⟩ := q12
        show pl _ _ _ (41, [(0, .ref c), (1, .int (nI j)), (2, .int (nI u)), (3, .int (nI p)), (4, .int (nI a))], [.int (nI (by2 f (p + 2))), .int 2, .int 4, .int (nI p)], M) _
        have hu_38 := by2_lt f (p + 2)
        refine ps_st (S' := (42, [(0, .ref c), (1, .int (nI j)), (2, .int (nI u)), (3, .int (nI p)), (4, .int (nI a))], [.int (2 * (nI (by2 f (p + 2)))), .int 4, .int (nI p)], M)) rfl rfl rfl ?_
        rw [nI_mul1 (p := 2) (k := by2 f (p + 2)) (x := 2) (y := (nI (by2 f (p + 2)))) rfl rfl (by omega)]
        show pl _ _ _ (_, [(0, .ref c), (1, .int (nI j)), (2, .int (nI u)), (3, .int (nI p)), (4, .int (nI a))], [.int (nI (2 * (by2 f (p + 2)))), .int 4, .int (nI p)], M) _
        refine ps_st (S' := (43, [(0, .ref c), (1, .int (nI j)), (2, .int (nI u)), (3, .int (nI p)), (4, .int (nI a))], [.int (4 + (nI (2 * (by2 f (p + 2))))), .int (nI p)], M)) rfl rfl rfl ?_
        rw [nI_add2 (p := 4) (k := 2 * (by2 f (p + 2))) (x := 4) (y := (nI (2 * (by2 f (p + 2))))) rfl rfl (by omega)]
        show pl _ _ _ (_, [(0, .ref c), (1, .int (nI j)), (2, .int (nI u)), (3, .int (nI p)), (4, .int (nI a))], [.int (nI (4 + 2 * (by2 f (p + 2)))), .int (nI p)], M) _
        refine ps_st (S' := (44, [(0, .ref c), (1, .int (nI j)), (2, .int (nI u)), (3, .int (nI p)), (4, .int (nI a))], [.int ((nI p) + (nI (4 + 2 * (by2 f (p + 2)))))], M)) rfl rfl rfl ?_
        rw [nI_add1 (p := p) (k := 4 + 2 * (by2 f (p + 2))) (x := (nI (4 + 2 * (by2 f (p + 2))))) rfl (by omega)]
        rw [show nI (p + (4 + 2 * (by2 f (p + 2)))) = nI (p + 4 + 2 * (by2 f (p + 2))) from congrArg nI (by omega)]
        show pl _ _ _ (_, [(0, .ref c), (1, .int (nI j)), (2, .int (nI u)), (3, .int (nI p)), (4, .int (nI a))], [.int (nI (p + 4 + 2 * (by2 f (p + 2))))], M) _
        refine ps_st (S' := (45, [(3, .int (nI (p + 4 + 2 * (by2 f (p + 2))))), (0, .ref c), (1, .int (nI j)), (2, .int (nI u)), (4, .int (nI a))], [], M)) rfl rfl rfl ?_
        refine ps_st (S' := (48, [(4, .int ((nI a) + 1)), (3, .int (nI (p + 4 + 2 * (by2 f (p + 2))))), (0, .ref c), (1, .int (nI j)), (2, .int (nI u))], [], M)) rfl rfl rfl ?_
        rw [nI_add1 (p := a) (k := 1) (x := 1) rfl (by omega)]
        show pl _ _ _ (_, [(4, .int (nI (a + 1))), (3, .int (nI (p + 4 + 2 * (by2 f (p + 2))))), (0, .ref c), (1, .int (nI j)), (2, .int (nI u))], [], M) _
        refine ps_st (S' := (22, [(0, .ref c), (1, .int (nI j)), (2, .int (nI u)), (3, .int (nI (p + 4 + 2 * (by2 f (p + 2))))), (4, .int (nI (a + 1)))], [], M)) rfl rfl rfl ?_
        exact ih (a + 1) (p + 4 + 2 * by2 f (p + 2))  (by omega) (hin9.2.2) (by
            rw [← hp, bsP_st (i := a) (by omega)])
  refine ps_st (S' := (1, [(0, .ref c), (1, .int (nI j)), (2, .int (nI u))], [.int (nI j)], M)) rfl rfl rfl ?_
  refine ps_if (S1 := (12, [], [], M)) (S2 := (4, [(0, .ref c), (1, .int (nI j)), (2, .int (nI u))], [], M)) rfl rfl rfl (fun c_1 => ?_) (fun c_1 => ?_)
  · exact absurd (of_decide_eq_true c_1) (show ¬ ((nI j) < 0) from fun h9 => absurd ((lt_nI (p := j) (n := 0) (by omega) (by decide)).mp h9) (by omega))
  refine ps_st (S' := (5, [(0, .ref c), (1, .int (nI j)), (2, .int (nI u))], [.int (nI j)], M)) rfl rfl rfl ?_
  refine ps_st (S' := (6, [(0, .ref c), (1, .int (nI j)), (2, .int (nI u))], [.ref c, .int (nI j)], M)) rfl rfl rfl ?_
  refine ps_get (S' := (9, [(0, .ref c), (1, .int (nI j)), (2, .int (nI u))], [.int (nI bc), .int (nI j)], M)) rfl h_c rfl rfl ?_
  refine ps_if2 (S1 := (14, [(0, .ref c), (1, .int (nI j)), (2, .int (nI u))], [], M)) (S2 := (12, [], [], M)) rfl rfl rfl (fun c_9 => ?_) (fun c_9 => ?_)
  rotate_left
  · exact absurd ((lt_nI (by omega) (by omega)).mpr hj) (of_decide_eq_false c_9)
  refine ps_st (S' := (15, [(0, .ref c), (1, .int (nI j)), (2, .int (nI u))], [.ref c], M)) rfl rfl rfl ?_
  refine ps_get (S' := (18, [(0, .ref c), (1, .int (nI j)), (2, .int (nI u))], [.int (nI bp)], M)) rfl h_c rfl rfl ?_
  refine ps_st (S' := (19, [(3, .int (nI bp)), (0, .ref c), (1, .int (nI j)), (2, .int (nI u))], [], M)) rfl rfl rfl ?_
  refine ps_st (S' := (20, [(3, .int (nI bp)), (0, .ref c), (1, .int (nI j)), (2, .int (nI u))], [.int 0], M)) rfl rfl rfl ?_
  refine ps_st (S' := (22, [(0, .ref c), (1, .int (nI j)), (2, .int (nI u)), (3, .int (nI bp)), (4, .int 0)], [], M)) rfl rfl rfl ?_
  exact (LL kf) (0) (bp)  (by omega) (hbs) (rfl)
set_option maxHeartbeats 1000000 in
theorem dk_bootstrap0 {g : xe_G} {M : mi_H} {o ca fl : Nat} {cn wp i t : Int32} (h_o : M.1 o = some (ob 11 [.ref ca, .int cn, .ref fl, .null, .int wp]))  : pt (mT g) 2 [.ref o, .int i, .int t] M (fun v M' => (v = some (.int (-1)) ∧ M = M')) := by
  refine pt_in (b := mb_2 g) rfl (fun kf => ?_)
  show pl (mT g) kf (mb_2 g).2 (0, [(0, .ref o), (1, .int i), (2, .int t)], [], M) _
  refine ps_st (S' := (1, [(0, .ref o), (1, .int i), (2, .int t)], [.ref o], M)) rfl rfl rfl ?_
  refine ps_get (S' := (4, [(0, .ref o), (1, .int i), (2, .int t)], [.null], M)) rfl h_o rfl rfl ?_
  refine ps_st (S' := (7, [(0, .ref o), (1, .int i), (2, .int t)], [], M)) rfl rfl rfl ?_
  refine ps_st (S' := (8, [(0, .ref o), (1, .int i), (2, .int t)], [.int (-1)], M)) rfl rfl rfl ?_
  refine ps_st (S' := (20, [], [.int (-1)], M)) rfl rfl rfl ?_
  exact ps_ret rfl rfl (⟨rfl, rfl⟩)
theorem dk_bsPart {g : xe_G} {M : mi_H} {f : Nat → Int32} {n q c b da fr mr bc bp : Nat} {u2 u3 u4 u5 x8 x9 x10 x13 x14 x15 x16 : Int32} {i t : Int32} (h_c : M.1 c = some (ob 3 [.ref b, .ref q, .int u2, .int u3, .int u4, .int u5, .ref fr, .ref mr, .int x8, .int x9, .int x10, .int (nI bc), .int (nI bp), .int x13, .int x14, .int x15, .int x16])) (h_b : M.1 b = some (ob 1 [.ref da])) (h_da : M.1 da = some (ar .byte n f)) (hn : n ≤ 65540) (hbc : bc < 65536) (hbs : bc = 0 ∨ (8 ≤ bp ∧ ∃ e, e ≤ n ∧ s_bsE f e bc bp = some e)) : pt (mT g) 70 [.ref c, .int i, .int t] M (fun v M' => (v = some (.int (bsI f bc bp i t)) ∧ M = M')) := by
  unfold bsI
  by_cases hi : i < 0 ∨ nI bc ≤ i
  · rw [if_pos hi]
    exact dk_bsN (f := f) (n := n) (da := da) h_c hi
  · rw [if_neg hi]
    obtain ⟨ei, hj⟩ := i32_in (by omega) hi
    obtain ⟨j, ej⟩ : ∃ j, j = i.toNatClampNeg := ⟨_, rfl⟩
    rw [← ej] at ei hj ⊢
    subst ei
    rcases hbs with h9 | ⟨-, e, he, hbs⟩
    · omega
    · by_cases ht : t < 0 ∨ nI (by2 f (bsP f j bp + 2)) < t
      · rw [if_pos ht]
        exact dk_bsB h_c h_b h_da hn hbc hj he hbs ht
      · rw [if_neg ht]
        have hu7 := by2_lt f (bsP f j bp + 2)
        have h0 : ¬ t < 0 := fun q => ht (Or.inl q)
        have et := i32_nn h0
        have hle : t.toNatClampNeg ≤ by2 f (bsP f j bp + 2) := by
          have h1 := Int32.le_iff_toInt_le.mp (Int32.not_lt.mp (fun q => ht (Or.inr q)))
          rw [nI_val (by omega)] at h1
          have h2 := i32_to h0
          omega
        obtain ⟨u, eu⟩ : ∃ u, u = t.toNatClampNeg := ⟨_, rfl⟩
        rw [← eu] at et hle ⊢
        subst et
        exact dk_bsG h_c h_b h_da hn hbc hj he hbs hle
set_option maxHeartbeats 1000000 in
theorem dk_bootstrapK {g : xe_G} {M : mi_H} {f : Nat → Int32} {n q c b da fr mr bc bp : Nat} {u2 u3 u4 u5 x8 x9 x10 x13 x14 x15 x16 : Int32} {o ca fl : Nat} {cn wp i t : Int32} (h_o : M.1 o = some (ob 11 [.ref ca, .int cn, .ref fl, .ref c, .int wp])) (h_c : M.1 c = some (ob 3 [.ref b, .ref q, .int u2, .int u3, .int u4, .int u5, .ref fr, .ref mr, .int x8, .int x9, .int x10, .int (nI bc), .int (nI bp), .int x13, .int x14, .int x15, .int x16])) (h_b : M.1 b = some (ob 1 [.ref da])) (h_da : M.1 da = some (ar .byte n f)) (hn : n ≤ 65540) (hbc : bc < 65536) (hbs : bc = 0 ∨ (8 ≤ bp ∧ ∃ e, e ≤ n ∧ s_bsE f e bc bp = some e)) : pt (mT g) 2 [.ref o, .int i, .int t] M (fun v M' => (v = some (.int (bsI f bc bp i t)) ∧ M = M')) := by
  refine pt_in (b := mb_2 g) rfl (fun kf => ?_)
  show pl (mT g) kf (mb_2 g).2 (0, [(0, .ref o), (1, .int i), (2, .int t)], [], M) _
  refine ps_st (S' := (1, [(0, .ref o), (1, .int i), (2, .int t)], [.ref o], M)) rfl rfl rfl ?_
  refine ps_get (S' := (4, [(0, .ref o), (1, .int i), (2, .int t)], [.ref c], M)) rfl h_o rfl rfl ?_
  refine ps_st (S' := (11, [(0, .ref o), (1, .int i), (2, .int t)], [], M)) rfl rfl rfl ?_
  refine ps_st (S' := (12, [(0, .ref o), (1, .int i), (2, .int t)], [.ref o], M)) rfl rfl rfl ?_
  refine ps_get (S' := (15, [(0, .ref o), (1, .int i), (2, .int t)], [.ref c], M)) rfl h_o rfl rfl ?_
  refine ps_st (S' := (16, [(0, .ref o), (1, .int i), (2, .int t)], [.int i, .ref c], M)) rfl rfl rfl ?_
  refine ps_st (S' := (17, [(0, .ref o), (1, .int i), (2, .int t)], [.int t, .int i, .ref c], M)) rfl rfl rfl ?_
  refine pl_call (a := [.ref c, .int i, .int t]) (rest := []) rfl rfl rfl (dk_bsPart (f := f) (n := n) (q := q) (c := c) (b := b) (da := da) (fr := fr) (mr := mr) (bc := bc) (bp := bp) (u2 := u2) (u3 := u3) (u4 := u4) (u5 := u5) (x8 := x8) (x9 := x9) (x10 := x10) (x13 := x13) (x14 := x14) (x15 := x15) (x16 := x16) (i := i) (t := t) h_c h_b h_da (hn) (hbc) (hbs)) (fun v1 M2 q3 => ?_)
  obtain ⟨rfl, rfl⟩ := q3
  show pl _ _ _ (20, [], [.int (bsI f bc bp i t)], M) _
  exact ps_reti rfl (⟨rfl, rfl⟩)
theorem dk_bootstrap {g : xe_G} {M : mi_H} {ko : Option (Nat × (Nat → Int32))} {kv : Value} {cm o fl : Nat} {cn wp i t : Int32} (hx : M.1 o = some (ob 11 [.ref cm, .int cn, .ref fl, kv, .int wp])) (hK : KPC g ko kv cm M) : pt (mT g) 2 [.ref o, .int i, .int t] M (fun v M' => v = some (.int (bsK ko i t)) ∧ M = M') := by
  cases ko with
  | none =>
    have e : kv = .null := hK
    subst e
    exact dk_bootstrap0 hx
  | some r =>
    obtain ⟨c, da, rfl, ⟨b, q, N, E, p1, pF, pM, pA, w, h1, h2, h3, h4, h5, rfl, -, h7, fr, mr, G1, G2, k1, k2, bc, K, rfl, m1, m2, m3, m4, m5, m6, m7, m8, -⟩, -, -⟩ := hK
    rw [bsK_is h5 m7 m8]
    exact dk_bootstrapK hx h1 h2 h3 h7 (clS_bc m7) (cl_bt m6 m7 m8)
end
section
set_option maxHeartbeats 1000000 in
theorem rd_bootstrap0 {g : xe_G} {m0 : Nat} {q : Nat → Nat} {z : Nat × Nat} {I : rI} {R : rR} {M : mi_H} {kn i t : Int32} (hR : RS g m0 q z I R M) (hi18 : I 18 = some kn)  (hk : kn < 0) : pt (mT g) 184 [.ref m0, .int i, .int t] M (fun v M' => (∃  (I' : rI) (R' : rR), v = some (.int (-1)) ∧ RS g m0 q z I' R' M' ∧ eqI [0] I I' ∧ eqR [] R R' ∧ I' 0 = some 0)) := by
  refine pt_in (b := mb_184 g) rfl (fun kf => ?_)
  show pl (mT g) kf (mb_184 g).2 (0, [(0, .ref m0), (1, .int i), (2, .int t)], [], M) _
  have hEI : eqI [0] I I := eqI.rf
  have hER : eqR [] R R := eqR.rf
  refine ps_st (S' := (1, [(0, .ref m0), (1, .int i), (2, .int t)], [.ref m0], M)) rfl rfl rfl ?_
  refine ps_st (S' := (2, [(0, .ref m0), (1, .int i), (2, .int t)], [.int 0, .ref m0], M)) rfl rfl rfl ?_
  refine pr_put (j := 0) rfl hR rfl (fun M1 I2 hR3 hi4 hI5 => ?_)
  have hi6 := (hI5 18 (by decide)).trans hi18
  have hEI7 := hEI.put hI5 (by decide)
  show pl _ _ _ (5, [(0, .ref m0), (1, .int i), (2, .int t)], [], M1) _
  refine ps_st (S' := (6, [(0, .ref m0), (1, .int i), (2, .int t)], [.ref m0], M1)) rfl rfl rfl ?_
  refine pr_int (j := 18) (S' := (9, [(0, .ref m0), (1, .int i), (2, .int t)], [.int kn], M1)) rfl hR3 rfl hi6 rfl ?_
  refine ps_if (S1 := (28, [], [], M1)) (S2 := (12, [(0, .ref m0), (1, .int i), (2, .int t)], [], M1)) rfl rfl rfl (fun c_9 => ?_) (fun c_9 => ?_)
  rotate_left
  · exact absurd (hk) (of_decide_eq_false c_9)
  refine ps_st (S' := (29, [], [.int (-1)], M1)) rfl rfl rfl ?_
  exact ps_ret rfl rfl (⟨I2, R, rfl, hR3, hEI7, hER, hi4⟩)
set_option maxHeartbeats 1000000 in
theorem rd_bootstrapN {g : xe_G} {m0 : Nat} {q : Nat → Nat} {z : Nat × Nat} {I : rI} {R : rR} {M : mi_H} {n2 bc : Nat} {i t : Int32} (hR : RS g m0 q z I R M) (hi18 : I 18 = some (nI n2)) (hi71 : I 71 = some (nI bc))  (hn2 : n2 ≤ 65540) (hi : (i < 0 ∨ nI bc ≤ i) ∨ t < 0) : pt (mT g) 184 [.ref m0, .int i, .int t] M (fun v M' => (∃  (I' : rI) (R' : rR), v = some (.int (-1)) ∧ RS g m0 q z I' R' M' ∧ eqI [0] I I' ∧ eqR [] R R' ∧ I' 0 = some 0)) := by
  refine pt_in (b := mb_184 g) rfl (fun kf => ?_)
  show pl (mT g) kf (mb_184 g).2 (0, [(0, .ref m0), (1, .int i), (2, .int t)], [], M) _
  have hEI : eqI [0] I I := eqI.rf
  have hER : eqR [] R R := eqR.rf
  refine ps_st (S' := (1, [(0, .ref m0), (1, .int i), (2, .int t)], [.ref m0], M)) rfl rfl rfl ?_
  refine ps_st (S' := (2, [(0, .ref m0), (1, .int i), (2, .int t)], [.int 0, .ref m0], M)) rfl rfl rfl ?_
  refine pr_put (j := 0) rfl hR rfl (fun M1 I2 hR3 hi4 hI5 => ?_)
  have hi6 := (hI5 18 (by decide)).trans hi18
  have hi7 := (hI5 71 (by decide)).trans hi71
  have hEI8 := hEI.put hI5 (by decide)
  show pl _ _ _ (5, [(0, .ref m0), (1, .int i), (2, .int t)], [], M1) _
  refine ps_st (S' := (6, [(0, .ref m0), (1, .int i), (2, .int t)], [.ref m0], M1)) rfl rfl rfl ?_
  refine pr_int (j := 18) (S' := (9, [(0, .ref m0), (1, .int i), (2, .int t)], [.int (nI n2)], M1)) rfl hR3 rfl hi6 rfl ?_
  refine ps_if (S1 := (28, [], [], M1)) (S2 := (12, [(0, .ref m0), (1, .int i), (2, .int t)], [], M1)) rfl rfl rfl (fun c_9 => ?_) (fun c_9 => ?_)
  · exact absurd (of_decide_eq_true c_9) (show ¬ ((nI n2) < 0) from fun h9 => absurd ((lt_nI (p := n2) (n := 0) (by omega) (by decide)).mp h9) (by omega))
  refine ps_st (S' := (13, [(0, .ref m0), (1, .int i), (2, .int t)], [.int i], M1)) rfl rfl rfl ?_
  refine ps_if (S1 := (28, [], [], M1)) (S2 := (16, [(0, .ref m0), (1, .int i), (2, .int t)], [], M1)) rfl rfl rfl (fun c_13 => ?_) (fun c_13 => ?_)
  · have c_13 : i < 0 := of_decide_eq_true c_13
    refine ps_st (S' := (29, [], [.int (-1)], M1)) rfl rfl rfl ?_
    exact ps_ret rfl rfl (⟨I2, R, rfl, hR3, hEI8, hER, hi4⟩)
  · have c_13 : ¬ (i < 0) := of_decide_eq_false c_13
    refine ps_st (S' := (17, [(0, .ref m0), (1, .int i), (2, .int t)], [.int i], M1)) rfl rfl rfl ?_
    refine ps_st (S' := (18, [(0, .ref m0), (1, .int i), (2, .int t)], [.ref m0, .int i], M1)) rfl rfl rfl ?_
    refine pr_int (j := 71) (S' := (21, [(0, .ref m0), (1, .int i), (2, .int t)], [.int (nI bc), .int i], M1)) rfl hR3 rfl hi7 rfl ?_
    refine ps_if2 (S1 := (28, [], [], M1)) (S2 := (24, [(0, .ref m0), (1, .int i), (2, .int t)], [], M1)) rfl rfl rfl (fun c_21 => ?_) (fun c_21 => ?_)
    · have c_21 : (nI bc) ≤ i := of_decide_eq_true c_21
      refine ps_st (S' := (29, [], [.int (-1)], M1)) rfl rfl rfl ?_
      exact ps_ret rfl rfl (⟨I2, R, rfl, hR3, hEI8, hER, hi4⟩)
    · have c_21 : ¬ ((nI bc) ≤ i) := of_decide_eq_false c_21
      refine ps_st (S' := (25, [(0, .ref m0), (1, .int i), (2, .int t)], [.int t], M1)) rfl rfl rfl ?_
      refine ps_if (S1 := (30, [(0, .ref m0), (1, .int i), (2, .int t)], [], M1)) (S2 := (28, [], [], M1)) rfl rfl rfl (fun c_25 => ?_) (fun c_25 => ?_)
      · have c_25 : 0 ≤ t := of_decide_eq_true c_25
        exact absurd hi (fun h9 => h9.elim (fun h8 => h8.elim c_13 c_21) (fun h8 => absurd h8 (Int32.not_lt.mpr c_25)))
      · have c_25 : ¬ (0 ≤ t) := of_decide_eq_false c_25
        refine ps_st (S' := (29, [], [.int (-1)], M1)) rfl rfl rfl ?_
        exact ps_ret rfl rfl (⟨I2, R, rfl, hR3, hEI8, hER, hi4⟩)
set_option maxHeartbeats 1000000 in
theorem rd_bootstrapB {g : xe_G} {m0 : Nat} {q : Nat → Nat} {z : Nat × Nat} {I : rI} {R : rR} {M : mi_H} {n : Nat} {f : Nat → Int32} {n2 bc bp j e : Nat} {t : Int32} (hR : RS g m0 q z I R M) (hi18 : I 18 = some (nI n2)) (hi71 : I 71 = some (nI bc)) (hi70 : I 70 = some (nI (bp - 2))) (hF : FK n f I R) (hn2 : n2 ≤ 65540) (hbp : 8 ≤ bp) (hbc : bc < 65536) (hj : j < bc) (he : e ≤ n) (hbs : s_bsE f e bc bp = some e) (ht0 : ¬ t < 0) (hb9 : nI (by2 f (bsP f j bp + 2)) < t) : pt (mT g) 184 [.ref m0, .int (nI j), .int t] M (fun v M' => (∃  (I' : rI) (R' : rR), v = some (.int (-1)) ∧ RS g m0 q z I' R' M' ∧ eqI [0] I I' ∧ eqR [] R R' ∧ I' 0 = some 0)) := by
  refine pt_in (b := mb_184 g) rfl (fun kf => ?_)
  show pl (mT g) kf (mb_184 g).2 (0, [(0, .ref m0), (1, .int (nI j)), (2, .int t)], [], M) _
  have hEI : eqI [0] I I := eqI.rf
  have hER : eqR [] R R := eqR.rf
  have hn := hF.1
  have hin8 := s_bsE_in (c := bc) (i := 0) (p := bp) hbs (by omega)
  have LL : ∀ (kf : Nat), (∀ (a p : Nat) (M1 : mi_H) (I1 : rI) (R1 : rR), (RS g m0 q z I1 R1 M1) → (eqI [0] I I1) → (eqR [] R R1) → (I1 0 = some 0) → (FK n f I1 R1) → (a ≤ j) → (s_bsE f e (bc - a) p = some e) → (bsP f (j - a) p = bsP f j bp) →  pl (mT g) kf (mb_184 g).2 (40, [(0, .ref m0), (1, .int (nI j)), (2, .int t), (3, .int (nI p)), (4, .int (nI a))], [], M1) (fun v M' => (∃  (I' : rI) (R' : rR), v = some (.int (-1)) ∧ RS g m0 q z I' R' M' ∧ eqI [0] I I' ∧ eqR [] R R' ∧ I' 0 = some 0))) := by
    intro kf
    induction kf with
    | zero => exact (by intros; exact pl_0)
    | succ kf ih =>
      intro a p M1 I1 R1 hR1 hEI1 hER1 hl0 hF1 ha hf hp
      have hn := hF1.1
      have hin9 := s_bsE_in (i := a) (p := p) hf (by omega)
      refine ps_st1 (S' := (42, [(0, .ref m0), (1, .int (nI j)), (2, .int t), (3, .int (nI p)), (4, .int (nI a))], [.int (nI a)], M1)) rfl rfl rfl ?_
      refine ps_st (S' := (43, [(0, .ref m0), (1, .int (nI j)), (2, .int t), (3, .int (nI p)), (4, .int (nI a))], [.int (nI j), .int (nI a)], M1)) rfl rfl rfl ?_
      refine ps_if2 (S1 := (66, [(0, .ref m0), (1, .int (nI j)), (2, .int t), (3, .int (nI p)), (4, .int (nI a))], [], M1)) (S2 := (46, [(0, .ref m0), (1, .int (nI j)), (2, .int t), (3, .int (nI p)), (4, .int (nI a))], [], M1)) rfl rfl rfl (fun c_43 => ?_) (fun c_43 => ?_)
      · have c_43 : (nI j) ≤ (nI a) := of_decide_eq_true c_43
        have n_43 : j ≤ a := (le_nI (p := j) (n := a) (by omega) (by omega)).mp c_43
        have eP : p = bsP f j bp := by rw [← hp, show j - a = 0 by omega]; rfl
        rw [← eP] at hb9
        have hu8 := by2_lt f (p + 2)
        refine ps_st (S' := (67, [(0, .ref m0), (1, .int (nI j)), (2, .int t), (3, .int (nI p)), (4, .int (nI a))], [.int t], M1)) rfl rfl rfl ?_
        refine ps_if (S1 := (76, [(0, .ref m0), (1, .int (nI j)), (2, .int t), (3, .int (nI p)), (4, .int (nI a))], [], M1)) (S2 := (70, [(0, .ref m0), (1, .int (nI j)), (2, .int t), (3, .int (nI p)), (4, .int (nI a))], [], M1)) rfl rfl rfl (fun c_67 => ?_) (fun c_67 => ?_)
        rotate_left
        · exact absurd (show ¬ t = 0 from fun h9 => absurd hb9 (by rw [h9]; exact nI_n0 (by omega))) (of_decide_eq_false c_67)
        refine ps_st (S' := (77, [(0, .ref m0), (1, .int (nI j)), (2, .int t), (3, .int (nI p)), (4, .int (nI a))], [.int t], M1)) rfl rfl rfl ?_
        refine ps_st (S' := (78, [(0, .ref m0), (1, .int (nI j)), (2, .int t), (3, .int (nI p)), (4, .int (nI a))], [.ref m0, .int t], M1)) rfl rfl rfl ?_
        refine ps_st (S' := (79, [(0, .ref m0), (1, .int (nI j)), (2, .int t), (3, .int (nI p)), (4, .int (nI a))], [.int (nI p), .ref m0, .int t], M1)) rfl rfl rfl ?_
        refine ps_st (S' := (80, [(0, .ref m0), (1, .int (nI j)), (2, .int t), (3, .int (nI p)), (4, .int (nI a))], [.int 2, .int (nI p), .ref m0, .int t], M1)) rfl rfl rfl ?_
        refine ps_st (S' := (81, [(0, .ref m0), (1, .int (nI j)), (2, .int t), (3, .int (nI p)), (4, .int (nI a))], [.int ((nI p) + 2), .ref m0, .int t], M1)) rfl rfl rfl ?_
        rw [nI_add1 (p := p) (k := 2) (x := 2) rfl (by omega)]
        show pl _ _ _ (_, [(0, .ref m0), (1, .int (nI j)), (2, .int t), (3, .int (nI p)), (4, .int (nI a))], [.int (nI (p + 2)), .ref m0, .int t], M1) _
        refine pl_call (a := [.ref m0, .int (nI (p + 2))]) (rest := [.int t]) rfl rfl rfl (rd_u2 (n := n) (f := f) (p := (p + 2)) hR1 hF1 (by omega)) (fun v1 M2 q3 => ?_)
        obtain ⟨rfl, rfl⟩ := q3
        show pl _ _ _ (84, [(0, .ref m0), (1, .int (nI j)), (2, .int t), (3, .int (nI p)), (4, .int (nI a))], [.int (nI (by2 f (p + 2))), .int t], M1) _
        have hu_81 := by2_lt f (p + 2)
        refine ps_if2 (S1 := (91, [(0, .ref m0), (1, .int (nI j)), (2, .int t), (3, .int (nI p)), (4, .int (nI a))], [], M1)) (S2 := (87, [(0, .ref m0), (1, .int (nI j)), (2, .int t), (3, .int (nI p)), (4, .int (nI a))], [], M1)) rfl rfl rfl (fun c_84 => ?_) (fun c_84 => ?_)
        · exact absurd (of_decide_eq_true c_84) (Int32.not_le.mpr hb9)
        refine ps_st (S' := (88, [(0, .ref m0), (1, .int (nI j)), (2, .int t), (3, .int (nI p)), (4, .int (nI a))], [.int (-1)], M1)) rfl rfl rfl ?_
        refine ps_st (S' := (102, [], [.int (-1)], M1)) rfl rfl rfl ?_
        exact ps_ret rfl rfl (⟨I1, R1, rfl, hR1, hEI1, hER1, hl0⟩)
      · have c_43 : ¬ ((nI j) ≤ (nI a)) := of_decide_eq_false c_43
        have n_43 : ¬ (j ≤ a) := fun h9 => c_43 ((le_nI (p := j) (n := a) (by omega) (by omega)).mpr h9)
        refine ps_st (S' := (47, [(0, .ref m0), (1, .int (nI j)), (2, .int t), (3, .int (nI p)), (4, .int (nI a))], [.int (nI p)], M1)) rfl rfl rfl ?_
        refine ps_st (S' := (48, [(0, .ref m0), (1, .int (nI j)), (2, .int t), (3, .int (nI p)), (4, .int (nI a))], [.int 4, .int (nI p)], M1)) rfl rfl rfl ?_
        refine ps_st (S' := (49, [(0, .ref m0), (1, .int (nI j)), (2, .int t), (3, .int (nI p)), (4, .int (nI a))], [.int 2, .int 4, .int (nI p)], M1)) rfl rfl rfl ?_
        refine ps_st (S' := (50, [(0, .ref m0), (1, .int (nI j)), (2, .int t), (3, .int (nI p)), (4, .int (nI a))], [.ref m0, .int 2, .int 4, .int (nI p)], M1)) rfl rfl rfl ?_
        refine ps_st (S' := (51, [(0, .ref m0), (1, .int (nI j)), (2, .int t), (3, .int (nI p)), (4, .int (nI a))], [.int (nI p), .ref m0, .int 2, .int 4, .int (nI p)], M1)) rfl rfl rfl ?_
        refine ps_st (S' := (52, [(0, .ref m0), (1, .int (nI j)), (2, .int t), (3, .int (nI p)), (4, .int (nI a))], [.int 2, .int (nI p), .ref m0, .int 2, .int 4, .int (nI p)], M1)) rfl rfl rfl ?_
        refine ps_st (S' := (53, [(0, .ref m0), (1, .int (nI j)), (2, .int t), (3, .int (nI p)), (4, .int (nI a))], [.int ((nI p) + 2), .ref m0, .int 2, .int 4, .int (nI p)], M1)) rfl rfl rfl ?_
        rw [nI_add1 (p := p) (k := 2) (x := 2) rfl (by omega)]
        show pl _ _ _ (_, [(0, .ref m0), (1, .int (nI j)), (2, .int t), (3, .int (nI p)), (4, .int (nI a))], [.int (nI (p + 2)), .ref m0, .int 2, .int 4, .int (nI p)], M1) _
        refine pl_call (a := [.ref m0, .int (nI (p + 2))]) (rest := [.int 2, .int 4, .int (nI p)]) rfl rfl rfl (rd_u2 (n := n) (f := f) (p := (p + 2)) hR1 hF1 (by omega)) (fun v4 M5 q6 => ?_)
        obtain ⟨rfl, rfl⟩ := q6
        show pl _ _ _ (56, [(0, .ref m0), (1, .int (nI j)), (2, .int t), (3, .int (nI p)), (4, .int (nI a))], [.int (nI (by2 f (p + 2))), .int 2, .int 4, .int (nI p)], M1) _
        have hu_53 := by2_lt f (p + 2)
        refine ps_st (S' := (57, [(0, .ref m0), (1, .int (nI j)), (2, .int t), (3, .int (nI p)), (4, .int (nI a))], [.int (2 * (nI (by2 f (p + 2)))), .int 4, .int (nI p)], M1)) rfl rfl rfl ?_
        rw [nI_mul1 (p := 2) (k := by2 f (p + 2)) (x := 2) (y := (nI (by2 f (p + 2)))) rfl rfl (by omega)]
        show pl _ _ _ (_, [(0, .ref m0), (1, .int (nI j)), (2, .int t), (3, .int (nI p)), (4, .int (nI a))], [.int (nI (2 * (by2 f (p + 2)))), .int 4, .int (nI p)], M1) _
        refine ps_st (S' := (58, [(0, .ref m0), (1, .int (nI j)), (2, .int t), (3, .int (nI p)), (4, .int (nI a))], [.int (4 + (nI (2 * (by2 f (p + 2))))), .int (nI p)], M1)) rfl rfl rfl ?_
        rw [nI_add2 (p := 4) (k := 2 * (by2 f (p + 2))) (x := 4) (y := (nI (2 * (by2 f (p + 2))))) rfl rfl (by omega)]
        show pl _ _ _ (_, [(0, .ref m0), (1, .int (nI j)), (2, .int t), (3, .int (nI p)), (4, .int (nI a))], [.int (nI (4 + 2 * (by2 f (p + 2)))), .int (nI p)], M1) _
        refine ps_st (S' := (59, [(0, .ref m0), (1, .int (nI j)), (2, .int t), (3, .int (nI p)), (4, .int (nI a))], [.int ((nI p) + (nI (4 + 2 * (by2 f (p + 2)))))], M1)) rfl rfl rfl ?_
        rw [nI_add1 (p := p) (k := 4 + 2 * (by2 f (p + 2))) (x := (nI (4 + 2 * (by2 f (p + 2))))) rfl (by omega)]
        rw [show nI (p + (4 + 2 * (by2 f (p + 2)))) = nI (p + 4 + 2 * (by2 f (p + 2))) from congrArg nI (by omega)]
        show pl _ _ _ (_, [(0, .ref m0), (1, .int (nI j)), (2, .int t), (3, .int (nI p)), (4, .int (nI a))], [.int (nI (p + 4 + 2 * (by2 f (p + 2))))], M1) _
        refine ps_st (S' := (60, [(3, .int (nI (p + 4 + 2 * (by2 f (p + 2))))), (0, .ref m0), (1, .int (nI j)), (2, .int t), (4, .int (nI a))], [], M1)) rfl rfl rfl ?_
        refine ps_st (S' := (63, [(4, .int ((nI a) + 1)), (3, .int (nI (p + 4 + 2 * (by2 f (p + 2))))), (0, .ref m0), (1, .int (nI j)), (2, .int t)], [], M1)) rfl rfl rfl ?_
        rw [nI_add1 (p := a) (k := 1) (x := 1) rfl (by omega)]
        show pl _ _ _ (_, [(4, .int (nI (a + 1))), (3, .int (nI (p + 4 + 2 * (by2 f (p + 2))))), (0, .ref m0), (1, .int (nI j)), (2, .int t)], [], M1) _
        refine ps_st (S' := (40, [(0, .ref m0), (1, .int (nI j)), (2, .int t), (3, .int (nI (p + 4 + 2 * (by2 f (p + 2))))), (4, .int (nI (a + 1)))], [], M1)) rfl rfl rfl ?_
        exact ih (a + 1) (p + 4 + 2 * by2 f (p + 2)) M1 I1 R1 hR1 hEI1 hER1 hl0 hF1 (by omega) (hin9.2.2) (by
            rw [← hp, bsP_st (i := a) (by omega)])
  refine ps_st (S' := (1, [(0, .ref m0), (1, .int (nI j)), (2, .int t)], [.ref m0], M)) rfl rfl rfl ?_
  refine ps_st (S' := (2, [(0, .ref m0), (1, .int (nI j)), (2, .int t)], [.int 0, .ref m0], M)) rfl rfl rfl ?_
  refine pr_put (j := 0) rfl hR rfl (fun M7 I8 hR9 hi10 hI11 => ?_)
  have hi12 := (hI11 18 (by decide)).trans hi18
  have hi13 := (hI11 71 (by decide)).trans hi71
  have hi14 := (hI11 70 (by decide)).trans hi70
  have hF_15 := hF.mono (pIx hI11 (by decide)) (fun _ _ => rfl)
  have hEI16 := hEI.put hI11 (by decide)
  show pl _ _ _ (5, [(0, .ref m0), (1, .int (nI j)), (2, .int t)], [], M7) _
  refine ps_st (S' := (6, [(0, .ref m0), (1, .int (nI j)), (2, .int t)], [.ref m0], M7)) rfl rfl rfl ?_
  refine pr_int (j := 18) (S' := (9, [(0, .ref m0), (1, .int (nI j)), (2, .int t)], [.int (nI n2)], M7)) rfl hR9 rfl hi12 rfl ?_
  refine ps_if (S1 := (28, [], [], M7)) (S2 := (12, [(0, .ref m0), (1, .int (nI j)), (2, .int t)], [], M7)) rfl rfl rfl (fun c_9 => ?_) (fun c_9 => ?_)
  · exact absurd (of_decide_eq_true c_9) (show ¬ ((nI n2) < 0) from fun h9 => absurd ((lt_nI (p := n2) (n := 0) (by omega) (by decide)).mp h9) (by omega))
  refine ps_st (S' := (13, [(0, .ref m0), (1, .int (nI j)), (2, .int t)], [.int (nI j)], M7)) rfl rfl rfl ?_
  refine ps_if (S1 := (28, [], [], M7)) (S2 := (16, [(0, .ref m0), (1, .int (nI j)), (2, .int t)], [], M7)) rfl rfl rfl (fun c_13 => ?_) (fun c_13 => ?_)
  · exact absurd (of_decide_eq_true c_13) (nI_n0 (by omega))
  refine ps_st (S' := (17, [(0, .ref m0), (1, .int (nI j)), (2, .int t)], [.int (nI j)], M7)) rfl rfl rfl ?_
  refine ps_st (S' := (18, [(0, .ref m0), (1, .int (nI j)), (2, .int t)], [.ref m0, .int (nI j)], M7)) rfl rfl rfl ?_
  refine pr_int (j := 71) (S' := (21, [(0, .ref m0), (1, .int (nI j)), (2, .int t)], [.int (nI bc), .int (nI j)], M7)) rfl hR9 rfl hi13 rfl ?_
  refine ps_if2 (S1 := (28, [], [], M7)) (S2 := (24, [(0, .ref m0), (1, .int (nI j)), (2, .int t)], [], M7)) rfl rfl rfl (fun c_21 => ?_) (fun c_21 => ?_)
  · exact absurd (of_decide_eq_true c_21) (Int32.not_le.mpr ((lt_nI (by omega) (by omega)).mpr hj))
  refine ps_st (S' := (25, [(0, .ref m0), (1, .int (nI j)), (2, .int t)], [.int t], M7)) rfl rfl rfl ?_
  refine ps_if (S1 := (30, [(0, .ref m0), (1, .int (nI j)), (2, .int t)], [], M7)) (S2 := (28, [], [], M7)) rfl rfl rfl (fun c_25 => ?_) (fun c_25 => ?_)
  rotate_left
  · exact absurd (Int32.not_lt.mp ht0) (of_decide_eq_false c_25)
  refine ps_st (S' := (31, [(0, .ref m0), (1, .int (nI j)), (2, .int t)], [.ref m0], M7)) rfl rfl rfl ?_
  refine pr_int (j := 70) (S' := (34, [(0, .ref m0), (1, .int (nI j)), (2, .int t)], [.int (nI (bp - 2))], M7)) rfl hR9 rfl hi14 rfl ?_
  refine ps_st (S' := (35, [(0, .ref m0), (1, .int (nI j)), (2, .int t)], [.int 2, .int (nI (bp - 2))], M7)) rfl rfl rfl ?_
  refine ps_st (S' := (36, [(0, .ref m0), (1, .int (nI j)), (2, .int t)], [.int ((nI (bp - 2)) + 2)], M7)) rfl rfl rfl ?_
  rw [nI_add1 (p := bp - 2) (k := 2) (x := 2) rfl (by omega)]
  show pl _ _ _ (_, [(0, .ref m0), (1, .int (nI j)), (2, .int t)], [.int (nI (bp - 2 + 2))], M7) _
  refine ps_st (S' := (37, [(3, .int (nI (bp - 2 + 2))), (0, .ref m0), (1, .int (nI j)), (2, .int t)], [], M7)) rfl rfl rfl ?_
  rw [show bp - 2 + 2 = bp by omega]
  show pl _ _ _ (37, [(3, .int (nI bp)), (0, .ref m0), (1, .int (nI j)), (2, .int t)], [], M7) _
  refine ps_st (S' := (38, [(3, .int (nI bp)), (0, .ref m0), (1, .int (nI j)), (2, .int t)], [.int 0], M7)) rfl rfl rfl ?_
  refine ps_st (S' := (40, [(0, .ref m0), (1, .int (nI j)), (2, .int t), (3, .int (nI bp)), (4, .int 0)], [], M7)) rfl rfl rfl ?_
  exact (LL kf) (0) (bp) M7 I8 R hR9 hEI16 hER hi10 hF_15 (by omega) (hbs) (rfl)
set_option maxHeartbeats 1000000 in
theorem rd_bootstrapG {g : xe_G} {m0 : Nat} {q : Nat → Nat} {z : Nat × Nat} {I : rI} {R : rR} {M : mi_H} {n : Nat} {f : Nat → Int32} {n2 bc bp j e u : Nat} (hR : RS g m0 q z I R M) (hi18 : I 18 = some (nI n2)) (hi71 : I 71 = some (nI bc)) (hi70 : I 70 = some (nI (bp - 2))) (hF : FK n f I R) (hn2 : n2 ≤ 65540) (hbp : 8 ≤ bp) (hbc : bc < 65536) (hj : j < bc) (he : e ≤ n) (hbs : s_bsE f e bc bp = some e) (hu : u ≤ by2 f (bsP f j bp + 2)) : pt (mT g) 184 [.ref m0, .int (nI j), .int (nI u)] M (fun v M' => (∃  (I' : rI) (R' : rR), v = some (.int (bsV f (bsP f j bp) u)) ∧ RS g m0 q z I' R' M' ∧ eqI [0] I I' ∧ eqR [] R R' ∧ I' 0 = some 0)) := by
  refine pt_in (b := mb_184 g) rfl (fun kf => ?_)
  show pl (mT g) kf (mb_184 g).2 (0, [(0, .ref m0), (1, .int (nI j)), (2, .int (nI u))], [], M) _
  have hEI : eqI [0] I I := eqI.rf
  have hER : eqR [] R R := eqR.rf
  have hn := hF.1
  have hin8 := s_bsE_in (c := bc) (i := 0) (p := bp) hbs (by omega)
  have hu7 := by2_lt f (bsP f j bp + 2)
  have LL : ∀ (kf : Nat), (∀ (a p : Nat) (M1 : mi_H) (I1 : rI) (R1 : rR), (RS g m0 q z I1 R1 M1) → (eqI [0] I I1) → (eqR [] R R1) → (I1 0 = some 0) → (FK n f I1 R1) → (a ≤ j) → (s_bsE f e (bc - a) p = some e) → (bsP f (j - a) p = bsP f j bp) →  pl (mT g) kf (mb_184 g).2 (40, [(0, .ref m0), (1, .int (nI j)), (2, .int (nI u)), (3, .int (nI p)), (4, .int (nI a))], [], M1) (fun v M' => (∃  (I' : rI) (R' : rR), v = some (.int (bsV f (bsP f j bp) u)) ∧ RS g m0 q z I' R' M' ∧ eqI [0] I I' ∧ eqR [] R R' ∧ I' 0 = some 0))) := by
    intro kf
    induction kf with
    | zero => exact (by intros; exact pl_0)
    | succ kf ih =>
      intro a p M1 I1 R1 hR1 hEI1 hER1 hl0 hF1 ha hf hp
      have hn := hF1.1
      have hin9 := s_bsE_in (i := a) (p := p) hf (by omega)
      refine ps_st1 (S' := (42, [(0, .ref m0), (1, .int (nI j)), (2, .int (nI u)), (3, .int (nI p)), (4, .int (nI a))], [.int (nI a)], M1)) rfl rfl rfl ?_
      refine ps_st (S' := (43, [(0, .ref m0), (1, .int (nI j)), (2, .int (nI u)), (3, .int (nI p)), (4, .int (nI a))], [.int (nI j), .int (nI a)], M1)) rfl rfl rfl ?_
      refine ps_if2 (S1 := (66, [(0, .ref m0), (1, .int (nI j)), (2, .int (nI u)), (3, .int (nI p)), (4, .int (nI a))], [], M1)) (S2 := (46, [(0, .ref m0), (1, .int (nI j)), (2, .int (nI u)), (3, .int (nI p)), (4, .int (nI a))], [], M1)) rfl rfl rfl (fun c_43 => ?_) (fun c_43 => ?_)
      · have c_43 : (nI j) ≤ (nI a) := of_decide_eq_true c_43
        have n_43 : j ≤ a := (le_nI (p := j) (n := a) (by omega) (by omega)).mp c_43
        have eP : p = bsP f j bp := by rw [← hp, show j - a = 0 by omega]; rfl
        rw [← eP] at hu
        have hu8 := by2_lt f (p + 2)
        refine ps_st (S' := (67, [(0, .ref m0), (1, .int (nI j)), (2, .int (nI u)), (3, .int (nI p)), (4, .int (nI a))], [.int (nI u)], M1)) rfl rfl rfl ?_
        refine ps_if (S1 := (76, [(0, .ref m0), (1, .int (nI j)), (2, .int (nI u)), (3, .int (nI p)), (4, .int (nI a))], [], M1)) (S2 := (70, [(0, .ref m0), (1, .int (nI j)), (2, .int (nI u)), (3, .int (nI p)), (4, .int (nI a))], [], M1)) rfl rfl rfl (fun c_67 => ?_) (fun c_67 => ?_)
        · have c_67 : ¬ (nI u) = 0 := of_decide_eq_true c_67
          have n_67 : ¬ (u = 0) := fun h9 => c_67 ((eq_nI (p := u) (n := 0) (by omega) (by decide)).mpr h9)
          refine ps_st (S' := (77, [(0, .ref m0), (1, .int (nI j)), (2, .int (nI u)), (3, .int (nI p)), (4, .int (nI a))], [.int (nI u)], M1)) rfl rfl rfl ?_
          refine ps_st (S' := (78, [(0, .ref m0), (1, .int (nI j)), (2, .int (nI u)), (3, .int (nI p)), (4, .int (nI a))], [.ref m0, .int (nI u)], M1)) rfl rfl rfl ?_
          refine ps_st (S' := (79, [(0, .ref m0), (1, .int (nI j)), (2, .int (nI u)), (3, .int (nI p)), (4, .int (nI a))], [.int (nI p), .ref m0, .int (nI u)], M1)) rfl rfl rfl ?_
          refine ps_st (S' := (80, [(0, .ref m0), (1, .int (nI j)), (2, .int (nI u)), (3, .int (nI p)), (4, .int (nI a))], [.int 2, .int (nI p), .ref m0, .int (nI u)], M1)) rfl rfl rfl ?_
          refine ps_st (S' := (81, [(0, .ref m0), (1, .int (nI j)), (2, .int (nI u)), (3, .int (nI p)), (4, .int (nI a))], [.int ((nI p) + 2), .ref m0, .int (nI u)], M1)) rfl rfl rfl ?_
          rw [nI_add1 (p := p) (k := 2) (x := 2) rfl (by omega)]
          show pl _ _ _ (_, [(0, .ref m0), (1, .int (nI j)), (2, .int (nI u)), (3, .int (nI p)), (4, .int (nI a))], [.int (nI (p + 2)), .ref m0, .int (nI u)], M1) _
          refine pl_call (a := [.ref m0, .int (nI (p + 2))]) (rest := [.int (nI u)]) rfl rfl rfl (rd_u2 (n := n) (f := f) (p := (p + 2)) hR1 hF1 (by omega)) (fun v1 M2 q3 => ?_)
          obtain ⟨rfl, rfl⟩ := q3
          show pl _ _ _ (84, [(0, .ref m0), (1, .int (nI j)), (2, .int (nI u)), (3, .int (nI p)), (4, .int (nI a))], [.int (nI (by2 f (p + 2))), .int (nI u)], M1) _
          have hu_81 := by2_lt f (p + 2)
          refine ps_if2 (S1 := (91, [(0, .ref m0), (1, .int (nI j)), (2, .int (nI u)), (3, .int (nI p)), (4, .int (nI a))], [], M1)) (S2 := (87, [(0, .ref m0), (1, .int (nI j)), (2, .int (nI u)), (3, .int (nI p)), (4, .int (nI a))], [], M1)) rfl rfl rfl (fun c_84 => ?_) (fun c_84 => ?_)
          rotate_left
          · exact absurd ((le_nI (p := u) (n := by2 f (p + 2)) (by omega) (Nat.lt_trans (by2_lt _ _) (by decide))).mpr hu) (of_decide_eq_false c_84)
          refine ps_st (S' := (92, [(0, .ref m0), (1, .int (nI j)), (2, .int (nI u)), (3, .int (nI p)), (4, .int (nI a))], [.ref m0], M1)) rfl rfl rfl ?_
          refine ps_st (S' := (93, [(0, .ref m0), (1, .int (nI j)), (2, .int (nI u)), (3, .int (nI p)), (4, .int (nI a))], [.int (nI p), .ref m0], M1)) rfl rfl rfl ?_
          refine ps_st (S' := (94, [(0, .ref m0), (1, .int (nI j)), (2, .int (nI u)), (3, .int (nI p)), (4, .int (nI a))], [.int 2, .int (nI p), .ref m0], M1)) rfl rfl rfl ?_
          refine ps_st (S' := (95, [(0, .ref m0), (1, .int (nI j)), (2, .int (nI u)), (3, .int (nI p)), (4, .int (nI a))], [.int ((nI p) + 2), .ref m0], M1)) rfl rfl rfl ?_
          rw [nI_add1 (p := p) (k := 2) (x := 2) rfl (by omega)]
          show pl _ _ _ (_, [(0, .ref m0), (1, .int (nI j)), (2, .int (nI u)), (3, .int (nI p)), (4, .int (nI a))], [.int (nI (p + 2)), .ref m0], M1) _
          refine ps_st (S' := (96, [(0, .ref m0), (1, .int (nI j)), (2, .int (nI u)), (3, .int (nI p)), (4, .int (nI a))], [.int 2, .int (nI (p + 2)), .ref m0], M1)) rfl rfl rfl ?_
          refine ps_st (S' := (97, [(0, .ref m0), (1, .int (nI j)), (2, .int (nI u)), (3, .int (nI p)), (4, .int (nI a))], [.int (nI u), .int 2, .int (nI (p + 2)), .ref m0], M1)) rfl rfl rfl ?_
          refine ps_st (S' := (98, [(0, .ref m0), (1, .int (nI j)), (2, .int (nI u)), (3, .int (nI p)), (4, .int (nI a))], [.int (2 * (nI u)), .int (nI (p + 2)), .ref m0], M1)) rfl rfl rfl ?_
          rw [nI_mul1 (p := 2) (k := u) (x := 2) (y := (nI u)) rfl rfl (by omega)]
          show pl _ _ _ (_, [(0, .ref m0), (1, .int (nI j)), (2, .int (nI u)), (3, .int (nI p)), (4, .int (nI a))], [.int (nI (2 * u)), .int (nI (p + 2)), .ref m0], M1) _
          refine ps_st (S' := (99, [(0, .ref m0), (1, .int (nI j)), (2, .int (nI u)), (3, .int (nI p)), (4, .int (nI a))], [.int ((nI (p + 2)) + (nI (2 * u))), .ref m0], M1)) rfl rfl rfl ?_
          rw [nI_add1 (p := p + 2) (k := 2 * u) (x := (nI (2 * u))) rfl (by omega)]
          show pl _ _ _ (_, [(0, .ref m0), (1, .int (nI j)), (2, .int (nI u)), (3, .int (nI p)), (4, .int (nI a))], [.int (nI (p + 2 + 2 * u)), .ref m0], M1) _
          refine pl_call (a := [.ref m0, .int (nI (p + 2 + 2 * u))]) (rest := []) rfl rfl rfl (rd_u2 (n := n) (f := f) (p := (p + 2 + 2 * u)) hR1 hF1 (by omega)) (fun v4 M5 q6 => ?_)
          obtain ⟨rfl, rfl⟩ := q6
          show pl _ _ _ (102, [], [.int (nI (by2 f (p + 2 + 2 * u)))], M1) _
          have hu_99 := by2_lt f (p + 2 + 2 * u)
          exact ps_reti rfl (⟨I1, R1, congrArg (fun x => some (Value.int x)) (show (nI (by2 f (p + 2 + 2 * u))) = bsV f (bsP f j bp) u from by rw [← eP]; unfold bsV; rw [if_neg (by omega)]), hR1, hEI1, hER1, hl0⟩)
        · have c_67 : ¬ (¬ (nI u) = 0) := of_decide_eq_false c_67
          have n_67 : u = 0 := (eq_nI (p := u) (n := 0) (by omega) (by decide)).mp (Decidable.not_not.mp c_67)
          refine ps_st (S' := (71, [(0, .ref m0), (1, .int (nI j)), (2, .int (nI u)), (3, .int (nI p)), (4, .int (nI a))], [.ref m0], M1)) rfl rfl rfl ?_
          refine ps_st (S' := (72, [(0, .ref m0), (1, .int (nI j)), (2, .int (nI u)), (3, .int (nI p)), (4, .int (nI a))], [.int (nI p), .ref m0], M1)) rfl rfl rfl ?_
          refine pl_call (a := [.ref m0, .int (nI p)]) (rest := []) rfl rfl rfl (rd_u2 (n := n) (f := f) (p := p) hR1 hF1 (by omega)) (fun v7 M8 q9 => ?_)
          obtain ⟨rfl, rfl⟩ := q9
          show pl _ _ _ (75, [(0, .ref m0), (1, .int (nI j)), (2, .int (nI u)), (3, .int (nI p)), (4, .int (nI a))], [.int (nI (by2 f p))], M1) _
          have hu_72 := by2_lt f p
          exact ps_reti rfl (⟨I1, R1, congrArg (fun x => some (Value.int x)) (show (nI (by2 f p)) = bsV f (bsP f j bp) u from by rw [← eP]; unfold bsV; rw [if_pos (by omega)]), hR1, hEI1, hER1, hl0⟩)
      · have c_43 : ¬ ((nI j) ≤ (nI a)) := of_decide_eq_false c_43
        have n_43 : ¬ (j ≤ a) := fun h9 => c_43 ((le_nI (p := j) (n := a) (by omega) (by omega)).mpr h9)
        refine ps_st (S' := (47, [(0, .ref m0), (1, .int (nI j)), (2, .int (nI u)), (3, .int (nI p)), (4, .int (nI a))], [.int (nI p)], M1)) rfl rfl rfl ?_
        refine ps_st (S' := (48, [(0, .ref m0), (1, .int (nI j)), (2, .int (nI u)), (3, .int (nI p)), (4, .int (nI a))], [.int 4, .int (nI p)], M1)) rfl rfl rfl ?_
        refine ps_st (S' := (49, [(0, .ref m0), (1, .int (nI j)), (2, .int (nI u)), (3, .int (nI p)), (4, .int (nI a))], [.int 2, .int 4, .int (nI p)], M1)) rfl rfl rfl ?_
        refine ps_st (S' := (50, [(0, .ref m0), (1, .int (nI j)), (2, .int (nI u)), (3, .int (nI p)), (4, .int (nI a))], [.ref m0, .int 2, .int 4, .int (nI p)], M1)) rfl rfl rfl ?_
        refine ps_st (S' := (51, [(0, .ref m0), (1, .int (nI j)), (2, .int (nI u)), (3, .int (nI p)), (4, .int (nI a))], [.int (nI p), .ref m0, .int 2, .int 4, .int (nI p)], M1)) rfl rfl rfl ?_
        refine ps_st (S' := (52, [(0, .ref m0), (1, .int (nI j)), (2, .int (nI u)), (3, .int (nI p)), (4, .int (nI a))], [.int 2, .int (nI p), .ref m0, .int 2, .int 4, .int (nI p)], M1)) rfl rfl rfl ?_
        refine ps_st (S' := (53, [(0, .ref m0), (1, .int (nI j)), (2, .int (nI u)), (3, .int (nI p)), (4, .int (nI a))], [.int ((nI p) + 2), .ref m0, .int 2, .int 4, .int (nI p)], M1)) rfl rfl rfl ?_
        rw [nI_add1 (p := p) (k := 2) (x := 2) rfl (by omega)]
        show pl _ _ _ (_, [(0, .ref m0), (1, .int (nI j)), (2, .int (nI u)), (3, .int (nI p)), (4, .int (nI a))], [.int (nI (p + 2)), .ref m0, .int 2, .int 4, .int (nI p)], M1) _
        refine pl_call (a := [.ref m0, .int (nI (p + 2))]) (rest := [.int 2, .int 4, .int (nI p)]) rfl rfl rfl (rd_u2 (n := n) (f := f) (p := (p + 2)) hR1 hF1 (by omega)) (fun v10 M11 q12 => ?_)
        obtain ⟨rfl, rfl⟩ := q12
        show pl _ _ _ (56, [(0, .ref m0), (1, .int (nI j)), (2, .int (nI u)), (3, .int (nI p)), (4, .int (nI a))], [.int (nI (by2 f (p + 2))), .int 2, .int 4, .int (nI p)], M1) _
        have hu_53 := by2_lt f (p + 2)
        refine ps_st (S' := (57, [(0, .ref m0), (1, .int (nI j)), (2, .int (nI u)), (3, .int (nI p)), (4, .int (nI a))], [.int (2 * (nI (by2 f (p + 2)))), .int 4, .int (nI p)], M1)) rfl rfl rfl ?_
        rw [nI_mul1 (p := 2) (k := by2 f (p + 2)) (x := 2) (y := (nI (by2 f (p + 2)))) rfl rfl (by omega)]
        show pl _ _ _ (_, [(0, .ref m0), (1, .int (nI j)), (2, .int (nI u)), (3, .int (nI p)), (4, .int (nI a))], [.int (nI (2 * (by2 f (p + 2)))), .int 4, .int (nI p)], M1) _
        refine ps_st (S' := (58, [(0, .ref m0), (1, .int (nI j)), (2, .int (nI u)), (3, .int (nI p)), (4, .int (nI a))], [.int (4 + (nI (2 * (by2 f (p + 2))))), .int (nI p)], M1)) rfl rfl rfl ?_
        rw [nI_add2 (p := 4) (k := 2 * (by2 f (p + 2))) (x := 4) (y := (nI (2 * (by2 f (p + 2))))) rfl rfl (by omega)]
        show pl _ _ _ (_, [(0, .ref m0), (1, .int (nI j)), (2, .int (nI u)), (3, .int (nI p)), (4, .int (nI a))], [.int (nI (4 + 2 * (by2 f (p + 2)))), .int (nI p)], M1) _
        refine ps_st (S' := (59, [(0, .ref m0), (1, .int (nI j)), (2, .int (nI u)), (3, .int (nI p)), (4, .int (nI a))], [.int ((nI p) + (nI (4 + 2 * (by2 f (p + 2)))))], M1)) rfl rfl rfl ?_
        rw [nI_add1 (p := p) (k := 4 + 2 * (by2 f (p + 2))) (x := (nI (4 + 2 * (by2 f (p + 2))))) rfl (by omega)]
        rw [show nI (p + (4 + 2 * (by2 f (p + 2)))) = nI (p + 4 + 2 * (by2 f (p + 2))) from congrArg nI (by omega)]
        show pl _ _ _ (_, [(0, .ref m0), (1, .int (nI j)), (2, .int (nI u)), (3, .int (nI p)), (4, .int (nI a))], [.int (nI (p + 4 + 2 * (by2 f (p + 2))))], M1) _
        refine ps_st (S' := (60, [(3, .int (nI (p + 4 + 2 * (by2 f (p + 2))))), (0, .ref m0), (1, .int (nI j)), (2, .int (nI u)), (4, .int (nI a))], [], M1)) rfl rfl rfl ?_
        refine ps_st (S' := (63, [(4, .int ((nI a) + 1)), (3, .int (nI (p + 4 + 2 * (by2 f (p + 2))))), (0, .ref m0), (1, .int (nI j)), (2, .int (nI u))], [], M1)) rfl rfl rfl ?_
        rw [nI_add1 (p := a) (k := 1) (x := 1) rfl (by omega)]
        show pl _ _ _ (_, [(4, .int (nI (a + 1))), (3, .int (nI (p + 4 + 2 * (by2 f (p + 2))))), (0, .ref m0), (1, .int (nI j)), (2, .int (nI u))], [], M1) _
        refine ps_st (S' := (40, [(0, .ref m0), (1, .int (nI j)), (2, .int (nI u)), (3, .int (nI (p + 4 + 2 * (by2 f (p + 2))))), (4, .int (nI (a + 1)))], [], M1)) rfl rfl rfl ?_
        exact ih (a + 1) (p + 4 + 2 * by2 f (p + 2)) M1 I1 R1 hR1 hEI1 hER1 hl0 hF1 (by omega) (hin9.2.2) (by
            rw [← hp, bsP_st (i := a) (by omega)])
  refine ps_st (S' := (1, [(0, .ref m0), (1, .int (nI j)), (2, .int (nI u))], [.ref m0], M)) rfl rfl rfl ?_
  refine ps_st (S' := (2, [(0, .ref m0), (1, .int (nI j)), (2, .int (nI u))], [.int 0, .ref m0], M)) rfl rfl rfl ?_
  refine pr_put (j := 0) rfl hR rfl (fun M13 I14 hR15 hi16 hI17 => ?_)
  have hi19 := (hI17 18 (by decide)).trans hi18
  have hi20 := (hI17 71 (by decide)).trans hi71
  have hi21 := (hI17 70 (by decide)).trans hi70
  have hF_22 := hF.mono (pIx hI17 (by decide)) (fun _ _ => rfl)
  have hEI23 := hEI.put hI17 (by decide)
  show pl _ _ _ (5, [(0, .ref m0), (1, .int (nI j)), (2, .int (nI u))], [], M13) _
  refine ps_st (S' := (6, [(0, .ref m0), (1, .int (nI j)), (2, .int (nI u))], [.ref m0], M13)) rfl rfl rfl ?_
  refine pr_int (j := 18) (S' := (9, [(0, .ref m0), (1, .int (nI j)), (2, .int (nI u))], [.int (nI n2)], M13)) rfl hR15 rfl hi19 rfl ?_
  refine ps_if (S1 := (28, [], [], M13)) (S2 := (12, [(0, .ref m0), (1, .int (nI j)), (2, .int (nI u))], [], M13)) rfl rfl rfl (fun c_9 => ?_) (fun c_9 => ?_)
  · exact absurd (of_decide_eq_true c_9) (show ¬ ((nI n2) < 0) from fun h9 => absurd ((lt_nI (p := n2) (n := 0) (by omega) (by decide)).mp h9) (by omega))
  refine ps_st (S' := (13, [(0, .ref m0), (1, .int (nI j)), (2, .int (nI u))], [.int (nI j)], M13)) rfl rfl rfl ?_
  refine ps_if (S1 := (28, [], [], M13)) (S2 := (16, [(0, .ref m0), (1, .int (nI j)), (2, .int (nI u))], [], M13)) rfl rfl rfl (fun c_13 => ?_) (fun c_13 => ?_)
  · exact absurd (of_decide_eq_true c_13) (show ¬ ((nI j) < 0) from fun h9 => absurd ((lt_nI (p := j) (n := 0) (by omega) (by decide)).mp h9) (by omega))
  refine ps_st (S' := (17, [(0, .ref m0), (1, .int (nI j)), (2, .int (nI u))], [.int (nI j)], M13)) rfl rfl rfl ?_
  refine ps_st (S' := (18, [(0, .ref m0), (1, .int (nI j)), (2, .int (nI u))], [.ref m0, .int (nI j)], M13)) rfl rfl rfl ?_
  refine pr_int (j := 71) (S' := (21, [(0, .ref m0), (1, .int (nI j)), (2, .int (nI u))], [.int (nI bc), .int (nI j)], M13)) rfl hR15 rfl hi20 rfl ?_
  refine ps_if2 (S1 := (28, [], [], M13)) (S2 := (24, [(0, .ref m0), (1, .int (nI j)), (2, .int (nI u))], [], M13)) rfl rfl rfl (fun c_21 => ?_) (fun c_21 => ?_)
  · exact absurd (of_decide_eq_true c_21) (Int32.not_le.mpr ((lt_nI (by omega) (by omega)).mpr hj))
  refine ps_st (S' := (25, [(0, .ref m0), (1, .int (nI j)), (2, .int (nI u))], [.int (nI u)], M13)) rfl rfl rfl ?_
  refine ps_if (S1 := (30, [(0, .ref m0), (1, .int (nI j)), (2, .int (nI u))], [], M13)) (S2 := (28, [], [], M13)) rfl rfl rfl (fun c_25 => ?_) (fun c_25 => ?_)
  rotate_left
  · exact absurd ((le_nI (p := 0) (n := u) (by decide) (by omega)).mpr (by omega)) (of_decide_eq_false c_25)
  refine ps_st (S' := (31, [(0, .ref m0), (1, .int (nI j)), (2, .int (nI u))], [.ref m0], M13)) rfl rfl rfl ?_
  refine pr_int (j := 70) (S' := (34, [(0, .ref m0), (1, .int (nI j)), (2, .int (nI u))], [.int (nI (bp - 2))], M13)) rfl hR15 rfl hi21 rfl ?_
  refine ps_st (S' := (35, [(0, .ref m0), (1, .int (nI j)), (2, .int (nI u))], [.int 2, .int (nI (bp - 2))], M13)) rfl rfl rfl ?_
  refine ps_st (S' := (36, [(0, .ref m0), (1, .int (nI j)), (2, .int (nI u))], [.int ((nI (bp - 2)) + 2)], M13)) rfl rfl rfl ?_
  rw [nI_add1 (p := bp - 2) (k := 2) (x := 2) rfl (by omega)]
  show pl _ _ _ (_, [(0, .ref m0), (1, .int (nI j)), (2, .int (nI u))], [.int (nI (bp - 2 + 2))], M13) _
  refine ps_st (S' := (37, [(3, .int (nI (bp - 2 + 2))), (0, .ref m0), (1, .int (nI j)), (2, .int (nI u))], [], M13)) rfl rfl rfl ?_
  rw [show bp - 2 + 2 = bp by omega]
  show pl _ _ _ (37, [(3, .int (nI bp)), (0, .ref m0), (1, .int (nI j)), (2, .int (nI u))], [], M13) _
  refine ps_st (S' := (38, [(3, .int (nI bp)), (0, .ref m0), (1, .int (nI j)), (2, .int (nI u))], [.int 0], M13)) rfl rfl rfl ?_
  refine ps_st (S' := (40, [(0, .ref m0), (1, .int (nI j)), (2, .int (nI u)), (3, .int (nI bp)), (4, .int 0)], [], M13)) rfl rfl rfl ?_
  exact (LL kf) (0) (bp) M13 I14 R hR15 hEI23 hER hi16 hF_22 (by omega) (hbs) (rfl)
theorem rd_bootstrap {g : xe_G} {m0 : Nat} {q : Nat → Nat} {z : Nat × Nat} {I : rI} {R : rR} {M : mi_H} {ko : Option (Nat × (Nat → Int32))} {i t : Int32} (hR : RS g m0 q z I R M) (hK : KPR ko I R) : pt (mT g) 184 [.ref m0, .int i, .int t] M (fun v M' => ∃ (I' : rI) (R' : rR), v = some (.int (bsK ko i t)) ∧ RS g m0 q z I' R' M' ∧ eqI [0] I I' ∧ eqR [] R R' ∧ I' 0 = some 0) := by
  cases ko with
  | none =>
    obtain ⟨kn, h1, h2⟩ := hK
    exact rd_bootstrap0 hR h1 h2
  | some r =>
    obtain ⟨h1, h2, -, -, tx, cN, A, E, N, mj, p1, pF, pM, pA, k1, k2, k3, k4, k5, k6, k7, rfl, rfl, m1, m2, m3, m4, m5, m6, m7, m8, -, bc, K, m9, m10, g1, g2, g3, g4, g5, g6, g7⟩ := hK
    rw [bsK_is k7 m9 m10]
    unfold bsI
    by_cases hi : i < 0 ∨ nI bc ≤ i
    · rw [if_pos hi]
      exact rd_bootstrapN hR h1 g1 h2 (Or.inl hi)
    · rw [if_neg hi]
      have hbc := clS_bc m9
      obtain ⟨ei, hj⟩ := i32_in (by omega) hi
      obtain ⟨j, ej⟩ : ∃ j, j = i.toNatClampNeg := ⟨_, rfl⟩
      rw [← ej] at ei hj ⊢
      rcases cl_bt m8 m9 m10 with h9 | ⟨hbp, e, he, hbs⟩
      · omega
      · have g8 : I 70 = some (nI (K.2.1 - 2)) := by
          rw [g6]
          unfold b7
          rw [if_neg (by omega)]
        by_cases ht : t < 0 ∨ nI (by2 r.2 (bsP r.2 j K.2.1 + 2)) < t
        · rw [if_pos ht]
          by_cases h0 : t < 0
          · exact rd_bootstrapN hR h1 g1 h2 (Or.inr h0)
          · rw [ei]
            exact rd_bootstrapB hR h1 g1 g8 k1 h2 hbp hbc hj he hbs h0 (ht.resolve_left h0)
        · rw [if_neg ht]
          have hu7 := by2_lt r.2 (bsP r.2 j K.2.1 + 2)
          have h0 : ¬ t < 0 := fun q => ht (Or.inl q)
          have et := i32_nn h0
          have hle : t.toNatClampNeg ≤ by2 r.2 (bsP r.2 j K.2.1 + 2) := by
            have h1 := Int32.le_iff_toInt_le.mp (Int32.not_lt.mp (fun q => ht (Or.inr q)))
            rw [nI_val (by omega)] at h1
            have h2 := i32_to h0
            omega
          obtain ⟨u, eu⟩ : ∃ u, u = t.toNatClampNeg := ⟨_, rfl⟩
          rw [← eu] at et hle ⊢
          rw [ei, et]
          exact rd_bootstrapG hR h1 g1 g8 k1 h2 hbp hbc hj he hbs hle
end
section
/-! the counts, as both sides tell them (my own text) -/
section CNA
variable {f : Nat → Int32} {n N : Nat} {E : List (Nat × Nat)}
def cnV (f : Nat → Int32) (n : Nat) (E : List (Nat × Nat)) (p1 pF pM bc : Nat) (K : KT) (w : Nat) : Int32 :=
  if w = 0 then nI (by2 f 8) else if w = 1 then nI (mbs f n (by2 f pF) (pF + 2)).length else if w = 2 then nI (mbs f n (by2 f pM) (pM + 2)).length else if w = 3 then nI (by2 f (p1 + 6)) else if w = 4 then nI bc else if w = 5 then nI K.1 else if w = 6 then nI (by2 f p1) else if w = 7 then nI (by2 f 6) else if w = 8 then nI (by2 f 4) else if w = 9 then nI (by2 f (p1 + 2)) else if w = 10 then nI (by2 f (p1 + 4)) else if w = 11 then nI (chL f n E) else if w = 12 then nI K.2.2.1 else if w = 13 then nI K.2.2.2.1 else if w = 14 then nI K.2.2.2.2.1 else K.2.2.2.2.2
/-- what is kept tells it -/
def cnK (ko : Option (Nat × (Nat → Int32))) (w : Int32) : Int32 := match ko with
  | none => -1
  | some r => match s_whole r.2 r.1 with
    | .inl _ => -1
    | .inr y => match clS r.2 r.1 y.1 (by2 r.2 y.2.1) (by2 r.2 6) (by2 r.2 y.2.2.2.2) (y.2.2.2.2 + 2) 0 0 with
      | .inl _ => -1
      | .inr bc => cnV r.2 r.1 y.1 y.2.1 y.2.2.1 y.2.2.2.1 bc (clU r.2 r.1 y.1 (by2 r.2 6) (by2 r.2 y.2.2.2.2) (y.2.2.2.2 + 2) (0, 0, 0, 0, 0, -1)) w.toNatClampNeg
theorem cnK_is {r : Nat × (Nat → Int32)} {w : Int32} {p1 pF pM pA bc : Nat} {K : KT} (h : s_whole r.2 r.1 = .inr (E, p1, pF, pM, pA)) (hB : clS r.2 r.1 E (by2 r.2 p1) (by2 r.2 6) (by2 r.2 pA) (pA + 2) 0 0 = .inr bc) (hU : clU r.2 r.1 E (by2 r.2 6) (by2 r.2 pA) (pA + 2) (0, 0, 0, 0, 0, -1) = K) : cnK (some r) w = cnV r.2 r.1 E p1 pF pM bc K w.toNatClampNeg := by
  show (match s_whole r.2 r.1 with | .inl _ => (-1 : Int32) | .inr y => match clS r.2 r.1 y.1 (by2 r.2 y.2.1) (by2 r.2 6) (by2 r.2 y.2.2.2.2) (y.2.2.2.2 + 2) 0 0 with | .inl _ => (-1 : Int32) | .inr bc => cnV r.2 r.1 y.1 y.2.1 y.2.2.1 y.2.2.2.1 bc (clU r.2 r.1 y.1 (by2 r.2 6) (by2 r.2 y.2.2.2.2) (y.2.2.2.2 + 2) (0, 0, 0, 0, 0, -1)) w.toNatClampNeg) = _
  rw [h]
  dsimp only
  rw [hB]
  dsimp only
  rw [hU]
theorem i32_16 {w : Int32} (h0 : ¬ w < 0) (h1 : w ≤ 15) : w = nI w.toNatClampNeg ∧ w.toNatClampNeg < 16 := by
  have a := Int32.le_iff_toInt_le.mp h1
  have e : (15 : Int32).toInt = 15 := rfl
  have b := i32_to h0
  exact ⟨i32_nn h0, by omega⟩
/-- the same number, entry by entry -/
def chX (f : Nat → Int32) (n : Nat) (E : List (Nat × Nat)) : Nat → Nat
  | 0 => 0
  | k + 1 => chX f n E k + (tX f n E k).length
theorem chX_ext {E' : List (Nat × Nat)} : ∀ {m : Nat}, (∀ j, j < m → lk E' j = lk E j) → chX f n E' m = chX f n E m := by
  intro m
  induction m with
  | zero => intro _; rfl
  | succ m ih =>
    intro h
    show chX f n E' m + (tX f n E' m).length = chX f n E m + (tX f n E m).length
    rw [ih (fun j hj => h j (by omega))]
    unfold tX
    rw [h m (by omega)]
theorem lk_app {k p : Nat} : ∀ {E : List (Nat × Nat)} {j : Nat}, lk (E ++ [(k, p)]) j = match lk E j with
    | some x => some x
    | none => if k = j then some p else none := by
  intro E
  induction E with
  | nil => intro j; rfl
  | cons q r ih =>
    intro j
    show (if q.1 = j then some q.2 else lk (r ++ [(k, p)]) j) = match (if q.1 = j then some q.2 else lk r j) with
      | some x => some x
      | none => if k = j then some p else none
    by_cases h : q.1 = j
    · rw [if_pos h, if_pos h]
    · rw [if_neg h, if_neg h, ih]
theorem tx_ch9 {p k : Nat} (h : lk E k = some p) : (tX f n E k).length = chE f n p := by
  unfold tX chE
  rw [h]
  dsimp only
  by_cases h1 : by1 f p = 1
  · rw [if_pos h1, if_pos h1]
    cases s_utf f n (p + 1) with
    | inl e => rfl
    | inr l => rfl
  · rw [if_neg h1, if_neg h1]
    rfl
theorem chX_pool {mj : Nat} : ∀ {r k p p' : Nat} {E0 E : List (Nat × Nat)}, N - k ≤ r → k ≤ N → (∀ q ∈ E0, q.1 < k) → chX f n E0 k = chL f n E0 → s_ents f n mj N r k p E0 = .inr (p', E) → chX f n E N = chL f n E := by
  intro r
  induction r with
  | zero =>
    intro k p p' E0 E hr hk h0 hc h
    cases h
    rw [show N = k by omega]
    exact hc
  | succ r ih =>
    intro k p p' E0 E hr hk h0 hc h
    unfold s_ents at h
    split at h
    · cases h
      rw [show N = k by omega]
      exact hc
    · cases he : s_entry f n mj N k p with
      | inl e => rw [he] at h; cases h
      | inr y =>
        obtain ⟨p2, x⟩ := y
        rw [he] at h
        have hno : lk E0 k = none := by
          cases hl : lk E0 k with
          | none => rfl
          | some x =>
            have := h0 _ (lk_in hl)
            omega
        have hlk : lk (E0 ++ [(k, p)]) k = some p := by
          rw [lk_app, hno]
          dsimp only
          rw [if_pos rfl]
        have h1 : chX f n (E0 ++ [(k, p)]) (k + 1) = chL f n (E0 ++ [(k, p)]) := by
          show chX f n (E0 ++ [(k, p)]) k + (tX f n (E0 ++ [(k, p)]) k).length = _
          rw [chX_ext (E := E0) (fun j hj => by
            rw [lk_app]
            cases lk E0 j with
            | none =>
              dsimp only
              rw [if_neg (by omega)]
            | some x => rfl), hc, tx_ch9 hlk, chL_app]
          rfl
        have hq : ∀ m, k + 1 ≤ m → ∀ q ∈ E0 ++ [(k, p)], q.1 < m := fun m hm q hq => by
          rcases List.mem_append.mp hq with hq | hq
          · have := h0 q hq
            omega
          · have e : q = (k, p) := by simpa using hq
            rw [e]
            exact hm
        by_cases hw : by1 f p = 5 ∨ by1 f p = 6
        · rw [if_pos hw] at h
          have hk2 : ¬ N ≤ k + 1 := by
            unfold s_entry at he
            split at he
            · cases he
            · split at he
              · cases he
              · split at he
                · cases he
                · rename_i h9
                  exact fun q => h9 ⟨hw, q⟩
          refine ih (by omega) (by omega) (hq _ (by omega)) ?_ h
          show chX f n (E0 ++ [(k, p)]) (k + 1) + (tX f n (E0 ++ [(k, p)]) (k + 1)).length = _
          have hn2 : lk (E0 ++ [(k, p)]) (k + 1) = none := by
            cases hl : lk (E0 ++ [(k, p)]) (k + 1) with
            | none => rfl
            | some x =>
              have := hq (k + 1) (Nat.le_refl _) _ (lk_in hl)
              omega
          rw [h1, show (tX f n (E0 ++ [(k, p)]) (k + 1)).length = 0 by unfold tX; rw [hn2]; rfl]
          rfl
        · rw [if_neg hw] at h
          exact ih (by omega) (by omega) (hq _ (Nat.le_refl _)) h1 h
theorem chX_all {mj p' : Nat} (h : s_pool f n mj = .inr (p', E)) : chX f n E (by2 f 8) = chL f n E := by
  unfold s_pool at h
  split at h
  · cases h
  · split at h
    · cases h
    · refine chX_pool (k := 1) (E0 := []) (by omega) (by omega) (fun q hq => by cases hq) ?_ h
      rfl
theorem utf_len {p : Nat} {l : List Nat} (h : s_utf f n p = .inr l) : l.length ≤ by2 f p := by
  unfold s_utf at h
  split at h
  · cases h
  · split at h
    · cases h
    · cases ht : s_text f (p + 2 + by2 f p) (by2 f p) (p + 2) [] with
      | inl w => rw [ht] at h; cases h
      | inr l' =>
        rw [ht] at h
        cases h
        have := s_text_len ht
        simpa using this
theorem chE_le {p mj k p' : Nat} {x : (List Nat) ⊕ (Option (Nat × Nat))} (h : s_entry f n mj N k p = .inr (p', x)) : chE f n p + p ≤ p' := by
  have h1 := s_entry_le h
  unfold chE
  by_cases h2 : by1 f p = 1
  · rw [if_pos h2]
    unfold s_entry at h
    split at h
    · cases h
    · split at h
      · cases h
      · split at h
        · cases h
        · try rw [if_pos h2] at h
          cases hu : s_utf f n (p + 1) with
          | inl e => rw [hu] at h; cases h
          | inr l =>
            rw [hu] at h
            have h3 := utf_len hu
            cases h
            dsimp only
            omega
  · rw [if_neg h2]
    omega
theorem chL_le {mj : Nat} : ∀ {r k p p' : Nat} {E0 E : List (Nat × Nat)}, chL f n E0 ≤ p → s_ents f n mj N r k p E0 = .inr (p', E) → chL f n E ≤ p' := by
  intro r
  induction r with
  | zero => intro k p p' E0 E h0 h; cases h; exact h0
  | succ r ih =>
    intro k p p' E0 E h0 h
    unfold s_ents at h
    split at h
    · cases h; exact h0
    · cases he : s_entry f n mj N k p with
      | inl e => rw [he] at h; cases h
      | inr y =>
        obtain ⟨p2, x⟩ := y
        rw [he] at h
        refine ih ?_ h
        rw [chL_app]
        have h1 := chE_le he
        unfold chE at h1
        omega
theorem chL_pool {mj p' : Nat} (h : s_pool f n mj = .inr (p', E)) : chL f n E ≤ p' := by
  unfold s_pool at h
  split at h
  · cases h
  · split at h
    · cases h
    · exact chL_le (Nat.zero_le _) h
theorem chX_mono : ∀ {m k : Nat}, k ≤ m → chX f n E k ≤ chX f n E m := by
  intro m
  induction m with
  | zero => intro k hk; rw [show k = 0 by omega]; exact Nat.le_refl _
  | succ m ih =>
    intro k hk
    by_cases h : k = m + 1
    · rw [h]
      exact Nat.le_refl _
    · have := ih (k := k) (by omega)
      show chX f n E k ≤ chX f n E m + _
      omega
end CNA
set_option maxHeartbeats 1000000 in
theorem dk_anum4 {g : xe_G} {M : mi_H} {f : Nat → Int32} {n N q c b da fr mr p1 l1 l2 q1 q2 q3 q4 q5 q6 : Nat} {R1 R2 : Nat → Value} {cc u2 u3 u5 x8 x9 x10 x11 x12 x13 x14 x15 x16 : Int32} (h_c : M.1 c = some (ob 3 [.ref b, .ref q, .int u2, .int u3, .int (nI p1), .int u5, .ref fr, .ref mr, .int x8, .int x9, .int x10, .int x11, .int x12, .int x13, .int x14, .int x15, .int x16]))  : pt (mT g) 69 [.ref c, .int 4] M (fun v M' => (v = some (.int x11) ∧ M = M')) := by
  refine pt_in (b := mb_69 g) rfl (fun kf => ?_)
  show pl (mT g) kf (mb_69 g).2 (0, [(0, .ref c), (1, .int 4)], [], M) _
  refine ps_st (S' := (1, [(0, .ref c), (1, .int 4)], [.int 4], M)) rfl rfl rfl ?_
  refine ps_st (S' := (60, [(0, .ref c), (1, .int 4)], [], M)) rfl rfl rfl ?_
  refine ps_st (S' := (61, [(0, .ref c), (1, .int 4)], [.ref c], M)) rfl rfl rfl ?_
  refine ps_get (S' := (64, [(0, .ref c), (1, .int 4)], [.int x11], M)) rfl h_c rfl rfl ?_
  exact ps_reti rfl (⟨rfl, rfl⟩)
set_option maxHeartbeats 1000000 in
theorem dk_anum5 {g : xe_G} {M : mi_H} {f : Nat → Int32} {n N q c b da fr mr p1 l1 l2 q1 q2 q3 q4 q5 q6 : Nat} {R1 R2 : Nat → Value} {cc u2 u3 u5 x8 x9 x10 x11 x12 x13 x14 x15 x16 : Int32} (h_c : M.1 c = some (ob 3 [.ref b, .ref q, .int u2, .int u3, .int (nI p1), .int u5, .ref fr, .ref mr, .int x8, .int x9, .int x10, .int x11, .int x12, .int x13, .int x14, .int x15, .int x16]))  : pt (mT g) 69 [.ref c, .int 5] M (fun v M' => (v = some (.int x10) ∧ M = M')) := by
  refine pt_in (b := mb_69 g) rfl (fun kf => ?_)
  show pl (mT g) kf (mb_69 g).2 (0, [(0, .ref c), (1, .int 5)], [], M) _
  refine ps_st (S' := (1, [(0, .ref c), (1, .int 5)], [.int 5], M)) rfl rfl rfl ?_
  refine ps_st (S' := (65, [(0, .ref c), (1, .int 5)], [], M)) rfl rfl rfl ?_
  refine ps_st (S' := (66, [(0, .ref c), (1, .int 5)], [.ref c], M)) rfl rfl rfl ?_
  refine ps_get (S' := (69, [(0, .ref c), (1, .int 5)], [.int x10], M)) rfl h_c rfl rfl ?_
  exact ps_reti rfl (⟨rfl, rfl⟩)
set_option maxHeartbeats 1000000 in
theorem dk_anum12 {g : xe_G} {M : mi_H} {f : Nat → Int32} {n N q c b da fr mr p1 l1 l2 q1 q2 q3 q4 q5 q6 : Nat} {R1 R2 : Nat → Value} {cc u2 u3 u5 x8 x9 x10 x11 x12 x13 x14 x15 x16 : Int32} (h_c : M.1 c = some (ob 3 [.ref b, .ref q, .int u2, .int u3, .int (nI p1), .int u5, .ref fr, .ref mr, .int x8, .int x9, .int x10, .int x11, .int x12, .int x13, .int x14, .int x15, .int x16]))  : pt (mT g) 69 [.ref c, .int 12] M (fun v M' => (v = some (.int x13) ∧ M = M')) := by
  refine pt_in (b := mb_69 g) rfl (fun kf => ?_)
  show pl (mT g) kf (mb_69 g).2 (0, [(0, .ref c), (1, .int 12)], [], M) _
  refine ps_st (S' := (1, [(0, .ref c), (1, .int 12)], [.int 12], M)) rfl rfl rfl ?_
  refine ps_st (S' := (70, [(0, .ref c), (1, .int 12)], [], M)) rfl rfl rfl ?_
  refine ps_st (S' := (71, [(0, .ref c), (1, .int 12)], [.ref c], M)) rfl rfl rfl ?_
  refine ps_get (S' := (74, [(0, .ref c), (1, .int 12)], [.int x13], M)) rfl h_c rfl rfl ?_
  exact ps_reti rfl (⟨rfl, rfl⟩)
set_option maxHeartbeats 1000000 in
theorem dk_anum13 {g : xe_G} {M : mi_H} {f : Nat → Int32} {n N q c b da fr mr p1 l1 l2 q1 q2 q3 q4 q5 q6 : Nat} {R1 R2 : Nat → Value} {cc u2 u3 u5 x8 x9 x10 x11 x12 x13 x14 x15 x16 : Int32} (h_c : M.1 c = some (ob 3 [.ref b, .ref q, .int u2, .int u3, .int (nI p1), .int u5, .ref fr, .ref mr, .int x8, .int x9, .int x10, .int x11, .int x12, .int x13, .int x14, .int x15, .int x16]))  : pt (mT g) 69 [.ref c, .int 13] M (fun v M' => (v = some (.int x14) ∧ M = M')) := by
  refine pt_in (b := mb_69 g) rfl (fun kf => ?_)
  show pl (mT g) kf (mb_69 g).2 (0, [(0, .ref c), (1, .int 13)], [], M) _
  refine ps_st (S' := (1, [(0, .ref c), (1, .int 13)], [.int 13], M)) rfl rfl rfl ?_
  refine ps_st (S' := (75, [(0, .ref c), (1, .int 13)], [], M)) rfl rfl rfl ?_
  refine ps_st (S' := (76, [(0, .ref c), (1, .int 13)], [.ref c], M)) rfl rfl rfl ?_
  refine ps_get (S' := (79, [(0, .ref c), (1, .int 13)], [.int x14], M)) rfl h_c rfl rfl ?_
  exact ps_reti rfl (⟨rfl, rfl⟩)
set_option maxHeartbeats 1000000 in
theorem dk_anum14 {g : xe_G} {M : mi_H} {f : Nat → Int32} {n N q c b da fr mr p1 l1 l2 q1 q2 q3 q4 q5 q6 : Nat} {R1 R2 : Nat → Value} {cc u2 u3 u5 x8 x9 x10 x11 x12 x13 x14 x15 x16 : Int32} (h_c : M.1 c = some (ob 3 [.ref b, .ref q, .int u2, .int u3, .int (nI p1), .int u5, .ref fr, .ref mr, .int x8, .int x9, .int x10, .int x11, .int x12, .int x13, .int x14, .int x15, .int x16]))  : pt (mT g) 69 [.ref c, .int 14] M (fun v M' => (v = some (.int x15) ∧ M = M')) := by
  refine pt_in (b := mb_69 g) rfl (fun kf => ?_)
  show pl (mT g) kf (mb_69 g).2 (0, [(0, .ref c), (1, .int 14)], [], M) _
  refine ps_st (S' := (1, [(0, .ref c), (1, .int 14)], [.int 14], M)) rfl rfl rfl ?_
  refine ps_st (S' := (80, [(0, .ref c), (1, .int 14)], [], M)) rfl rfl rfl ?_
  refine ps_st (S' := (81, [(0, .ref c), (1, .int 14)], [.ref c], M)) rfl rfl rfl ?_
  refine ps_get (S' := (84, [(0, .ref c), (1, .int 14)], [.int x15], M)) rfl h_c rfl rfl ?_
  exact ps_reti rfl (⟨rfl, rfl⟩)
set_option maxHeartbeats 1000000 in
theorem dk_anum15 {g : xe_G} {M : mi_H} {f : Nat → Int32} {n N q c b da fr mr p1 l1 l2 q1 q2 q3 q4 q5 q6 : Nat} {R1 R2 : Nat → Value} {cc u2 u3 u5 x8 x9 x10 x11 x12 x13 x14 x15 x16 : Int32} (h_c : M.1 c = some (ob 3 [.ref b, .ref q, .int u2, .int u3, .int (nI p1), .int u5, .ref fr, .ref mr, .int x8, .int x9, .int x10, .int x11, .int x12, .int x13, .int x14, .int x15, .int x16]))  : pt (mT g) 69 [.ref c, .int 15] M (fun v M' => (v = some (.int x16) ∧ M = M')) := by
  refine pt_in (b := mb_69 g) rfl (fun kf => ?_)
  show pl (mT g) kf (mb_69 g).2 (0, [(0, .ref c), (1, .int 15)], [], M) _
  refine ps_st (S' := (1, [(0, .ref c), (1, .int 15)], [.int 15], M)) rfl rfl rfl ?_
  refine ps_st (S' := (85, [(0, .ref c), (1, .int 15)], [], M)) rfl rfl rfl ?_
  refine ps_st (S' := (86, [(0, .ref c), (1, .int 15)], [.ref c], M)) rfl rfl rfl ?_
  refine ps_get (S' := (89, [(0, .ref c), (1, .int 15)], [.int x16], M)) rfl h_c rfl rfl ?_
  exact ps_reti rfl (⟨rfl, rfl⟩)
set_option maxHeartbeats 1000000 in
theorem dk_num0 {g : xe_G} {M : mi_H} {f : Nat → Int32} {n N q c b da fr mr p1 l1 l2 q1 q2 q3 q4 q5 q6 : Nat} {R1 R2 : Nat → Value} {cc u2 u3 u5 x8 x9 x10 x11 x12 x13 x14 x15 x16 : Int32} (h_c : M.1 c = some (ob 3 [.ref b, .ref q, .int u2, .int u3, .int (nI p1), .int u5, .ref fr, .ref mr, .int x8, .int x9, .int x10, .int x11, .int x12, .int x13, .int x14, .int x15, .int x16])) (h_b : M.1 b = some (ob 1 [.ref da])) (h_da : M.1 da = some (ar .byte n f)) (h_q : M.1 q = some (ob 7 [.int (nI N), .ref q1, .ref q2, .ref q3, .ref q4, .ref q5, .ref q6, .int cc])) (h_fr : M.1 fr = some (ro "ClassGate$Member" l1 R1)) (h_mr : M.1 mr = some (ro "ClassGate$Member" l2 R2)) (hn : n ≤ 65540) (hp1 : p1 + 8 ≤ n) : pt (mT g) 73 [.ref c, .int 0] M (fun v M' => (v = some (.int (nI N)) ∧ M = M')) := by
  refine pt_in (b := mb_73 g) rfl (fun kf => ?_)
  show pl (mT g) kf (mb_73 g).2 (0, [(0, .ref c), (1, .int 0)], [], M) _
  refine ps_st (S' := (1, [(0, .ref c), (1, .int 0)], [.int 0], M)) rfl rfl rfl ?_
  refine ps_st (S' := (64, [(0, .ref c), (1, .int 0)], [], M)) rfl rfl rfl ?_
  refine ps_st (S' := (65, [(0, .ref c), (1, .int 0)], [.ref c], M)) rfl rfl rfl ?_
  refine ps_get (S' := (68, [(0, .ref c), (1, .int 0)], [.ref q], M)) rfl h_c rfl rfl ?_
  refine ps_get (S' := (71, [(0, .ref c), (1, .int 0)], [.int (nI N)], M)) rfl h_q rfl rfl ?_
  exact ps_reti rfl (⟨rfl, rfl⟩)
set_option maxHeartbeats 1000000 in
theorem dk_num1 {g : xe_G} {M : mi_H} {f : Nat → Int32} {n N q c b da fr mr p1 l1 l2 q1 q2 q3 q4 q5 q6 : Nat} {R1 R2 : Nat → Value} {cc u2 u3 u5 x8 x9 x10 x11 x12 x13 x14 x15 x16 : Int32} (h_c : M.1 c = some (ob 3 [.ref b, .ref q, .int u2, .int u3, .int (nI p1), .int u5, .ref fr, .ref mr, .int x8, .int x9, .int x10, .int x11, .int x12, .int x13, .int x14, .int x15, .int x16])) (h_b : M.1 b = some (ob 1 [.ref da])) (h_da : M.1 da = some (ar .byte n f)) (h_q : M.1 q = some (ob 7 [.int (nI N), .ref q1, .ref q2, .ref q3, .ref q4, .ref q5, .ref q6, .int cc])) (h_fr : M.1 fr = some (ro "ClassGate$Member" l1 R1)) (h_mr : M.1 mr = some (ro "ClassGate$Member" l2 R2)) (hn : n ≤ 65540) (hp1 : p1 + 8 ≤ n) : pt (mT g) 73 [.ref c, .int 1] M (fun v M' => (v = some (.int (nI l1)) ∧ M = M')) := by
  refine pt_in (b := mb_73 g) rfl (fun kf => ?_)
  show pl (mT g) kf (mb_73 g).2 (0, [(0, .ref c), (1, .int 1)], [], M) _
  refine ps_st (S' := (1, [(0, .ref c), (1, .int 1)], [.int 1], M)) rfl rfl rfl ?_
  refine ps_st (S' := (72, [(0, .ref c), (1, .int 1)], [], M)) rfl rfl rfl ?_
  refine ps_st (S' := (73, [(0, .ref c), (1, .int 1)], [.ref c], M)) rfl rfl rfl ?_
  refine ps_get (S' := (76, [(0, .ref c), (1, .int 1)], [.ref fr], M)) rfl h_c rfl rfl ?_
  refine ps_aalen (S' := (77, [(0, .ref c), (1, .int 1)], [.int (nI l1)], M)) rfl h_fr rfl ?_
  exact ps_reti rfl (⟨rfl, rfl⟩)
set_option maxHeartbeats 1000000 in
theorem dk_num2 {g : xe_G} {M : mi_H} {f : Nat → Int32} {n N q c b da fr mr p1 l1 l2 q1 q2 q3 q4 q5 q6 : Nat} {R1 R2 : Nat → Value} {cc u2 u3 u5 x8 x9 x10 x11 x12 x13 x14 x15 x16 : Int32} (h_c : M.1 c = some (ob 3 [.ref b, .ref q, .int u2, .int u3, .int (nI p1), .int u5, .ref fr, .ref mr, .int x8, .int x9, .int x10, .int x11, .int x12, .int x13, .int x14, .int x15, .int x16])) (h_b : M.1 b = some (ob 1 [.ref da])) (h_da : M.1 da = some (ar .byte n f)) (h_q : M.1 q = some (ob 7 [.int (nI N), .ref q1, .ref q2, .ref q3, .ref q4, .ref q5, .ref q6, .int cc])) (h_fr : M.1 fr = some (ro "ClassGate$Member" l1 R1)) (h_mr : M.1 mr = some (ro "ClassGate$Member" l2 R2)) (hn : n ≤ 65540) (hp1 : p1 + 8 ≤ n) : pt (mT g) 73 [.ref c, .int 2] M (fun v M' => (v = some (.int (nI l2)) ∧ M = M')) := by
  refine pt_in (b := mb_73 g) rfl (fun kf => ?_)
  show pl (mT g) kf (mb_73 g).2 (0, [(0, .ref c), (1, .int 2)], [], M) _
  refine ps_st (S' := (1, [(0, .ref c), (1, .int 2)], [.int 2], M)) rfl rfl rfl ?_
  refine ps_st (S' := (78, [(0, .ref c), (1, .int 2)], [], M)) rfl rfl rfl ?_
  refine ps_st (S' := (79, [(0, .ref c), (1, .int 2)], [.ref c], M)) rfl rfl rfl ?_
  refine ps_get (S' := (82, [(0, .ref c), (1, .int 2)], [.ref mr], M)) rfl h_c rfl rfl ?_
  refine ps_aalen (S' := (83, [(0, .ref c), (1, .int 2)], [.int (nI l2)], M)) rfl h_mr rfl ?_
  exact ps_reti rfl (⟨rfl, rfl⟩)
set_option maxHeartbeats 1000000 in
theorem dk_num3 {g : xe_G} {M : mi_H} {f : Nat → Int32} {n N q c b da fr mr p1 l1 l2 q1 q2 q3 q4 q5 q6 : Nat} {R1 R2 : Nat → Value} {cc u2 u3 u5 x8 x9 x10 x11 x12 x13 x14 x15 x16 : Int32} (h_c : M.1 c = some (ob 3 [.ref b, .ref q, .int u2, .int u3, .int (nI p1), .int u5, .ref fr, .ref mr, .int x8, .int x9, .int x10, .int x11, .int x12, .int x13, .int x14, .int x15, .int x16])) (h_b : M.1 b = some (ob 1 [.ref da])) (h_da : M.1 da = some (ar .byte n f)) (h_q : M.1 q = some (ob 7 [.int (nI N), .ref q1, .ref q2, .ref q3, .ref q4, .ref q5, .ref q6, .int cc])) (h_fr : M.1 fr = some (ro "ClassGate$Member" l1 R1)) (h_mr : M.1 mr = some (ro "ClassGate$Member" l2 R2)) (hn : n ≤ 65540) (hp1 : p1 + 8 ≤ n) : pt (mT g) 73 [.ref c, .int 3] M (fun v M' => (v = some (.int u5) ∧ M = M')) := by
  refine pt_in (b := mb_73 g) rfl (fun kf => ?_)
  show pl (mT g) kf (mb_73 g).2 (0, [(0, .ref c), (1, .int 3)], [], M) _
  refine ps_st (S' := (1, [(0, .ref c), (1, .int 3)], [.int 3], M)) rfl rfl rfl ?_
  refine ps_st (S' := (84, [(0, .ref c), (1, .int 3)], [], M)) rfl rfl rfl ?_
  refine ps_st (S' := (85, [(0, .ref c), (1, .int 3)], [.ref c], M)) rfl rfl rfl ?_
  refine ps_get (S' := (88, [(0, .ref c), (1, .int 3)], [.int u5], M)) rfl h_c rfl rfl ?_
  exact ps_reti rfl (⟨rfl, rfl⟩)
set_option maxHeartbeats 1000000 in
theorem dk_num4 {g : xe_G} {M : mi_H} {f : Nat → Int32} {n N q c b da fr mr p1 l1 l2 q1 q2 q3 q4 q5 q6 : Nat} {R1 R2 : Nat → Value} {cc u2 u3 u5 x8 x9 x10 x11 x12 x13 x14 x15 x16 : Int32} (h_c : M.1 c = some (ob 3 [.ref b, .ref q, .int u2, .int u3, .int (nI p1), .int u5, .ref fr, .ref mr, .int x8, .int x9, .int x10, .int x11, .int x12, .int x13, .int x14, .int x15, .int x16])) (h_b : M.1 b = some (ob 1 [.ref da])) (h_da : M.1 da = some (ar .byte n f)) (h_q : M.1 q = some (ob 7 [.int (nI N), .ref q1, .ref q2, .ref q3, .ref q4, .ref q5, .ref q6, .int cc])) (h_fr : M.1 fr = some (ro "ClassGate$Member" l1 R1)) (h_mr : M.1 mr = some (ro "ClassGate$Member" l2 R2)) (hn : n ≤ 65540) (hp1 : p1 + 8 ≤ n) : pt (mT g) 73 [.ref c, .int 4] M (fun v M' => (v = some (.int x11) ∧ M = M')) := by
  refine pt_in (b := mb_73 g) rfl (fun kf => ?_)
  show pl (mT g) kf (mb_73 g).2 (0, [(0, .ref c), (1, .int 4)], [], M) _
  refine ps_st (S' := (1, [(0, .ref c), (1, .int 4)], [.int 4], M)) rfl rfl rfl ?_
  refine ps_st (S' := (147, [(0, .ref c), (1, .int 4)], [], M)) rfl rfl rfl ?_
  refine ps_st (S' := (148, [(0, .ref c), (1, .int 4)], [.ref c], M)) rfl rfl rfl ?_
  refine ps_st (S' := (149, [(0, .ref c), (1, .int 4)], [.int 4, .ref c], M)) rfl rfl rfl ?_
  refine pl_call (a := [.ref c, .int 4]) (rest := []) rfl rfl rfl (dk_anum4 (f := f) (n := n) (N := N) (q := q) (c := c) (b := b) (da := da) (fr := fr) (mr := mr) (p1 := p1) (l1 := l1) (l2 := l2) (q1 := q1) (q2 := q2) (q3 := q3) (q4 := q4) (q5 := q5) (q6 := q6) (R1 := R1) (R2 := R2) (cc := cc) (u2 := u2) (u3 := u3) (u5 := u5) (x8 := x8) (x9 := x9) (x10 := x10) (x11 := x11) (x12 := x12) (x13 := x13) (x14 := x14) (x15 := x15) (x16 := x16) h_c) (fun v1 M2 q3 => ?_)
  obtain ⟨rfl, rfl⟩ := q3
  show pl _ _ _ (152, [(0, .ref c), (1, .int 4)], [.int x11], M) _
  exact ps_reti rfl (⟨rfl, rfl⟩)
set_option maxHeartbeats 1000000 in
theorem dk_num5 {g : xe_G} {M : mi_H} {f : Nat → Int32} {n N q c b da fr mr p1 l1 l2 q1 q2 q3 q4 q5 q6 : Nat} {R1 R2 : Nat → Value} {cc u2 u3 u5 x8 x9 x10 x11 x12 x13 x14 x15 x16 : Int32} (h_c : M.1 c = some (ob 3 [.ref b, .ref q, .int u2, .int u3, .int (nI p1), .int u5, .ref fr, .ref mr, .int x8, .int x9, .int x10, .int x11, .int x12, .int x13, .int x14, .int x15, .int x16])) (h_b : M.1 b = some (ob 1 [.ref da])) (h_da : M.1 da = some (ar .byte n f)) (h_q : M.1 q = some (ob 7 [.int (nI N), .ref q1, .ref q2, .ref q3, .ref q4, .ref q5, .ref q6, .int cc])) (h_fr : M.1 fr = some (ro "ClassGate$Member" l1 R1)) (h_mr : M.1 mr = some (ro "ClassGate$Member" l2 R2)) (hn : n ≤ 65540) (hp1 : p1 + 8 ≤ n) : pt (mT g) 73 [.ref c, .int 5] M (fun v M' => (v = some (.int x10) ∧ M = M')) := by
  refine pt_in (b := mb_73 g) rfl (fun kf => ?_)
  show pl (mT g) kf (mb_73 g).2 (0, [(0, .ref c), (1, .int 5)], [], M) _
  refine ps_st (S' := (1, [(0, .ref c), (1, .int 5)], [.int 5], M)) rfl rfl rfl ?_
  refine ps_st (S' := (147, [(0, .ref c), (1, .int 5)], [], M)) rfl rfl rfl ?_
  refine ps_st (S' := (148, [(0, .ref c), (1, .int 5)], [.ref c], M)) rfl rfl rfl ?_
  refine ps_st (S' := (149, [(0, .ref c), (1, .int 5)], [.int 5, .ref c], M)) rfl rfl rfl ?_
  refine pl_call (a := [.ref c, .int 5]) (rest := []) rfl rfl rfl (dk_anum5 (f := f) (n := n) (N := N) (q := q) (c := c) (b := b) (da := da) (fr := fr) (mr := mr) (p1 := p1) (l1 := l1) (l2 := l2) (q1 := q1) (q2 := q2) (q3 := q3) (q4 := q4) (q5 := q5) (q6 := q6) (R1 := R1) (R2 := R2) (cc := cc) (u2 := u2) (u3 := u3) (u5 := u5) (x8 := x8) (x9 := x9) (x10 := x10) (x11 := x11) (x12 := x12) (x13 := x13) (x14 := x14) (x15 := x15) (x16 := x16) h_c) (fun v1 M2 q3 => ?_)
  obtain ⟨rfl, rfl⟩ := q3
  show pl _ _ _ (152, [(0, .ref c), (1, .int 5)], [.int x10], M) _
  exact ps_reti rfl (⟨rfl, rfl⟩)
set_option maxHeartbeats 1000000 in
theorem dk_num6 {g : xe_G} {M : mi_H} {f : Nat → Int32} {n N q c b da fr mr p1 l1 l2 q1 q2 q3 q4 q5 q6 : Nat} {R1 R2 : Nat → Value} {cc u2 u3 u5 x8 x9 x10 x11 x12 x13 x14 x15 x16 : Int32} (h_c : M.1 c = some (ob 3 [.ref b, .ref q, .int u2, .int u3, .int (nI p1), .int u5, .ref fr, .ref mr, .int x8, .int x9, .int x10, .int x11, .int x12, .int x13, .int x14, .int x15, .int x16])) (h_b : M.1 b = some (ob 1 [.ref da])) (h_da : M.1 da = some (ar .byte n f)) (h_q : M.1 q = some (ob 7 [.int (nI N), .ref q1, .ref q2, .ref q3, .ref q4, .ref q5, .ref q6, .int cc])) (h_fr : M.1 fr = some (ro "ClassGate$Member" l1 R1)) (h_mr : M.1 mr = some (ro "ClassGate$Member" l2 R2)) (hn : n ≤ 65540) (hp1 : p1 + 8 ≤ n) : pt (mT g) 73 [.ref c, .int 6] M (fun v M' => (v = some (.int (nI (by2 f p1))) ∧ M = M')) := by
  refine pt_in (b := mb_73 g) rfl (fun kf => ?_)
  show pl (mT g) kf (mb_73 g).2 (0, [(0, .ref c), (1, .int 6)], [], M) _
  refine ps_st (S' := (1, [(0, .ref c), (1, .int 6)], [.int 6], M)) rfl rfl rfl ?_
  refine ps_st (S' := (89, [(0, .ref c), (1, .int 6)], [], M)) rfl rfl rfl ?_
  refine ps_st (S' := (90, [(0, .ref c), (1, .int 6)], [.ref c], M)) rfl rfl rfl ?_
  refine ps_get (S' := (93, [(0, .ref c), (1, .int 6)], [.ref b], M)) rfl h_c rfl rfl ?_
  refine ps_st (S' := (94, [(0, .ref c), (1, .int 6)], [.ref c, .ref b], M)) rfl rfl rfl ?_
  refine ps_get (S' := (97, [(0, .ref c), (1, .int 6)], [.int (nI p1), .ref b], M)) rfl h_c rfl rfl ?_
  refine pl_call (a := [.ref b, .int (nI p1)]) (rest := []) rfl rfl rfl (dk_u2 (f := f) (n := n) (b := b) (da := da) (p := (p1)) h_b h_da (hn) (by omega)) (fun v1 M2 q3 => ?_)
  obtain ⟨rfl, rfl⟩ := q3
  show pl _ _ _ (100, [(0, .ref c), (1, .int 6)], [.int (nI (by2 f (p1)))], M) _
  have hu_97 := by2_lt f (p1)
  exact ps_reti rfl (⟨rfl, rfl⟩)
set_option maxHeartbeats 1000000 in
theorem dk_num7 {g : xe_G} {M : mi_H} {f : Nat → Int32} {n N q c b da fr mr p1 l1 l2 q1 q2 q3 q4 q5 q6 : Nat} {R1 R2 : Nat → Value} {cc u2 u3 u5 x8 x9 x10 x11 x12 x13 x14 x15 x16 : Int32} (h_c : M.1 c = some (ob 3 [.ref b, .ref q, .int u2, .int u3, .int (nI p1), .int u5, .ref fr, .ref mr, .int x8, .int x9, .int x10, .int x11, .int x12, .int x13, .int x14, .int x15, .int x16])) (h_b : M.1 b = some (ob 1 [.ref da])) (h_da : M.1 da = some (ar .byte n f)) (h_q : M.1 q = some (ob 7 [.int (nI N), .ref q1, .ref q2, .ref q3, .ref q4, .ref q5, .ref q6, .int cc])) (h_fr : M.1 fr = some (ro "ClassGate$Member" l1 R1)) (h_mr : M.1 mr = some (ro "ClassGate$Member" l2 R2)) (hn : n ≤ 65540) (hp1 : p1 + 8 ≤ n) : pt (mT g) 73 [.ref c, .int 7] M (fun v M' => (v = some (.int u3) ∧ M = M')) := by
  refine pt_in (b := mb_73 g) rfl (fun kf => ?_)
  show pl (mT g) kf (mb_73 g).2 (0, [(0, .ref c), (1, .int 7)], [], M) _
  refine ps_st (S' := (1, [(0, .ref c), (1, .int 7)], [.int 7], M)) rfl rfl rfl ?_
  refine ps_st (S' := (101, [(0, .ref c), (1, .int 7)], [], M)) rfl rfl rfl ?_
  refine ps_st (S' := (102, [(0, .ref c), (1, .int 7)], [.ref c], M)) rfl rfl rfl ?_
  refine ps_get (S' := (105, [(0, .ref c), (1, .int 7)], [.int u3], M)) rfl h_c rfl rfl ?_
  exact ps_reti rfl (⟨rfl, rfl⟩)
set_option maxHeartbeats 1000000 in
theorem dk_num8 {g : xe_G} {M : mi_H} {f : Nat → Int32} {n N q c b da fr mr p1 l1 l2 q1 q2 q3 q4 q5 q6 : Nat} {R1 R2 : Nat → Value} {cc u2 u3 u5 x8 x9 x10 x11 x12 x13 x14 x15 x16 : Int32} (h_c : M.1 c = some (ob 3 [.ref b, .ref q, .int u2, .int u3, .int (nI p1), .int u5, .ref fr, .ref mr, .int x8, .int x9, .int x10, .int x11, .int x12, .int x13, .int x14, .int x15, .int x16])) (h_b : M.1 b = some (ob 1 [.ref da])) (h_da : M.1 da = some (ar .byte n f)) (h_q : M.1 q = some (ob 7 [.int (nI N), .ref q1, .ref q2, .ref q3, .ref q4, .ref q5, .ref q6, .int cc])) (h_fr : M.1 fr = some (ro "ClassGate$Member" l1 R1)) (h_mr : M.1 mr = some (ro "ClassGate$Member" l2 R2)) (hn : n ≤ 65540) (hp1 : p1 + 8 ≤ n) : pt (mT g) 73 [.ref c, .int 8] M (fun v M' => (v = some (.int u2) ∧ M = M')) := by
  refine pt_in (b := mb_73 g) rfl (fun kf => ?_)
  show pl (mT g) kf (mb_73 g).2 (0, [(0, .ref c), (1, .int 8)], [], M) _
  refine ps_st (S' := (1, [(0, .ref c), (1, .int 8)], [.int 8], M)) rfl rfl rfl ?_
  refine ps_st (S' := (106, [(0, .ref c), (1, .int 8)], [], M)) rfl rfl rfl ?_
  refine ps_st (S' := (107, [(0, .ref c), (1, .int 8)], [.ref c], M)) rfl rfl rfl ?_
  refine ps_get (S' := (110, [(0, .ref c), (1, .int 8)], [.int u2], M)) rfl h_c rfl rfl ?_
  exact ps_reti rfl (⟨rfl, rfl⟩)
set_option maxHeartbeats 1000000 in
theorem dk_num9 {g : xe_G} {M : mi_H} {f : Nat → Int32} {n N q c b da fr mr p1 l1 l2 q1 q2 q3 q4 q5 q6 : Nat} {R1 R2 : Nat → Value} {cc u2 u3 u5 x8 x9 x10 x11 x12 x13 x14 x15 x16 : Int32} (h_c : M.1 c = some (ob 3 [.ref b, .ref q, .int u2, .int u3, .int (nI p1), .int u5, .ref fr, .ref mr, .int x8, .int x9, .int x10, .int x11, .int x12, .int x13, .int x14, .int x15, .int x16])) (h_b : M.1 b = some (ob 1 [.ref da])) (h_da : M.1 da = some (ar .byte n f)) (h_q : M.1 q = some (ob 7 [.int (nI N), .ref q1, .ref q2, .ref q3, .ref q4, .ref q5, .ref q6, .int cc])) (h_fr : M.1 fr = some (ro "ClassGate$Member" l1 R1)) (h_mr : M.1 mr = some (ro "ClassGate$Member" l2 R2)) (hn : n ≤ 65540) (hp1 : p1 + 8 ≤ n) : pt (mT g) 73 [.ref c, .int 9] M (fun v M' => (v = some (.int (nI (by2 f (p1 + 2)))) ∧ M = M')) := by
  refine pt_in (b := mb_73 g) rfl (fun kf => ?_)
  show pl (mT g) kf (mb_73 g).2 (0, [(0, .ref c), (1, .int 9)], [], M) _
  refine ps_st (S' := (1, [(0, .ref c), (1, .int 9)], [.int 9], M)) rfl rfl rfl ?_
  refine ps_st (S' := (111, [(0, .ref c), (1, .int 9)], [], M)) rfl rfl rfl ?_
  refine ps_st (S' := (112, [(0, .ref c), (1, .int 9)], [.ref c], M)) rfl rfl rfl ?_
  refine ps_get (S' := (115, [(0, .ref c), (1, .int 9)], [.ref b], M)) rfl h_c rfl rfl ?_
  refine ps_st (S' := (116, [(0, .ref c), (1, .int 9)], [.ref c, .ref b], M)) rfl rfl rfl ?_
  refine ps_get (S' := (119, [(0, .ref c), (1, .int 9)], [.int (nI p1), .ref b], M)) rfl h_c rfl rfl ?_
  refine ps_st (S' := (120, [(0, .ref c), (1, .int 9)], [.int 2, .int (nI p1), .ref b], M)) rfl rfl rfl ?_
  refine ps_st (S' := (121, [(0, .ref c), (1, .int 9)], [.int ((nI p1) + 2), .ref b], M)) rfl rfl rfl ?_
  rw [nI_add1 (p := p1) (k := 2) (x := 2) rfl (by omega)]
  show pl _ _ _ (_, [(0, .ref c), (1, .int 9)], [.int (nI (p1 + 2)), .ref b], M) _
  refine pl_call (a := [.ref b, .int (nI (p1 + 2))]) (rest := []) rfl rfl rfl (dk_u2 (f := f) (n := n) (b := b) (da := da) (p := (p1 + 2)) h_b h_da (hn) (by omega)) (fun v1 M2 q3 => ?_)
  obtain ⟨rfl, rfl⟩ := q3
  show pl _ _ _ (124, [(0, .ref c), (1, .int 9)], [.int (nI (by2 f (p1 + 2)))], M) _
  have hu_121 := by2_lt f (p1 + 2)
  exact ps_reti rfl (⟨rfl, rfl⟩)
set_option maxHeartbeats 1000000 in
theorem dk_num10 {g : xe_G} {M : mi_H} {f : Nat → Int32} {n N q c b da fr mr p1 l1 l2 q1 q2 q3 q4 q5 q6 : Nat} {R1 R2 : Nat → Value} {cc u2 u3 u5 x8 x9 x10 x11 x12 x13 x14 x15 x16 : Int32} (h_c : M.1 c = some (ob 3 [.ref b, .ref q, .int u2, .int u3, .int (nI p1), .int u5, .ref fr, .ref mr, .int x8, .int x9, .int x10, .int x11, .int x12, .int x13, .int x14, .int x15, .int x16])) (h_b : M.1 b = some (ob 1 [.ref da])) (h_da : M.1 da = some (ar .byte n f)) (h_q : M.1 q = some (ob 7 [.int (nI N), .ref q1, .ref q2, .ref q3, .ref q4, .ref q5, .ref q6, .int cc])) (h_fr : M.1 fr = some (ro "ClassGate$Member" l1 R1)) (h_mr : M.1 mr = some (ro "ClassGate$Member" l2 R2)) (hn : n ≤ 65540) (hp1 : p1 + 8 ≤ n) : pt (mT g) 73 [.ref c, .int 10] M (fun v M' => (v = some (.int (nI (by2 f (p1 + 4)))) ∧ M = M')) := by
  refine pt_in (b := mb_73 g) rfl (fun kf => ?_)
  show pl (mT g) kf (mb_73 g).2 (0, [(0, .ref c), (1, .int 10)], [], M) _
  refine ps_st (S' := (1, [(0, .ref c), (1, .int 10)], [.int 10], M)) rfl rfl rfl ?_
  refine ps_st (S' := (125, [(0, .ref c), (1, .int 10)], [], M)) rfl rfl rfl ?_
  refine ps_st (S' := (126, [(0, .ref c), (1, .int 10)], [.ref c], M)) rfl rfl rfl ?_
  refine ps_get (S' := (129, [(0, .ref c), (1, .int 10)], [.ref b], M)) rfl h_c rfl rfl ?_
  refine ps_st (S' := (130, [(0, .ref c), (1, .int 10)], [.ref c, .ref b], M)) rfl rfl rfl ?_
  refine ps_get (S' := (133, [(0, .ref c), (1, .int 10)], [.int (nI p1), .ref b], M)) rfl h_c rfl rfl ?_
  refine ps_st (S' := (134, [(0, .ref c), (1, .int 10)], [.int 4, .int (nI p1), .ref b], M)) rfl rfl rfl ?_
  refine ps_st (S' := (135, [(0, .ref c), (1, .int 10)], [.int ((nI p1) + 4), .ref b], M)) rfl rfl rfl ?_
  rw [nI_add1 (p := p1) (k := 4) (x := 4) rfl (by omega)]
  show pl _ _ _ (_, [(0, .ref c), (1, .int 10)], [.int (nI (p1 + 4)), .ref b], M) _
  refine pl_call (a := [.ref b, .int (nI (p1 + 4))]) (rest := []) rfl rfl rfl (dk_u2 (f := f) (n := n) (b := b) (da := da) (p := (p1 + 4)) h_b h_da (hn) (by omega)) (fun v1 M2 q3 => ?_)
  obtain ⟨rfl, rfl⟩ := q3
  show pl _ _ _ (138, [(0, .ref c), (1, .int 10)], [.int (nI (by2 f (p1 + 4)))], M) _
  have hu_135 := by2_lt f (p1 + 4)
  exact ps_reti rfl (⟨rfl, rfl⟩)
set_option maxHeartbeats 1000000 in
theorem dk_num11 {g : xe_G} {M : mi_H} {f : Nat → Int32} {n N q c b da fr mr p1 l1 l2 q1 q2 q3 q4 q5 q6 : Nat} {R1 R2 : Nat → Value} {cc u2 u3 u5 x8 x9 x10 x11 x12 x13 x14 x15 x16 : Int32} (h_c : M.1 c = some (ob 3 [.ref b, .ref q, .int u2, .int u3, .int (nI p1), .int u5, .ref fr, .ref mr, .int x8, .int x9, .int x10, .int x11, .int x12, .int x13, .int x14, .int x15, .int x16])) (h_b : M.1 b = some (ob 1 [.ref da])) (h_da : M.1 da = some (ar .byte n f)) (h_q : M.1 q = some (ob 7 [.int (nI N), .ref q1, .ref q2, .ref q3, .ref q4, .ref q5, .ref q6, .int cc])) (h_fr : M.1 fr = some (ro "ClassGate$Member" l1 R1)) (h_mr : M.1 mr = some (ro "ClassGate$Member" l2 R2)) (hn : n ≤ 65540) (hp1 : p1 + 8 ≤ n) : pt (mT g) 73 [.ref c, .int 11] M (fun v M' => (v = some (.int cc) ∧ M = M')) := by
  refine pt_in (b := mb_73 g) rfl (fun kf => ?_)
  show pl (mT g) kf (mb_73 g).2 (0, [(0, .ref c), (1, .int 11)], [], M) _
  refine ps_st (S' := (1, [(0, .ref c), (1, .int 11)], [.int 11], M)) rfl rfl rfl ?_
  refine ps_st (S' := (139, [(0, .ref c), (1, .int 11)], [], M)) rfl rfl rfl ?_
  refine ps_st (S' := (140, [(0, .ref c), (1, .int 11)], [.ref c], M)) rfl rfl rfl ?_
  refine ps_get (S' := (143, [(0, .ref c), (1, .int 11)], [.ref q], M)) rfl h_c rfl rfl ?_
  refine ps_get (S' := (146, [(0, .ref c), (1, .int 11)], [.int cc], M)) rfl h_q rfl rfl ?_
  exact ps_reti rfl (⟨rfl, rfl⟩)
set_option maxHeartbeats 1000000 in
theorem dk_num12 {g : xe_G} {M : mi_H} {f : Nat → Int32} {n N q c b da fr mr p1 l1 l2 q1 q2 q3 q4 q5 q6 : Nat} {R1 R2 : Nat → Value} {cc u2 u3 u5 x8 x9 x10 x11 x12 x13 x14 x15 x16 : Int32} (h_c : M.1 c = some (ob 3 [.ref b, .ref q, .int u2, .int u3, .int (nI p1), .int u5, .ref fr, .ref mr, .int x8, .int x9, .int x10, .int x11, .int x12, .int x13, .int x14, .int x15, .int x16])) (h_b : M.1 b = some (ob 1 [.ref da])) (h_da : M.1 da = some (ar .byte n f)) (h_q : M.1 q = some (ob 7 [.int (nI N), .ref q1, .ref q2, .ref q3, .ref q4, .ref q5, .ref q6, .int cc])) (h_fr : M.1 fr = some (ro "ClassGate$Member" l1 R1)) (h_mr : M.1 mr = some (ro "ClassGate$Member" l2 R2)) (hn : n ≤ 65540) (hp1 : p1 + 8 ≤ n) : pt (mT g) 73 [.ref c, .int 12] M (fun v M' => (v = some (.int x13) ∧ M = M')) := by
  refine pt_in (b := mb_73 g) rfl (fun kf => ?_)
  show pl (mT g) kf (mb_73 g).2 (0, [(0, .ref c), (1, .int 12)], [], M) _
  refine ps_st (S' := (1, [(0, .ref c), (1, .int 12)], [.int 12], M)) rfl rfl rfl ?_
  refine ps_st (S' := (147, [(0, .ref c), (1, .int 12)], [], M)) rfl rfl rfl ?_
  refine ps_st (S' := (148, [(0, .ref c), (1, .int 12)], [.ref c], M)) rfl rfl rfl ?_
  refine ps_st (S' := (149, [(0, .ref c), (1, .int 12)], [.int 12, .ref c], M)) rfl rfl rfl ?_
  refine pl_call (a := [.ref c, .int 12]) (rest := []) rfl rfl rfl (dk_anum12 (f := f) (n := n) (N := N) (q := q) (c := c) (b := b) (da := da) (fr := fr) (mr := mr) (p1 := p1) (l1 := l1) (l2 := l2) (q1 := q1) (q2 := q2) (q3 := q3) (q4 := q4) (q5 := q5) (q6 := q6) (R1 := R1) (R2 := R2) (cc := cc) (u2 := u2) (u3 := u3) (u5 := u5) (x8 := x8) (x9 := x9) (x10 := x10) (x11 := x11) (x12 := x12) (x13 := x13) (x14 := x14) (x15 := x15) (x16 := x16) h_c) (fun v1 M2 q3 => ?_)
  obtain ⟨rfl, rfl⟩ := q3
  show pl _ _ _ (152, [(0, .ref c), (1, .int 12)], [.int x13], M) _
  exact ps_reti rfl (⟨rfl, rfl⟩)
set_option maxHeartbeats 1000000 in
theorem dk_num13 {g : xe_G} {M : mi_H} {f : Nat → Int32} {n N q c b da fr mr p1 l1 l2 q1 q2 q3 q4 q5 q6 : Nat} {R1 R2 : Nat → Value} {cc u2 u3 u5 x8 x9 x10 x11 x12 x13 x14 x15 x16 : Int32} (h_c : M.1 c = some (ob 3 [.ref b, .ref q, .int u2, .int u3, .int (nI p1), .int u5, .ref fr, .ref mr, .int x8, .int x9, .int x10, .int x11, .int x12, .int x13, .int x14, .int x15, .int x16])) (h_b : M.1 b = some (ob 1 [.ref da])) (h_da : M.1 da = some (ar .byte n f)) (h_q : M.1 q = some (ob 7 [.int (nI N), .ref q1, .ref q2, .ref q3, .ref q4, .ref q5, .ref q6, .int cc])) (h_fr : M.1 fr = some (ro "ClassGate$Member" l1 R1)) (h_mr : M.1 mr = some (ro "ClassGate$Member" l2 R2)) (hn : n ≤ 65540) (hp1 : p1 + 8 ≤ n) : pt (mT g) 73 [.ref c, .int 13] M (fun v M' => (v = some (.int x14) ∧ M = M')) := by
  refine pt_in (b := mb_73 g) rfl (fun kf => ?_)
  show pl (mT g) kf (mb_73 g).2 (0, [(0, .ref c), (1, .int 13)], [], M) _
  refine ps_st (S' := (1, [(0, .ref c), (1, .int 13)], [.int 13], M)) rfl rfl rfl ?_
  refine ps_st (S' := (147, [(0, .ref c), (1, .int 13)], [], M)) rfl rfl rfl ?_
  refine ps_st (S' := (148, [(0, .ref c), (1, .int 13)], [.ref c], M)) rfl rfl rfl ?_
  refine ps_st (S' := (149, [(0, .ref c), (1, .int 13)], [.int 13, .ref c], M)) rfl rfl rfl ?_
  refine pl_call (a := [.ref c, .int 13]) (rest := []) rfl rfl rfl (dk_anum13 (f := f) (n := n) (N := N) (q := q) (c := c) (b := b) (da := da) (fr := fr) (mr := mr) (p1 := p1) (l1 := l1) (l2 := l2) (q1 := q1) (q2 := q2) (q3 := q3) (q4 := q4) (q5 := q5) (q6 := q6) (R1 := R1) (R2 := R2) (cc := cc) (u2 := u2) (u3 := u3) (u5 := u5) (x8 := x8) (x9 := x9) (x10 := x10) (x11 := x11) (x12 := x12) (x13 := x13) (x14 := x14) (x15 := x15) (x16 := x16) h_c) (fun v1 M2 q3 => ?_)
  obtain ⟨rfl, rfl⟩ := q3
  show pl _ _ _ (152, [(0, .ref c), (1, .int 13)], [.int x14], M) _
  exact ps_reti rfl (⟨rfl, rfl⟩)
set_option maxHeartbeats 1000000 in
theorem dk_num14 {g : xe_G} {M : mi_H} {f : Nat → Int32} {n N q c b da fr mr p1 l1 l2 q1 q2 q3 q4 q5 q6 : Nat} {R1 R2 : Nat → Value} {cc u2 u3 u5 x8 x9 x10 x11 x12 x13 x14 x15 x16 : Int32} (h_c : M.1 c = some (ob 3 [.ref b, .ref q, .int u2, .int u3, .int (nI p1), .int u5, .ref fr, .ref mr, .int x8, .int x9, .int x10, .int x11, .int x12, .int x13, .int x14, .int x15, .int x16])) (h_b : M.1 b = some (ob 1 [.ref da])) (h_da : M.1 da = some (ar .byte n f)) (h_q : M.1 q = some (ob 7 [.int (nI N), .ref q1, .ref q2, .ref q3, .ref q4, .ref q5, .ref q6, .int cc])) (h_fr : M.1 fr = some (ro "ClassGate$Member" l1 R1)) (h_mr : M.1 mr = some (ro "ClassGate$Member" l2 R2)) (hn : n ≤ 65540) (hp1 : p1 + 8 ≤ n) : pt (mT g) 73 [.ref c, .int 14] M (fun v M' => (v = some (.int x15) ∧ M = M')) := by
  refine pt_in (b := mb_73 g) rfl (fun kf => ?_)
  show pl (mT g) kf (mb_73 g).2 (0, [(0, .ref c), (1, .int 14)], [], M) _
  refine ps_st (S' := (1, [(0, .ref c), (1, .int 14)], [.int 14], M)) rfl rfl rfl ?_
  refine ps_st (S' := (147, [(0, .ref c), (1, .int 14)], [], M)) rfl rfl rfl ?_
  refine ps_st (S' := (148, [(0, .ref c), (1, .int 14)], [.ref c], M)) rfl rfl rfl ?_
  refine ps_st (S' := (149, [(0, .ref c), (1, .int 14)], [.int 14, .ref c], M)) rfl rfl rfl ?_
  refine pl_call (a := [.ref c, .int 14]) (rest := []) rfl rfl rfl (dk_anum14 (f := f) (n := n) (N := N) (q := q) (c := c) (b := b) (da := da) (fr := fr) (mr := mr) (p1 := p1) (l1 := l1) (l2 := l2) (q1 := q1) (q2 := q2) (q3 := q3) (q4 := q4) (q5 := q5) (q6 := q6) (R1 := R1) (R2 := R2) (cc := cc) (u2 := u2) (u3 := u3) (u5 := u5) (x8 := x8) (x9 := x9) (x10 := x10) (x11 := x11) (x12 := x12) (x13 := x13) (x14 := x14) (x15 := x15) (x16 := x16) h_c) (fun v1 M2 q3 => ?_)
  obtain ⟨rfl, rfl⟩ := q3
  show pl _ _ _ (152, [(0, .ref c), (1, .int 14)], [.int x15], M) _
  exact ps_reti rfl (⟨rfl, rfl⟩)
set_option maxHeartbeats 1000000 in
theorem dk_num15 {g : xe_G} {M : mi_H} {f : Nat → Int32} {n N q c b da fr mr p1 l1 l2 q1 q2 q3 q4 q5 q6 : Nat} {R1 R2 : Nat → Value} {cc u2 u3 u5 x8 x9 x10 x11 x12 x13 x14 x15 x16 : Int32} (h_c : M.1 c = some (ob 3 [.ref b, .ref q, .int u2, .int u3, .int (nI p1), .int u5, .ref fr, .ref mr, .int x8, .int x9, .int x10, .int x11, .int x12, .int x13, .int x14, .int x15, .int x16])) (h_b : M.1 b = some (ob 1 [.ref da])) (h_da : M.1 da = some (ar .byte n f)) (h_q : M.1 q = some (ob 7 [.int (nI N), .ref q1, .ref q2, .ref q3, .ref q4, .ref q5, .ref q6, .int cc])) (h_fr : M.1 fr = some (ro "ClassGate$Member" l1 R1)) (h_mr : M.1 mr = some (ro "ClassGate$Member" l2 R2)) (hn : n ≤ 65540) (hp1 : p1 + 8 ≤ n) : pt (mT g) 73 [.ref c, .int 15] M (fun v M' => (v = some (.int x16) ∧ M = M')) := by
  refine pt_in (b := mb_73 g) rfl (fun kf => ?_)
  show pl (mT g) kf (mb_73 g).2 (0, [(0, .ref c), (1, .int 15)], [], M) _
  refine ps_st (S' := (1, [(0, .ref c), (1, .int 15)], [.int 15], M)) rfl rfl rfl ?_
  refine ps_st (S' := (147, [(0, .ref c), (1, .int 15)], [], M)) rfl rfl rfl ?_
  refine ps_st (S' := (148, [(0, .ref c), (1, .int 15)], [.ref c], M)) rfl rfl rfl ?_
  refine ps_st (S' := (149, [(0, .ref c), (1, .int 15)], [.int 15, .ref c], M)) rfl rfl rfl ?_
  refine pl_call (a := [.ref c, .int 15]) (rest := []) rfl rfl rfl (dk_anum15 (f := f) (n := n) (N := N) (q := q) (c := c) (b := b) (da := da) (fr := fr) (mr := mr) (p1 := p1) (l1 := l1) (l2 := l2) (q1 := q1) (q2 := q2) (q3 := q3) (q4 := q4) (q5 := q5) (q6 := q6) (R1 := R1) (R2 := R2) (cc := cc) (u2 := u2) (u3 := u3) (u5 := u5) (x8 := x8) (x9 := x9) (x10 := x10) (x11 := x11) (x12 := x12) (x13 := x13) (x14 := x14) (x15 := x15) (x16 := x16) h_c) (fun v1 M2 q3 => ?_)
  obtain ⟨rfl, rfl⟩ := q3
  show pl _ _ _ (152, [(0, .ref c), (1, .int 15)], [.int x16], M) _
  exact ps_reti rfl (⟨rfl, rfl⟩)
set_option maxHeartbeats 1000000 in
theorem dk_count0 {g : xe_G} {M : mi_H} {o ca fl : Nat} {cn wp w : Int32} (h_o : M.1 o = some (ob 11 [.ref ca, .int cn, .ref fl, .null, .int wp])) (h0 : ¬ w < 0) (h1 : w ≤ 15) : pt (mT g) 5 [.ref o, .int w] M (fun v M' => (v = some (.int (-1)) ∧ M = M')) := by
  refine pt_in (b := mb_5 g) rfl (fun kf => ?_)
  show pl (mT g) kf (mb_5 g).2 (0, [(0, .ref o), (1, .int w)], [], M) _
  refine ps_st (S' := (1, [(0, .ref o), (1, .int w)], [.int w], M)) rfl rfl rfl ?_
  refine ps_if (S1 := (10, [(0, .ref o), (1, .int w)], [], M)) (S2 := (4, [(0, .ref o), (1, .int w)], [], M)) rfl rfl rfl (fun c_1 => ?_) (fun c_1 => ?_)
  · exact absurd (of_decide_eq_true c_1) (h0)
  refine ps_st (S' := (5, [(0, .ref o), (1, .int w)], [.int w], M)) rfl rfl rfl ?_
  refine ps_st (S' := (7, [(0, .ref o), (1, .int w)], [.int 15, .int w], M)) rfl rfl rfl ?_
  refine ps_if2 (S1 := (20, [(0, .ref o), (1, .int w)], [], M)) (S2 := (10, [(0, .ref o), (1, .int w)], [], M)) rfl rfl rfl (fun c_7 => ?_) (fun c_7 => ?_)
  rotate_left
  · exact absurd (h1) (of_decide_eq_false c_7)
  refine ps_st (S' := (21, [(0, .ref o), (1, .int w)], [.ref o], M)) rfl rfl rfl ?_
  refine ps_get (S' := (24, [(0, .ref o), (1, .int w)], [.null], M)) rfl h_o rfl rfl ?_
  refine ps_st (S' := (27, [(0, .ref o), (1, .int w)], [], M)) rfl rfl rfl ?_
  refine ps_st (S' := (28, [(0, .ref o), (1, .int w)], [.int (-1)], M)) rfl rfl rfl ?_
  refine ps_st (S' := (39, [], [.int (-1)], M)) rfl rfl rfl ?_
  exact ps_ret rfl rfl (⟨rfl, rfl⟩)
set_option maxHeartbeats 1000000 in
theorem dk_count_0 {g : xe_G} {M : mi_H} {f : Nat → Int32} {n N q c b da fr mr p1 l1 l2 q1 q2 q3 q4 q5 q6 : Nat} {R1 R2 : Nat → Value} {cc u2 u3 u5 x8 x9 x10 x11 x12 x13 x14 x15 x16 : Int32} {o ca fl : Nat} {cn wp : Int32} (h_o : M.1 o = some (ob 11 [.ref ca, .int cn, .ref fl, .ref c, .int wp])) (h_c : M.1 c = some (ob 3 [.ref b, .ref q, .int u2, .int u3, .int (nI p1), .int u5, .ref fr, .ref mr, .int x8, .int x9, .int x10, .int x11, .int x12, .int x13, .int x14, .int x15, .int x16])) (h_b : M.1 b = some (ob 1 [.ref da])) (h_da : M.1 da = some (ar .byte n f)) (h_q : M.1 q = some (ob 7 [.int (nI N), .ref q1, .ref q2, .ref q3, .ref q4, .ref q5, .ref q6, .int cc])) (h_fr : M.1 fr = some (ro "ClassGate$Member" l1 R1)) (h_mr : M.1 mr = some (ro "ClassGate$Member" l2 R2)) (hn : n ≤ 65540) (hp1 : p1 + 8 ≤ n) : pt (mT g) 5 [.ref o, .int 0] M (fun v M' => (v = some (.int (nI N)) ∧ M = M')) := by
  refine pt_in (b := mb_5 g) rfl (fun kf => ?_)
  show pl (mT g) kf (mb_5 g).2 (0, [(0, .ref o), (1, .int 0)], [], M) _
  refine ps_st (S' := (1, [(0, .ref o), (1, .int 0)], [.int 0], M)) rfl rfl rfl ?_
  refine ps_if (S1 := (10, [(0, .ref o), (1, .int 0)], [], M)) (S2 := (4, [(0, .ref o), (1, .int 0)], [], M)) rfl rfl rfl (fun c_1 => ?_) (fun c_1 => ?_)
  · exact absurd (of_decide_eq_true c_1) (by decide)
  refine ps_st (S' := (5, [(0, .ref o), (1, .int 0)], [.int 0], M)) rfl rfl rfl ?_
  refine ps_st (S' := (7, [(0, .ref o), (1, .int 0)], [.int 15, .int 0], M)) rfl rfl rfl ?_
  refine ps_if2 (S1 := (20, [(0, .ref o), (1, .int 0)], [], M)) (S2 := (10, [(0, .ref o), (1, .int 0)], [], M)) rfl rfl rfl (fun c_7 => ?_) (fun c_7 => ?_)
  rotate_left
  · exact absurd (by decide) (of_decide_eq_false c_7)
  refine ps_st (S' := (21, [(0, .ref o), (1, .int 0)], [.ref o], M)) rfl rfl rfl ?_
  refine ps_get (S' := (24, [(0, .ref o), (1, .int 0)], [.ref c], M)) rfl h_o rfl rfl ?_
  refine ps_st (S' := (31, [(0, .ref o), (1, .int 0)], [], M)) rfl rfl rfl ?_
  refine ps_st (S' := (32, [(0, .ref o), (1, .int 0)], [.ref o], M)) rfl rfl rfl ?_
  refine ps_get (S' := (35, [(0, .ref o), (1, .int 0)], [.ref c], M)) rfl h_o rfl rfl ?_
  refine ps_st (S' := (36, [(0, .ref o), (1, .int 0)], [.int 0, .ref c], M)) rfl rfl rfl ?_
  refine pl_call (a := [.ref c, .int 0]) (rest := []) rfl rfl rfl (dk_num0 (f := f) (n := n) (N := N) (q := q) (c := c) (b := b) (da := da) (fr := fr) (mr := mr) (p1 := p1) (l1 := l1) (l2 := l2) (q1 := q1) (q2 := q2) (q3 := q3) (q4 := q4) (q5 := q5) (q6 := q6) (R1 := R1) (R2 := R2) (cc := cc) (u2 := u2) (u3 := u3) (u5 := u5) (x8 := x8) (x9 := x9) (x10 := x10) (x11 := x11) (x12 := x12) (x13 := x13) (x14 := x14) (x15 := x15) (x16 := x16) h_c h_b h_da h_q h_fr h_mr (hn) (hp1)) (fun v1 M2 q3 => ?_)
  obtain ⟨rfl, rfl⟩ := q3
  show pl _ _ _ (39, [], [.int (nI N)], M) _
  exact ps_reti rfl (⟨rfl, rfl⟩)
set_option maxHeartbeats 1000000 in
theorem dk_count_1 {g : xe_G} {M : mi_H} {f : Nat → Int32} {n N q c b da fr mr p1 l1 l2 q1 q2 q3 q4 q5 q6 : Nat} {R1 R2 : Nat → Value} {cc u2 u3 u5 x8 x9 x10 x11 x12 x13 x14 x15 x16 : Int32} {o ca fl : Nat} {cn wp : Int32} (h_o : M.1 o = some (ob 11 [.ref ca, .int cn, .ref fl, .ref c, .int wp])) (h_c : M.1 c = some (ob 3 [.ref b, .ref q, .int u2, .int u3, .int (nI p1), .int u5, .ref fr, .ref mr, .int x8, .int x9, .int x10, .int x11, .int x12, .int x13, .int x14, .int x15, .int x16])) (h_b : M.1 b = some (ob 1 [.ref da])) (h_da : M.1 da = some (ar .byte n f)) (h_q : M.1 q = some (ob 7 [.int (nI N), .ref q1, .ref q2, .ref q3, .ref q4, .ref q5, .ref q6, .int cc])) (h_fr : M.1 fr = some (ro "ClassGate$Member" l1 R1)) (h_mr : M.1 mr = some (ro "ClassGate$Member" l2 R2)) (hn : n ≤ 65540) (hp1 : p1 + 8 ≤ n) : pt (mT g) 5 [.ref o, .int 1] M (fun v M' => (v = some (.int (nI l1)) ∧ M = M')) := by
  refine pt_in (b := mb_5 g) rfl (fun kf => ?_)
  show pl (mT g) kf (mb_5 g).2 (0, [(0, .ref o), (1, .int 1)], [], M) _
  refine ps_st (S' := (1, [(0, .ref o), (1, .int 1)], [.int 1], M)) rfl rfl rfl ?_
  refine ps_if (S1 := (10, [(0, .ref o), (1, .int 1)], [], M)) (S2 := (4, [(0, .ref o), (1, .int 1)], [], M)) rfl rfl rfl (fun c_1 => ?_) (fun c_1 => ?_)
  · exact absurd (of_decide_eq_true c_1) (by decide)
  refine ps_st (S' := (5, [(0, .ref o), (1, .int 1)], [.int 1], M)) rfl rfl rfl ?_
  refine ps_st (S' := (7, [(0, .ref o), (1, .int 1)], [.int 15, .int 1], M)) rfl rfl rfl ?_
  refine ps_if2 (S1 := (20, [(0, .ref o), (1, .int 1)], [], M)) (S2 := (10, [(0, .ref o), (1, .int 1)], [], M)) rfl rfl rfl (fun c_7 => ?_) (fun c_7 => ?_)
  rotate_left
  · exact absurd (by decide) (of_decide_eq_false c_7)
  refine ps_st (S' := (21, [(0, .ref o), (1, .int 1)], [.ref o], M)) rfl rfl rfl ?_
  refine ps_get (S' := (24, [(0, .ref o), (1, .int 1)], [.ref c], M)) rfl h_o rfl rfl ?_
  refine ps_st (S' := (31, [(0, .ref o), (1, .int 1)], [], M)) rfl rfl rfl ?_
  refine ps_st (S' := (32, [(0, .ref o), (1, .int 1)], [.ref o], M)) rfl rfl rfl ?_
  refine ps_get (S' := (35, [(0, .ref o), (1, .int 1)], [.ref c], M)) rfl h_o rfl rfl ?_
  refine ps_st (S' := (36, [(0, .ref o), (1, .int 1)], [.int 1, .ref c], M)) rfl rfl rfl ?_
  refine pl_call (a := [.ref c, .int 1]) (rest := []) rfl rfl rfl (dk_num1 (f := f) (n := n) (N := N) (q := q) (c := c) (b := b) (da := da) (fr := fr) (mr := mr) (p1 := p1) (l1 := l1) (l2 := l2) (q1 := q1) (q2 := q2) (q3 := q3) (q4 := q4) (q5 := q5) (q6 := q6) (R1 := R1) (R2 := R2) (cc := cc) (u2 := u2) (u3 := u3) (u5 := u5) (x8 := x8) (x9 := x9) (x10 := x10) (x11 := x11) (x12 := x12) (x13 := x13) (x14 := x14) (x15 := x15) (x16 := x16) h_c h_b h_da h_q h_fr h_mr (hn) (hp1)) (fun v1 M2 q3 => ?_)
  obtain ⟨rfl, rfl⟩ := q3
  show pl _ _ _ (39, [], [.int (nI l1)], M) _
  exact ps_reti rfl (⟨rfl, rfl⟩)
set_option maxHeartbeats 1000000 in
theorem dk_count_2 {g : xe_G} {M : mi_H} {f : Nat → Int32} {n N q c b da fr mr p1 l1 l2 q1 q2 q3 q4 q5 q6 : Nat} {R1 R2 : Nat → Value} {cc u2 u3 u5 x8 x9 x10 x11 x12 x13 x14 x15 x16 : Int32} {o ca fl : Nat} {cn wp : Int32} (h_o : M.1 o = some (ob 11 [.ref ca, .int cn, .ref fl, .ref c, .int wp])) (h_c : M.1 c = some (ob 3 [.ref b, .ref q, .int u2, .int u3, .int (nI p1), .int u5, .ref fr, .ref mr, .int x8, .int x9, .int x10, .int x11, .int x12, .int x13, .int x14, .int x15, .int x16])) (h_b : M.1 b = some (ob 1 [.ref da])) (h_da : M.1 da = some (ar .byte n f)) (h_q : M.1 q = some (ob 7 [.int (nI N), .ref q1, .ref q2, .ref q3, .ref q4, .ref q5, .ref q6, .int cc])) (h_fr : M.1 fr = some (ro "ClassGate$Member" l1 R1)) (h_mr : M.1 mr = some (ro "ClassGate$Member" l2 R2)) (hn : n ≤ 65540) (hp1 : p1 + 8 ≤ n) : pt (mT g) 5 [.ref o, .int 2] M (fun v M' => (v = some (.int (nI l2)) ∧ M = M')) := by
  refine pt_in (b := mb_5 g) rfl (fun kf => ?_)
  show pl (mT g) kf (mb_5 g).2 (0, [(0, .ref o), (1, .int 2)], [], M) _
  refine ps_st (S' := (1, [(0, .ref o), (1, .int 2)], [.int 2], M)) rfl rfl rfl ?_
  refine ps_if (S1 := (10, [(0, .ref o), (1, .int 2)], [], M)) (S2 := (4, [(0, .ref o), (1, .int 2)], [], M)) rfl rfl rfl (fun c_1 => ?_) (fun c_1 => ?_)
  · exact absurd (of_decide_eq_true c_1) (by decide)
  refine ps_st (S' := (5, [(0, .ref o), (1, .int 2)], [.int 2], M)) rfl rfl rfl ?_
  refine ps_st (S' := (7, [(0, .ref o), (1, .int 2)], [.int 15, .int 2], M)) rfl rfl rfl ?_
  refine ps_if2 (S1 := (20, [(0, .ref o), (1, .int 2)], [], M)) (S2 := (10, [(0, .ref o), (1, .int 2)], [], M)) rfl rfl rfl (fun c_7 => ?_) (fun c_7 => ?_)
  rotate_left
  · exact absurd (by decide) (of_decide_eq_false c_7)
  refine ps_st (S' := (21, [(0, .ref o), (1, .int 2)], [.ref o], M)) rfl rfl rfl ?_
  refine ps_get (S' := (24, [(0, .ref o), (1, .int 2)], [.ref c], M)) rfl h_o rfl rfl ?_
  refine ps_st (S' := (31, [(0, .ref o), (1, .int 2)], [], M)) rfl rfl rfl ?_
  refine ps_st (S' := (32, [(0, .ref o), (1, .int 2)], [.ref o], M)) rfl rfl rfl ?_
  refine ps_get (S' := (35, [(0, .ref o), (1, .int 2)], [.ref c], M)) rfl h_o rfl rfl ?_
  refine ps_st (S' := (36, [(0, .ref o), (1, .int 2)], [.int 2, .ref c], M)) rfl rfl rfl ?_
  refine pl_call (a := [.ref c, .int 2]) (rest := []) rfl rfl rfl (dk_num2 (f := f) (n := n) (N := N) (q := q) (c := c) (b := b) (da := da) (fr := fr) (mr := mr) (p1 := p1) (l1 := l1) (l2 := l2) (q1 := q1) (q2 := q2) (q3 := q3) (q4 := q4) (q5 := q5) (q6 := q6) (R1 := R1) (R2 := R2) (cc := cc) (u2 := u2) (u3 := u3) (u5 := u5) (x8 := x8) (x9 := x9) (x10 := x10) (x11 := x11) (x12 := x12) (x13 := x13) (x14 := x14) (x15 := x15) (x16 := x16) h_c h_b h_da h_q h_fr h_mr (hn) (hp1)) (fun v1 M2 q3 => ?_)
  obtain ⟨rfl, rfl⟩ := q3
  show pl _ _ _ (39, [], [.int (nI l2)], M) _
  exact ps_reti rfl (⟨rfl, rfl⟩)
set_option maxHeartbeats 1000000 in
theorem dk_count_3 {g : xe_G} {M : mi_H} {f : Nat → Int32} {n N q c b da fr mr p1 l1 l2 q1 q2 q3 q4 q5 q6 : Nat} {R1 R2 : Nat → Value} {cc u2 u3 u5 x8 x9 x10 x11 x12 x13 x14 x15 x16 : Int32} {o ca fl : Nat} {cn wp : Int32} (h_o : M.1 o = some (ob 11 [.ref ca, .int cn, .ref fl, .ref c, .int wp])) (h_c : M.1 c = some (ob 3 [.ref b, .ref q, .int u2, .int u3, .int (nI p1), .int u5, .ref fr, .ref mr, .int x8, .int x9, .int x10, .int x11, .int x12, .int x13, .int x14, .int x15, .int x16])) (h_b : M.1 b = some (ob 1 [.ref da])) (h_da : M.1 da = some (ar .byte n f)) (h_q : M.1 q = some (ob 7 [.int (nI N), .ref q1, .ref q2, .ref q3, .ref q4, .ref q5, .ref q6, .int cc])) (h_fr : M.1 fr = some (ro "ClassGate$Member" l1 R1)) (h_mr : M.1 mr = some (ro "ClassGate$Member" l2 R2)) (hn : n ≤ 65540) (hp1 : p1 + 8 ≤ n) : pt (mT g) 5 [.ref o, .int 3] M (fun v M' => (v = some (.int u5) ∧ M = M')) := by
  refine pt_in (b := mb_5 g) rfl (fun kf => ?_)
  show pl (mT g) kf (mb_5 g).2 (0, [(0, .ref o), (1, .int 3)], [], M) _
  refine ps_st (S' := (1, [(0, .ref o), (1, .int 3)], [.int 3], M)) rfl rfl rfl ?_
  refine ps_if (S1 := (10, [(0, .ref o), (1, .int 3)], [], M)) (S2 := (4, [(0, .ref o), (1, .int 3)], [], M)) rfl rfl rfl (fun c_1 => ?_) (fun c_1 => ?_)
  · exact absurd (of_decide_eq_true c_1) (by decide)
  refine ps_st (S' := (5, [(0, .ref o), (1, .int 3)], [.int 3], M)) rfl rfl rfl ?_
  refine ps_st (S' := (7, [(0, .ref o), (1, .int 3)], [.int 15, .int 3], M)) rfl rfl rfl ?_
  refine ps_if2 (S1 := (20, [(0, .ref o), (1, .int 3)], [], M)) (S2 := (10, [(0, .ref o), (1, .int 3)], [], M)) rfl rfl rfl (fun c_7 => ?_) (fun c_7 => ?_)
  rotate_left
  · exact absurd (by decide) (of_decide_eq_false c_7)
  refine ps_st (S' := (21, [(0, .ref o), (1, .int 3)], [.ref o], M)) rfl rfl rfl ?_
  refine ps_get (S' := (24, [(0, .ref o), (1, .int 3)], [.ref c], M)) rfl h_o rfl rfl ?_
  refine ps_st (S' := (31, [(0, .ref o), (1, .int 3)], [], M)) rfl rfl rfl ?_
  refine ps_st (S' := (32, [(0, .ref o), (1, .int 3)], [.ref o], M)) rfl rfl rfl ?_
  refine ps_get (S' := (35, [(0, .ref o), (1, .int 3)], [.ref c], M)) rfl h_o rfl rfl ?_
  refine ps_st (S' := (36, [(0, .ref o), (1, .int 3)], [.int 3, .ref c], M)) rfl rfl rfl ?_
  refine pl_call (a := [.ref c, .int 3]) (rest := []) rfl rfl rfl (dk_num3 (f := f) (n := n) (N := N) (q := q) (c := c) (b := b) (da := da) (fr := fr) (mr := mr) (p1 := p1) (l1 := l1) (l2 := l2) (q1 := q1) (q2 := q2) (q3 := q3) (q4 := q4) (q5 := q5) (q6 := q6) (R1 := R1) (R2 := R2) (cc := cc) (u2 := u2) (u3 := u3) (u5 := u5) (x8 := x8) (x9 := x9) (x10 := x10) (x11 := x11) (x12 := x12) (x13 := x13) (x14 := x14) (x15 := x15) (x16 := x16) h_c h_b h_da h_q h_fr h_mr (hn) (hp1)) (fun v1 M2 q3 => ?_)
  obtain ⟨rfl, rfl⟩ := q3
  show pl _ _ _ (39, [], [.int u5], M) _
  exact ps_reti rfl (⟨rfl, rfl⟩)
set_option maxHeartbeats 1000000 in
theorem dk_count_4 {g : xe_G} {M : mi_H} {f : Nat → Int32} {n N q c b da fr mr p1 l1 l2 q1 q2 q3 q4 q5 q6 : Nat} {R1 R2 : Nat → Value} {cc u2 u3 u5 x8 x9 x10 x11 x12 x13 x14 x15 x16 : Int32} {o ca fl : Nat} {cn wp : Int32} (h_o : M.1 o = some (ob 11 [.ref ca, .int cn, .ref fl, .ref c, .int wp])) (h_c : M.1 c = some (ob 3 [.ref b, .ref q, .int u2, .int u3, .int (nI p1), .int u5, .ref fr, .ref mr, .int x8, .int x9, .int x10, .int x11, .int x12, .int x13, .int x14, .int x15, .int x16])) (h_b : M.1 b = some (ob 1 [.ref da])) (h_da : M.1 da = some (ar .byte n f)) (h_q : M.1 q = some (ob 7 [.int (nI N), .ref q1, .ref q2, .ref q3, .ref q4, .ref q5, .ref q6, .int cc])) (h_fr : M.1 fr = some (ro "ClassGate$Member" l1 R1)) (h_mr : M.1 mr = some (ro "ClassGate$Member" l2 R2)) (hn : n ≤ 65540) (hp1 : p1 + 8 ≤ n) : pt (mT g) 5 [.ref o, .int 4] M (fun v M' => (v = some (.int x11) ∧ M = M')) := by
  refine pt_in (b := mb_5 g) rfl (fun kf => ?_)
  show pl (mT g) kf (mb_5 g).2 (0, [(0, .ref o), (1, .int 4)], [], M) _
  refine ps_st (S' := (1, [(0, .ref o), (1, .int 4)], [.int 4], M)) rfl rfl rfl ?_
  refine ps_if (S1 := (10, [(0, .ref o), (1, .int 4)], [], M)) (S2 := (4, [(0, .ref o), (1, .int 4)], [], M)) rfl rfl rfl (fun c_1 => ?_) (fun c_1 => ?_)
  · exact absurd (of_decide_eq_true c_1) (by decide)
  refine ps_st (S' := (5, [(0, .ref o), (1, .int 4)], [.int 4], M)) rfl rfl rfl ?_
  refine ps_st (S' := (7, [(0, .ref o), (1, .int 4)], [.int 15, .int 4], M)) rfl rfl rfl ?_
  refine ps_if2 (S1 := (20, [(0, .ref o), (1, .int 4)], [], M)) (S2 := (10, [(0, .ref o), (1, .int 4)], [], M)) rfl rfl rfl (fun c_7 => ?_) (fun c_7 => ?_)
  rotate_left
  · exact absurd (by decide) (of_decide_eq_false c_7)
  refine ps_st (S' := (21, [(0, .ref o), (1, .int 4)], [.ref o], M)) rfl rfl rfl ?_
  refine ps_get (S' := (24, [(0, .ref o), (1, .int 4)], [.ref c], M)) rfl h_o rfl rfl ?_
  refine ps_st (S' := (31, [(0, .ref o), (1, .int 4)], [], M)) rfl rfl rfl ?_
  refine ps_st (S' := (32, [(0, .ref o), (1, .int 4)], [.ref o], M)) rfl rfl rfl ?_
  refine ps_get (S' := (35, [(0, .ref o), (1, .int 4)], [.ref c], M)) rfl h_o rfl rfl ?_
  refine ps_st (S' := (36, [(0, .ref o), (1, .int 4)], [.int 4, .ref c], M)) rfl rfl rfl ?_
  refine pl_call (a := [.ref c, .int 4]) (rest := []) rfl rfl rfl (dk_num4 (f := f) (n := n) (N := N) (q := q) (c := c) (b := b) (da := da) (fr := fr) (mr := mr) (p1 := p1) (l1 := l1) (l2 := l2) (q1 := q1) (q2 := q2) (q3 := q3) (q4 := q4) (q5 := q5) (q6 := q6) (R1 := R1) (R2 := R2) (cc := cc) (u2 := u2) (u3 := u3) (u5 := u5) (x8 := x8) (x9 := x9) (x10 := x10) (x11 := x11) (x12 := x12) (x13 := x13) (x14 := x14) (x15 := x15) (x16 := x16) h_c h_b h_da h_q h_fr h_mr (hn) (hp1)) (fun v1 M2 q3 => ?_)
  obtain ⟨rfl, rfl⟩ := q3
  show pl _ _ _ (39, [], [.int x11], M) _
  exact ps_reti rfl (⟨rfl, rfl⟩)
set_option maxHeartbeats 1000000 in
theorem dk_count_5 {g : xe_G} {M : mi_H} {f : Nat → Int32} {n N q c b da fr mr p1 l1 l2 q1 q2 q3 q4 q5 q6 : Nat} {R1 R2 : Nat → Value} {cc u2 u3 u5 x8 x9 x10 x11 x12 x13 x14 x15 x16 : Int32} {o ca fl : Nat} {cn wp : Int32} (h_o : M.1 o = some (ob 11 [.ref ca, .int cn, .ref fl, .ref c, .int wp])) (h_c : M.1 c = some (ob 3 [.ref b, .ref q, .int u2, .int u3, .int (nI p1), .int u5, .ref fr, .ref mr, .int x8, .int x9, .int x10, .int x11, .int x12, .int x13, .int x14, .int x15, .int x16])) (h_b : M.1 b = some (ob 1 [.ref da])) (h_da : M.1 da = some (ar .byte n f)) (h_q : M.1 q = some (ob 7 [.int (nI N), .ref q1, .ref q2, .ref q3, .ref q4, .ref q5, .ref q6, .int cc])) (h_fr : M.1 fr = some (ro "ClassGate$Member" l1 R1)) (h_mr : M.1 mr = some (ro "ClassGate$Member" l2 R2)) (hn : n ≤ 65540) (hp1 : p1 + 8 ≤ n) : pt (mT g) 5 [.ref o, .int 5] M (fun v M' => (v = some (.int x10) ∧ M = M')) := by
  refine pt_in (b := mb_5 g) rfl (fun kf => ?_)
  show pl (mT g) kf (mb_5 g).2 (0, [(0, .ref o), (1, .int 5)], [], M) _
  refine ps_st (S' := (1, [(0, .ref o), (1, .int 5)], [.int 5], M)) rfl rfl rfl ?_
  refine ps_if (S1 := (10, [(0, .ref o), (1, .int 5)], [], M)) (S2 := (4, [(0, .ref o), (1, .int 5)], [], M)) rfl rfl rfl (fun c_1 => ?_) (fun c_1 => ?_)
  · exact absurd (of_decide_eq_true c_1) (by decide)
  refine ps_st (S' := (5, [(0, .ref o), (1, .int 5)], [.int 5], M)) rfl rfl rfl ?_
  refine ps_st (S' := (7, [(0, .ref o), (1, .int 5)], [.int 15, .int 5], M)) rfl rfl rfl ?_
  refine ps_if2 (S1 := (20, [(0, .ref o), (1, .int 5)], [], M)) (S2 := (10, [(0, .ref o), (1, .int 5)], [], M)) rfl rfl rfl (fun c_7 => ?_) (fun c_7 => ?_)
  rotate_left
  · exact absurd (by decide) (of_decide_eq_false c_7)
  refine ps_st (S' := (21, [(0, .ref o), (1, .int 5)], [.ref o], M)) rfl rfl rfl ?_
  refine ps_get (S' := (24, [(0, .ref o), (1, .int 5)], [.ref c], M)) rfl h_o rfl rfl ?_
  refine ps_st (S' := (31, [(0, .ref o), (1, .int 5)], [], M)) rfl rfl rfl ?_
  refine ps_st (S' := (32, [(0, .ref o), (1, .int 5)], [.ref o], M)) rfl rfl rfl ?_
  refine ps_get (S' := (35, [(0, .ref o), (1, .int 5)], [.ref c], M)) rfl h_o rfl rfl ?_
  refine ps_st (S' := (36, [(0, .ref o), (1, .int 5)], [.int 5, .ref c], M)) rfl rfl rfl ?_
  refine pl_call (a := [.ref c, .int 5]) (rest := []) rfl rfl rfl (dk_num5 (f := f) (n := n) (N := N) (q := q) (c := c) (b := b) (da := da) (fr := fr) (mr := mr) (p1 := p1) (l1 := l1) (l2 := l2) (q1 := q1) (q2 := q2) (q3 := q3) (q4 := q4) (q5 := q5) (q6 := q6) (R1 := R1) (R2 := R2) (cc := cc) (u2 := u2) (u3 := u3) (u5 := u5) (x8 := x8) (x9 := x9) (x10 := x10) (x11 := x11) (x12 := x12) (x13 := x13) (x14 := x14) (x15 := x15) (x16 := x16) h_c h_b h_da h_q h_fr h_mr (hn) (hp1)) (fun v1 M2 q3 => ?_)
  obtain ⟨rfl, rfl⟩ := q3
  show pl _ _ _ (39, [], [.int x10], M) _
  exact ps_reti rfl (⟨rfl, rfl⟩)
set_option maxHeartbeats 1000000 in
theorem dk_count_6 {g : xe_G} {M : mi_H} {f : Nat → Int32} {n N q c b da fr mr p1 l1 l2 q1 q2 q3 q4 q5 q6 : Nat} {R1 R2 : Nat → Value} {cc u2 u3 u5 x8 x9 x10 x11 x12 x13 x14 x15 x16 : Int32} {o ca fl : Nat} {cn wp : Int32} (h_o : M.1 o = some (ob 11 [.ref ca, .int cn, .ref fl, .ref c, .int wp])) (h_c : M.1 c = some (ob 3 [.ref b, .ref q, .int u2, .int u3, .int (nI p1), .int u5, .ref fr, .ref mr, .int x8, .int x9, .int x10, .int x11, .int x12, .int x13, .int x14, .int x15, .int x16])) (h_b : M.1 b = some (ob 1 [.ref da])) (h_da : M.1 da = some (ar .byte n f)) (h_q : M.1 q = some (ob 7 [.int (nI N), .ref q1, .ref q2, .ref q3, .ref q4, .ref q5, .ref q6, .int cc])) (h_fr : M.1 fr = some (ro "ClassGate$Member" l1 R1)) (h_mr : M.1 mr = some (ro "ClassGate$Member" l2 R2)) (hn : n ≤ 65540) (hp1 : p1 + 8 ≤ n) : pt (mT g) 5 [.ref o, .int 6] M (fun v M' => (v = some (.int (nI (by2 f p1))) ∧ M = M')) := by
  refine pt_in (b := mb_5 g) rfl (fun kf => ?_)
  show pl (mT g) kf (mb_5 g).2 (0, [(0, .ref o), (1, .int 6)], [], M) _
  refine ps_st (S' := (1, [(0, .ref o), (1, .int 6)], [.int 6], M)) rfl rfl rfl ?_
  refine ps_if (S1 := (10, [(0, .ref o), (1, .int 6)], [], M)) (S2 := (4, [(0, .ref o), (1, .int 6)], [], M)) rfl rfl rfl (fun c_1 => ?_) (fun c_1 => ?_)
  · exact absurd (of_decide_eq_true c_1) (by decide)
  refine ps_st (S' := (5, [(0, .ref o), (1, .int 6)], [.int 6], M)) rfl rfl rfl ?_
  refine ps_st (S' := (7, [(0, .ref o), (1, .int 6)], [.int 15, .int 6], M)) rfl rfl rfl ?_
  refine ps_if2 (S1 := (20, [(0, .ref o), (1, .int 6)], [], M)) (S2 := (10, [(0, .ref o), (1, .int 6)], [], M)) rfl rfl rfl (fun c_7 => ?_) (fun c_7 => ?_)
  rotate_left
  · exact absurd (by decide) (of_decide_eq_false c_7)
  refine ps_st (S' := (21, [(0, .ref o), (1, .int 6)], [.ref o], M)) rfl rfl rfl ?_
  refine ps_get (S' := (24, [(0, .ref o), (1, .int 6)], [.ref c], M)) rfl h_o rfl rfl ?_
  refine ps_st (S' := (31, [(0, .ref o), (1, .int 6)], [], M)) rfl rfl rfl ?_
  refine ps_st (S' := (32, [(0, .ref o), (1, .int 6)], [.ref o], M)) rfl rfl rfl ?_
  refine ps_get (S' := (35, [(0, .ref o), (1, .int 6)], [.ref c], M)) rfl h_o rfl rfl ?_
  refine ps_st (S' := (36, [(0, .ref o), (1, .int 6)], [.int 6, .ref c], M)) rfl rfl rfl ?_
  refine pl_call (a := [.ref c, .int 6]) (rest := []) rfl rfl rfl (dk_num6 (f := f) (n := n) (N := N) (q := q) (c := c) (b := b) (da := da) (fr := fr) (mr := mr) (p1 := p1) (l1 := l1) (l2 := l2) (q1 := q1) (q2 := q2) (q3 := q3) (q4 := q4) (q5 := q5) (q6 := q6) (R1 := R1) (R2 := R2) (cc := cc) (u2 := u2) (u3 := u3) (u5 := u5) (x8 := x8) (x9 := x9) (x10 := x10) (x11 := x11) (x12 := x12) (x13 := x13) (x14 := x14) (x15 := x15) (x16 := x16) h_c h_b h_da h_q h_fr h_mr (hn) (hp1)) (fun v1 M2 q3 => ?_)
  obtain ⟨rfl, rfl⟩ := q3
  show pl _ _ _ (39, [], [.int (nI (by2 f p1))], M) _
  exact ps_reti rfl (⟨rfl, rfl⟩)
set_option maxHeartbeats 1000000 in
theorem dk_count_7 {g : xe_G} {M : mi_H} {f : Nat → Int32} {n N q c b da fr mr p1 l1 l2 q1 q2 q3 q4 q5 q6 : Nat} {R1 R2 : Nat → Value} {cc u2 u3 u5 x8 x9 x10 x11 x12 x13 x14 x15 x16 : Int32} {o ca fl : Nat} {cn wp : Int32} (h_o : M.1 o = some (ob 11 [.ref ca, .int cn, .ref fl, .ref c, .int wp])) (h_c : M.1 c = some (ob 3 [.ref b, .ref q, .int u2, .int u3, .int (nI p1), .int u5, .ref fr, .ref mr, .int x8, .int x9, .int x10, .int x11, .int x12, .int x13, .int x14, .int x15, .int x16])) (h_b : M.1 b = some (ob 1 [.ref da])) (h_da : M.1 da = some (ar .byte n f)) (h_q : M.1 q = some (ob 7 [.int (nI N), .ref q1, .ref q2, .ref q3, .ref q4, .ref q5, .ref q6, .int cc])) (h_fr : M.1 fr = some (ro "ClassGate$Member" l1 R1)) (h_mr : M.1 mr = some (ro "ClassGate$Member" l2 R2)) (hn : n ≤ 65540) (hp1 : p1 + 8 ≤ n) : pt (mT g) 5 [.ref o, .int 7] M (fun v M' => (v = some (.int u3) ∧ M = M')) := by
  refine pt_in (b := mb_5 g) rfl (fun kf => ?_)
  show pl (mT g) kf (mb_5 g).2 (0, [(0, .ref o), (1, .int 7)], [], M) _
  refine ps_st (S' := (1, [(0, .ref o), (1, .int 7)], [.int 7], M)) rfl rfl rfl ?_
  refine ps_if (S1 := (10, [(0, .ref o), (1, .int 7)], [], M)) (S2 := (4, [(0, .ref o), (1, .int 7)], [], M)) rfl rfl rfl (fun c_1 => ?_) (fun c_1 => ?_)
  · exact absurd (of_decide_eq_true c_1) (by decide)
  refine ps_st (S' := (5, [(0, .ref o), (1, .int 7)], [.int 7], M)) rfl rfl rfl ?_
  refine ps_st (S' := (7, [(0, .ref o), (1, .int 7)], [.int 15, .int 7], M)) rfl rfl rfl ?_
  refine ps_if2 (S1 := (20, [(0, .ref o), (1, .int 7)], [], M)) (S2 := (10, [(0, .ref o), (1, .int 7)], [], M)) rfl rfl rfl (fun c_7 => ?_) (fun c_7 => ?_)
  rotate_left
  · exact absurd (by decide) (of_decide_eq_false c_7)
  refine ps_st (S' := (21, [(0, .ref o), (1, .int 7)], [.ref o], M)) rfl rfl rfl ?_
  refine ps_get (S' := (24, [(0, .ref o), (1, .int 7)], [.ref c], M)) rfl h_o rfl rfl ?_
  refine ps_st (S' := (31, [(0, .ref o), (1, .int 7)], [], M)) rfl rfl rfl ?_
  refine ps_st (S' := (32, [(0, .ref o), (1, .int 7)], [.ref o], M)) rfl rfl rfl ?_
  refine ps_get (S' := (35, [(0, .ref o), (1, .int 7)], [.ref c], M)) rfl h_o rfl rfl ?_
  refine ps_st (S' := (36, [(0, .ref o), (1, .int 7)], [.int 7, .ref c], M)) rfl rfl rfl ?_
  refine pl_call (a := [.ref c, .int 7]) (rest := []) rfl rfl rfl (dk_num7 (f := f) (n := n) (N := N) (q := q) (c := c) (b := b) (da := da) (fr := fr) (mr := mr) (p1 := p1) (l1 := l1) (l2 := l2) (q1 := q1) (q2 := q2) (q3 := q3) (q4 := q4) (q5 := q5) (q6 := q6) (R1 := R1) (R2 := R2) (cc := cc) (u2 := u2) (u3 := u3) (u5 := u5) (x8 := x8) (x9 := x9) (x10 := x10) (x11 := x11) (x12 := x12) (x13 := x13) (x14 := x14) (x15 := x15) (x16 := x16) h_c h_b h_da h_q h_fr h_mr (hn) (hp1)) (fun v1 M2 q3 => ?_)
  obtain ⟨rfl, rfl⟩ := q3
  show pl _ _ _ (39, [], [.int u3], M) _
  exact ps_reti rfl (⟨rfl, rfl⟩)
set_option maxHeartbeats 1000000 in
theorem dk_count_8 {g : xe_G} {M : mi_H} {f : Nat → Int32} {n N q c b da fr mr p1 l1 l2 q1 q2 q3 q4 q5 q6 : Nat} {R1 R2 : Nat → Value} {cc u2 u3 u5 x8 x9 x10 x11 x12 x13 x14 x15 x16 : Int32} {o ca fl : Nat} {cn wp : Int32} (h_o : M.1 o = some (ob 11 [.ref ca, .int cn, .ref fl, .ref c, .int wp])) (h_c : M.1 c = some (ob 3 [.ref b, .ref q, .int u2, .int u3, .int (nI p1), .int u5, .ref fr, .ref mr, .int x8, .int x9, .int x10, .int x11, .int x12, .int x13, .int x14, .int x15, .int x16])) (h_b : M.1 b = some (ob 1 [.ref da])) (h_da : M.1 da = some (ar .byte n f)) (h_q : M.1 q = some (ob 7 [.int (nI N), .ref q1, .ref q2, .ref q3, .ref q4, .ref q5, .ref q6, .int cc])) (h_fr : M.1 fr = some (ro "ClassGate$Member" l1 R1)) (h_mr : M.1 mr = some (ro "ClassGate$Member" l2 R2)) (hn : n ≤ 65540) (hp1 : p1 + 8 ≤ n) : pt (mT g) 5 [.ref o, .int 8] M (fun v M' => (v = some (.int u2) ∧ M = M')) := by
  refine pt_in (b := mb_5 g) rfl (fun kf => ?_)
  show pl (mT g) kf (mb_5 g).2 (0, [(0, .ref o), (1, .int 8)], [], M) _
  refine ps_st (S' := (1, [(0, .ref o), (1, .int 8)], [.int 8], M)) rfl rfl rfl ?_
  refine ps_if (S1 := (10, [(0, .ref o), (1, .int 8)], [], M)) (S2 := (4, [(0, .ref o), (1, .int 8)], [], M)) rfl rfl rfl (fun c_1 => ?_) (fun c_1 => ?_)
  · exact absurd (of_decide_eq_true c_1) (by decide)
  refine ps_st (S' := (5, [(0, .ref o), (1, .int 8)], [.int 8], M)) rfl rfl rfl ?_
  refine ps_st (S' := (7, [(0, .ref o), (1, .int 8)], [.int 15, .int 8], M)) rfl rfl rfl ?_
  refine ps_if2 (S1 := (20, [(0, .ref o), (1, .int 8)], [], M)) (S2 := (10, [(0, .ref o), (1, .int 8)], [], M)) rfl rfl rfl (fun c_7 => ?_) (fun c_7 => ?_)
  rotate_left
  · exact absurd (by decide) (of_decide_eq_false c_7)
  refine ps_st (S' := (21, [(0, .ref o), (1, .int 8)], [.ref o], M)) rfl rfl rfl ?_
  refine ps_get (S' := (24, [(0, .ref o), (1, .int 8)], [.ref c], M)) rfl h_o rfl rfl ?_
  refine ps_st (S' := (31, [(0, .ref o), (1, .int 8)], [], M)) rfl rfl rfl ?_
  refine ps_st (S' := (32, [(0, .ref o), (1, .int 8)], [.ref o], M)) rfl rfl rfl ?_
  refine ps_get (S' := (35, [(0, .ref o), (1, .int 8)], [.ref c], M)) rfl h_o rfl rfl ?_
  refine ps_st (S' := (36, [(0, .ref o), (1, .int 8)], [.int 8, .ref c], M)) rfl rfl rfl ?_
  refine pl_call (a := [.ref c, .int 8]) (rest := []) rfl rfl rfl (dk_num8 (f := f) (n := n) (N := N) (q := q) (c := c) (b := b) (da := da) (fr := fr) (mr := mr) (p1 := p1) (l1 := l1) (l2 := l2) (q1 := q1) (q2 := q2) (q3 := q3) (q4 := q4) (q5 := q5) (q6 := q6) (R1 := R1) (R2 := R2) (cc := cc) (u2 := u2) (u3 := u3) (u5 := u5) (x8 := x8) (x9 := x9) (x10 := x10) (x11 := x11) (x12 := x12) (x13 := x13) (x14 := x14) (x15 := x15) (x16 := x16) h_c h_b h_da h_q h_fr h_mr (hn) (hp1)) (fun v1 M2 q3 => ?_)
  obtain ⟨rfl, rfl⟩ := q3
  show pl _ _ _ (39, [], [.int u2], M) _
  exact ps_reti rfl (⟨rfl, rfl⟩)
set_option maxHeartbeats 1000000 in
theorem dk_count_9 {g : xe_G} {M : mi_H} {f : Nat → Int32} {n N q c b da fr mr p1 l1 l2 q1 q2 q3 q4 q5 q6 : Nat} {R1 R2 : Nat → Value} {cc u2 u3 u5 x8 x9 x10 x11 x12 x13 x14 x15 x16 : Int32} {o ca fl : Nat} {cn wp : Int32} (h_o : M.1 o = some (ob 11 [.ref ca, .int cn, .ref fl, .ref c, .int wp])) (h_c : M.1 c = some (ob 3 [.ref b, .ref q, .int u2, .int u3, .int (nI p1), .int u5, .ref fr, .ref mr, .int x8, .int x9, .int x10, .int x11, .int x12, .int x13, .int x14, .int x15, .int x16])) (h_b : M.1 b = some (ob 1 [.ref da])) (h_da : M.1 da = some (ar .byte n f)) (h_q : M.1 q = some (ob 7 [.int (nI N), .ref q1, .ref q2, .ref q3, .ref q4, .ref q5, .ref q6, .int cc])) (h_fr : M.1 fr = some (ro "ClassGate$Member" l1 R1)) (h_mr : M.1 mr = some (ro "ClassGate$Member" l2 R2)) (hn : n ≤ 65540) (hp1 : p1 + 8 ≤ n) : pt (mT g) 5 [.ref o, .int 9] M (fun v M' => (v = some (.int (nI (by2 f (p1 + 2)))) ∧ M = M')) := by
  refine pt_in (b := mb_5 g) rfl (fun kf => ?_)
  show pl (mT g) kf (mb_5 g).2 (0, [(0, .ref o), (1, .int 9)], [], M) _
  refine ps_st (S' := (1, [(0, .ref o), (1, .int 9)], [.int 9], M)) rfl rfl rfl ?_
  refine ps_if (S1 := (10, [(0, .ref o), (1, .int 9)], [], M)) (S2 := (4, [(0, .ref o), (1, .int 9)], [], M)) rfl rfl rfl (fun c_1 => ?_) (fun c_1 => ?_)
  · exact absurd (of_decide_eq_true c_1) (by decide)
  refine ps_st (S' := (5, [(0, .ref o), (1, .int 9)], [.int 9], M)) rfl rfl rfl ?_
  refine ps_st (S' := (7, [(0, .ref o), (1, .int 9)], [.int 15, .int 9], M)) rfl rfl rfl ?_
  refine ps_if2 (S1 := (20, [(0, .ref o), (1, .int 9)], [], M)) (S2 := (10, [(0, .ref o), (1, .int 9)], [], M)) rfl rfl rfl (fun c_7 => ?_) (fun c_7 => ?_)
  rotate_left
  · exact absurd (by decide) (of_decide_eq_false c_7)
  refine ps_st (S' := (21, [(0, .ref o), (1, .int 9)], [.ref o], M)) rfl rfl rfl ?_
  refine ps_get (S' := (24, [(0, .ref o), (1, .int 9)], [.ref c], M)) rfl h_o rfl rfl ?_
  refine ps_st (S' := (31, [(0, .ref o), (1, .int 9)], [], M)) rfl rfl rfl ?_
  refine ps_st (S' := (32, [(0, .ref o), (1, .int 9)], [.ref o], M)) rfl rfl rfl ?_
  refine ps_get (S' := (35, [(0, .ref o), (1, .int 9)], [.ref c], M)) rfl h_o rfl rfl ?_
  refine ps_st (S' := (36, [(0, .ref o), (1, .int 9)], [.int 9, .ref c], M)) rfl rfl rfl ?_
  refine pl_call (a := [.ref c, .int 9]) (rest := []) rfl rfl rfl (dk_num9 (f := f) (n := n) (N := N) (q := q) (c := c) (b := b) (da := da) (fr := fr) (mr := mr) (p1 := p1) (l1 := l1) (l2 := l2) (q1 := q1) (q2 := q2) (q3 := q3) (q4 := q4) (q5 := q5) (q6 := q6) (R1 := R1) (R2 := R2) (cc := cc) (u2 := u2) (u3 := u3) (u5 := u5) (x8 := x8) (x9 := x9) (x10 := x10) (x11 := x11) (x12 := x12) (x13 := x13) (x14 := x14) (x15 := x15) (x16 := x16) h_c h_b h_da h_q h_fr h_mr (hn) (hp1)) (fun v1 M2 q3 => ?_)
  obtain ⟨rfl, rfl⟩ := q3
  show pl _ _ _ (39, [], [.int (nI (by2 f (p1 + 2)))], M) _
  exact ps_reti rfl (⟨rfl, rfl⟩)
set_option maxHeartbeats 1000000 in
theorem dk_count_10 {g : xe_G} {M : mi_H} {f : Nat → Int32} {n N q c b da fr mr p1 l1 l2 q1 q2 q3 q4 q5 q6 : Nat} {R1 R2 : Nat → Value} {cc u2 u3 u5 x8 x9 x10 x11 x12 x13 x14 x15 x16 : Int32} {o ca fl : Nat} {cn wp : Int32} (h_o : M.1 o = some (ob 11 [.ref ca, .int cn, .ref fl, .ref c, .int wp])) (h_c : M.1 c = some (ob 3 [.ref b, .ref q, .int u2, .int u3, .int (nI p1), .int u5, .ref fr, .ref mr, .int x8, .int x9, .int x10, .int x11, .int x12, .int x13, .int x14, .int x15, .int x16])) (h_b : M.1 b = some (ob 1 [.ref da])) (h_da : M.1 da = some (ar .byte n f)) (h_q : M.1 q = some (ob 7 [.int (nI N), .ref q1, .ref q2, .ref q3, .ref q4, .ref q5, .ref q6, .int cc])) (h_fr : M.1 fr = some (ro "ClassGate$Member" l1 R1)) (h_mr : M.1 mr = some (ro "ClassGate$Member" l2 R2)) (hn : n ≤ 65540) (hp1 : p1 + 8 ≤ n) : pt (mT g) 5 [.ref o, .int 10] M (fun v M' => (v = some (.int (nI (by2 f (p1 + 4)))) ∧ M = M')) := by
  refine pt_in (b := mb_5 g) rfl (fun kf => ?_)
  show pl (mT g) kf (mb_5 g).2 (0, [(0, .ref o), (1, .int 10)], [], M) _
  refine ps_st (S' := (1, [(0, .ref o), (1, .int 10)], [.int 10], M)) rfl rfl rfl ?_
  refine ps_if (S1 := (10, [(0, .ref o), (1, .int 10)], [], M)) (S2 := (4, [(0, .ref o), (1, .int 10)], [], M)) rfl rfl rfl (fun c_1 => ?_) (fun c_1 => ?_)
  · exact absurd (of_decide_eq_true c_1) (by decide)
  refine ps_st (S' := (5, [(0, .ref o), (1, .int 10)], [.int 10], M)) rfl rfl rfl ?_
  refine ps_st (S' := (7, [(0, .ref o), (1, .int 10)], [.int 15, .int 10], M)) rfl rfl rfl ?_
  refine ps_if2 (S1 := (20, [(0, .ref o), (1, .int 10)], [], M)) (S2 := (10, [(0, .ref o), (1, .int 10)], [], M)) rfl rfl rfl (fun c_7 => ?_) (fun c_7 => ?_)
  rotate_left
  · exact absurd (by decide) (of_decide_eq_false c_7)
  refine ps_st (S' := (21, [(0, .ref o), (1, .int 10)], [.ref o], M)) rfl rfl rfl ?_
  refine ps_get (S' := (24, [(0, .ref o), (1, .int 10)], [.ref c], M)) rfl h_o rfl rfl ?_
  refine ps_st (S' := (31, [(0, .ref o), (1, .int 10)], [], M)) rfl rfl rfl ?_
  refine ps_st (S' := (32, [(0, .ref o), (1, .int 10)], [.ref o], M)) rfl rfl rfl ?_
  refine ps_get (S' := (35, [(0, .ref o), (1, .int 10)], [.ref c], M)) rfl h_o rfl rfl ?_
  refine ps_st (S' := (36, [(0, .ref o), (1, .int 10)], [.int 10, .ref c], M)) rfl rfl rfl ?_
  refine pl_call (a := [.ref c, .int 10]) (rest := []) rfl rfl rfl (dk_num10 (f := f) (n := n) (N := N) (q := q) (c := c) (b := b) (da := da) (fr := fr) (mr := mr) (p1 := p1) (l1 := l1) (l2 := l2) (q1 := q1) (q2 := q2) (q3 := q3) (q4 := q4) (q5 := q5) (q6 := q6) (R1 := R1) (R2 := R2) (cc := cc) (u2 := u2) (u3 := u3) (u5 := u5) (x8 := x8) (x9 := x9) (x10 := x10) (x11 := x11) (x12 := x12) (x13 := x13) (x14 := x14) (x15 := x15) (x16 := x16) h_c h_b h_da h_q h_fr h_mr (hn) (hp1)) (fun v1 M2 q3 => ?_)
  obtain ⟨rfl, rfl⟩ := q3
  show pl _ _ _ (39, [], [.int (nI (by2 f (p1 + 4)))], M) _
  exact ps_reti rfl (⟨rfl, rfl⟩)
set_option maxHeartbeats 1000000 in
theorem dk_count_11 {g : xe_G} {M : mi_H} {f : Nat → Int32} {n N q c b da fr mr p1 l1 l2 q1 q2 q3 q4 q5 q6 : Nat} {R1 R2 : Nat → Value} {cc u2 u3 u5 x8 x9 x10 x11 x12 x13 x14 x15 x16 : Int32} {o ca fl : Nat} {cn wp : Int32} (h_o : M.1 o = some (ob 11 [.ref ca, .int cn, .ref fl, .ref c, .int wp])) (h_c : M.1 c = some (ob 3 [.ref b, .ref q, .int u2, .int u3, .int (nI p1), .int u5, .ref fr, .ref mr, .int x8, .int x9, .int x10, .int x11, .int x12, .int x13, .int x14, .int x15, .int x16])) (h_b : M.1 b = some (ob 1 [.ref da])) (h_da : M.1 da = some (ar .byte n f)) (h_q : M.1 q = some (ob 7 [.int (nI N), .ref q1, .ref q2, .ref q3, .ref q4, .ref q5, .ref q6, .int cc])) (h_fr : M.1 fr = some (ro "ClassGate$Member" l1 R1)) (h_mr : M.1 mr = some (ro "ClassGate$Member" l2 R2)) (hn : n ≤ 65540) (hp1 : p1 + 8 ≤ n) : pt (mT g) 5 [.ref o, .int 11] M (fun v M' => (v = some (.int cc) ∧ M = M')) := by
  refine pt_in (b := mb_5 g) rfl (fun kf => ?_)
  show pl (mT g) kf (mb_5 g).2 (0, [(0, .ref o), (1, .int 11)], [], M) _
  refine ps_st (S' := (1, [(0, .ref o), (1, .int 11)], [.int 11], M)) rfl rfl rfl ?_
  refine ps_if (S1 := (10, [(0, .ref o), (1, .int 11)], [], M)) (S2 := (4, [(0, .ref o), (1, .int 11)], [], M)) rfl rfl rfl (fun c_1 => ?_) (fun c_1 => ?_)
  · exact absurd (of_decide_eq_true c_1) (by decide)
  refine ps_st (S' := (5, [(0, .ref o), (1, .int 11)], [.int 11], M)) rfl rfl rfl ?_
  refine ps_st (S' := (7, [(0, .ref o), (1, .int 11)], [.int 15, .int 11], M)) rfl rfl rfl ?_
  refine ps_if2 (S1 := (20, [(0, .ref o), (1, .int 11)], [], M)) (S2 := (10, [(0, .ref o), (1, .int 11)], [], M)) rfl rfl rfl (fun c_7 => ?_) (fun c_7 => ?_)
  rotate_left
  · exact absurd (by decide) (of_decide_eq_false c_7)
  refine ps_st (S' := (21, [(0, .ref o), (1, .int 11)], [.ref o], M)) rfl rfl rfl ?_
  refine ps_get (S' := (24, [(0, .ref o), (1, .int 11)], [.ref c], M)) rfl h_o rfl rfl ?_
  refine ps_st (S' := (31, [(0, .ref o), (1, .int 11)], [], M)) rfl rfl rfl ?_
  refine ps_st (S' := (32, [(0, .ref o), (1, .int 11)], [.ref o], M)) rfl rfl rfl ?_
  refine ps_get (S' := (35, [(0, .ref o), (1, .int 11)], [.ref c], M)) rfl h_o rfl rfl ?_
  refine ps_st (S' := (36, [(0, .ref o), (1, .int 11)], [.int 11, .ref c], M)) rfl rfl rfl ?_
  refine pl_call (a := [.ref c, .int 11]) (rest := []) rfl rfl rfl (dk_num11 (f := f) (n := n) (N := N) (q := q) (c := c) (b := b) (da := da) (fr := fr) (mr := mr) (p1 := p1) (l1 := l1) (l2 := l2) (q1 := q1) (q2 := q2) (q3 := q3) (q4 := q4) (q5 := q5) (q6 := q6) (R1 := R1) (R2 := R2) (cc := cc) (u2 := u2) (u3 := u3) (u5 := u5) (x8 := x8) (x9 := x9) (x10 := x10) (x11 := x11) (x12 := x12) (x13 := x13) (x14 := x14) (x15 := x15) (x16 := x16) h_c h_b h_da h_q h_fr h_mr (hn) (hp1)) (fun v1 M2 q3 => ?_)
  obtain ⟨rfl, rfl⟩ := q3
  show pl _ _ _ (39, [], [.int cc], M) _
  exact ps_reti rfl (⟨rfl, rfl⟩)
set_option maxHeartbeats 1000000 in
theorem dk_count_12 {g : xe_G} {M : mi_H} {f : Nat → Int32} {n N q c b da fr mr p1 l1 l2 q1 q2 q3 q4 q5 q6 : Nat} {R1 R2 : Nat → Value} {cc u2 u3 u5 x8 x9 x10 x11 x12 x13 x14 x15 x16 : Int32} {o ca fl : Nat} {cn wp : Int32} (h_o : M.1 o = some (ob 11 [.ref ca, .int cn, .ref fl, .ref c, .int wp])) (h_c : M.1 c = some (ob 3 [.ref b, .ref q, .int u2, .int u3, .int (nI p1), .int u5, .ref fr, .ref mr, .int x8, .int x9, .int x10, .int x11, .int x12, .int x13, .int x14, .int x15, .int x16])) (h_b : M.1 b = some (ob 1 [.ref da])) (h_da : M.1 da = some (ar .byte n f)) (h_q : M.1 q = some (ob 7 [.int (nI N), .ref q1, .ref q2, .ref q3, .ref q4, .ref q5, .ref q6, .int cc])) (h_fr : M.1 fr = some (ro "ClassGate$Member" l1 R1)) (h_mr : M.1 mr = some (ro "ClassGate$Member" l2 R2)) (hn : n ≤ 65540) (hp1 : p1 + 8 ≤ n) : pt (mT g) 5 [.ref o, .int 12] M (fun v M' => (v = some (.int x13) ∧ M = M')) := by
  refine pt_in (b := mb_5 g) rfl (fun kf => ?_)
  show pl (mT g) kf (mb_5 g).2 (0, [(0, .ref o), (1, .int 12)], [], M) _
  refine ps_st (S' := (1, [(0, .ref o), (1, .int 12)], [.int 12], M)) rfl rfl rfl ?_
  refine ps_if (S1 := (10, [(0, .ref o), (1, .int 12)], [], M)) (S2 := (4, [(0, .ref o), (1, .int 12)], [], M)) rfl rfl rfl (fun c_1 => ?_) (fun c_1 => ?_)
  · exact absurd (of_decide_eq_true c_1) (by decide)
  refine ps_st (S' := (5, [(0, .ref o), (1, .int 12)], [.int 12], M)) rfl rfl rfl ?_
  refine ps_st (S' := (7, [(0, .ref o), (1, .int 12)], [.int 15, .int 12], M)) rfl rfl rfl ?_
  refine ps_if2 (S1 := (20, [(0, .ref o), (1, .int 12)], [], M)) (S2 := (10, [(0, .ref o), (1, .int 12)], [], M)) rfl rfl rfl (fun c_7 => ?_) (fun c_7 => ?_)
  rotate_left
  · exact absurd (by decide) (of_decide_eq_false c_7)
  refine ps_st (S' := (21, [(0, .ref o), (1, .int 12)], [.ref o], M)) rfl rfl rfl ?_
  refine ps_get (S' := (24, [(0, .ref o), (1, .int 12)], [.ref c], M)) rfl h_o rfl rfl ?_
  refine ps_st (S' := (31, [(0, .ref o), (1, .int 12)], [], M)) rfl rfl rfl ?_
  refine ps_st (S' := (32, [(0, .ref o), (1, .int 12)], [.ref o], M)) rfl rfl rfl ?_
  refine ps_get (S' := (35, [(0, .ref o), (1, .int 12)], [.ref c], M)) rfl h_o rfl rfl ?_
  refine ps_st (S' := (36, [(0, .ref o), (1, .int 12)], [.int 12, .ref c], M)) rfl rfl rfl ?_
  refine pl_call (a := [.ref c, .int 12]) (rest := []) rfl rfl rfl (dk_num12 (f := f) (n := n) (N := N) (q := q) (c := c) (b := b) (da := da) (fr := fr) (mr := mr) (p1 := p1) (l1 := l1) (l2 := l2) (q1 := q1) (q2 := q2) (q3 := q3) (q4 := q4) (q5 := q5) (q6 := q6) (R1 := R1) (R2 := R2) (cc := cc) (u2 := u2) (u3 := u3) (u5 := u5) (x8 := x8) (x9 := x9) (x10 := x10) (x11 := x11) (x12 := x12) (x13 := x13) (x14 := x14) (x15 := x15) (x16 := x16) h_c h_b h_da h_q h_fr h_mr (hn) (hp1)) (fun v1 M2 q3 => ?_)
  obtain ⟨rfl, rfl⟩ := q3
  show pl _ _ _ (39, [], [.int x13], M) _
  exact ps_reti rfl (⟨rfl, rfl⟩)
set_option maxHeartbeats 1000000 in
theorem dk_count_13 {g : xe_G} {M : mi_H} {f : Nat → Int32} {n N q c b da fr mr p1 l1 l2 q1 q2 q3 q4 q5 q6 : Nat} {R1 R2 : Nat → Value} {cc u2 u3 u5 x8 x9 x10 x11 x12 x13 x14 x15 x16 : Int32} {o ca fl : Nat} {cn wp : Int32} (h_o : M.1 o = some (ob 11 [.ref ca, .int cn, .ref fl, .ref c, .int wp])) (h_c : M.1 c = some (ob 3 [.ref b, .ref q, .int u2, .int u3, .int (nI p1), .int u5, .ref fr, .ref mr, .int x8, .int x9, .int x10, .int x11, .int x12, .int x13, .int x14, .int x15, .int x16])) (h_b : M.1 b = some (ob 1 [.ref da])) (h_da : M.1 da = some (ar .byte n f)) (h_q : M.1 q = some (ob 7 [.int (nI N), .ref q1, .ref q2, .ref q3, .ref q4, .ref q5, .ref q6, .int cc])) (h_fr : M.1 fr = some (ro "ClassGate$Member" l1 R1)) (h_mr : M.1 mr = some (ro "ClassGate$Member" l2 R2)) (hn : n ≤ 65540) (hp1 : p1 + 8 ≤ n) : pt (mT g) 5 [.ref o, .int 13] M (fun v M' => (v = some (.int x14) ∧ M = M')) := by
  refine pt_in (b := mb_5 g) rfl (fun kf => ?_)
  show pl (mT g) kf (mb_5 g).2 (0, [(0, .ref o), (1, .int 13)], [], M) _
  refine ps_st (S' := (1, [(0, .ref o), (1, .int 13)], [.int 13], M)) rfl rfl rfl ?_
  refine ps_if (S1 := (10, [(0, .ref o), (1, .int 13)], [], M)) (S2 := (4, [(0, .ref o), (1, .int 13)], [], M)) rfl rfl rfl (fun c_1 => ?_) (fun c_1 => ?_)
  · exact absurd (of_decide_eq_true c_1) (by decide)
  refine ps_st (S' := (5, [(0, .ref o), (1, .int 13)], [.int 13], M)) rfl rfl rfl ?_
  refine ps_st (S' := (7, [(0, .ref o), (1, .int 13)], [.int 15, .int 13], M)) rfl rfl rfl ?_
  refine ps_if2 (S1 := (20, [(0, .ref o), (1, .int 13)], [], M)) (S2 := (10, [(0, .ref o), (1, .int 13)], [], M)) rfl rfl rfl (fun c_7 => ?_) (fun c_7 => ?_)
  rotate_left
  · exact absurd (by decide) (of_decide_eq_false c_7)
  refine ps_st (S' := (21, [(0, .ref o), (1, .int 13)], [.ref o], M)) rfl rfl rfl ?_
  refine ps_get (S' := (24, [(0, .ref o), (1, .int 13)], [.ref c], M)) rfl h_o rfl rfl ?_
  refine ps_st (S' := (31, [(0, .ref o), (1, .int 13)], [], M)) rfl rfl rfl ?_
  refine ps_st (S' := (32, [(0, .ref o), (1, .int 13)], [.ref o], M)) rfl rfl rfl ?_
  refine ps_get (S' := (35, [(0, .ref o), (1, .int 13)], [.ref c], M)) rfl h_o rfl rfl ?_
  refine ps_st (S' := (36, [(0, .ref o), (1, .int 13)], [.int 13, .ref c], M)) rfl rfl rfl ?_
  refine pl_call (a := [.ref c, .int 13]) (rest := []) rfl rfl rfl (dk_num13 (f := f) (n := n) (N := N) (q := q) (c := c) (b := b) (da := da) (fr := fr) (mr := mr) (p1 := p1) (l1 := l1) (l2 := l2) (q1 := q1) (q2 := q2) (q3 := q3) (q4 := q4) (q5 := q5) (q6 := q6) (R1 := R1) (R2 := R2) (cc := cc) (u2 := u2) (u3 := u3) (u5 := u5) (x8 := x8) (x9 := x9) (x10 := x10) (x11 := x11) (x12 := x12) (x13 := x13) (x14 := x14) (x15 := x15) (x16 := x16) h_c h_b h_da h_q h_fr h_mr (hn) (hp1)) (fun v1 M2 q3 => ?_)
  obtain ⟨rfl, rfl⟩ := q3
  show pl _ _ _ (39, [], [.int x14], M) _
  exact ps_reti rfl (⟨rfl, rfl⟩)
set_option maxHeartbeats 1000000 in
theorem dk_count_14 {g : xe_G} {M : mi_H} {f : Nat → Int32} {n N q c b da fr mr p1 l1 l2 q1 q2 q3 q4 q5 q6 : Nat} {R1 R2 : Nat → Value} {cc u2 u3 u5 x8 x9 x10 x11 x12 x13 x14 x15 x16 : Int32} {o ca fl : Nat} {cn wp : Int32} (h_o : M.1 o = some (ob 11 [.ref ca, .int cn, .ref fl, .ref c, .int wp])) (h_c : M.1 c = some (ob 3 [.ref b, .ref q, .int u2, .int u3, .int (nI p1), .int u5, .ref fr, .ref mr, .int x8, .int x9, .int x10, .int x11, .int x12, .int x13, .int x14, .int x15, .int x16])) (h_b : M.1 b = some (ob 1 [.ref da])) (h_da : M.1 da = some (ar .byte n f)) (h_q : M.1 q = some (ob 7 [.int (nI N), .ref q1, .ref q2, .ref q3, .ref q4, .ref q5, .ref q6, .int cc])) (h_fr : M.1 fr = some (ro "ClassGate$Member" l1 R1)) (h_mr : M.1 mr = some (ro "ClassGate$Member" l2 R2)) (hn : n ≤ 65540) (hp1 : p1 + 8 ≤ n) : pt (mT g) 5 [.ref o, .int 14] M (fun v M' => (v = some (.int x15) ∧ M = M')) := by
  refine pt_in (b := mb_5 g) rfl (fun kf => ?_)
  show pl (mT g) kf (mb_5 g).2 (0, [(0, .ref o), (1, .int 14)], [], M) _
  refine ps_st (S' := (1, [(0, .ref o), (1, .int 14)], [.int 14], M)) rfl rfl rfl ?_
  refine ps_if (S1 := (10, [(0, .ref o), (1, .int 14)], [], M)) (S2 := (4, [(0, .ref o), (1, .int 14)], [], M)) rfl rfl rfl (fun c_1 => ?_) (fun c_1 => ?_)
  · exact absurd (of_decide_eq_true c_1) (by decide)
  refine ps_st (S' := (5, [(0, .ref o), (1, .int 14)], [.int 14], M)) rfl rfl rfl ?_
  refine ps_st (S' := (7, [(0, .ref o), (1, .int 14)], [.int 15, .int 14], M)) rfl rfl rfl ?_
  refine ps_if2 (S1 := (20, [(0, .ref o), (1, .int 14)], [], M)) (S2 := (10, [(0, .ref o), (1, .int 14)], [], M)) rfl rfl rfl (fun c_7 => ?_) (fun c_7 => ?_)
  rotate_left
  · exact absurd (by decide) (of_decide_eq_false c_7)
  refine ps_st (S' := (21, [(0, .ref o), (1, .int 14)], [.ref o], M)) rfl rfl rfl ?_
  refine ps_get (S' := (24, [(0, .ref o), (1, .int 14)], [.ref c], M)) rfl h_o rfl rfl ?_
  refine ps_st (S' := (31, [(0, .ref o), (1, .int 14)], [], M)) rfl rfl rfl ?_
  refine ps_st (S' := (32, [(0, .ref o), (1, .int 14)], [.ref o], M)) rfl rfl rfl ?_
  refine ps_get (S' := (35, [(0, .ref o), (1, .int 14)], [.ref c], M)) rfl h_o rfl rfl ?_
  refine ps_st (S' := (36, [(0, .ref o), (1, .int 14)], [.int 14, .ref c], M)) rfl rfl rfl ?_
  refine pl_call (a := [.ref c, .int 14]) (rest := []) rfl rfl rfl (dk_num14 (f := f) (n := n) (N := N) (q := q) (c := c) (b := b) (da := da) (fr := fr) (mr := mr) (p1 := p1) (l1 := l1) (l2 := l2) (q1 := q1) (q2 := q2) (q3 := q3) (q4 := q4) (q5 := q5) (q6 := q6) (R1 := R1) (R2 := R2) (cc := cc) (u2 := u2) (u3 := u3) (u5 := u5) (x8 := x8) (x9 := x9) (x10 := x10) (x11 := x11) (x12 := x12) (x13 := x13) (x14 := x14) (x15 := x15) (x16 := x16) h_c h_b h_da h_q h_fr h_mr (hn) (hp1)) (fun v1 M2 q3 => ?_)
  obtain ⟨rfl, rfl⟩ := q3
  show pl _ _ _ (39, [], [.int x15], M) _
  exact ps_reti rfl (⟨rfl, rfl⟩)
set_option maxHeartbeats 1000000 in
theorem dk_count_15 {g : xe_G} {M : mi_H} {f : Nat → Int32} {n N q c b da fr mr p1 l1 l2 q1 q2 q3 q4 q5 q6 : Nat} {R1 R2 : Nat → Value} {cc u2 u3 u5 x8 x9 x10 x11 x12 x13 x14 x15 x16 : Int32} {o ca fl : Nat} {cn wp : Int32} (h_o : M.1 o = some (ob 11 [.ref ca, .int cn, .ref fl, .ref c, .int wp])) (h_c : M.1 c = some (ob 3 [.ref b, .ref q, .int u2, .int u3, .int (nI p1), .int u5, .ref fr, .ref mr, .int x8, .int x9, .int x10, .int x11, .int x12, .int x13, .int x14, .int x15, .int x16])) (h_b : M.1 b = some (ob 1 [.ref da])) (h_da : M.1 da = some (ar .byte n f)) (h_q : M.1 q = some (ob 7 [.int (nI N), .ref q1, .ref q2, .ref q3, .ref q4, .ref q5, .ref q6, .int cc])) (h_fr : M.1 fr = some (ro "ClassGate$Member" l1 R1)) (h_mr : M.1 mr = some (ro "ClassGate$Member" l2 R2)) (hn : n ≤ 65540) (hp1 : p1 + 8 ≤ n) : pt (mT g) 5 [.ref o, .int 15] M (fun v M' => (v = some (.int x16) ∧ M = M')) := by
  refine pt_in (b := mb_5 g) rfl (fun kf => ?_)
  show pl (mT g) kf (mb_5 g).2 (0, [(0, .ref o), (1, .int 15)], [], M) _
  refine ps_st (S' := (1, [(0, .ref o), (1, .int 15)], [.int 15], M)) rfl rfl rfl ?_
  refine ps_if (S1 := (10, [(0, .ref o), (1, .int 15)], [], M)) (S2 := (4, [(0, .ref o), (1, .int 15)], [], M)) rfl rfl rfl (fun c_1 => ?_) (fun c_1 => ?_)
  · exact absurd (of_decide_eq_true c_1) (by decide)
  refine ps_st (S' := (5, [(0, .ref o), (1, .int 15)], [.int 15], M)) rfl rfl rfl ?_
  refine ps_st (S' := (7, [(0, .ref o), (1, .int 15)], [.int 15, .int 15], M)) rfl rfl rfl ?_
  refine ps_if2 (S1 := (20, [(0, .ref o), (1, .int 15)], [], M)) (S2 := (10, [(0, .ref o), (1, .int 15)], [], M)) rfl rfl rfl (fun c_7 => ?_) (fun c_7 => ?_)
  rotate_left
  · exact absurd (by decide) (of_decide_eq_false c_7)
  refine ps_st (S' := (21, [(0, .ref o), (1, .int 15)], [.ref o], M)) rfl rfl rfl ?_
  refine ps_get (S' := (24, [(0, .ref o), (1, .int 15)], [.ref c], M)) rfl h_o rfl rfl ?_
  refine ps_st (S' := (31, [(0, .ref o), (1, .int 15)], [], M)) rfl rfl rfl ?_
  refine ps_st (S' := (32, [(0, .ref o), (1, .int 15)], [.ref o], M)) rfl rfl rfl ?_
  refine ps_get (S' := (35, [(0, .ref o), (1, .int 15)], [.ref c], M)) rfl h_o rfl rfl ?_
  refine ps_st (S' := (36, [(0, .ref o), (1, .int 15)], [.int 15, .ref c], M)) rfl rfl rfl ?_
  refine pl_call (a := [.ref c, .int 15]) (rest := []) rfl rfl rfl (dk_num15 (f := f) (n := n) (N := N) (q := q) (c := c) (b := b) (da := da) (fr := fr) (mr := mr) (p1 := p1) (l1 := l1) (l2 := l2) (q1 := q1) (q2 := q2) (q3 := q3) (q4 := q4) (q5 := q5) (q6 := q6) (R1 := R1) (R2 := R2) (cc := cc) (u2 := u2) (u3 := u3) (u5 := u5) (x8 := x8) (x9 := x9) (x10 := x10) (x11 := x11) (x12 := x12) (x13 := x13) (x14 := x14) (x15 := x15) (x16 := x16) h_c h_b h_da h_q h_fr h_mr (hn) (hp1)) (fun v1 M2 q3 => ?_)
  obtain ⟨rfl, rfl⟩ := q3
  show pl _ _ _ (39, [], [.int x16], M) _
  exact ps_reti rfl (⟨rfl, rfl⟩)
theorem dk_count {g : xe_G} {M : mi_H} {ko : Option (Nat × (Nat → Int32))} {kv : Value} {cm o fl : Nat} {cn wp w : Int32} (hx : M.1 o = some (ob 11 [.ref cm, .int cn, .ref fl, kv, .int wp])) (hK : KPC g ko kv cm M) (h0 : ¬ w < 0) (h1 : w ≤ 15) : pt (mT g) 5 [.ref o, .int w] M (fun v M' => v = some (.int (cnK ko w)) ∧ M = M') := by
  cases ko with
  | none =>
    have e : kv = .null := hK
    subst e
    exact dk_count0 hx h0 h1
  | some r =>
    obtain ⟨c, da, rfl, ⟨b, q, N, E, p1, pF, pM, pA, w', k1, k2, k3, k4, k5, rfl, -, k7, fr, mr, G1, G2, _, _, bc, K, rfl, m1, m2, m3, m4, m5, m6, m7, m8, -⟩, -, -⟩ := hK
    rw [cnK_is k5 m7 m8]
    have hcl := s_class_in m3
    obtain ⟨ew, hw⟩ := i32_16 h0 h1
    obtain ⟨j, ej⟩ : ∃ j, j = w.toNatClampNeg := ⟨_, rfl⟩
    rw [← ej] at ew hw ⊢
    subst ew
    obtain ⟨R1, r1, -⟩ := m1.2.1
    obtain ⟨R2, r2, -⟩ := m2.2.1
    obtain ⟨hL9, H, m, qq, F, cc, hP9, hT9, -, hb9, hVF, -⟩ := id k4
    have hq := hP9.1
    rw [hb9.2.2.2] at hq
    have hp1 : p1 + 8 ≤ r.1 := by omega
    rcases (show j = 0 ∨ j = 1 ∨ j = 2 ∨ j = 3 ∨ j = 4 ∨ j = 5 ∨ j = 6 ∨ j = 7 ∨ j = 8 ∨ j = 9 ∨ j = 10 ∨ j = 11 ∨ j = 12 ∨ j = 13 ∨ j = 14 ∨ j = 15 by omega) with rfl | rfl | rfl | rfl | rfl | rfl | rfl | rfl | rfl | rfl | rfl | rfl | rfl | rfl | rfl | rfl
    · exact dk_count_0 hx k1 k2 k3 hq r1 r2 k7 hp1
    · exact dk_count_1 hx k1 k2 k3 hq r1 r2 k7 hp1
    · exact dk_count_2 hx k1 k2 k3 hq r1 r2 k7 hp1
    · exact dk_count_3 hx k1 k2 k3 hq r1 r2 k7 hp1
    · exact dk_count_4 hx k1 k2 k3 hq r1 r2 k7 hp1
    · exact dk_count_5 hx k1 k2 k3 hq r1 r2 k7 hp1
    · exact dk_count_6 hx k1 k2 k3 hq r1 r2 k7 hp1
    · exact dk_count_7 hx k1 k2 k3 hq r1 r2 k7 hp1
    · exact dk_count_8 hx k1 k2 k3 hq r1 r2 k7 hp1
    · exact dk_count_9 hx k1 k2 k3 hq r1 r2 k7 hp1
    · exact dk_count_10 hx k1 k2 k3 hq r1 r2 k7 hp1
    · exact dk_count_11 hx k1 k2 k3 hq r1 r2 k7 hp1
    · exact dk_count_12 hx k1 k2 k3 hq r1 r2 k7 hp1
    · exact dk_count_13 hx k1 k2 k3 hq r1 r2 k7 hp1
    · exact dk_count_14 hx k1 k2 k3 hq r1 r2 k7 hp1
    · exact dk_count_15 hx k1 k2 k3 hq r1 r2 k7 hp1
end
section
set_option maxHeartbeats 1000000 in
theorem rd_countB {g : xe_G} {m0 : Nat} {q : Nat → Nat} {z : Nat × Nat} {I : rI} {R : rR} {M : mi_H} {w : Int32} (hR : RS g m0 q z I R M)   (hbad : w < 0 ∨ ¬ w ≤ 15) : pt (mT g) 198 [.ref m0, .int w] M (fun v M' => (∃  (I' : rI) (R' : rR), v = some (.int 0) ∧ RS g m0 q z I' R' M' ∧ eqI [0] I I' ∧ eqR [] R R' ∧ I' 0 = some 1)) := by
  refine pt_in (b := mb_198 g) rfl (fun kf => ?_)
  show pl (mT g) kf (mb_198 g).2 (0, [(0, .ref m0), (1, .int w)], [], M) _
  have hEI : eqI [0] I I := eqI.rf
  have hER : eqR [] R R := eqR.rf
  refine ps_st (S' := (1, [(0, .ref m0), (1, .int w)], [.ref m0], M)) rfl rfl rfl ?_
  refine ps_st (S' := (2, [(0, .ref m0), (1, .int w)], [.int 0, .ref m0], M)) rfl rfl rfl ?_
  refine pr_put (j := 0) rfl hR rfl (fun M1 I2 hR3 hi4 hI5 => ?_)
  have hEI6 := hEI.put hI5 (by decide)
  show pl _ _ _ (5, [(0, .ref m0), (1, .int w)], [], M1) _
  refine ps_st (S' := (6, [(0, .ref m0), (1, .int w)], [.int w], M1)) rfl rfl rfl ?_
  refine ps_if (S1 := (15, [(0, .ref m0)], [], M1)) (S2 := (9, [(0, .ref m0), (1, .int w)], [], M1)) rfl rfl rfl (fun c_6 => ?_) (fun c_6 => ?_)
  · have c_6 : w < 0 := of_decide_eq_true c_6
    refine ps_st (S' := (16, [(0, .ref m0)], [.ref m0], M1)) rfl rfl rfl ?_
    refine pl_call (a := [.ref m0]) (rest := []) rfl rfl rfl (rd_bad hR3) (fun v7 M8 q9 => ?_)
    obtain ⟨I10, R11, rfl, hR12, hI13, hX14, hi15⟩ := q9
    have hEI16 := hEI6.tr hI13 (by decide)
    have hER17 := hER.tr hX14 (by decide)
    show pl _ _ _ (19, [(0, .ref m0)], [.int 0], M8) _
    exact ps_ret rfl rfl (⟨I10, R11, rfl, hR12, hEI16, hER17, hi15⟩)
  · have c_6 : ¬ (w < 0) := of_decide_eq_false c_6
    refine ps_st (S' := (10, [(0, .ref m0), (1, .int w)], [.int w], M1)) rfl rfl rfl ?_
    refine ps_st (S' := (12, [(0, .ref m0), (1, .int w)], [.int 15, .int w], M1)) rfl rfl rfl ?_
    refine ps_if2 (S1 := (20, [(0, .ref m0), (1, .int w)], [], M1)) (S2 := (15, [(0, .ref m0)], [], M1)) rfl rfl rfl (fun c_12 => ?_) (fun c_12 => ?_)
    · have c_12 : w ≤ 15 := of_decide_eq_true c_12
      exact absurd hbad (fun h9 => h9.elim c_6 (fun h8 => h8 c_12))
    · have c_12 : ¬ (w ≤ 15) := of_decide_eq_false c_12
      refine ps_st (S' := (16, [(0, .ref m0)], [.ref m0], M1)) rfl rfl rfl ?_
      refine pl_call (a := [.ref m0]) (rest := []) rfl rfl rfl (rd_bad hR3) (fun v18 M19 q20 => ?_)
      obtain ⟨I21, R22, rfl, hR23, hI24, hX25, hi26⟩ := q20
      have hEI27 := hEI6.tr hI24 (by decide)
      have hER28 := hER.tr hX25 (by decide)
      show pl _ _ _ (19, [(0, .ref m0)], [.int 0], M19) _
      exact ps_ret rfl rfl (⟨I21, R22, rfl, hR23, hEI27, hER28, hi26⟩)
set_option maxHeartbeats 1000000 in
theorem rd_count0 {g : xe_G} {m0 : Nat} {q : Nat → Nat} {z : Nat × Nat} {I : rI} {R : rR} {M : mi_H} {kn w : Int32} (hR : RS g m0 q z I R M) (hi18 : I 18 = some kn)  (h0 : ¬ w < 0) (h1 : w ≤ 15) (hk : kn < 0) : pt (mT g) 198 [.ref m0, .int w] M (fun v M' => (∃  (I' : rI) (R' : rR), v = some (.int (-1)) ∧ RS g m0 q z I' R' M' ∧ eqI [0] I I' ∧ eqR [] R R' ∧ I' 0 = some 0)) := by
  refine pt_in (b := mb_198 g) rfl (fun kf => ?_)
  show pl (mT g) kf (mb_198 g).2 (0, [(0, .ref m0), (1, .int w)], [], M) _
  have hEI : eqI [0] I I := eqI.rf
  have hER : eqR [] R R := eqR.rf
  refine ps_st (S' := (1, [(0, .ref m0), (1, .int w)], [.ref m0], M)) rfl rfl rfl ?_
  refine ps_st (S' := (2, [(0, .ref m0), (1, .int w)], [.int 0, .ref m0], M)) rfl rfl rfl ?_
  refine pr_put (j := 0) rfl hR rfl (fun M1 I2 hR3 hi4 hI5 => ?_)
  have hi6 := (hI5 18 (by decide)).trans hi18
  have hEI7 := hEI.put hI5 (by decide)
  show pl _ _ _ (5, [(0, .ref m0), (1, .int w)], [], M1) _
  refine ps_st (S' := (6, [(0, .ref m0), (1, .int w)], [.int w], M1)) rfl rfl rfl ?_
  refine ps_if (S1 := (15, [(0, .ref m0)], [], M1)) (S2 := (9, [(0, .ref m0), (1, .int w)], [], M1)) rfl rfl rfl (fun c_6 => ?_) (fun c_6 => ?_)
  · exact absurd (of_decide_eq_true c_6) (h0)
  refine ps_st (S' := (10, [(0, .ref m0), (1, .int w)], [.int w], M1)) rfl rfl rfl ?_
  refine ps_st (S' := (12, [(0, .ref m0), (1, .int w)], [.int 15, .int w], M1)) rfl rfl rfl ?_
  refine ps_if2 (S1 := (20, [(0, .ref m0), (1, .int w)], [], M1)) (S2 := (15, [(0, .ref m0)], [], M1)) rfl rfl rfl (fun c_12 => ?_) (fun c_12 => ?_)
  rotate_left
  · exact absurd (h1) (of_decide_eq_false c_12)
  refine ps_st (S' := (21, [(0, .ref m0), (1, .int w)], [.ref m0], M1)) rfl rfl rfl ?_
  refine pr_int (j := 18) (S' := (24, [(0, .ref m0), (1, .int w)], [.int kn], M1)) rfl hR3 rfl hi6 rfl ?_
  refine ps_if (S1 := (29, [(0, .ref m0), (1, .int w)], [], M1)) (S2 := (27, [(0, .ref m0), (1, .int w)], [], M1)) rfl rfl rfl (fun c_24 => ?_) (fun c_24 => ?_)
  · exact absurd (of_decide_eq_true c_24) (Int32.not_le.mpr hk)
  refine ps_st (S' := (28, [(0, .ref m0), (1, .int w)], [.int (-1)], M1)) rfl rfl rfl ?_
  exact ps_ret rfl rfl (⟨I2, R, rfl, hR3, hEI7, hER, hi4⟩)
set_option maxHeartbeats 1000000 in
theorem rd_count_0 {g : xe_G} {m0 : Nat} {q : Nat → Nat} {z : Nat × Nat} {I : rI} {R : rR} {M : mi_H} {n2 : Nat} {N : Nat} (hR : RS g m0 q z I R M) (hi18 : I 18 = some (nI n2)) (hi52 : I 52 = some (nI N))  (hn2 : n2 ≤ 65540) : pt (mT g) 198 [.ref m0, .int 0] M (fun v M' => (∃  (I' : rI) (R' : rR), v = some (.int (nI N)) ∧ RS g m0 q z I' R' M' ∧ eqI [0] I I' ∧ eqR [] R R' ∧ I' 0 = some 0)) := by
  refine pt_in (b := mb_198 g) rfl (fun kf => ?_)
  show pl (mT g) kf (mb_198 g).2 (0, [(0, .ref m0), (1, .int 0)], [], M) _
  have hEI : eqI [0] I I := eqI.rf
  have hER : eqR [] R R := eqR.rf
  refine ps_st (S' := (1, [(0, .ref m0), (1, .int 0)], [.ref m0], M)) rfl rfl rfl ?_
  refine ps_st (S' := (2, [(0, .ref m0), (1, .int 0)], [.int 0, .ref m0], M)) rfl rfl rfl ?_
  refine pr_put (j := 0) rfl hR rfl (fun M1 I2 hR3 hi4 hI5 => ?_)
  have hi6 := (hI5 18 (by decide)).trans hi18
  have hi7 := (hI5 52 (by decide)).trans hi52
  have hEI8 := hEI.put hI5 (by decide)
  show pl _ _ _ (5, [(0, .ref m0), (1, .int 0)], [], M1) _
  refine ps_st (S' := (6, [(0, .ref m0), (1, .int 0)], [.int 0], M1)) rfl rfl rfl ?_
  refine ps_if (S1 := (15, [(0, .ref m0)], [], M1)) (S2 := (9, [(0, .ref m0), (1, .int 0)], [], M1)) rfl rfl rfl (fun c_6 => ?_) (fun c_6 => ?_)
  · exact absurd (of_decide_eq_true c_6) (by decide)
  refine ps_st (S' := (10, [(0, .ref m0), (1, .int 0)], [.int 0], M1)) rfl rfl rfl ?_
  refine ps_st (S' := (12, [(0, .ref m0), (1, .int 0)], [.int 15, .int 0], M1)) rfl rfl rfl ?_
  refine ps_if2 (S1 := (20, [(0, .ref m0), (1, .int 0)], [], M1)) (S2 := (15, [(0, .ref m0)], [], M1)) rfl rfl rfl (fun c_12 => ?_) (fun c_12 => ?_)
  rotate_left
  · exact absurd (by decide) (of_decide_eq_false c_12)
  refine ps_st (S' := (21, [(0, .ref m0), (1, .int 0)], [.ref m0], M1)) rfl rfl rfl ?_
  refine pr_int (j := 18) (S' := (24, [(0, .ref m0), (1, .int 0)], [.int (nI n2)], M1)) rfl hR3 rfl hi6 rfl ?_
  refine ps_if (S1 := (29, [(0, .ref m0), (1, .int 0)], [], M1)) (S2 := (27, [(0, .ref m0), (1, .int 0)], [], M1)) rfl rfl rfl (fun c_24 => ?_) (fun c_24 => ?_)
  rotate_left
  · exact absurd ((le_nI (p := 0) (n := n2) (by decide) (by omega)).mpr (by omega)) (of_decide_eq_false c_24)
  refine ps_st (S' := (30, [(0, .ref m0), (1, .int 0)], [.int 0], M1)) rfl rfl rfl ?_
  refine ps_st (S' := (104, [(0, .ref m0), (1, .int 0)], [], M1)) rfl rfl rfl ?_
  refine ps_st (S' := (105, [(0, .ref m0), (1, .int 0)], [.ref m0], M1)) rfl rfl rfl ?_
  refine pr_int (j := 52) (S' := (108, [(0, .ref m0), (1, .int 0)], [.int (nI N)], M1)) rfl hR3 rfl hi7 rfl ?_
  exact ps_reti rfl (⟨I2, R, rfl, hR3, hEI8, hER, hi4⟩)
set_option maxHeartbeats 1000000 in
theorem rd_count_1 {g : xe_G} {m0 : Nat} {q : Nat → Nat} {z : Nat × Nat} {I : rI} {R : rR} {M : mi_H} {n2 : Nat} {l1 : Nat} (hR : RS g m0 q z I R M) (hi18 : I 18 = some (nI n2)) (hi25 : I 25 = some (nI l1))  (hn2 : n2 ≤ 65540) : pt (mT g) 198 [.ref m0, .int 1] M (fun v M' => (∃  (I' : rI) (R' : rR), v = some (.int (nI l1)) ∧ RS g m0 q z I' R' M' ∧ eqI [0] I I' ∧ eqR [] R R' ∧ I' 0 = some 0)) := by
  refine pt_in (b := mb_198 g) rfl (fun kf => ?_)
  show pl (mT g) kf (mb_198 g).2 (0, [(0, .ref m0), (1, .int 1)], [], M) _
  have hEI : eqI [0] I I := eqI.rf
  have hER : eqR [] R R := eqR.rf
  refine ps_st (S' := (1, [(0, .ref m0), (1, .int 1)], [.ref m0], M)) rfl rfl rfl ?_
  refine ps_st (S' := (2, [(0, .ref m0), (1, .int 1)], [.int 0, .ref m0], M)) rfl rfl rfl ?_
  refine pr_put (j := 0) rfl hR rfl (fun M1 I2 hR3 hi4 hI5 => ?_)
  have hi6 := (hI5 18 (by decide)).trans hi18
  have hi7 := (hI5 25 (by decide)).trans hi25
  have hEI8 := hEI.put hI5 (by decide)
  show pl _ _ _ (5, [(0, .ref m0), (1, .int 1)], [], M1) _
  refine ps_st (S' := (6, [(0, .ref m0), (1, .int 1)], [.int 1], M1)) rfl rfl rfl ?_
  refine ps_if (S1 := (15, [(0, .ref m0)], [], M1)) (S2 := (9, [(0, .ref m0), (1, .int 1)], [], M1)) rfl rfl rfl (fun c_6 => ?_) (fun c_6 => ?_)
  · exact absurd (of_decide_eq_true c_6) (by decide)
  refine ps_st (S' := (10, [(0, .ref m0), (1, .int 1)], [.int 1], M1)) rfl rfl rfl ?_
  refine ps_st (S' := (12, [(0, .ref m0), (1, .int 1)], [.int 15, .int 1], M1)) rfl rfl rfl ?_
  refine ps_if2 (S1 := (20, [(0, .ref m0), (1, .int 1)], [], M1)) (S2 := (15, [(0, .ref m0)], [], M1)) rfl rfl rfl (fun c_12 => ?_) (fun c_12 => ?_)
  rotate_left
  · exact absurd (by decide) (of_decide_eq_false c_12)
  refine ps_st (S' := (21, [(0, .ref m0), (1, .int 1)], [.ref m0], M1)) rfl rfl rfl ?_
  refine pr_int (j := 18) (S' := (24, [(0, .ref m0), (1, .int 1)], [.int (nI n2)], M1)) rfl hR3 rfl hi6 rfl ?_
  refine ps_if (S1 := (29, [(0, .ref m0), (1, .int 1)], [], M1)) (S2 := (27, [(0, .ref m0), (1, .int 1)], [], M1)) rfl rfl rfl (fun c_24 => ?_) (fun c_24 => ?_)
  rotate_left
  · exact absurd ((le_nI (p := 0) (n := n2) (by decide) (by omega)).mpr (by omega)) (of_decide_eq_false c_24)
  refine ps_st (S' := (30, [(0, .ref m0), (1, .int 1)], [.int 1], M1)) rfl rfl rfl ?_
  refine ps_st (S' := (109, [(0, .ref m0), (1, .int 1)], [], M1)) rfl rfl rfl ?_
  refine ps_st (S' := (110, [(0, .ref m0), (1, .int 1)], [.ref m0], M1)) rfl rfl rfl ?_
  refine pr_int (j := 25) (S' := (113, [(0, .ref m0), (1, .int 1)], [.int (nI l1)], M1)) rfl hR3 rfl hi7 rfl ?_
  exact ps_reti rfl (⟨I2, R, rfl, hR3, hEI8, hER, hi4⟩)
set_option maxHeartbeats 1000000 in
theorem rd_count_2 {g : xe_G} {m0 : Nat} {q : Nat → Nat} {z : Nat × Nat} {I : rI} {R : rR} {M : mi_H} {n2 : Nat} {l2 : Nat} (hR : RS g m0 q z I R M) (hi18 : I 18 = some (nI n2)) (hi26 : I 26 = some (nI l2))  (hn2 : n2 ≤ 65540) : pt (mT g) 198 [.ref m0, .int 2] M (fun v M' => (∃  (I' : rI) (R' : rR), v = some (.int (nI l2)) ∧ RS g m0 q z I' R' M' ∧ eqI [0] I I' ∧ eqR [] R R' ∧ I' 0 = some 0)) := by
  refine pt_in (b := mb_198 g) rfl (fun kf => ?_)
  show pl (mT g) kf (mb_198 g).2 (0, [(0, .ref m0), (1, .int 2)], [], M) _
  have hEI : eqI [0] I I := eqI.rf
  have hER : eqR [] R R := eqR.rf
  refine ps_st (S' := (1, [(0, .ref m0), (1, .int 2)], [.ref m0], M)) rfl rfl rfl ?_
  refine ps_st (S' := (2, [(0, .ref m0), (1, .int 2)], [.int 0, .ref m0], M)) rfl rfl rfl ?_
  refine pr_put (j := 0) rfl hR rfl (fun M1 I2 hR3 hi4 hI5 => ?_)
  have hi6 := (hI5 18 (by decide)).trans hi18
  have hi7 := (hI5 26 (by decide)).trans hi26
  have hEI8 := hEI.put hI5 (by decide)
  show pl _ _ _ (5, [(0, .ref m0), (1, .int 2)], [], M1) _
  refine ps_st (S' := (6, [(0, .ref m0), (1, .int 2)], [.int 2], M1)) rfl rfl rfl ?_
  refine ps_if (S1 := (15, [(0, .ref m0)], [], M1)) (S2 := (9, [(0, .ref m0), (1, .int 2)], [], M1)) rfl rfl rfl (fun c_6 => ?_) (fun c_6 => ?_)
  · exact absurd (of_decide_eq_true c_6) (by decide)
  refine ps_st (S' := (10, [(0, .ref m0), (1, .int 2)], [.int 2], M1)) rfl rfl rfl ?_
  refine ps_st (S' := (12, [(0, .ref m0), (1, .int 2)], [.int 15, .int 2], M1)) rfl rfl rfl ?_
  refine ps_if2 (S1 := (20, [(0, .ref m0), (1, .int 2)], [], M1)) (S2 := (15, [(0, .ref m0)], [], M1)) rfl rfl rfl (fun c_12 => ?_) (fun c_12 => ?_)
  rotate_left
  · exact absurd (by decide) (of_decide_eq_false c_12)
  refine ps_st (S' := (21, [(0, .ref m0), (1, .int 2)], [.ref m0], M1)) rfl rfl rfl ?_
  refine pr_int (j := 18) (S' := (24, [(0, .ref m0), (1, .int 2)], [.int (nI n2)], M1)) rfl hR3 rfl hi6 rfl ?_
  refine ps_if (S1 := (29, [(0, .ref m0), (1, .int 2)], [], M1)) (S2 := (27, [(0, .ref m0), (1, .int 2)], [], M1)) rfl rfl rfl (fun c_24 => ?_) (fun c_24 => ?_)
  rotate_left
  · exact absurd ((le_nI (p := 0) (n := n2) (by decide) (by omega)).mpr (by omega)) (of_decide_eq_false c_24)
  refine ps_st (S' := (30, [(0, .ref m0), (1, .int 2)], [.int 2], M1)) rfl rfl rfl ?_
  refine ps_st (S' := (114, [(0, .ref m0), (1, .int 2)], [], M1)) rfl rfl rfl ?_
  refine ps_st (S' := (115, [(0, .ref m0), (1, .int 2)], [.ref m0], M1)) rfl rfl rfl ?_
  refine pr_int (j := 26) (S' := (118, [(0, .ref m0), (1, .int 2)], [.int (nI l2)], M1)) rfl hR3 rfl hi7 rfl ?_
  exact ps_reti rfl (⟨I2, R, rfl, hR3, hEI8, hER, hi4⟩)
set_option maxHeartbeats 1000000 in
theorem rd_count_3 {g : xe_G} {m0 : Nat} {q : Nat → Nat} {z : Nat × Nat} {I : rI} {R : rR} {M : mi_H} {n2 : Nat} {vv : Int32} (hR : RS g m0 q z I R M) (hi18 : I 18 = some (nI n2)) (hi61 : I 61 = some vv)  (hn2 : n2 ≤ 65540) : pt (mT g) 198 [.ref m0, .int 3] M (fun v M' => (∃  (I' : rI) (R' : rR), v = some (.int vv) ∧ RS g m0 q z I' R' M' ∧ eqI [0] I I' ∧ eqR [] R R' ∧ I' 0 = some 0)) := by
  refine pt_in (b := mb_198 g) rfl (fun kf => ?_)
  show pl (mT g) kf (mb_198 g).2 (0, [(0, .ref m0), (1, .int 3)], [], M) _
  have hEI : eqI [0] I I := eqI.rf
  have hER : eqR [] R R := eqR.rf
  refine ps_st (S' := (1, [(0, .ref m0), (1, .int 3)], [.ref m0], M)) rfl rfl rfl ?_
  refine ps_st (S' := (2, [(0, .ref m0), (1, .int 3)], [.int 0, .ref m0], M)) rfl rfl rfl ?_
  refine pr_put (j := 0) rfl hR rfl (fun M1 I2 hR3 hi4 hI5 => ?_)
  have hi6 := (hI5 18 (by decide)).trans hi18
  have hi7 := (hI5 61 (by decide)).trans hi61
  have hEI8 := hEI.put hI5 (by decide)
  show pl _ _ _ (5, [(0, .ref m0), (1, .int 3)], [], M1) _
  refine ps_st (S' := (6, [(0, .ref m0), (1, .int 3)], [.int 3], M1)) rfl rfl rfl ?_
  refine ps_if (S1 := (15, [(0, .ref m0)], [], M1)) (S2 := (9, [(0, .ref m0), (1, .int 3)], [], M1)) rfl rfl rfl (fun c_6 => ?_) (fun c_6 => ?_)
  · exact absurd (of_decide_eq_true c_6) (by decide)
  refine ps_st (S' := (10, [(0, .ref m0), (1, .int 3)], [.int 3], M1)) rfl rfl rfl ?_
  refine ps_st (S' := (12, [(0, .ref m0), (1, .int 3)], [.int 15, .int 3], M1)) rfl rfl rfl ?_
  refine ps_if2 (S1 := (20, [(0, .ref m0), (1, .int 3)], [], M1)) (S2 := (15, [(0, .ref m0)], [], M1)) rfl rfl rfl (fun c_12 => ?_) (fun c_12 => ?_)
  rotate_left
  · exact absurd (by decide) (of_decide_eq_false c_12)
  refine ps_st (S' := (21, [(0, .ref m0), (1, .int 3)], [.ref m0], M1)) rfl rfl rfl ?_
  refine pr_int (j := 18) (S' := (24, [(0, .ref m0), (1, .int 3)], [.int (nI n2)], M1)) rfl hR3 rfl hi6 rfl ?_
  refine ps_if (S1 := (29, [(0, .ref m0), (1, .int 3)], [], M1)) (S2 := (27, [(0, .ref m0), (1, .int 3)], [], M1)) rfl rfl rfl (fun c_24 => ?_) (fun c_24 => ?_)
  rotate_left
  · exact absurd ((le_nI (p := 0) (n := n2) (by decide) (by omega)).mpr (by omega)) (of_decide_eq_false c_24)
  refine ps_st (S' := (30, [(0, .ref m0), (1, .int 3)], [.int 3], M1)) rfl rfl rfl ?_
  refine ps_st (S' := (119, [(0, .ref m0), (1, .int 3)], [], M1)) rfl rfl rfl ?_
  refine ps_st (S' := (120, [(0, .ref m0), (1, .int 3)], [.ref m0], M1)) rfl rfl rfl ?_
  refine pr_int (j := 61) (S' := (123, [(0, .ref m0), (1, .int 3)], [.int vv], M1)) rfl hR3 rfl hi7 rfl ?_
  exact ps_reti rfl (⟨I2, R, rfl, hR3, hEI8, hER, hi4⟩)
set_option maxHeartbeats 1000000 in
theorem rd_count_4 {g : xe_G} {m0 : Nat} {q : Nat → Nat} {z : Nat × Nat} {I : rI} {R : rR} {M : mi_H} {n2 : Nat} {vv : Int32} (hR : RS g m0 q z I R M) (hi18 : I 18 = some (nI n2)) (hi71 : I 71 = some vv)  (hn2 : n2 ≤ 65540) : pt (mT g) 198 [.ref m0, .int 4] M (fun v M' => (∃  (I' : rI) (R' : rR), v = some (.int vv) ∧ RS g m0 q z I' R' M' ∧ eqI [0] I I' ∧ eqR [] R R' ∧ I' 0 = some 0)) := by
  refine pt_in (b := mb_198 g) rfl (fun kf => ?_)
  show pl (mT g) kf (mb_198 g).2 (0, [(0, .ref m0), (1, .int 4)], [], M) _
  have hEI : eqI [0] I I := eqI.rf
  have hER : eqR [] R R := eqR.rf
  refine ps_st (S' := (1, [(0, .ref m0), (1, .int 4)], [.ref m0], M)) rfl rfl rfl ?_
  refine ps_st (S' := (2, [(0, .ref m0), (1, .int 4)], [.int 0, .ref m0], M)) rfl rfl rfl ?_
  refine pr_put (j := 0) rfl hR rfl (fun M1 I2 hR3 hi4 hI5 => ?_)
  have hi6 := (hI5 18 (by decide)).trans hi18
  have hi7 := (hI5 71 (by decide)).trans hi71
  have hEI8 := hEI.put hI5 (by decide)
  show pl _ _ _ (5, [(0, .ref m0), (1, .int 4)], [], M1) _
  refine ps_st (S' := (6, [(0, .ref m0), (1, .int 4)], [.int 4], M1)) rfl rfl rfl ?_
  refine ps_if (S1 := (15, [(0, .ref m0)], [], M1)) (S2 := (9, [(0, .ref m0), (1, .int 4)], [], M1)) rfl rfl rfl (fun c_6 => ?_) (fun c_6 => ?_)
  · exact absurd (of_decide_eq_true c_6) (by decide)
  refine ps_st (S' := (10, [(0, .ref m0), (1, .int 4)], [.int 4], M1)) rfl rfl rfl ?_
  refine ps_st (S' := (12, [(0, .ref m0), (1, .int 4)], [.int 15, .int 4], M1)) rfl rfl rfl ?_
  refine ps_if2 (S1 := (20, [(0, .ref m0), (1, .int 4)], [], M1)) (S2 := (15, [(0, .ref m0)], [], M1)) rfl rfl rfl (fun c_12 => ?_) (fun c_12 => ?_)
  rotate_left
  · exact absurd (by decide) (of_decide_eq_false c_12)
  refine ps_st (S' := (21, [(0, .ref m0), (1, .int 4)], [.ref m0], M1)) rfl rfl rfl ?_
  refine pr_int (j := 18) (S' := (24, [(0, .ref m0), (1, .int 4)], [.int (nI n2)], M1)) rfl hR3 rfl hi6 rfl ?_
  refine ps_if (S1 := (29, [(0, .ref m0), (1, .int 4)], [], M1)) (S2 := (27, [(0, .ref m0), (1, .int 4)], [], M1)) rfl rfl rfl (fun c_24 => ?_) (fun c_24 => ?_)
  rotate_left
  · exact absurd ((le_nI (p := 0) (n := n2) (by decide) (by omega)).mpr (by omega)) (of_decide_eq_false c_24)
  refine ps_st (S' := (30, [(0, .ref m0), (1, .int 4)], [.int 4], M1)) rfl rfl rfl ?_
  refine ps_st (S' := (124, [(0, .ref m0), (1, .int 4)], [], M1)) rfl rfl rfl ?_
  refine ps_st (S' := (125, [(0, .ref m0), (1, .int 4)], [.ref m0], M1)) rfl rfl rfl ?_
  refine pr_int (j := 71) (S' := (128, [(0, .ref m0), (1, .int 4)], [.int vv], M1)) rfl hR3 rfl hi7 rfl ?_
  exact ps_reti rfl (⟨I2, R, rfl, hR3, hEI8, hER, hi4⟩)
set_option maxHeartbeats 1000000 in
theorem rd_count_5 {g : xe_G} {m0 : Nat} {q : Nat → Nat} {z : Nat × Nat} {I : rI} {R : rR} {M : mi_H} {n2 : Nat} {vv : Int32} (hR : RS g m0 q z I R M) (hi18 : I 18 = some (nI n2)) (hi66 : I 66 = some vv)  (hn2 : n2 ≤ 65540) : pt (mT g) 198 [.ref m0, .int 5] M (fun v M' => (∃  (I' : rI) (R' : rR), v = some (.int vv) ∧ RS g m0 q z I' R' M' ∧ eqI [0] I I' ∧ eqR [] R R' ∧ I' 0 = some 0)) := by
  refine pt_in (b := mb_198 g) rfl (fun kf => ?_)
  show pl (mT g) kf (mb_198 g).2 (0, [(0, .ref m0), (1, .int 5)], [], M) _
  have hEI : eqI [0] I I := eqI.rf
  have hER : eqR [] R R := eqR.rf
  refine ps_st (S' := (1, [(0, .ref m0), (1, .int 5)], [.ref m0], M)) rfl rfl rfl ?_
  refine ps_st (S' := (2, [(0, .ref m0), (1, .int 5)], [.int 0, .ref m0], M)) rfl rfl rfl ?_
  refine pr_put (j := 0) rfl hR rfl (fun M1 I2 hR3 hi4 hI5 => ?_)
  have hi6 := (hI5 18 (by decide)).trans hi18
  have hi7 := (hI5 66 (by decide)).trans hi66
  have hEI8 := hEI.put hI5 (by decide)
  show pl _ _ _ (5, [(0, .ref m0), (1, .int 5)], [], M1) _
  refine ps_st (S' := (6, [(0, .ref m0), (1, .int 5)], [.int 5], M1)) rfl rfl rfl ?_
  refine ps_if (S1 := (15, [(0, .ref m0)], [], M1)) (S2 := (9, [(0, .ref m0), (1, .int 5)], [], M1)) rfl rfl rfl (fun c_6 => ?_) (fun c_6 => ?_)
  · exact absurd (of_decide_eq_true c_6) (by decide)
  refine ps_st (S' := (10, [(0, .ref m0), (1, .int 5)], [.int 5], M1)) rfl rfl rfl ?_
  refine ps_st (S' := (12, [(0, .ref m0), (1, .int 5)], [.int 15, .int 5], M1)) rfl rfl rfl ?_
  refine ps_if2 (S1 := (20, [(0, .ref m0), (1, .int 5)], [], M1)) (S2 := (15, [(0, .ref m0)], [], M1)) rfl rfl rfl (fun c_12 => ?_) (fun c_12 => ?_)
  rotate_left
  · exact absurd (by decide) (of_decide_eq_false c_12)
  refine ps_st (S' := (21, [(0, .ref m0), (1, .int 5)], [.ref m0], M1)) rfl rfl rfl ?_
  refine pr_int (j := 18) (S' := (24, [(0, .ref m0), (1, .int 5)], [.int (nI n2)], M1)) rfl hR3 rfl hi6 rfl ?_
  refine ps_if (S1 := (29, [(0, .ref m0), (1, .int 5)], [], M1)) (S2 := (27, [(0, .ref m0), (1, .int 5)], [], M1)) rfl rfl rfl (fun c_24 => ?_) (fun c_24 => ?_)
  rotate_left
  · exact absurd ((le_nI (p := 0) (n := n2) (by decide) (by omega)).mpr (by omega)) (of_decide_eq_false c_24)
  refine ps_st (S' := (30, [(0, .ref m0), (1, .int 5)], [.int 5], M1)) rfl rfl rfl ?_
  refine ps_st (S' := (129, [(0, .ref m0), (1, .int 5)], [], M1)) rfl rfl rfl ?_
  refine ps_st (S' := (130, [(0, .ref m0), (1, .int 5)], [.ref m0], M1)) rfl rfl rfl ?_
  refine pr_int (j := 66) (S' := (133, [(0, .ref m0), (1, .int 5)], [.int vv], M1)) rfl hR3 rfl hi7 rfl ?_
  exact ps_reti rfl (⟨I2, R, rfl, hR3, hEI8, hER, hi4⟩)
set_option maxHeartbeats 1000000 in
theorem rd_count_6 {g : xe_G} {m0 : Nat} {q : Nat → Nat} {z : Nat × Nat} {I : rI} {R : rR} {M : mi_H} {n2 : Nat} {vv : Int32} (hR : RS g m0 q z I R M) (hi18 : I 18 = some (nI n2)) (hi58 : I 58 = some vv)  (hn2 : n2 ≤ 65540) : pt (mT g) 198 [.ref m0, .int 6] M (fun v M' => (∃  (I' : rI) (R' : rR), v = some (.int vv) ∧ RS g m0 q z I' R' M' ∧ eqI [0] I I' ∧ eqR [] R R' ∧ I' 0 = some 0)) := by
  refine pt_in (b := mb_198 g) rfl (fun kf => ?_)
  show pl (mT g) kf (mb_198 g).2 (0, [(0, .ref m0), (1, .int 6)], [], M) _
  have hEI : eqI [0] I I := eqI.rf
  have hER : eqR [] R R := eqR.rf
  refine ps_st (S' := (1, [(0, .ref m0), (1, .int 6)], [.ref m0], M)) rfl rfl rfl ?_
  refine ps_st (S' := (2, [(0, .ref m0), (1, .int 6)], [.int 0, .ref m0], M)) rfl rfl rfl ?_
  refine pr_put (j := 0) rfl hR rfl (fun M1 I2 hR3 hi4 hI5 => ?_)
  have hi6 := (hI5 18 (by decide)).trans hi18
  have hi7 := (hI5 58 (by decide)).trans hi58
  have hEI8 := hEI.put hI5 (by decide)
  show pl _ _ _ (5, [(0, .ref m0), (1, .int 6)], [], M1) _
  refine ps_st (S' := (6, [(0, .ref m0), (1, .int 6)], [.int 6], M1)) rfl rfl rfl ?_
  refine ps_if (S1 := (15, [(0, .ref m0)], [], M1)) (S2 := (9, [(0, .ref m0), (1, .int 6)], [], M1)) rfl rfl rfl (fun c_6 => ?_) (fun c_6 => ?_)
  · exact absurd (of_decide_eq_true c_6) (by decide)
  refine ps_st (S' := (10, [(0, .ref m0), (1, .int 6)], [.int 6], M1)) rfl rfl rfl ?_
  refine ps_st (S' := (12, [(0, .ref m0), (1, .int 6)], [.int 15, .int 6], M1)) rfl rfl rfl ?_
  refine ps_if2 (S1 := (20, [(0, .ref m0), (1, .int 6)], [], M1)) (S2 := (15, [(0, .ref m0)], [], M1)) rfl rfl rfl (fun c_12 => ?_) (fun c_12 => ?_)
  rotate_left
  · exact absurd (by decide) (of_decide_eq_false c_12)
  refine ps_st (S' := (21, [(0, .ref m0), (1, .int 6)], [.ref m0], M1)) rfl rfl rfl ?_
  refine pr_int (j := 18) (S' := (24, [(0, .ref m0), (1, .int 6)], [.int (nI n2)], M1)) rfl hR3 rfl hi6 rfl ?_
  refine ps_if (S1 := (29, [(0, .ref m0), (1, .int 6)], [], M1)) (S2 := (27, [(0, .ref m0), (1, .int 6)], [], M1)) rfl rfl rfl (fun c_24 => ?_) (fun c_24 => ?_)
  rotate_left
  · exact absurd ((le_nI (p := 0) (n := n2) (by decide) (by omega)).mpr (by omega)) (of_decide_eq_false c_24)
  refine ps_st (S' := (30, [(0, .ref m0), (1, .int 6)], [.int 6], M1)) rfl rfl rfl ?_
  refine ps_st (S' := (134, [(0, .ref m0), (1, .int 6)], [], M1)) rfl rfl rfl ?_
  refine ps_st (S' := (135, [(0, .ref m0), (1, .int 6)], [.ref m0], M1)) rfl rfl rfl ?_
  refine pr_int (j := 58) (S' := (138, [(0, .ref m0), (1, .int 6)], [.int vv], M1)) rfl hR3 rfl hi7 rfl ?_
  exact ps_reti rfl (⟨I2, R, rfl, hR3, hEI8, hER, hi4⟩)
set_option maxHeartbeats 1000000 in
theorem rd_count_7 {g : xe_G} {m0 : Nat} {q : Nat → Nat} {z : Nat × Nat} {I : rI} {R : rR} {M : mi_H} {n2 : Nat} {vv : Int32} (hR : RS g m0 q z I R M) (hi18 : I 18 = some (nI n2)) (hi53 : I 53 = some vv)  (hn2 : n2 ≤ 65540) : pt (mT g) 198 [.ref m0, .int 7] M (fun v M' => (∃  (I' : rI) (R' : rR), v = some (.int vv) ∧ RS g m0 q z I' R' M' ∧ eqI [0] I I' ∧ eqR [] R R' ∧ I' 0 = some 0)) := by
  refine pt_in (b := mb_198 g) rfl (fun kf => ?_)
  show pl (mT g) kf (mb_198 g).2 (0, [(0, .ref m0), (1, .int 7)], [], M) _
  have hEI : eqI [0] I I := eqI.rf
  have hER : eqR [] R R := eqR.rf
  refine ps_st (S' := (1, [(0, .ref m0), (1, .int 7)], [.ref m0], M)) rfl rfl rfl ?_
  refine ps_st (S' := (2, [(0, .ref m0), (1, .int 7)], [.int 0, .ref m0], M)) rfl rfl rfl ?_
  refine pr_put (j := 0) rfl hR rfl (fun M1 I2 hR3 hi4 hI5 => ?_)
  have hi6 := (hI5 18 (by decide)).trans hi18
  have hi7 := (hI5 53 (by decide)).trans hi53
  have hEI8 := hEI.put hI5 (by decide)
  show pl _ _ _ (5, [(0, .ref m0), (1, .int 7)], [], M1) _
  refine ps_st (S' := (6, [(0, .ref m0), (1, .int 7)], [.int 7], M1)) rfl rfl rfl ?_
  refine ps_if (S1 := (15, [(0, .ref m0)], [], M1)) (S2 := (9, [(0, .ref m0), (1, .int 7)], [], M1)) rfl rfl rfl (fun c_6 => ?_) (fun c_6 => ?_)
  · exact absurd (of_decide_eq_true c_6) (by decide)
  refine ps_st (S' := (10, [(0, .ref m0), (1, .int 7)], [.int 7], M1)) rfl rfl rfl ?_
  refine ps_st (S' := (12, [(0, .ref m0), (1, .int 7)], [.int 15, .int 7], M1)) rfl rfl rfl ?_
  refine ps_if2 (S1 := (20, [(0, .ref m0), (1, .int 7)], [], M1)) (S2 := (15, [(0, .ref m0)], [], M1)) rfl rfl rfl (fun c_12 => ?_) (fun c_12 => ?_)
  rotate_left
  · exact absurd (by decide) (of_decide_eq_false c_12)
  refine ps_st (S' := (21, [(0, .ref m0), (1, .int 7)], [.ref m0], M1)) rfl rfl rfl ?_
  refine pr_int (j := 18) (S' := (24, [(0, .ref m0), (1, .int 7)], [.int (nI n2)], M1)) rfl hR3 rfl hi6 rfl ?_
  refine ps_if (S1 := (29, [(0, .ref m0), (1, .int 7)], [], M1)) (S2 := (27, [(0, .ref m0), (1, .int 7)], [], M1)) rfl rfl rfl (fun c_24 => ?_) (fun c_24 => ?_)
  rotate_left
  · exact absurd ((le_nI (p := 0) (n := n2) (by decide) (by omega)).mpr (by omega)) (of_decide_eq_false c_24)
  refine ps_st (S' := (30, [(0, .ref m0), (1, .int 7)], [.int 7], M1)) rfl rfl rfl ?_
  refine ps_st (S' := (139, [(0, .ref m0), (1, .int 7)], [], M1)) rfl rfl rfl ?_
  refine ps_st (S' := (140, [(0, .ref m0), (1, .int 7)], [.ref m0], M1)) rfl rfl rfl ?_
  refine pr_int (j := 53) (S' := (143, [(0, .ref m0), (1, .int 7)], [.int vv], M1)) rfl hR3 rfl hi7 rfl ?_
  exact ps_reti rfl (⟨I2, R, rfl, hR3, hEI8, hER, hi4⟩)
set_option maxHeartbeats 1000000 in
theorem rd_count_12 {g : xe_G} {m0 : Nat} {q : Nat → Nat} {z : Nat × Nat} {I : rI} {R : rR} {M : mi_H} {n2 : Nat} {vv : Int32} (hR : RS g m0 q z I R M) (hi18 : I 18 = some (nI n2)) (hi65 : I 65 = some vv)  (hn2 : n2 ≤ 65540) : pt (mT g) 198 [.ref m0, .int 12] M (fun v M' => (∃  (I' : rI) (R' : rR), v = some (.int vv) ∧ RS g m0 q z I' R' M' ∧ eqI [0] I I' ∧ eqR [] R R' ∧ I' 0 = some 0)) := by
  refine pt_in (b := mb_198 g) rfl (fun kf => ?_)
  show pl (mT g) kf (mb_198 g).2 (0, [(0, .ref m0), (1, .int 12)], [], M) _
  have hEI : eqI [0] I I := eqI.rf
  have hER : eqR [] R R := eqR.rf
  refine ps_st (S' := (1, [(0, .ref m0), (1, .int 12)], [.ref m0], M)) rfl rfl rfl ?_
  refine ps_st (S' := (2, [(0, .ref m0), (1, .int 12)], [.int 0, .ref m0], M)) rfl rfl rfl ?_
  refine pr_put (j := 0) rfl hR rfl (fun M1 I2 hR3 hi4 hI5 => ?_)
  have hi6 := (hI5 18 (by decide)).trans hi18
  have hi7 := (hI5 65 (by decide)).trans hi65
  have hEI8 := hEI.put hI5 (by decide)
  show pl _ _ _ (5, [(0, .ref m0), (1, .int 12)], [], M1) _
  refine ps_st (S' := (6, [(0, .ref m0), (1, .int 12)], [.int 12], M1)) rfl rfl rfl ?_
  refine ps_if (S1 := (15, [(0, .ref m0)], [], M1)) (S2 := (9, [(0, .ref m0), (1, .int 12)], [], M1)) rfl rfl rfl (fun c_6 => ?_) (fun c_6 => ?_)
  · exact absurd (of_decide_eq_true c_6) (by decide)
  refine ps_st (S' := (10, [(0, .ref m0), (1, .int 12)], [.int 12], M1)) rfl rfl rfl ?_
  refine ps_st (S' := (12, [(0, .ref m0), (1, .int 12)], [.int 15, .int 12], M1)) rfl rfl rfl ?_
  refine ps_if2 (S1 := (20, [(0, .ref m0), (1, .int 12)], [], M1)) (S2 := (15, [(0, .ref m0)], [], M1)) rfl rfl rfl (fun c_12 => ?_) (fun c_12 => ?_)
  rotate_left
  · exact absurd (by decide) (of_decide_eq_false c_12)
  refine ps_st (S' := (21, [(0, .ref m0), (1, .int 12)], [.ref m0], M1)) rfl rfl rfl ?_
  refine pr_int (j := 18) (S' := (24, [(0, .ref m0), (1, .int 12)], [.int (nI n2)], M1)) rfl hR3 rfl hi6 rfl ?_
  refine ps_if (S1 := (29, [(0, .ref m0), (1, .int 12)], [], M1)) (S2 := (27, [(0, .ref m0), (1, .int 12)], [], M1)) rfl rfl rfl (fun c_24 => ?_) (fun c_24 => ?_)
  rotate_left
  · exact absurd ((le_nI (p := 0) (n := n2) (by decide) (by omega)).mpr (by omega)) (of_decide_eq_false c_24)
  refine ps_st (S' := (30, [(0, .ref m0), (1, .int 12)], [.int 12], M1)) rfl rfl rfl ?_
  refine ps_st (S' := (213, [(0, .ref m0), (1, .int 12)], [], M1)) rfl rfl rfl ?_
  refine ps_st (S' := (214, [(0, .ref m0), (1, .int 12)], [.ref m0], M1)) rfl rfl rfl ?_
  refine pr_int (j := 65) (S' := (217, [(0, .ref m0), (1, .int 12)], [.int vv], M1)) rfl hR3 rfl hi7 rfl ?_
  exact ps_reti rfl (⟨I2, R, rfl, hR3, hEI8, hER, hi4⟩)
set_option maxHeartbeats 1000000 in
theorem rd_count_13 {g : xe_G} {m0 : Nat} {q : Nat → Nat} {z : Nat × Nat} {I : rI} {R : rR} {M : mi_H} {n2 : Nat} {vv : Int32} (hR : RS g m0 q z I R M) (hi18 : I 18 = some (nI n2)) (hi68 : I 68 = some vv)  (hn2 : n2 ≤ 65540) : pt (mT g) 198 [.ref m0, .int 13] M (fun v M' => (∃  (I' : rI) (R' : rR), v = some (.int vv) ∧ RS g m0 q z I' R' M' ∧ eqI [0] I I' ∧ eqR [] R R' ∧ I' 0 = some 0)) := by
  refine pt_in (b := mb_198 g) rfl (fun kf => ?_)
  show pl (mT g) kf (mb_198 g).2 (0, [(0, .ref m0), (1, .int 13)], [], M) _
  have hEI : eqI [0] I I := eqI.rf
  have hER : eqR [] R R := eqR.rf
  refine ps_st (S' := (1, [(0, .ref m0), (1, .int 13)], [.ref m0], M)) rfl rfl rfl ?_
  refine ps_st (S' := (2, [(0, .ref m0), (1, .int 13)], [.int 0, .ref m0], M)) rfl rfl rfl ?_
  refine pr_put (j := 0) rfl hR rfl (fun M1 I2 hR3 hi4 hI5 => ?_)
  have hi6 := (hI5 18 (by decide)).trans hi18
  have hi7 := (hI5 68 (by decide)).trans hi68
  have hEI8 := hEI.put hI5 (by decide)
  show pl _ _ _ (5, [(0, .ref m0), (1, .int 13)], [], M1) _
  refine ps_st (S' := (6, [(0, .ref m0), (1, .int 13)], [.int 13], M1)) rfl rfl rfl ?_
  refine ps_if (S1 := (15, [(0, .ref m0)], [], M1)) (S2 := (9, [(0, .ref m0), (1, .int 13)], [], M1)) rfl rfl rfl (fun c_6 => ?_) (fun c_6 => ?_)
  · exact absurd (of_decide_eq_true c_6) (by decide)
  refine ps_st (S' := (10, [(0, .ref m0), (1, .int 13)], [.int 13], M1)) rfl rfl rfl ?_
  refine ps_st (S' := (12, [(0, .ref m0), (1, .int 13)], [.int 15, .int 13], M1)) rfl rfl rfl ?_
  refine ps_if2 (S1 := (20, [(0, .ref m0), (1, .int 13)], [], M1)) (S2 := (15, [(0, .ref m0)], [], M1)) rfl rfl rfl (fun c_12 => ?_) (fun c_12 => ?_)
  rotate_left
  · exact absurd (by decide) (of_decide_eq_false c_12)
  refine ps_st (S' := (21, [(0, .ref m0), (1, .int 13)], [.ref m0], M1)) rfl rfl rfl ?_
  refine pr_int (j := 18) (S' := (24, [(0, .ref m0), (1, .int 13)], [.int (nI n2)], M1)) rfl hR3 rfl hi6 rfl ?_
  refine ps_if (S1 := (29, [(0, .ref m0), (1, .int 13)], [], M1)) (S2 := (27, [(0, .ref m0), (1, .int 13)], [], M1)) rfl rfl rfl (fun c_24 => ?_) (fun c_24 => ?_)
  rotate_left
  · exact absurd ((le_nI (p := 0) (n := n2) (by decide) (by omega)).mpr (by omega)) (of_decide_eq_false c_24)
  refine ps_st (S' := (30, [(0, .ref m0), (1, .int 13)], [.int 13], M1)) rfl rfl rfl ?_
  refine ps_st (S' := (218, [(0, .ref m0), (1, .int 13)], [], M1)) rfl rfl rfl ?_
  refine ps_st (S' := (219, [(0, .ref m0), (1, .int 13)], [.ref m0], M1)) rfl rfl rfl ?_
  refine pr_int (j := 68) (S' := (222, [(0, .ref m0), (1, .int 13)], [.int vv], M1)) rfl hR3 rfl hi7 rfl ?_
  exact ps_reti rfl (⟨I2, R, rfl, hR3, hEI8, hER, hi4⟩)
set_option maxHeartbeats 1000000 in
theorem rd_count_14 {g : xe_G} {m0 : Nat} {q : Nat → Nat} {z : Nat × Nat} {I : rI} {R : rR} {M : mi_H} {n2 : Nat} {vv : Int32} (hR : RS g m0 q z I R M) (hi18 : I 18 = some (nI n2)) (hi69 : I 69 = some vv)  (hn2 : n2 ≤ 65540) : pt (mT g) 198 [.ref m0, .int 14] M (fun v M' => (∃  (I' : rI) (R' : rR), v = some (.int vv) ∧ RS g m0 q z I' R' M' ∧ eqI [0] I I' ∧ eqR [] R R' ∧ I' 0 = some 0)) := by
  refine pt_in (b := mb_198 g) rfl (fun kf => ?_)
  show pl (mT g) kf (mb_198 g).2 (0, [(0, .ref m0), (1, .int 14)], [], M) _
  have hEI : eqI [0] I I := eqI.rf
  have hER : eqR [] R R := eqR.rf
  refine ps_st (S' := (1, [(0, .ref m0), (1, .int 14)], [.ref m0], M)) rfl rfl rfl ?_
  refine ps_st (S' := (2, [(0, .ref m0), (1, .int 14)], [.int 0, .ref m0], M)) rfl rfl rfl ?_
  refine pr_put (j := 0) rfl hR rfl (fun M1 I2 hR3 hi4 hI5 => ?_)
  have hi6 := (hI5 18 (by decide)).trans hi18
  have hi7 := (hI5 69 (by decide)).trans hi69
  have hEI8 := hEI.put hI5 (by decide)
  show pl _ _ _ (5, [(0, .ref m0), (1, .int 14)], [], M1) _
  refine ps_st (S' := (6, [(0, .ref m0), (1, .int 14)], [.int 14], M1)) rfl rfl rfl ?_
  refine ps_if (S1 := (15, [(0, .ref m0)], [], M1)) (S2 := (9, [(0, .ref m0), (1, .int 14)], [], M1)) rfl rfl rfl (fun c_6 => ?_) (fun c_6 => ?_)
  · exact absurd (of_decide_eq_true c_6) (by decide)
  refine ps_st (S' := (10, [(0, .ref m0), (1, .int 14)], [.int 14], M1)) rfl rfl rfl ?_
  refine ps_st (S' := (12, [(0, .ref m0), (1, .int 14)], [.int 15, .int 14], M1)) rfl rfl rfl ?_
  refine ps_if2 (S1 := (20, [(0, .ref m0), (1, .int 14)], [], M1)) (S2 := (15, [(0, .ref m0)], [], M1)) rfl rfl rfl (fun c_12 => ?_) (fun c_12 => ?_)
  rotate_left
  · exact absurd (by decide) (of_decide_eq_false c_12)
  refine ps_st (S' := (21, [(0, .ref m0), (1, .int 14)], [.ref m0], M1)) rfl rfl rfl ?_
  refine pr_int (j := 18) (S' := (24, [(0, .ref m0), (1, .int 14)], [.int (nI n2)], M1)) rfl hR3 rfl hi6 rfl ?_
  refine ps_if (S1 := (29, [(0, .ref m0), (1, .int 14)], [], M1)) (S2 := (27, [(0, .ref m0), (1, .int 14)], [], M1)) rfl rfl rfl (fun c_24 => ?_) (fun c_24 => ?_)
  rotate_left
  · exact absurd ((le_nI (p := 0) (n := n2) (by decide) (by omega)).mpr (by omega)) (of_decide_eq_false c_24)
  refine ps_st (S' := (30, [(0, .ref m0), (1, .int 14)], [.int 14], M1)) rfl rfl rfl ?_
  refine ps_st (S' := (223, [(0, .ref m0), (1, .int 14)], [], M1)) rfl rfl rfl ?_
  refine ps_st (S' := (224, [(0, .ref m0), (1, .int 14)], [.ref m0], M1)) rfl rfl rfl ?_
  refine pr_int (j := 69) (S' := (227, [(0, .ref m0), (1, .int 14)], [.int vv], M1)) rfl hR3 rfl hi7 rfl ?_
  exact ps_reti rfl (⟨I2, R, rfl, hR3, hEI8, hER, hi4⟩)
set_option maxHeartbeats 1000000 in
theorem rd_count_15 {g : xe_G} {m0 : Nat} {q : Nat → Nat} {z : Nat × Nat} {I : rI} {R : rR} {M : mi_H} {n2 : Nat} {vv : Int32} (hR : RS g m0 q z I R M) (hi18 : I 18 = some (nI n2)) (hi72 : I 72 = some vv)  (hn2 : n2 ≤ 65540) : pt (mT g) 198 [.ref m0, .int 15] M (fun v M' => (∃  (I' : rI) (R' : rR), v = some (.int vv) ∧ RS g m0 q z I' R' M' ∧ eqI [0] I I' ∧ eqR [] R R' ∧ I' 0 = some 0)) := by
  refine pt_in (b := mb_198 g) rfl (fun kf => ?_)
  show pl (mT g) kf (mb_198 g).2 (0, [(0, .ref m0), (1, .int 15)], [], M) _
  have hEI : eqI [0] I I := eqI.rf
  have hER : eqR [] R R := eqR.rf
  refine ps_st (S' := (1, [(0, .ref m0), (1, .int 15)], [.ref m0], M)) rfl rfl rfl ?_
  refine ps_st (S' := (2, [(0, .ref m0), (1, .int 15)], [.int 0, .ref m0], M)) rfl rfl rfl ?_
  refine pr_put (j := 0) rfl hR rfl (fun M1 I2 hR3 hi4 hI5 => ?_)
  have hi6 := (hI5 18 (by decide)).trans hi18
  have hi7 := (hI5 72 (by decide)).trans hi72
  have hEI8 := hEI.put hI5 (by decide)
  show pl _ _ _ (5, [(0, .ref m0), (1, .int 15)], [], M1) _
  refine ps_st (S' := (6, [(0, .ref m0), (1, .int 15)], [.int 15], M1)) rfl rfl rfl ?_
  refine ps_if (S1 := (15, [(0, .ref m0)], [], M1)) (S2 := (9, [(0, .ref m0), (1, .int 15)], [], M1)) rfl rfl rfl (fun c_6 => ?_) (fun c_6 => ?_)
  · exact absurd (of_decide_eq_true c_6) (by decide)
  refine ps_st (S' := (10, [(0, .ref m0), (1, .int 15)], [.int 15], M1)) rfl rfl rfl ?_
  refine ps_st (S' := (12, [(0, .ref m0), (1, .int 15)], [.int 15, .int 15], M1)) rfl rfl rfl ?_
  refine ps_if2 (S1 := (20, [(0, .ref m0), (1, .int 15)], [], M1)) (S2 := (15, [(0, .ref m0)], [], M1)) rfl rfl rfl (fun c_12 => ?_) (fun c_12 => ?_)
  rotate_left
  · exact absurd (by decide) (of_decide_eq_false c_12)
  refine ps_st (S' := (21, [(0, .ref m0), (1, .int 15)], [.ref m0], M1)) rfl rfl rfl ?_
  refine pr_int (j := 18) (S' := (24, [(0, .ref m0), (1, .int 15)], [.int (nI n2)], M1)) rfl hR3 rfl hi6 rfl ?_
  refine ps_if (S1 := (29, [(0, .ref m0), (1, .int 15)], [], M1)) (S2 := (27, [(0, .ref m0), (1, .int 15)], [], M1)) rfl rfl rfl (fun c_24 => ?_) (fun c_24 => ?_)
  rotate_left
  · exact absurd ((le_nI (p := 0) (n := n2) (by decide) (by omega)).mpr (by omega)) (of_decide_eq_false c_24)
  refine ps_st (S' := (30, [(0, .ref m0), (1, .int 15)], [.int 15], M1)) rfl rfl rfl ?_
  refine ps_st (S' := (228, [(0, .ref m0), (1, .int 15)], [], M1)) rfl rfl rfl ?_
  refine ps_st (S' := (229, [(0, .ref m0), (1, .int 15)], [.ref m0], M1)) rfl rfl rfl ?_
  refine pr_int (j := 72) (S' := (232, [(0, .ref m0), (1, .int 15)], [.int vv], M1)) rfl hR3 rfl hi7 rfl ?_
  exact ps_reti rfl (⟨I2, R, rfl, hR3, hEI8, hER, hi4⟩)
set_option maxHeartbeats 1000000 in
theorem rd_count_8 {g : xe_G} {m0 : Nat} {q : Nat → Nat} {z : Nat × Nat} {I : rI} {R : rR} {M : mi_H} {n : Nat} {f : Nat → Int32} {n2 p1 : Nat} (hR : RS g m0 q z I R M) (hi18 : I 18 = some (nI n2)) (hi54 : I 54 = some (nI p1)) (hF : FK n f I R) (hn2 : n2 ≤ 65540) (hp1 : p1 + 8 ≤ n) : pt (mT g) 198 [.ref m0, .int 8] M (fun v M' => (∃  (I' : rI) (R' : rR), v = some (.int (nI (by2 f (4)))) ∧ RS g m0 q z I' R' M' ∧ eqI [0] I I' ∧ eqR [] R R' ∧ I' 0 = some 0)) := by
  refine pt_in (b := mb_198 g) rfl (fun kf => ?_)
  show pl (mT g) kf (mb_198 g).2 (0, [(0, .ref m0), (1, .int 8)], [], M) _
  have hEI : eqI [0] I I := eqI.rf
  have hER : eqR [] R R := eqR.rf
  have hn := hF.1
  refine ps_st (S' := (1, [(0, .ref m0), (1, .int 8)], [.ref m0], M)) rfl rfl rfl ?_
  refine ps_st (S' := (2, [(0, .ref m0), (1, .int 8)], [.int 0, .ref m0], M)) rfl rfl rfl ?_
  refine pr_put (j := 0) rfl hR rfl (fun M1 I2 hR3 hi4 hI5 => ?_)
  have hi6 := (hI5 18 (by decide)).trans hi18
  have hi7 := (hI5 54 (by decide)).trans hi54
  have hF_8 := hF.mono (pIx hI5 (by decide)) (fun _ _ => rfl)
  have hEI9 := hEI.put hI5 (by decide)
  show pl _ _ _ (5, [(0, .ref m0), (1, .int 8)], [], M1) _
  refine ps_st (S' := (6, [(0, .ref m0), (1, .int 8)], [.int 8], M1)) rfl rfl rfl ?_
  refine ps_if (S1 := (15, [(0, .ref m0)], [], M1)) (S2 := (9, [(0, .ref m0), (1, .int 8)], [], M1)) rfl rfl rfl (fun c_6 => ?_) (fun c_6 => ?_)
  · exact absurd (of_decide_eq_true c_6) (by decide)
  refine ps_st (S' := (10, [(0, .ref m0), (1, .int 8)], [.int 8], M1)) rfl rfl rfl ?_
  refine ps_st (S' := (12, [(0, .ref m0), (1, .int 8)], [.int 15, .int 8], M1)) rfl rfl rfl ?_
  refine ps_if2 (S1 := (20, [(0, .ref m0), (1, .int 8)], [], M1)) (S2 := (15, [(0, .ref m0)], [], M1)) rfl rfl rfl (fun c_12 => ?_) (fun c_12 => ?_)
  rotate_left
  · exact absurd (by decide) (of_decide_eq_false c_12)
  refine ps_st (S' := (21, [(0, .ref m0), (1, .int 8)], [.ref m0], M1)) rfl rfl rfl ?_
  refine pr_int (j := 18) (S' := (24, [(0, .ref m0), (1, .int 8)], [.int (nI n2)], M1)) rfl hR3 rfl hi6 rfl ?_
  refine ps_if (S1 := (29, [(0, .ref m0), (1, .int 8)], [], M1)) (S2 := (27, [(0, .ref m0), (1, .int 8)], [], M1)) rfl rfl rfl (fun c_24 => ?_) (fun c_24 => ?_)
  rotate_left
  · exact absurd ((le_nI (p := 0) (n := n2) (by decide) (by omega)).mpr (by omega)) (of_decide_eq_false c_24)
  refine ps_st (S' := (30, [(0, .ref m0), (1, .int 8)], [.int 8], M1)) rfl rfl rfl ?_
  refine ps_st (S' := (144, [(0, .ref m0), (1, .int 8)], [], M1)) rfl rfl rfl ?_
  refine ps_st (S' := (145, [(0, .ref m0), (1, .int 8)], [.ref m0], M1)) rfl rfl rfl ?_
  refine ps_st (S' := (146, [(0, .ref m0), (1, .int 8)], [.int 4, .ref m0], M1)) rfl rfl rfl ?_
  refine pl_call (a := [.ref m0, .int 4]) (rest := []) rfl rfl rfl (rd_u2 (n := n) (f := f) (p := 4) hR3 hF_8 (by omega)) (fun v10 M11 q12 => ?_)
  obtain ⟨rfl, rfl⟩ := q12
  show pl _ _ _ (149, [(0, .ref m0), (1, .int 8)], [.int (nI (by2 f 4))], M1) _
  have hu_146 := by2_lt f 4
  exact ps_reti rfl (⟨I2, R, rfl, hR3, hEI9, hER, hi4⟩)
set_option maxHeartbeats 1000000 in
theorem rd_count_9 {g : xe_G} {m0 : Nat} {q : Nat → Nat} {z : Nat × Nat} {I : rI} {R : rR} {M : mi_H} {n : Nat} {f : Nat → Int32} {n2 p1 : Nat} (hR : RS g m0 q z I R M) (hi18 : I 18 = some (nI n2)) (hi54 : I 54 = some (nI p1)) (hF : FK n f I R) (hn2 : n2 ≤ 65540) (hp1 : p1 + 8 ≤ n) : pt (mT g) 198 [.ref m0, .int 9] M (fun v M' => (∃  (I' : rI) (R' : rR), v = some (.int (nI (by2 f (p1 + 2)))) ∧ RS g m0 q z I' R' M' ∧ eqI [0] I I' ∧ eqR [] R R' ∧ I' 0 = some 0)) := by
  refine pt_in (b := mb_198 g) rfl (fun kf => ?_)
  show pl (mT g) kf (mb_198 g).2 (0, [(0, .ref m0), (1, .int 9)], [], M) _
  have hEI : eqI [0] I I := eqI.rf
  have hER : eqR [] R R := eqR.rf
  have hn := hF.1
  refine ps_st (S' := (1, [(0, .ref m0), (1, .int 9)], [.ref m0], M)) rfl rfl rfl ?_
  refine ps_st (S' := (2, [(0, .ref m0), (1, .int 9)], [.int 0, .ref m0], M)) rfl rfl rfl ?_
  refine pr_put (j := 0) rfl hR rfl (fun M1 I2 hR3 hi4 hI5 => ?_)
  have hi6 := (hI5 18 (by decide)).trans hi18
  have hi7 := (hI5 54 (by decide)).trans hi54
  have hF_8 := hF.mono (pIx hI5 (by decide)) (fun _ _ => rfl)
  have hEI9 := hEI.put hI5 (by decide)
  show pl _ _ _ (5, [(0, .ref m0), (1, .int 9)], [], M1) _
  refine ps_st (S' := (6, [(0, .ref m0), (1, .int 9)], [.int 9], M1)) rfl rfl rfl ?_
  refine ps_if (S1 := (15, [(0, .ref m0)], [], M1)) (S2 := (9, [(0, .ref m0), (1, .int 9)], [], M1)) rfl rfl rfl (fun c_6 => ?_) (fun c_6 => ?_)
  · exact absurd (of_decide_eq_true c_6) (by decide)
  refine ps_st (S' := (10, [(0, .ref m0), (1, .int 9)], [.int 9], M1)) rfl rfl rfl ?_
  refine ps_st (S' := (12, [(0, .ref m0), (1, .int 9)], [.int 15, .int 9], M1)) rfl rfl rfl ?_
  refine ps_if2 (S1 := (20, [(0, .ref m0), (1, .int 9)], [], M1)) (S2 := (15, [(0, .ref m0)], [], M1)) rfl rfl rfl (fun c_12 => ?_) (fun c_12 => ?_)
  rotate_left
  · exact absurd (by decide) (of_decide_eq_false c_12)
  refine ps_st (S' := (21, [(0, .ref m0), (1, .int 9)], [.ref m0], M1)) rfl rfl rfl ?_
  refine pr_int (j := 18) (S' := (24, [(0, .ref m0), (1, .int 9)], [.int (nI n2)], M1)) rfl hR3 rfl hi6 rfl ?_
  refine ps_if (S1 := (29, [(0, .ref m0), (1, .int 9)], [], M1)) (S2 := (27, [(0, .ref m0), (1, .int 9)], [], M1)) rfl rfl rfl (fun c_24 => ?_) (fun c_24 => ?_)
  rotate_left
  · exact absurd ((le_nI (p := 0) (n := n2) (by decide) (by omega)).mpr (by omega)) (of_decide_eq_false c_24)
  refine ps_st (S' := (30, [(0, .ref m0), (1, .int 9)], [.int 9], M1)) rfl rfl rfl ?_
  refine ps_st (S' := (150, [(0, .ref m0), (1, .int 9)], [], M1)) rfl rfl rfl ?_
  refine ps_st (S' := (151, [(0, .ref m0), (1, .int 9)], [.ref m0], M1)) rfl rfl rfl ?_
  refine ps_st (S' := (152, [(0, .ref m0), (1, .int 9)], [.ref m0, .ref m0], M1)) rfl rfl rfl ?_
  refine pr_int (j := 54) (S' := (155, [(0, .ref m0), (1, .int 9)], [.int (nI p1), .ref m0], M1)) rfl hR3 rfl hi7 rfl ?_
  refine ps_st (S' := (156, [(0, .ref m0), (1, .int 9)], [.int 2, .int (nI p1), .ref m0], M1)) rfl rfl rfl ?_
  refine ps_st (S' := (157, [(0, .ref m0), (1, .int 9)], [.int ((nI p1) + 2), .ref m0], M1)) rfl rfl rfl ?_
  rw [nI_add1 (p := p1) (k := 2) (x := 2) rfl (by omega)]
  show pl _ _ _ (_, [(0, .ref m0), (1, .int 9)], [.int (nI (p1 + 2)), .ref m0], M1) _
  refine pl_call (a := [.ref m0, .int (nI (p1 + 2))]) (rest := []) rfl rfl rfl (rd_u2 (n := n) (f := f) (p := (p1 + 2)) hR3 hF_8 (by omega)) (fun v10 M11 q12 => ?_)
  obtain ⟨rfl, rfl⟩ := q12
  show pl _ _ _ (160, [(0, .ref m0), (1, .int 9)], [.int (nI (by2 f (p1 + 2)))], M1) _
  have hu_157 := by2_lt f (p1 + 2)
  exact ps_reti rfl (⟨I2, R, rfl, hR3, hEI9, hER, hi4⟩)
set_option maxHeartbeats 1000000 in
theorem rd_count_10 {g : xe_G} {m0 : Nat} {q : Nat → Nat} {z : Nat × Nat} {I : rI} {R : rR} {M : mi_H} {n : Nat} {f : Nat → Int32} {n2 p1 : Nat} (hR : RS g m0 q z I R M) (hi18 : I 18 = some (nI n2)) (hi54 : I 54 = some (nI p1)) (hF : FK n f I R) (hn2 : n2 ≤ 65540) (hp1 : p1 + 8 ≤ n) : pt (mT g) 198 [.ref m0, .int 10] M (fun v M' => (∃  (I' : rI) (R' : rR), v = some (.int (nI (by2 f (p1 + 4)))) ∧ RS g m0 q z I' R' M' ∧ eqI [0] I I' ∧ eqR [] R R' ∧ I' 0 = some 0)) := by
  refine pt_in (b := mb_198 g) rfl (fun kf => ?_)
  show pl (mT g) kf (mb_198 g).2 (0, [(0, .ref m0), (1, .int 10)], [], M) _
  have hEI : eqI [0] I I := eqI.rf
  have hER : eqR [] R R := eqR.rf
  have hn := hF.1
  refine ps_st (S' := (1, [(0, .ref m0), (1, .int 10)], [.ref m0], M)) rfl rfl rfl ?_
  refine ps_st (S' := (2, [(0, .ref m0), (1, .int 10)], [.int 0, .ref m0], M)) rfl rfl rfl ?_
  refine pr_put (j := 0) rfl hR rfl (fun M1 I2 hR3 hi4 hI5 => ?_)
  have hi6 := (hI5 18 (by decide)).trans hi18
  have hi7 := (hI5 54 (by decide)).trans hi54
  have hF_8 := hF.mono (pIx hI5 (by decide)) (fun _ _ => rfl)
  have hEI9 := hEI.put hI5 (by decide)
  show pl _ _ _ (5, [(0, .ref m0), (1, .int 10)], [], M1) _
  refine ps_st (S' := (6, [(0, .ref m0), (1, .int 10)], [.int 10], M1)) rfl rfl rfl ?_
  refine ps_if (S1 := (15, [(0, .ref m0)], [], M1)) (S2 := (9, [(0, .ref m0), (1, .int 10)], [], M1)) rfl rfl rfl (fun c_6 => ?_) (fun c_6 => ?_)
  · exact absurd (of_decide_eq_true c_6) (by decide)
  refine ps_st (S' := (10, [(0, .ref m0), (1, .int 10)], [.int 10], M1)) rfl rfl rfl ?_
  refine ps_st (S' := (12, [(0, .ref m0), (1, .int 10)], [.int 15, .int 10], M1)) rfl rfl rfl ?_
  refine ps_if2 (S1 := (20, [(0, .ref m0), (1, .int 10)], [], M1)) (S2 := (15, [(0, .ref m0)], [], M1)) rfl rfl rfl (fun c_12 => ?_) (fun c_12 => ?_)
  rotate_left
  · exact absurd (by decide) (of_decide_eq_false c_12)
  refine ps_st (S' := (21, [(0, .ref m0), (1, .int 10)], [.ref m0], M1)) rfl rfl rfl ?_
  refine pr_int (j := 18) (S' := (24, [(0, .ref m0), (1, .int 10)], [.int (nI n2)], M1)) rfl hR3 rfl hi6 rfl ?_
  refine ps_if (S1 := (29, [(0, .ref m0), (1, .int 10)], [], M1)) (S2 := (27, [(0, .ref m0), (1, .int 10)], [], M1)) rfl rfl rfl (fun c_24 => ?_) (fun c_24 => ?_)
  rotate_left
  · exact absurd ((le_nI (p := 0) (n := n2) (by decide) (by omega)).mpr (by omega)) (of_decide_eq_false c_24)
  refine ps_st (S' := (30, [(0, .ref m0), (1, .int 10)], [.int 10], M1)) rfl rfl rfl ?_
  refine ps_st (S' := (161, [(0, .ref m0), (1, .int 10)], [], M1)) rfl rfl rfl ?_
  refine ps_st (S' := (162, [(0, .ref m0), (1, .int 10)], [.ref m0], M1)) rfl rfl rfl ?_
  refine ps_st (S' := (163, [(0, .ref m0), (1, .int 10)], [.ref m0, .ref m0], M1)) rfl rfl rfl ?_
  refine pr_int (j := 54) (S' := (166, [(0, .ref m0), (1, .int 10)], [.int (nI p1), .ref m0], M1)) rfl hR3 rfl hi7 rfl ?_
  refine ps_st (S' := (167, [(0, .ref m0), (1, .int 10)], [.int 4, .int (nI p1), .ref m0], M1)) rfl rfl rfl ?_
  refine ps_st (S' := (168, [(0, .ref m0), (1, .int 10)], [.int ((nI p1) + 4), .ref m0], M1)) rfl rfl rfl ?_
  rw [nI_add1 (p := p1) (k := 4) (x := 4) rfl (by omega)]
  show pl _ _ _ (_, [(0, .ref m0), (1, .int 10)], [.int (nI (p1 + 4)), .ref m0], M1) _
  refine pl_call (a := [.ref m0, .int (nI (p1 + 4))]) (rest := []) rfl rfl rfl (rd_u2 (n := n) (f := f) (p := (p1 + 4)) hR3 hF_8 (by omega)) (fun v10 M11 q12 => ?_)
  obtain ⟨rfl, rfl⟩ := q12
  show pl _ _ _ (171, [(0, .ref m0), (1, .int 10)], [.int (nI (by2 f (p1 + 4)))], M1) _
  have hu_168 := by2_lt f (p1 + 4)
  exact ps_reti rfl (⟨I2, R, rfl, hR3, hEI9, hER, hi4⟩)
set_option maxHeartbeats 1000000 in
theorem rd_count_11 {g : xe_G} {m0 : Nat} {q : Nat → Nat} {z : Nat × Nat} {I : rI} {R : rR} {M : mi_H} {n : Nat} {f : Nat → Int32} {tx : List (List Nat)} {cN : Nat} {A : Nat → Nat} {N mj : Nat} {E : List (Nat × Nat)} {n2 : Nat} (hR : RS g m0 q z I R M) (hi18 : I 18 = some (nI n2)) (hi51 : I 51 = some 0) (hi52 : I 52 = some (nI N)) (hi53 : I 53 = some (nI mj)) (hF : FK n f I R) (hY : SYT tx cN A I R) (hP : RPV f n E tx N I R) (hEP : EP f n E) (hN : N < 65536) (hmj : mj < 65536) (hn2 : n2 ≤ 65540) (hch : chX f n E N ≤ 65540) (hN1 : 1 ≤ N) (h0 : tg f E 0 = 0) : pt (mT g) 198 [.ref m0, .int 11] M (fun v M' => (∃  (I' : rI) (R' : rR), v = some (.int (nI (chX f n E N))) ∧ RS g m0 q z I' R' M' ∧ eqI [0] I I' ∧ eqR [] R R' ∧ I' 0 = some 0)) := by
  refine pt_in (b := mb_198 g) rfl (fun kf => ?_)
  show pl (mT g) kf (mb_198 g).2 (0, [(0, .ref m0), (1, .int 11)], [], M) _
  have hEI : eqI [0] I I := eqI.rf
  have hER : eqR [] R R := eqR.rf
  have hn := hF.1
  have LL : ∀ (kf : Nat), (∀ (k a : Nat) (M1 : mi_H) (I1 : rI) (R1 : rR), (RS g m0 q z I1 R1 M1) → (eqI [0] I I1) → (eqR [] R R1) → (I1 0 = some 0) → (I1 51 = some 0) → (I1 52 = some (nI N)) → (I1 53 = some (nI mj)) → (FK n f I1 R1) → (SYT tx cN A I1 R1) → (RPV f n E tx N I1 R1) → (1 ≤ k ∧ k ≤ N) → (a = chX f n E k) →  pl (mT g) kf (mb_198 g).2 (176, [(0, .ref m0), (2, .int (nI a)), (3, .int (nI k))], [], M1) (fun v M' => (∃  (I' : rI) (R' : rR), v = some (.int (nI (chX f n E N))) ∧ RS g m0 q z I' R' M' ∧ eqI [0] I I' ∧ eqR [] R R' ∧ I' 0 = some 0))) := by
    intro kf
    induction kf with
    | zero => exact (by intros; exact pl_0)
    | succ kf ih =>
      intro k a M1 I1 R1 hR1 hEI1 hER1 hl0 hl51 hl52 hl53 hF1 hY1 hP1 hk ha
      have hn := hF1.1
      have hm9 := chX_mono (f := f) (n := n) (E := E) (m := N) (k := k) hk.2
      have htl9 := tg_lt f E k
      refine ps_st1 (S' := (177, [(0, .ref m0), (2, .int (nI a)), (3, .int (nI k))], [.int (nI k)], M1)) rfl rfl rfl ?_
      refine ps_st (S' := (178, [(0, .ref m0), (2, .int (nI a)), (3, .int (nI k))], [.ref m0, .int (nI k)], M1)) rfl rfl rfl ?_
      refine pr_int (j := 52) (S' := (181, [(0, .ref m0), (2, .int (nI a)), (3, .int (nI k))], [.int (nI N), .int (nI k)], M1)) rfl hR1 rfl hl52 rfl ?_
      refine ps_if2 (S1 := (211, [(0, .ref m0), (2, .int (nI a)), (3, .int (nI k))], [], M1)) (S2 := (184, [(0, .ref m0), (2, .int (nI a)), (3, .int (nI k))], [], M1)) rfl rfl rfl (fun c_181 => ?_) (fun c_181 => ?_)
      · have c_181 : (nI N) ≤ (nI k) := of_decide_eq_true c_181
        have n_181 : N ≤ k := (le_nI (p := N) (n := k) (by omega) (by omega)).mp c_181
        refine ps_st (S' := (212, [(0, .ref m0), (2, .int (nI a)), (3, .int (nI k))], [.int (nI a)], M1)) rfl rfl rfl ?_
        exact ps_reti rfl (⟨I1, R1, by rw [ha, show k = N by omega], hR1, hEI1, hER1, hl0⟩)
      · have c_181 : ¬ ((nI N) ≤ (nI k)) := of_decide_eq_false c_181
        have n_181 : ¬ (N ≤ k) := fun h9 => c_181 ((le_nI (p := N) (n := k) (by omega) (by omega)).mpr h9)
        refine ps_st (S' := (185, [(0, .ref m0), (2, .int (nI a)), (3, .int (nI k))], [.ref m0], M1)) rfl rfl rfl ?_
        refine ps_st (S' := (186, [(0, .ref m0), (2, .int (nI a)), (3, .int (nI k))], [.int (nI k), .ref m0], M1)) rfl rfl rfl ?_
        refine pl_call (a := [.ref m0, .int (nI k)]) (rest := []) rfl rfl rfl (rd_tag (n := n) (f := f) (tx := tx) (cN := cN) (A := A) (N := N) (mj := mj) (E := E) (k := k) hR1 hl51 hl52 hl53 hF1 hY1 hP1 (hEP) (hN) (hmj) (by omega)) (fun v1 M2 q3 => ?_)
        obtain ⟨rfl, rfl⟩ := q3
        show pl _ _ _ (189, [(0, .ref m0), (2, .int (nI a)), (3, .int (nI k))], [.int (nI (tg f E k))], M1) _
        have htg_186 := tg_lt f E k
        refine ps_st (S' := (190, [(0, .ref m0), (2, .int (nI a)), (3, .int (nI k))], [.int 1, .int (nI (tg f E k))], M1)) rfl rfl rfl ?_
        refine ps_if2 (S1 := (205, [(0, .ref m0), (2, .int (nI a)), (3, .int (nI k))], [], M1)) (S2 := (193, [(0, .ref m0), (2, .int (nI a)), (3, .int (nI k))], [], M1)) rfl rfl rfl (fun c_190 => ?_) (fun c_190 => ?_)
        · have c_190 : ¬ (nI (tg f E k)) = 1 := of_decide_eq_true c_190
          have n_190 : ¬ (tg f E k = 1) := fun h9 => c_190 ((eq_nI (p := tg f E k) (n := 1) (Nat.lt_trans (tg_lt _ _ _) (by decide)) (by decide)).mpr h9)
          refine ps_st (S' := (208, [(3, .int ((nI k) + 1)), (0, .ref m0), (2, .int (nI a))], [], M1)) rfl rfl rfl ?_
          rw [nI_add1 (p := k) (k := 1) (x := 1) rfl (by omega)]
          show pl _ _ _ (_, [(3, .int (nI (k + 1))), (0, .ref m0), (2, .int (nI a))], [], M1) _
          refine ps_st (S' := (176, [(0, .ref m0), (2, .int (nI a)), (3, .int (nI (k + 1)))], [], M1)) rfl rfl rfl ?_
          exact ih (k + 1) (a) M1 I1 R1 hR1 hEI1 hER1 hl0 hl51 hl52 hl53 hF1 hY1 hP1 (by omega) (by
              show a = chX f n E k + (tX f n E k).length
              rw [tx_no (by omega), ha]
              rfl)
        · have c_190 : ¬ (¬ (nI (tg f E k)) = 1) := of_decide_eq_false c_190
          have n_190 : tg f E k = 1 := (eq_nI (p := tg f E k) (n := 1) (Nat.lt_trans (tg_lt _ _ _) (by decide)) (by decide)).mp (Decidable.not_not.mp c_190)
          have hm8 := chX_mono (f := f) (n := n) (E := E) (m := N) (k := k + 1) (by omega)
          have hm7 : chX f n E (k + 1) = chX f n E k + (tX f n E k).length := rfl
          refine ps_st (S' := (194, [(0, .ref m0), (2, .int (nI a)), (3, .int (nI k))], [.int (nI a)], M1)) rfl rfl rfl ?_
          refine ps_st (S' := (195, [(0, .ref m0), (2, .int (nI a)), (3, .int (nI k))], [.ref m0, .int (nI a)], M1)) rfl rfl rfl ?_
          refine ps_st (S' := (196, [(0, .ref m0), (2, .int (nI a)), (3, .int (nI k))], [.ref m0, .ref m0, .int (nI a)], M1)) rfl rfl rfl ?_
          refine ps_st (S' := (197, [(0, .ref m0), (2, .int (nI a)), (3, .int (nI k))], [.int (nI k), .ref m0, .ref m0, .int (nI a)], M1)) rfl rfl rfl ?_
          refine pl_call (a := [.ref m0, .int (nI k)]) (rest := [.ref m0, .int (nI a)]) rfl rfl rfl (rd_symOf (n := n) (f := f) (tx := tx) (cN := cN) (A := A) (N := N) (mj := mj) (E := E) (k := k) hR1 hl51 hl52 hl53 hF1 hY1 hP1 (hEP) (hN) (hmj) (by omega)) (fun v4 M5 q6 => ?_)
          obtain ⟨s7, q197_s, rfl, rfl⟩ := q6
          show pl _ _ _ (200, [(0, .ref m0), (2, .int (nI a)), (3, .int (nI k))], [.int (nI s7), .ref m0, .int (nI a)], M1) _
          have hsl_197 := q197_s.1
          have htl_197 := hY1.1.2.2.1
          refine pl_call (a := [.ref m0, .int (nI s7)]) (rest := [.int (nI a)]) rfl rfl rfl (rd_length (tx := tx) (cN := cN) (A := A) (s := s7) (l := (tX f n E k)) hR1 hY1 (q197_s)) (fun v8 M9 q10 => ?_)
          obtain ⟨rfl, rfl⟩ := q10
          show pl _ _ _ (203, [(0, .ref m0), (2, .int (nI a)), (3, .int (nI k))], [.int (nI ((tX f n E k).length)), .int (nI a)], M1) _
          refine ps_st (S' := (204, [(0, .ref m0), (2, .int (nI a)), (3, .int (nI k))], [.int ((nI a) + (nI ((tX f n E k).length)))], M1)) rfl rfl rfl ?_
          rw [nI_add1 (p := a) (k := (tX f n E k).length) (x := (nI ((tX f n E k).length))) rfl (by omega)]
          show pl _ _ _ (_, [(0, .ref m0), (2, .int (nI a)), (3, .int (nI k))], [.int (nI (a + (tX f n E k).length))], M1) _
          refine ps_st (S' := (205, [(0, .ref m0), (2, .int (nI (a + (tX f n E k).length))), (3, .int (nI k))], [], M1)) rfl rfl rfl ?_
          refine ps_st (S' := (208, [(3, .int ((nI k) + 1)), (0, .ref m0), (2, .int (nI (a + (tX f n E k).length)))], [], M1)) rfl rfl rfl ?_
          rw [nI_add1 (p := k) (k := 1) (x := 1) rfl (by omega)]
          show pl _ _ _ (_, [(3, .int (nI (k + 1))), (0, .ref m0), (2, .int (nI (a + (tX f n E k).length)))], [], M1) _
          refine ps_st (S' := (176, [(0, .ref m0), (2, .int (nI (a + (tX f n E k).length))), (3, .int (nI (k + 1)))], [], M1)) rfl rfl rfl ?_
          exact ih (k + 1) (a + (tX f n E k).length) M1 I1 R1 hR1 hEI1 hER1 hl0 hl51 hl52 hl53 hF1 hY1 hP1 (by omega) (by
              rw [ha]
              rfl)
  refine ps_st (S' := (1, [(0, .ref m0), (1, .int 11)], [.ref m0], M)) rfl rfl rfl ?_
  refine ps_st (S' := (2, [(0, .ref m0), (1, .int 11)], [.int 0, .ref m0], M)) rfl rfl rfl ?_
  refine pr_put (j := 0) rfl hR rfl (fun M11 I12 hR13 hi14 hI15 => ?_)
  have hi16 := (hI15 18 (by decide)).trans hi18
  have hi17 := (hI15 51 (by decide)).trans hi51
  have hi19 := (hI15 52 (by decide)).trans hi52
  have hi20 := (hI15 53 (by decide)).trans hi53
  have hF_21 := hF.mono (pIx hI15 (by decide)) (fun _ _ => rfl)
  have hY_22 := hY.mono (pIx hI15 (by decide)) (fun _ _ => rfl)
  have hP_23 := hP.mono (pIx hI15 (by decide)) (fun _ _ => rfl)
  have hEI24 := hEI.put hI15 (by decide)
  show pl _ _ _ (5, [(0, .ref m0), (1, .int 11)], [], M11) _
  refine ps_st (S' := (6, [(0, .ref m0), (1, .int 11)], [.int 11], M11)) rfl rfl rfl ?_
  refine ps_if (S1 := (15, [(0, .ref m0)], [], M11)) (S2 := (9, [(0, .ref m0), (1, .int 11)], [], M11)) rfl rfl rfl (fun c_6 => ?_) (fun c_6 => ?_)
  · exact absurd (of_decide_eq_true c_6) (by decide)
  refine ps_st (S' := (10, [(0, .ref m0), (1, .int 11)], [.int 11], M11)) rfl rfl rfl ?_
  refine ps_st (S' := (12, [(0, .ref m0), (1, .int 11)], [.int 15, .int 11], M11)) rfl rfl rfl ?_
  refine ps_if2 (S1 := (20, [(0, .ref m0), (1, .int 11)], [], M11)) (S2 := (15, [(0, .ref m0)], [], M11)) rfl rfl rfl (fun c_12 => ?_) (fun c_12 => ?_)
  rotate_left
  · exact absurd (by decide) (of_decide_eq_false c_12)
  refine ps_st (S' := (21, [(0, .ref m0), (1, .int 11)], [.ref m0], M11)) rfl rfl rfl ?_
  refine pr_int (j := 18) (S' := (24, [(0, .ref m0), (1, .int 11)], [.int (nI n2)], M11)) rfl hR13 rfl hi16 rfl ?_
  refine ps_if (S1 := (29, [(0, .ref m0), (1, .int 11)], [], M11)) (S2 := (27, [(0, .ref m0), (1, .int 11)], [], M11)) rfl rfl rfl (fun c_24 => ?_) (fun c_24 => ?_)
  rotate_left
  · exact absurd ((le_nI (p := 0) (n := n2) (by decide) (by omega)).mpr (by omega)) (of_decide_eq_false c_24)
  refine ps_st (S' := (30, [(0, .ref m0), (1, .int 11)], [.int 11], M11)) rfl rfl rfl ?_
  refine ps_st (S' := (172, [(0, .ref m0), (1, .int 11)], [], M11)) rfl rfl rfl ?_
  refine ps_st (S' := (173, [(0, .ref m0), (1, .int 11)], [.int 0], M11)) rfl rfl rfl ?_
  refine ps_st (S' := (174, [(2, .int 0), (0, .ref m0), (1, .int 11)], [], M11)) rfl rfl rfl ?_
  refine ps_st (S' := (175, [(2, .int 0), (0, .ref m0), (1, .int 11)], [.int 1], M11)) rfl rfl rfl ?_
  refine ps_st (S' := (176, [(0, .ref m0), (2, .int 0), (3, .int 1)], [], M11)) rfl rfl rfl ?_
  exact (LL kf) (1) (0) M11 I12 R hR13 hEI24 hER hi14 hi17 hi19 hi20 hF_21 hY_22 hP_23 (⟨Nat.le_refl _, hN1⟩) (by
      show 0 = 0 + (tX f n E 0).length
      rw [tx_no (by omega)]
      rfl)
theorem rd_count {g : xe_G} {m0 : Nat} {q : Nat → Nat} {z : Nat × Nat} {I : rI} {R : rR} {M : mi_H} {ko : Option (Nat × (Nat → Int32))} {w : Int32} (hR : RS g m0 q z I R M) (hK : KPR ko I R) (h0 : ¬ w < 0) (h1 : w ≤ 15) : pt (mT g) 198 [.ref m0, .int w] M (fun v M' => ∃ (I' : rI) (R' : rR), v = some (.int (cnK ko w)) ∧ RS g m0 q z I' R' M' ∧ eqI [0] I I' ∧ eqR [] R R' ∧ I' 0 = some 0) := by
  cases ko with
  | none =>
    obtain ⟨kn, k1, k2⟩ := hK
    exact rd_count0 hR k1 h0 h1 k2
  | some r =>
    obtain ⟨h2, h3, -, -, tx, cN, A, E, N, mj, p1, pF, pM, pA, k1, k2, k3, k4, k5, k6, k7, rfl, rfl, m1, m2, m3, m4, m5, m6, m7, m8, ⟨a1, a2, a3, -⟩, bc, K, m9, m10, g1, g2, g3, g4, g5, g6, g7⟩ := hK
    rw [cnK_is k7 m9 m10]
    have hcl := s_class_in m7
    have hN := by2_lt r.2 8
    have hpl := whole_in k7
    obtain ⟨hEP, hN1⟩ := EP_of hpl
    have hc0 := tg_0 hpl
    obtain ⟨ew, hw⟩ := i32_16 h0 h1
    obtain ⟨j, ej⟩ : ∃ j, j = w.toNatClampNeg := ⟨_, rfl⟩
    rw [← ej] at ew hw ⊢
    subst ew
    have hp1 : p1 + 8 ≤ r.1 := by omega
    have hch := chX_all hpl
    have hch2 := chL_pool hpl
    rcases (show j = 0 ∨ j = 1 ∨ j = 2 ∨ j = 3 ∨ j = 4 ∨ j = 5 ∨ j = 6 ∨ j = 7 ∨ j = 8 ∨ j = 9 ∨ j = 10 ∨ j = 11 ∨ j = 12 ∨ j = 13 ∨ j = 14 ∨ j = 15 by omega) with rfl | rfl | rfl | rfl | rfl | rfl | rfl | rfl | rfl | rfl | rfl | rfl | rfl | rfl | rfl | rfl
    · exact rd_count_0 hR h2 k5 h3
    · exact rd_count_1 hR h2 m1 h3
    · exact rd_count_2 hR h2 m2 h3
    · exact rd_count_3 hR h2 a3 h3
    · exact rd_count_4 hR h2 g1 h3
    · exact rd_count_5 hR h2 g2 h3
    · exact rd_count_6 hR h2 a2 h3
    · exact rd_count_7 hR h2 k6 h3
    · exact rd_count_8 hR h2 a1 k1 h3 hp1
    · exact rd_count_9 hR h2 a1 k1 h3 hp1
    · exact rd_count_10 hR h2 a1 k1 h3 hp1
    · exact (by rw [show cnV r.2 r.1 E p1 pF pM bc K 11 = nI (chX r.2 r.1 E (by2 r.2 8)) from by rw [hch]; rfl]; exact rd_count_11 hR h2 k4 k5 k6 k1 k2 k3 hEP hN (by2_lt _ _) h3 (by have := k1.1; omega) hN1 hc0)
    · exact rd_count_12 hR h2 g3 h3
    · exact rd_count_13 hR h2 g4 h3
    · exact rd_count_14 hR h2 g5 h3
    · exact rd_count_15 hR h2 g7 h3
end
section
/-! members and rows, as both sides tell them (my own text) -/
section MEA
variable {f : Nat → Int32} {n : Nat} {E : List (Nat × Nat)}
/-- a Code attribute's form is well in the file -/
def CIN (f : Nat → Int32) (n cp : Nat) : Prop := cp + 14 + by4 f (cp + 10) + 2 + 8 * by2 f (cp + 14 + by4 f (cp + 10)) + 2 ≤ n ∧ 1 ≤ by4 f (cp + 10) ∧ by4 f (cp + 10) ≤ 65535
theorem ma_in {mj w : Nat} : ∀ {r p s h h' e0 : Nat} {K : Nat × Nat × Nat}, maS f n E mj w r p s h = .inr h' → s_atts f n r p = .inr e0 → (maU f n E r p K).2.1 = K.2.1 ∨ CIN f n (maU f n E r p K).2.1 := by
  intro r
  induction r with
  | zero => intro p s h h' e0 K _ _; exact Or.inl rfl
  | succ r ih =>
    intro p s h h' e0 K h1 h2
    obtain ⟨a1, a2, a3⟩ := s_atts_in (c := r + 1) (i := 0) h2 (Nat.succ_pos r)
    have a3 : s_atts f n r (p + 6 + by4 f (p + 2)) = .inr e0 := a3
    have hU : maU f n E (r + 1) p K = maU f n E r (p + 6 + by4 f (p + 2)) (stM f (mkN f n E (by2 f p)) p K) := rfl
    rw [hU]
    unfold maS at h1
    split at h1
    · cases h1
    · split at h1
      · cases h1
      · rename_i hf
        split at h1
        · rename_i h2k
          split at h1
          · cases h1
          · rename_i s2 hcd
            have h9 := Decidable.not_not.mp (fun h9 => hf ⟨by omega, h9⟩)
            rw [h2k] at h9
            have hin := (s_cdE_in ((s_fe_in h9).2.2.2.2.2.2 rfl)).1
            have hin2 : p + 14 + by4 f (p + 10) + 2 + 8 * by2 f (p + 14 + by4 f (p + 10)) + 2 ≤ p + 6 + by4 f (p + 2) := hin
            have hlen : 1 ≤ by4 f (p + 10) ∧ by4 f (p + 10) ≤ 65535 := by
              unfold cdS at hcd
              split at hcd
              · cases hcd
              · omega
            rcases ih (K := stM f (mkN f n E (by2 f p)) p K) h1 a3 with h3 | h3
            · refine Or.inr ?_
              rw [h3, h2k, stM_2]
              exact ⟨by show p + 14 + by4 f (p + 10) + 2 + 8 * by2 f (p + 14 + by4 f (p + 10)) + 2 ≤ n; omega, hlen⟩
            · exact Or.inr h3
        · split at h1
          · cases h1
          · rename_i h2k h3k
            rcases ih (K := stM f (mkN f n E (by2 f p)) p K) h1 a3 with h3 | h3
            · refine Or.inl ?_
              rw [h3]
              unfold stM
              exact if_neg h2k
            · exact Or.inr h3
theorem mtS_in {c mj : Nat} {B : List Nat} : ∀ {r i : Nat}, mtS f n E c mj B r i = none → ∀ j, i ≤ j → j < i + r → mhS f n E c mj B j (B.getD j 0) = none ∧ ∃ h, maS f n E mj (apN f n E (B.getD j 0)) (by2 f (B.getD j 0 + 6)) (B.getD j 0 + 8) 0 0 = .inr h := by
  intro r
  induction r with
  | zero => intro i _ j h1 h2; exact absurd h2 (by omega)
  | succ r ih =>
    intro i h j h1 h2
    unfold mtS at h
    split at h
    · cases h
    · rename_i hm
      split at h
      · cases h
      · rename_i hh he
        split at h
        · cases h
        · by_cases e : j = i
          · subst e
            exact ⟨hm, _, he⟩
          · exact ih h j (by omega) (by omega)
theorem rd_mt {p1 pF pM pA : Nat} (h : s_whole f n = .inr (E, p1, pF, pM, pA)) (hr : s_read f n = none) : mtS f n E (by2 f p1) (by2 f 6) (mbs f n (by2 f pM) (pM + 2)) (mbs f n (by2 f pM) (pM + 2)).length 0 = none := by
  unfold s_read at hr
  rw [h] at hr
  dsimp only at hr
  unfold s_chk at hr
  split at hr
  · cases hr
  · split at hr
    · cases hr
    · split at hr
      · cases hr
      · split at hr
        · cases hr
        · split at hr
          · cases hr
          · rename_i he
            exact he
/-- a method's code is well in the file -/
theorem code_in {p1 pF pM pA j : Nat} (h : s_whole f n = .inr (E, p1, pF, pM, pA)) (hr : s_read f n = none) (hm : s_mbs f n pM = .inr pA) (hj : j < (mbs f n (by2 f pM) (pM + 2)).length) : (mK f n E ((mbs f n (by2 f pM) (pM + 2)).getD j 0)).2.1 = 0 ∨ CIN f n (mK f n E ((mbs f n (by2 f pM) (pM + 2)).getD j 0)).2.1 := by
  obtain ⟨-, h9, hma⟩ := mtS_in (rd_mt h hr) j (Nat.zero_le _) (by omega)
  have hm2 : s_mems f n (by2 f pM) (pM + 2) = .inr pA := by
    unfold s_mbs at hm
    split at hm
    · cases hm
    · exact hm
  obtain ⟨-, e0, hat⟩ := (mbs_in hm2).2 j hj
  exact ma_in (K := (0, 0, 0)) hma hat
theorem mth_of {p1 pF pM pA j : Nat} (h : s_whole f n = .inr (E, p1, pF, pM, pA)) (hr : s_read f n = none) (hj : j < (mbs f n (by2 f pM) (pM + 2)).length) : ¬ mthN (tX f n E (by2 f ((mbs f n (by2 f pM) (pM + 2)).getD j 0 + 4))) = 0 := by
  obtain ⟨hm, -⟩ := mtS_in (rd_mt h hr) j (Nat.zero_le _) (by omega)
  intro h0
  unfold mhS at hm
  split at hm
  · cases hm
  · split at hm
    · cases hm
    · split at hm
      · cases hm
      · rename_i hd
        exact hd (by unfold mdsN; rw [if_pos (Or.inl h0)])
/-- what a field tells -/
def meF (f : Nat → Int32) (n : Nat) (E : List (Nat × Nat)) (b : Nat) : Nat → Int32
  | 0 => nI (by2 f b)
  | 1 => nI (by2 f (b + 2))
  | 2 => nI (by2 f (b + 4))
  | 3 => nI (fK f n E b).1
  | 4 => nI (fK f n E b).2
  | _ => 0
/-- what a method tells -/
def meM (f : Nat → Int32) (n : Nat) (E : List (Nat × Nat)) (b : Nat) : Nat → Int32
  | 0 => nI (by2 f b)
  | 1 => nI (by2 f (b + 2))
  | 2 => nI (by2 f (b + 4))
  | 3 => nI (mK f n E b).1
  | 4 => if (mK f n E b).2.1 = 0 then 0 else nI (by4 f ((mK f n E b).2.1 + 10))
  | 5 => if (mK f n E b).2.1 = 0 then 0 else nI (by2 f ((mK f n E b).2.1 + 6))
  | 6 => if (mK f n E b).2.1 = 0 then 0 else nI (by2 f ((mK f n E b).2.1 + 8))
  | 7 => if (mK f n E b).2.1 = 0 then 0 else nI (by2 f ((mK f n E b).2.1 + 14 + by4 f ((mK f n E b).2.1 + 10)))
  | 8 => nI (apN f n E b)
  | _ => nI (mK f n E b).2.2
theorem meM_4N {b : Nat} (h : (mK f n E b).2.1 = 0) : meM f n E b 4 = 0 := if_pos h
theorem meM_4C {b : Nat} (h : ¬ (mK f n E b).2.1 = 0) : meM f n E b 4 = nI (by4 f ((mK f n E b).2.1 + 10)) := if_neg h
theorem meM_5N {b : Nat} (h : (mK f n E b).2.1 = 0) : meM f n E b 5 = 0 := if_pos h
theorem meM_5C {b : Nat} (h : ¬ (mK f n E b).2.1 = 0) : meM f n E b 5 = nI (by2 f ((mK f n E b).2.1 + 6)) := if_neg h
theorem meM_6N {b : Nat} (h : (mK f n E b).2.1 = 0) : meM f n E b 6 = 0 := if_pos h
theorem meM_6C {b : Nat} (h : ¬ (mK f n E b).2.1 = 0) : meM f n E b 6 = nI (by2 f ((mK f n E b).2.1 + 8)) := if_neg h
theorem meM_7N {b : Nat} (h : (mK f n E b).2.1 = 0) : meM f n E b 7 = 0 := if_pos h
theorem meM_7C {b : Nat} (h : ¬ (mK f n E b).2.1 = 0) : meM f n E b 7 = nI (by2 f ((mK f n E b).2.1 + 14 + by4 f ((mK f n E b).2.1 + 10))) := if_neg h
def meI (B : List Nat) (g : Nat → Nat → Int32) (i w : Int32) : Int32 := if i < 0 ∨ nI B.length ≤ i then -1 else g (B.getD i.toNatClampNeg 0) w.toNatClampNeg
def meK (ko : Option (Nat × (Nat → Int32))) (t i w : Int32) : Int32 := match ko with
  | none => -1
  | some r => match s_whole r.2 r.1 with
    | .inl _ => -1
    | .inr x => if t = 0 then meI (mbs r.2 r.1 (by2 r.2 x.2.2.1) (x.2.2.1 + 2)) (meF r.2 r.1 x.1) i w else meI (mbs r.2 r.1 (by2 r.2 x.2.2.2.1) (x.2.2.2.1 + 2)) (meM r.2 r.1 x.1) i w
theorem meK_is {r : Nat × (Nat → Int32)} {t i w : Int32} {p1 pF pM pA : Nat} (h : s_whole r.2 r.1 = .inr (E, p1, pF, pM, pA)) : meK (some r) t i w = if t = 0 then meI (mbs r.2 r.1 (by2 r.2 pF) (pF + 2)) (meF r.2 r.1 E) i w else meI (mbs r.2 r.1 (by2 r.2 pM) (pM + 2)) (meM r.2 r.1 E) i w := by
  show (match s_whole r.2 r.1 with | .inl _ => -1 | .inr x => if t = 0 then meI (mbs r.2 r.1 (by2 r.2 x.2.2.1) (x.2.2.1 + 2)) (meF r.2 r.1 x.1) i w else meI (mbs r.2 r.1 (by2 r.2 x.2.2.2.1) (x.2.2.2.1 + 2)) (meM r.2 r.1 x.1) i w) = _
  rw [h]
/-- a row of a method's code -/
def roI (f : Nat → Int32) (cp : Nat) (r x : Int32) : Int32 := if cp = 0 then -1 else if r < 0 ∨ nI (by2 f (cp + 14 + by4 f (cp + 10))) ≤ r then -1 else nI (by2 f (cp + 14 + by4 f (cp + 10) + 2 + 8 * r.toNatClampNeg + 2 * x.toNatClampNeg))
def roK (ko : Option (Nat × (Nat → Int32))) (m r x : Int32) : Int32 := match ko with
  | none => -1
  | some k => match s_whole k.2 k.1 with
    | .inl _ => -1
    | .inr w => if m < 0 ∨ nI (mbs k.2 k.1 (by2 k.2 w.2.2.2.1) (w.2.2.2.1 + 2)).length ≤ m then -1 else roI k.2 (mK k.2 k.1 w.1 ((mbs k.2 k.1 (by2 k.2 w.2.2.2.1) (w.2.2.2.1 + 2)).getD m.toNatClampNeg 0)).2.1 r x
theorem roK_is {k : Nat × (Nat → Int32)} {m r x : Int32} {p1 pF pM pA : Nat} (h : s_whole k.2 k.1 = .inr (E, p1, pF, pM, pA)) : roK (some k) m r x = if m < 0 ∨ nI (mbs k.2 k.1 (by2 k.2 pM) (pM + 2)).length ≤ m then -1 else roI k.2 (mK k.2 k.1 E ((mbs k.2 k.1 (by2 k.2 pM) (pM + 2)).getD m.toNatClampNeg 0)).2.1 r x := by
  show (match s_whole k.2 k.1 with | .inl _ => -1 | .inr w => if m < 0 ∨ nI (mbs k.2 k.1 (by2 k.2 w.2.2.2.1) (w.2.2.2.1 + 2)).length ≤ m then -1 else roI k.2 (mK k.2 k.1 w.1 ((mbs k.2 k.1 (by2 k.2 w.2.2.2.1) (w.2.2.2.1 + 2)).getD m.toNatClampNeg 0)).2.1 r x) = _
  rw [h]
theorem i32_10 {w : Int32} (h0 : ¬ w < 0) (h1 : w ≤ 9) : w = nI w.toNatClampNeg ∧ w.toNatClampNeg < 10 := by
  have a := Int32.le_iff_toInt_le.mp h1
  have e : (9 : Int32).toInt = 9 := rfl
  have b := i32_to h0
  exact ⟨i32_nn h0, by omega⟩
theorem i32_4 {w : Int32} (h0 : ¬ w < 0) (h1 : w ≤ 3) : w = nI w.toNatClampNeg ∧ w.toNatClampNeg < 4 := by
  have a := Int32.le_iff_toInt_le.mp h1
  have e : (3 : Int32).toInt = 3 := rfl
  have b := i32_to h0
  exact ⟨i32_nn h0, by omega⟩
end MEA
set_option maxHeartbeats 1000000 in
theorem dk_memberAtNF {g : xe_G} {M : mi_H} {c b q fr mr l : Nat} {u2 u3 u4 u5 : Int32} {w : List Value} {R : Nat → Value} {t i : Int32} (h_c : M.1 c = some (ob 3 (.ref b :: .ref q :: .int u2 :: .int u3 :: .int u4 :: .int u5 :: .ref fr :: .ref mr :: w))) (h_fr : M.1 fr = some (ro "ClassGate$Member" l R)) (ht : t = 0) (hi : i < 0 ∨ nI l ≤ i) : pt (mT g) 72 [.ref c, .int t, .int i] M (fun v M' => (v = some (.null) ∧ M = M')) := by
  refine pt_in (b := mb_72 g) rfl (fun kf => ?_)
  show pl (mT g) kf (mb_72 g).2 (0, [(0, .ref c), (1, .int t), (2, .int i)], [], M) _
  refine ps_st (S' := (1, [(0, .ref c), (1, .int t), (2, .int i)], [.int t], M)) rfl rfl rfl ?_
  refine ps_if (S1 := (11, [(0, .ref c), (1, .int t), (2, .int i)], [], M)) (S2 := (4, [(0, .ref c), (1, .int t), (2, .int i)], [], M)) rfl rfl rfl (fun c_1 => ?_) (fun c_1 => ?_)
  rotate_left
  · exact absurd (ht) (of_decide_eq_false c_1)
  refine ps_st (S' := (12, [(0, .ref c), (1, .int t), (2, .int i)], [.ref c], M)) rfl rfl rfl ?_
  refine ps_get (S' := (15, [(2, .int i)], [.ref fr], M)) rfl h_c rfl rfl ?_
  refine ps_st (S' := (16, [(3, .ref fr), (2, .int i)], [], M)) rfl rfl rfl ?_
  refine ps_st (S' := (17, [(3, .ref fr), (2, .int i)], [.int i], M)) rfl rfl rfl ?_
  refine ps_if (S1 := (26, [], [], M)) (S2 := (20, [(3, .ref fr), (2, .int i)], [], M)) rfl rfl rfl (fun c_17 => ?_) (fun c_17 => ?_)
  · have c_17 : i < 0 := of_decide_eq_true c_17
    refine ps_st (S' := (27, [], [.null], M)) rfl rfl rfl ?_
    refine ps_st (S' := (33, [], [.null], M)) rfl rfl rfl ?_
    exact ps_ret rfl rfl (⟨rfl, rfl⟩)
  · have c_17 : ¬ (i < 0) := of_decide_eq_false c_17
    refine ps_st (S' := (21, [(3, .ref fr), (2, .int i)], [.int i], M)) rfl rfl rfl ?_
    refine ps_st (S' := (22, [(3, .ref fr), (2, .int i)], [.ref fr, .int i], M)) rfl rfl rfl ?_
    refine ps_aalen (S' := (23, [(3, .ref fr), (2, .int i)], [.int (nI l), .int i], M)) rfl h_fr rfl ?_
    refine ps_if2 (S1 := (30, [(3, .ref fr), (2, .int i)], [], M)) (S2 := (26, [], [], M)) rfl rfl rfl (fun c_23 => ?_) (fun c_23 => ?_)
    · exact absurd (of_decide_eq_true c_23) (Int32.not_lt.mpr (hi.resolve_left c_17))
    refine ps_st (S' := (27, [], [.null], M)) rfl rfl rfl ?_
    refine ps_st (S' := (33, [], [.null], M)) rfl rfl rfl ?_
    exact ps_ret rfl rfl (⟨rfl, rfl⟩)
set_option maxHeartbeats 1000000 in
theorem dk_memberAtF {g : xe_G} {M : mi_H} {c b q fr mr l : Nat} {u2 u3 u4 u5 : Int32} {w : List Value} {R : Nat → Value} {t : Int32} {k a : Nat} (h_c : M.1 c = some (ob 3 (.ref b :: .ref q :: .int u2 :: .int u3 :: .int u4 :: .int u5 :: .ref fr :: .ref mr :: w))) (h_fr : M.1 fr = some (ro "ClassGate$Member" l R)) (ht : t = 0) (hk : k < l) (hl : l < 65536) (hR : R k = .ref a) : pt (mT g) 72 [.ref c, .int t, .int (nI k)] M (fun v M' => (v = some (.ref a) ∧ M = M')) := by
  refine pt_in (b := mb_72 g) rfl (fun kf => ?_)
  show pl (mT g) kf (mb_72 g).2 (0, [(0, .ref c), (1, .int t), (2, .int (nI k))], [], M) _
  refine ps_st (S' := (1, [(0, .ref c), (1, .int t), (2, .int (nI k))], [.int t], M)) rfl rfl rfl ?_
  refine ps_if (S1 := (11, [(0, .ref c), (1, .int t), (2, .int (nI k))], [], M)) (S2 := (4, [(0, .ref c), (1, .int t), (2, .int (nI k))], [], M)) rfl rfl rfl (fun c_1 => ?_) (fun c_1 => ?_)
  rotate_left
  · exact absurd (ht) (of_decide_eq_false c_1)
  refine ps_st (S' := (12, [(0, .ref c), (1, .int t), (2, .int (nI k))], [.ref c], M)) rfl rfl rfl ?_
  refine ps_get (S' := (15, [(2, .int (nI k))], [.ref fr], M)) rfl h_c rfl rfl ?_
  refine ps_st (S' := (16, [(3, .ref fr), (2, .int (nI k))], [], M)) rfl rfl rfl ?_
  refine ps_st (S' := (17, [(3, .ref fr), (2, .int (nI k))], [.int (nI k)], M)) rfl rfl rfl ?_
  refine ps_if (S1 := (26, [], [], M)) (S2 := (20, [(3, .ref fr), (2, .int (nI k))], [], M)) rfl rfl rfl (fun c_17 => ?_) (fun c_17 => ?_)
  · exact absurd (of_decide_eq_true c_17) (nI_n0 (by omega))
  refine ps_st (S' := (21, [(3, .ref fr), (2, .int (nI k))], [.int (nI k)], M)) rfl rfl rfl ?_
  refine ps_st (S' := (22, [(3, .ref fr), (2, .int (nI k))], [.ref fr, .int (nI k)], M)) rfl rfl rfl ?_
  refine ps_aalen (S' := (23, [(3, .ref fr), (2, .int (nI k))], [.int (nI l), .int (nI k)], M)) rfl h_fr rfl ?_
  refine ps_if2 (S1 := (30, [(3, .ref fr), (2, .int (nI k))], [], M)) (S2 := (26, [], [], M)) rfl rfl rfl (fun c_23 => ?_) (fun c_23 => ?_)
  rotate_left
  · exact absurd ((lt_nI (p := k) (n := l) (by omega) (by omega)).mpr hk) (of_decide_eq_false c_23)
  refine ps_st (S' := (31, [(3, .ref fr), (2, .int (nI k))], [.ref fr], M)) rfl rfl rfl ?_
  refine ps_st (S' := (32, [(3, .ref fr), (2, .int (nI k))], [.int (nI k), .ref fr], M)) rfl rfl rfl ?_
  refine ps_aald (S' := (33, [], [.ref a], M)) rfl h_fr (⟨by omega, hR⟩) rfl ?_
  exact ps_ret rfl rfl (⟨rfl, rfl⟩)
set_option maxHeartbeats 1000000 in
theorem dk_memberAtNM {g : xe_G} {M : mi_H} {c b q fr mr l : Nat} {u2 u3 u4 u5 : Int32} {w : List Value} {R : Nat → Value} {t i : Int32} (h_c : M.1 c = some (ob 3 (.ref b :: .ref q :: .int u2 :: .int u3 :: .int u4 :: .int u5 :: .ref fr :: .ref mr :: w))) (h_mr : M.1 mr = some (ro "ClassGate$Member" l R)) (ht : ¬ t = 0) (hi : i < 0 ∨ nI l ≤ i) : pt (mT g) 72 [.ref c, .int t, .int i] M (fun v M' => (v = some (.null) ∧ M = M')) := by
  refine pt_in (b := mb_72 g) rfl (fun kf => ?_)
  show pl (mT g) kf (mb_72 g).2 (0, [(0, .ref c), (1, .int t), (2, .int i)], [], M) _
  refine ps_st (S' := (1, [(0, .ref c), (1, .int t), (2, .int i)], [.int t], M)) rfl rfl rfl ?_
  refine ps_if (S1 := (11, [(0, .ref c), (1, .int t), (2, .int i)], [], M)) (S2 := (4, [(0, .ref c), (1, .int t), (2, .int i)], [], M)) rfl rfl rfl (fun c_1 => ?_) (fun c_1 => ?_)
  · exact absurd (of_decide_eq_true c_1) (ht)
  refine ps_st (S' := (5, [(0, .ref c), (1, .int t), (2, .int i)], [.ref c], M)) rfl rfl rfl ?_
  refine ps_get (S' := (8, [(0, .ref c), (1, .int t), (2, .int i)], [.ref mr], M)) rfl h_c rfl rfl ?_
  refine ps_st (S' := (15, [(2, .int i)], [.ref mr], M)) rfl rfl rfl ?_
  refine ps_st (S' := (16, [(3, .ref mr), (2, .int i)], [], M)) rfl rfl rfl ?_
  refine ps_st (S' := (17, [(3, .ref mr), (2, .int i)], [.int i], M)) rfl rfl rfl ?_
  refine ps_if (S1 := (26, [], [], M)) (S2 := (20, [(3, .ref mr), (2, .int i)], [], M)) rfl rfl rfl (fun c_17 => ?_) (fun c_17 => ?_)
  · have c_17 : i < 0 := of_decide_eq_true c_17
    refine ps_st (S' := (27, [], [.null], M)) rfl rfl rfl ?_
    refine ps_st (S' := (33, [], [.null], M)) rfl rfl rfl ?_
    exact ps_ret rfl rfl (⟨rfl, rfl⟩)
  · have c_17 : ¬ (i < 0) := of_decide_eq_false c_17
    refine ps_st (S' := (21, [(3, .ref mr), (2, .int i)], [.int i], M)) rfl rfl rfl ?_
    refine ps_st (S' := (22, [(3, .ref mr), (2, .int i)], [.ref mr, .int i], M)) rfl rfl rfl ?_
    refine ps_aalen (S' := (23, [(3, .ref mr), (2, .int i)], [.int (nI l), .int i], M)) rfl h_mr rfl ?_
    refine ps_if2 (S1 := (30, [(3, .ref mr), (2, .int i)], [], M)) (S2 := (26, [], [], M)) rfl rfl rfl (fun c_23 => ?_) (fun c_23 => ?_)
    · exact absurd (of_decide_eq_true c_23) (Int32.not_lt.mpr (hi.resolve_left c_17))
    refine ps_st (S' := (27, [], [.null], M)) rfl rfl rfl ?_
    refine ps_st (S' := (33, [], [.null], M)) rfl rfl rfl ?_
    exact ps_ret rfl rfl (⟨rfl, rfl⟩)
set_option maxHeartbeats 1000000 in
theorem dk_memberAtM {g : xe_G} {M : mi_H} {c b q fr mr l : Nat} {u2 u3 u4 u5 : Int32} {w : List Value} {R : Nat → Value} {t : Int32} {k a : Nat} (h_c : M.1 c = some (ob 3 (.ref b :: .ref q :: .int u2 :: .int u3 :: .int u4 :: .int u5 :: .ref fr :: .ref mr :: w))) (h_mr : M.1 mr = some (ro "ClassGate$Member" l R)) (ht : ¬ t = 0) (hk : k < l) (hl : l < 65536) (hR : R k = .ref a) : pt (mT g) 72 [.ref c, .int t, .int (nI k)] M (fun v M' => (v = some (.ref a) ∧ M = M')) := by
  refine pt_in (b := mb_72 g) rfl (fun kf => ?_)
  show pl (mT g) kf (mb_72 g).2 (0, [(0, .ref c), (1, .int t), (2, .int (nI k))], [], M) _
  refine ps_st (S' := (1, [(0, .ref c), (1, .int t), (2, .int (nI k))], [.int t], M)) rfl rfl rfl ?_
  refine ps_if (S1 := (11, [(0, .ref c), (1, .int t), (2, .int (nI k))], [], M)) (S2 := (4, [(0, .ref c), (1, .int t), (2, .int (nI k))], [], M)) rfl rfl rfl (fun c_1 => ?_) (fun c_1 => ?_)
  · exact absurd (of_decide_eq_true c_1) (ht)
  refine ps_st (S' := (5, [(0, .ref c), (1, .int t), (2, .int (nI k))], [.ref c], M)) rfl rfl rfl ?_
  refine ps_get (S' := (8, [(0, .ref c), (1, .int t), (2, .int (nI k))], [.ref mr], M)) rfl h_c rfl rfl ?_
  refine ps_st (S' := (15, [(2, .int (nI k))], [.ref mr], M)) rfl rfl rfl ?_
  refine ps_st (S' := (16, [(3, .ref mr), (2, .int (nI k))], [], M)) rfl rfl rfl ?_
  refine ps_st (S' := (17, [(3, .ref mr), (2, .int (nI k))], [.int (nI k)], M)) rfl rfl rfl ?_
  refine ps_if (S1 := (26, [], [], M)) (S2 := (20, [(3, .ref mr), (2, .int (nI k))], [], M)) rfl rfl rfl (fun c_17 => ?_) (fun c_17 => ?_)
  · exact absurd (of_decide_eq_true c_17) (nI_n0 (by omega))
  refine ps_st (S' := (21, [(3, .ref mr), (2, .int (nI k))], [.int (nI k)], M)) rfl rfl rfl ?_
  refine ps_st (S' := (22, [(3, .ref mr), (2, .int (nI k))], [.ref mr, .int (nI k)], M)) rfl rfl rfl ?_
  refine ps_aalen (S' := (23, [(3, .ref mr), (2, .int (nI k))], [.int (nI l), .int (nI k)], M)) rfl h_mr rfl ?_
  refine ps_if2 (S1 := (30, [(3, .ref mr), (2, .int (nI k))], [], M)) (S2 := (26, [], [], M)) rfl rfl rfl (fun c_23 => ?_) (fun c_23 => ?_)
  rotate_left
  · exact absurd ((lt_nI (p := k) (n := l) (by omega) (by omega)).mpr hk) (of_decide_eq_false c_23)
  refine ps_st (S' := (31, [(3, .ref mr), (2, .int (nI k))], [.ref mr], M)) rfl rfl rfl ?_
  refine ps_st (S' := (32, [(3, .ref mr), (2, .int (nI k))], [.int (nI k), .ref mr], M)) rfl rfl rfl ?_
  refine ps_aald (S' := (33, [], [.ref a], M)) rfl h_mr (⟨by omega, hR⟩) rfl ?_
  exact ps_ret rfl rfl (⟨rfl, rfl⟩)
set_option maxHeartbeats 1000000 in
theorem dk_mnumF0 {g : xe_G} {M : mi_H} {a : Nat} {t m0 m1 m2 m3 m4 m5 m6 m7 m8 m9 : Int32} {mv : Value} (h_a : M.1 a = some (ob 6 [.int m0, .int m1, .int m2, .int m3, .int m4, .int m5, .int m6, .int m7, .int m8, .int m9, mv])) (ht : t = 0) : pt (mT g) 109 [.ref a, .int t, .int 0] M (fun v M' => (v = some (.int m1) ∧ M = M')) := by
  refine pt_in (b := mb_109 g) rfl (fun kf => ?_)
  show pl (mT g) kf (mb_109 g).2 (0, [(0, .ref a), (1, .int t), (2, .int 0)], [], M) _
  refine ps_st (S' := (1, [(0, .ref a), (1, .int t), (2, .int 0)], [.int 0], M)) rfl rfl rfl ?_
  refine ps_st (S' := (56, [(0, .ref a), (1, .int t), (2, .int 0)], [], M)) rfl rfl rfl ?_
  refine ps_st (S' := (57, [(0, .ref a), (1, .int t), (2, .int 0)], [.ref a], M)) rfl rfl rfl ?_
  refine ps_get (S' := (60, [(0, .ref a), (1, .int t), (2, .int 0)], [.int m1], M)) rfl h_a rfl rfl ?_
  exact ps_reti rfl (⟨rfl, rfl⟩)
set_option maxHeartbeats 1000000 in
theorem dk_mnumM0 {g : xe_G} {M : mi_H} {a : Nat} {t m0 m1 m2 m3 m4 m5 m6 m7 m8 m9 : Int32} {mv : Value} (h_a : M.1 a = some (ob 6 [.int m0, .int m1, .int m2, .int m3, .int m4, .int m5, .int m6, .int m7, .int m8, .int m9, mv])) (ht : ¬ t = 0) : pt (mT g) 109 [.ref a, .int t, .int 0] M (fun v M' => (v = some (.int m1) ∧ M = M')) := by
  refine pt_in (b := mb_109 g) rfl (fun kf => ?_)
  show pl (mT g) kf (mb_109 g).2 (0, [(0, .ref a), (1, .int t), (2, .int 0)], [], M) _
  refine ps_st (S' := (1, [(0, .ref a), (1, .int t), (2, .int 0)], [.int 0], M)) rfl rfl rfl ?_
  refine ps_st (S' := (56, [(0, .ref a), (1, .int t), (2, .int 0)], [], M)) rfl rfl rfl ?_
  refine ps_st (S' := (57, [(0, .ref a), (1, .int t), (2, .int 0)], [.ref a], M)) rfl rfl rfl ?_
  refine ps_get (S' := (60, [(0, .ref a), (1, .int t), (2, .int 0)], [.int m1], M)) rfl h_a rfl rfl ?_
  exact ps_reti rfl (⟨rfl, rfl⟩)
set_option maxHeartbeats 1000000 in
theorem dk_mnumF1 {g : xe_G} {M : mi_H} {a : Nat} {t m0 m1 m2 m3 m4 m5 m6 m7 m8 m9 : Int32} {mv : Value} (h_a : M.1 a = some (ob 6 [.int m0, .int m1, .int m2, .int m3, .int m4, .int m5, .int m6, .int m7, .int m8, .int m9, mv])) (ht : t = 0) : pt (mT g) 109 [.ref a, .int t, .int 1] M (fun v M' => (v = some (.int m2) ∧ M = M')) := by
  refine pt_in (b := mb_109 g) rfl (fun kf => ?_)
  show pl (mT g) kf (mb_109 g).2 (0, [(0, .ref a), (1, .int t), (2, .int 1)], [], M) _
  refine ps_st (S' := (1, [(0, .ref a), (1, .int t), (2, .int 1)], [.int 1], M)) rfl rfl rfl ?_
  refine ps_st (S' := (61, [(0, .ref a), (1, .int t), (2, .int 1)], [], M)) rfl rfl rfl ?_
  refine ps_st (S' := (62, [(0, .ref a), (1, .int t), (2, .int 1)], [.ref a], M)) rfl rfl rfl ?_
  refine ps_get (S' := (65, [(0, .ref a), (1, .int t), (2, .int 1)], [.int m2], M)) rfl h_a rfl rfl ?_
  exact ps_reti rfl (⟨rfl, rfl⟩)
set_option maxHeartbeats 1000000 in
theorem dk_mnumM1 {g : xe_G} {M : mi_H} {a : Nat} {t m0 m1 m2 m3 m4 m5 m6 m7 m8 m9 : Int32} {mv : Value} (h_a : M.1 a = some (ob 6 [.int m0, .int m1, .int m2, .int m3, .int m4, .int m5, .int m6, .int m7, .int m8, .int m9, mv])) (ht : ¬ t = 0) : pt (mT g) 109 [.ref a, .int t, .int 1] M (fun v M' => (v = some (.int m2) ∧ M = M')) := by
  refine pt_in (b := mb_109 g) rfl (fun kf => ?_)
  show pl (mT g) kf (mb_109 g).2 (0, [(0, .ref a), (1, .int t), (2, .int 1)], [], M) _
  refine ps_st (S' := (1, [(0, .ref a), (1, .int t), (2, .int 1)], [.int 1], M)) rfl rfl rfl ?_
  refine ps_st (S' := (61, [(0, .ref a), (1, .int t), (2, .int 1)], [], M)) rfl rfl rfl ?_
  refine ps_st (S' := (62, [(0, .ref a), (1, .int t), (2, .int 1)], [.ref a], M)) rfl rfl rfl ?_
  refine ps_get (S' := (65, [(0, .ref a), (1, .int t), (2, .int 1)], [.int m2], M)) rfl h_a rfl rfl ?_
  exact ps_reti rfl (⟨rfl, rfl⟩)
set_option maxHeartbeats 1000000 in
theorem dk_mnumF2 {g : xe_G} {M : mi_H} {a : Nat} {t m0 m1 m2 m3 m4 m5 m6 m7 m8 m9 : Int32} {mv : Value} (h_a : M.1 a = some (ob 6 [.int m0, .int m1, .int m2, .int m3, .int m4, .int m5, .int m6, .int m7, .int m8, .int m9, mv])) (ht : t = 0) : pt (mT g) 109 [.ref a, .int t, .int 2] M (fun v M' => (v = some (.int m3) ∧ M = M')) := by
  refine pt_in (b := mb_109 g) rfl (fun kf => ?_)
  show pl (mT g) kf (mb_109 g).2 (0, [(0, .ref a), (1, .int t), (2, .int 2)], [], M) _
  refine ps_st (S' := (1, [(0, .ref a), (1, .int t), (2, .int 2)], [.int 2], M)) rfl rfl rfl ?_
  refine ps_st (S' := (66, [(0, .ref a), (1, .int t), (2, .int 2)], [], M)) rfl rfl rfl ?_
  refine ps_st (S' := (67, [(0, .ref a), (1, .int t), (2, .int 2)], [.ref a], M)) rfl rfl rfl ?_
  refine ps_get (S' := (70, [(0, .ref a), (1, .int t), (2, .int 2)], [.int m3], M)) rfl h_a rfl rfl ?_
  exact ps_reti rfl (⟨rfl, rfl⟩)
set_option maxHeartbeats 1000000 in
theorem dk_mnumM2 {g : xe_G} {M : mi_H} {a : Nat} {t m0 m1 m2 m3 m4 m5 m6 m7 m8 m9 : Int32} {mv : Value} (h_a : M.1 a = some (ob 6 [.int m0, .int m1, .int m2, .int m3, .int m4, .int m5, .int m6, .int m7, .int m8, .int m9, mv])) (ht : ¬ t = 0) : pt (mT g) 109 [.ref a, .int t, .int 2] M (fun v M' => (v = some (.int m3) ∧ M = M')) := by
  refine pt_in (b := mb_109 g) rfl (fun kf => ?_)
  show pl (mT g) kf (mb_109 g).2 (0, [(0, .ref a), (1, .int t), (2, .int 2)], [], M) _
  refine ps_st (S' := (1, [(0, .ref a), (1, .int t), (2, .int 2)], [.int 2], M)) rfl rfl rfl ?_
  refine ps_st (S' := (66, [(0, .ref a), (1, .int t), (2, .int 2)], [], M)) rfl rfl rfl ?_
  refine ps_st (S' := (67, [(0, .ref a), (1, .int t), (2, .int 2)], [.ref a], M)) rfl rfl rfl ?_
  refine ps_get (S' := (70, [(0, .ref a), (1, .int t), (2, .int 2)], [.int m3], M)) rfl h_a rfl rfl ?_
  exact ps_reti rfl (⟨rfl, rfl⟩)
set_option maxHeartbeats 1000000 in
theorem dk_mnumF3 {g : xe_G} {M : mi_H} {a : Nat} {t m0 m1 m2 m3 m4 m5 m6 m7 m8 m9 : Int32} {mv : Value} (h_a : M.1 a = some (ob 6 [.int m0, .int m1, .int m2, .int m3, .int m4, .int m5, .int m6, .int m7, .int m8, .int m9, mv])) (ht : t = 0) : pt (mT g) 109 [.ref a, .int t, .int 3] M (fun v M' => (v = some (.int m6) ∧ M = M')) := by
  refine pt_in (b := mb_109 g) rfl (fun kf => ?_)
  show pl (mT g) kf (mb_109 g).2 (0, [(0, .ref a), (1, .int t), (2, .int 3)], [], M) _
  refine ps_st (S' := (1, [(0, .ref a), (1, .int t), (2, .int 3)], [.int 3], M)) rfl rfl rfl ?_
  refine ps_st (S' := (71, [(0, .ref a), (1, .int t), (2, .int 3)], [], M)) rfl rfl rfl ?_
  refine ps_st (S' := (72, [(0, .ref a), (1, .int t), (2, .int 3)], [.ref a], M)) rfl rfl rfl ?_
  refine ps_get (S' := (75, [(0, .ref a), (1, .int t), (2, .int 3)], [.int m6], M)) rfl h_a rfl rfl ?_
  exact ps_reti rfl (⟨rfl, rfl⟩)
set_option maxHeartbeats 1000000 in
theorem dk_mnumM3 {g : xe_G} {M : mi_H} {a : Nat} {t m0 m1 m2 m3 m4 m5 m6 m7 m8 m9 : Int32} {mv : Value} (h_a : M.1 a = some (ob 6 [.int m0, .int m1, .int m2, .int m3, .int m4, .int m5, .int m6, .int m7, .int m8, .int m9, mv])) (ht : ¬ t = 0) : pt (mT g) 109 [.ref a, .int t, .int 3] M (fun v M' => (v = some (.int m6) ∧ M = M')) := by
  refine pt_in (b := mb_109 g) rfl (fun kf => ?_)
  show pl (mT g) kf (mb_109 g).2 (0, [(0, .ref a), (1, .int t), (2, .int 3)], [], M) _
  refine ps_st (S' := (1, [(0, .ref a), (1, .int t), (2, .int 3)], [.int 3], M)) rfl rfl rfl ?_
  refine ps_st (S' := (71, [(0, .ref a), (1, .int t), (2, .int 3)], [], M)) rfl rfl rfl ?_
  refine ps_st (S' := (72, [(0, .ref a), (1, .int t), (2, .int 3)], [.ref a], M)) rfl rfl rfl ?_
  refine ps_get (S' := (75, [(0, .ref a), (1, .int t), (2, .int 3)], [.int m6], M)) rfl h_a rfl rfl ?_
  exact ps_reti rfl (⟨rfl, rfl⟩)
set_option maxHeartbeats 1000000 in
theorem dk_mnumF4 {g : xe_G} {M : mi_H} {a : Nat} {t m0 m1 m2 m3 m4 m5 m6 m7 m8 m9 : Int32} {mv : Value} (h_a : M.1 a = some (ob 6 [.int m0, .int m1, .int m2, .int m3, .int m4, .int m5, .int m6, .int m7, .int m8, .int m9, mv])) (ht : t = 0) : pt (mT g) 109 [.ref a, .int t, .int 4] M (fun v M' => (v = some (.int m7) ∧ M = M')) := by
  refine pt_in (b := mb_109 g) rfl (fun kf => ?_)
  show pl (mT g) kf (mb_109 g).2 (0, [(0, .ref a), (1, .int t), (2, .int 4)], [], M) _
  refine ps_st (S' := (1, [(0, .ref a), (1, .int t), (2, .int 4)], [.int 4], M)) rfl rfl rfl ?_
  refine ps_st (S' := (86, [(0, .ref a), (1, .int t), (2, .int 4)], [], M)) rfl rfl rfl ?_
  refine ps_st (S' := (87, [(0, .ref a), (1, .int t), (2, .int 4)], [.int t], M)) rfl rfl rfl ?_
  refine ps_if (S1 := (98, [(0, .ref a), (1, .int t), (2, .int 4)], [], M)) (S2 := (90, [(0, .ref a), (1, .int t), (2, .int 4)], [], M)) rfl rfl rfl (fun c_87 => ?_) (fun c_87 => ?_)
  rotate_left
  · exact absurd (ht) (of_decide_eq_false c_87)
  refine ps_st (S' := (99, [(0, .ref a), (1, .int t), (2, .int 4)], [.int 4], M)) rfl rfl rfl ?_
  refine ps_st (S' := (100, [(0, .ref a), (1, .int t), (2, .int 4)], [.int 4, .int 4], M)) rfl rfl rfl ?_
  refine ps_if2 (S1 := (110, [(0, .ref a), (1, .int t), (2, .int 4)], [], M)) (S2 := (103, [(0, .ref a), (1, .int t), (2, .int 4)], [], M)) rfl rfl rfl (fun c_100 => ?_) (fun c_100 => ?_)
  · exact absurd (of_decide_eq_true c_100) (by decide)
  refine ps_st (S' := (104, [(0, .ref a), (1, .int t), (2, .int 4)], [.ref a], M)) rfl rfl rfl ?_
  refine ps_get (S' := (107, [(0, .ref a), (1, .int t), (2, .int 4)], [.int m7], M)) rfl h_a rfl rfl ?_
  refine ps_st (S' := (111, [], [.int m7], M)) rfl rfl rfl ?_
  exact ps_reti rfl (⟨rfl, rfl⟩)
set_option maxHeartbeats 1000000 in
theorem dk_cnumN4 {g : xe_G} {M : mi_H} {a : Nat} {m0 m1 m2 m3 m4 m5 m6 m7 m8 m9 : Int32} (h_a : M.1 a = some (ob 6 [.int m0, .int m1, .int m2, .int m3, .int m4, .int m5, .int m6, .int m7, .int m8, .int m9, .null]))  : pt (mT g) 107 [.ref a, .int 4] M (fun v M' => (v = some (.int 0) ∧ M = M')) := by
  refine pt_in (b := mb_107 g) rfl (fun kf => ?_)
  show pl (mT g) kf (mb_107 g).2 (0, [(0, .ref a), (1, .int 4)], [], M) _
  refine ps_st (S' := (1, [(0, .ref a), (1, .int 4)], [.ref a], M)) rfl rfl rfl ?_
  refine ps_get (S' := (4, [(0, .ref a), (1, .int 4)], [.null], M)) rfl h_a rfl rfl ?_
  refine ps_st (S' := (7, [(0, .ref a), (1, .int 4)], [], M)) rfl rfl rfl ?_
  refine ps_st (S' := (8, [(0, .ref a), (1, .int 4)], [.int 0], M)) rfl rfl rfl ?_
  exact ps_ret rfl rfl (⟨rfl, rfl⟩)
set_option maxHeartbeats 1000000 in
theorem dk_cnumC4 {g : xe_G} {M : mi_H} {a : Nat} {m0 m1 m2 m3 m4 m5 m6 m7 m8 m9 : Int32} {z : Nat} {c0 c1 c2 c3 c4 : Int32} {v5 v6 v7 v8 v9 v10 : Value} (h_a : M.1 a = some (ob 6 [.int m0, .int m1, .int m2, .int m3, .int m4, .int m5, .int m6, .int m7, .int m8, .int m9, .ref z])) (h_z : M.1 z = some (ob 4 [.int c0, .int c1, .int c2, .int c3, .int c4, v5, v6, v7, v8, v9, v10]))  : pt (mT g) 107 [.ref a, .int 4] M (fun v M' => (v = some (.int c2) ∧ M = M')) := by
  refine pt_in (b := mb_107 g) rfl (fun kf => ?_)
  show pl (mT g) kf (mb_107 g).2 (0, [(0, .ref a), (1, .int 4)], [], M) _
  refine ps_st (S' := (1, [(0, .ref a), (1, .int 4)], [.ref a], M)) rfl rfl rfl ?_
  refine ps_get (S' := (4, [(0, .ref a), (1, .int 4)], [.ref z], M)) rfl h_a rfl rfl ?_
  refine ps_st (S' := (9, [(0, .ref a), (1, .int 4)], [], M)) rfl rfl rfl ?_
  refine ps_st (S' := (10, [(0, .ref a), (1, .int 4)], [.int 4], M)) rfl rfl rfl ?_
  refine ps_st (S' := (36, [(0, .ref a), (1, .int 4)], [], M)) rfl rfl rfl ?_
  refine ps_st (S' := (37, [(0, .ref a), (1, .int 4)], [.ref a], M)) rfl rfl rfl ?_
  refine ps_get (S' := (40, [(0, .ref a), (1, .int 4)], [.ref z], M)) rfl h_a rfl rfl ?_
  refine ps_get (S' := (43, [(0, .ref a), (1, .int 4)], [.int c2], M)) rfl h_z rfl rfl ?_
  exact ps_reti rfl (⟨rfl, rfl⟩)
set_option maxHeartbeats 1000000 in
theorem dk_mnumM4N {g : xe_G} {M : mi_H} {a : Nat} {t m0 m1 m2 m3 m4 m5 m6 m7 m8 m9 : Int32} (h_a : M.1 a = some (ob 6 [.int m0, .int m1, .int m2, .int m3, .int m4, .int m5, .int m6, .int m7, .int m8, .int m9, .null])) (ht : ¬ t = 0) : pt (mT g) 109 [.ref a, .int t, .int 4] M (fun v M' => (v = some (.int 0) ∧ M = M')) := by
  refine pt_in (b := mb_109 g) rfl (fun kf => ?_)
  show pl (mT g) kf (mb_109 g).2 (0, [(0, .ref a), (1, .int t), (2, .int 4)], [], M) _
  refine ps_st (S' := (1, [(0, .ref a), (1, .int t), (2, .int 4)], [.int 4], M)) rfl rfl rfl ?_
  refine ps_st (S' := (86, [(0, .ref a), (1, .int t), (2, .int 4)], [], M)) rfl rfl rfl ?_
  refine ps_st (S' := (87, [(0, .ref a), (1, .int t), (2, .int 4)], [.int t], M)) rfl rfl rfl ?_
  refine ps_if (S1 := (98, [(0, .ref a), (1, .int t), (2, .int 4)], [], M)) (S2 := (90, [(0, .ref a), (1, .int t), (2, .int 4)], [], M)) rfl rfl rfl (fun c_87 => ?_) (fun c_87 => ?_)
  · exact absurd (of_decide_eq_true c_87) (ht)
  refine ps_st (S' := (91, [(0, .ref a), (1, .int t), (2, .int 4)], [.ref a], M)) rfl rfl rfl ?_
  refine ps_st (S' := (92, [(0, .ref a), (1, .int t), (2, .int 4)], [.int 4, .ref a], M)) rfl rfl rfl ?_
  refine pl_call (a := [.ref a, .int 4]) (rest := []) rfl rfl rfl (dk_cnumN4 (a := a) (m0 := m0) (m1 := m1) (m2 := m2) (m3 := m3) (m4 := m4) (m5 := m5) (m6 := m6) (m7 := m7) (m8 := m8) (m9 := m9) h_a) (fun v1 M2 q3 => ?_)
  obtain ⟨rfl, rfl⟩ := q3
  show pl _ _ _ (95, [(0, .ref a), (1, .int t), (2, .int 4)], [.int 0], M) _
  refine ps_st (S' := (111, [], [.int 0], M)) rfl rfl rfl ?_
  exact ps_ret rfl rfl (⟨rfl, rfl⟩)
set_option maxHeartbeats 1000000 in
theorem dk_mnumM4C {g : xe_G} {M : mi_H} {a : Nat} {t m0 m1 m2 m3 m4 m5 m6 m7 m8 m9 : Int32} {z : Nat} {c0 c1 c2 c3 c4 : Int32} {v5 v6 v7 v8 v9 v10 : Value} (h_a : M.1 a = some (ob 6 [.int m0, .int m1, .int m2, .int m3, .int m4, .int m5, .int m6, .int m7, .int m8, .int m9, .ref z])) (h_z : M.1 z = some (ob 4 [.int c0, .int c1, .int c2, .int c3, .int c4, v5, v6, v7, v8, v9, v10])) (ht : ¬ t = 0) : pt (mT g) 109 [.ref a, .int t, .int 4] M (fun v M' => (v = some (.int c2) ∧ M = M')) := by
  refine pt_in (b := mb_109 g) rfl (fun kf => ?_)
  show pl (mT g) kf (mb_109 g).2 (0, [(0, .ref a), (1, .int t), (2, .int 4)], [], M) _
  refine ps_st (S' := (1, [(0, .ref a), (1, .int t), (2, .int 4)], [.int 4], M)) rfl rfl rfl ?_
  refine ps_st (S' := (86, [(0, .ref a), (1, .int t), (2, .int 4)], [], M)) rfl rfl rfl ?_
  refine ps_st (S' := (87, [(0, .ref a), (1, .int t), (2, .int 4)], [.int t], M)) rfl rfl rfl ?_
  refine ps_if (S1 := (98, [(0, .ref a), (1, .int t), (2, .int 4)], [], M)) (S2 := (90, [(0, .ref a), (1, .int t), (2, .int 4)], [], M)) rfl rfl rfl (fun c_87 => ?_) (fun c_87 => ?_)
  · exact absurd (of_decide_eq_true c_87) (ht)
  refine ps_st (S' := (91, [(0, .ref a), (1, .int t), (2, .int 4)], [.ref a], M)) rfl rfl rfl ?_
  refine ps_st (S' := (92, [(0, .ref a), (1, .int t), (2, .int 4)], [.int 4, .ref a], M)) rfl rfl rfl ?_
  refine pl_call (a := [.ref a, .int 4]) (rest := []) rfl rfl rfl (dk_cnumC4 (a := a) (m0 := m0) (m1 := m1) (m2 := m2) (m3 := m3) (m4 := m4) (m5 := m5) (m6 := m6) (m7 := m7) (m8 := m8) (m9 := m9) (z := z) (c0 := c0) (c1 := c1) (c2 := c2) (c3 := c3) (c4 := c4) (v5 := v5) (v6 := v6) (v7 := v7) (v8 := v8) (v9 := v9) (v10 := v10) h_a h_z) (fun v1 M2 q3 => ?_)
  obtain ⟨rfl, rfl⟩ := q3
  show pl _ _ _ (95, [(0, .ref a), (1, .int t), (2, .int 4)], [.int c2], M) _
  refine ps_st (S' := (111, [], [.int c2], M)) rfl rfl rfl ?_
  exact ps_reti rfl (⟨rfl, rfl⟩)
set_option maxHeartbeats 1000000 in
theorem dk_mnumF5 {g : xe_G} {M : mi_H} {a : Nat} {t m0 m1 m2 m3 m4 m5 m6 m7 m8 m9 : Int32} {mv : Value} (h_a : M.1 a = some (ob 6 [.int m0, .int m1, .int m2, .int m3, .int m4, .int m5, .int m6, .int m7, .int m8, .int m9, mv])) (ht : t = 0) : pt (mT g) 109 [.ref a, .int t, .int 5] M (fun v M' => (v = some (.int 0) ∧ M = M')) := by
  refine pt_in (b := mb_109 g) rfl (fun kf => ?_)
  show pl (mT g) kf (mb_109 g).2 (0, [(0, .ref a), (1, .int t), (2, .int 5)], [], M) _
  refine ps_st (S' := (1, [(0, .ref a), (1, .int t), (2, .int 5)], [.int 5], M)) rfl rfl rfl ?_
  refine ps_st (S' := (86, [(0, .ref a), (1, .int t), (2, .int 5)], [], M)) rfl rfl rfl ?_
  refine ps_st (S' := (87, [(0, .ref a), (1, .int t), (2, .int 5)], [.int t], M)) rfl rfl rfl ?_
  refine ps_if (S1 := (98, [(0, .ref a), (1, .int t), (2, .int 5)], [], M)) (S2 := (90, [(0, .ref a), (1, .int t), (2, .int 5)], [], M)) rfl rfl rfl (fun c_87 => ?_) (fun c_87 => ?_)
  rotate_left
  · exact absurd (ht) (of_decide_eq_false c_87)
  refine ps_st (S' := (99, [(0, .ref a), (1, .int t), (2, .int 5)], [.int 5], M)) rfl rfl rfl ?_
  refine ps_st (S' := (100, [(0, .ref a), (1, .int t), (2, .int 5)], [.int 4, .int 5], M)) rfl rfl rfl ?_
  refine ps_if2 (S1 := (110, [(0, .ref a), (1, .int t), (2, .int 5)], [], M)) (S2 := (103, [(0, .ref a), (1, .int t), (2, .int 5)], [], M)) rfl rfl rfl (fun c_100 => ?_) (fun c_100 => ?_)
  rotate_left
  · exact absurd (by decide) (of_decide_eq_false c_100)
  refine ps_st (S' := (111, [], [.int 0], M)) rfl rfl rfl ?_
  exact ps_ret rfl rfl (⟨rfl, rfl⟩)
set_option maxHeartbeats 1000000 in
theorem dk_cnumN5 {g : xe_G} {M : mi_H} {a : Nat} {m0 m1 m2 m3 m4 m5 m6 m7 m8 m9 : Int32} (h_a : M.1 a = some (ob 6 [.int m0, .int m1, .int m2, .int m3, .int m4, .int m5, .int m6, .int m7, .int m8, .int m9, .null]))  : pt (mT g) 107 [.ref a, .int 5] M (fun v M' => (v = some (.int 0) ∧ M = M')) := by
  refine pt_in (b := mb_107 g) rfl (fun kf => ?_)
  show pl (mT g) kf (mb_107 g).2 (0, [(0, .ref a), (1, .int 5)], [], M) _
  refine ps_st (S' := (1, [(0, .ref a), (1, .int 5)], [.ref a], M)) rfl rfl rfl ?_
  refine ps_get (S' := (4, [(0, .ref a), (1, .int 5)], [.null], M)) rfl h_a rfl rfl ?_
  refine ps_st (S' := (7, [(0, .ref a), (1, .int 5)], [], M)) rfl rfl rfl ?_
  refine ps_st (S' := (8, [(0, .ref a), (1, .int 5)], [.int 0], M)) rfl rfl rfl ?_
  exact ps_ret rfl rfl (⟨rfl, rfl⟩)
set_option maxHeartbeats 1000000 in
theorem dk_cnumC5 {g : xe_G} {M : mi_H} {a : Nat} {m0 m1 m2 m3 m4 m5 m6 m7 m8 m9 : Int32} {z : Nat} {c0 c1 c2 c3 c4 : Int32} {v5 v6 v7 v8 v9 v10 : Value} (h_a : M.1 a = some (ob 6 [.int m0, .int m1, .int m2, .int m3, .int m4, .int m5, .int m6, .int m7, .int m8, .int m9, .ref z])) (h_z : M.1 z = some (ob 4 [.int c0, .int c1, .int c2, .int c3, .int c4, v5, v6, v7, v8, v9, v10]))  : pt (mT g) 107 [.ref a, .int 5] M (fun v M' => (v = some (.int c0) ∧ M = M')) := by
  refine pt_in (b := mb_107 g) rfl (fun kf => ?_)
  show pl (mT g) kf (mb_107 g).2 (0, [(0, .ref a), (1, .int 5)], [], M) _
  refine ps_st (S' := (1, [(0, .ref a), (1, .int 5)], [.ref a], M)) rfl rfl rfl ?_
  refine ps_get (S' := (4, [(0, .ref a), (1, .int 5)], [.ref z], M)) rfl h_a rfl rfl ?_
  refine ps_st (S' := (9, [(0, .ref a), (1, .int 5)], [], M)) rfl rfl rfl ?_
  refine ps_st (S' := (10, [(0, .ref a), (1, .int 5)], [.int 5], M)) rfl rfl rfl ?_
  refine ps_st (S' := (44, [(0, .ref a), (1, .int 5)], [], M)) rfl rfl rfl ?_
  refine ps_st (S' := (45, [(0, .ref a), (1, .int 5)], [.ref a], M)) rfl rfl rfl ?_
  refine ps_get (S' := (48, [(0, .ref a), (1, .int 5)], [.ref z], M)) rfl h_a rfl rfl ?_
  refine ps_get (S' := (51, [(0, .ref a), (1, .int 5)], [.int c0], M)) rfl h_z rfl rfl ?_
  exact ps_reti rfl (⟨rfl, rfl⟩)
set_option maxHeartbeats 1000000 in
theorem dk_mnumM5N {g : xe_G} {M : mi_H} {a : Nat} {t m0 m1 m2 m3 m4 m5 m6 m7 m8 m9 : Int32} (h_a : M.1 a = some (ob 6 [.int m0, .int m1, .int m2, .int m3, .int m4, .int m5, .int m6, .int m7, .int m8, .int m9, .null])) (ht : ¬ t = 0) : pt (mT g) 109 [.ref a, .int t, .int 5] M (fun v M' => (v = some (.int 0) ∧ M = M')) := by
  refine pt_in (b := mb_109 g) rfl (fun kf => ?_)
  show pl (mT g) kf (mb_109 g).2 (0, [(0, .ref a), (1, .int t), (2, .int 5)], [], M) _
  refine ps_st (S' := (1, [(0, .ref a), (1, .int t), (2, .int 5)], [.int 5], M)) rfl rfl rfl ?_
  refine ps_st (S' := (86, [(0, .ref a), (1, .int t), (2, .int 5)], [], M)) rfl rfl rfl ?_
  refine ps_st (S' := (87, [(0, .ref a), (1, .int t), (2, .int 5)], [.int t], M)) rfl rfl rfl ?_
  refine ps_if (S1 := (98, [(0, .ref a), (1, .int t), (2, .int 5)], [], M)) (S2 := (90, [(0, .ref a), (1, .int t), (2, .int 5)], [], M)) rfl rfl rfl (fun c_87 => ?_) (fun c_87 => ?_)
  · exact absurd (of_decide_eq_true c_87) (ht)
  refine ps_st (S' := (91, [(0, .ref a), (1, .int t), (2, .int 5)], [.ref a], M)) rfl rfl rfl ?_
  refine ps_st (S' := (92, [(0, .ref a), (1, .int t), (2, .int 5)], [.int 5, .ref a], M)) rfl rfl rfl ?_
  refine pl_call (a := [.ref a, .int 5]) (rest := []) rfl rfl rfl (dk_cnumN5 (a := a) (m0 := m0) (m1 := m1) (m2 := m2) (m3 := m3) (m4 := m4) (m5 := m5) (m6 := m6) (m7 := m7) (m8 := m8) (m9 := m9) h_a) (fun v1 M2 q3 => ?_)
  obtain ⟨rfl, rfl⟩ := q3
  show pl _ _ _ (95, [(0, .ref a), (1, .int t), (2, .int 5)], [.int 0], M) _
  refine ps_st (S' := (111, [], [.int 0], M)) rfl rfl rfl ?_
  exact ps_ret rfl rfl (⟨rfl, rfl⟩)
set_option maxHeartbeats 1000000 in
theorem dk_mnumM5C {g : xe_G} {M : mi_H} {a : Nat} {t m0 m1 m2 m3 m4 m5 m6 m7 m8 m9 : Int32} {z : Nat} {c0 c1 c2 c3 c4 : Int32} {v5 v6 v7 v8 v9 v10 : Value} (h_a : M.1 a = some (ob 6 [.int m0, .int m1, .int m2, .int m3, .int m4, .int m5, .int m6, .int m7, .int m8, .int m9, .ref z])) (h_z : M.1 z = some (ob 4 [.int c0, .int c1, .int c2, .int c3, .int c4, v5, v6, v7, v8, v9, v10])) (ht : ¬ t = 0) : pt (mT g) 109 [.ref a, .int t, .int 5] M (fun v M' => (v = some (.int c0) ∧ M = M')) := by
  refine pt_in (b := mb_109 g) rfl (fun kf => ?_)
  show pl (mT g) kf (mb_109 g).2 (0, [(0, .ref a), (1, .int t), (2, .int 5)], [], M) _
  refine ps_st (S' := (1, [(0, .ref a), (1, .int t), (2, .int 5)], [.int 5], M)) rfl rfl rfl ?_
  refine ps_st (S' := (86, [(0, .ref a), (1, .int t), (2, .int 5)], [], M)) rfl rfl rfl ?_
  refine ps_st (S' := (87, [(0, .ref a), (1, .int t), (2, .int 5)], [.int t], M)) rfl rfl rfl ?_
  refine ps_if (S1 := (98, [(0, .ref a), (1, .int t), (2, .int 5)], [], M)) (S2 := (90, [(0, .ref a), (1, .int t), (2, .int 5)], [], M)) rfl rfl rfl (fun c_87 => ?_) (fun c_87 => ?_)
  · exact absurd (of_decide_eq_true c_87) (ht)
  refine ps_st (S' := (91, [(0, .ref a), (1, .int t), (2, .int 5)], [.ref a], M)) rfl rfl rfl ?_
  refine ps_st (S' := (92, [(0, .ref a), (1, .int t), (2, .int 5)], [.int 5, .ref a], M)) rfl rfl rfl ?_
  refine pl_call (a := [.ref a, .int 5]) (rest := []) rfl rfl rfl (dk_cnumC5 (a := a) (m0 := m0) (m1 := m1) (m2 := m2) (m3 := m3) (m4 := m4) (m5 := m5) (m6 := m6) (m7 := m7) (m8 := m8) (m9 := m9) (z := z) (c0 := c0) (c1 := c1) (c2 := c2) (c3 := c3) (c4 := c4) (v5 := v5) (v6 := v6) (v7 := v7) (v8 := v8) (v9 := v9) (v10 := v10) h_a h_z) (fun v1 M2 q3 => ?_)
  obtain ⟨rfl, rfl⟩ := q3
  show pl _ _ _ (95, [(0, .ref a), (1, .int t), (2, .int 5)], [.int c0], M) _
  refine ps_st (S' := (111, [], [.int c0], M)) rfl rfl rfl ?_
  exact ps_reti rfl (⟨rfl, rfl⟩)
set_option maxHeartbeats 1000000 in
theorem dk_mnumF6 {g : xe_G} {M : mi_H} {a : Nat} {t m0 m1 m2 m3 m4 m5 m6 m7 m8 m9 : Int32} {mv : Value} (h_a : M.1 a = some (ob 6 [.int m0, .int m1, .int m2, .int m3, .int m4, .int m5, .int m6, .int m7, .int m8, .int m9, mv])) (ht : t = 0) : pt (mT g) 109 [.ref a, .int t, .int 6] M (fun v M' => (v = some (.int 0) ∧ M = M')) := by
  refine pt_in (b := mb_109 g) rfl (fun kf => ?_)
  show pl (mT g) kf (mb_109 g).2 (0, [(0, .ref a), (1, .int t), (2, .int 6)], [], M) _
  refine ps_st (S' := (1, [(0, .ref a), (1, .int t), (2, .int 6)], [.int 6], M)) rfl rfl rfl ?_
  refine ps_st (S' := (86, [(0, .ref a), (1, .int t), (2, .int 6)], [], M)) rfl rfl rfl ?_
  refine ps_st (S' := (87, [(0, .ref a), (1, .int t), (2, .int 6)], [.int t], M)) rfl rfl rfl ?_
  refine ps_if (S1 := (98, [(0, .ref a), (1, .int t), (2, .int 6)], [], M)) (S2 := (90, [(0, .ref a), (1, .int t), (2, .int 6)], [], M)) rfl rfl rfl (fun c_87 => ?_) (fun c_87 => ?_)
  rotate_left
  · exact absurd (ht) (of_decide_eq_false c_87)
  refine ps_st (S' := (99, [(0, .ref a), (1, .int t), (2, .int 6)], [.int 6], M)) rfl rfl rfl ?_
  refine ps_st (S' := (100, [(0, .ref a), (1, .int t), (2, .int 6)], [.int 4, .int 6], M)) rfl rfl rfl ?_
  refine ps_if2 (S1 := (110, [(0, .ref a), (1, .int t), (2, .int 6)], [], M)) (S2 := (103, [(0, .ref a), (1, .int t), (2, .int 6)], [], M)) rfl rfl rfl (fun c_100 => ?_) (fun c_100 => ?_)
  rotate_left
  · exact absurd (by decide) (of_decide_eq_false c_100)
  refine ps_st (S' := (111, [], [.int 0], M)) rfl rfl rfl ?_
  exact ps_ret rfl rfl (⟨rfl, rfl⟩)
set_option maxHeartbeats 1000000 in
theorem dk_cnumN6 {g : xe_G} {M : mi_H} {a : Nat} {m0 m1 m2 m3 m4 m5 m6 m7 m8 m9 : Int32} (h_a : M.1 a = some (ob 6 [.int m0, .int m1, .int m2, .int m3, .int m4, .int m5, .int m6, .int m7, .int m8, .int m9, .null]))  : pt (mT g) 107 [.ref a, .int 6] M (fun v M' => (v = some (.int 0) ∧ M = M')) := by
  refine pt_in (b := mb_107 g) rfl (fun kf => ?_)
  show pl (mT g) kf (mb_107 g).2 (0, [(0, .ref a), (1, .int 6)], [], M) _
  refine ps_st (S' := (1, [(0, .ref a), (1, .int 6)], [.ref a], M)) rfl rfl rfl ?_
  refine ps_get (S' := (4, [(0, .ref a), (1, .int 6)], [.null], M)) rfl h_a rfl rfl ?_
  refine ps_st (S' := (7, [(0, .ref a), (1, .int 6)], [], M)) rfl rfl rfl ?_
  refine ps_st (S' := (8, [(0, .ref a), (1, .int 6)], [.int 0], M)) rfl rfl rfl ?_
  exact ps_ret rfl rfl (⟨rfl, rfl⟩)
set_option maxHeartbeats 1000000 in
theorem dk_cnumC6 {g : xe_G} {M : mi_H} {a : Nat} {m0 m1 m2 m3 m4 m5 m6 m7 m8 m9 : Int32} {z : Nat} {c0 c1 c2 c3 c4 : Int32} {v5 v6 v7 v8 v9 v10 : Value} (h_a : M.1 a = some (ob 6 [.int m0, .int m1, .int m2, .int m3, .int m4, .int m5, .int m6, .int m7, .int m8, .int m9, .ref z])) (h_z : M.1 z = some (ob 4 [.int c0, .int c1, .int c2, .int c3, .int c4, v5, v6, v7, v8, v9, v10]))  : pt (mT g) 107 [.ref a, .int 6] M (fun v M' => (v = some (.int c1) ∧ M = M')) := by
  refine pt_in (b := mb_107 g) rfl (fun kf => ?_)
  show pl (mT g) kf (mb_107 g).2 (0, [(0, .ref a), (1, .int 6)], [], M) _
  refine ps_st (S' := (1, [(0, .ref a), (1, .int 6)], [.ref a], M)) rfl rfl rfl ?_
  refine ps_get (S' := (4, [(0, .ref a), (1, .int 6)], [.ref z], M)) rfl h_a rfl rfl ?_
  refine ps_st (S' := (9, [(0, .ref a), (1, .int 6)], [], M)) rfl rfl rfl ?_
  refine ps_st (S' := (10, [(0, .ref a), (1, .int 6)], [.int 6], M)) rfl rfl rfl ?_
  refine ps_st (S' := (52, [(0, .ref a), (1, .int 6)], [], M)) rfl rfl rfl ?_
  refine ps_st (S' := (53, [(0, .ref a), (1, .int 6)], [.ref a], M)) rfl rfl rfl ?_
  refine ps_get (S' := (56, [(0, .ref a), (1, .int 6)], [.ref z], M)) rfl h_a rfl rfl ?_
  refine ps_get (S' := (59, [(0, .ref a), (1, .int 6)], [.int c1], M)) rfl h_z rfl rfl ?_
  exact ps_reti rfl (⟨rfl, rfl⟩)
set_option maxHeartbeats 1000000 in
theorem dk_mnumM6N {g : xe_G} {M : mi_H} {a : Nat} {t m0 m1 m2 m3 m4 m5 m6 m7 m8 m9 : Int32} (h_a : M.1 a = some (ob 6 [.int m0, .int m1, .int m2, .int m3, .int m4, .int m5, .int m6, .int m7, .int m8, .int m9, .null])) (ht : ¬ t = 0) : pt (mT g) 109 [.ref a, .int t, .int 6] M (fun v M' => (v = some (.int 0) ∧ M = M')) := by
  refine pt_in (b := mb_109 g) rfl (fun kf => ?_)
  show pl (mT g) kf (mb_109 g).2 (0, [(0, .ref a), (1, .int t), (2, .int 6)], [], M) _
  refine ps_st (S' := (1, [(0, .ref a), (1, .int t), (2, .int 6)], [.int 6], M)) rfl rfl rfl ?_
  refine ps_st (S' := (86, [(0, .ref a), (1, .int t), (2, .int 6)], [], M)) rfl rfl rfl ?_
  refine ps_st (S' := (87, [(0, .ref a), (1, .int t), (2, .int 6)], [.int t], M)) rfl rfl rfl ?_
  refine ps_if (S1 := (98, [(0, .ref a), (1, .int t), (2, .int 6)], [], M)) (S2 := (90, [(0, .ref a), (1, .int t), (2, .int 6)], [], M)) rfl rfl rfl (fun c_87 => ?_) (fun c_87 => ?_)
  · exact absurd (of_decide_eq_true c_87) (ht)
  refine ps_st (S' := (91, [(0, .ref a), (1, .int t), (2, .int 6)], [.ref a], M)) rfl rfl rfl ?_
  refine ps_st (S' := (92, [(0, .ref a), (1, .int t), (2, .int 6)], [.int 6, .ref a], M)) rfl rfl rfl ?_
  refine pl_call (a := [.ref a, .int 6]) (rest := []) rfl rfl rfl (dk_cnumN6 (a := a) (m0 := m0) (m1 := m1) (m2 := m2) (m3 := m3) (m4 := m4) (m5 := m5) (m6 := m6) (m7 := m7) (m8 := m8) (m9 := m9) h_a) (fun v1 M2 q3 => ?_)
  obtain ⟨rfl, rfl⟩ := q3
  show pl _ _ _ (95, [(0, .ref a), (1, .int t), (2, .int 6)], [.int 0], M) _
  refine ps_st (S' := (111, [], [.int 0], M)) rfl rfl rfl ?_
  exact ps_ret rfl rfl (⟨rfl, rfl⟩)
set_option maxHeartbeats 1000000 in
theorem dk_mnumM6C {g : xe_G} {M : mi_H} {a : Nat} {t m0 m1 m2 m3 m4 m5 m6 m7 m8 m9 : Int32} {z : Nat} {c0 c1 c2 c3 c4 : Int32} {v5 v6 v7 v8 v9 v10 : Value} (h_a : M.1 a = some (ob 6 [.int m0, .int m1, .int m2, .int m3, .int m4, .int m5, .int m6, .int m7, .int m8, .int m9, .ref z])) (h_z : M.1 z = some (ob 4 [.int c0, .int c1, .int c2, .int c3, .int c4, v5, v6, v7, v8, v9, v10])) (ht : ¬ t = 0) : pt (mT g) 109 [.ref a, .int t, .int 6] M (fun v M' => (v = some (.int c1) ∧ M = M')) := by
  refine pt_in (b := mb_109 g) rfl (fun kf => ?_)
  show pl (mT g) kf (mb_109 g).2 (0, [(0, .ref a), (1, .int t), (2, .int 6)], [], M) _
  refine ps_st (S' := (1, [(0, .ref a), (1, .int t), (2, .int 6)], [.int 6], M)) rfl rfl rfl ?_
  refine ps_st (S' := (86, [(0, .ref a), (1, .int t), (2, .int 6)], [], M)) rfl rfl rfl ?_
  refine ps_st (S' := (87, [(0, .ref a), (1, .int t), (2, .int 6)], [.int t], M)) rfl rfl rfl ?_
  refine ps_if (S1 := (98, [(0, .ref a), (1, .int t), (2, .int 6)], [], M)) (S2 := (90, [(0, .ref a), (1, .int t), (2, .int 6)], [], M)) rfl rfl rfl (fun c_87 => ?_) (fun c_87 => ?_)
  · exact absurd (of_decide_eq_true c_87) (ht)
  refine ps_st (S' := (91, [(0, .ref a), (1, .int t), (2, .int 6)], [.ref a], M)) rfl rfl rfl ?_
  refine ps_st (S' := (92, [(0, .ref a), (1, .int t), (2, .int 6)], [.int 6, .ref a], M)) rfl rfl rfl ?_
  refine pl_call (a := [.ref a, .int 6]) (rest := []) rfl rfl rfl (dk_cnumC6 (a := a) (m0 := m0) (m1 := m1) (m2 := m2) (m3 := m3) (m4 := m4) (m5 := m5) (m6 := m6) (m7 := m7) (m8 := m8) (m9 := m9) (z := z) (c0 := c0) (c1 := c1) (c2 := c2) (c3 := c3) (c4 := c4) (v5 := v5) (v6 := v6) (v7 := v7) (v8 := v8) (v9 := v9) (v10 := v10) h_a h_z) (fun v1 M2 q3 => ?_)
  obtain ⟨rfl, rfl⟩ := q3
  show pl _ _ _ (95, [(0, .ref a), (1, .int t), (2, .int 6)], [.int c1], M) _
  refine ps_st (S' := (111, [], [.int c1], M)) rfl rfl rfl ?_
  exact ps_reti rfl (⟨rfl, rfl⟩)
set_option maxHeartbeats 1000000 in
theorem dk_mnumF7 {g : xe_G} {M : mi_H} {a : Nat} {t m0 m1 m2 m3 m4 m5 m6 m7 m8 m9 : Int32} {mv : Value} (h_a : M.1 a = some (ob 6 [.int m0, .int m1, .int m2, .int m3, .int m4, .int m5, .int m6, .int m7, .int m8, .int m9, mv])) (ht : t = 0) : pt (mT g) 109 [.ref a, .int t, .int 7] M (fun v M' => (v = some (.int 0) ∧ M = M')) := by
  refine pt_in (b := mb_109 g) rfl (fun kf => ?_)
  show pl (mT g) kf (mb_109 g).2 (0, [(0, .ref a), (1, .int t), (2, .int 7)], [], M) _
  refine ps_st (S' := (1, [(0, .ref a), (1, .int t), (2, .int 7)], [.int 7], M)) rfl rfl rfl ?_
  refine ps_st (S' := (86, [(0, .ref a), (1, .int t), (2, .int 7)], [], M)) rfl rfl rfl ?_
  refine ps_st (S' := (87, [(0, .ref a), (1, .int t), (2, .int 7)], [.int t], M)) rfl rfl rfl ?_
  refine ps_if (S1 := (98, [(0, .ref a), (1, .int t), (2, .int 7)], [], M)) (S2 := (90, [(0, .ref a), (1, .int t), (2, .int 7)], [], M)) rfl rfl rfl (fun c_87 => ?_) (fun c_87 => ?_)
  rotate_left
  · exact absurd (ht) (of_decide_eq_false c_87)
  refine ps_st (S' := (99, [(0, .ref a), (1, .int t), (2, .int 7)], [.int 7], M)) rfl rfl rfl ?_
  refine ps_st (S' := (100, [(0, .ref a), (1, .int t), (2, .int 7)], [.int 4, .int 7], M)) rfl rfl rfl ?_
  refine ps_if2 (S1 := (110, [(0, .ref a), (1, .int t), (2, .int 7)], [], M)) (S2 := (103, [(0, .ref a), (1, .int t), (2, .int 7)], [], M)) rfl rfl rfl (fun c_100 => ?_) (fun c_100 => ?_)
  rotate_left
  · exact absurd (by decide) (of_decide_eq_false c_100)
  refine ps_st (S' := (111, [], [.int 0], M)) rfl rfl rfl ?_
  exact ps_ret rfl rfl (⟨rfl, rfl⟩)
set_option maxHeartbeats 1000000 in
theorem dk_cnumN7 {g : xe_G} {M : mi_H} {a : Nat} {m0 m1 m2 m3 m4 m5 m6 m7 m8 m9 : Int32} (h_a : M.1 a = some (ob 6 [.int m0, .int m1, .int m2, .int m3, .int m4, .int m5, .int m6, .int m7, .int m8, .int m9, .null]))  : pt (mT g) 107 [.ref a, .int 7] M (fun v M' => (v = some (.int 0) ∧ M = M')) := by
  refine pt_in (b := mb_107 g) rfl (fun kf => ?_)
  show pl (mT g) kf (mb_107 g).2 (0, [(0, .ref a), (1, .int 7)], [], M) _
  refine ps_st (S' := (1, [(0, .ref a), (1, .int 7)], [.ref a], M)) rfl rfl rfl ?_
  refine ps_get (S' := (4, [(0, .ref a), (1, .int 7)], [.null], M)) rfl h_a rfl rfl ?_
  refine ps_st (S' := (7, [(0, .ref a), (1, .int 7)], [], M)) rfl rfl rfl ?_
  refine ps_st (S' := (8, [(0, .ref a), (1, .int 7)], [.int 0], M)) rfl rfl rfl ?_
  exact ps_ret rfl rfl (⟨rfl, rfl⟩)
set_option maxHeartbeats 1000000 in
theorem dk_cnumC7 {g : xe_G} {M : mi_H} {a : Nat} {m0 m1 m2 m3 m4 m5 m6 m7 m8 m9 : Int32} {z : Nat} {c0 c1 c2 c3 c4 : Int32} {v5 v6 v7 v8 v9 v10 : Value} (h_a : M.1 a = some (ob 6 [.int m0, .int m1, .int m2, .int m3, .int m4, .int m5, .int m6, .int m7, .int m8, .int m9, .ref z])) (h_z : M.1 z = some (ob 4 [.int c0, .int c1, .int c2, .int c3, .int c4, v5, v6, v7, v8, v9, v10]))  : pt (mT g) 107 [.ref a, .int 7] M (fun v M' => (v = some (.int c4) ∧ M = M')) := by
  refine pt_in (b := mb_107 g) rfl (fun kf => ?_)
  show pl (mT g) kf (mb_107 g).2 (0, [(0, .ref a), (1, .int 7)], [], M) _
  refine ps_st (S' := (1, [(0, .ref a), (1, .int 7)], [.ref a], M)) rfl rfl rfl ?_
  refine ps_get (S' := (4, [(0, .ref a), (1, .int 7)], [.ref z], M)) rfl h_a rfl rfl ?_
  refine ps_st (S' := (9, [(0, .ref a), (1, .int 7)], [], M)) rfl rfl rfl ?_
  refine ps_st (S' := (10, [(0, .ref a), (1, .int 7)], [.int 7], M)) rfl rfl rfl ?_
  refine ps_st (S' := (60, [(0, .ref a), (1, .int 7)], [], M)) rfl rfl rfl ?_
  refine ps_st (S' := (61, [(0, .ref a), (1, .int 7)], [.ref a], M)) rfl rfl rfl ?_
  refine ps_get (S' := (64, [(0, .ref a), (1, .int 7)], [.ref z], M)) rfl h_a rfl rfl ?_
  refine ps_get (S' := (67, [(0, .ref a), (1, .int 7)], [.int c4], M)) rfl h_z rfl rfl ?_
  exact ps_reti rfl (⟨rfl, rfl⟩)
set_option maxHeartbeats 1000000 in
theorem dk_mnumM7N {g : xe_G} {M : mi_H} {a : Nat} {t m0 m1 m2 m3 m4 m5 m6 m7 m8 m9 : Int32} (h_a : M.1 a = some (ob 6 [.int m0, .int m1, .int m2, .int m3, .int m4, .int m5, .int m6, .int m7, .int m8, .int m9, .null])) (ht : ¬ t = 0) : pt (mT g) 109 [.ref a, .int t, .int 7] M (fun v M' => (v = some (.int 0) ∧ M = M')) := by
  refine pt_in (b := mb_109 g) rfl (fun kf => ?_)
  show pl (mT g) kf (mb_109 g).2 (0, [(0, .ref a), (1, .int t), (2, .int 7)], [], M) _
  refine ps_st (S' := (1, [(0, .ref a), (1, .int t), (2, .int 7)], [.int 7], M)) rfl rfl rfl ?_
  refine ps_st (S' := (86, [(0, .ref a), (1, .int t), (2, .int 7)], [], M)) rfl rfl rfl ?_
  refine ps_st (S' := (87, [(0, .ref a), (1, .int t), (2, .int 7)], [.int t], M)) rfl rfl rfl ?_
  refine ps_if (S1 := (98, [(0, .ref a), (1, .int t), (2, .int 7)], [], M)) (S2 := (90, [(0, .ref a), (1, .int t), (2, .int 7)], [], M)) rfl rfl rfl (fun c_87 => ?_) (fun c_87 => ?_)
  · exact absurd (of_decide_eq_true c_87) (ht)
  refine ps_st (S' := (91, [(0, .ref a), (1, .int t), (2, .int 7)], [.ref a], M)) rfl rfl rfl ?_
  refine ps_st (S' := (92, [(0, .ref a), (1, .int t), (2, .int 7)], [.int 7, .ref a], M)) rfl rfl rfl ?_
  refine pl_call (a := [.ref a, .int 7]) (rest := []) rfl rfl rfl (dk_cnumN7 (a := a) (m0 := m0) (m1 := m1) (m2 := m2) (m3 := m3) (m4 := m4) (m5 := m5) (m6 := m6) (m7 := m7) (m8 := m8) (m9 := m9) h_a) (fun v1 M2 q3 => ?_)
  obtain ⟨rfl, rfl⟩ := q3
  show pl _ _ _ (95, [(0, .ref a), (1, .int t), (2, .int 7)], [.int 0], M) _
  refine ps_st (S' := (111, [], [.int 0], M)) rfl rfl rfl ?_
  exact ps_ret rfl rfl (⟨rfl, rfl⟩)
set_option maxHeartbeats 1000000 in
theorem dk_mnumM7C {g : xe_G} {M : mi_H} {a : Nat} {t m0 m1 m2 m3 m4 m5 m6 m7 m8 m9 : Int32} {z : Nat} {c0 c1 c2 c3 c4 : Int32} {v5 v6 v7 v8 v9 v10 : Value} (h_a : M.1 a = some (ob 6 [.int m0, .int m1, .int m2, .int m3, .int m4, .int m5, .int m6, .int m7, .int m8, .int m9, .ref z])) (h_z : M.1 z = some (ob 4 [.int c0, .int c1, .int c2, .int c3, .int c4, v5, v6, v7, v8, v9, v10])) (ht : ¬ t = 0) : pt (mT g) 109 [.ref a, .int t, .int 7] M (fun v M' => (v = some (.int c4) ∧ M = M')) := by
  refine pt_in (b := mb_109 g) rfl (fun kf => ?_)
  show pl (mT g) kf (mb_109 g).2 (0, [(0, .ref a), (1, .int t), (2, .int 7)], [], M) _
  refine ps_st (S' := (1, [(0, .ref a), (1, .int t), (2, .int 7)], [.int 7], M)) rfl rfl rfl ?_
  refine ps_st (S' := (86, [(0, .ref a), (1, .int t), (2, .int 7)], [], M)) rfl rfl rfl ?_
  refine ps_st (S' := (87, [(0, .ref a), (1, .int t), (2, .int 7)], [.int t], M)) rfl rfl rfl ?_
  refine ps_if (S1 := (98, [(0, .ref a), (1, .int t), (2, .int 7)], [], M)) (S2 := (90, [(0, .ref a), (1, .int t), (2, .int 7)], [], M)) rfl rfl rfl (fun c_87 => ?_) (fun c_87 => ?_)
  · exact absurd (of_decide_eq_true c_87) (ht)
  refine ps_st (S' := (91, [(0, .ref a), (1, .int t), (2, .int 7)], [.ref a], M)) rfl rfl rfl ?_
  refine ps_st (S' := (92, [(0, .ref a), (1, .int t), (2, .int 7)], [.int 7, .ref a], M)) rfl rfl rfl ?_
  refine pl_call (a := [.ref a, .int 7]) (rest := []) rfl rfl rfl (dk_cnumC7 (a := a) (m0 := m0) (m1 := m1) (m2 := m2) (m3 := m3) (m4 := m4) (m5 := m5) (m6 := m6) (m7 := m7) (m8 := m8) (m9 := m9) (z := z) (c0 := c0) (c1 := c1) (c2 := c2) (c3 := c3) (c4 := c4) (v5 := v5) (v6 := v6) (v7 := v7) (v8 := v8) (v9 := v9) (v10 := v10) h_a h_z) (fun v1 M2 q3 => ?_)
  obtain ⟨rfl, rfl⟩ := q3
  show pl _ _ _ (95, [(0, .ref a), (1, .int t), (2, .int 7)], [.int c4], M) _
  refine ps_st (S' := (111, [], [.int c4], M)) rfl rfl rfl ?_
  exact ps_reti rfl (⟨rfl, rfl⟩)
set_option maxHeartbeats 1000000 in
theorem dk_mnumF8 {g : xe_G} {M : mi_H} {a : Nat} {t m0 m1 m2 m3 m4 m5 m6 m7 m8 m9 : Int32} {mv : Value} (h_a : M.1 a = some (ob 6 [.int m0, .int m1, .int m2, .int m3, .int m4, .int m5, .int m6, .int m7, .int m8, .int m9, mv])) (ht : t = 0) : pt (mT g) 109 [.ref a, .int t, .int 8] M (fun v M' => (v = some (.int m8) ∧ M = M')) := by
  refine pt_in (b := mb_109 g) rfl (fun kf => ?_)
  show pl (mT g) kf (mb_109 g).2 (0, [(0, .ref a), (1, .int t), (2, .int 8)], [], M) _
  refine ps_st (S' := (1, [(0, .ref a), (1, .int t), (2, .int 8)], [.int 8], M)) rfl rfl rfl ?_
  refine ps_st (S' := (76, [(0, .ref a), (1, .int t), (2, .int 8)], [], M)) rfl rfl rfl ?_
  refine ps_st (S' := (77, [(0, .ref a), (1, .int t), (2, .int 8)], [.ref a], M)) rfl rfl rfl ?_
  refine ps_get (S' := (80, [(0, .ref a), (1, .int t), (2, .int 8)], [.int m8], M)) rfl h_a rfl rfl ?_
  exact ps_reti rfl (⟨rfl, rfl⟩)
set_option maxHeartbeats 1000000 in
theorem dk_mnumM8 {g : xe_G} {M : mi_H} {a : Nat} {t m0 m1 m2 m3 m4 m5 m6 m7 m8 m9 : Int32} {mv : Value} (h_a : M.1 a = some (ob 6 [.int m0, .int m1, .int m2, .int m3, .int m4, .int m5, .int m6, .int m7, .int m8, .int m9, mv])) (ht : ¬ t = 0) : pt (mT g) 109 [.ref a, .int t, .int 8] M (fun v M' => (v = some (.int m8) ∧ M = M')) := by
  refine pt_in (b := mb_109 g) rfl (fun kf => ?_)
  show pl (mT g) kf (mb_109 g).2 (0, [(0, .ref a), (1, .int t), (2, .int 8)], [], M) _
  refine ps_st (S' := (1, [(0, .ref a), (1, .int t), (2, .int 8)], [.int 8], M)) rfl rfl rfl ?_
  refine ps_st (S' := (76, [(0, .ref a), (1, .int t), (2, .int 8)], [], M)) rfl rfl rfl ?_
  refine ps_st (S' := (77, [(0, .ref a), (1, .int t), (2, .int 8)], [.ref a], M)) rfl rfl rfl ?_
  refine ps_get (S' := (80, [(0, .ref a), (1, .int t), (2, .int 8)], [.int m8], M)) rfl h_a rfl rfl ?_
  exact ps_reti rfl (⟨rfl, rfl⟩)
set_option maxHeartbeats 1000000 in
theorem dk_mnumF9 {g : xe_G} {M : mi_H} {a : Nat} {t m0 m1 m2 m3 m4 m5 m6 m7 m8 m9 : Int32} {mv : Value} (h_a : M.1 a = some (ob 6 [.int m0, .int m1, .int m2, .int m3, .int m4, .int m5, .int m6, .int m7, .int m8, .int m9, mv])) (ht : t = 0) : pt (mT g) 109 [.ref a, .int t, .int 9] M (fun v M' => (v = some (.int m9) ∧ M = M')) := by
  refine pt_in (b := mb_109 g) rfl (fun kf => ?_)
  show pl (mT g) kf (mb_109 g).2 (0, [(0, .ref a), (1, .int t), (2, .int 9)], [], M) _
  refine ps_st (S' := (1, [(0, .ref a), (1, .int t), (2, .int 9)], [.int 9], M)) rfl rfl rfl ?_
  refine ps_st (S' := (81, [(0, .ref a), (1, .int t), (2, .int 9)], [], M)) rfl rfl rfl ?_
  refine ps_st (S' := (82, [(0, .ref a), (1, .int t), (2, .int 9)], [.ref a], M)) rfl rfl rfl ?_
  refine ps_get (S' := (85, [(0, .ref a), (1, .int t), (2, .int 9)], [.int m9], M)) rfl h_a rfl rfl ?_
  exact ps_reti rfl (⟨rfl, rfl⟩)
set_option maxHeartbeats 1000000 in
theorem dk_mnumM9 {g : xe_G} {M : mi_H} {a : Nat} {t m0 m1 m2 m3 m4 m5 m6 m7 m8 m9 : Int32} {mv : Value} (h_a : M.1 a = some (ob 6 [.int m0, .int m1, .int m2, .int m3, .int m4, .int m5, .int m6, .int m7, .int m8, .int m9, mv])) (ht : ¬ t = 0) : pt (mT g) 109 [.ref a, .int t, .int 9] M (fun v M' => (v = some (.int m9) ∧ M = M')) := by
  refine pt_in (b := mb_109 g) rfl (fun kf => ?_)
  show pl (mT g) kf (mb_109 g).2 (0, [(0, .ref a), (1, .int t), (2, .int 9)], [], M) _
  refine ps_st (S' := (1, [(0, .ref a), (1, .int t), (2, .int 9)], [.int 9], M)) rfl rfl rfl ?_
  refine ps_st (S' := (81, [(0, .ref a), (1, .int t), (2, .int 9)], [], M)) rfl rfl rfl ?_
  refine ps_st (S' := (82, [(0, .ref a), (1, .int t), (2, .int 9)], [.ref a], M)) rfl rfl rfl ?_
  refine ps_get (S' := (85, [(0, .ref a), (1, .int t), (2, .int 9)], [.int m9], M)) rfl h_a rfl rfl ?_
  exact ps_reti rfl (⟨rfl, rfl⟩)
set_option maxHeartbeats 1000000 in
theorem dk_member0k {g : xe_G} {M : mi_H} {o ca fl : Nat} {cn wp t i x : Int32} (h_o : M.1 o = some (ob 11 [.ref ca, .int cn, .ref fl, .null, .int wp])) (h0 : ¬ x < 0) (h1 : x ≤ 9) : pt (mT g) 15 [.ref o, .int t, .int i, .int x] M (fun v M' => (v = some (.int (-1)) ∧ M = M')) := by
  refine pt_in (b := mb_15 g) rfl (fun kf => ?_)
  show pl (mT g) kf (mb_15 g).2 (0, [(0, .ref o), (1, .int t), (2, .int i), (3, .int x)], [], M) _
  refine ps_st (S' := (1, [(0, .ref o), (1, .int t), (2, .int i), (3, .int x)], [.int x], M)) rfl rfl rfl ?_
  refine ps_if (S1 := (10, [(0, .ref o), (1, .int t), (2, .int i), (3, .int x)], [], M)) (S2 := (4, [(0, .ref o), (1, .int t), (2, .int i), (3, .int x)], [], M)) rfl rfl rfl (fun c_1 => ?_) (fun c_1 => ?_)
  · exact absurd (of_decide_eq_true c_1) (h0)
  refine ps_st (S' := (5, [(0, .ref o), (1, .int t), (2, .int i), (3, .int x)], [.int x], M)) rfl rfl rfl ?_
  refine ps_st (S' := (7, [(0, .ref o), (1, .int t), (2, .int i), (3, .int x)], [.int 9, .int x], M)) rfl rfl rfl ?_
  refine ps_if2 (S1 := (20, [(0, .ref o), (1, .int t), (2, .int i), (3, .int x)], [], M)) (S2 := (10, [(0, .ref o), (1, .int t), (2, .int i), (3, .int x)], [], M)) rfl rfl rfl (fun c_7 => ?_) (fun c_7 => ?_)
  rotate_left
  · exact absurd (h1) (of_decide_eq_false c_7)
  refine ps_st (S' := (21, [(0, .ref o), (1, .int t), (2, .int i), (3, .int x)], [.ref o], M)) rfl rfl rfl ?_
  refine ps_get (S' := (24, [(0, .ref o), (1, .int t), (2, .int i), (3, .int x)], [.null], M)) rfl h_o rfl rfl ?_
  refine ps_st (S' := (27, [(0, .ref o), (1, .int t), (2, .int i), (3, .int x)], [], M)) rfl rfl rfl ?_
  refine ps_st (S' := (28, [(0, .ref o), (1, .int t), (2, .int i), (3, .int x)], [.null], M)) rfl rfl rfl ?_
  refine ps_st (S' := (40, [(1, .int t), (3, .int x)], [.null], M)) rfl rfl rfl ?_
  refine ps_st (S' := (42, [(4, .null), (1, .int t), (3, .int x)], [], M)) rfl rfl rfl ?_
  refine ps_st (S' := (44, [(4, .null), (1, .int t), (3, .int x)], [.null], M)) rfl rfl rfl ?_
  refine ps_st (S' := (47, [(4, .null), (1, .int t), (3, .int x)], [], M)) rfl rfl rfl ?_
  refine ps_st (S' := (48, [(4, .null), (1, .int t), (3, .int x)], [.int (-1)], M)) rfl rfl rfl ?_
  refine ps_st (S' := (58, [], [.int (-1)], M)) rfl rfl rfl ?_
  exact ps_ret rfl rfl (⟨rfl, rfl⟩)
set_option maxHeartbeats 1000000 in
theorem dk_memberNF {g : xe_G} {M : mi_H} {o ca fl : Nat} {cn wp : Int32} {c b q fr mr l : Nat} {u2 u3 u4 u5 : Int32} {w : List Value} {R : Nat → Value} {t i x : Int32} (h_o : M.1 o = some (ob 11 [.ref ca, .int cn, .ref fl, .ref c, .int wp])) (h_c : M.1 c = some (ob 3 (.ref b :: .ref q :: .int u2 :: .int u3 :: .int u4 :: .int u5 :: .ref fr :: .ref mr :: w))) (h_fr : M.1 fr = some (ro "ClassGate$Member" l R)) (h0 : ¬ x < 0) (h1 : x ≤ 9) (ht : t = 0) (hi : i < 0 ∨ nI l ≤ i) : pt (mT g) 15 [.ref o, .int t, .int i, .int x] M (fun v M' => (v = some (.int (-1)) ∧ M = M')) := by
  refine pt_in (b := mb_15 g) rfl (fun kf => ?_)
  show pl (mT g) kf (mb_15 g).2 (0, [(0, .ref o), (1, .int t), (2, .int i), (3, .int x)], [], M) _
  refine ps_st (S' := (1, [(0, .ref o), (1, .int t), (2, .int i), (3, .int x)], [.int x], M)) rfl rfl rfl ?_
  refine ps_if (S1 := (10, [(0, .ref o), (1, .int t), (2, .int i), (3, .int x)], [], M)) (S2 := (4, [(0, .ref o), (1, .int t), (2, .int i), (3, .int x)], [], M)) rfl rfl rfl (fun c_1 => ?_) (fun c_1 => ?_)
  · exact absurd (of_decide_eq_true c_1) (h0)
  refine ps_st (S' := (5, [(0, .ref o), (1, .int t), (2, .int i), (3, .int x)], [.int x], M)) rfl rfl rfl ?_
  refine ps_st (S' := (7, [(0, .ref o), (1, .int t), (2, .int i), (3, .int x)], [.int 9, .int x], M)) rfl rfl rfl ?_
  refine ps_if2 (S1 := (20, [(0, .ref o), (1, .int t), (2, .int i), (3, .int x)], [], M)) (S2 := (10, [(0, .ref o), (1, .int t), (2, .int i), (3, .int x)], [], M)) rfl rfl rfl (fun c_7 => ?_) (fun c_7 => ?_)
  rotate_left
  · exact absurd (h1) (of_decide_eq_false c_7)
  refine ps_st (S' := (21, [(0, .ref o), (1, .int t), (2, .int i), (3, .int x)], [.ref o], M)) rfl rfl rfl ?_
  refine ps_get (S' := (24, [(0, .ref o), (1, .int t), (2, .int i), (3, .int x)], [.ref c], M)) rfl h_o rfl rfl ?_
  refine ps_st (S' := (31, [(0, .ref o), (1, .int t), (2, .int i), (3, .int x)], [], M)) rfl rfl rfl ?_
  refine ps_st (S' := (32, [(0, .ref o), (1, .int t), (2, .int i), (3, .int x)], [.ref o], M)) rfl rfl rfl ?_
  refine ps_get (S' := (35, [(0, .ref o), (1, .int t), (2, .int i), (3, .int x)], [.ref c], M)) rfl h_o rfl rfl ?_
  refine ps_st (S' := (36, [(0, .ref o), (1, .int t), (2, .int i), (3, .int x)], [.int t, .ref c], M)) rfl rfl rfl ?_
  refine ps_st (S' := (37, [(0, .ref o), (1, .int t), (2, .int i), (3, .int x)], [.int i, .int t, .ref c], M)) rfl rfl rfl ?_
  refine pl_call (a := [.ref c, .int t, .int i]) (rest := []) rfl rfl rfl (dk_memberAtNF (c := c) (b := b) (q := q) (fr := fr) (mr := mr) (l := l) (u2 := u2) (u3 := u3) (u4 := u4) (u5 := u5) (w := w) (R := R) (t := t) (i := i) h_c h_fr (ht) (hi)) (fun v1 M2 q3 => ?_)
  obtain ⟨rfl, rfl⟩ := q3
  show pl _ _ _ (40, [(1, .int t), (3, .int x)], [.null], M) _
  refine ps_st (S' := (42, [(4, .null), (1, .int t), (3, .int x)], [], M)) rfl rfl rfl ?_
  refine ps_st (S' := (44, [(4, .null), (1, .int t), (3, .int x)], [.null], M)) rfl rfl rfl ?_
  refine ps_st (S' := (47, [(4, .null), (1, .int t), (3, .int x)], [], M)) rfl rfl rfl ?_
  refine ps_st (S' := (48, [(4, .null), (1, .int t), (3, .int x)], [.int (-1)], M)) rfl rfl rfl ?_
  refine ps_st (S' := (58, [], [.int (-1)], M)) rfl rfl rfl ?_
  exact ps_ret rfl rfl (⟨rfl, rfl⟩)
set_option maxHeartbeats 1000000 in
theorem dk_memberF0 {g : xe_G} {M : mi_H} {o ca fl : Nat} {cn wp : Int32} {c b q fr mr l : Nat} {u2 u3 u4 u5 : Int32} {w : List Value} {R : Nat → Value} {a : Nat} {m0 m1 m2 m3 m4 m5 m6 m7 m8 m9 : Int32} {t : Int32} {k : Nat} {mv : Value} (h_o : M.1 o = some (ob 11 [.ref ca, .int cn, .ref fl, .ref c, .int wp])) (h_c : M.1 c = some (ob 3 (.ref b :: .ref q :: .int u2 :: .int u3 :: .int u4 :: .int u5 :: .ref fr :: .ref mr :: w))) (h_fr : M.1 fr = some (ro "ClassGate$Member" l R)) (h_a : M.1 a = some (ob 6 [.int m0, .int m1, .int m2, .int m3, .int m4, .int m5, .int m6, .int m7, .int m8, .int m9, mv])) (ht : t = 0) (hk : k < l) (hl : l < 65536) (hR : R k = .ref a) : pt (mT g) 15 [.ref o, .int t, .int (nI k), .int 0] M (fun v M' => (v = some (.int m1) ∧ M = M')) := by
  refine pt_in (b := mb_15 g) rfl (fun kf => ?_)
  show pl (mT g) kf (mb_15 g).2 (0, [(0, .ref o), (1, .int t), (2, .int (nI k)), (3, .int 0)], [], M) _
  refine ps_st (S' := (1, [(0, .ref o), (1, .int t), (2, .int (nI k)), (3, .int 0)], [.int 0], M)) rfl rfl rfl ?_
  refine ps_if (S1 := (10, [(0, .ref o), (1, .int t), (2, .int (nI k)), (3, .int 0)], [], M)) (S2 := (4, [(0, .ref o), (1, .int t), (2, .int (nI k)), (3, .int 0)], [], M)) rfl rfl rfl (fun c_1 => ?_) (fun c_1 => ?_)
  · exact absurd (of_decide_eq_true c_1) (by decide)
  refine ps_st (S' := (5, [(0, .ref o), (1, .int t), (2, .int (nI k)), (3, .int 0)], [.int 0], M)) rfl rfl rfl ?_
  refine ps_st (S' := (7, [(0, .ref o), (1, .int t), (2, .int (nI k)), (3, .int 0)], [.int 9, .int 0], M)) rfl rfl rfl ?_
  refine ps_if2 (S1 := (20, [(0, .ref o), (1, .int t), (2, .int (nI k)), (3, .int 0)], [], M)) (S2 := (10, [(0, .ref o), (1, .int t), (2, .int (nI k)), (3, .int 0)], [], M)) rfl rfl rfl (fun c_7 => ?_) (fun c_7 => ?_)
  rotate_left
  · exact absurd (by decide) (of_decide_eq_false c_7)
  refine ps_st (S' := (21, [(0, .ref o), (1, .int t), (2, .int (nI k)), (3, .int 0)], [.ref o], M)) rfl rfl rfl ?_
  refine ps_get (S' := (24, [(0, .ref o), (1, .int t), (2, .int (nI k)), (3, .int 0)], [.ref c], M)) rfl h_o rfl rfl ?_
  refine ps_st (S' := (31, [(0, .ref o), (1, .int t), (2, .int (nI k)), (3, .int 0)], [], M)) rfl rfl rfl ?_
  refine ps_st (S' := (32, [(0, .ref o), (1, .int t), (2, .int (nI k)), (3, .int 0)], [.ref o], M)) rfl rfl rfl ?_
  refine ps_get (S' := (35, [(0, .ref o), (1, .int t), (2, .int (nI k)), (3, .int 0)], [.ref c], M)) rfl h_o rfl rfl ?_
  refine ps_st (S' := (36, [(0, .ref o), (1, .int t), (2, .int (nI k)), (3, .int 0)], [.int t, .ref c], M)) rfl rfl rfl ?_
  refine ps_st (S' := (37, [(0, .ref o), (1, .int t), (2, .int (nI k)), (3, .int 0)], [.int (nI k), .int t, .ref c], M)) rfl rfl rfl ?_
  refine pl_call (a := [.ref c, .int t, .int (nI k)]) (rest := []) rfl rfl rfl (dk_memberAtF (c := c) (b := b) (q := q) (fr := fr) (mr := mr) (l := l) (u2 := u2) (u3 := u3) (u4 := u4) (u5 := u5) (w := w) (R := R) (t := t) (k := k) (a := a) h_c h_fr (ht) (hk) (hl) (hR)) (fun v1 M2 q3 => ?_)
  obtain ⟨rfl, rfl⟩ := q3
  show pl _ _ _ (40, [(1, .int t), (3, .int 0)], [.ref a], M) _
  refine ps_st (S' := (42, [(4, .ref a), (1, .int t), (3, .int 0)], [], M)) rfl rfl rfl ?_
  refine ps_st (S' := (44, [(4, .ref a), (1, .int t), (3, .int 0)], [.ref a], M)) rfl rfl rfl ?_
  refine ps_st (S' := (51, [(4, .ref a), (1, .int t), (3, .int 0)], [], M)) rfl rfl rfl ?_
  refine ps_st (S' := (53, [(4, .ref a), (1, .int t), (3, .int 0)], [.ref a], M)) rfl rfl rfl ?_
  refine ps_st (S' := (54, [(4, .ref a), (1, .int t), (3, .int 0)], [.int t, .ref a], M)) rfl rfl rfl ?_
  refine ps_st (S' := (55, [(4, .ref a), (1, .int t), (3, .int 0)], [.int 0, .int t, .ref a], M)) rfl rfl rfl ?_
  refine pl_call (a := [.ref a, .int t, .int 0]) (rest := []) rfl rfl rfl (dk_mnumF0 (a := a) (t := t) (m0 := m0) (m1 := m1) (m2 := m2) (m3 := m3) (m4 := m4) (m5 := m5) (m6 := m6) (m7 := m7) (m8 := m8) (m9 := m9) (mv := mv) h_a (ht)) (fun v4 M5 q6 => ?_)
  obtain ⟨rfl, rfl⟩ := q6
  show pl _ _ _ (58, [], [.int m1], M) _
  exact ps_reti rfl (⟨rfl, rfl⟩)
set_option maxHeartbeats 1000000 in
theorem dk_memberF1 {g : xe_G} {M : mi_H} {o ca fl : Nat} {cn wp : Int32} {c b q fr mr l : Nat} {u2 u3 u4 u5 : Int32} {w : List Value} {R : Nat → Value} {a : Nat} {m0 m1 m2 m3 m4 m5 m6 m7 m8 m9 : Int32} {t : Int32} {k : Nat} {mv : Value} (h_o : M.1 o = some (ob 11 [.ref ca, .int cn, .ref fl, .ref c, .int wp])) (h_c : M.1 c = some (ob 3 (.ref b :: .ref q :: .int u2 :: .int u3 :: .int u4 :: .int u5 :: .ref fr :: .ref mr :: w))) (h_fr : M.1 fr = some (ro "ClassGate$Member" l R)) (h_a : M.1 a = some (ob 6 [.int m0, .int m1, .int m2, .int m3, .int m4, .int m5, .int m6, .int m7, .int m8, .int m9, mv])) (ht : t = 0) (hk : k < l) (hl : l < 65536) (hR : R k = .ref a) : pt (mT g) 15 [.ref o, .int t, .int (nI k), .int 1] M (fun v M' => (v = some (.int m2) ∧ M = M')) := by
  refine pt_in (b := mb_15 g) rfl (fun kf => ?_)
  show pl (mT g) kf (mb_15 g).2 (0, [(0, .ref o), (1, .int t), (2, .int (nI k)), (3, .int 1)], [], M) _
  refine ps_st (S' := (1, [(0, .ref o), (1, .int t), (2, .int (nI k)), (3, .int 1)], [.int 1], M)) rfl rfl rfl ?_
  refine ps_if (S1 := (10, [(0, .ref o), (1, .int t), (2, .int (nI k)), (3, .int 1)], [], M)) (S2 := (4, [(0, .ref o), (1, .int t), (2, .int (nI k)), (3, .int 1)], [], M)) rfl rfl rfl (fun c_1 => ?_) (fun c_1 => ?_)
  · exact absurd (of_decide_eq_true c_1) (by decide)
  refine ps_st (S' := (5, [(0, .ref o), (1, .int t), (2, .int (nI k)), (3, .int 1)], [.int 1], M)) rfl rfl rfl ?_
  refine ps_st (S' := (7, [(0, .ref o), (1, .int t), (2, .int (nI k)), (3, .int 1)], [.int 9, .int 1], M)) rfl rfl rfl ?_
  refine ps_if2 (S1 := (20, [(0, .ref o), (1, .int t), (2, .int (nI k)), (3, .int 1)], [], M)) (S2 := (10, [(0, .ref o), (1, .int t), (2, .int (nI k)), (3, .int 1)], [], M)) rfl rfl rfl (fun c_7 => ?_) (fun c_7 => ?_)
  rotate_left
  · exact absurd (by decide) (of_decide_eq_false c_7)
  refine ps_st (S' := (21, [(0, .ref o), (1, .int t), (2, .int (nI k)), (3, .int 1)], [.ref o], M)) rfl rfl rfl ?_
  refine ps_get (S' := (24, [(0, .ref o), (1, .int t), (2, .int (nI k)), (3, .int 1)], [.ref c], M)) rfl h_o rfl rfl ?_
  refine ps_st (S' := (31, [(0, .ref o), (1, .int t), (2, .int (nI k)), (3, .int 1)], [], M)) rfl rfl rfl ?_
  refine ps_st (S' := (32, [(0, .ref o), (1, .int t), (2, .int (nI k)), (3, .int 1)], [.ref o], M)) rfl rfl rfl ?_
  refine ps_get (S' := (35, [(0, .ref o), (1, .int t), (2, .int (nI k)), (3, .int 1)], [.ref c], M)) rfl h_o rfl rfl ?_
  refine ps_st (S' := (36, [(0, .ref o), (1, .int t), (2, .int (nI k)), (3, .int 1)], [.int t, .ref c], M)) rfl rfl rfl ?_
  refine ps_st (S' := (37, [(0, .ref o), (1, .int t), (2, .int (nI k)), (3, .int 1)], [.int (nI k), .int t, .ref c], M)) rfl rfl rfl ?_
  refine pl_call (a := [.ref c, .int t, .int (nI k)]) (rest := []) rfl rfl rfl (dk_memberAtF (c := c) (b := b) (q := q) (fr := fr) (mr := mr) (l := l) (u2 := u2) (u3 := u3) (u4 := u4) (u5 := u5) (w := w) (R := R) (t := t) (k := k) (a := a) h_c h_fr (ht) (hk) (hl) (hR)) (fun v1 M2 q3 => ?_)
  obtain ⟨rfl, rfl⟩ := q3
  show pl _ _ _ (40, [(1, .int t), (3, .int 1)], [.ref a], M) _
  refine ps_st (S' := (42, [(4, .ref a), (1, .int t), (3, .int 1)], [], M)) rfl rfl rfl ?_
  refine ps_st (S' := (44, [(4, .ref a), (1, .int t), (3, .int 1)], [.ref a], M)) rfl rfl rfl ?_
  refine ps_st (S' := (51, [(4, .ref a), (1, .int t), (3, .int 1)], [], M)) rfl rfl rfl ?_
  refine ps_st (S' := (53, [(4, .ref a), (1, .int t), (3, .int 1)], [.ref a], M)) rfl rfl rfl ?_
  refine ps_st (S' := (54, [(4, .ref a), (1, .int t), (3, .int 1)], [.int t, .ref a], M)) rfl rfl rfl ?_
  refine ps_st (S' := (55, [(4, .ref a), (1, .int t), (3, .int 1)], [.int 1, .int t, .ref a], M)) rfl rfl rfl ?_
  refine pl_call (a := [.ref a, .int t, .int 1]) (rest := []) rfl rfl rfl (dk_mnumF1 (a := a) (t := t) (m0 := m0) (m1 := m1) (m2 := m2) (m3 := m3) (m4 := m4) (m5 := m5) (m6 := m6) (m7 := m7) (m8 := m8) (m9 := m9) (mv := mv) h_a (ht)) (fun v4 M5 q6 => ?_)
  obtain ⟨rfl, rfl⟩ := q6
  show pl _ _ _ (58, [], [.int m2], M) _
  exact ps_reti rfl (⟨rfl, rfl⟩)
set_option maxHeartbeats 1000000 in
theorem dk_memberF2 {g : xe_G} {M : mi_H} {o ca fl : Nat} {cn wp : Int32} {c b q fr mr l : Nat} {u2 u3 u4 u5 : Int32} {w : List Value} {R : Nat → Value} {a : Nat} {m0 m1 m2 m3 m4 m5 m6 m7 m8 m9 : Int32} {t : Int32} {k : Nat} {mv : Value} (h_o : M.1 o = some (ob 11 [.ref ca, .int cn, .ref fl, .ref c, .int wp])) (h_c : M.1 c = some (ob 3 (.ref b :: .ref q :: .int u2 :: .int u3 :: .int u4 :: .int u5 :: .ref fr :: .ref mr :: w))) (h_fr : M.1 fr = some (ro "ClassGate$Member" l R)) (h_a : M.1 a = some (ob 6 [.int m0, .int m1, .int m2, .int m3, .int m4, .int m5, .int m6, .int m7, .int m8, .int m9, mv])) (ht : t = 0) (hk : k < l) (hl : l < 65536) (hR : R k = .ref a) : pt (mT g) 15 [.ref o, .int t, .int (nI k), .int 2] M (fun v M' => (v = some (.int m3) ∧ M = M')) := by
  refine pt_in (b := mb_15 g) rfl (fun kf => ?_)
  show pl (mT g) kf (mb_15 g).2 (0, [(0, .ref o), (1, .int t), (2, .int (nI k)), (3, .int 2)], [], M) _
  refine ps_st (S' := (1, [(0, .ref o), (1, .int t), (2, .int (nI k)), (3, .int 2)], [.int 2], M)) rfl rfl rfl ?_
  refine ps_if (S1 := (10, [(0, .ref o), (1, .int t), (2, .int (nI k)), (3, .int 2)], [], M)) (S2 := (4, [(0, .ref o), (1, .int t), (2, .int (nI k)), (3, .int 2)], [], M)) rfl rfl rfl (fun c_1 => ?_) (fun c_1 => ?_)
  · exact absurd (of_decide_eq_true c_1) (by decide)
  refine ps_st (S' := (5, [(0, .ref o), (1, .int t), (2, .int (nI k)), (3, .int 2)], [.int 2], M)) rfl rfl rfl ?_
  refine ps_st (S' := (7, [(0, .ref o), (1, .int t), (2, .int (nI k)), (3, .int 2)], [.int 9, .int 2], M)) rfl rfl rfl ?_
  refine ps_if2 (S1 := (20, [(0, .ref o), (1, .int t), (2, .int (nI k)), (3, .int 2)], [], M)) (S2 := (10, [(0, .ref o), (1, .int t), (2, .int (nI k)), (3, .int 2)], [], M)) rfl rfl rfl (fun c_7 => ?_) (fun c_7 => ?_)
  rotate_left
  · exact absurd (by decide) (of_decide_eq_false c_7)
  refine ps_st (S' := (21, [(0, .ref o), (1, .int t), (2, .int (nI k)), (3, .int 2)], [.ref o], M)) rfl rfl rfl ?_
  refine ps_get (S' := (24, [(0, .ref o), (1, .int t), (2, .int (nI k)), (3, .int 2)], [.ref c], M)) rfl h_o rfl rfl ?_
  refine ps_st (S' := (31, [(0, .ref o), (1, .int t), (2, .int (nI k)), (3, .int 2)], [], M)) rfl rfl rfl ?_
  refine ps_st (S' := (32, [(0, .ref o), (1, .int t), (2, .int (nI k)), (3, .int 2)], [.ref o], M)) rfl rfl rfl ?_
  refine ps_get (S' := (35, [(0, .ref o), (1, .int t), (2, .int (nI k)), (3, .int 2)], [.ref c], M)) rfl h_o rfl rfl ?_
  refine ps_st (S' := (36, [(0, .ref o), (1, .int t), (2, .int (nI k)), (3, .int 2)], [.int t, .ref c], M)) rfl rfl rfl ?_
  refine ps_st (S' := (37, [(0, .ref o), (1, .int t), (2, .int (nI k)), (3, .int 2)], [.int (nI k), .int t, .ref c], M)) rfl rfl rfl ?_
  refine pl_call (a := [.ref c, .int t, .int (nI k)]) (rest := []) rfl rfl rfl (dk_memberAtF (c := c) (b := b) (q := q) (fr := fr) (mr := mr) (l := l) (u2 := u2) (u3 := u3) (u4 := u4) (u5 := u5) (w := w) (R := R) (t := t) (k := k) (a := a) h_c h_fr (ht) (hk) (hl) (hR)) (fun v1 M2 q3 => ?_)
  obtain ⟨rfl, rfl⟩ := q3
  show pl _ _ _ (40, [(1, .int t), (3, .int 2)], [.ref a], M) _
  refine ps_st (S' := (42, [(4, .ref a), (1, .int t), (3, .int 2)], [], M)) rfl rfl rfl ?_
  refine ps_st (S' := (44, [(4, .ref a), (1, .int t), (3, .int 2)], [.ref a], M)) rfl rfl rfl ?_
  refine ps_st (S' := (51, [(4, .ref a), (1, .int t), (3, .int 2)], [], M)) rfl rfl rfl ?_
  refine ps_st (S' := (53, [(4, .ref a), (1, .int t), (3, .int 2)], [.ref a], M)) rfl rfl rfl ?_
  refine ps_st (S' := (54, [(4, .ref a), (1, .int t), (3, .int 2)], [.int t, .ref a], M)) rfl rfl rfl ?_
  refine ps_st (S' := (55, [(4, .ref a), (1, .int t), (3, .int 2)], [.int 2, .int t, .ref a], M)) rfl rfl rfl ?_
  refine pl_call (a := [.ref a, .int t, .int 2]) (rest := []) rfl rfl rfl (dk_mnumF2 (a := a) (t := t) (m0 := m0) (m1 := m1) (m2 := m2) (m3 := m3) (m4 := m4) (m5 := m5) (m6 := m6) (m7 := m7) (m8 := m8) (m9 := m9) (mv := mv) h_a (ht)) (fun v4 M5 q6 => ?_)
  obtain ⟨rfl, rfl⟩ := q6
  show pl _ _ _ (58, [], [.int m3], M) _
  exact ps_reti rfl (⟨rfl, rfl⟩)
set_option maxHeartbeats 1000000 in
theorem dk_memberF3 {g : xe_G} {M : mi_H} {o ca fl : Nat} {cn wp : Int32} {c b q fr mr l : Nat} {u2 u3 u4 u5 : Int32} {w : List Value} {R : Nat → Value} {a : Nat} {m0 m1 m2 m3 m4 m5 m6 m7 m8 m9 : Int32} {t : Int32} {k : Nat} {mv : Value} (h_o : M.1 o = some (ob 11 [.ref ca, .int cn, .ref fl, .ref c, .int wp])) (h_c : M.1 c = some (ob 3 (.ref b :: .ref q :: .int u2 :: .int u3 :: .int u4 :: .int u5 :: .ref fr :: .ref mr :: w))) (h_fr : M.1 fr = some (ro "ClassGate$Member" l R)) (h_a : M.1 a = some (ob 6 [.int m0, .int m1, .int m2, .int m3, .int m4, .int m5, .int m6, .int m7, .int m8, .int m9, mv])) (ht : t = 0) (hk : k < l) (hl : l < 65536) (hR : R k = .ref a) : pt (mT g) 15 [.ref o, .int t, .int (nI k), .int 3] M (fun v M' => (v = some (.int m6) ∧ M = M')) := by
  refine pt_in (b := mb_15 g) rfl (fun kf => ?_)
  show pl (mT g) kf (mb_15 g).2 (0, [(0, .ref o), (1, .int t), (2, .int (nI k)), (3, .int 3)], [], M) _
  refine ps_st (S' := (1, [(0, .ref o), (1, .int t), (2, .int (nI k)), (3, .int 3)], [.int 3], M)) rfl rfl rfl ?_
  refine ps_if (S1 := (10, [(0, .ref o), (1, .int t), (2, .int (nI k)), (3, .int 3)], [], M)) (S2 := (4, [(0, .ref o), (1, .int t), (2, .int (nI k)), (3, .int 3)], [], M)) rfl rfl rfl (fun c_1 => ?_) (fun c_1 => ?_)
  · exact absurd (of_decide_eq_true c_1) (by decide)
  refine ps_st (S' := (5, [(0, .ref o), (1, .int t), (2, .int (nI k)), (3, .int 3)], [.int 3], M)) rfl rfl rfl ?_
  refine ps_st (S' := (7, [(0, .ref o), (1, .int t), (2, .int (nI k)), (3, .int 3)], [.int 9, .int 3], M)) rfl rfl rfl ?_
  refine ps_if2 (S1 := (20, [(0, .ref o), (1, .int t), (2, .int (nI k)), (3, .int 3)], [], M)) (S2 := (10, [(0, .ref o), (1, .int t), (2, .int (nI k)), (3, .int 3)], [], M)) rfl rfl rfl (fun c_7 => ?_) (fun c_7 => ?_)
  rotate_left
  · exact absurd (by decide) (of_decide_eq_false c_7)
  refine ps_st (S' := (21, [(0, .ref o), (1, .int t), (2, .int (nI k)), (3, .int 3)], [.ref o], M)) rfl rfl rfl ?_
  refine ps_get (S' := (24, [(0, .ref o), (1, .int t), (2, .int (nI k)), (3, .int 3)], [.ref c], M)) rfl h_o rfl rfl ?_
  refine ps_st (S' := (31, [(0, .ref o), (1, .int t), (2, .int (nI k)), (3, .int 3)], [], M)) rfl rfl rfl ?_
  refine ps_st (S' := (32, [(0, .ref o), (1, .int t), (2, .int (nI k)), (3, .int 3)], [.ref o], M)) rfl rfl rfl ?_
  refine ps_get (S' := (35, [(0, .ref o), (1, .int t), (2, .int (nI k)), (3, .int 3)], [.ref c], M)) rfl h_o rfl rfl ?_
  refine ps_st (S' := (36, [(0, .ref o), (1, .int t), (2, .int (nI k)), (3, .int 3)], [.int t, .ref c], M)) rfl rfl rfl ?_
  refine ps_st (S' := (37, [(0, .ref o), (1, .int t), (2, .int (nI k)), (3, .int 3)], [.int (nI k), .int t, .ref c], M)) rfl rfl rfl ?_
  refine pl_call (a := [.ref c, .int t, .int (nI k)]) (rest := []) rfl rfl rfl (dk_memberAtF (c := c) (b := b) (q := q) (fr := fr) (mr := mr) (l := l) (u2 := u2) (u3 := u3) (u4 := u4) (u5 := u5) (w := w) (R := R) (t := t) (k := k) (a := a) h_c h_fr (ht) (hk) (hl) (hR)) (fun v1 M2 q3 => ?_)
  obtain ⟨rfl, rfl⟩ := q3
  show pl _ _ _ (40, [(1, .int t), (3, .int 3)], [.ref a], M) _
  refine ps_st (S' := (42, [(4, .ref a), (1, .int t), (3, .int 3)], [], M)) rfl rfl rfl ?_
  refine ps_st (S' := (44, [(4, .ref a), (1, .int t), (3, .int 3)], [.ref a], M)) rfl rfl rfl ?_
  refine ps_st (S' := (51, [(4, .ref a), (1, .int t), (3, .int 3)], [], M)) rfl rfl rfl ?_
  refine ps_st (S' := (53, [(4, .ref a), (1, .int t), (3, .int 3)], [.ref a], M)) rfl rfl rfl ?_
  refine ps_st (S' := (54, [(4, .ref a), (1, .int t), (3, .int 3)], [.int t, .ref a], M)) rfl rfl rfl ?_
  refine ps_st (S' := (55, [(4, .ref a), (1, .int t), (3, .int 3)], [.int 3, .int t, .ref a], M)) rfl rfl rfl ?_
  refine pl_call (a := [.ref a, .int t, .int 3]) (rest := []) rfl rfl rfl (dk_mnumF3 (a := a) (t := t) (m0 := m0) (m1 := m1) (m2 := m2) (m3 := m3) (m4 := m4) (m5 := m5) (m6 := m6) (m7 := m7) (m8 := m8) (m9 := m9) (mv := mv) h_a (ht)) (fun v4 M5 q6 => ?_)
  obtain ⟨rfl, rfl⟩ := q6
  show pl _ _ _ (58, [], [.int m6], M) _
  exact ps_reti rfl (⟨rfl, rfl⟩)
set_option maxHeartbeats 1000000 in
theorem dk_memberF4 {g : xe_G} {M : mi_H} {o ca fl : Nat} {cn wp : Int32} {c b q fr mr l : Nat} {u2 u3 u4 u5 : Int32} {w : List Value} {R : Nat → Value} {a : Nat} {m0 m1 m2 m3 m4 m5 m6 m7 m8 m9 : Int32} {t : Int32} {k : Nat} {mv : Value} (h_o : M.1 o = some (ob 11 [.ref ca, .int cn, .ref fl, .ref c, .int wp])) (h_c : M.1 c = some (ob 3 (.ref b :: .ref q :: .int u2 :: .int u3 :: .int u4 :: .int u5 :: .ref fr :: .ref mr :: w))) (h_fr : M.1 fr = some (ro "ClassGate$Member" l R)) (h_a : M.1 a = some (ob 6 [.int m0, .int m1, .int m2, .int m3, .int m4, .int m5, .int m6, .int m7, .int m8, .int m9, mv])) (ht : t = 0) (hk : k < l) (hl : l < 65536) (hR : R k = .ref a) : pt (mT g) 15 [.ref o, .int t, .int (nI k), .int 4] M (fun v M' => (v = some (.int m7) ∧ M = M')) := by
  refine pt_in (b := mb_15 g) rfl (fun kf => ?_)
  show pl (mT g) kf (mb_15 g).2 (0, [(0, .ref o), (1, .int t), (2, .int (nI k)), (3, .int 4)], [], M) _
  refine ps_st (S' := (1, [(0, .ref o), (1, .int t), (2, .int (nI k)), (3, .int 4)], [.int 4], M)) rfl rfl rfl ?_
  refine ps_if (S1 := (10, [(0, .ref o), (1, .int t), (2, .int (nI k)), (3, .int 4)], [], M)) (S2 := (4, [(0, .ref o), (1, .int t), (2, .int (nI k)), (3, .int 4)], [], M)) rfl rfl rfl (fun c_1 => ?_) (fun c_1 => ?_)
  · exact absurd (of_decide_eq_true c_1) (by decide)
  refine ps_st (S' := (5, [(0, .ref o), (1, .int t), (2, .int (nI k)), (3, .int 4)], [.int 4], M)) rfl rfl rfl ?_
  refine ps_st (S' := (7, [(0, .ref o), (1, .int t), (2, .int (nI k)), (3, .int 4)], [.int 9, .int 4], M)) rfl rfl rfl ?_
  refine ps_if2 (S1 := (20, [(0, .ref o), (1, .int t), (2, .int (nI k)), (3, .int 4)], [], M)) (S2 := (10, [(0, .ref o), (1, .int t), (2, .int (nI k)), (3, .int 4)], [], M)) rfl rfl rfl (fun c_7 => ?_) (fun c_7 => ?_)
  rotate_left
  · exact absurd (by decide) (of_decide_eq_false c_7)
  refine ps_st (S' := (21, [(0, .ref o), (1, .int t), (2, .int (nI k)), (3, .int 4)], [.ref o], M)) rfl rfl rfl ?_
  refine ps_get (S' := (24, [(0, .ref o), (1, .int t), (2, .int (nI k)), (3, .int 4)], [.ref c], M)) rfl h_o rfl rfl ?_
  refine ps_st (S' := (31, [(0, .ref o), (1, .int t), (2, .int (nI k)), (3, .int 4)], [], M)) rfl rfl rfl ?_
  refine ps_st (S' := (32, [(0, .ref o), (1, .int t), (2, .int (nI k)), (3, .int 4)], [.ref o], M)) rfl rfl rfl ?_
  refine ps_get (S' := (35, [(0, .ref o), (1, .int t), (2, .int (nI k)), (3, .int 4)], [.ref c], M)) rfl h_o rfl rfl ?_
  refine ps_st (S' := (36, [(0, .ref o), (1, .int t), (2, .int (nI k)), (3, .int 4)], [.int t, .ref c], M)) rfl rfl rfl ?_
  refine ps_st (S' := (37, [(0, .ref o), (1, .int t), (2, .int (nI k)), (3, .int 4)], [.int (nI k), .int t, .ref c], M)) rfl rfl rfl ?_
  refine pl_call (a := [.ref c, .int t, .int (nI k)]) (rest := []) rfl rfl rfl (dk_memberAtF (c := c) (b := b) (q := q) (fr := fr) (mr := mr) (l := l) (u2 := u2) (u3 := u3) (u4 := u4) (u5 := u5) (w := w) (R := R) (t := t) (k := k) (a := a) h_c h_fr (ht) (hk) (hl) (hR)) (fun v1 M2 q3 => ?_)
  obtain ⟨rfl, rfl⟩ := q3
  show pl _ _ _ (40, [(1, .int t), (3, .int 4)], [.ref a], M) _
  refine ps_st (S' := (42, [(4, .ref a), (1, .int t), (3, .int 4)], [], M)) rfl rfl rfl ?_
  refine ps_st (S' := (44, [(4, .ref a), (1, .int t), (3, .int 4)], [.ref a], M)) rfl rfl rfl ?_
  refine ps_st (S' := (51, [(4, .ref a), (1, .int t), (3, .int 4)], [], M)) rfl rfl rfl ?_
  refine ps_st (S' := (53, [(4, .ref a), (1, .int t), (3, .int 4)], [.ref a], M)) rfl rfl rfl ?_
  refine ps_st (S' := (54, [(4, .ref a), (1, .int t), (3, .int 4)], [.int t, .ref a], M)) rfl rfl rfl ?_
  refine ps_st (S' := (55, [(4, .ref a), (1, .int t), (3, .int 4)], [.int 4, .int t, .ref a], M)) rfl rfl rfl ?_
  refine pl_call (a := [.ref a, .int t, .int 4]) (rest := []) rfl rfl rfl (dk_mnumF4 (a := a) (t := t) (m0 := m0) (m1 := m1) (m2 := m2) (m3 := m3) (m4 := m4) (m5 := m5) (m6 := m6) (m7 := m7) (m8 := m8) (m9 := m9) (mv := mv) h_a (ht)) (fun v4 M5 q6 => ?_)
  obtain ⟨rfl, rfl⟩ := q6
  show pl _ _ _ (58, [], [.int m7], M) _
  exact ps_reti rfl (⟨rfl, rfl⟩)
set_option maxHeartbeats 1000000 in
theorem dk_memberF5 {g : xe_G} {M : mi_H} {o ca fl : Nat} {cn wp : Int32} {c b q fr mr l : Nat} {u2 u3 u4 u5 : Int32} {w : List Value} {R : Nat → Value} {a : Nat} {m0 m1 m2 m3 m4 m5 m6 m7 m8 m9 : Int32} {t : Int32} {k : Nat} {mv : Value} (h_o : M.1 o = some (ob 11 [.ref ca, .int cn, .ref fl, .ref c, .int wp])) (h_c : M.1 c = some (ob 3 (.ref b :: .ref q :: .int u2 :: .int u3 :: .int u4 :: .int u5 :: .ref fr :: .ref mr :: w))) (h_fr : M.1 fr = some (ro "ClassGate$Member" l R)) (h_a : M.1 a = some (ob 6 [.int m0, .int m1, .int m2, .int m3, .int m4, .int m5, .int m6, .int m7, .int m8, .int m9, mv])) (ht : t = 0) (hk : k < l) (hl : l < 65536) (hR : R k = .ref a) : pt (mT g) 15 [.ref o, .int t, .int (nI k), .int 5] M (fun v M' => (v = some (.int 0) ∧ M = M')) := by
  refine pt_in (b := mb_15 g) rfl (fun kf => ?_)
  show pl (mT g) kf (mb_15 g).2 (0, [(0, .ref o), (1, .int t), (2, .int (nI k)), (3, .int 5)], [], M) _
  refine ps_st (S' := (1, [(0, .ref o), (1, .int t), (2, .int (nI k)), (3, .int 5)], [.int 5], M)) rfl rfl rfl ?_
  refine ps_if (S1 := (10, [(0, .ref o), (1, .int t), (2, .int (nI k)), (3, .int 5)], [], M)) (S2 := (4, [(0, .ref o), (1, .int t), (2, .int (nI k)), (3, .int 5)], [], M)) rfl rfl rfl (fun c_1 => ?_) (fun c_1 => ?_)
  · exact absurd (of_decide_eq_true c_1) (by decide)
  refine ps_st (S' := (5, [(0, .ref o), (1, .int t), (2, .int (nI k)), (3, .int 5)], [.int 5], M)) rfl rfl rfl ?_
  refine ps_st (S' := (7, [(0, .ref o), (1, .int t), (2, .int (nI k)), (3, .int 5)], [.int 9, .int 5], M)) rfl rfl rfl ?_
  refine ps_if2 (S1 := (20, [(0, .ref o), (1, .int t), (2, .int (nI k)), (3, .int 5)], [], M)) (S2 := (10, [(0, .ref o), (1, .int t), (2, .int (nI k)), (3, .int 5)], [], M)) rfl rfl rfl (fun c_7 => ?_) (fun c_7 => ?_)
  rotate_left
  · exact absurd (by decide) (of_decide_eq_false c_7)
  refine ps_st (S' := (21, [(0, .ref o), (1, .int t), (2, .int (nI k)), (3, .int 5)], [.ref o], M)) rfl rfl rfl ?_
  refine ps_get (S' := (24, [(0, .ref o), (1, .int t), (2, .int (nI k)), (3, .int 5)], [.ref c], M)) rfl h_o rfl rfl ?_
  refine ps_st (S' := (31, [(0, .ref o), (1, .int t), (2, .int (nI k)), (3, .int 5)], [], M)) rfl rfl rfl ?_
  refine ps_st (S' := (32, [(0, .ref o), (1, .int t), (2, .int (nI k)), (3, .int 5)], [.ref o], M)) rfl rfl rfl ?_
  refine ps_get (S' := (35, [(0, .ref o), (1, .int t), (2, .int (nI k)), (3, .int 5)], [.ref c], M)) rfl h_o rfl rfl ?_
  refine ps_st (S' := (36, [(0, .ref o), (1, .int t), (2, .int (nI k)), (3, .int 5)], [.int t, .ref c], M)) rfl rfl rfl ?_
  refine ps_st (S' := (37, [(0, .ref o), (1, .int t), (2, .int (nI k)), (3, .int 5)], [.int (nI k), .int t, .ref c], M)) rfl rfl rfl ?_
  refine pl_call (a := [.ref c, .int t, .int (nI k)]) (rest := []) rfl rfl rfl (dk_memberAtF (c := c) (b := b) (q := q) (fr := fr) (mr := mr) (l := l) (u2 := u2) (u3 := u3) (u4 := u4) (u5 := u5) (w := w) (R := R) (t := t) (k := k) (a := a) h_c h_fr (ht) (hk) (hl) (hR)) (fun v1 M2 q3 => ?_)
  obtain ⟨rfl, rfl⟩ := q3
  show pl _ _ _ (40, [(1, .int t), (3, .int 5)], [.ref a], M) _
  refine ps_st (S' := (42, [(4, .ref a), (1, .int t), (3, .int 5)], [], M)) rfl rfl rfl ?_
  refine ps_st (S' := (44, [(4, .ref a), (1, .int t), (3, .int 5)], [.ref a], M)) rfl rfl rfl ?_
  refine ps_st (S' := (51, [(4, .ref a), (1, .int t), (3, .int 5)], [], M)) rfl rfl rfl ?_
  refine ps_st (S' := (53, [(4, .ref a), (1, .int t), (3, .int 5)], [.ref a], M)) rfl rfl rfl ?_
  refine ps_st (S' := (54, [(4, .ref a), (1, .int t), (3, .int 5)], [.int t, .ref a], M)) rfl rfl rfl ?_
  refine ps_st (S' := (55, [(4, .ref a), (1, .int t), (3, .int 5)], [.int 5, .int t, .ref a], M)) rfl rfl rfl ?_
  refine pl_call (a := [.ref a, .int t, .int 5]) (rest := []) rfl rfl rfl (dk_mnumF5 (a := a) (t := t) (m0 := m0) (m1 := m1) (m2 := m2) (m3 := m3) (m4 := m4) (m5 := m5) (m6 := m6) (m7 := m7) (m8 := m8) (m9 := m9) (mv := mv) h_a (ht)) (fun v4 M5 q6 => ?_)
  obtain ⟨rfl, rfl⟩ := q6
  show pl _ _ _ (58, [], [.int 0], M) _
  exact ps_ret rfl rfl (⟨rfl, rfl⟩)
set_option maxHeartbeats 1000000 in
theorem dk_memberF6 {g : xe_G} {M : mi_H} {o ca fl : Nat} {cn wp : Int32} {c b q fr mr l : Nat} {u2 u3 u4 u5 : Int32} {w : List Value} {R : Nat → Value} {a : Nat} {m0 m1 m2 m3 m4 m5 m6 m7 m8 m9 : Int32} {t : Int32} {k : Nat} {mv : Value} (h_o : M.1 o = some (ob 11 [.ref ca, .int cn, .ref fl, .ref c, .int wp])) (h_c : M.1 c = some (ob 3 (.ref b :: .ref q :: .int u2 :: .int u3 :: .int u4 :: .int u5 :: .ref fr :: .ref mr :: w))) (h_fr : M.1 fr = some (ro "ClassGate$Member" l R)) (h_a : M.1 a = some (ob 6 [.int m0, .int m1, .int m2, .int m3, .int m4, .int m5, .int m6, .int m7, .int m8, .int m9, mv])) (ht : t = 0) (hk : k < l) (hl : l < 65536) (hR : R k = .ref a) : pt (mT g) 15 [.ref o, .int t, .int (nI k), .int 6] M (fun v M' => (v = some (.int 0) ∧ M = M')) := by
  refine pt_in (b := mb_15 g) rfl (fun kf => ?_)
  show pl (mT g) kf (mb_15 g).2 (0, [(0, .ref o), (1, .int t), (2, .int (nI k)), (3, .int 6)], [], M) _
  refine ps_st (S' := (1, [(0, .ref o), (1, .int t), (2, .int (nI k)), (3, .int 6)], [.int 6], M)) rfl rfl rfl ?_
  refine ps_if (S1 := (10, [(0, .ref o), (1, .int t), (2, .int (nI k)), (3, .int 6)], [], M)) (S2 := (4, [(0, .ref o), (1, .int t), (2, .int (nI k)), (3, .int 6)], [], M)) rfl rfl rfl (fun c_1 => ?_) (fun c_1 => ?_)
  · exact absurd (of_decide_eq_true c_1) (by decide)
  refine ps_st (S' := (5, [(0, .ref o), (1, .int t), (2, .int (nI k)), (3, .int 6)], [.int 6], M)) rfl rfl rfl ?_
  refine ps_st (S' := (7, [(0, .ref o), (1, .int t), (2, .int (nI k)), (3, .int 6)], [.int 9, .int 6], M)) rfl rfl rfl ?_
  refine ps_if2 (S1 := (20, [(0, .ref o), (1, .int t), (2, .int (nI k)), (3, .int 6)], [], M)) (S2 := (10, [(0, .ref o), (1, .int t), (2, .int (nI k)), (3, .int 6)], [], M)) rfl rfl rfl (fun c_7 => ?_) (fun c_7 => ?_)
  rotate_left
  · exact absurd (by decide) (of_decide_eq_false c_7)
  refine ps_st (S' := (21, [(0, .ref o), (1, .int t), (2, .int (nI k)), (3, .int 6)], [.ref o], M)) rfl rfl rfl ?_
  refine ps_get (S' := (24, [(0, .ref o), (1, .int t), (2, .int (nI k)), (3, .int 6)], [.ref c], M)) rfl h_o rfl rfl ?_
  refine ps_st (S' := (31, [(0, .ref o), (1, .int t), (2, .int (nI k)), (3, .int 6)], [], M)) rfl rfl rfl ?_
  refine ps_st (S' := (32, [(0, .ref o), (1, .int t), (2, .int (nI k)), (3, .int 6)], [.ref o], M)) rfl rfl rfl ?_
  refine ps_get (S' := (35, [(0, .ref o), (1, .int t), (2, .int (nI k)), (3, .int 6)], [.ref c], M)) rfl h_o rfl rfl ?_
  refine ps_st (S' := (36, [(0, .ref o), (1, .int t), (2, .int (nI k)), (3, .int 6)], [.int t, .ref c], M)) rfl rfl rfl ?_
  refine ps_st (S' := (37, [(0, .ref o), (1, .int t), (2, .int (nI k)), (3, .int 6)], [.int (nI k), .int t, .ref c], M)) rfl rfl rfl ?_
  refine pl_call (a := [.ref c, .int t, .int (nI k)]) (rest := []) rfl rfl rfl (dk_memberAtF (c := c) (b := b) (q := q) (fr := fr) (mr := mr) (l := l) (u2 := u2) (u3 := u3) (u4 := u4) (u5 := u5) (w := w) (R := R) (t := t) (k := k) (a := a) h_c h_fr (ht) (hk) (hl) (hR)) (fun v1 M2 q3 => ?_)
  obtain ⟨rfl, rfl⟩ := q3
  show pl _ _ _ (40, [(1, .int t), (3, .int 6)], [.ref a], M) _
  refine ps_st (S' := (42, [(4, .ref a), (1, .int t), (3, .int 6)], [], M)) rfl rfl rfl ?_
  refine ps_st (S' := (44, [(4, .ref a), (1, .int t), (3, .int 6)], [.ref a], M)) rfl rfl rfl ?_
  refine ps_st (S' := (51, [(4, .ref a), (1, .int t), (3, .int 6)], [], M)) rfl rfl rfl ?_
  refine ps_st (S' := (53, [(4, .ref a), (1, .int t), (3, .int 6)], [.ref a], M)) rfl rfl rfl ?_
  refine ps_st (S' := (54, [(4, .ref a), (1, .int t), (3, .int 6)], [.int t, .ref a], M)) rfl rfl rfl ?_
  refine ps_st (S' := (55, [(4, .ref a), (1, .int t), (3, .int 6)], [.int 6, .int t, .ref a], M)) rfl rfl rfl ?_
  refine pl_call (a := [.ref a, .int t, .int 6]) (rest := []) rfl rfl rfl (dk_mnumF6 (a := a) (t := t) (m0 := m0) (m1 := m1) (m2 := m2) (m3 := m3) (m4 := m4) (m5 := m5) (m6 := m6) (m7 := m7) (m8 := m8) (m9 := m9) (mv := mv) h_a (ht)) (fun v4 M5 q6 => ?_)
  obtain ⟨rfl, rfl⟩ := q6
  show pl _ _ _ (58, [], [.int 0], M) _
  exact ps_ret rfl rfl (⟨rfl, rfl⟩)
set_option maxHeartbeats 1000000 in
theorem dk_memberF7 {g : xe_G} {M : mi_H} {o ca fl : Nat} {cn wp : Int32} {c b q fr mr l : Nat} {u2 u3 u4 u5 : Int32} {w : List Value} {R : Nat → Value} {a : Nat} {m0 m1 m2 m3 m4 m5 m6 m7 m8 m9 : Int32} {t : Int32} {k : Nat} {mv : Value} (h_o : M.1 o = some (ob 11 [.ref ca, .int cn, .ref fl, .ref c, .int wp])) (h_c : M.1 c = some (ob 3 (.ref b :: .ref q :: .int u2 :: .int u3 :: .int u4 :: .int u5 :: .ref fr :: .ref mr :: w))) (h_fr : M.1 fr = some (ro "ClassGate$Member" l R)) (h_a : M.1 a = some (ob 6 [.int m0, .int m1, .int m2, .int m3, .int m4, .int m5, .int m6, .int m7, .int m8, .int m9, mv])) (ht : t = 0) (hk : k < l) (hl : l < 65536) (hR : R k = .ref a) : pt (mT g) 15 [.ref o, .int t, .int (nI k), .int 7] M (fun v M' => (v = some (.int 0) ∧ M = M')) := by
  refine pt_in (b := mb_15 g) rfl (fun kf => ?_)
  show pl (mT g) kf (mb_15 g).2 (0, [(0, .ref o), (1, .int t), (2, .int (nI k)), (3, .int 7)], [], M) _
  refine ps_st (S' := (1, [(0, .ref o), (1, .int t), (2, .int (nI k)), (3, .int 7)], [.int 7], M)) rfl rfl rfl ?_
  refine ps_if (S1 := (10, [(0, .ref o), (1, .int t), (2, .int (nI k)), (3, .int 7)], [], M)) (S2 := (4, [(0, .ref o), (1, .int t), (2, .int (nI k)), (3, .int 7)], [], M)) rfl rfl rfl (fun c_1 => ?_) (fun c_1 => ?_)
  · exact absurd (of_decide_eq_true c_1) (by decide)
  refine ps_st (S' := (5, [(0, .ref o), (1, .int t), (2, .int (nI k)), (3, .int 7)], [.int 7], M)) rfl rfl rfl ?_
  refine ps_st (S' := (7, [(0, .ref o), (1, .int t), (2, .int (nI k)), (3, .int 7)], [.int 9, .int 7], M)) rfl rfl rfl ?_
  refine ps_if2 (S1 := (20, [(0, .ref o), (1, .int t), (2, .int (nI k)), (3, .int 7)], [], M)) (S2 := (10, [(0, .ref o), (1, .int t), (2, .int (nI k)), (3, .int 7)], [], M)) rfl rfl rfl (fun c_7 => ?_) (fun c_7 => ?_)
  rotate_left
  · exact absurd (by decide) (of_decide_eq_false c_7)
  refine ps_st (S' := (21, [(0, .ref o), (1, .int t), (2, .int (nI k)), (3, .int 7)], [.ref o], M)) rfl rfl rfl ?_
  refine ps_get (S' := (24, [(0, .ref o), (1, .int t), (2, .int (nI k)), (3, .int 7)], [.ref c], M)) rfl h_o rfl rfl ?_
  refine ps_st (S' := (31, [(0, .ref o), (1, .int t), (2, .int (nI k)), (3, .int 7)], [], M)) rfl rfl rfl ?_
  refine ps_st (S' := (32, [(0, .ref o), (1, .int t), (2, .int (nI k)), (3, .int 7)], [.ref o], M)) rfl rfl rfl ?_
  refine ps_get (S' := (35, [(0, .ref o), (1, .int t), (2, .int (nI k)), (3, .int 7)], [.ref c], M)) rfl h_o rfl rfl ?_
  refine ps_st (S' := (36, [(0, .ref o), (1, .int t), (2, .int (nI k)), (3, .int 7)], [.int t, .ref c], M)) rfl rfl rfl ?_
  refine ps_st (S' := (37, [(0, .ref o), (1, .int t), (2, .int (nI k)), (3, .int 7)], [.int (nI k), .int t, .ref c], M)) rfl rfl rfl ?_
  refine pl_call (a := [.ref c, .int t, .int (nI k)]) (rest := []) rfl rfl rfl (dk_memberAtF (c := c) (b := b) (q := q) (fr := fr) (mr := mr) (l := l) (u2 := u2) (u3 := u3) (u4 := u4) (u5 := u5) (w := w) (R := R) (t := t) (k := k) (a := a) h_c h_fr (ht) (hk) (hl) (hR)) (fun v1 M2 q3 => ?_)
  obtain ⟨rfl, rfl⟩ := q3
  show pl _ _ _ (40, [(1, .int t), (3, .int 7)], [.ref a], M) _
  refine ps_st (S' := (42, [(4, .ref a), (1, .int t), (3, .int 7)], [], M)) rfl rfl rfl ?_
  refine ps_st (S' := (44, [(4, .ref a), (1, .int t), (3, .int 7)], [.ref a], M)) rfl rfl rfl ?_
  refine ps_st (S' := (51, [(4, .ref a), (1, .int t), (3, .int 7)], [], M)) rfl rfl rfl ?_
  refine ps_st (S' := (53, [(4, .ref a), (1, .int t), (3, .int 7)], [.ref a], M)) rfl rfl rfl ?_
  refine ps_st (S' := (54, [(4, .ref a), (1, .int t), (3, .int 7)], [.int t, .ref a], M)) rfl rfl rfl ?_
  refine ps_st (S' := (55, [(4, .ref a), (1, .int t), (3, .int 7)], [.int 7, .int t, .ref a], M)) rfl rfl rfl ?_
  refine pl_call (a := [.ref a, .int t, .int 7]) (rest := []) rfl rfl rfl (dk_mnumF7 (a := a) (t := t) (m0 := m0) (m1 := m1) (m2 := m2) (m3 := m3) (m4 := m4) (m5 := m5) (m6 := m6) (m7 := m7) (m8 := m8) (m9 := m9) (mv := mv) h_a (ht)) (fun v4 M5 q6 => ?_)
  obtain ⟨rfl, rfl⟩ := q6
  show pl _ _ _ (58, [], [.int 0], M) _
  exact ps_ret rfl rfl (⟨rfl, rfl⟩)
set_option maxHeartbeats 1000000 in
theorem dk_memberF8 {g : xe_G} {M : mi_H} {o ca fl : Nat} {cn wp : Int32} {c b q fr mr l : Nat} {u2 u3 u4 u5 : Int32} {w : List Value} {R : Nat → Value} {a : Nat} {m0 m1 m2 m3 m4 m5 m6 m7 m8 m9 : Int32} {t : Int32} {k : Nat} {mv : Value} (h_o : M.1 o = some (ob 11 [.ref ca, .int cn, .ref fl, .ref c, .int wp])) (h_c : M.1 c = some (ob 3 (.ref b :: .ref q :: .int u2 :: .int u3 :: .int u4 :: .int u5 :: .ref fr :: .ref mr :: w))) (h_fr : M.1 fr = some (ro "ClassGate$Member" l R)) (h_a : M.1 a = some (ob 6 [.int m0, .int m1, .int m2, .int m3, .int m4, .int m5, .int m6, .int m7, .int m8, .int m9, mv])) (ht : t = 0) (hk : k < l) (hl : l < 65536) (hR : R k = .ref a) : pt (mT g) 15 [.ref o, .int t, .int (nI k), .int 8] M (fun v M' => (v = some (.int m8) ∧ M = M')) := by
  refine pt_in (b := mb_15 g) rfl (fun kf => ?_)
  show pl (mT g) kf (mb_15 g).2 (0, [(0, .ref o), (1, .int t), (2, .int (nI k)), (3, .int 8)], [], M) _
  refine ps_st (S' := (1, [(0, .ref o), (1, .int t), (2, .int (nI k)), (3, .int 8)], [.int 8], M)) rfl rfl rfl ?_
  refine ps_if (S1 := (10, [(0, .ref o), (1, .int t), (2, .int (nI k)), (3, .int 8)], [], M)) (S2 := (4, [(0, .ref o), (1, .int t), (2, .int (nI k)), (3, .int 8)], [], M)) rfl rfl rfl (fun c_1 => ?_) (fun c_1 => ?_)
  · exact absurd (of_decide_eq_true c_1) (by decide)
  refine ps_st (S' := (5, [(0, .ref o), (1, .int t), (2, .int (nI k)), (3, .int 8)], [.int 8], M)) rfl rfl rfl ?_
  refine ps_st (S' := (7, [(0, .ref o), (1, .int t), (2, .int (nI k)), (3, .int 8)], [.int 9, .int 8], M)) rfl rfl rfl ?_
  refine ps_if2 (S1 := (20, [(0, .ref o), (1, .int t), (2, .int (nI k)), (3, .int 8)], [], M)) (S2 := (10, [(0, .ref o), (1, .int t), (2, .int (nI k)), (3, .int 8)], [], M)) rfl rfl rfl (fun c_7 => ?_) (fun c_7 => ?_)
  rotate_left
  · exact absurd (by decide) (of_decide_eq_false c_7)
  refine ps_st (S' := (21, [(0, .ref o), (1, .int t), (2, .int (nI k)), (3, .int 8)], [.ref o], M)) rfl rfl rfl ?_
  refine ps_get (S' := (24, [(0, .ref o), (1, .int t), (2, .int (nI k)), (3, .int 8)], [.ref c], M)) rfl h_o rfl rfl ?_
  refine ps_st (S' := (31, [(0, .ref o), (1, .int t), (2, .int (nI k)), (3, .int 8)], [], M)) rfl rfl rfl ?_
  refine ps_st (S' := (32, [(0, .ref o), (1, .int t), (2, .int (nI k)), (3, .int 8)], [.ref o], M)) rfl rfl rfl ?_
  refine ps_get (S' := (35, [(0, .ref o), (1, .int t), (2, .int (nI k)), (3, .int 8)], [.ref c], M)) rfl h_o rfl rfl ?_
  refine ps_st (S' := (36, [(0, .ref o), (1, .int t), (2, .int (nI k)), (3, .int 8)], [.int t, .ref c], M)) rfl rfl rfl ?_
  refine ps_st (S' := (37, [(0, .ref o), (1, .int t), (2, .int (nI k)), (3, .int 8)], [.int (nI k), .int t, .ref c], M)) rfl rfl rfl ?_
  refine pl_call (a := [.ref c, .int t, .int (nI k)]) (rest := []) rfl rfl rfl (dk_memberAtF (c := c) (b := b) (q := q) (fr := fr) (mr := mr) (l := l) (u2 := u2) (u3 := u3) (u4 := u4) (u5 := u5) (w := w) (R := R) (t := t) (k := k) (a := a) h_c h_fr (ht) (hk) (hl) (hR)) (fun v1 M2 q3 => ?_)
  obtain ⟨rfl, rfl⟩ := q3
  show pl _ _ _ (40, [(1, .int t), (3, .int 8)], [.ref a], M) _
  refine ps_st (S' := (42, [(4, .ref a), (1, .int t), (3, .int 8)], [], M)) rfl rfl rfl ?_
  refine ps_st (S' := (44, [(4, .ref a), (1, .int t), (3, .int 8)], [.ref a], M)) rfl rfl rfl ?_
  refine ps_st (S' := (51, [(4, .ref a), (1, .int t), (3, .int 8)], [], M)) rfl rfl rfl ?_
  refine ps_st (S' := (53, [(4, .ref a), (1, .int t), (3, .int 8)], [.ref a], M)) rfl rfl rfl ?_
  refine ps_st (S' := (54, [(4, .ref a), (1, .int t), (3, .int 8)], [.int t, .ref a], M)) rfl rfl rfl ?_
  refine ps_st (S' := (55, [(4, .ref a), (1, .int t), (3, .int 8)], [.int 8, .int t, .ref a], M)) rfl rfl rfl ?_
  refine pl_call (a := [.ref a, .int t, .int 8]) (rest := []) rfl rfl rfl (dk_mnumF8 (a := a) (t := t) (m0 := m0) (m1 := m1) (m2 := m2) (m3 := m3) (m4 := m4) (m5 := m5) (m6 := m6) (m7 := m7) (m8 := m8) (m9 := m9) (mv := mv) h_a (ht)) (fun v4 M5 q6 => ?_)
  obtain ⟨rfl, rfl⟩ := q6
  show pl _ _ _ (58, [], [.int m8], M) _
  exact ps_reti rfl (⟨rfl, rfl⟩)
set_option maxHeartbeats 1000000 in
theorem dk_memberF9 {g : xe_G} {M : mi_H} {o ca fl : Nat} {cn wp : Int32} {c b q fr mr l : Nat} {u2 u3 u4 u5 : Int32} {w : List Value} {R : Nat → Value} {a : Nat} {m0 m1 m2 m3 m4 m5 m6 m7 m8 m9 : Int32} {t : Int32} {k : Nat} {mv : Value} (h_o : M.1 o = some (ob 11 [.ref ca, .int cn, .ref fl, .ref c, .int wp])) (h_c : M.1 c = some (ob 3 (.ref b :: .ref q :: .int u2 :: .int u3 :: .int u4 :: .int u5 :: .ref fr :: .ref mr :: w))) (h_fr : M.1 fr = some (ro "ClassGate$Member" l R)) (h_a : M.1 a = some (ob 6 [.int m0, .int m1, .int m2, .int m3, .int m4, .int m5, .int m6, .int m7, .int m8, .int m9, mv])) (ht : t = 0) (hk : k < l) (hl : l < 65536) (hR : R k = .ref a) : pt (mT g) 15 [.ref o, .int t, .int (nI k), .int 9] M (fun v M' => (v = some (.int m9) ∧ M = M')) := by
  refine pt_in (b := mb_15 g) rfl (fun kf => ?_)
  show pl (mT g) kf (mb_15 g).2 (0, [(0, .ref o), (1, .int t), (2, .int (nI k)), (3, .int 9)], [], M) _
  refine ps_st (S' := (1, [(0, .ref o), (1, .int t), (2, .int (nI k)), (3, .int 9)], [.int 9], M)) rfl rfl rfl ?_
  refine ps_if (S1 := (10, [(0, .ref o), (1, .int t), (2, .int (nI k)), (3, .int 9)], [], M)) (S2 := (4, [(0, .ref o), (1, .int t), (2, .int (nI k)), (3, .int 9)], [], M)) rfl rfl rfl (fun c_1 => ?_) (fun c_1 => ?_)
  · exact absurd (of_decide_eq_true c_1) (by decide)
  refine ps_st (S' := (5, [(0, .ref o), (1, .int t), (2, .int (nI k)), (3, .int 9)], [.int 9], M)) rfl rfl rfl ?_
  refine ps_st (S' := (7, [(0, .ref o), (1, .int t), (2, .int (nI k)), (3, .int 9)], [.int 9, .int 9], M)) rfl rfl rfl ?_
  refine ps_if2 (S1 := (20, [(0, .ref o), (1, .int t), (2, .int (nI k)), (3, .int 9)], [], M)) (S2 := (10, [(0, .ref o), (1, .int t), (2, .int (nI k)), (3, .int 9)], [], M)) rfl rfl rfl (fun c_7 => ?_) (fun c_7 => ?_)
  rotate_left
  · exact absurd (by decide) (of_decide_eq_false c_7)
  refine ps_st (S' := (21, [(0, .ref o), (1, .int t), (2, .int (nI k)), (3, .int 9)], [.ref o], M)) rfl rfl rfl ?_
  refine ps_get (S' := (24, [(0, .ref o), (1, .int t), (2, .int (nI k)), (3, .int 9)], [.ref c], M)) rfl h_o rfl rfl ?_
  refine ps_st (S' := (31, [(0, .ref o), (1, .int t), (2, .int (nI k)), (3, .int 9)], [], M)) rfl rfl rfl ?_
  refine ps_st (S' := (32, [(0, .ref o), (1, .int t), (2, .int (nI k)), (3, .int 9)], [.ref o], M)) rfl rfl rfl ?_
  refine ps_get (S' := (35, [(0, .ref o), (1, .int t), (2, .int (nI k)), (3, .int 9)], [.ref c], M)) rfl h_o rfl rfl ?_
  refine ps_st (S' := (36, [(0, .ref o), (1, .int t), (2, .int (nI k)), (3, .int 9)], [.int t, .ref c], M)) rfl rfl rfl ?_
  refine ps_st (S' := (37, [(0, .ref o), (1, .int t), (2, .int (nI k)), (3, .int 9)], [.int (nI k), .int t, .ref c], M)) rfl rfl rfl ?_
  refine pl_call (a := [.ref c, .int t, .int (nI k)]) (rest := []) rfl rfl rfl (dk_memberAtF (c := c) (b := b) (q := q) (fr := fr) (mr := mr) (l := l) (u2 := u2) (u3 := u3) (u4 := u4) (u5 := u5) (w := w) (R := R) (t := t) (k := k) (a := a) h_c h_fr (ht) (hk) (hl) (hR)) (fun v1 M2 q3 => ?_)
  obtain ⟨rfl, rfl⟩ := q3
  show pl _ _ _ (40, [(1, .int t), (3, .int 9)], [.ref a], M) _
  refine ps_st (S' := (42, [(4, .ref a), (1, .int t), (3, .int 9)], [], M)) rfl rfl rfl ?_
  refine ps_st (S' := (44, [(4, .ref a), (1, .int t), (3, .int 9)], [.ref a], M)) rfl rfl rfl ?_
  refine ps_st (S' := (51, [(4, .ref a), (1, .int t), (3, .int 9)], [], M)) rfl rfl rfl ?_
  refine ps_st (S' := (53, [(4, .ref a), (1, .int t), (3, .int 9)], [.ref a], M)) rfl rfl rfl ?_
  refine ps_st (S' := (54, [(4, .ref a), (1, .int t), (3, .int 9)], [.int t, .ref a], M)) rfl rfl rfl ?_
  refine ps_st (S' := (55, [(4, .ref a), (1, .int t), (3, .int 9)], [.int 9, .int t, .ref a], M)) rfl rfl rfl ?_
  refine pl_call (a := [.ref a, .int t, .int 9]) (rest := []) rfl rfl rfl (dk_mnumF9 (a := a) (t := t) (m0 := m0) (m1 := m1) (m2 := m2) (m3 := m3) (m4 := m4) (m5 := m5) (m6 := m6) (m7 := m7) (m8 := m8) (m9 := m9) (mv := mv) h_a (ht)) (fun v4 M5 q6 => ?_)
  obtain ⟨rfl, rfl⟩ := q6
  show pl _ _ _ (58, [], [.int m9], M) _
  exact ps_reti rfl (⟨rfl, rfl⟩)
set_option maxHeartbeats 1000000 in
theorem dk_memberNM {g : xe_G} {M : mi_H} {o ca fl : Nat} {cn wp : Int32} {c b q fr mr l : Nat} {u2 u3 u4 u5 : Int32} {w : List Value} {R : Nat → Value} {t i x : Int32} (h_o : M.1 o = some (ob 11 [.ref ca, .int cn, .ref fl, .ref c, .int wp])) (h_c : M.1 c = some (ob 3 (.ref b :: .ref q :: .int u2 :: .int u3 :: .int u4 :: .int u5 :: .ref fr :: .ref mr :: w))) (h_mr : M.1 mr = some (ro "ClassGate$Member" l R)) (h0 : ¬ x < 0) (h1 : x ≤ 9) (ht : ¬ t = 0) (hi : i < 0 ∨ nI l ≤ i) : pt (mT g) 15 [.ref o, .int t, .int i, .int x] M (fun v M' => (v = some (.int (-1)) ∧ M = M')) := by
  refine pt_in (b := mb_15 g) rfl (fun kf => ?_)
  show pl (mT g) kf (mb_15 g).2 (0, [(0, .ref o), (1, .int t), (2, .int i), (3, .int x)], [], M) _
  refine ps_st (S' := (1, [(0, .ref o), (1, .int t), (2, .int i), (3, .int x)], [.int x], M)) rfl rfl rfl ?_
  refine ps_if (S1 := (10, [(0, .ref o), (1, .int t), (2, .int i), (3, .int x)], [], M)) (S2 := (4, [(0, .ref o), (1, .int t), (2, .int i), (3, .int x)], [], M)) rfl rfl rfl (fun c_1 => ?_) (fun c_1 => ?_)
  · exact absurd (of_decide_eq_true c_1) (h0)
  refine ps_st (S' := (5, [(0, .ref o), (1, .int t), (2, .int i), (3, .int x)], [.int x], M)) rfl rfl rfl ?_
  refine ps_st (S' := (7, [(0, .ref o), (1, .int t), (2, .int i), (3, .int x)], [.int 9, .int x], M)) rfl rfl rfl ?_
  refine ps_if2 (S1 := (20, [(0, .ref o), (1, .int t), (2, .int i), (3, .int x)], [], M)) (S2 := (10, [(0, .ref o), (1, .int t), (2, .int i), (3, .int x)], [], M)) rfl rfl rfl (fun c_7 => ?_) (fun c_7 => ?_)
  rotate_left
  · exact absurd (h1) (of_decide_eq_false c_7)
  refine ps_st (S' := (21, [(0, .ref o), (1, .int t), (2, .int i), (3, .int x)], [.ref o], M)) rfl rfl rfl ?_
  refine ps_get (S' := (24, [(0, .ref o), (1, .int t), (2, .int i), (3, .int x)], [.ref c], M)) rfl h_o rfl rfl ?_
  refine ps_st (S' := (31, [(0, .ref o), (1, .int t), (2, .int i), (3, .int x)], [], M)) rfl rfl rfl ?_
  refine ps_st (S' := (32, [(0, .ref o), (1, .int t), (2, .int i), (3, .int x)], [.ref o], M)) rfl rfl rfl ?_
  refine ps_get (S' := (35, [(0, .ref o), (1, .int t), (2, .int i), (3, .int x)], [.ref c], M)) rfl h_o rfl rfl ?_
  refine ps_st (S' := (36, [(0, .ref o), (1, .int t), (2, .int i), (3, .int x)], [.int t, .ref c], M)) rfl rfl rfl ?_
  refine ps_st (S' := (37, [(0, .ref o), (1, .int t), (2, .int i), (3, .int x)], [.int i, .int t, .ref c], M)) rfl rfl rfl ?_
  refine pl_call (a := [.ref c, .int t, .int i]) (rest := []) rfl rfl rfl (dk_memberAtNM (c := c) (b := b) (q := q) (fr := fr) (mr := mr) (l := l) (u2 := u2) (u3 := u3) (u4 := u4) (u5 := u5) (w := w) (R := R) (t := t) (i := i) h_c h_mr (ht) (hi)) (fun v1 M2 q3 => ?_)
  obtain ⟨rfl, rfl⟩ := q3
  show pl _ _ _ (40, [(1, .int t), (3, .int x)], [.null], M) _
  refine ps_st (S' := (42, [(4, .null), (1, .int t), (3, .int x)], [], M)) rfl rfl rfl ?_
  refine ps_st (S' := (44, [(4, .null), (1, .int t), (3, .int x)], [.null], M)) rfl rfl rfl ?_
  refine ps_st (S' := (47, [(4, .null), (1, .int t), (3, .int x)], [], M)) rfl rfl rfl ?_
  refine ps_st (S' := (48, [(4, .null), (1, .int t), (3, .int x)], [.int (-1)], M)) rfl rfl rfl ?_
  refine ps_st (S' := (58, [], [.int (-1)], M)) rfl rfl rfl ?_
  exact ps_ret rfl rfl (⟨rfl, rfl⟩)
set_option maxHeartbeats 1000000 in
theorem dk_memberM0 {g : xe_G} {M : mi_H} {o ca fl : Nat} {cn wp : Int32} {c b q fr mr l : Nat} {u2 u3 u4 u5 : Int32} {w : List Value} {R : Nat → Value} {a : Nat} {m0 m1 m2 m3 m4 m5 m6 m7 m8 m9 : Int32} {t : Int32} {k : Nat} {mv : Value} (h_o : M.1 o = some (ob 11 [.ref ca, .int cn, .ref fl, .ref c, .int wp])) (h_c : M.1 c = some (ob 3 (.ref b :: .ref q :: .int u2 :: .int u3 :: .int u4 :: .int u5 :: .ref fr :: .ref mr :: w))) (h_mr : M.1 mr = some (ro "ClassGate$Member" l R)) (h_a : M.1 a = some (ob 6 [.int m0, .int m1, .int m2, .int m3, .int m4, .int m5, .int m6, .int m7, .int m8, .int m9, mv])) (ht : ¬ t = 0) (hk : k < l) (hl : l < 65536) (hR : R k = .ref a) : pt (mT g) 15 [.ref o, .int t, .int (nI k), .int 0] M (fun v M' => (v = some (.int m1) ∧ M = M')) := by
  refine pt_in (b := mb_15 g) rfl (fun kf => ?_)
  show pl (mT g) kf (mb_15 g).2 (0, [(0, .ref o), (1, .int t), (2, .int (nI k)), (3, .int 0)], [], M) _
  refine ps_st (S' := (1, [(0, .ref o), (1, .int t), (2, .int (nI k)), (3, .int 0)], [.int 0], M)) rfl rfl rfl ?_
  refine ps_if (S1 := (10, [(0, .ref o), (1, .int t), (2, .int (nI k)), (3, .int 0)], [], M)) (S2 := (4, [(0, .ref o), (1, .int t), (2, .int (nI k)), (3, .int 0)], [], M)) rfl rfl rfl (fun c_1 => ?_) (fun c_1 => ?_)
  · exact absurd (of_decide_eq_true c_1) (by decide)
  refine ps_st (S' := (5, [(0, .ref o), (1, .int t), (2, .int (nI k)), (3, .int 0)], [.int 0], M)) rfl rfl rfl ?_
  refine ps_st (S' := (7, [(0, .ref o), (1, .int t), (2, .int (nI k)), (3, .int 0)], [.int 9, .int 0], M)) rfl rfl rfl ?_
  refine ps_if2 (S1 := (20, [(0, .ref o), (1, .int t), (2, .int (nI k)), (3, .int 0)], [], M)) (S2 := (10, [(0, .ref o), (1, .int t), (2, .int (nI k)), (3, .int 0)], [], M)) rfl rfl rfl (fun c_7 => ?_) (fun c_7 => ?_)
  rotate_left
  · exact absurd (by decide) (of_decide_eq_false c_7)
  refine ps_st (S' := (21, [(0, .ref o), (1, .int t), (2, .int (nI k)), (3, .int 0)], [.ref o], M)) rfl rfl rfl ?_
  refine ps_get (S' := (24, [(0, .ref o), (1, .int t), (2, .int (nI k)), (3, .int 0)], [.ref c], M)) rfl h_o rfl rfl ?_
  refine ps_st (S' := (31, [(0, .ref o), (1, .int t), (2, .int (nI k)), (3, .int 0)], [], M)) rfl rfl rfl ?_
  refine ps_st (S' := (32, [(0, .ref o), (1, .int t), (2, .int (nI k)), (3, .int 0)], [.ref o], M)) rfl rfl rfl ?_
  refine ps_get (S' := (35, [(0, .ref o), (1, .int t), (2, .int (nI k)), (3, .int 0)], [.ref c], M)) rfl h_o rfl rfl ?_
  refine ps_st (S' := (36, [(0, .ref o), (1, .int t), (2, .int (nI k)), (3, .int 0)], [.int t, .ref c], M)) rfl rfl rfl ?_
  refine ps_st (S' := (37, [(0, .ref o), (1, .int t), (2, .int (nI k)), (3, .int 0)], [.int (nI k), .int t, .ref c], M)) rfl rfl rfl ?_
  refine pl_call (a := [.ref c, .int t, .int (nI k)]) (rest := []) rfl rfl rfl (dk_memberAtM (c := c) (b := b) (q := q) (fr := fr) (mr := mr) (l := l) (u2 := u2) (u3 := u3) (u4 := u4) (u5 := u5) (w := w) (R := R) (t := t) (k := k) (a := a) h_c h_mr (ht) (hk) (hl) (hR)) (fun v1 M2 q3 => ?_)
  obtain ⟨rfl, rfl⟩ := q3
  show pl _ _ _ (40, [(1, .int t), (3, .int 0)], [.ref a], M) _
  refine ps_st (S' := (42, [(4, .ref a), (1, .int t), (3, .int 0)], [], M)) rfl rfl rfl ?_
  refine ps_st (S' := (44, [(4, .ref a), (1, .int t), (3, .int 0)], [.ref a], M)) rfl rfl rfl ?_
  refine ps_st (S' := (51, [(4, .ref a), (1, .int t), (3, .int 0)], [], M)) rfl rfl rfl ?_
  refine ps_st (S' := (53, [(4, .ref a), (1, .int t), (3, .int 0)], [.ref a], M)) rfl rfl rfl ?_
  refine ps_st (S' := (54, [(4, .ref a), (1, .int t), (3, .int 0)], [.int t, .ref a], M)) rfl rfl rfl ?_
  refine ps_st (S' := (55, [(4, .ref a), (1, .int t), (3, .int 0)], [.int 0, .int t, .ref a], M)) rfl rfl rfl ?_
  refine pl_call (a := [.ref a, .int t, .int 0]) (rest := []) rfl rfl rfl (dk_mnumM0 (a := a) (t := t) (m0 := m0) (m1 := m1) (m2 := m2) (m3 := m3) (m4 := m4) (m5 := m5) (m6 := m6) (m7 := m7) (m8 := m8) (m9 := m9) (mv := mv) h_a (ht)) (fun v4 M5 q6 => ?_)
  obtain ⟨rfl, rfl⟩ := q6
  show pl _ _ _ (58, [], [.int m1], M) _
  exact ps_reti rfl (⟨rfl, rfl⟩)
set_option maxHeartbeats 1000000 in
theorem dk_memberM1 {g : xe_G} {M : mi_H} {o ca fl : Nat} {cn wp : Int32} {c b q fr mr l : Nat} {u2 u3 u4 u5 : Int32} {w : List Value} {R : Nat → Value} {a : Nat} {m0 m1 m2 m3 m4 m5 m6 m7 m8 m9 : Int32} {t : Int32} {k : Nat} {mv : Value} (h_o : M.1 o = some (ob 11 [.ref ca, .int cn, .ref fl, .ref c, .int wp])) (h_c : M.1 c = some (ob 3 (.ref b :: .ref q :: .int u2 :: .int u3 :: .int u4 :: .int u5 :: .ref fr :: .ref mr :: w))) (h_mr : M.1 mr = some (ro "ClassGate$Member" l R)) (h_a : M.1 a = some (ob 6 [.int m0, .int m1, .int m2, .int m3, .int m4, .int m5, .int m6, .int m7, .int m8, .int m9, mv])) (ht : ¬ t = 0) (hk : k < l) (hl : l < 65536) (hR : R k = .ref a) : pt (mT g) 15 [.ref o, .int t, .int (nI k), .int 1] M (fun v M' => (v = some (.int m2) ∧ M = M')) := by
  refine pt_in (b := mb_15 g) rfl (fun kf => ?_)
  show pl (mT g) kf (mb_15 g).2 (0, [(0, .ref o), (1, .int t), (2, .int (nI k)), (3, .int 1)], [], M) _
  refine ps_st (S' := (1, [(0, .ref o), (1, .int t), (2, .int (nI k)), (3, .int 1)], [.int 1], M)) rfl rfl rfl ?_
  refine ps_if (S1 := (10, [(0, .ref o), (1, .int t), (2, .int (nI k)), (3, .int 1)], [], M)) (S2 := (4, [(0, .ref o), (1, .int t), (2, .int (nI k)), (3, .int 1)], [], M)) rfl rfl rfl (fun c_1 => ?_) (fun c_1 => ?_)
  · exact absurd (of_decide_eq_true c_1) (by decide)
  refine ps_st (S' := (5, [(0, .ref o), (1, .int t), (2, .int (nI k)), (3, .int 1)], [.int 1], M)) rfl rfl rfl ?_
  refine ps_st (S' := (7, [(0, .ref o), (1, .int t), (2, .int (nI k)), (3, .int 1)], [.int 9, .int 1], M)) rfl rfl rfl ?_
  refine ps_if2 (S1 := (20, [(0, .ref o), (1, .int t), (2, .int (nI k)), (3, .int 1)], [], M)) (S2 := (10, [(0, .ref o), (1, .int t), (2, .int (nI k)), (3, .int 1)], [], M)) rfl rfl rfl (fun c_7 => ?_) (fun c_7 => ?_)
  rotate_left
  · exact absurd (by decide) (of_decide_eq_false c_7)
  refine ps_st (S' := (21, [(0, .ref o), (1, .int t), (2, .int (nI k)), (3, .int 1)], [.ref o], M)) rfl rfl rfl ?_
  refine ps_get (S' := (24, [(0, .ref o), (1, .int t), (2, .int (nI k)), (3, .int 1)], [.ref c], M)) rfl h_o rfl rfl ?_
  refine ps_st (S' := (31, [(0, .ref o), (1, .int t), (2, .int (nI k)), (3, .int 1)], [], M)) rfl rfl rfl ?_
  refine ps_st (S' := (32, [(0, .ref o), (1, .int t), (2, .int (nI k)), (3, .int 1)], [.ref o], M)) rfl rfl rfl ?_
  refine ps_get (S' := (35, [(0, .ref o), (1, .int t), (2, .int (nI k)), (3, .int 1)], [.ref c], M)) rfl h_o rfl rfl ?_
  refine ps_st (S' := (36, [(0, .ref o), (1, .int t), (2, .int (nI k)), (3, .int 1)], [.int t, .ref c], M)) rfl rfl rfl ?_
  refine ps_st (S' := (37, [(0, .ref o), (1, .int t), (2, .int (nI k)), (3, .int 1)], [.int (nI k), .int t, .ref c], M)) rfl rfl rfl ?_
  refine pl_call (a := [.ref c, .int t, .int (nI k)]) (rest := []) rfl rfl rfl (dk_memberAtM (c := c) (b := b) (q := q) (fr := fr) (mr := mr) (l := l) (u2 := u2) (u3 := u3) (u4 := u4) (u5 := u5) (w := w) (R := R) (t := t) (k := k) (a := a) h_c h_mr (ht) (hk) (hl) (hR)) (fun v1 M2 q3 => ?_)
  obtain ⟨rfl, rfl⟩ := q3
  show pl _ _ _ (40, [(1, .int t), (3, .int 1)], [.ref a], M) _
  refine ps_st (S' := (42, [(4, .ref a), (1, .int t), (3, .int 1)], [], M)) rfl rfl rfl ?_
  refine ps_st (S' := (44, [(4, .ref a), (1, .int t), (3, .int 1)], [.ref a], M)) rfl rfl rfl ?_
  refine ps_st (S' := (51, [(4, .ref a), (1, .int t), (3, .int 1)], [], M)) rfl rfl rfl ?_
  refine ps_st (S' := (53, [(4, .ref a), (1, .int t), (3, .int 1)], [.ref a], M)) rfl rfl rfl ?_
  refine ps_st (S' := (54, [(4, .ref a), (1, .int t), (3, .int 1)], [.int t, .ref a], M)) rfl rfl rfl ?_
  refine ps_st (S' := (55, [(4, .ref a), (1, .int t), (3, .int 1)], [.int 1, .int t, .ref a], M)) rfl rfl rfl ?_
  refine pl_call (a := [.ref a, .int t, .int 1]) (rest := []) rfl rfl rfl (dk_mnumM1 (a := a) (t := t) (m0 := m0) (m1 := m1) (m2 := m2) (m3 := m3) (m4 := m4) (m5 := m5) (m6 := m6) (m7 := m7) (m8 := m8) (m9 := m9) (mv := mv) h_a (ht)) (fun v4 M5 q6 => ?_)
  obtain ⟨rfl, rfl⟩ := q6
  show pl _ _ _ (58, [], [.int m2], M) _
  exact ps_reti rfl (⟨rfl, rfl⟩)
set_option maxHeartbeats 1000000 in
theorem dk_memberM2 {g : xe_G} {M : mi_H} {o ca fl : Nat} {cn wp : Int32} {c b q fr mr l : Nat} {u2 u3 u4 u5 : Int32} {w : List Value} {R : Nat → Value} {a : Nat} {m0 m1 m2 m3 m4 m5 m6 m7 m8 m9 : Int32} {t : Int32} {k : Nat} {mv : Value} (h_o : M.1 o = some (ob 11 [.ref ca, .int cn, .ref fl, .ref c, .int wp])) (h_c : M.1 c = some (ob 3 (.ref b :: .ref q :: .int u2 :: .int u3 :: .int u4 :: .int u5 :: .ref fr :: .ref mr :: w))) (h_mr : M.1 mr = some (ro "ClassGate$Member" l R)) (h_a : M.1 a = some (ob 6 [.int m0, .int m1, .int m2, .int m3, .int m4, .int m5, .int m6, .int m7, .int m8, .int m9, mv])) (ht : ¬ t = 0) (hk : k < l) (hl : l < 65536) (hR : R k = .ref a) : pt (mT g) 15 [.ref o, .int t, .int (nI k), .int 2] M (fun v M' => (v = some (.int m3) ∧ M = M')) := by
  refine pt_in (b := mb_15 g) rfl (fun kf => ?_)
  show pl (mT g) kf (mb_15 g).2 (0, [(0, .ref o), (1, .int t), (2, .int (nI k)), (3, .int 2)], [], M) _
  refine ps_st (S' := (1, [(0, .ref o), (1, .int t), (2, .int (nI k)), (3, .int 2)], [.int 2], M)) rfl rfl rfl ?_
  refine ps_if (S1 := (10, [(0, .ref o), (1, .int t), (2, .int (nI k)), (3, .int 2)], [], M)) (S2 := (4, [(0, .ref o), (1, .int t), (2, .int (nI k)), (3, .int 2)], [], M)) rfl rfl rfl (fun c_1 => ?_) (fun c_1 => ?_)
  · exact absurd (of_decide_eq_true c_1) (by decide)
  refine ps_st (S' := (5, [(0, .ref o), (1, .int t), (2, .int (nI k)), (3, .int 2)], [.int 2], M)) rfl rfl rfl ?_
  refine ps_st (S' := (7, [(0, .ref o), (1, .int t), (2, .int (nI k)), (3, .int 2)], [.int 9, .int 2], M)) rfl rfl rfl ?_
  refine ps_if2 (S1 := (20, [(0, .ref o), (1, .int t), (2, .int (nI k)), (3, .int 2)], [], M)) (S2 := (10, [(0, .ref o), (1, .int t), (2, .int (nI k)), (3, .int 2)], [], M)) rfl rfl rfl (fun c_7 => ?_) (fun c_7 => ?_)
  rotate_left
  · exact absurd (by decide) (of_decide_eq_false c_7)
  refine ps_st (S' := (21, [(0, .ref o), (1, .int t), (2, .int (nI k)), (3, .int 2)], [.ref o], M)) rfl rfl rfl ?_
  refine ps_get (S' := (24, [(0, .ref o), (1, .int t), (2, .int (nI k)), (3, .int 2)], [.ref c], M)) rfl h_o rfl rfl ?_
  refine ps_st (S' := (31, [(0, .ref o), (1, .int t), (2, .int (nI k)), (3, .int 2)], [], M)) rfl rfl rfl ?_
  refine ps_st (S' := (32, [(0, .ref o), (1, .int t), (2, .int (nI k)), (3, .int 2)], [.ref o], M)) rfl rfl rfl ?_
  refine ps_get (S' := (35, [(0, .ref o), (1, .int t), (2, .int (nI k)), (3, .int 2)], [.ref c], M)) rfl h_o rfl rfl ?_
  refine ps_st (S' := (36, [(0, .ref o), (1, .int t), (2, .int (nI k)), (3, .int 2)], [.int t, .ref c], M)) rfl rfl rfl ?_
  refine ps_st (S' := (37, [(0, .ref o), (1, .int t), (2, .int (nI k)), (3, .int 2)], [.int (nI k), .int t, .ref c], M)) rfl rfl rfl ?_
  refine pl_call (a := [.ref c, .int t, .int (nI k)]) (rest := []) rfl rfl rfl (dk_memberAtM (c := c) (b := b) (q := q) (fr := fr) (mr := mr) (l := l) (u2 := u2) (u3 := u3) (u4 := u4) (u5 := u5) (w := w) (R := R) (t := t) (k := k) (a := a) h_c h_mr (ht) (hk) (hl) (hR)) (fun v1 M2 q3 => ?_)
  obtain ⟨rfl, rfl⟩ := q3
  show pl _ _ _ (40, [(1, .int t), (3, .int 2)], [.ref a], M) _
  refine ps_st (S' := (42, [(4, .ref a), (1, .int t), (3, .int 2)], [], M)) rfl rfl rfl ?_
  refine ps_st (S' := (44, [(4, .ref a), (1, .int t), (3, .int 2)], [.ref a], M)) rfl rfl rfl ?_
  refine ps_st (S' := (51, [(4, .ref a), (1, .int t), (3, .int 2)], [], M)) rfl rfl rfl ?_
  refine ps_st (S' := (53, [(4, .ref a), (1, .int t), (3, .int 2)], [.ref a], M)) rfl rfl rfl ?_
  refine ps_st (S' := (54, [(4, .ref a), (1, .int t), (3, .int 2)], [.int t, .ref a], M)) rfl rfl rfl ?_
  refine ps_st (S' := (55, [(4, .ref a), (1, .int t), (3, .int 2)], [.int 2, .int t, .ref a], M)) rfl rfl rfl ?_
  refine pl_call (a := [.ref a, .int t, .int 2]) (rest := []) rfl rfl rfl (dk_mnumM2 (a := a) (t := t) (m0 := m0) (m1 := m1) (m2 := m2) (m3 := m3) (m4 := m4) (m5 := m5) (m6 := m6) (m7 := m7) (m8 := m8) (m9 := m9) (mv := mv) h_a (ht)) (fun v4 M5 q6 => ?_)
  obtain ⟨rfl, rfl⟩ := q6
  show pl _ _ _ (58, [], [.int m3], M) _
  exact ps_reti rfl (⟨rfl, rfl⟩)
set_option maxHeartbeats 1000000 in
theorem dk_memberM3 {g : xe_G} {M : mi_H} {o ca fl : Nat} {cn wp : Int32} {c b q fr mr l : Nat} {u2 u3 u4 u5 : Int32} {w : List Value} {R : Nat → Value} {a : Nat} {m0 m1 m2 m3 m4 m5 m6 m7 m8 m9 : Int32} {t : Int32} {k : Nat} {mv : Value} (h_o : M.1 o = some (ob 11 [.ref ca, .int cn, .ref fl, .ref c, .int wp])) (h_c : M.1 c = some (ob 3 (.ref b :: .ref q :: .int u2 :: .int u3 :: .int u4 :: .int u5 :: .ref fr :: .ref mr :: w))) (h_mr : M.1 mr = some (ro "ClassGate$Member" l R)) (h_a : M.1 a = some (ob 6 [.int m0, .int m1, .int m2, .int m3, .int m4, .int m5, .int m6, .int m7, .int m8, .int m9, mv])) (ht : ¬ t = 0) (hk : k < l) (hl : l < 65536) (hR : R k = .ref a) : pt (mT g) 15 [.ref o, .int t, .int (nI k), .int 3] M (fun v M' => (v = some (.int m6) ∧ M = M')) := by
  refine pt_in (b := mb_15 g) rfl (fun kf => ?_)
  show pl (mT g) kf (mb_15 g).2 (0, [(0, .ref o), (1, .int t), (2, .int (nI k)), (3, .int 3)], [], M) _
  refine ps_st (S' := (1, [(0, .ref o), (1, .int t), (2, .int (nI k)), (3, .int 3)], [.int 3], M)) rfl rfl rfl ?_
  refine ps_if (S1 := (10, [(0, .ref o), (1, .int t), (2, .int (nI k)), (3, .int 3)], [], M)) (S2 := (4, [(0, .ref o), (1, .int t), (2, .int (nI k)), (3, .int 3)], [], M)) rfl rfl rfl (fun c_1 => ?_) (fun c_1 => ?_)
  · exact absurd (of_decide_eq_true c_1) (by decide)
  refine ps_st (S' := (5, [(0, .ref o), (1, .int t), (2, .int (nI k)), (3, .int 3)], [.int 3], M)) rfl rfl rfl ?_
  refine ps_st (S' := (7, [(0, .ref o), (1, .int t), (2, .int (nI k)), (3, .int 3)], [.int 9, .int 3], M)) rfl rfl rfl ?_
  refine ps_if2 (S1 := (20, [(0, .ref o), (1, .int t), (2, .int (nI k)), (3, .int 3)], [], M)) (S2 := (10, [(0, .ref o), (1, .int t), (2, .int (nI k)), (3, .int 3)], [], M)) rfl rfl rfl (fun c_7 => ?_) (fun c_7 => ?_)
  rotate_left
  · exact absurd (by decide) (of_decide_eq_false c_7)
  refine ps_st (S' := (21, [(0, .ref o), (1, .int t), (2, .int (nI k)), (3, .int 3)], [.ref o], M)) rfl rfl rfl ?_
  refine ps_get (S' := (24, [(0, .ref o), (1, .int t), (2, .int (nI k)), (3, .int 3)], [.ref c], M)) rfl h_o rfl rfl ?_
  refine ps_st (S' := (31, [(0, .ref o), (1, .int t), (2, .int (nI k)), (3, .int 3)], [], M)) rfl rfl rfl ?_
  refine ps_st (S' := (32, [(0, .ref o), (1, .int t), (2, .int (nI k)), (3, .int 3)], [.ref o], M)) rfl rfl rfl ?_
  refine ps_get (S' := (35, [(0, .ref o), (1, .int t), (2, .int (nI k)), (3, .int 3)], [.ref c], M)) rfl h_o rfl rfl ?_
  refine ps_st (S' := (36, [(0, .ref o), (1, .int t), (2, .int (nI k)), (3, .int 3)], [.int t, .ref c], M)) rfl rfl rfl ?_
  refine ps_st (S' := (37, [(0, .ref o), (1, .int t), (2, .int (nI k)), (3, .int 3)], [.int (nI k), .int t, .ref c], M)) rfl rfl rfl ?_
  refine pl_call (a := [.ref c, .int t, .int (nI k)]) (rest := []) rfl rfl rfl (dk_memberAtM (c := c) (b := b) (q := q) (fr := fr) (mr := mr) (l := l) (u2 := u2) (u3 := u3) (u4 := u4) (u5 := u5) (w := w) (R := R) (t := t) (k := k) (a := a) h_c h_mr (ht) (hk) (hl) (hR)) (fun v1 M2 q3 => ?_)
  obtain ⟨rfl, rfl⟩ := q3
  show pl _ _ _ (40, [(1, .int t), (3, .int 3)], [.ref a], M) _
  refine ps_st (S' := (42, [(4, .ref a), (1, .int t), (3, .int 3)], [], M)) rfl rfl rfl ?_
  refine ps_st (S' := (44, [(4, .ref a), (1, .int t), (3, .int 3)], [.ref a], M)) rfl rfl rfl ?_
  refine ps_st (S' := (51, [(4, .ref a), (1, .int t), (3, .int 3)], [], M)) rfl rfl rfl ?_
  refine ps_st (S' := (53, [(4, .ref a), (1, .int t), (3, .int 3)], [.ref a], M)) rfl rfl rfl ?_
  refine ps_st (S' := (54, [(4, .ref a), (1, .int t), (3, .int 3)], [.int t, .ref a], M)) rfl rfl rfl ?_
  refine ps_st (S' := (55, [(4, .ref a), (1, .int t), (3, .int 3)], [.int 3, .int t, .ref a], M)) rfl rfl rfl ?_
  refine pl_call (a := [.ref a, .int t, .int 3]) (rest := []) rfl rfl rfl (dk_mnumM3 (a := a) (t := t) (m0 := m0) (m1 := m1) (m2 := m2) (m3 := m3) (m4 := m4) (m5 := m5) (m6 := m6) (m7 := m7) (m8 := m8) (m9 := m9) (mv := mv) h_a (ht)) (fun v4 M5 q6 => ?_)
  obtain ⟨rfl, rfl⟩ := q6
  show pl _ _ _ (58, [], [.int m6], M) _
  exact ps_reti rfl (⟨rfl, rfl⟩)
set_option maxHeartbeats 1000000 in
theorem dk_memberM4N {g : xe_G} {M : mi_H} {o ca fl : Nat} {cn wp : Int32} {c b q fr mr l : Nat} {u2 u3 u4 u5 : Int32} {w : List Value} {R : Nat → Value} {a : Nat} {m0 m1 m2 m3 m4 m5 m6 m7 m8 m9 : Int32} {t : Int32} {k : Nat} (h_o : M.1 o = some (ob 11 [.ref ca, .int cn, .ref fl, .ref c, .int wp])) (h_c : M.1 c = some (ob 3 (.ref b :: .ref q :: .int u2 :: .int u3 :: .int u4 :: .int u5 :: .ref fr :: .ref mr :: w))) (h_mr : M.1 mr = some (ro "ClassGate$Member" l R)) (h_a : M.1 a = some (ob 6 [.int m0, .int m1, .int m2, .int m3, .int m4, .int m5, .int m6, .int m7, .int m8, .int m9, .null])) (ht : ¬ t = 0) (hk : k < l) (hl : l < 65536) (hR : R k = .ref a) : pt (mT g) 15 [.ref o, .int t, .int (nI k), .int 4] M (fun v M' => (v = some (.int 0) ∧ M = M')) := by
  refine pt_in (b := mb_15 g) rfl (fun kf => ?_)
  show pl (mT g) kf (mb_15 g).2 (0, [(0, .ref o), (1, .int t), (2, .int (nI k)), (3, .int 4)], [], M) _
  refine ps_st (S' := (1, [(0, .ref o), (1, .int t), (2, .int (nI k)), (3, .int 4)], [.int 4], M)) rfl rfl rfl ?_
  refine ps_if (S1 := (10, [(0, .ref o), (1, .int t), (2, .int (nI k)), (3, .int 4)], [], M)) (S2 := (4, [(0, .ref o), (1, .int t), (2, .int (nI k)), (3, .int 4)], [], M)) rfl rfl rfl (fun c_1 => ?_) (fun c_1 => ?_)
  · exact absurd (of_decide_eq_true c_1) (by decide)
  refine ps_st (S' := (5, [(0, .ref o), (1, .int t), (2, .int (nI k)), (3, .int 4)], [.int 4], M)) rfl rfl rfl ?_
  refine ps_st (S' := (7, [(0, .ref o), (1, .int t), (2, .int (nI k)), (3, .int 4)], [.int 9, .int 4], M)) rfl rfl rfl ?_
  refine ps_if2 (S1 := (20, [(0, .ref o), (1, .int t), (2, .int (nI k)), (3, .int 4)], [], M)) (S2 := (10, [(0, .ref o), (1, .int t), (2, .int (nI k)), (3, .int 4)], [], M)) rfl rfl rfl (fun c_7 => ?_) (fun c_7 => ?_)
  rotate_left
  · exact absurd (by decide) (of_decide_eq_false c_7)
  refine ps_st (S' := (21, [(0, .ref o), (1, .int t), (2, .int (nI k)), (3, .int 4)], [.ref o], M)) rfl rfl rfl ?_
  refine ps_get (S' := (24, [(0, .ref o), (1, .int t), (2, .int (nI k)), (3, .int 4)], [.ref c], M)) rfl h_o rfl rfl ?_
  refine ps_st (S' := (31, [(0, .ref o), (1, .int t), (2, .int (nI k)), (3, .int 4)], [], M)) rfl rfl rfl ?_
  refine ps_st (S' := (32, [(0, .ref o), (1, .int t), (2, .int (nI k)), (3, .int 4)], [.ref o], M)) rfl rfl rfl ?_
  refine ps_get (S' := (35, [(0, .ref o), (1, .int t), (2, .int (nI k)), (3, .int 4)], [.ref c], M)) rfl h_o rfl rfl ?_
  refine ps_st (S' := (36, [(0, .ref o), (1, .int t), (2, .int (nI k)), (3, .int 4)], [.int t, .ref c], M)) rfl rfl rfl ?_
  refine ps_st (S' := (37, [(0, .ref o), (1, .int t), (2, .int (nI k)), (3, .int 4)], [.int (nI k), .int t, .ref c], M)) rfl rfl rfl ?_
  refine pl_call (a := [.ref c, .int t, .int (nI k)]) (rest := []) rfl rfl rfl (dk_memberAtM (c := c) (b := b) (q := q) (fr := fr) (mr := mr) (l := l) (u2 := u2) (u3 := u3) (u4 := u4) (u5 := u5) (w := w) (R := R) (t := t) (k := k) (a := a) h_c h_mr (ht) (hk) (hl) (hR)) (fun v1 M2 q3 => ?_)
  obtain ⟨rfl, rfl⟩ := q3
  show pl _ _ _ (40, [(1, .int t), (3, .int 4)], [.ref a], M) _
  refine ps_st (S' := (42, [(4, .ref a), (1, .int t), (3, .int 4)], [], M)) rfl rfl rfl ?_
  refine ps_st (S' := (44, [(4, .ref a), (1, .int t), (3, .int 4)], [.ref a], M)) rfl rfl rfl ?_
  refine ps_st (S' := (51, [(4, .ref a), (1, .int t), (3, .int 4)], [], M)) rfl rfl rfl ?_
  refine ps_st (S' := (53, [(4, .ref a), (1, .int t), (3, .int 4)], [.ref a], M)) rfl rfl rfl ?_
  refine ps_st (S' := (54, [(4, .ref a), (1, .int t), (3, .int 4)], [.int t, .ref a], M)) rfl rfl rfl ?_
  refine ps_st (S' := (55, [(4, .ref a), (1, .int t), (3, .int 4)], [.int 4, .int t, .ref a], M)) rfl rfl rfl ?_
  refine pl_call (a := [.ref a, .int t, .int 4]) (rest := []) rfl rfl rfl (dk_mnumM4N (a := a) (t := t) (m0 := m0) (m1 := m1) (m2 := m2) (m3 := m3) (m4 := m4) (m5 := m5) (m6 := m6) (m7 := m7) (m8 := m8) (m9 := m9) h_a (ht)) (fun v4 M5 q6 => ?_)
  obtain ⟨rfl, rfl⟩ := q6
  show pl _ _ _ (58, [], [.int 0], M) _
  exact ps_ret rfl rfl (⟨rfl, rfl⟩)
set_option maxHeartbeats 1000000 in
theorem dk_memberM4C {g : xe_G} {M : mi_H} {o ca fl : Nat} {cn wp : Int32} {c b q fr mr l : Nat} {u2 u3 u4 u5 : Int32} {w : List Value} {R : Nat → Value} {a : Nat} {m0 m1 m2 m3 m4 m5 m6 m7 m8 m9 : Int32} {t : Int32} {k : Nat} {z : Nat} {c0 c1 c2 c3 c4 : Int32} {v5 v6 v7 v8 v9 v10 : Value} (h_o : M.1 o = some (ob 11 [.ref ca, .int cn, .ref fl, .ref c, .int wp])) (h_c : M.1 c = some (ob 3 (.ref b :: .ref q :: .int u2 :: .int u3 :: .int u4 :: .int u5 :: .ref fr :: .ref mr :: w))) (h_mr : M.1 mr = some (ro "ClassGate$Member" l R)) (h_a : M.1 a = some (ob 6 [.int m0, .int m1, .int m2, .int m3, .int m4, .int m5, .int m6, .int m7, .int m8, .int m9, .ref z])) (h_z : M.1 z = some (ob 4 [.int c0, .int c1, .int c2, .int c3, .int c4, v5, v6, v7, v8, v9, v10])) (ht : ¬ t = 0) (hk : k < l) (hl : l < 65536) (hR : R k = .ref a) : pt (mT g) 15 [.ref o, .int t, .int (nI k), .int 4] M (fun v M' => (v = some (.int c2) ∧ M = M')) := by
  refine pt_in (b := mb_15 g) rfl (fun kf => ?_)
  show pl (mT g) kf (mb_15 g).2 (0, [(0, .ref o), (1, .int t), (2, .int (nI k)), (3, .int 4)], [], M) _
  refine ps_st (S' := (1, [(0, .ref o), (1, .int t), (2, .int (nI k)), (3, .int 4)], [.int 4], M)) rfl rfl rfl ?_
  refine ps_if (S1 := (10, [(0, .ref o), (1, .int t), (2, .int (nI k)), (3, .int 4)], [], M)) (S2 := (4, [(0, .ref o), (1, .int t), (2, .int (nI k)), (3, .int 4)], [], M)) rfl rfl rfl (fun c_1 => ?_) (fun c_1 => ?_)
  · exact absurd (of_decide_eq_true c_1) (by decide)
  refine ps_st (S' := (5, [(0, .ref o), (1, .int t), (2, .int (nI k)), (3, .int 4)], [.int 4], M)) rfl rfl rfl ?_
  refine ps_st (S' := (7, [(0, .ref o), (1, .int t), (2, .int (nI k)), (3, .int 4)], [.int 9, .int 4], M)) rfl rfl rfl ?_
  refine ps_if2 (S1 := (20, [(0, .ref o), (1, .int t), (2, .int (nI k)), (3, .int 4)], [], M)) (S2 := (10, [(0, .ref o), (1, .int t), (2, .int (nI k)), (3, .int 4)], [], M)) rfl rfl rfl (fun c_7 => ?_) (fun c_7 => ?_)
  rotate_left
  · exact absurd (by decide) (of_decide_eq_false c_7)
  refine ps_st (S' := (21, [(0, .ref o), (1, .int t), (2, .int (nI k)), (3, .int 4)], [.ref o], M)) rfl rfl rfl ?_
  refine ps_get (S' := (24, [(0, .ref o), (1, .int t), (2, .int (nI k)), (3, .int 4)], [.ref c], M)) rfl h_o rfl rfl ?_
  refine ps_st (S' := (31, [(0, .ref o), (1, .int t), (2, .int (nI k)), (3, .int 4)], [], M)) rfl rfl rfl ?_
  refine ps_st (S' := (32, [(0, .ref o), (1, .int t), (2, .int (nI k)), (3, .int 4)], [.ref o], M)) rfl rfl rfl ?_
  refine ps_get (S' := (35, [(0, .ref o), (1, .int t), (2, .int (nI k)), (3, .int 4)], [.ref c], M)) rfl h_o rfl rfl ?_
  refine ps_st (S' := (36, [(0, .ref o), (1, .int t), (2, .int (nI k)), (3, .int 4)], [.int t, .ref c], M)) rfl rfl rfl ?_
  refine ps_st (S' := (37, [(0, .ref o), (1, .int t), (2, .int (nI k)), (3, .int 4)], [.int (nI k), .int t, .ref c], M)) rfl rfl rfl ?_
  refine pl_call (a := [.ref c, .int t, .int (nI k)]) (rest := []) rfl rfl rfl (dk_memberAtM (c := c) (b := b) (q := q) (fr := fr) (mr := mr) (l := l) (u2 := u2) (u3 := u3) (u4 := u4) (u5 := u5) (w := w) (R := R) (t := t) (k := k) (a := a) h_c h_mr (ht) (hk) (hl) (hR)) (fun v1 M2 q3 => ?_)
  obtain ⟨rfl, rfl⟩ := q3
  show pl _ _ _ (40, [(1, .int t), (3, .int 4)], [.ref a], M) _
  refine ps_st (S' := (42, [(4, .ref a), (1, .int t), (3, .int 4)], [], M)) rfl rfl rfl ?_
  refine ps_st (S' := (44, [(4, .ref a), (1, .int t), (3, .int 4)], [.ref a], M)) rfl rfl rfl ?_
  refine ps_st (S' := (51, [(4, .ref a), (1, .int t), (3, .int 4)], [], M)) rfl rfl rfl ?_
  refine ps_st (S' := (53, [(4, .ref a), (1, .int t), (3, .int 4)], [.ref a], M)) rfl rfl rfl ?_
  refine ps_st (S' := (54, [(4, .ref a), (1, .int t), (3, .int 4)], [.int t, .ref a], M)) rfl rfl rfl ?_
  refine ps_st (S' := (55, [(4, .ref a), (1, .int t), (3, .int 4)], [.int 4, .int t, .ref a], M)) rfl rfl rfl ?_
  refine pl_call (a := [.ref a, .int t, .int 4]) (rest := []) rfl rfl rfl (dk_mnumM4C (a := a) (t := t) (m0 := m0) (m1 := m1) (m2 := m2) (m3 := m3) (m4 := m4) (m5 := m5) (m6 := m6) (m7 := m7) (m8 := m8) (m9 := m9) (z := z) (c0 := c0) (c1 := c1) (c2 := c2) (c3 := c3) (c4 := c4) (v5 := v5) (v6 := v6) (v7 := v7) (v8 := v8) (v9 := v9) (v10 := v10) h_a h_z (ht)) (fun v4 M5 q6 => ?_)
  obtain ⟨rfl, rfl⟩ := q6
  show pl _ _ _ (58, [], [.int c2], M) _
  exact ps_reti rfl (⟨rfl, rfl⟩)
set_option maxHeartbeats 1000000 in
theorem dk_memberM5N {g : xe_G} {M : mi_H} {o ca fl : Nat} {cn wp : Int32} {c b q fr mr l : Nat} {u2 u3 u4 u5 : Int32} {w : List Value} {R : Nat → Value} {a : Nat} {m0 m1 m2 m3 m4 m5 m6 m7 m8 m9 : Int32} {t : Int32} {k : Nat} (h_o : M.1 o = some (ob 11 [.ref ca, .int cn, .ref fl, .ref c, .int wp])) (h_c : M.1 c = some (ob 3 (.ref b :: .ref q :: .int u2 :: .int u3 :: .int u4 :: .int u5 :: .ref fr :: .ref mr :: w))) (h_mr : M.1 mr = some (ro "ClassGate$Member" l R)) (h_a : M.1 a = some (ob 6 [.int m0, .int m1, .int m2, .int m3, .int m4, .int m5, .int m6, .int m7, .int m8, .int m9, .null])) (ht : ¬ t = 0) (hk : k < l) (hl : l < 65536) (hR : R k = .ref a) : pt (mT g) 15 [.ref o, .int t, .int (nI k), .int 5] M (fun v M' => (v = some (.int 0) ∧ M = M')) := by
  refine pt_in (b := mb_15 g) rfl (fun kf => ?_)
  show pl (mT g) kf (mb_15 g).2 (0, [(0, .ref o), (1, .int t), (2, .int (nI k)), (3, .int 5)], [], M) _
  refine ps_st (S' := (1, [(0, .ref o), (1, .int t), (2, .int (nI k)), (3, .int 5)], [.int 5], M)) rfl rfl rfl ?_
  refine ps_if (S1 := (10, [(0, .ref o), (1, .int t), (2, .int (nI k)), (3, .int 5)], [], M)) (S2 := (4, [(0, .ref o), (1, .int t), (2, .int (nI k)), (3, .int 5)], [], M)) rfl rfl rfl (fun c_1 => ?_) (fun c_1 => ?_)
  · exact absurd (of_decide_eq_true c_1) (by decide)
  refine ps_st (S' := (5, [(0, .ref o), (1, .int t), (2, .int (nI k)), (3, .int 5)], [.int 5], M)) rfl rfl rfl ?_
  refine ps_st (S' := (7, [(0, .ref o), (1, .int t), (2, .int (nI k)), (3, .int 5)], [.int 9, .int 5], M)) rfl rfl rfl ?_
  refine ps_if2 (S1 := (20, [(0, .ref o), (1, .int t), (2, .int (nI k)), (3, .int 5)], [], M)) (S2 := (10, [(0, .ref o), (1, .int t), (2, .int (nI k)), (3, .int 5)], [], M)) rfl rfl rfl (fun c_7 => ?_) (fun c_7 => ?_)
  rotate_left
  · exact absurd (by decide) (of_decide_eq_false c_7)
  refine ps_st (S' := (21, [(0, .ref o), (1, .int t), (2, .int (nI k)), (3, .int 5)], [.ref o], M)) rfl rfl rfl ?_
  refine ps_get (S' := (24, [(0, .ref o), (1, .int t), (2, .int (nI k)), (3, .int 5)], [.ref c], M)) rfl h_o rfl rfl ?_
  refine ps_st (S' := (31, [(0, .ref o), (1, .int t), (2, .int (nI k)), (3, .int 5)], [], M)) rfl rfl rfl ?_
  refine ps_st (S' := (32, [(0, .ref o), (1, .int t), (2, .int (nI k)), (3, .int 5)], [.ref o], M)) rfl rfl rfl ?_
  refine ps_get (S' := (35, [(0, .ref o), (1, .int t), (2, .int (nI k)), (3, .int 5)], [.ref c], M)) rfl h_o rfl rfl ?_
  refine ps_st (S' := (36, [(0, .ref o), (1, .int t), (2, .int (nI k)), (3, .int 5)], [.int t, .ref c], M)) rfl rfl rfl ?_
  refine ps_st (S' := (37, [(0, .ref o), (1, .int t), (2, .int (nI k)), (3, .int 5)], [.int (nI k), .int t, .ref c], M)) rfl rfl rfl ?_
  refine pl_call (a := [.ref c, .int t, .int (nI k)]) (rest := []) rfl rfl rfl (dk_memberAtM (c := c) (b := b) (q := q) (fr := fr) (mr := mr) (l := l) (u2 := u2) (u3 := u3) (u4 := u4) (u5 := u5) (w := w) (R := R) (t := t) (k := k) (a := a) h_c h_mr (ht) (hk) (hl) (hR)) (fun v1 M2 q3 => ?_)
  obtain ⟨rfl, rfl⟩ := q3
  show pl _ _ _ (40, [(1, .int t), (3, .int 5)], [.ref a], M) _
  refine ps_st (S' := (42, [(4, .ref a), (1, .int t), (3, .int 5)], [], M)) rfl rfl rfl ?_
  refine ps_st (S' := (44, [(4, .ref a), (1, .int t), (3, .int 5)], [.ref a], M)) rfl rfl rfl ?_
  refine ps_st (S' := (51, [(4, .ref a), (1, .int t), (3, .int 5)], [], M)) rfl rfl rfl ?_
  refine ps_st (S' := (53, [(4, .ref a), (1, .int t), (3, .int 5)], [.ref a], M)) rfl rfl rfl ?_
  refine ps_st (S' := (54, [(4, .ref a), (1, .int t), (3, .int 5)], [.int t, .ref a], M)) rfl rfl rfl ?_
  refine ps_st (S' := (55, [(4, .ref a), (1, .int t), (3, .int 5)], [.int 5, .int t, .ref a], M)) rfl rfl rfl ?_
  refine pl_call (a := [.ref a, .int t, .int 5]) (rest := []) rfl rfl rfl (dk_mnumM5N (a := a) (t := t) (m0 := m0) (m1 := m1) (m2 := m2) (m3 := m3) (m4 := m4) (m5 := m5) (m6 := m6) (m7 := m7) (m8 := m8) (m9 := m9) h_a (ht)) (fun v4 M5 q6 => ?_)
  obtain ⟨rfl, rfl⟩ := q6
  show pl _ _ _ (58, [], [.int 0], M) _
  exact ps_ret rfl rfl (⟨rfl, rfl⟩)
set_option maxHeartbeats 1000000 in
theorem dk_memberM5C {g : xe_G} {M : mi_H} {o ca fl : Nat} {cn wp : Int32} {c b q fr mr l : Nat} {u2 u3 u4 u5 : Int32} {w : List Value} {R : Nat → Value} {a : Nat} {m0 m1 m2 m3 m4 m5 m6 m7 m8 m9 : Int32} {t : Int32} {k : Nat} {z : Nat} {c0 c1 c2 c3 c4 : Int32} {v5 v6 v7 v8 v9 v10 : Value} (h_o : M.1 o = some (ob 11 [.ref ca, .int cn, .ref fl, .ref c, .int wp])) (h_c : M.1 c = some (ob 3 (.ref b :: .ref q :: .int u2 :: .int u3 :: .int u4 :: .int u5 :: .ref fr :: .ref mr :: w))) (h_mr : M.1 mr = some (ro "ClassGate$Member" l R)) (h_a : M.1 a = some (ob 6 [.int m0, .int m1, .int m2, .int m3, .int m4, .int m5, .int m6, .int m7, .int m8, .int m9, .ref z])) (h_z : M.1 z = some (ob 4 [.int c0, .int c1, .int c2, .int c3, .int c4, v5, v6, v7, v8, v9, v10])) (ht : ¬ t = 0) (hk : k < l) (hl : l < 65536) (hR : R k = .ref a) : pt (mT g) 15 [.ref o, .int t, .int (nI k), .int 5] M (fun v M' => (v = some (.int c0) ∧ M = M')) := by
  refine pt_in (b := mb_15 g) rfl (fun kf => ?_)
  show pl (mT g) kf (mb_15 g).2 (0, [(0, .ref o), (1, .int t), (2, .int (nI k)), (3, .int 5)], [], M) _
  refine ps_st (S' := (1, [(0, .ref o), (1, .int t), (2, .int (nI k)), (3, .int 5)], [.int 5], M)) rfl rfl rfl ?_
  refine ps_if (S1 := (10, [(0, .ref o), (1, .int t), (2, .int (nI k)), (3, .int 5)], [], M)) (S2 := (4, [(0, .ref o), (1, .int t), (2, .int (nI k)), (3, .int 5)], [], M)) rfl rfl rfl (fun c_1 => ?_) (fun c_1 => ?_)
  · exact absurd (of_decide_eq_true c_1) (by decide)
  refine ps_st (S' := (5, [(0, .ref o), (1, .int t), (2, .int (nI k)), (3, .int 5)], [.int 5], M)) rfl rfl rfl ?_
  refine ps_st (S' := (7, [(0, .ref o), (1, .int t), (2, .int (nI k)), (3, .int 5)], [.int 9, .int 5], M)) rfl rfl rfl ?_
  refine ps_if2 (S1 := (20, [(0, .ref o), (1, .int t), (2, .int (nI k)), (3, .int 5)], [], M)) (S2 := (10, [(0, .ref o), (1, .int t), (2, .int (nI k)), (3, .int 5)], [], M)) rfl rfl rfl (fun c_7 => ?_) (fun c_7 => ?_)
  rotate_left
  · exact absurd (by decide) (of_decide_eq_false c_7)
  refine ps_st (S' := (21, [(0, .ref o), (1, .int t), (2, .int (nI k)), (3, .int 5)], [.ref o], M)) rfl rfl rfl ?_
  refine ps_get (S' := (24, [(0, .ref o), (1, .int t), (2, .int (nI k)), (3, .int 5)], [.ref c], M)) rfl h_o rfl rfl ?_
  refine ps_st (S' := (31, [(0, .ref o), (1, .int t), (2, .int (nI k)), (3, .int 5)], [], M)) rfl rfl rfl ?_
  refine ps_st (S' := (32, [(0, .ref o), (1, .int t), (2, .int (nI k)), (3, .int 5)], [.ref o], M)) rfl rfl rfl ?_
  refine ps_get (S' := (35, [(0, .ref o), (1, .int t), (2, .int (nI k)), (3, .int 5)], [.ref c], M)) rfl h_o rfl rfl ?_
  refine ps_st (S' := (36, [(0, .ref o), (1, .int t), (2, .int (nI k)), (3, .int 5)], [.int t, .ref c], M)) rfl rfl rfl ?_
  refine ps_st (S' := (37, [(0, .ref o), (1, .int t), (2, .int (nI k)), (3, .int 5)], [.int (nI k), .int t, .ref c], M)) rfl rfl rfl ?_
  refine pl_call (a := [.ref c, .int t, .int (nI k)]) (rest := []) rfl rfl rfl (dk_memberAtM (c := c) (b := b) (q := q) (fr := fr) (mr := mr) (l := l) (u2 := u2) (u3 := u3) (u4 := u4) (u5 := u5) (w := w) (R := R) (t := t) (k := k) (a := a) h_c h_mr (ht) (hk) (hl) (hR)) (fun v1 M2 q3 => ?_)
  obtain ⟨rfl, rfl⟩ := q3
  show pl _ _ _ (40, [(1, .int t), (3, .int 5)], [.ref a], M) _
  refine ps_st (S' := (42, [(4, .ref a), (1, .int t), (3, .int 5)], [], M)) rfl rfl rfl ?_
  refine ps_st (S' := (44, [(4, .ref a), (1, .int t), (3, .int 5)], [.ref a], M)) rfl rfl rfl ?_
  refine ps_st (S' := (51, [(4, .ref a), (1, .int t), (3, .int 5)], [], M)) rfl rfl rfl ?_
  refine ps_st (S' := (53, [(4, .ref a), (1, .int t), (3, .int 5)], [.ref a], M)) rfl rfl rfl ?_
  refine ps_st (S' := (54, [(4, .ref a), (1, .int t), (3, .int 5)], [.int t, .ref a], M)) rfl rfl rfl ?_
  refine ps_st (S' := (55, [(4, .ref a), (1, .int t), (3, .int 5)], [.int 5, .int t, .ref a], M)) rfl rfl rfl ?_
  refine pl_call (a := [.ref a, .int t, .int 5]) (rest := []) rfl rfl rfl (dk_mnumM5C (a := a) (t := t) (m0 := m0) (m1 := m1) (m2 := m2) (m3 := m3) (m4 := m4) (m5 := m5) (m6 := m6) (m7 := m7) (m8 := m8) (m9 := m9) (z := z) (c0 := c0) (c1 := c1) (c2 := c2) (c3 := c3) (c4 := c4) (v5 := v5) (v6 := v6) (v7 := v7) (v8 := v8) (v9 := v9) (v10 := v10) h_a h_z (ht)) (fun v4 M5 q6 => ?_)
  obtain ⟨rfl, rfl⟩ := q6
  show pl _ _ _ (58, [], [.int c0], M) _
  exact ps_reti rfl (⟨rfl, rfl⟩)
set_option maxHeartbeats 1000000 in
theorem dk_memberM6N {g : xe_G} {M : mi_H} {o ca fl : Nat} {cn wp : Int32} {c b q fr mr l : Nat} {u2 u3 u4 u5 : Int32} {w : List Value} {R : Nat → Value} {a : Nat} {m0 m1 m2 m3 m4 m5 m6 m7 m8 m9 : Int32} {t : Int32} {k : Nat} (h_o : M.1 o = some (ob 11 [.ref ca, .int cn, .ref fl, .ref c, .int wp])) (h_c : M.1 c = some (ob 3 (.ref b :: .ref q :: .int u2 :: .int u3 :: .int u4 :: .int u5 :: .ref fr :: .ref mr :: w))) (h_mr : M.1 mr = some (ro "ClassGate$Member" l R)) (h_a : M.1 a = some (ob 6 [.int m0, .int m1, .int m2, .int m3, .int m4, .int m5, .int m6, .int m7, .int m8, .int m9, .null])) (ht : ¬ t = 0) (hk : k < l) (hl : l < 65536) (hR : R k = .ref a) : pt (mT g) 15 [.ref o, .int t, .int (nI k), .int 6] M (fun v M' => (v = some (.int 0) ∧ M = M')) := by
  refine pt_in (b := mb_15 g) rfl (fun kf => ?_)
  show pl (mT g) kf (mb_15 g).2 (0, [(0, .ref o), (1, .int t), (2, .int (nI k)), (3, .int 6)], [], M) _
  refine ps_st (S' := (1, [(0, .ref o), (1, .int t), (2, .int (nI k)), (3, .int 6)], [.int 6], M)) rfl rfl rfl ?_
  refine ps_if (S1 := (10, [(0, .ref o), (1, .int t), (2, .int (nI k)), (3, .int 6)], [], M)) (S2 := (4, [(0, .ref o), (1, .int t), (2, .int (nI k)), (3, .int 6)], [], M)) rfl rfl rfl (fun c_1 => ?_) (fun c_1 => ?_)
  · exact absurd (of_decide_eq_true c_1) (by decide)
  refine ps_st (S' := (5, [(0, .ref o), (1, .int t), (2, .int (nI k)), (3, .int 6)], [.int 6], M)) rfl rfl rfl ?_
  refine ps_st (S' := (7, [(0, .ref o), (1, .int t), (2, .int (nI k)), (3, .int 6)], [.int 9, .int 6], M)) rfl rfl rfl ?_
  refine ps_if2 (S1 := (20, [(0, .ref o), (1, .int t), (2, .int (nI k)), (3, .int 6)], [], M)) (S2 := (10, [(0, .ref o), (1, .int t), (2, .int (nI k)), (3, .int 6)], [], M)) rfl rfl rfl (fun c_7 => ?_) (fun c_7 => ?_)
  rotate_left
  · exact absurd (by decide) (of_decide_eq_false c_7)
  refine ps_st (S' := (21, [(0, .ref o), (1, .int t), (2, .int (nI k)), (3, .int 6)], [.ref o], M)) rfl rfl rfl ?_
  refine ps_get (S' := (24, [(0, .ref o), (1, .int t), (2, .int (nI k)), (3, .int 6)], [.ref c], M)) rfl h_o rfl rfl ?_
  refine ps_st (S' := (31, [(0, .ref o), (1, .int t), (2, .int (nI k)), (3, .int 6)], [], M)) rfl rfl rfl ?_
  refine ps_st (S' := (32, [(0, .ref o), (1, .int t), (2, .int (nI k)), (3, .int 6)], [.ref o], M)) rfl rfl rfl ?_
  refine ps_get (S' := (35, [(0, .ref o), (1, .int t), (2, .int (nI k)), (3, .int 6)], [.ref c], M)) rfl h_o rfl rfl ?_
  refine ps_st (S' := (36, [(0, .ref o), (1, .int t), (2, .int (nI k)), (3, .int 6)], [.int t, .ref c], M)) rfl rfl rfl ?_
  refine ps_st (S' := (37, [(0, .ref o), (1, .int t), (2, .int (nI k)), (3, .int 6)], [.int (nI k), .int t, .ref c], M)) rfl rfl rfl ?_
  refine pl_call (a := [.ref c, .int t, .int (nI k)]) (rest := []) rfl rfl rfl (dk_memberAtM (c := c) (b := b) (q := q) (fr := fr) (mr := mr) (l := l) (u2 := u2) (u3 := u3) (u4 := u4) (u5 := u5) (w := w) (R := R) (t := t) (k := k) (a := a) h_c h_mr (ht) (hk) (hl) (hR)) (fun v1 M2 q3 => ?_)
  obtain ⟨rfl, rfl⟩ := q3
  show pl _ _ _ (40, [(1, .int t), (3, .int 6)], [.ref a], M) _
  refine ps_st (S' := (42, [(4, .ref a), (1, .int t), (3, .int 6)], [], M)) rfl rfl rfl ?_
  refine ps_st (S' := (44, [(4, .ref a), (1, .int t), (3, .int 6)], [.ref a], M)) rfl rfl rfl ?_
  refine ps_st (S' := (51, [(4, .ref a), (1, .int t), (3, .int 6)], [], M)) rfl rfl rfl ?_
  refine ps_st (S' := (53, [(4, .ref a), (1, .int t), (3, .int 6)], [.ref a], M)) rfl rfl rfl ?_
  refine ps_st (S' := (54, [(4, .ref a), (1, .int t), (3, .int 6)], [.int t, .ref a], M)) rfl rfl rfl ?_
  refine ps_st (S' := (55, [(4, .ref a), (1, .int t), (3, .int 6)], [.int 6, .int t, .ref a], M)) rfl rfl rfl ?_
  refine pl_call (a := [.ref a, .int t, .int 6]) (rest := []) rfl rfl rfl (dk_mnumM6N (a := a) (t := t) (m0 := m0) (m1 := m1) (m2 := m2) (m3 := m3) (m4 := m4) (m5 := m5) (m6 := m6) (m7 := m7) (m8 := m8) (m9 := m9) h_a (ht)) (fun v4 M5 q6 => ?_)
  obtain ⟨rfl, rfl⟩ := q6
  show pl _ _ _ (58, [], [.int 0], M) _
  exact ps_ret rfl rfl (⟨rfl, rfl⟩)
set_option maxHeartbeats 1000000 in
theorem dk_memberM6C {g : xe_G} {M : mi_H} {o ca fl : Nat} {cn wp : Int32} {c b q fr mr l : Nat} {u2 u3 u4 u5 : Int32} {w : List Value} {R : Nat → Value} {a : Nat} {m0 m1 m2 m3 m4 m5 m6 m7 m8 m9 : Int32} {t : Int32} {k : Nat} {z : Nat} {c0 c1 c2 c3 c4 : Int32} {v5 v6 v7 v8 v9 v10 : Value} (h_o : M.1 o = some (ob 11 [.ref ca, .int cn, .ref fl, .ref c, .int wp])) (h_c : M.1 c = some (ob 3 (.ref b :: .ref q :: .int u2 :: .int u3 :: .int u4 :: .int u5 :: .ref fr :: .ref mr :: w))) (h_mr : M.1 mr = some (ro "ClassGate$Member" l R)) (h_a : M.1 a = some (ob 6 [.int m0, .int m1, .int m2, .int m3, .int m4, .int m5, .int m6, .int m7, .int m8, .int m9, .ref z])) (h_z : M.1 z = some (ob 4 [.int c0, .int c1, .int c2, .int c3, .int c4, v5, v6, v7, v8, v9, v10])) (ht : ¬ t = 0) (hk : k < l) (hl : l < 65536) (hR : R k = .ref a) : pt (mT g) 15 [.ref o, .int t, .int (nI k), .int 6] M (fun v M' => (v = some (.int c1) ∧ M = M')) := by
  refine pt_in (b := mb_15 g) rfl (fun kf => ?_)
  show pl (mT g) kf (mb_15 g).2 (0, [(0, .ref o), (1, .int t), (2, .int (nI k)), (3, .int 6)], [], M) _
  refine ps_st (S' := (1, [(0, .ref o), (1, .int t), (2, .int (nI k)), (3, .int 6)], [.int 6], M)) rfl rfl rfl ?_
  refine ps_if (S1 := (10, [(0, .ref o), (1, .int t), (2, .int (nI k)), (3, .int 6)], [], M)) (S2 := (4, [(0, .ref o), (1, .int t), (2, .int (nI k)), (3, .int 6)], [], M)) rfl rfl rfl (fun c_1 => ?_) (fun c_1 => ?_)
  · exact absurd (of_decide_eq_true c_1) (by decide)
  refine ps_st (S' := (5, [(0, .ref o), (1, .int t), (2, .int (nI k)), (3, .int 6)], [.int 6], M)) rfl rfl rfl ?_
  refine ps_st (S' := (7, [(0, .ref o), (1, .int t), (2, .int (nI k)), (3, .int 6)], [.int 9, .int 6], M)) rfl rfl rfl ?_
  refine ps_if2 (S1 := (20, [(0, .ref o), (1, .int t), (2, .int (nI k)), (3, .int 6)], [], M)) (S2 := (10, [(0, .ref o), (1, .int t), (2, .int (nI k)), (3, .int 6)], [], M)) rfl rfl rfl (fun c_7 => ?_) (fun c_7 => ?_)
  rotate_left
  · exact absurd (by decide) (of_decide_eq_false c_7)
  refine ps_st (S' := (21, [(0, .ref o), (1, .int t), (2, .int (nI k)), (3, .int 6)], [.ref o], M)) rfl rfl rfl ?_
  refine ps_get (S' := (24, [(0, .ref o), (1, .int t), (2, .int (nI k)), (3, .int 6)], [.ref c], M)) rfl h_o rfl rfl ?_
  refine ps_st (S' := (31, [(0, .ref o), (1, .int t), (2, .int (nI k)), (3, .int 6)], [], M)) rfl rfl rfl ?_
  refine ps_st (S' := (32, [(0, .ref o), (1, .int t), (2, .int (nI k)), (3, .int 6)], [.ref o], M)) rfl rfl rfl ?_
  refine ps_get (S' := (35, [(0, .ref o), (1, .int t), (2, .int (nI k)), (3, .int 6)], [.ref c], M)) rfl h_o rfl rfl ?_
  refine ps_st (S' := (36, [(0, .ref o), (1, .int t), (2, .int (nI k)), (3, .int 6)], [.int t, .ref c], M)) rfl rfl rfl ?_
  refine ps_st (S' := (37, [(0, .ref o), (1, .int t), (2, .int (nI k)), (3, .int 6)], [.int (nI k), .int t, .ref c], M)) rfl rfl rfl ?_
  refine pl_call (a := [.ref c, .int t, .int (nI k)]) (rest := []) rfl rfl rfl (dk_memberAtM (c := c) (b := b) (q := q) (fr := fr) (mr := mr) (l := l) (u2 := u2) (u3 := u3) (u4 := u4) (u5 := u5) (w := w) (R := R) (t := t) (k := k) (a := a) h_c h_mr (ht) (hk) (hl) (hR)) (fun v1 M2 q3 => ?_)
  obtain ⟨rfl, rfl⟩ := q3
  show pl _ _ _ (40, [(1, .int t), (3, .int 6)], [.ref a], M) _
  refine ps_st (S' := (42, [(4, .ref a), (1, .int t), (3, .int 6)], [], M)) rfl rfl rfl ?_
  refine ps_st (S' := (44, [(4, .ref a), (1, .int t), (3, .int 6)], [.ref a], M)) rfl rfl rfl ?_
  refine ps_st (S' := (51, [(4, .ref a), (1, .int t), (3, .int 6)], [], M)) rfl rfl rfl ?_
  refine ps_st (S' := (53, [(4, .ref a), (1, .int t), (3, .int 6)], [.ref a], M)) rfl rfl rfl ?_
  refine ps_st (S' := (54, [(4, .ref a), (1, .int t), (3, .int 6)], [.int t, .ref a], M)) rfl rfl rfl ?_
  refine ps_st (S' := (55, [(4, .ref a), (1, .int t), (3, .int 6)], [.int 6, .int t, .ref a], M)) rfl rfl rfl ?_
  refine pl_call (a := [.ref a, .int t, .int 6]) (rest := []) rfl rfl rfl (dk_mnumM6C (a := a) (t := t) (m0 := m0) (m1 := m1) (m2 := m2) (m3 := m3) (m4 := m4) (m5 := m5) (m6 := m6) (m7 := m7) (m8 := m8) (m9 := m9) (z := z) (c0 := c0) (c1 := c1) (c2 := c2) (c3 := c3) (c4 := c4) (v5 := v5) (v6 := v6) (v7 := v7) (v8 := v8) (v9 := v9) (v10 := v10) h_a h_z (ht)) (fun v4 M5 q6 => ?_)
  obtain ⟨rfl, rfl⟩ := q6
  show pl _ _ _ (58, [], [.int c1], M) _
  exact ps_reti rfl (⟨rfl, rfl⟩)
set_option maxHeartbeats 1000000 in
theorem dk_memberM7N {g : xe_G} {M : mi_H} {o ca fl : Nat} {cn wp : Int32} {c b q fr mr l : Nat} {u2 u3 u4 u5 : Int32} {w : List Value} {R : Nat → Value} {a : Nat} {m0 m1 m2 m3 m4 m5 m6 m7 m8 m9 : Int32} {t : Int32} {k : Nat} (h_o : M.1 o = some (ob 11 [.ref ca, .int cn, .ref fl, .ref c, .int wp])) (h_c : M.1 c = some (ob 3 (.ref b :: .ref q :: .int u2 :: .int u3 :: .int u4 :: .int u5 :: .ref fr :: .ref mr :: w))) (h_mr : M.1 mr = some (ro "ClassGate$Member" l R)) (h_a : M.1 a = some (ob 6 [.int m0, .int m1, .int m2, .int m3, .int m4, .int m5, .int m6, .int m7, .int m8, .int m9, .null])) (ht : ¬ t = 0) (hk : k < l) (hl : l < 65536) (hR : R k = .ref a) : pt (mT g) 15 [.ref o, .int t, .int (nI k), .int 7] M (fun v M' => (v = some (.int 0) ∧ M = M')) := by
  refine pt_in (b := mb_15 g) rfl (fun kf => ?_)
  show pl (mT g) kf (mb_15 g).2 (0, [(0, .ref o), (1, .int t), (2, .int (nI k)), (3, .int 7)], [], M) _
  refine ps_st (S' := (1, [(0, .ref o), (1, .int t), (2, .int (nI k)), (3, .int 7)], [.int 7], M)) rfl rfl rfl ?_
  refine ps_if (S1 := (10, [(0, .ref o), (1, .int t), (2, .int (nI k)), (3, .int 7)], [], M)) (S2 := (4, [(0, .ref o), (1, .int t), (2, .int (nI k)), (3, .int 7)], [], M)) rfl rfl rfl (fun c_1 => ?_) (fun c_1 => ?_)
  · exact absurd (of_decide_eq_true c_1) (by decide)
  refine ps_st (S' := (5, [(0, .ref o), (1, .int t), (2, .int (nI k)), (3, .int 7)], [.int 7], M)) rfl rfl rfl ?_
  refine ps_st (S' := (7, [(0, .ref o), (1, .int t), (2, .int (nI k)), (3, .int 7)], [.int 9, .int 7], M)) rfl rfl rfl ?_
  refine ps_if2 (S1 := (20, [(0, .ref o), (1, .int t), (2, .int (nI k)), (3, .int 7)], [], M)) (S2 := (10, [(0, .ref o), (1, .int t), (2, .int (nI k)), (3, .int 7)], [], M)) rfl rfl rfl (fun c_7 => ?_) (fun c_7 => ?_)
  rotate_left
  · exact absurd (by decide) (of_decide_eq_false c_7)
  refine ps_st (S' := (21, [(0, .ref o), (1, .int t), (2, .int (nI k)), (3, .int 7)], [.ref o], M)) rfl rfl rfl ?_
  refine ps_get (S' := (24, [(0, .ref o), (1, .int t), (2, .int (nI k)), (3, .int 7)], [.ref c], M)) rfl h_o rfl rfl ?_
  refine ps_st (S' := (31, [(0, .ref o), (1, .int t), (2, .int (nI k)), (3, .int 7)], [], M)) rfl rfl rfl ?_
  refine ps_st (S' := (32, [(0, .ref o), (1, .int t), (2, .int (nI k)), (3, .int 7)], [.ref o], M)) rfl rfl rfl ?_
  refine ps_get (S' := (35, [(0, .ref o), (1, .int t), (2, .int (nI k)), (3, .int 7)], [.ref c], M)) rfl h_o rfl rfl ?_
  refine ps_st (S' := (36, [(0, .ref o), (1, .int t), (2, .int (nI k)), (3, .int 7)], [.int t, .ref c], M)) rfl rfl rfl ?_
  refine ps_st (S' := (37, [(0, .ref o), (1, .int t), (2, .int (nI k)), (3, .int 7)], [.int (nI k), .int t, .ref c], M)) rfl rfl rfl ?_
  refine pl_call (a := [.ref c, .int t, .int (nI k)]) (rest := []) rfl rfl rfl (dk_memberAtM (c := c) (b := b) (q := q) (fr := fr) (mr := mr) (l := l) (u2 := u2) (u3 := u3) (u4 := u4) (u5 := u5) (w := w) (R := R) (t := t) (k := k) (a := a) h_c h_mr (ht) (hk) (hl) (hR)) (fun v1 M2 q3 => ?_)
  obtain ⟨rfl, rfl⟩ := q3
  show pl _ _ _ (40, [(1, .int t), (3, .int 7)], [.ref a], M) _
  refine ps_st (S' := (42, [(4, .ref a), (1, .int t), (3, .int 7)], [], M)) rfl rfl rfl ?_
  refine ps_st (S' := (44, [(4, .ref a), (1, .int t), (3, .int 7)], [.ref a], M)) rfl rfl rfl ?_
  refine ps_st (S' := (51, [(4, .ref a), (1, .int t), (3, .int 7)], [], M)) rfl rfl rfl ?_
  refine ps_st (S' := (53, [(4, .ref a), (1, .int t), (3, .int 7)], [.ref a], M)) rfl rfl rfl ?_
  refine ps_st (S' := (54, [(4, .ref a), (1, .int t), (3, .int 7)], [.int t, .ref a], M)) rfl rfl rfl ?_
  refine ps_st (S' := (55, [(4, .ref a), (1, .int t), (3, .int 7)], [.int 7, .int t, .ref a], M)) rfl rfl rfl ?_
  refine pl_call (a := [.ref a, .int t, .int 7]) (rest := []) rfl rfl rfl (dk_mnumM7N (a := a) (t := t) (m0 := m0) (m1 := m1) (m2 := m2) (m3 := m3) (m4 := m4) (m5 := m5) (m6 := m6) (m7 := m7) (m8 := m8) (m9 := m9) h_a (ht)) (fun v4 M5 q6 => ?_)
  obtain ⟨rfl, rfl⟩ := q6
  show pl _ _ _ (58, [], [.int 0], M) _
  exact ps_ret rfl rfl (⟨rfl, rfl⟩)
set_option maxHeartbeats 1000000 in
theorem dk_memberM7C {g : xe_G} {M : mi_H} {o ca fl : Nat} {cn wp : Int32} {c b q fr mr l : Nat} {u2 u3 u4 u5 : Int32} {w : List Value} {R : Nat → Value} {a : Nat} {m0 m1 m2 m3 m4 m5 m6 m7 m8 m9 : Int32} {t : Int32} {k : Nat} {z : Nat} {c0 c1 c2 c3 c4 : Int32} {v5 v6 v7 v8 v9 v10 : Value} (h_o : M.1 o = some (ob 11 [.ref ca, .int cn, .ref fl, .ref c, .int wp])) (h_c : M.1 c = some (ob 3 (.ref b :: .ref q :: .int u2 :: .int u3 :: .int u4 :: .int u5 :: .ref fr :: .ref mr :: w))) (h_mr : M.1 mr = some (ro "ClassGate$Member" l R)) (h_a : M.1 a = some (ob 6 [.int m0, .int m1, .int m2, .int m3, .int m4, .int m5, .int m6, .int m7, .int m8, .int m9, .ref z])) (h_z : M.1 z = some (ob 4 [.int c0, .int c1, .int c2, .int c3, .int c4, v5, v6, v7, v8, v9, v10])) (ht : ¬ t = 0) (hk : k < l) (hl : l < 65536) (hR : R k = .ref a) : pt (mT g) 15 [.ref o, .int t, .int (nI k), .int 7] M (fun v M' => (v = some (.int c4) ∧ M = M')) := by
  refine pt_in (b := mb_15 g) rfl (fun kf => ?_)
  show pl (mT g) kf (mb_15 g).2 (0, [(0, .ref o), (1, .int t), (2, .int (nI k)), (3, .int 7)], [], M) _
  refine ps_st (S' := (1, [(0, .ref o), (1, .int t), (2, .int (nI k)), (3, .int 7)], [.int 7], M)) rfl rfl rfl ?_
  refine ps_if (S1 := (10, [(0, .ref o), (1, .int t), (2, .int (nI k)), (3, .int 7)], [], M)) (S2 := (4, [(0, .ref o), (1, .int t), (2, .int (nI k)), (3, .int 7)], [], M)) rfl rfl rfl (fun c_1 => ?_) (fun c_1 => ?_)
  · exact absurd (of_decide_eq_true c_1) (by decide)
  refine ps_st (S' := (5, [(0, .ref o), (1, .int t), (2, .int (nI k)), (3, .int 7)], [.int 7], M)) rfl rfl rfl ?_
  refine ps_st (S' := (7, [(0, .ref o), (1, .int t), (2, .int (nI k)), (3, .int 7)], [.int 9, .int 7], M)) rfl rfl rfl ?_
  refine ps_if2 (S1 := (20, [(0, .ref o), (1, .int t), (2, .int (nI k)), (3, .int 7)], [], M)) (S2 := (10, [(0, .ref o), (1, .int t), (2, .int (nI k)), (3, .int 7)], [], M)) rfl rfl rfl (fun c_7 => ?_) (fun c_7 => ?_)
  rotate_left
  · exact absurd (by decide) (of_decide_eq_false c_7)
  refine ps_st (S' := (21, [(0, .ref o), (1, .int t), (2, .int (nI k)), (3, .int 7)], [.ref o], M)) rfl rfl rfl ?_
  refine ps_get (S' := (24, [(0, .ref o), (1, .int t), (2, .int (nI k)), (3, .int 7)], [.ref c], M)) rfl h_o rfl rfl ?_
  refine ps_st (S' := (31, [(0, .ref o), (1, .int t), (2, .int (nI k)), (3, .int 7)], [], M)) rfl rfl rfl ?_
  refine ps_st (S' := (32, [(0, .ref o), (1, .int t), (2, .int (nI k)), (3, .int 7)], [.ref o], M)) rfl rfl rfl ?_
  refine ps_get (S' := (35, [(0, .ref o), (1, .int t), (2, .int (nI k)), (3, .int 7)], [.ref c], M)) rfl h_o rfl rfl ?_
  refine ps_st (S' := (36, [(0, .ref o), (1, .int t), (2, .int (nI k)), (3, .int 7)], [.int t, .ref c], M)) rfl rfl rfl ?_
  refine ps_st (S' := (37, [(0, .ref o), (1, .int t), (2, .int (nI k)), (3, .int 7)], [.int (nI k), .int t, .ref c], M)) rfl rfl rfl ?_
  refine pl_call (a := [.ref c, .int t, .int (nI k)]) (rest := []) rfl rfl rfl (dk_memberAtM (c := c) (b := b) (q := q) (fr := fr) (mr := mr) (l := l) (u2 := u2) (u3 := u3) (u4 := u4) (u5 := u5) (w := w) (R := R) (t := t) (k := k) (a := a) h_c h_mr (ht) (hk) (hl) (hR)) (fun v1 M2 q3 => ?_)
  obtain ⟨rfl, rfl⟩ := q3
  show pl _ _ _ (40, [(1, .int t), (3, .int 7)], [.ref a], M) _
  refine ps_st (S' := (42, [(4, .ref a), (1, .int t), (3, .int 7)], [], M)) rfl rfl rfl ?_
  refine ps_st (S' := (44, [(4, .ref a), (1, .int t), (3, .int 7)], [.ref a], M)) rfl rfl rfl ?_
  refine ps_st (S' := (51, [(4, .ref a), (1, .int t), (3, .int 7)], [], M)) rfl rfl rfl ?_
  refine ps_st (S' := (53, [(4, .ref a), (1, .int t), (3, .int 7)], [.ref a], M)) rfl rfl rfl ?_
  refine ps_st (S' := (54, [(4, .ref a), (1, .int t), (3, .int 7)], [.int t, .ref a], M)) rfl rfl rfl ?_
  refine ps_st (S' := (55, [(4, .ref a), (1, .int t), (3, .int 7)], [.int 7, .int t, .ref a], M)) rfl rfl rfl ?_
  refine pl_call (a := [.ref a, .int t, .int 7]) (rest := []) rfl rfl rfl (dk_mnumM7C (a := a) (t := t) (m0 := m0) (m1 := m1) (m2 := m2) (m3 := m3) (m4 := m4) (m5 := m5) (m6 := m6) (m7 := m7) (m8 := m8) (m9 := m9) (z := z) (c0 := c0) (c1 := c1) (c2 := c2) (c3 := c3) (c4 := c4) (v5 := v5) (v6 := v6) (v7 := v7) (v8 := v8) (v9 := v9) (v10 := v10) h_a h_z (ht)) (fun v4 M5 q6 => ?_)
  obtain ⟨rfl, rfl⟩ := q6
  show pl _ _ _ (58, [], [.int c4], M) _
  exact ps_reti rfl (⟨rfl, rfl⟩)
set_option maxHeartbeats 1000000 in
theorem dk_memberM8 {g : xe_G} {M : mi_H} {o ca fl : Nat} {cn wp : Int32} {c b q fr mr l : Nat} {u2 u3 u4 u5 : Int32} {w : List Value} {R : Nat → Value} {a : Nat} {m0 m1 m2 m3 m4 m5 m6 m7 m8 m9 : Int32} {t : Int32} {k : Nat} {mv : Value} (h_o : M.1 o = some (ob 11 [.ref ca, .int cn, .ref fl, .ref c, .int wp])) (h_c : M.1 c = some (ob 3 (.ref b :: .ref q :: .int u2 :: .int u3 :: .int u4 :: .int u5 :: .ref fr :: .ref mr :: w))) (h_mr : M.1 mr = some (ro "ClassGate$Member" l R)) (h_a : M.1 a = some (ob 6 [.int m0, .int m1, .int m2, .int m3, .int m4, .int m5, .int m6, .int m7, .int m8, .int m9, mv])) (ht : ¬ t = 0) (hk : k < l) (hl : l < 65536) (hR : R k = .ref a) : pt (mT g) 15 [.ref o, .int t, .int (nI k), .int 8] M (fun v M' => (v = some (.int m8) ∧ M = M')) := by
  refine pt_in (b := mb_15 g) rfl (fun kf => ?_)
  show pl (mT g) kf (mb_15 g).2 (0, [(0, .ref o), (1, .int t), (2, .int (nI k)), (3, .int 8)], [], M) _
  refine ps_st (S' := (1, [(0, .ref o), (1, .int t), (2, .int (nI k)), (3, .int 8)], [.int 8], M)) rfl rfl rfl ?_
  refine ps_if (S1 := (10, [(0, .ref o), (1, .int t), (2, .int (nI k)), (3, .int 8)], [], M)) (S2 := (4, [(0, .ref o), (1, .int t), (2, .int (nI k)), (3, .int 8)], [], M)) rfl rfl rfl (fun c_1 => ?_) (fun c_1 => ?_)
  · exact absurd (of_decide_eq_true c_1) (by decide)
  refine ps_st (S' := (5, [(0, .ref o), (1, .int t), (2, .int (nI k)), (3, .int 8)], [.int 8], M)) rfl rfl rfl ?_
  refine ps_st (S' := (7, [(0, .ref o), (1, .int t), (2, .int (nI k)), (3, .int 8)], [.int 9, .int 8], M)) rfl rfl rfl ?_
  refine ps_if2 (S1 := (20, [(0, .ref o), (1, .int t), (2, .int (nI k)), (3, .int 8)], [], M)) (S2 := (10, [(0, .ref o), (1, .int t), (2, .int (nI k)), (3, .int 8)], [], M)) rfl rfl rfl (fun c_7 => ?_) (fun c_7 => ?_)
  rotate_left
  · exact absurd (by decide) (of_decide_eq_false c_7)
  refine ps_st (S' := (21, [(0, .ref o), (1, .int t), (2, .int (nI k)), (3, .int 8)], [.ref o], M)) rfl rfl rfl ?_
  refine ps_get (S' := (24, [(0, .ref o), (1, .int t), (2, .int (nI k)), (3, .int 8)], [.ref c], M)) rfl h_o rfl rfl ?_
  refine ps_st (S' := (31, [(0, .ref o), (1, .int t), (2, .int (nI k)), (3, .int 8)], [], M)) rfl rfl rfl ?_
  refine ps_st (S' := (32, [(0, .ref o), (1, .int t), (2, .int (nI k)), (3, .int 8)], [.ref o], M)) rfl rfl rfl ?_
  refine ps_get (S' := (35, [(0, .ref o), (1, .int t), (2, .int (nI k)), (3, .int 8)], [.ref c], M)) rfl h_o rfl rfl ?_
  refine ps_st (S' := (36, [(0, .ref o), (1, .int t), (2, .int (nI k)), (3, .int 8)], [.int t, .ref c], M)) rfl rfl rfl ?_
  refine ps_st (S' := (37, [(0, .ref o), (1, .int t), (2, .int (nI k)), (3, .int 8)], [.int (nI k), .int t, .ref c], M)) rfl rfl rfl ?_
  refine pl_call (a := [.ref c, .int t, .int (nI k)]) (rest := []) rfl rfl rfl (dk_memberAtM (c := c) (b := b) (q := q) (fr := fr) (mr := mr) (l := l) (u2 := u2) (u3 := u3) (u4 := u4) (u5 := u5) (w := w) (R := R) (t := t) (k := k) (a := a) h_c h_mr (ht) (hk) (hl) (hR)) (fun v1 M2 q3 => ?_)
  obtain ⟨rfl, rfl⟩ := q3
  show pl _ _ _ (40, [(1, .int t), (3, .int 8)], [.ref a], M) _
  refine ps_st (S' := (42, [(4, .ref a), (1, .int t), (3, .int 8)], [], M)) rfl rfl rfl ?_
  refine ps_st (S' := (44, [(4, .ref a), (1, .int t), (3, .int 8)], [.ref a], M)) rfl rfl rfl ?_
  refine ps_st (S' := (51, [(4, .ref a), (1, .int t), (3, .int 8)], [], M)) rfl rfl rfl ?_
  refine ps_st (S' := (53, [(4, .ref a), (1, .int t), (3, .int 8)], [.ref a], M)) rfl rfl rfl ?_
  refine ps_st (S' := (54, [(4, .ref a), (1, .int t), (3, .int 8)], [.int t, .ref a], M)) rfl rfl rfl ?_
  refine ps_st (S' := (55, [(4, .ref a), (1, .int t), (3, .int 8)], [.int 8, .int t, .ref a], M)) rfl rfl rfl ?_
  refine pl_call (a := [.ref a, .int t, .int 8]) (rest := []) rfl rfl rfl (dk_mnumM8 (a := a) (t := t) (m0 := m0) (m1 := m1) (m2 := m2) (m3 := m3) (m4 := m4) (m5 := m5) (m6 := m6) (m7 := m7) (m8 := m8) (m9 := m9) (mv := mv) h_a (ht)) (fun v4 M5 q6 => ?_)
  obtain ⟨rfl, rfl⟩ := q6
  show pl _ _ _ (58, [], [.int m8], M) _
  exact ps_reti rfl (⟨rfl, rfl⟩)
set_option maxHeartbeats 1000000 in
theorem dk_memberM9 {g : xe_G} {M : mi_H} {o ca fl : Nat} {cn wp : Int32} {c b q fr mr l : Nat} {u2 u3 u4 u5 : Int32} {w : List Value} {R : Nat → Value} {a : Nat} {m0 m1 m2 m3 m4 m5 m6 m7 m8 m9 : Int32} {t : Int32} {k : Nat} {mv : Value} (h_o : M.1 o = some (ob 11 [.ref ca, .int cn, .ref fl, .ref c, .int wp])) (h_c : M.1 c = some (ob 3 (.ref b :: .ref q :: .int u2 :: .int u3 :: .int u4 :: .int u5 :: .ref fr :: .ref mr :: w))) (h_mr : M.1 mr = some (ro "ClassGate$Member" l R)) (h_a : M.1 a = some (ob 6 [.int m0, .int m1, .int m2, .int m3, .int m4, .int m5, .int m6, .int m7, .int m8, .int m9, mv])) (ht : ¬ t = 0) (hk : k < l) (hl : l < 65536) (hR : R k = .ref a) : pt (mT g) 15 [.ref o, .int t, .int (nI k), .int 9] M (fun v M' => (v = some (.int m9) ∧ M = M')) := by
  refine pt_in (b := mb_15 g) rfl (fun kf => ?_)
  show pl (mT g) kf (mb_15 g).2 (0, [(0, .ref o), (1, .int t), (2, .int (nI k)), (3, .int 9)], [], M) _
  refine ps_st (S' := (1, [(0, .ref o), (1, .int t), (2, .int (nI k)), (3, .int 9)], [.int 9], M)) rfl rfl rfl ?_
  refine ps_if (S1 := (10, [(0, .ref o), (1, .int t), (2, .int (nI k)), (3, .int 9)], [], M)) (S2 := (4, [(0, .ref o), (1, .int t), (2, .int (nI k)), (3, .int 9)], [], M)) rfl rfl rfl (fun c_1 => ?_) (fun c_1 => ?_)
  · exact absurd (of_decide_eq_true c_1) (by decide)
  refine ps_st (S' := (5, [(0, .ref o), (1, .int t), (2, .int (nI k)), (3, .int 9)], [.int 9], M)) rfl rfl rfl ?_
  refine ps_st (S' := (7, [(0, .ref o), (1, .int t), (2, .int (nI k)), (3, .int 9)], [.int 9, .int 9], M)) rfl rfl rfl ?_
  refine ps_if2 (S1 := (20, [(0, .ref o), (1, .int t), (2, .int (nI k)), (3, .int 9)], [], M)) (S2 := (10, [(0, .ref o), (1, .int t), (2, .int (nI k)), (3, .int 9)], [], M)) rfl rfl rfl (fun c_7 => ?_) (fun c_7 => ?_)
  rotate_left
  · exact absurd (by decide) (of_decide_eq_false c_7)
  refine ps_st (S' := (21, [(0, .ref o), (1, .int t), (2, .int (nI k)), (3, .int 9)], [.ref o], M)) rfl rfl rfl ?_
  refine ps_get (S' := (24, [(0, .ref o), (1, .int t), (2, .int (nI k)), (3, .int 9)], [.ref c], M)) rfl h_o rfl rfl ?_
  refine ps_st (S' := (31, [(0, .ref o), (1, .int t), (2, .int (nI k)), (3, .int 9)], [], M)) rfl rfl rfl ?_
  refine ps_st (S' := (32, [(0, .ref o), (1, .int t), (2, .int (nI k)), (3, .int 9)], [.ref o], M)) rfl rfl rfl ?_
  refine ps_get (S' := (35, [(0, .ref o), (1, .int t), (2, .int (nI k)), (3, .int 9)], [.ref c], M)) rfl h_o rfl rfl ?_
  refine ps_st (S' := (36, [(0, .ref o), (1, .int t), (2, .int (nI k)), (3, .int 9)], [.int t, .ref c], M)) rfl rfl rfl ?_
  refine ps_st (S' := (37, [(0, .ref o), (1, .int t), (2, .int (nI k)), (3, .int 9)], [.int (nI k), .int t, .ref c], M)) rfl rfl rfl ?_
  refine pl_call (a := [.ref c, .int t, .int (nI k)]) (rest := []) rfl rfl rfl (dk_memberAtM (c := c) (b := b) (q := q) (fr := fr) (mr := mr) (l := l) (u2 := u2) (u3 := u3) (u4 := u4) (u5 := u5) (w := w) (R := R) (t := t) (k := k) (a := a) h_c h_mr (ht) (hk) (hl) (hR)) (fun v1 M2 q3 => ?_)
  obtain ⟨rfl, rfl⟩ := q3
  show pl _ _ _ (40, [(1, .int t), (3, .int 9)], [.ref a], M) _
  refine ps_st (S' := (42, [(4, .ref a), (1, .int t), (3, .int 9)], [], M)) rfl rfl rfl ?_
  refine ps_st (S' := (44, [(4, .ref a), (1, .int t), (3, .int 9)], [.ref a], M)) rfl rfl rfl ?_
  refine ps_st (S' := (51, [(4, .ref a), (1, .int t), (3, .int 9)], [], M)) rfl rfl rfl ?_
  refine ps_st (S' := (53, [(4, .ref a), (1, .int t), (3, .int 9)], [.ref a], M)) rfl rfl rfl ?_
  refine ps_st (S' := (54, [(4, .ref a), (1, .int t), (3, .int 9)], [.int t, .ref a], M)) rfl rfl rfl ?_
  refine ps_st (S' := (55, [(4, .ref a), (1, .int t), (3, .int 9)], [.int 9, .int t, .ref a], M)) rfl rfl rfl ?_
  refine pl_call (a := [.ref a, .int t, .int 9]) (rest := []) rfl rfl rfl (dk_mnumM9 (a := a) (t := t) (m0 := m0) (m1 := m1) (m2 := m2) (m3 := m3) (m4 := m4) (m5 := m5) (m6 := m6) (m7 := m7) (m8 := m8) (m9 := m9) (mv := mv) h_a (ht)) (fun v4 M5 q6 => ?_)
  obtain ⟨rfl, rfl⟩ := q6
  show pl _ _ _ (58, [], [.int m9], M) _
  exact ps_reti rfl (⟨rfl, rfl⟩)
theorem dk_memberK {g : xe_G} {M : mi_H} {ko : Option (Nat × (Nat → Int32))} {kv : Value} {cm o fl : Nat} {cn wp t i x : Int32} (hx : M.1 o = some (ob 11 [.ref cm, .int cn, .ref fl, kv, .int wp])) (hK : KPC g ko kv cm M) (h0 : ¬ x < 0) (h1 : x ≤ 9) : pt (mT g) 15 [.ref o, .int t, .int i, .int x] M (fun v M' => v = some (.int (meK ko t i x)) ∧ M = M') := by
  cases ko with
  | none =>
    have e : kv = .null := hK
    subst e
    exact dk_member0k hx h0 h1
  | some r =>
    obtain ⟨c, da, rfl, ⟨b, q, N, E, p1, pF, pM, pA, w', k1, k2, k3, k4, k5, rfl, -, k7, fr, mr, G1, G2, _, _, bc, K, rfl, m1, m2, m3, m4, m5, m6, m7, m8, m9, m10⟩, -, -⟩ := hK
    rw [meK_is k5]
    have hb1 := mbs_len m4
    have hb2 := mbs_len m5
    obtain ⟨R1, r1, r3⟩ := m1.2.1
    obtain ⟨R2, r2, r4⟩ := m2.2.1
    by_cases ht : t = 0
    · rw [if_pos ht]
      unfold meI
      by_cases hi : i < 0 ∨ nI (mbs r.2 r.1 (by2 r.2 pF) (pF + 2)).length ≤ i
      · rw [if_pos hi]
        exact dk_memberNF hx k1 r1 h0 h1 ht hi
      · rw [if_neg hi]
        obtain ⟨ei, li⟩ := i32_in hb1 hi
        obtain ⟨k, ek⟩ : ∃ k, k = i.toNatClampNeg := ⟨_, rfl⟩
        rw [← ek] at ei li ⊢
        subst ei
        obtain ⟨ew, hw⟩ := i32_10 h0 h1
        obtain ⟨j, ej⟩ : ∃ j, j = x.toNatClampNeg := ⟨_, rfl⟩
        rw [← ej] at ew hw ⊢
        subst ew
        have hc := (m9 k li li).2
        have hr := r3 k li
        rcases (show j = 0 ∨ j = 1 ∨ j = 2 ∨ j = 3 ∨ j = 4 ∨ j = 5 ∨ j = 6 ∨ j = 7 ∨ j = 8 ∨ j = 9 by omega) with rfl | rfl | rfl | rfl | rfl | rfl | rfl | rfl | rfl | rfl
        · exact dk_memberF0 hx k1 r1 hc ht li hb1 hr
        · exact dk_memberF1 hx k1 r1 hc ht li hb1 hr
        · exact dk_memberF2 hx k1 r1 hc ht li hb1 hr
        · exact dk_memberF3 hx k1 r1 hc ht li hb1 hr
        · exact dk_memberF4 hx k1 r1 hc ht li hb1 hr
        · exact dk_memberF5 hx k1 r1 hc ht li hb1 hr
        · exact dk_memberF6 hx k1 r1 hc ht li hb1 hr
        · exact dk_memberF7 hx k1 r1 hc ht li hb1 hr
        · exact dk_memberF8 hx k1 r1 hc ht li hb1 hr
        · exact dk_memberF9 hx k1 r1 hc ht li hb1 hr
    · rw [if_neg ht]
      unfold meI
      by_cases hi : i < 0 ∨ nI (mbs r.2 r.1 (by2 r.2 pM) (pM + 2)).length ≤ i
      · rw [if_pos hi]
        exact dk_memberNM hx k1 r2 h0 h1 ht hi
      · rw [if_neg hi]
        obtain ⟨ei, li⟩ := i32_in hb2 hi
        obtain ⟨k, ek⟩ : ∃ k, k = i.toNatClampNeg := ⟨_, rfl⟩
        rw [← ek] at ei li ⊢
        subst ei
        obtain ⟨ew, hw⟩ := i32_10 h0 h1
        obtain ⟨j, ej⟩ : ∃ j, j = x.toNatClampNeg := ⟨_, rfl⟩
        rw [← ej] at ew hw ⊢
        subst ew
        obtain ⟨-, v, hc, hcd⟩ := m10 k li
        have hr := r4 k li
        rcases hcd with ⟨hp, rfl⟩ | ⟨hp, zz, w8, w9, w10, rfl, hzl, hzc⟩
        · rcases (show j = 0 ∨ j = 1 ∨ j = 2 ∨ j = 3 ∨ j = 4 ∨ j = 5 ∨ j = 6 ∨ j = 7 ∨ j = 8 ∨ j = 9 by omega) with rfl | rfl | rfl | rfl | rfl | rfl | rfl | rfl | rfl | rfl
          · exact dk_memberM0 hx k1 r2 hc ht li hb2 hr
          · exact dk_memberM1 hx k1 r2 hc ht li hb2 hr
          · exact dk_memberM2 hx k1 r2 hc ht li hb2 hr
          · exact dk_memberM3 hx k1 r2 hc ht li hb2 hr
          · rw [meM_4N hp]
            exact dk_memberM4N hx k1 r2 hc ht li hb2 hr
          · rw [meM_5N hp]
            exact dk_memberM5N hx k1 r2 hc ht li hb2 hr
          · rw [meM_6N hp]
            exact dk_memberM6N hx k1 r2 hc ht li hb2 hr
          · rw [meM_7N hp]
            exact dk_memberM7N hx k1 r2 hc ht li hb2 hr
          · exact dk_memberM8 hx k1 r2 hc ht li hb2 hr
          · exact dk_memberM9 hx k1 r2 hc ht li hb2 hr
        · rcases (show j = 0 ∨ j = 1 ∨ j = 2 ∨ j = 3 ∨ j = 4 ∨ j = 5 ∨ j = 6 ∨ j = 7 ∨ j = 8 ∨ j = 9 by omega) with rfl | rfl | rfl | rfl | rfl | rfl | rfl | rfl | rfl | rfl
          · exact dk_memberM0 hx k1 r2 hc ht li hb2 hr
          · exact dk_memberM1 hx k1 r2 hc ht li hb2 hr
          · exact dk_memberM2 hx k1 r2 hc ht li hb2 hr
          · exact dk_memberM3 hx k1 r2 hc ht li hb2 hr
          · rw [meM_4C hp]
            exact dk_memberM4C hx k1 r2 hc hzc ht li hb2 hr
          · rw [meM_5C hp]
            exact dk_memberM5C hx k1 r2 hc hzc ht li hb2 hr
          · rw [meM_6C hp]
            exact dk_memberM6C hx k1 r2 hc hzc ht li hb2 hr
          · rw [meM_7C hp]
            exact dk_memberM7C hx k1 r2 hc hzc ht li hb2 hr
          · exact dk_memberM8 hx k1 r2 hc ht li hb2 hr
          · exact dk_memberM9 hx k1 r2 hc ht li hb2 hr
set_option maxHeartbeats 1000000 in
theorem dk_codeOf0 {g : xe_G} {M : mi_H} {o ca fl : Nat} {cn wp m : Int32} (h_o : M.1 o = some (ob 11 [.ref ca, .int cn, .ref fl, .null, .int wp]))  : pt (mT g) 4 [.ref o, .int m] M (fun v M' => (v = some (.null) ∧ M = M')) := by
  refine pt_in (b := mb_4 g) rfl (fun kf => ?_)
  show pl (mT g) kf (mb_4 g).2 (0, [(0, .ref o), (1, .int m)], [], M) _
  refine ps_st (S' := (1, [(0, .ref o), (1, .int m)], [.ref o], M)) rfl rfl rfl ?_
  refine ps_get (S' := (4, [(0, .ref o), (1, .int m)], [.null], M)) rfl h_o rfl rfl ?_
  refine ps_st (S' := (7, [(0, .ref o), (1, .int m)], [], M)) rfl rfl rfl ?_
  refine ps_st (S' := (8, [(0, .ref o), (1, .int m)], [.null], M)) rfl rfl rfl ?_
  refine ps_st (S' := (20, [], [.null], M)) rfl rfl rfl ?_
  refine ps_st (S' := (21, [(2, .null)], [], M)) rfl rfl rfl ?_
  refine ps_st (S' := (22, [(2, .null)], [.null], M)) rfl rfl rfl ?_
  refine ps_st (S' := (25, [(2, .null)], [], M)) rfl rfl rfl ?_
  refine ps_st (S' := (26, [(2, .null)], [.null], M)) rfl rfl rfl ?_
  refine ps_st (S' := (33, [], [.null], M)) rfl rfl rfl ?_
  exact ps_ret rfl rfl (⟨rfl, rfl⟩)
set_option maxHeartbeats 1000000 in
theorem dk_codeOfN {g : xe_G} {M : mi_H} {o ca fl : Nat} {cn wp : Int32} {c b q fr mr l : Nat} {u2 u3 u4 u5 : Int32} {w : List Value} {R : Nat → Value} {m : Int32} (h_o : M.1 o = some (ob 11 [.ref ca, .int cn, .ref fl, .ref c, .int wp])) (h_c : M.1 c = some (ob 3 (.ref b :: .ref q :: .int u2 :: .int u3 :: .int u4 :: .int u5 :: .ref fr :: .ref mr :: w))) (h_mr : M.1 mr = some (ro "ClassGate$Member" l R)) (hi : m < 0 ∨ nI l ≤ m) : pt (mT g) 4 [.ref o, .int m] M (fun v M' => (v = some (.null) ∧ M = M')) := by
  refine pt_in (b := mb_4 g) rfl (fun kf => ?_)
  show pl (mT g) kf (mb_4 g).2 (0, [(0, .ref o), (1, .int m)], [], M) _
  refine ps_st (S' := (1, [(0, .ref o), (1, .int m)], [.ref o], M)) rfl rfl rfl ?_
  refine ps_get (S' := (4, [(0, .ref o), (1, .int m)], [.ref c], M)) rfl h_o rfl rfl ?_
  refine ps_st (S' := (11, [(0, .ref o), (1, .int m)], [], M)) rfl rfl rfl ?_
  refine ps_st (S' := (12, [(0, .ref o), (1, .int m)], [.ref o], M)) rfl rfl rfl ?_
  refine ps_get (S' := (15, [(0, .ref o), (1, .int m)], [.ref c], M)) rfl h_o rfl rfl ?_
  refine ps_st (S' := (16, [(0, .ref o), (1, .int m)], [.int 1, .ref c], M)) rfl rfl rfl ?_
  refine ps_st (S' := (17, [(0, .ref o), (1, .int m)], [.int m, .int 1, .ref c], M)) rfl rfl rfl ?_
  refine pl_call (a := [.ref c, .int 1, .int m]) (rest := []) rfl rfl rfl (dk_memberAtNM (c := c) (b := b) (q := q) (fr := fr) (mr := mr) (l := l) (u2 := u2) (u3 := u3) (u4 := u4) (u5 := u5) (w := w) (R := R) (t := 1) (i := m) h_c h_mr (by decide) (hi)) (fun v1 M2 q3 => ?_)
  obtain ⟨rfl, rfl⟩ := q3
  show pl _ _ _ (20, [], [.null], M) _
  refine ps_st (S' := (21, [(2, .null)], [], M)) rfl rfl rfl ?_
  refine ps_st (S' := (22, [(2, .null)], [.null], M)) rfl rfl rfl ?_
  refine ps_st (S' := (25, [(2, .null)], [], M)) rfl rfl rfl ?_
  refine ps_st (S' := (26, [(2, .null)], [.null], M)) rfl rfl rfl ?_
  refine ps_st (S' := (33, [], [.null], M)) rfl rfl rfl ?_
  exact ps_ret rfl rfl (⟨rfl, rfl⟩)
set_option maxHeartbeats 1000000 in
theorem dk_codeOfB {g : xe_G} {M : mi_H} {o ca fl : Nat} {cn wp : Int32} {c b q fr mr l : Nat} {u2 u3 u4 u5 : Int32} {w : List Value} {R : Nat → Value} {a : Nat} {m0 m1 m2 m3 m4 m5 m6 m7 m8 m9 : Int32} {k : Nat} (h_o : M.1 o = some (ob 11 [.ref ca, .int cn, .ref fl, .ref c, .int wp])) (h_c : M.1 c = some (ob 3 (.ref b :: .ref q :: .int u2 :: .int u3 :: .int u4 :: .int u5 :: .ref fr :: .ref mr :: w))) (h_mr : M.1 mr = some (ro "ClassGate$Member" l R)) (h_a : M.1 a = some (ob 6 [.int m0, .int m1, .int m2, .int m3, .int m4, .int m5, .int m6, .int m7, .int m8, .int m9, .null])) (hk : k < l) (hl : l < 65536) (hR : R k = .ref a) : pt (mT g) 4 [.ref o, .int (nI k)] M (fun v M' => (v = some (.null) ∧ M = M')) := by
  refine pt_in (b := mb_4 g) rfl (fun kf => ?_)
  show pl (mT g) kf (mb_4 g).2 (0, [(0, .ref o), (1, .int (nI k))], [], M) _
  refine ps_st (S' := (1, [(0, .ref o), (1, .int (nI k))], [.ref o], M)) rfl rfl rfl ?_
  refine ps_get (S' := (4, [(0, .ref o), (1, .int (nI k))], [.ref c], M)) rfl h_o rfl rfl ?_
  refine ps_st (S' := (11, [(0, .ref o), (1, .int (nI k))], [], M)) rfl rfl rfl ?_
  refine ps_st (S' := (12, [(0, .ref o), (1, .int (nI k))], [.ref o], M)) rfl rfl rfl ?_
  refine ps_get (S' := (15, [(0, .ref o), (1, .int (nI k))], [.ref c], M)) rfl h_o rfl rfl ?_
  refine ps_st (S' := (16, [(0, .ref o), (1, .int (nI k))], [.int 1, .ref c], M)) rfl rfl rfl ?_
  refine ps_st (S' := (17, [(0, .ref o), (1, .int (nI k))], [.int (nI k), .int 1, .ref c], M)) rfl rfl rfl ?_
  refine pl_call (a := [.ref c, .int 1, .int (nI k)]) (rest := []) rfl rfl rfl (dk_memberAtM (c := c) (b := b) (q := q) (fr := fr) (mr := mr) (l := l) (u2 := u2) (u3 := u3) (u4 := u4) (u5 := u5) (w := w) (R := R) (t := 1) (k := k) (a := a) h_c h_mr (by decide) (hk) (hl) (hR)) (fun v1 M2 q3 => ?_)
  obtain ⟨rfl, rfl⟩ := q3
  show pl _ _ _ (20, [], [.ref a], M) _
  refine ps_st (S' := (21, [(2, .ref a)], [], M)) rfl rfl rfl ?_
  refine ps_st (S' := (22, [(2, .ref a)], [.ref a], M)) rfl rfl rfl ?_
  refine ps_st (S' := (29, [(2, .ref a)], [], M)) rfl rfl rfl ?_
  refine ps_st (S' := (30, [(2, .ref a)], [.ref a], M)) rfl rfl rfl ?_
  refine ps_get (S' := (33, [], [.null], M)) rfl h_a rfl rfl ?_
  exact ps_ret rfl rfl (⟨rfl, rfl⟩)
set_option maxHeartbeats 1000000 in
theorem dk_codeOfC {g : xe_G} {M : mi_H} {o ca fl : Nat} {cn wp : Int32} {c b q fr mr l : Nat} {u2 u3 u4 u5 : Int32} {w : List Value} {R : Nat → Value} {a : Nat} {m0 m1 m2 m3 m4 m5 m6 m7 m8 m9 : Int32} {k : Nat} {z : Nat} (h_o : M.1 o = some (ob 11 [.ref ca, .int cn, .ref fl, .ref c, .int wp])) (h_c : M.1 c = some (ob 3 (.ref b :: .ref q :: .int u2 :: .int u3 :: .int u4 :: .int u5 :: .ref fr :: .ref mr :: w))) (h_mr : M.1 mr = some (ro "ClassGate$Member" l R)) (h_a : M.1 a = some (ob 6 [.int m0, .int m1, .int m2, .int m3, .int m4, .int m5, .int m6, .int m7, .int m8, .int m9, .ref z])) (hk : k < l) (hl : l < 65536) (hR : R k = .ref a) : pt (mT g) 4 [.ref o, .int (nI k)] M (fun v M' => (v = some (.ref z) ∧ M = M')) := by
  refine pt_in (b := mb_4 g) rfl (fun kf => ?_)
  show pl (mT g) kf (mb_4 g).2 (0, [(0, .ref o), (1, .int (nI k))], [], M) _
  refine ps_st (S' := (1, [(0, .ref o), (1, .int (nI k))], [.ref o], M)) rfl rfl rfl ?_
  refine ps_get (S' := (4, [(0, .ref o), (1, .int (nI k))], [.ref c], M)) rfl h_o rfl rfl ?_
  refine ps_st (S' := (11, [(0, .ref o), (1, .int (nI k))], [], M)) rfl rfl rfl ?_
  refine ps_st (S' := (12, [(0, .ref o), (1, .int (nI k))], [.ref o], M)) rfl rfl rfl ?_
  refine ps_get (S' := (15, [(0, .ref o), (1, .int (nI k))], [.ref c], M)) rfl h_o rfl rfl ?_
  refine ps_st (S' := (16, [(0, .ref o), (1, .int (nI k))], [.int 1, .ref c], M)) rfl rfl rfl ?_
  refine ps_st (S' := (17, [(0, .ref o), (1, .int (nI k))], [.int (nI k), .int 1, .ref c], M)) rfl rfl rfl ?_
  refine pl_call (a := [.ref c, .int 1, .int (nI k)]) (rest := []) rfl rfl rfl (dk_memberAtM (c := c) (b := b) (q := q) (fr := fr) (mr := mr) (l := l) (u2 := u2) (u3 := u3) (u4 := u4) (u5 := u5) (w := w) (R := R) (t := 1) (k := k) (a := a) h_c h_mr (by decide) (hk) (hl) (hR)) (fun v1 M2 q3 => ?_)
  obtain ⟨rfl, rfl⟩ := q3
  show pl _ _ _ (20, [], [.ref a], M) _
  refine ps_st (S' := (21, [(2, .ref a)], [], M)) rfl rfl rfl ?_
  refine ps_st (S' := (22, [(2, .ref a)], [.ref a], M)) rfl rfl rfl ?_
  refine ps_st (S' := (29, [(2, .ref a)], [], M)) rfl rfl rfl ?_
  refine ps_st (S' := (30, [(2, .ref a)], [.ref a], M)) rfl rfl rfl ?_
  refine ps_get (S' := (33, [], [.ref z], M)) rfl h_a rfl rfl ?_
  exact ps_ret rfl rfl (⟨rfl, rfl⟩)
set_option maxHeartbeats 1000000 in
theorem dk_row0 {g : xe_G} {M : mi_H} {o ca fl : Nat} {cn wp m r x : Int32} (h_o : M.1 o = some (ob 11 [.ref ca, .int cn, .ref fl, .null, .int wp])) (h0 : ¬ x < 0) (h1 : x ≤ 3) : pt (mT g) 19 [.ref o, .int m, .int r, .int x] M (fun v M' => (v = some (.int (-1)) ∧ M = M')) := by
  refine pt_in (b := mb_19 g) rfl (fun kf => ?_)
  show pl (mT g) kf (mb_19 g).2 (0, [(0, .ref o), (1, .int m), (2, .int r), (3, .int x)], [], M) _
  refine ps_st (S' := (1, [(0, .ref o), (1, .int m), (2, .int r), (3, .int x)], [.int x], M)) rfl rfl rfl ?_
  refine ps_if (S1 := (9, [(0, .ref o), (1, .int m), (2, .int r), (3, .int x)], [], M)) (S2 := (4, [(0, .ref o), (1, .int m), (2, .int r), (3, .int x)], [], M)) rfl rfl rfl (fun c_1 => ?_) (fun c_1 => ?_)
  · exact absurd (of_decide_eq_true c_1) (h0)
  refine ps_st (S' := (5, [(0, .ref o), (1, .int m), (2, .int r), (3, .int x)], [.int x], M)) rfl rfl rfl ?_
  refine ps_st (S' := (6, [(0, .ref o), (1, .int m), (2, .int r), (3, .int x)], [.int 3, .int x], M)) rfl rfl rfl ?_
  refine ps_if2 (S1 := (19, [(0, .ref o), (1, .int m), (2, .int r), (3, .int x)], [], M)) (S2 := (9, [(0, .ref o), (1, .int m), (2, .int r), (3, .int x)], [], M)) rfl rfl rfl (fun c_6 => ?_) (fun c_6 => ?_)
  rotate_left
  · exact absurd (h1) (of_decide_eq_false c_6)
  refine ps_st (S' := (20, [(0, .ref o), (1, .int m), (2, .int r), (3, .int x)], [.ref o], M)) rfl rfl rfl ?_
  refine ps_st (S' := (21, [(0, .ref o), (1, .int m), (2, .int r), (3, .int x)], [.int m, .ref o], M)) rfl rfl rfl ?_
  refine pl_call (a := [.ref o, .int m]) (rest := []) rfl rfl rfl (dk_codeOf0 (o := o) (ca := ca) (fl := fl) (cn := cn) (wp := wp) (m := m) h_o) (fun v1 M2 q3 => ?_)
  obtain ⟨rfl, rfl⟩ := q3
  show pl _ _ _ (24, [(0, .ref o), (1, .int m), (2, .int r), (3, .int x)], [.null], M) _
  refine ps_st (S' := (26, [(4, .null), (0, .ref o), (1, .int m), (2, .int r), (3, .int x)], [], M)) rfl rfl rfl ?_
  refine ps_st (S' := (28, [(4, .null), (0, .ref o), (1, .int m), (2, .int r), (3, .int x)], [.null], M)) rfl rfl rfl ?_
  refine ps_st (S' := (44, [], [], M)) rfl rfl rfl ?_
  refine ps_st (S' := (45, [], [.int (-1)], M)) rfl rfl rfl ?_
  exact ps_ret rfl rfl (⟨rfl, rfl⟩)
set_option maxHeartbeats 1000000 in
theorem dk_rowN {g : xe_G} {M : mi_H} {o ca fl : Nat} {cn wp : Int32} {c b q fr mr l : Nat} {u2 u3 u4 u5 : Int32} {w : List Value} {R : Nat → Value} {m r x : Int32} (h_o : M.1 o = some (ob 11 [.ref ca, .int cn, .ref fl, .ref c, .int wp])) (h_c : M.1 c = some (ob 3 (.ref b :: .ref q :: .int u2 :: .int u3 :: .int u4 :: .int u5 :: .ref fr :: .ref mr :: w))) (h_mr : M.1 mr = some (ro "ClassGate$Member" l R)) (h0 : ¬ x < 0) (h1 : x ≤ 3) (hi : m < 0 ∨ nI l ≤ m) : pt (mT g) 19 [.ref o, .int m, .int r, .int x] M (fun v M' => (v = some (.int (-1)) ∧ M = M')) := by
  refine pt_in (b := mb_19 g) rfl (fun kf => ?_)
  show pl (mT g) kf (mb_19 g).2 (0, [(0, .ref o), (1, .int m), (2, .int r), (3, .int x)], [], M) _
  refine ps_st (S' := (1, [(0, .ref o), (1, .int m), (2, .int r), (3, .int x)], [.int x], M)) rfl rfl rfl ?_
  refine ps_if (S1 := (9, [(0, .ref o), (1, .int m), (2, .int r), (3, .int x)], [], M)) (S2 := (4, [(0, .ref o), (1, .int m), (2, .int r), (3, .int x)], [], M)) rfl rfl rfl (fun c_1 => ?_) (fun c_1 => ?_)
  · exact absurd (of_decide_eq_true c_1) (h0)
  refine ps_st (S' := (5, [(0, .ref o), (1, .int m), (2, .int r), (3, .int x)], [.int x], M)) rfl rfl rfl ?_
  refine ps_st (S' := (6, [(0, .ref o), (1, .int m), (2, .int r), (3, .int x)], [.int 3, .int x], M)) rfl rfl rfl ?_
  refine ps_if2 (S1 := (19, [(0, .ref o), (1, .int m), (2, .int r), (3, .int x)], [], M)) (S2 := (9, [(0, .ref o), (1, .int m), (2, .int r), (3, .int x)], [], M)) rfl rfl rfl (fun c_6 => ?_) (fun c_6 => ?_)
  rotate_left
  · exact absurd (h1) (of_decide_eq_false c_6)
  refine ps_st (S' := (20, [(0, .ref o), (1, .int m), (2, .int r), (3, .int x)], [.ref o], M)) rfl rfl rfl ?_
  refine ps_st (S' := (21, [(0, .ref o), (1, .int m), (2, .int r), (3, .int x)], [.int m, .ref o], M)) rfl rfl rfl ?_
  refine pl_call (a := [.ref o, .int m]) (rest := []) rfl rfl rfl (dk_codeOfN (o := o) (ca := ca) (fl := fl) (cn := cn) (wp := wp) (c := c) (b := b) (q := q) (fr := fr) (mr := mr) (l := l) (u2 := u2) (u3 := u3) (u4 := u4) (u5 := u5) (w := w) (R := R) (m := m) h_o h_c h_mr (hi)) (fun v1 M2 q3 => ?_)
  obtain ⟨rfl, rfl⟩ := q3
  show pl _ _ _ (24, [(0, .ref o), (1, .int m), (2, .int r), (3, .int x)], [.null], M) _
  refine ps_st (S' := (26, [(4, .null), (0, .ref o), (1, .int m), (2, .int r), (3, .int x)], [], M)) rfl rfl rfl ?_
  refine ps_st (S' := (28, [(4, .null), (0, .ref o), (1, .int m), (2, .int r), (3, .int x)], [.null], M)) rfl rfl rfl ?_
  refine ps_st (S' := (44, [], [], M)) rfl rfl rfl ?_
  refine ps_st (S' := (45, [], [.int (-1)], M)) rfl rfl rfl ?_
  exact ps_ret rfl rfl (⟨rfl, rfl⟩)
set_option maxHeartbeats 1000000 in
theorem dk_rowB {g : xe_G} {M : mi_H} {o ca fl : Nat} {cn wp : Int32} {c b q fr mr l : Nat} {u2 u3 u4 u5 : Int32} {w : List Value} {R : Nat → Value} {a : Nat} {m0 m1 m2 m3 m4 m5 m6 m7 m8 m9 : Int32} {k : Nat} {r x : Int32} (h_o : M.1 o = some (ob 11 [.ref ca, .int cn, .ref fl, .ref c, .int wp])) (h_c : M.1 c = some (ob 3 (.ref b :: .ref q :: .int u2 :: .int u3 :: .int u4 :: .int u5 :: .ref fr :: .ref mr :: w))) (h_mr : M.1 mr = some (ro "ClassGate$Member" l R)) (h_a : M.1 a = some (ob 6 [.int m0, .int m1, .int m2, .int m3, .int m4, .int m5, .int m6, .int m7, .int m8, .int m9, .null])) (h0 : ¬ x < 0) (h1 : x ≤ 3) (hk : k < l) (hl : l < 65536) (hR : R k = .ref a) : pt (mT g) 19 [.ref o, .int (nI k), .int r, .int x] M (fun v M' => (v = some (.int (-1)) ∧ M = M')) := by
  refine pt_in (b := mb_19 g) rfl (fun kf => ?_)
  show pl (mT g) kf (mb_19 g).2 (0, [(0, .ref o), (1, .int (nI k)), (2, .int r), (3, .int x)], [], M) _
  refine ps_st (S' := (1, [(0, .ref o), (1, .int (nI k)), (2, .int r), (3, .int x)], [.int x], M)) rfl rfl rfl ?_
  refine ps_if (S1 := (9, [(0, .ref o), (1, .int (nI k)), (2, .int r), (3, .int x)], [], M)) (S2 := (4, [(0, .ref o), (1, .int (nI k)), (2, .int r), (3, .int x)], [], M)) rfl rfl rfl (fun c_1 => ?_) (fun c_1 => ?_)
  · exact absurd (of_decide_eq_true c_1) (h0)
  refine ps_st (S' := (5, [(0, .ref o), (1, .int (nI k)), (2, .int r), (3, .int x)], [.int x], M)) rfl rfl rfl ?_
  refine ps_st (S' := (6, [(0, .ref o), (1, .int (nI k)), (2, .int r), (3, .int x)], [.int 3, .int x], M)) rfl rfl rfl ?_
  refine ps_if2 (S1 := (19, [(0, .ref o), (1, .int (nI k)), (2, .int r), (3, .int x)], [], M)) (S2 := (9, [(0, .ref o), (1, .int (nI k)), (2, .int r), (3, .int x)], [], M)) rfl rfl rfl (fun c_6 => ?_) (fun c_6 => ?_)
  rotate_left
  · exact absurd (h1) (of_decide_eq_false c_6)
  refine ps_st (S' := (20, [(0, .ref o), (1, .int (nI k)), (2, .int r), (3, .int x)], [.ref o], M)) rfl rfl rfl ?_
  refine ps_st (S' := (21, [(0, .ref o), (1, .int (nI k)), (2, .int r), (3, .int x)], [.int (nI k), .ref o], M)) rfl rfl rfl ?_
  refine pl_call (a := [.ref o, .int (nI k)]) (rest := []) rfl rfl rfl (dk_codeOfB (o := o) (ca := ca) (fl := fl) (cn := cn) (wp := wp) (c := c) (b := b) (q := q) (fr := fr) (mr := mr) (l := l) (u2 := u2) (u3 := u3) (u4 := u4) (u5 := u5) (w := w) (R := R) (a := a) (m0 := m0) (m1 := m1) (m2 := m2) (m3 := m3) (m4 := m4) (m5 := m5) (m6 := m6) (m7 := m7) (m8 := m8) (m9 := m9) (k := k) h_o h_c h_mr h_a (hk) (hl) (hR)) (fun v1 M2 q3 => ?_)
  obtain ⟨rfl, rfl⟩ := q3
  show pl _ _ _ (24, [(0, .ref o), (1, .int (nI k)), (2, .int r), (3, .int x)], [.null], M) _
  refine ps_st (S' := (26, [(4, .null), (0, .ref o), (1, .int (nI k)), (2, .int r), (3, .int x)], [], M)) rfl rfl rfl ?_
  refine ps_st (S' := (28, [(4, .null), (0, .ref o), (1, .int (nI k)), (2, .int r), (3, .int x)], [.null], M)) rfl rfl rfl ?_
  refine ps_st (S' := (44, [], [], M)) rfl rfl rfl ?_
  refine ps_st (S' := (45, [], [.int (-1)], M)) rfl rfl rfl ?_
  exact ps_ret rfl rfl (⟨rfl, rfl⟩)
set_option maxHeartbeats 1000000 in
theorem dk_rowR {g : xe_G} {M : mi_H} {o ca fl : Nat} {cn wp : Int32} {c b q fr mr l : Nat} {u2 u3 u4 u5 : Int32} {w : List Value} {R : Nat → Value} {a : Nat} {m0 m1 m2 m3 m4 m5 m6 m7 m8 m9 : Int32} {z ra rc : Nat} {c0 c1 c2 : Int32} {v5 v6 v7 v8 v9 v10 : Value} {k : Nat} {r x : Int32} (h_o : M.1 o = some (ob 11 [.ref ca, .int cn, .ref fl, .ref c, .int wp])) (h_c : M.1 c = some (ob 3 (.ref b :: .ref q :: .int u2 :: .int u3 :: .int u4 :: .int u5 :: .ref fr :: .ref mr :: w))) (h_mr : M.1 mr = some (ro "ClassGate$Member" l R)) (h_a : M.1 a = some (ob 6 [.int m0, .int m1, .int m2, .int m3, .int m4, .int m5, .int m6, .int m7, .int m8, .int m9, .ref z])) (h_z : M.1 z = some (ob 4 [.int c0, .int c1, .int c2, .int (nI ra), .int (nI rc), v5, v6, v7, v8, v9, v10])) (h0 : ¬ x < 0) (h1 : x ≤ 3) (hk : k < l) (hl : l < 65536) (hR : R k = .ref a) (hr : r < 0 ∨ nI rc ≤ r) : pt (mT g) 19 [.ref o, .int (nI k), .int r, .int x] M (fun v M' => (v = some (.int (-1)) ∧ M = M')) := by
  refine pt_in (b := mb_19 g) rfl (fun kf => ?_)
  show pl (mT g) kf (mb_19 g).2 (0, [(0, .ref o), (1, .int (nI k)), (2, .int r), (3, .int x)], [], M) _
  refine ps_st (S' := (1, [(0, .ref o), (1, .int (nI k)), (2, .int r), (3, .int x)], [.int x], M)) rfl rfl rfl ?_
  refine ps_if (S1 := (9, [(0, .ref o), (1, .int (nI k)), (2, .int r), (3, .int x)], [], M)) (S2 := (4, [(0, .ref o), (1, .int (nI k)), (2, .int r), (3, .int x)], [], M)) rfl rfl rfl (fun c_1 => ?_) (fun c_1 => ?_)
  · exact absurd (of_decide_eq_true c_1) (h0)
  refine ps_st (S' := (5, [(0, .ref o), (1, .int (nI k)), (2, .int r), (3, .int x)], [.int x], M)) rfl rfl rfl ?_
  refine ps_st (S' := (6, [(0, .ref o), (1, .int (nI k)), (2, .int r), (3, .int x)], [.int 3, .int x], M)) rfl rfl rfl ?_
  refine ps_if2 (S1 := (19, [(0, .ref o), (1, .int (nI k)), (2, .int r), (3, .int x)], [], M)) (S2 := (9, [(0, .ref o), (1, .int (nI k)), (2, .int r), (3, .int x)], [], M)) rfl rfl rfl (fun c_6 => ?_) (fun c_6 => ?_)
  rotate_left
  · exact absurd (h1) (of_decide_eq_false c_6)
  refine ps_st (S' := (20, [(0, .ref o), (1, .int (nI k)), (2, .int r), (3, .int x)], [.ref o], M)) rfl rfl rfl ?_
  refine ps_st (S' := (21, [(0, .ref o), (1, .int (nI k)), (2, .int r), (3, .int x)], [.int (nI k), .ref o], M)) rfl rfl rfl ?_
  refine pl_call (a := [.ref o, .int (nI k)]) (rest := []) rfl rfl rfl (dk_codeOfC (o := o) (ca := ca) (fl := fl) (cn := cn) (wp := wp) (c := c) (b := b) (q := q) (fr := fr) (mr := mr) (l := l) (u2 := u2) (u3 := u3) (u4 := u4) (u5 := u5) (w := w) (R := R) (a := a) (m0 := m0) (m1 := m1) (m2 := m2) (m3 := m3) (m4 := m4) (m5 := m5) (m6 := m6) (m7 := m7) (m8 := m8) (m9 := m9) (k := k) (z := z) h_o h_c h_mr h_a (hk) (hl) (hR)) (fun v1 M2 q3 => ?_)
  obtain ⟨rfl, rfl⟩ := q3
  show pl _ _ _ (24, [(0, .ref o), (1, .int (nI k)), (2, .int r), (3, .int x)], [.ref z], M) _
  refine ps_st (S' := (26, [(4, .ref z), (0, .ref o), (1, .int (nI k)), (2, .int r), (3, .int x)], [], M)) rfl rfl rfl ?_
  refine ps_st (S' := (28, [(4, .ref z), (0, .ref o), (1, .int (nI k)), (2, .int r), (3, .int x)], [.ref z], M)) rfl rfl rfl ?_
  refine ps_st (S' := (31, [(4, .ref z), (0, .ref o), (1, .int (nI k)), (2, .int r), (3, .int x)], [], M)) rfl rfl rfl ?_
  refine ps_st (S' := (32, [(4, .ref z), (0, .ref o), (1, .int (nI k)), (2, .int r), (3, .int x)], [.int r], M)) rfl rfl rfl ?_
  refine ps_if (S1 := (44, [], [], M)) (S2 := (35, [(4, .ref z), (0, .ref o), (1, .int (nI k)), (2, .int r), (3, .int x)], [], M)) rfl rfl rfl (fun c_32 => ?_) (fun c_32 => ?_)
  · have c_32 : r < 0 := of_decide_eq_true c_32
    refine ps_st (S' := (45, [], [.int (-1)], M)) rfl rfl rfl ?_
    exact ps_ret rfl rfl (⟨rfl, rfl⟩)
  · have c_32 : ¬ (r < 0) := of_decide_eq_false c_32
    refine ps_st (S' := (36, [(4, .ref z), (0, .ref o), (1, .int (nI k)), (2, .int r), (3, .int x)], [.int r], M)) rfl rfl rfl ?_
    refine ps_st (S' := (38, [(4, .ref z), (0, .ref o), (1, .int (nI k)), (2, .int r), (3, .int x)], [.ref z, .int r], M)) rfl rfl rfl ?_
    refine ps_get (S' := (41, [(4, .ref z), (0, .ref o), (1, .int (nI k)), (2, .int r), (3, .int x)], [.int (nI rc), .int r], M)) rfl h_z rfl rfl ?_
    refine ps_if2 (S1 := (46, [(4, .ref z), (0, .ref o), (1, .int (nI k)), (2, .int r), (3, .int x)], [], M)) (S2 := (44, [], [], M)) rfl rfl rfl (fun c_41 => ?_) (fun c_41 => ?_)
    · exact absurd (of_decide_eq_true c_41) (Int32.not_lt.mpr (hr.resolve_left c_32))
    refine ps_st (S' := (45, [], [.int (-1)], M)) rfl rfl rfl ?_
    exact ps_ret rfl rfl (⟨rfl, rfl⟩)
set_option maxHeartbeats 1000000 in
theorem dk_rowV {g : xe_G} {M : mi_H} {o ca fl : Nat} {cn wp : Int32} {c b q fr mr l : Nat} {u2 u3 u4 u5 : Int32} {w : List Value} {R : Nat → Value} {a : Nat} {m0 m1 m2 m3 m4 m5 m6 m7 m8 m9 : Int32} {z ra rc : Nat} {c0 c1 c2 : Int32} {v5 v6 v7 v8 v9 v10 : Value} {f : Nat → Int32} {n da k u x : Nat} (h_o : M.1 o = some (ob 11 [.ref ca, .int cn, .ref fl, .ref c, .int wp])) (h_c : M.1 c = some (ob 3 (.ref b :: .ref q :: .int u2 :: .int u3 :: .int u4 :: .int u5 :: .ref fr :: .ref mr :: w))) (h_mr : M.1 mr = some (ro "ClassGate$Member" l R)) (h_b : M.1 b = some (ob 1 [.ref da])) (h_da : M.1 da = some (ar .byte n f)) (h_a : M.1 a = some (ob 6 [.int m0, .int m1, .int m2, .int m3, .int m4, .int m5, .int m6, .int m7, .int m8, .int m9, .ref z])) (h_z : M.1 z = some (ob 4 [.int c0, .int c1, .int c2, .int (nI ra), .int (nI rc), v5, v6, v7, v8, v9, v10])) (hx : x ≤ 3) (hn : n ≤ 65540) (hk : k < l) (hl : l < 65536) (hR : R k = .ref a) (hu : u < rc) (hrc : rc < 65536) (hin : ra + 8 * rc ≤ n) : pt (mT g) 19 [.ref o, .int (nI k), .int (nI u), .int (nI x)] M (fun v M' => (v = some (.int (nI (by2 f (ra + 8 * u + 2 * x)))) ∧ M = M')) := by
  refine pt_in (b := mb_19 g) rfl (fun kf => ?_)
  show pl (mT g) kf (mb_19 g).2 (0, [(0, .ref o), (1, .int (nI k)), (2, .int (nI u)), (3, .int (nI x))], [], M) _
  refine ps_st (S' := (1, [(0, .ref o), (1, .int (nI k)), (2, .int (nI u)), (3, .int (nI x))], [.int (nI x)], M)) rfl rfl rfl ?_
  refine ps_if (S1 := (9, [(0, .ref o), (1, .int (nI k)), (2, .int (nI u)), (3, .int (nI x))], [], M)) (S2 := (4, [(0, .ref o), (1, .int (nI k)), (2, .int (nI u)), (3, .int (nI x))], [], M)) rfl rfl rfl (fun c_1 => ?_) (fun c_1 => ?_)
  · exact absurd (of_decide_eq_true c_1) (nI_n0 (by omega))
  refine ps_st (S' := (5, [(0, .ref o), (1, .int (nI k)), (2, .int (nI u)), (3, .int (nI x))], [.int (nI x)], M)) rfl rfl rfl ?_
  refine ps_st (S' := (6, [(0, .ref o), (1, .int (nI k)), (2, .int (nI u)), (3, .int (nI x))], [.int 3, .int (nI x)], M)) rfl rfl rfl ?_
  refine ps_if2 (S1 := (19, [(0, .ref o), (1, .int (nI k)), (2, .int (nI u)), (3, .int (nI x))], [], M)) (S2 := (9, [(0, .ref o), (1, .int (nI k)), (2, .int (nI u)), (3, .int (nI x))], [], M)) rfl rfl rfl (fun c_6 => ?_) (fun c_6 => ?_)
  rotate_left
  · exact absurd ((le_nI (p := x) (n := 3) (by omega) (by decide)).mpr hx) (of_decide_eq_false c_6)
  refine ps_st (S' := (20, [(0, .ref o), (1, .int (nI k)), (2, .int (nI u)), (3, .int (nI x))], [.ref o], M)) rfl rfl rfl ?_
  refine ps_st (S' := (21, [(0, .ref o), (1, .int (nI k)), (2, .int (nI u)), (3, .int (nI x))], [.int (nI k), .ref o], M)) rfl rfl rfl ?_
  refine pl_call (a := [.ref o, .int (nI k)]) (rest := []) rfl rfl rfl (dk_codeOfC (o := o) (ca := ca) (fl := fl) (cn := cn) (wp := wp) (c := c) (b := b) (q := q) (fr := fr) (mr := mr) (l := l) (u2 := u2) (u3 := u3) (u4 := u4) (u5 := u5) (w := w) (R := R) (a := a) (m0 := m0) (m1 := m1) (m2 := m2) (m3 := m3) (m4 := m4) (m5 := m5) (m6 := m6) (m7 := m7) (m8 := m8) (m9 := m9) (k := k) (z := z) h_o h_c h_mr h_a (hk) (hl) (hR)) (fun v1 M2 q3 => ?_)
  obtain ⟨rfl, rfl⟩ := q3
  show pl _ _ _ (24, [(0, .ref o), (1, .int (nI k)), (2, .int (nI u)), (3, .int (nI x))], [.ref z], M) _
  refine ps_st (S' := (26, [(4, .ref z), (0, .ref o), (1, .int (nI k)), (2, .int (nI u)), (3, .int (nI x))], [], M)) rfl rfl rfl ?_
  refine ps_st (S' := (28, [(4, .ref z), (0, .ref o), (1, .int (nI k)), (2, .int (nI u)), (3, .int (nI x))], [.ref z], M)) rfl rfl rfl ?_
  refine ps_st (S' := (31, [(4, .ref z), (0, .ref o), (1, .int (nI k)), (2, .int (nI u)), (3, .int (nI x))], [], M)) rfl rfl rfl ?_
  refine ps_st (S' := (32, [(4, .ref z), (0, .ref o), (1, .int (nI k)), (2, .int (nI u)), (3, .int (nI x))], [.int (nI u)], M)) rfl rfl rfl ?_
  refine ps_if (S1 := (44, [], [], M)) (S2 := (35, [(4, .ref z), (0, .ref o), (1, .int (nI k)), (2, .int (nI u)), (3, .int (nI x))], [], M)) rfl rfl rfl (fun c_32 => ?_) (fun c_32 => ?_)
  · exact absurd (of_decide_eq_true c_32) (nI_n0 (by omega))
  refine ps_st (S' := (36, [(4, .ref z), (0, .ref o), (1, .int (nI k)), (2, .int (nI u)), (3, .int (nI x))], [.int (nI u)], M)) rfl rfl rfl ?_
  refine ps_st (S' := (38, [(4, .ref z), (0, .ref o), (1, .int (nI k)), (2, .int (nI u)), (3, .int (nI x))], [.ref z, .int (nI u)], M)) rfl rfl rfl ?_
  refine ps_get (S' := (41, [(4, .ref z), (0, .ref o), (1, .int (nI k)), (2, .int (nI u)), (3, .int (nI x))], [.int (nI rc), .int (nI u)], M)) rfl h_z rfl rfl ?_
  refine ps_if2 (S1 := (46, [(4, .ref z), (0, .ref o), (1, .int (nI k)), (2, .int (nI u)), (3, .int (nI x))], [], M)) (S2 := (44, [], [], M)) rfl rfl rfl (fun c_41 => ?_) (fun c_41 => ?_)
  rotate_left
  · exact absurd ((lt_nI (p := u) (n := rc) (by omega) (by omega)).mpr hu) (of_decide_eq_false c_41)
  refine ps_st (S' := (47, [(4, .ref z), (0, .ref o), (1, .int (nI k)), (2, .int (nI u)), (3, .int (nI x))], [.ref o], M)) rfl rfl rfl ?_
  refine ps_get (S' := (50, [(4, .ref z), (0, .ref o), (1, .int (nI k)), (2, .int (nI u)), (3, .int (nI x))], [.ref c], M)) rfl h_o rfl rfl ?_
  refine ps_get (S' := (53, [(4, .ref z), (0, .ref o), (1, .int (nI k)), (2, .int (nI u)), (3, .int (nI x))], [.ref b], M)) rfl h_c rfl rfl ?_
  refine ps_st (S' := (55, [(4, .ref z), (0, .ref o), (1, .int (nI k)), (2, .int (nI u)), (3, .int (nI x))], [.ref z, .ref b], M)) rfl rfl rfl ?_
  refine ps_get (S' := (58, [(4, .ref z), (0, .ref o), (1, .int (nI k)), (2, .int (nI u)), (3, .int (nI x))], [.int (nI ra), .ref b], M)) rfl h_z rfl rfl ?_
  refine ps_st (S' := (60, [(4, .ref z), (0, .ref o), (1, .int (nI k)), (2, .int (nI u)), (3, .int (nI x))], [.int 8, .int (nI ra), .ref b], M)) rfl rfl rfl ?_
  refine ps_st (S' := (61, [(4, .ref z), (0, .ref o), (1, .int (nI k)), (2, .int (nI u)), (3, .int (nI x))], [.int (nI u), .int 8, .int (nI ra), .ref b], M)) rfl rfl rfl ?_
  refine ps_st (S' := (62, [(4, .ref z), (0, .ref o), (1, .int (nI k)), (2, .int (nI u)), (3, .int (nI x))], [.int (8 * (nI u)), .int (nI ra), .ref b], M)) rfl rfl rfl ?_
  rw [nI_mul1 (p := 8) (k := u) (x := 8) (y := (nI u)) rfl rfl (by omega)]
  show pl _ _ _ (_, [(4, .ref z), (0, .ref o), (1, .int (nI k)), (2, .int (nI u)), (3, .int (nI x))], [.int (nI (8 * u)), .int (nI ra), .ref b], M) _
  refine ps_st (S' := (63, [(4, .ref z), (0, .ref o), (1, .int (nI k)), (2, .int (nI u)), (3, .int (nI x))], [.int ((nI ra) + (nI (8 * u))), .ref b], M)) rfl rfl rfl ?_
  rw [nI_add1 (p := ra) (k := 8 * u) (x := (nI (8 * u))) rfl (by omega)]
  show pl _ _ _ (_, [(4, .ref z), (0, .ref o), (1, .int (nI k)), (2, .int (nI u)), (3, .int (nI x))], [.int (nI (ra + 8 * u)), .ref b], M) _
  refine ps_st (S' := (64, [(4, .ref z), (0, .ref o), (1, .int (nI k)), (2, .int (nI u)), (3, .int (nI x))], [.int 2, .int (nI (ra + 8 * u)), .ref b], M)) rfl rfl rfl ?_
  refine ps_st (S' := (65, [(4, .ref z), (0, .ref o), (1, .int (nI k)), (2, .int (nI u)), (3, .int (nI x))], [.int (nI x), .int 2, .int (nI (ra + 8 * u)), .ref b], M)) rfl rfl rfl ?_
  refine ps_st (S' := (66, [(4, .ref z), (0, .ref o), (1, .int (nI k)), (2, .int (nI u)), (3, .int (nI x))], [.int (2 * (nI x)), .int (nI (ra + 8 * u)), .ref b], M)) rfl rfl rfl ?_
  rw [nI_mul1 (p := 2) (k := x) (x := 2) (y := (nI x)) rfl rfl (by omega)]
  show pl _ _ _ (_, [(4, .ref z), (0, .ref o), (1, .int (nI k)), (2, .int (nI u)), (3, .int (nI x))], [.int (nI (2 * x)), .int (nI (ra + 8 * u)), .ref b], M) _
  refine ps_st (S' := (67, [(4, .ref z), (0, .ref o), (1, .int (nI k)), (2, .int (nI u)), (3, .int (nI x))], [.int ((nI (ra + 8 * u)) + (nI (2 * x))), .ref b], M)) rfl rfl rfl ?_
  rw [nI_add1 (p := ra + 8 * u) (k := 2 * x) (x := (nI (2 * x))) rfl (by omega)]
  show pl _ _ _ (_, [(4, .ref z), (0, .ref o), (1, .int (nI k)), (2, .int (nI u)), (3, .int (nI x))], [.int (nI (ra + 8 * u + 2 * x)), .ref b], M) _
  refine pl_call (a := [.ref b, .int (nI (ra + 8 * u + 2 * x))]) (rest := []) rfl rfl rfl (dk_u2 (f := f) (n := n) (b := b) (da := da) (p := (ra + 8 * u + 2 * x)) h_b h_da (hn) (by omega)) (fun v4 M5 q6 => ?_)
  obtain ⟨rfl, rfl⟩ := q6
  show pl _ _ _ (70, [(4, .ref z), (0, .ref o), (1, .int (nI k)), (2, .int (nI u)), (3, .int (nI x))], [.int (nI (by2 f (ra + 8 * u + 2 * x)))], M) _
  have hu_67 := by2_lt f (ra + 8 * u + 2 * x)
  exact ps_reti rfl (⟨rfl, rfl⟩)
theorem dk_rowK {g : xe_G} {M : mi_H} {ko : Option (Nat × (Nat → Int32))} {kv : Value} {cm o fl : Nat} {cn wp m r x : Int32} (hx : M.1 o = some (ob 11 [.ref cm, .int cn, .ref fl, kv, .int wp])) (hK : KPC g ko kv cm M) (h0 : ¬ x < 0) (h1 : x ≤ 3) : pt (mT g) 19 [.ref o, .int m, .int r, .int x] M (fun v M' => v = some (.int (roK ko m r x)) ∧ M = M') := by
  cases ko with
  | none =>
    have e : kv = .null := hK
    subst e
    exact dk_row0 hx h0 h1
  | some y =>
    obtain ⟨c, da, rfl, ⟨b, q, N, E, p1, pF, pM, pA, w', k1, k2, k3, k4, k5, rfl, -, k7, fr, mr, G1, G2, _, _, bc, K, rfl, m1, m2, m3, m4, m5, m6, m7, m8, m9, m10⟩, -, hrd⟩ := hK
    rw [roK_is k5]
    have hb2 := mbs_len m5
    obtain ⟨R2, r2, r4⟩ := m2.2.1
    by_cases hi : m < 0 ∨ nI (mbs y.2 y.1 (by2 y.2 pM) (pM + 2)).length ≤ m
    · rw [if_pos hi]
      exact dk_rowN hx k1 r2 h0 h1 hi
    · rw [if_neg hi]
      obtain ⟨ei, li⟩ := i32_in hb2 hi
      obtain ⟨k, ek⟩ : ∃ k, k = m.toNatClampNeg := ⟨_, rfl⟩
      rw [← ek] at ei li ⊢
      subst ei
      obtain ⟨-, v, hc, hcd⟩ := m10 k li
      have hr := r4 k li
      unfold roI
      rcases hcd with ⟨hp, rfl⟩ | ⟨hp, zz, w8, w9, w10, rfl, hzl, hzc⟩
      · rw [if_pos hp]
        exact dk_rowB hx k1 r2 hc h0 h1 li hb2 hr
      · rw [if_neg hp]
        have hin := (code_in k5 hrd m5 li).resolve_left hp
        obtain ⟨cp, ecp⟩ : ∃ cp, cp = (mK y.2 y.1 E ((mbs y.2 y.1 (by2 y.2 pM) (pM + 2)).getD k 0)).2.1 := ⟨_, rfl⟩
        rw [← ecp] at hin hzc ⊢
        have hl9 := by2_lt y.2 (cp + 14 + by4 y.2 (cp + 10))
        by_cases h5 : r < 0 ∨ nI (by2 y.2 (cp + 14 + by4 y.2 (cp + 10))) ≤ r
        · rw [if_pos h5]
          exact dk_rowR hx k1 r2 hc hzc h0 h1 li hb2 hr h5
        · rw [if_neg h5]
          obtain ⟨er, lr⟩ := i32_in hl9 h5
          obtain ⟨u, eu⟩ : ∃ u, u = r.toNatClampNeg := ⟨_, rfl⟩
          rw [← eu] at er lr ⊢
          subst er
          obtain ⟨ew, hw⟩ := i32_4 h0 h1
          obtain ⟨j, ej⟩ : ∃ j, j = x.toNatClampNeg := ⟨_, rfl⟩
          rw [← ej] at ew hw ⊢
          subst ew
          have hin1 := hin.1
          exact dk_rowV hx k1 r2 k2 k3 hc hzc (by omega) k7 li hb2 hr lr hl9 (by omega)
end
section
set_option maxHeartbeats 1000000 in
theorem rd_memberB {g : xe_G} {m0 : Nat} {q : Nat → Nat} {z : Nat × Nat} {I : rI} {R : rR} {M : mi_H} {t i x : Int32} (hR : RS g m0 q z I R M)   (hbad : x < 0 ∨ ¬ x ≤ 9) : pt (mT g) 223 [.ref m0, .int t, .int i, .int x] M (fun v M' => (∃  (I' : rI) (R' : rR), v = some (.int 0) ∧ RS g m0 q z I' R' M' ∧ eqI [0] I I' ∧ eqR [] R R' ∧ I' 0 = some 1)) := by
  refine pt_in (b := mb_223 g) rfl (fun kf => ?_)
  show pl (mT g) kf (mb_223 g).2 (0, [(0, .ref m0), (1, .int t), (2, .int i), (3, .int x)], [], M) _
  have hEI : eqI [0] I I := eqI.rf
  have hER : eqR [] R R := eqR.rf
  refine ps_st (S' := (1, [(0, .ref m0), (1, .int t), (2, .int i), (3, .int x)], [.ref m0], M)) rfl rfl rfl ?_
  refine ps_st (S' := (2, [(0, .ref m0), (1, .int t), (2, .int i), (3, .int x)], [.int 0, .ref m0], M)) rfl rfl rfl ?_
  refine pr_put (j := 0) rfl hR rfl (fun M1 I2 hR3 hi4 hI5 => ?_)
  have hEI6 := hEI.put hI5 (by decide)
  show pl _ _ _ (5, [(0, .ref m0), (1, .int t), (2, .int i), (3, .int x)], [], M1) _
  refine ps_st (S' := (6, [(0, .ref m0), (1, .int t), (2, .int i), (3, .int x)], [.int x], M1)) rfl rfl rfl ?_
  refine ps_if (S1 := (15, [(0, .ref m0)], [], M1)) (S2 := (9, [(0, .ref m0), (1, .int t), (2, .int i), (3, .int x)], [], M1)) rfl rfl rfl (fun c_6 => ?_) (fun c_6 => ?_)
  · have c_6 : x < 0 := of_decide_eq_true c_6
    refine ps_st (S' := (16, [(0, .ref m0)], [.ref m0], M1)) rfl rfl rfl ?_
    refine pl_call (a := [.ref m0]) (rest := []) rfl rfl rfl (rd_bad hR3) (fun v7 M8 q9 => ?_)
    obtain ⟨I10, R11, rfl, hR12, hI13, hX14, hi15⟩ := q9
    have hEI16 := hEI6.tr hI13 (by decide)
    have hER17 := hER.tr hX14 (by decide)
    show pl _ _ _ (19, [(0, .ref m0)], [.int 0], M8) _
    exact ps_ret rfl rfl (⟨I10, R11, rfl, hR12, hEI16, hER17, hi15⟩)
  · have c_6 : ¬ (x < 0) := of_decide_eq_false c_6
    refine ps_st (S' := (10, [(0, .ref m0), (1, .int t), (2, .int i), (3, .int x)], [.int x], M1)) rfl rfl rfl ?_
    refine ps_st (S' := (12, [(0, .ref m0), (1, .int t), (2, .int i), (3, .int x)], [.int 9, .int x], M1)) rfl rfl rfl ?_
    refine ps_if2 (S1 := (20, [(0, .ref m0), (1, .int t), (2, .int i), (3, .int x)], [], M1)) (S2 := (15, [(0, .ref m0)], [], M1)) rfl rfl rfl (fun c_12 => ?_) (fun c_12 => ?_)
    · have c_12 : x ≤ 9 := of_decide_eq_true c_12
      exact absurd hbad (fun h9 => h9.elim c_6 (fun h8 => h8 c_12))
    · have c_12 : ¬ (x ≤ 9) := of_decide_eq_false c_12
      refine ps_st (S' := (16, [(0, .ref m0)], [.ref m0], M1)) rfl rfl rfl ?_
      refine pl_call (a := [.ref m0]) (rest := []) rfl rfl rfl (rd_bad hR3) (fun v18 M19 q20 => ?_)
      obtain ⟨I21, R22, rfl, hR23, hI24, hX25, hi26⟩ := q20
      have hEI27 := hEI6.tr hI24 (by decide)
      have hER28 := hER.tr hX25 (by decide)
      show pl _ _ _ (19, [(0, .ref m0)], [.int 0], M19) _
      exact ps_ret rfl rfl (⟨I21, R22, rfl, hR23, hEI27, hER28, hi26⟩)
set_option maxHeartbeats 1000000 in
theorem rd_member0 {g : xe_G} {m0 : Nat} {q : Nat → Nat} {z : Nat × Nat} {I : rI} {R : rR} {M : mi_H} {kn t i x : Int32} (hR : RS g m0 q z I R M) (hi18 : I 18 = some kn)  (h0 : ¬ x < 0) (h1 : x ≤ 9) (hk : kn < 0) : pt (mT g) 223 [.ref m0, .int t, .int i, .int x] M (fun v M' => (∃  (I' : rI) (R' : rR), v = some (.int (-1)) ∧ RS g m0 q z I' R' M' ∧ eqI [0] I I' ∧ eqR [] R R' ∧ I' 0 = some 0)) := by
  refine pt_in (b := mb_223 g) rfl (fun kf => ?_)
  show pl (mT g) kf (mb_223 g).2 (0, [(0, .ref m0), (1, .int t), (2, .int i), (3, .int x)], [], M) _
  have hEI : eqI [0] I I := eqI.rf
  have hER : eqR [] R R := eqR.rf
  refine ps_st (S' := (1, [(0, .ref m0), (1, .int t), (2, .int i), (3, .int x)], [.ref m0], M)) rfl rfl rfl ?_
  refine ps_st (S' := (2, [(0, .ref m0), (1, .int t), (2, .int i), (3, .int x)], [.int 0, .ref m0], M)) rfl rfl rfl ?_
  refine pr_put (j := 0) rfl hR rfl (fun M1 I2 hR3 hi4 hI5 => ?_)
  have hi6 := (hI5 18 (by decide)).trans hi18
  have hEI7 := hEI.put hI5 (by decide)
  show pl _ _ _ (5, [(0, .ref m0), (1, .int t), (2, .int i), (3, .int x)], [], M1) _
  refine ps_st (S' := (6, [(0, .ref m0), (1, .int t), (2, .int i), (3, .int x)], [.int x], M1)) rfl rfl rfl ?_
  refine ps_if (S1 := (15, [(0, .ref m0)], [], M1)) (S2 := (9, [(0, .ref m0), (1, .int t), (2, .int i), (3, .int x)], [], M1)) rfl rfl rfl (fun c_6 => ?_) (fun c_6 => ?_)
  · exact absurd (of_decide_eq_true c_6) (h0)
  refine ps_st (S' := (10, [(0, .ref m0), (1, .int t), (2, .int i), (3, .int x)], [.int x], M1)) rfl rfl rfl ?_
  refine ps_st (S' := (12, [(0, .ref m0), (1, .int t), (2, .int i), (3, .int x)], [.int 9, .int x], M1)) rfl rfl rfl ?_
  refine ps_if2 (S1 := (20, [(0, .ref m0), (1, .int t), (2, .int i), (3, .int x)], [], M1)) (S2 := (15, [(0, .ref m0)], [], M1)) rfl rfl rfl (fun c_12 => ?_) (fun c_12 => ?_)
  rotate_left
  · exact absurd (h1) (of_decide_eq_false c_12)
  refine ps_st (S' := (21, [(0, .ref m0), (1, .int t), (2, .int i), (3, .int x)], [.ref m0], M1)) rfl rfl rfl ?_
  refine pr_int (j := 18) (S' := (24, [(0, .ref m0), (1, .int t), (2, .int i), (3, .int x)], [.int kn], M1)) rfl hR3 rfl hi6 rfl ?_
  refine ps_if (S1 := (50, [], [], M1)) (S2 := (27, [(0, .ref m0), (1, .int t), (2, .int i), (3, .int x)], [], M1)) rfl rfl rfl (fun c_24 => ?_) (fun c_24 => ?_)
  rotate_left
  · exact absurd (hk) (of_decide_eq_false c_24)
  refine ps_st (S' := (51, [], [.int (-1)], M1)) rfl rfl rfl ?_
  exact ps_ret rfl rfl (⟨I2, R, rfl, hR3, hEI7, hER, hi4⟩)
set_option maxHeartbeats 1000000 in
theorem rd_memberNF {g : xe_G} {m0 : Nat} {q : Nat → Nat} {z : Nat × Nat} {I : rI} {R : rR} {M : mi_H} {n2 l : Nat} {t i x : Int32} (hR : RS g m0 q z I R M) (hi18 : I 18 = some (nI n2)) (hi25 : I 25 = some (nI l))  (h0 : ¬ x < 0) (h1 : x ≤ 9) (hn2 : n2 ≤ 65540) (ht : t = 0) (hi : i < 0 ∨ nI l ≤ i) : pt (mT g) 223 [.ref m0, .int t, .int i, .int x] M (fun v M' => (∃  (I' : rI) (R' : rR), v = some (.int (-1)) ∧ RS g m0 q z I' R' M' ∧ eqI [0] I I' ∧ eqR [] R R' ∧ I' 0 = some 0)) := by
  refine pt_in (b := mb_223 g) rfl (fun kf => ?_)
  show pl (mT g) kf (mb_223 g).2 (0, [(0, .ref m0), (1, .int t), (2, .int i), (3, .int x)], [], M) _
  have hEI : eqI [0] I I := eqI.rf
  have hER : eqR [] R R := eqR.rf
  refine ps_st (S' := (1, [(0, .ref m0), (1, .int t), (2, .int i), (3, .int x)], [.ref m0], M)) rfl rfl rfl ?_
  refine ps_st (S' := (2, [(0, .ref m0), (1, .int t), (2, .int i), (3, .int x)], [.int 0, .ref m0], M)) rfl rfl rfl ?_
  refine pr_put (j := 0) rfl hR rfl (fun M1 I2 hR3 hi4 hI5 => ?_)
  have hi6 := (hI5 18 (by decide)).trans hi18
  have hi7 := (hI5 25 (by decide)).trans hi25
  have hEI8 := hEI.put hI5 (by decide)
  show pl _ _ _ (5, [(0, .ref m0), (1, .int t), (2, .int i), (3, .int x)], [], M1) _
  refine ps_st (S' := (6, [(0, .ref m0), (1, .int t), (2, .int i), (3, .int x)], [.int x], M1)) rfl rfl rfl ?_
  refine ps_if (S1 := (15, [(0, .ref m0)], [], M1)) (S2 := (9, [(0, .ref m0), (1, .int t), (2, .int i), (3, .int x)], [], M1)) rfl rfl rfl (fun c_6 => ?_) (fun c_6 => ?_)
  · exact absurd (of_decide_eq_true c_6) (h0)
  refine ps_st (S' := (10, [(0, .ref m0), (1, .int t), (2, .int i), (3, .int x)], [.int x], M1)) rfl rfl rfl ?_
  refine ps_st (S' := (12, [(0, .ref m0), (1, .int t), (2, .int i), (3, .int x)], [.int 9, .int x], M1)) rfl rfl rfl ?_
  refine ps_if2 (S1 := (20, [(0, .ref m0), (1, .int t), (2, .int i), (3, .int x)], [], M1)) (S2 := (15, [(0, .ref m0)], [], M1)) rfl rfl rfl (fun c_12 => ?_) (fun c_12 => ?_)
  rotate_left
  · exact absurd (h1) (of_decide_eq_false c_12)
  refine ps_st (S' := (21, [(0, .ref m0), (1, .int t), (2, .int i), (3, .int x)], [.ref m0], M1)) rfl rfl rfl ?_
  refine pr_int (j := 18) (S' := (24, [(0, .ref m0), (1, .int t), (2, .int i), (3, .int x)], [.int (nI n2)], M1)) rfl hR3 rfl hi6 rfl ?_
  refine ps_if (S1 := (50, [], [], M1)) (S2 := (27, [(0, .ref m0), (1, .int t), (2, .int i), (3, .int x)], [], M1)) rfl rfl rfl (fun c_24 => ?_) (fun c_24 => ?_)
  · exact absurd (of_decide_eq_true c_24) (nI_n0 (by omega))
  refine ps_st (S' := (28, [(0, .ref m0), (1, .int t), (2, .int i), (3, .int x)], [.int i], M1)) rfl rfl rfl ?_
  refine ps_if (S1 := (50, [], [], M1)) (S2 := (31, [(0, .ref m0), (1, .int t), (2, .int i), (3, .int x)], [], M1)) rfl rfl rfl (fun c_28 => ?_) (fun c_28 => ?_)
  · have c_28 : i < 0 := of_decide_eq_true c_28
    refine ps_st (S' := (51, [], [.int (-1)], M1)) rfl rfl rfl ?_
    exact ps_ret rfl rfl (⟨I2, R, rfl, hR3, hEI8, hER, hi4⟩)
  · have c_28 : ¬ (i < 0) := of_decide_eq_false c_28
    refine ps_st (S' := (32, [(0, .ref m0), (1, .int t), (2, .int i), (3, .int x)], [.int i], M1)) rfl rfl rfl ?_
    refine ps_st (S' := (33, [(0, .ref m0), (1, .int t), (2, .int i), (3, .int x)], [.int t, .int i], M1)) rfl rfl rfl ?_
    refine ps_if (S1 := (43, [(0, .ref m0), (1, .int t), (2, .int i), (3, .int x)], [.int i], M1)) (S2 := (36, [(0, .ref m0), (1, .int t), (2, .int i), (3, .int x)], [.int i], M1)) rfl rfl rfl (fun c_33 => ?_) (fun c_33 => ?_)
    rotate_left
    · exact absurd (ht) (of_decide_eq_false c_33)
    refine ps_st (S' := (44, [(0, .ref m0), (1, .int t), (2, .int i), (3, .int x)], [.ref m0, .int i], M1)) rfl rfl rfl ?_
    refine pr_int (j := 25) (S' := (47, [(0, .ref m0), (1, .int t), (2, .int i), (3, .int x)], [.int (nI l), .int i], M1)) rfl hR3 rfl hi7 rfl ?_
    refine ps_if2 (S1 := (52, [(0, .ref m0), (1, .int t), (2, .int i), (3, .int x)], [], M1)) (S2 := (50, [], [], M1)) rfl rfl rfl (fun c_47 => ?_) (fun c_47 => ?_)
    · exact absurd (of_decide_eq_true c_47) (Int32.not_lt.mpr (hi.resolve_left c_28))
    refine ps_st (S' := (51, [], [.int (-1)], M1)) rfl rfl rfl ?_
    exact ps_ret rfl rfl (⟨I2, R, rfl, hR3, hEI8, hER, hi4⟩)
set_option maxHeartbeats 1000000 in
theorem rd_memberNM {g : xe_G} {m0 : Nat} {q : Nat → Nat} {z : Nat × Nat} {I : rI} {R : rR} {M : mi_H} {n2 l : Nat} {t i x : Int32} (hR : RS g m0 q z I R M) (hi18 : I 18 = some (nI n2)) (hi26 : I 26 = some (nI l))  (h0 : ¬ x < 0) (h1 : x ≤ 9) (hn2 : n2 ≤ 65540) (ht : ¬ t = 0) (hi : i < 0 ∨ nI l ≤ i) : pt (mT g) 223 [.ref m0, .int t, .int i, .int x] M (fun v M' => (∃  (I' : rI) (R' : rR), v = some (.int (-1)) ∧ RS g m0 q z I' R' M' ∧ eqI [0] I I' ∧ eqR [] R R' ∧ I' 0 = some 0)) := by
  refine pt_in (b := mb_223 g) rfl (fun kf => ?_)
  show pl (mT g) kf (mb_223 g).2 (0, [(0, .ref m0), (1, .int t), (2, .int i), (3, .int x)], [], M) _
  have hEI : eqI [0] I I := eqI.rf
  have hER : eqR [] R R := eqR.rf
  refine ps_st (S' := (1, [(0, .ref m0), (1, .int t), (2, .int i), (3, .int x)], [.ref m0], M)) rfl rfl rfl ?_
  refine ps_st (S' := (2, [(0, .ref m0), (1, .int t), (2, .int i), (3, .int x)], [.int 0, .ref m0], M)) rfl rfl rfl ?_
  refine pr_put (j := 0) rfl hR rfl (fun M1 I2 hR3 hi4 hI5 => ?_)
  have hi6 := (hI5 18 (by decide)).trans hi18
  have hi7 := (hI5 26 (by decide)).trans hi26
  have hEI8 := hEI.put hI5 (by decide)
  show pl _ _ _ (5, [(0, .ref m0), (1, .int t), (2, .int i), (3, .int x)], [], M1) _
  refine ps_st (S' := (6, [(0, .ref m0), (1, .int t), (2, .int i), (3, .int x)], [.int x], M1)) rfl rfl rfl ?_
  refine ps_if (S1 := (15, [(0, .ref m0)], [], M1)) (S2 := (9, [(0, .ref m0), (1, .int t), (2, .int i), (3, .int x)], [], M1)) rfl rfl rfl (fun c_6 => ?_) (fun c_6 => ?_)
  · exact absurd (of_decide_eq_true c_6) (h0)
  refine ps_st (S' := (10, [(0, .ref m0), (1, .int t), (2, .int i), (3, .int x)], [.int x], M1)) rfl rfl rfl ?_
  refine ps_st (S' := (12, [(0, .ref m0), (1, .int t), (2, .int i), (3, .int x)], [.int 9, .int x], M1)) rfl rfl rfl ?_
  refine ps_if2 (S1 := (20, [(0, .ref m0), (1, .int t), (2, .int i), (3, .int x)], [], M1)) (S2 := (15, [(0, .ref m0)], [], M1)) rfl rfl rfl (fun c_12 => ?_) (fun c_12 => ?_)
  rotate_left
  · exact absurd (h1) (of_decide_eq_false c_12)
  refine ps_st (S' := (21, [(0, .ref m0), (1, .int t), (2, .int i), (3, .int x)], [.ref m0], M1)) rfl rfl rfl ?_
  refine pr_int (j := 18) (S' := (24, [(0, .ref m0), (1, .int t), (2, .int i), (3, .int x)], [.int (nI n2)], M1)) rfl hR3 rfl hi6 rfl ?_
  refine ps_if (S1 := (50, [], [], M1)) (S2 := (27, [(0, .ref m0), (1, .int t), (2, .int i), (3, .int x)], [], M1)) rfl rfl rfl (fun c_24 => ?_) (fun c_24 => ?_)
  · exact absurd (of_decide_eq_true c_24) (nI_n0 (by omega))
  refine ps_st (S' := (28, [(0, .ref m0), (1, .int t), (2, .int i), (3, .int x)], [.int i], M1)) rfl rfl rfl ?_
  refine ps_if (S1 := (50, [], [], M1)) (S2 := (31, [(0, .ref m0), (1, .int t), (2, .int i), (3, .int x)], [], M1)) rfl rfl rfl (fun c_28 => ?_) (fun c_28 => ?_)
  · have c_28 : i < 0 := of_decide_eq_true c_28
    refine ps_st (S' := (51, [], [.int (-1)], M1)) rfl rfl rfl ?_
    exact ps_ret rfl rfl (⟨I2, R, rfl, hR3, hEI8, hER, hi4⟩)
  · have c_28 : ¬ (i < 0) := of_decide_eq_false c_28
    refine ps_st (S' := (32, [(0, .ref m0), (1, .int t), (2, .int i), (3, .int x)], [.int i], M1)) rfl rfl rfl ?_
    refine ps_st (S' := (33, [(0, .ref m0), (1, .int t), (2, .int i), (3, .int x)], [.int t, .int i], M1)) rfl rfl rfl ?_
    refine ps_if (S1 := (43, [(0, .ref m0), (1, .int t), (2, .int i), (3, .int x)], [.int i], M1)) (S2 := (36, [(0, .ref m0), (1, .int t), (2, .int i), (3, .int x)], [.int i], M1)) rfl rfl rfl (fun c_33 => ?_) (fun c_33 => ?_)
    · exact absurd (of_decide_eq_true c_33) (ht)
    refine ps_st (S' := (37, [(0, .ref m0), (1, .int t), (2, .int i), (3, .int x)], [.ref m0, .int i], M1)) rfl rfl rfl ?_
    refine pr_int (j := 26) (S' := (40, [(0, .ref m0), (1, .int t), (2, .int i), (3, .int x)], [.int (nI l), .int i], M1)) rfl hR3 rfl hi7 rfl ?_
    refine ps_st (S' := (47, [(0, .ref m0), (1, .int t), (2, .int i), (3, .int x)], [.int (nI l), .int i], M1)) rfl rfl rfl ?_
    refine ps_if2 (S1 := (52, [(0, .ref m0), (1, .int t), (2, .int i), (3, .int x)], [], M1)) (S2 := (50, [], [], M1)) rfl rfl rfl (fun c_47 => ?_) (fun c_47 => ?_)
    · exact absurd (of_decide_eq_true c_47) (Int32.not_lt.mpr (hi.resolve_left c_28))
    refine ps_st (S' := (51, [], [.int (-1)], M1)) rfl rfl rfl ?_
    exact ps_ret rfl rfl (⟨I2, R, rfl, hR3, hEI8, hER, hi4⟩)
set_option maxHeartbeats 1000000 in
theorem rd_memberF0 {g : xe_G} {m0 : Nat} {q : Nat → Nat} {z : Nat × Nat} {I : rI} {R : rR} {M : mi_H} {f : Nat → Int32} {n n2 k : Nat} {E : List (Nat × Nat)} {B : List Nat} {t : Int32} (hR : RS g m0 q z I R M) (hi18 : I 18 = some (nI n2)) (hi25 : I 25 = some (nI B.length)) (hQ : FQ f n E B 0 B.length I R) (hn2 : n2 ≤ 65540) (ht : t = 0) (hk : k < B.length) (hBl : B.length < 65536) : pt (mT g) 223 [.ref m0, .int t, .int (nI k), .int 0] M (fun v M' => (∃  (I' : rI) (R' : rR), v = some (.int (nI (by2 f (B.getD k 0)))) ∧ RS g m0 q z I' R' M' ∧ eqI [0] I I' ∧ eqR [] R R' ∧ I' 0 = some 0)) := by
  refine pt_in (b := mb_223 g) rfl (fun kf => ?_)
  show pl (mT g) kf (mb_223 g).2 (0, [(0, .ref m0), (1, .int t), (2, .int (nI k)), (3, .int 0)], [], M) _
  have hEI : eqI [0] I I := eqI.rf
  have hER : eqR [] R R := eqR.rf
  have g9 := hQ k hk
  rw [Nat.zero_add] at g9
  refine ps_st (S' := (1, [(0, .ref m0), (1, .int t), (2, .int (nI k)), (3, .int 0)], [.ref m0], M)) rfl rfl rfl ?_
  refine ps_st (S' := (2, [(0, .ref m0), (1, .int t), (2, .int (nI k)), (3, .int 0)], [.int 0, .ref m0], M)) rfl rfl rfl ?_
  refine pr_put (j := 0) rfl hR rfl (fun M1 I2 hR3 hi4 hI5 => ?_)
  have hi6 := (hI5 18 (by decide)).trans hi18
  have hi7 := (hI5 25 (by decide)).trans hi25
  have hQ_8 := hQ.mono (pIx hI5 (by decide)) (fun _ _ => rfl)
  have hEI9 := hEI.put hI5 (by decide)
  show pl _ _ _ (5, [(0, .ref m0), (1, .int t), (2, .int (nI k)), (3, .int 0)], [], M1) _
  refine ps_st (S' := (6, [(0, .ref m0), (1, .int t), (2, .int (nI k)), (3, .int 0)], [.int 0], M1)) rfl rfl rfl ?_
  refine ps_if (S1 := (15, [(0, .ref m0)], [], M1)) (S2 := (9, [(0, .ref m0), (1, .int t), (2, .int (nI k)), (3, .int 0)], [], M1)) rfl rfl rfl (fun c_6 => ?_) (fun c_6 => ?_)
  · exact absurd (of_decide_eq_true c_6) (by decide)
  refine ps_st (S' := (10, [(0, .ref m0), (1, .int t), (2, .int (nI k)), (3, .int 0)], [.int 0], M1)) rfl rfl rfl ?_
  refine ps_st (S' := (12, [(0, .ref m0), (1, .int t), (2, .int (nI k)), (3, .int 0)], [.int 9, .int 0], M1)) rfl rfl rfl ?_
  refine ps_if2 (S1 := (20, [(0, .ref m0), (1, .int t), (2, .int (nI k)), (3, .int 0)], [], M1)) (S2 := (15, [(0, .ref m0)], [], M1)) rfl rfl rfl (fun c_12 => ?_) (fun c_12 => ?_)
  rotate_left
  · exact absurd (by decide) (of_decide_eq_false c_12)
  refine ps_st (S' := (21, [(0, .ref m0), (1, .int t), (2, .int (nI k)), (3, .int 0)], [.ref m0], M1)) rfl rfl rfl ?_
  refine pr_int (j := 18) (S' := (24, [(0, .ref m0), (1, .int t), (2, .int (nI k)), (3, .int 0)], [.int (nI n2)], M1)) rfl hR3 rfl hi6 rfl ?_
  refine ps_if (S1 := (50, [], [], M1)) (S2 := (27, [(0, .ref m0), (1, .int t), (2, .int (nI k)), (3, .int 0)], [], M1)) rfl rfl rfl (fun c_24 => ?_) (fun c_24 => ?_)
  · exact absurd (of_decide_eq_true c_24) (nI_n0 (by omega))
  refine ps_st (S' := (28, [(0, .ref m0), (1, .int t), (2, .int (nI k)), (3, .int 0)], [.int (nI k)], M1)) rfl rfl rfl ?_
  refine ps_if (S1 := (50, [], [], M1)) (S2 := (31, [(0, .ref m0), (1, .int t), (2, .int (nI k)), (3, .int 0)], [], M1)) rfl rfl rfl (fun c_28 => ?_) (fun c_28 => ?_)
  · exact absurd (of_decide_eq_true c_28) (nI_n0 (by omega))
  refine ps_st (S' := (32, [(0, .ref m0), (1, .int t), (2, .int (nI k)), (3, .int 0)], [.int (nI k)], M1)) rfl rfl rfl ?_
  refine ps_st (S' := (33, [(0, .ref m0), (1, .int t), (2, .int (nI k)), (3, .int 0)], [.int t, .int (nI k)], M1)) rfl rfl rfl ?_
  refine ps_if (S1 := (43, [(0, .ref m0), (1, .int t), (2, .int (nI k)), (3, .int 0)], [.int (nI k)], M1)) (S2 := (36, [(0, .ref m0), (1, .int t), (2, .int (nI k)), (3, .int 0)], [.int (nI k)], M1)) rfl rfl rfl (fun c_33 => ?_) (fun c_33 => ?_)
  rotate_left
  · exact absurd (ht) (of_decide_eq_false c_33)
  refine ps_st (S' := (44, [(0, .ref m0), (1, .int t), (2, .int (nI k)), (3, .int 0)], [.ref m0, .int (nI k)], M1)) rfl rfl rfl ?_
  refine pr_int (j := 25) (S' := (47, [(0, .ref m0), (1, .int t), (2, .int (nI k)), (3, .int 0)], [.int (nI B.length), .int (nI k)], M1)) rfl hR3 rfl hi7 rfl ?_
  refine ps_if2 (S1 := (52, [(0, .ref m0), (1, .int t), (2, .int (nI k)), (3, .int 0)], [], M1)) (S2 := (50, [], [], M1)) rfl rfl rfl (fun c_47 => ?_) (fun c_47 => ?_)
  rotate_left
  · exact absurd ((lt_nI (p := k) (n := B.length) (by omega) (by omega)).mpr hk) (of_decide_eq_false c_47)
  refine ps_st (S' := (53, [(0, .ref m0), (1, .int t), (2, .int (nI k)), (3, .int 0)], [.int 0], M1)) rfl rfl rfl ?_
  refine ps_st (S' := (88, [(0, .ref m0), (1, .int t), (2, .int (nI k)), (3, .int 0)], [], M1)) rfl rfl rfl ?_
  refine ps_st (S' := (89, [(0, .ref m0), (1, .int t), (2, .int (nI k)), (3, .int 0)], [.int t], M1)) rfl rfl rfl ?_
  refine ps_if (S1 := (101, [(0, .ref m0), (1, .int t), (2, .int (nI k)), (3, .int 0)], [], M1)) (S2 := (92, [(0, .ref m0), (1, .int t), (2, .int (nI k)), (3, .int 0)], [], M1)) rfl rfl rfl (fun c_89 => ?_) (fun c_89 => ?_)
  rotate_left
  · exact absurd (ht) (of_decide_eq_false c_89)
  refine ps_st (S' := (102, [(0, .ref m0), (1, .int t), (2, .int (nI k)), (3, .int 0)], [.ref m0], M1)) rfl rfl rfl ?_
  refine pr_ref (j := 27) (S' := (105, [(0, .ref m0), (1, .int t), (2, .int (nI k)), (3, .int 0)], [.ref (q 27)], M1)) rfl hR3 rfl rfl ?_
  refine ps_st (S' := (106, [(0, .ref m0), (1, .int t), (2, .int (nI k)), (3, .int 0)], [.int (nI k), .ref (q 27)], M1)) rfl rfl rfl ?_
  refine pr_ld (a := 27) (j := k) (y := (nI (by2 f (B.getD k 0)))) (S' := (107, [], [.int (nI (by2 f (B.getD k 0)))], M1)) rfl hR3 rfl (by omega) (fun _ => g9.1) rfl (fun i1_106 => ?_)
  exact ps_reti rfl (⟨I2, R, rfl, hR3, hEI9, hER, hi4⟩)
set_option maxHeartbeats 1000000 in
theorem rd_memberF1 {g : xe_G} {m0 : Nat} {q : Nat → Nat} {z : Nat × Nat} {I : rI} {R : rR} {M : mi_H} {f : Nat → Int32} {n n2 k : Nat} {E : List (Nat × Nat)} {B : List Nat} {t : Int32} (hR : RS g m0 q z I R M) (hi18 : I 18 = some (nI n2)) (hi25 : I 25 = some (nI B.length)) (hQ : FQ f n E B 0 B.length I R) (hn2 : n2 ≤ 65540) (ht : t = 0) (hk : k < B.length) (hBl : B.length < 65536) : pt (mT g) 223 [.ref m0, .int t, .int (nI k), .int 1] M (fun v M' => (∃  (I' : rI) (R' : rR), v = some (.int (nI (by2 f (B.getD k 0 + 2)))) ∧ RS g m0 q z I' R' M' ∧ eqI [0] I I' ∧ eqR [] R R' ∧ I' 0 = some 0)) := by
  refine pt_in (b := mb_223 g) rfl (fun kf => ?_)
  show pl (mT g) kf (mb_223 g).2 (0, [(0, .ref m0), (1, .int t), (2, .int (nI k)), (3, .int 1)], [], M) _
  have hEI : eqI [0] I I := eqI.rf
  have hER : eqR [] R R := eqR.rf
  have g9 := hQ k hk
  rw [Nat.zero_add] at g9
  refine ps_st (S' := (1, [(0, .ref m0), (1, .int t), (2, .int (nI k)), (3, .int 1)], [.ref m0], M)) rfl rfl rfl ?_
  refine ps_st (S' := (2, [(0, .ref m0), (1, .int t), (2, .int (nI k)), (3, .int 1)], [.int 0, .ref m0], M)) rfl rfl rfl ?_
  refine pr_put (j := 0) rfl hR rfl (fun M1 I2 hR3 hi4 hI5 => ?_)
  have hi6 := (hI5 18 (by decide)).trans hi18
  have hi7 := (hI5 25 (by decide)).trans hi25
  have hQ_8 := hQ.mono (pIx hI5 (by decide)) (fun _ _ => rfl)
  have hEI9 := hEI.put hI5 (by decide)
  show pl _ _ _ (5, [(0, .ref m0), (1, .int t), (2, .int (nI k)), (3, .int 1)], [], M1) _
  refine ps_st (S' := (6, [(0, .ref m0), (1, .int t), (2, .int (nI k)), (3, .int 1)], [.int 1], M1)) rfl rfl rfl ?_
  refine ps_if (S1 := (15, [(0, .ref m0)], [], M1)) (S2 := (9, [(0, .ref m0), (1, .int t), (2, .int (nI k)), (3, .int 1)], [], M1)) rfl rfl rfl (fun c_6 => ?_) (fun c_6 => ?_)
  · exact absurd (of_decide_eq_true c_6) (by decide)
  refine ps_st (S' := (10, [(0, .ref m0), (1, .int t), (2, .int (nI k)), (3, .int 1)], [.int 1], M1)) rfl rfl rfl ?_
  refine ps_st (S' := (12, [(0, .ref m0), (1, .int t), (2, .int (nI k)), (3, .int 1)], [.int 9, .int 1], M1)) rfl rfl rfl ?_
  refine ps_if2 (S1 := (20, [(0, .ref m0), (1, .int t), (2, .int (nI k)), (3, .int 1)], [], M1)) (S2 := (15, [(0, .ref m0)], [], M1)) rfl rfl rfl (fun c_12 => ?_) (fun c_12 => ?_)
  rotate_left
  · exact absurd (by decide) (of_decide_eq_false c_12)
  refine ps_st (S' := (21, [(0, .ref m0), (1, .int t), (2, .int (nI k)), (3, .int 1)], [.ref m0], M1)) rfl rfl rfl ?_
  refine pr_int (j := 18) (S' := (24, [(0, .ref m0), (1, .int t), (2, .int (nI k)), (3, .int 1)], [.int (nI n2)], M1)) rfl hR3 rfl hi6 rfl ?_
  refine ps_if (S1 := (50, [], [], M1)) (S2 := (27, [(0, .ref m0), (1, .int t), (2, .int (nI k)), (3, .int 1)], [], M1)) rfl rfl rfl (fun c_24 => ?_) (fun c_24 => ?_)
  · exact absurd (of_decide_eq_true c_24) (nI_n0 (by omega))
  refine ps_st (S' := (28, [(0, .ref m0), (1, .int t), (2, .int (nI k)), (3, .int 1)], [.int (nI k)], M1)) rfl rfl rfl ?_
  refine ps_if (S1 := (50, [], [], M1)) (S2 := (31, [(0, .ref m0), (1, .int t), (2, .int (nI k)), (3, .int 1)], [], M1)) rfl rfl rfl (fun c_28 => ?_) (fun c_28 => ?_)
  · exact absurd (of_decide_eq_true c_28) (nI_n0 (by omega))
  refine ps_st (S' := (32, [(0, .ref m0), (1, .int t), (2, .int (nI k)), (3, .int 1)], [.int (nI k)], M1)) rfl rfl rfl ?_
  refine ps_st (S' := (33, [(0, .ref m0), (1, .int t), (2, .int (nI k)), (3, .int 1)], [.int t, .int (nI k)], M1)) rfl rfl rfl ?_
  refine ps_if (S1 := (43, [(0, .ref m0), (1, .int t), (2, .int (nI k)), (3, .int 1)], [.int (nI k)], M1)) (S2 := (36, [(0, .ref m0), (1, .int t), (2, .int (nI k)), (3, .int 1)], [.int (nI k)], M1)) rfl rfl rfl (fun c_33 => ?_) (fun c_33 => ?_)
  rotate_left
  · exact absurd (ht) (of_decide_eq_false c_33)
  refine ps_st (S' := (44, [(0, .ref m0), (1, .int t), (2, .int (nI k)), (3, .int 1)], [.ref m0, .int (nI k)], M1)) rfl rfl rfl ?_
  refine pr_int (j := 25) (S' := (47, [(0, .ref m0), (1, .int t), (2, .int (nI k)), (3, .int 1)], [.int (nI B.length), .int (nI k)], M1)) rfl hR3 rfl hi7 rfl ?_
  refine ps_if2 (S1 := (52, [(0, .ref m0), (1, .int t), (2, .int (nI k)), (3, .int 1)], [], M1)) (S2 := (50, [], [], M1)) rfl rfl rfl (fun c_47 => ?_) (fun c_47 => ?_)
  rotate_left
  · exact absurd ((lt_nI (p := k) (n := B.length) (by omega) (by omega)).mpr hk) (of_decide_eq_false c_47)
  refine ps_st (S' := (53, [(0, .ref m0), (1, .int t), (2, .int (nI k)), (3, .int 1)], [.int 1], M1)) rfl rfl rfl ?_
  refine ps_st (S' := (108, [(0, .ref m0), (1, .int t), (2, .int (nI k)), (3, .int 1)], [], M1)) rfl rfl rfl ?_
  refine ps_st (S' := (109, [(0, .ref m0), (1, .int t), (2, .int (nI k)), (3, .int 1)], [.int t], M1)) rfl rfl rfl ?_
  refine ps_if (S1 := (121, [(0, .ref m0), (1, .int t), (2, .int (nI k)), (3, .int 1)], [], M1)) (S2 := (112, [(0, .ref m0), (1, .int t), (2, .int (nI k)), (3, .int 1)], [], M1)) rfl rfl rfl (fun c_109 => ?_) (fun c_109 => ?_)
  rotate_left
  · exact absurd (ht) (of_decide_eq_false c_109)
  refine ps_st (S' := (122, [(0, .ref m0), (1, .int t), (2, .int (nI k)), (3, .int 1)], [.ref m0], M1)) rfl rfl rfl ?_
  refine pr_ref (j := 32) (S' := (125, [(0, .ref m0), (1, .int t), (2, .int (nI k)), (3, .int 1)], [.ref (q 32)], M1)) rfl hR3 rfl rfl ?_
  refine ps_st (S' := (126, [(0, .ref m0), (1, .int t), (2, .int (nI k)), (3, .int 1)], [.int (nI k), .ref (q 32)], M1)) rfl rfl rfl ?_
  refine pr_ld (a := 32) (j := k) (y := (nI (by2 f (B.getD k 0 + 2)))) (S' := (127, [], [.int (nI (by2 f (B.getD k 0 + 2)))], M1)) rfl hR3 rfl (by omega) (fun _ => g9.2.2.2.1) rfl (fun i1_126 => ?_)
  exact ps_reti rfl (⟨I2, R, rfl, hR3, hEI9, hER, hi4⟩)
set_option maxHeartbeats 1000000 in
theorem rd_memberF2 {g : xe_G} {m0 : Nat} {q : Nat → Nat} {z : Nat × Nat} {I : rI} {R : rR} {M : mi_H} {f : Nat → Int32} {n n2 k : Nat} {E : List (Nat × Nat)} {B : List Nat} {t : Int32} (hR : RS g m0 q z I R M) (hi18 : I 18 = some (nI n2)) (hi25 : I 25 = some (nI B.length)) (hQ : FQ f n E B 0 B.length I R) (hn2 : n2 ≤ 65540) (ht : t = 0) (hk : k < B.length) (hBl : B.length < 65536) : pt (mT g) 223 [.ref m0, .int t, .int (nI k), .int 2] M (fun v M' => (∃  (I' : rI) (R' : rR), v = some (.int (nI (by2 f (B.getD k 0 + 4)))) ∧ RS g m0 q z I' R' M' ∧ eqI [0] I I' ∧ eqR [] R R' ∧ I' 0 = some 0)) := by
  refine pt_in (b := mb_223 g) rfl (fun kf => ?_)
  show pl (mT g) kf (mb_223 g).2 (0, [(0, .ref m0), (1, .int t), (2, .int (nI k)), (3, .int 2)], [], M) _
  have hEI : eqI [0] I I := eqI.rf
  have hER : eqR [] R R := eqR.rf
  have g9 := hQ k hk
  rw [Nat.zero_add] at g9
  refine ps_st (S' := (1, [(0, .ref m0), (1, .int t), (2, .int (nI k)), (3, .int 2)], [.ref m0], M)) rfl rfl rfl ?_
  refine ps_st (S' := (2, [(0, .ref m0), (1, .int t), (2, .int (nI k)), (3, .int 2)], [.int 0, .ref m0], M)) rfl rfl rfl ?_
  refine pr_put (j := 0) rfl hR rfl (fun M1 I2 hR3 hi4 hI5 => ?_)
  have hi6 := (hI5 18 (by decide)).trans hi18
  have hi7 := (hI5 25 (by decide)).trans hi25
  have hQ_8 := hQ.mono (pIx hI5 (by decide)) (fun _ _ => rfl)
  have hEI9 := hEI.put hI5 (by decide)
  show pl _ _ _ (5, [(0, .ref m0), (1, .int t), (2, .int (nI k)), (3, .int 2)], [], M1) _
  refine ps_st (S' := (6, [(0, .ref m0), (1, .int t), (2, .int (nI k)), (3, .int 2)], [.int 2], M1)) rfl rfl rfl ?_
  refine ps_if (S1 := (15, [(0, .ref m0)], [], M1)) (S2 := (9, [(0, .ref m0), (1, .int t), (2, .int (nI k)), (3, .int 2)], [], M1)) rfl rfl rfl (fun c_6 => ?_) (fun c_6 => ?_)
  · exact absurd (of_decide_eq_true c_6) (by decide)
  refine ps_st (S' := (10, [(0, .ref m0), (1, .int t), (2, .int (nI k)), (3, .int 2)], [.int 2], M1)) rfl rfl rfl ?_
  refine ps_st (S' := (12, [(0, .ref m0), (1, .int t), (2, .int (nI k)), (3, .int 2)], [.int 9, .int 2], M1)) rfl rfl rfl ?_
  refine ps_if2 (S1 := (20, [(0, .ref m0), (1, .int t), (2, .int (nI k)), (3, .int 2)], [], M1)) (S2 := (15, [(0, .ref m0)], [], M1)) rfl rfl rfl (fun c_12 => ?_) (fun c_12 => ?_)
  rotate_left
  · exact absurd (by decide) (of_decide_eq_false c_12)
  refine ps_st (S' := (21, [(0, .ref m0), (1, .int t), (2, .int (nI k)), (3, .int 2)], [.ref m0], M1)) rfl rfl rfl ?_
  refine pr_int (j := 18) (S' := (24, [(0, .ref m0), (1, .int t), (2, .int (nI k)), (3, .int 2)], [.int (nI n2)], M1)) rfl hR3 rfl hi6 rfl ?_
  refine ps_if (S1 := (50, [], [], M1)) (S2 := (27, [(0, .ref m0), (1, .int t), (2, .int (nI k)), (3, .int 2)], [], M1)) rfl rfl rfl (fun c_24 => ?_) (fun c_24 => ?_)
  · exact absurd (of_decide_eq_true c_24) (nI_n0 (by omega))
  refine ps_st (S' := (28, [(0, .ref m0), (1, .int t), (2, .int (nI k)), (3, .int 2)], [.int (nI k)], M1)) rfl rfl rfl ?_
  refine ps_if (S1 := (50, [], [], M1)) (S2 := (31, [(0, .ref m0), (1, .int t), (2, .int (nI k)), (3, .int 2)], [], M1)) rfl rfl rfl (fun c_28 => ?_) (fun c_28 => ?_)
  · exact absurd (of_decide_eq_true c_28) (nI_n0 (by omega))
  refine ps_st (S' := (32, [(0, .ref m0), (1, .int t), (2, .int (nI k)), (3, .int 2)], [.int (nI k)], M1)) rfl rfl rfl ?_
  refine ps_st (S' := (33, [(0, .ref m0), (1, .int t), (2, .int (nI k)), (3, .int 2)], [.int t, .int (nI k)], M1)) rfl rfl rfl ?_
  refine ps_if (S1 := (43, [(0, .ref m0), (1, .int t), (2, .int (nI k)), (3, .int 2)], [.int (nI k)], M1)) (S2 := (36, [(0, .ref m0), (1, .int t), (2, .int (nI k)), (3, .int 2)], [.int (nI k)], M1)) rfl rfl rfl (fun c_33 => ?_) (fun c_33 => ?_)
  rotate_left
  · exact absurd (ht) (of_decide_eq_false c_33)
  refine ps_st (S' := (44, [(0, .ref m0), (1, .int t), (2, .int (nI k)), (3, .int 2)], [.ref m0, .int (nI k)], M1)) rfl rfl rfl ?_
  refine pr_int (j := 25) (S' := (47, [(0, .ref m0), (1, .int t), (2, .int (nI k)), (3, .int 2)], [.int (nI B.length), .int (nI k)], M1)) rfl hR3 rfl hi7 rfl ?_
  refine ps_if2 (S1 := (52, [(0, .ref m0), (1, .int t), (2, .int (nI k)), (3, .int 2)], [], M1)) (S2 := (50, [], [], M1)) rfl rfl rfl (fun c_47 => ?_) (fun c_47 => ?_)
  rotate_left
  · exact absurd ((lt_nI (p := k) (n := B.length) (by omega) (by omega)).mpr hk) (of_decide_eq_false c_47)
  refine ps_st (S' := (53, [(0, .ref m0), (1, .int t), (2, .int (nI k)), (3, .int 2)], [.int 2], M1)) rfl rfl rfl ?_
  refine ps_st (S' := (128, [(0, .ref m0), (1, .int t), (2, .int (nI k)), (3, .int 2)], [], M1)) rfl rfl rfl ?_
  refine ps_st (S' := (129, [(0, .ref m0), (1, .int t), (2, .int (nI k)), (3, .int 2)], [.int t], M1)) rfl rfl rfl ?_
  refine ps_if (S1 := (141, [(0, .ref m0), (1, .int t), (2, .int (nI k)), (3, .int 2)], [], M1)) (S2 := (132, [(0, .ref m0), (1, .int t), (2, .int (nI k)), (3, .int 2)], [], M1)) rfl rfl rfl (fun c_129 => ?_) (fun c_129 => ?_)
  rotate_left
  · exact absurd (ht) (of_decide_eq_false c_129)
  refine ps_st (S' := (142, [(0, .ref m0), (1, .int t), (2, .int (nI k)), (3, .int 2)], [.ref m0], M1)) rfl rfl rfl ?_
  refine pr_ref (j := 33) (S' := (145, [(0, .ref m0), (1, .int t), (2, .int (nI k)), (3, .int 2)], [.ref (q 33)], M1)) rfl hR3 rfl rfl ?_
  refine ps_st (S' := (146, [(0, .ref m0), (1, .int t), (2, .int (nI k)), (3, .int 2)], [.int (nI k), .ref (q 33)], M1)) rfl rfl rfl ?_
  refine pr_ld (a := 33) (j := k) (y := (nI (by2 f (B.getD k 0 + 4)))) (S' := (147, [], [.int (nI (by2 f (B.getD k 0 + 4)))], M1)) rfl hR3 rfl (by omega) (fun _ => g9.2.2.2.2) rfl (fun i1_146 => ?_)
  exact ps_reti rfl (⟨I2, R, rfl, hR3, hEI9, hER, hi4⟩)
set_option maxHeartbeats 1000000 in
theorem rd_memberF3 {g : xe_G} {m0 : Nat} {q : Nat → Nat} {z : Nat × Nat} {I : rI} {R : rR} {M : mi_H} {f : Nat → Int32} {n n2 k : Nat} {E : List (Nat × Nat)} {B : List Nat} {t : Int32} (hR : RS g m0 q z I R M) (hi18 : I 18 = some (nI n2)) (hi25 : I 25 = some (nI B.length)) (hQ : FQ f n E B 0 B.length I R) (hn2 : n2 ≤ 65540) (ht : t = 0) (hk : k < B.length) (hBl : B.length < 65536) : pt (mT g) 223 [.ref m0, .int t, .int (nI k), .int 3] M (fun v M' => (∃  (I' : rI) (R' : rR), v = some (.int (nI (fK f n E (B.getD k 0)).1)) ∧ RS g m0 q z I' R' M' ∧ eqI [0] I I' ∧ eqR [] R R' ∧ I' 0 = some 0)) := by
  refine pt_in (b := mb_223 g) rfl (fun kf => ?_)
  show pl (mT g) kf (mb_223 g).2 (0, [(0, .ref m0), (1, .int t), (2, .int (nI k)), (3, .int 3)], [], M) _
  have hEI : eqI [0] I I := eqI.rf
  have hER : eqR [] R R := eqR.rf
  have g9 := hQ k hk
  rw [Nat.zero_add] at g9
  refine ps_st (S' := (1, [(0, .ref m0), (1, .int t), (2, .int (nI k)), (3, .int 3)], [.ref m0], M)) rfl rfl rfl ?_
  refine ps_st (S' := (2, [(0, .ref m0), (1, .int t), (2, .int (nI k)), (3, .int 3)], [.int 0, .ref m0], M)) rfl rfl rfl ?_
  refine pr_put (j := 0) rfl hR rfl (fun M1 I2 hR3 hi4 hI5 => ?_)
  have hi6 := (hI5 18 (by decide)).trans hi18
  have hi7 := (hI5 25 (by decide)).trans hi25
  have hQ_8 := hQ.mono (pIx hI5 (by decide)) (fun _ _ => rfl)
  have hEI9 := hEI.put hI5 (by decide)
  show pl _ _ _ (5, [(0, .ref m0), (1, .int t), (2, .int (nI k)), (3, .int 3)], [], M1) _
  refine ps_st (S' := (6, [(0, .ref m0), (1, .int t), (2, .int (nI k)), (3, .int 3)], [.int 3], M1)) rfl rfl rfl ?_
  refine ps_if (S1 := (15, [(0, .ref m0)], [], M1)) (S2 := (9, [(0, .ref m0), (1, .int t), (2, .int (nI k)), (3, .int 3)], [], M1)) rfl rfl rfl (fun c_6 => ?_) (fun c_6 => ?_)
  · exact absurd (of_decide_eq_true c_6) (by decide)
  refine ps_st (S' := (10, [(0, .ref m0), (1, .int t), (2, .int (nI k)), (3, .int 3)], [.int 3], M1)) rfl rfl rfl ?_
  refine ps_st (S' := (12, [(0, .ref m0), (1, .int t), (2, .int (nI k)), (3, .int 3)], [.int 9, .int 3], M1)) rfl rfl rfl ?_
  refine ps_if2 (S1 := (20, [(0, .ref m0), (1, .int t), (2, .int (nI k)), (3, .int 3)], [], M1)) (S2 := (15, [(0, .ref m0)], [], M1)) rfl rfl rfl (fun c_12 => ?_) (fun c_12 => ?_)
  rotate_left
  · exact absurd (by decide) (of_decide_eq_false c_12)
  refine ps_st (S' := (21, [(0, .ref m0), (1, .int t), (2, .int (nI k)), (3, .int 3)], [.ref m0], M1)) rfl rfl rfl ?_
  refine pr_int (j := 18) (S' := (24, [(0, .ref m0), (1, .int t), (2, .int (nI k)), (3, .int 3)], [.int (nI n2)], M1)) rfl hR3 rfl hi6 rfl ?_
  refine ps_if (S1 := (50, [], [], M1)) (S2 := (27, [(0, .ref m0), (1, .int t), (2, .int (nI k)), (3, .int 3)], [], M1)) rfl rfl rfl (fun c_24 => ?_) (fun c_24 => ?_)
  · exact absurd (of_decide_eq_true c_24) (nI_n0 (by omega))
  refine ps_st (S' := (28, [(0, .ref m0), (1, .int t), (2, .int (nI k)), (3, .int 3)], [.int (nI k)], M1)) rfl rfl rfl ?_
  refine ps_if (S1 := (50, [], [], M1)) (S2 := (31, [(0, .ref m0), (1, .int t), (2, .int (nI k)), (3, .int 3)], [], M1)) rfl rfl rfl (fun c_28 => ?_) (fun c_28 => ?_)
  · exact absurd (of_decide_eq_true c_28) (nI_n0 (by omega))
  refine ps_st (S' := (32, [(0, .ref m0), (1, .int t), (2, .int (nI k)), (3, .int 3)], [.int (nI k)], M1)) rfl rfl rfl ?_
  refine ps_st (S' := (33, [(0, .ref m0), (1, .int t), (2, .int (nI k)), (3, .int 3)], [.int t, .int (nI k)], M1)) rfl rfl rfl ?_
  refine ps_if (S1 := (43, [(0, .ref m0), (1, .int t), (2, .int (nI k)), (3, .int 3)], [.int (nI k)], M1)) (S2 := (36, [(0, .ref m0), (1, .int t), (2, .int (nI k)), (3, .int 3)], [.int (nI k)], M1)) rfl rfl rfl (fun c_33 => ?_) (fun c_33 => ?_)
  rotate_left
  · exact absurd (ht) (of_decide_eq_false c_33)
  refine ps_st (S' := (44, [(0, .ref m0), (1, .int t), (2, .int (nI k)), (3, .int 3)], [.ref m0, .int (nI k)], M1)) rfl rfl rfl ?_
  refine pr_int (j := 25) (S' := (47, [(0, .ref m0), (1, .int t), (2, .int (nI k)), (3, .int 3)], [.int (nI B.length), .int (nI k)], M1)) rfl hR3 rfl hi7 rfl ?_
  refine ps_if2 (S1 := (52, [(0, .ref m0), (1, .int t), (2, .int (nI k)), (3, .int 3)], [], M1)) (S2 := (50, [], [], M1)) rfl rfl rfl (fun c_47 => ?_) (fun c_47 => ?_)
  rotate_left
  · exact absurd ((lt_nI (p := k) (n := B.length) (by omega) (by omega)).mpr hk) (of_decide_eq_false c_47)
  refine ps_st (S' := (53, [(0, .ref m0), (1, .int t), (2, .int (nI k)), (3, .int 3)], [.int 3], M1)) rfl rfl rfl ?_
  refine ps_st (S' := (148, [(0, .ref m0), (1, .int t), (2, .int (nI k)), (3, .int 3)], [], M1)) rfl rfl rfl ?_
  refine ps_st (S' := (149, [(0, .ref m0), (1, .int t), (2, .int (nI k)), (3, .int 3)], [.int t], M1)) rfl rfl rfl ?_
  refine ps_if (S1 := (161, [(0, .ref m0), (1, .int t), (2, .int (nI k)), (3, .int 3)], [], M1)) (S2 := (152, [(0, .ref m0), (1, .int t), (2, .int (nI k)), (3, .int 3)], [], M1)) rfl rfl rfl (fun c_149 => ?_) (fun c_149 => ?_)
  rotate_left
  · exact absurd (ht) (of_decide_eq_false c_149)
  refine ps_st (S' := (162, [(0, .ref m0), (1, .int t), (2, .int (nI k)), (3, .int 3)], [.ref m0], M1)) rfl rfl rfl ?_
  refine pr_ref (j := 31) (S' := (165, [(0, .ref m0), (1, .int t), (2, .int (nI k)), (3, .int 3)], [.ref (q 31)], M1)) rfl hR3 rfl rfl ?_
  refine ps_st (S' := (166, [(0, .ref m0), (1, .int t), (2, .int (nI k)), (3, .int 3)], [.int (nI k), .ref (q 31)], M1)) rfl rfl rfl ?_
  refine pr_ld (a := 31) (j := k) (y := (nI (fK f n E (B.getD k 0)).1)) (S' := (167, [], [.int (nI (fK f n E (B.getD k 0)).1)], M1)) rfl hR3 rfl (by omega) (fun _ => g9.2.2.1) rfl (fun i1_166 => ?_)
  exact ps_reti rfl (⟨I2, R, rfl, hR3, hEI9, hER, hi4⟩)
set_option maxHeartbeats 1000000 in
theorem rd_memberF4 {g : xe_G} {m0 : Nat} {q : Nat → Nat} {z : Nat × Nat} {I : rI} {R : rR} {M : mi_H} {f : Nat → Int32} {n n2 k : Nat} {E : List (Nat × Nat)} {B : List Nat} {t : Int32} (hR : RS g m0 q z I R M) (hi18 : I 18 = some (nI n2)) (hi25 : I 25 = some (nI B.length)) (hQ : FQ f n E B 0 B.length I R) (hn2 : n2 ≤ 65540) (ht : t = 0) (hk : k < B.length) (hBl : B.length < 65536) : pt (mT g) 223 [.ref m0, .int t, .int (nI k), .int 4] M (fun v M' => (∃  (I' : rI) (R' : rR), v = some (.int (nI (fK f n E (B.getD k 0)).2)) ∧ RS g m0 q z I' R' M' ∧ eqI [0] I I' ∧ eqR [] R R' ∧ I' 0 = some 0)) := by
  refine pt_in (b := mb_223 g) rfl (fun kf => ?_)
  show pl (mT g) kf (mb_223 g).2 (0, [(0, .ref m0), (1, .int t), (2, .int (nI k)), (3, .int 4)], [], M) _
  have hEI : eqI [0] I I := eqI.rf
  have hER : eqR [] R R := eqR.rf
  have g9 := hQ k hk
  rw [Nat.zero_add] at g9
  refine ps_st (S' := (1, [(0, .ref m0), (1, .int t), (2, .int (nI k)), (3, .int 4)], [.ref m0], M)) rfl rfl rfl ?_
  refine ps_st (S' := (2, [(0, .ref m0), (1, .int t), (2, .int (nI k)), (3, .int 4)], [.int 0, .ref m0], M)) rfl rfl rfl ?_
  refine pr_put (j := 0) rfl hR rfl (fun M1 I2 hR3 hi4 hI5 => ?_)
  have hi6 := (hI5 18 (by decide)).trans hi18
  have hi7 := (hI5 25 (by decide)).trans hi25
  have hQ_8 := hQ.mono (pIx hI5 (by decide)) (fun _ _ => rfl)
  have hEI9 := hEI.put hI5 (by decide)
  show pl _ _ _ (5, [(0, .ref m0), (1, .int t), (2, .int (nI k)), (3, .int 4)], [], M1) _
  refine ps_st (S' := (6, [(0, .ref m0), (1, .int t), (2, .int (nI k)), (3, .int 4)], [.int 4], M1)) rfl rfl rfl ?_
  refine ps_if (S1 := (15, [(0, .ref m0)], [], M1)) (S2 := (9, [(0, .ref m0), (1, .int t), (2, .int (nI k)), (3, .int 4)], [], M1)) rfl rfl rfl (fun c_6 => ?_) (fun c_6 => ?_)
  · exact absurd (of_decide_eq_true c_6) (by decide)
  refine ps_st (S' := (10, [(0, .ref m0), (1, .int t), (2, .int (nI k)), (3, .int 4)], [.int 4], M1)) rfl rfl rfl ?_
  refine ps_st (S' := (12, [(0, .ref m0), (1, .int t), (2, .int (nI k)), (3, .int 4)], [.int 9, .int 4], M1)) rfl rfl rfl ?_
  refine ps_if2 (S1 := (20, [(0, .ref m0), (1, .int t), (2, .int (nI k)), (3, .int 4)], [], M1)) (S2 := (15, [(0, .ref m0)], [], M1)) rfl rfl rfl (fun c_12 => ?_) (fun c_12 => ?_)
  rotate_left
  · exact absurd (by decide) (of_decide_eq_false c_12)
  refine ps_st (S' := (21, [(0, .ref m0), (1, .int t), (2, .int (nI k)), (3, .int 4)], [.ref m0], M1)) rfl rfl rfl ?_
  refine pr_int (j := 18) (S' := (24, [(0, .ref m0), (1, .int t), (2, .int (nI k)), (3, .int 4)], [.int (nI n2)], M1)) rfl hR3 rfl hi6 rfl ?_
  refine ps_if (S1 := (50, [], [], M1)) (S2 := (27, [(0, .ref m0), (1, .int t), (2, .int (nI k)), (3, .int 4)], [], M1)) rfl rfl rfl (fun c_24 => ?_) (fun c_24 => ?_)
  · exact absurd (of_decide_eq_true c_24) (nI_n0 (by omega))
  refine ps_st (S' := (28, [(0, .ref m0), (1, .int t), (2, .int (nI k)), (3, .int 4)], [.int (nI k)], M1)) rfl rfl rfl ?_
  refine ps_if (S1 := (50, [], [], M1)) (S2 := (31, [(0, .ref m0), (1, .int t), (2, .int (nI k)), (3, .int 4)], [], M1)) rfl rfl rfl (fun c_28 => ?_) (fun c_28 => ?_)
  · exact absurd (of_decide_eq_true c_28) (nI_n0 (by omega))
  refine ps_st (S' := (32, [(0, .ref m0), (1, .int t), (2, .int (nI k)), (3, .int 4)], [.int (nI k)], M1)) rfl rfl rfl ?_
  refine ps_st (S' := (33, [(0, .ref m0), (1, .int t), (2, .int (nI k)), (3, .int 4)], [.int t, .int (nI k)], M1)) rfl rfl rfl ?_
  refine ps_if (S1 := (43, [(0, .ref m0), (1, .int t), (2, .int (nI k)), (3, .int 4)], [.int (nI k)], M1)) (S2 := (36, [(0, .ref m0), (1, .int t), (2, .int (nI k)), (3, .int 4)], [.int (nI k)], M1)) rfl rfl rfl (fun c_33 => ?_) (fun c_33 => ?_)
  rotate_left
  · exact absurd (ht) (of_decide_eq_false c_33)
  refine ps_st (S' := (44, [(0, .ref m0), (1, .int t), (2, .int (nI k)), (3, .int 4)], [.ref m0, .int (nI k)], M1)) rfl rfl rfl ?_
  refine pr_int (j := 25) (S' := (47, [(0, .ref m0), (1, .int t), (2, .int (nI k)), (3, .int 4)], [.int (nI B.length), .int (nI k)], M1)) rfl hR3 rfl hi7 rfl ?_
  refine ps_if2 (S1 := (52, [(0, .ref m0), (1, .int t), (2, .int (nI k)), (3, .int 4)], [], M1)) (S2 := (50, [], [], M1)) rfl rfl rfl (fun c_47 => ?_) (fun c_47 => ?_)
  rotate_left
  · exact absurd ((lt_nI (p := k) (n := B.length) (by omega) (by omega)).mpr hk) (of_decide_eq_false c_47)
  refine ps_st (S' := (53, [(0, .ref m0), (1, .int t), (2, .int (nI k)), (3, .int 4)], [.int 4], M1)) rfl rfl rfl ?_
  refine ps_st (S' := (168, [(0, .ref m0), (1, .int t), (2, .int (nI k)), (3, .int 4)], [], M1)) rfl rfl rfl ?_
  refine ps_st (S' := (169, [(0, .ref m0), (1, .int t), (2, .int (nI k)), (3, .int 4)], [.int t], M1)) rfl rfl rfl ?_
  refine ps_if (S1 := (181, [(0, .ref m0), (1, .int t), (2, .int (nI k)), (3, .int 4)], [], M1)) (S2 := (172, [(0, .ref m0), (1, .int t), (2, .int (nI k)), (3, .int 4)], [], M1)) rfl rfl rfl (fun c_169 => ?_) (fun c_169 => ?_)
  rotate_left
  · exact absurd (ht) (of_decide_eq_false c_169)
  refine ps_st (S' := (182, [(0, .ref m0), (1, .int t), (2, .int (nI k)), (3, .int 4)], [.ref m0], M1)) rfl rfl rfl ?_
  refine pr_ref (j := 30) (S' := (185, [(0, .ref m0), (1, .int t), (2, .int (nI k)), (3, .int 4)], [.ref (q 30)], M1)) rfl hR3 rfl rfl ?_
  refine ps_st (S' := (186, [(0, .ref m0), (1, .int t), (2, .int (nI k)), (3, .int 4)], [.int (nI k), .ref (q 30)], M1)) rfl rfl rfl ?_
  refine pr_ld (a := 30) (j := k) (y := (nI (fK f n E (B.getD k 0)).2)) (S' := (187, [], [.int (nI (fK f n E (B.getD k 0)).2)], M1)) rfl hR3 rfl (by omega) (fun _ => g9.2.1) rfl (fun i1_186 => ?_)
  exact ps_reti rfl (⟨I2, R, rfl, hR3, hEI9, hER, hi4⟩)
set_option maxHeartbeats 1000000 in
theorem rd_memberF5 {g : xe_G} {m0 : Nat} {q : Nat → Nat} {z : Nat × Nat} {I : rI} {R : rR} {M : mi_H} {f : Nat → Int32} {n n2 k : Nat} {E : List (Nat × Nat)} {B : List Nat} {t : Int32} (hR : RS g m0 q z I R M) (hi18 : I 18 = some (nI n2)) (hi25 : I 25 = some (nI B.length)) (hQ : FQ f n E B 0 B.length I R) (hn2 : n2 ≤ 65540) (ht : t = 0) (hk : k < B.length) (hBl : B.length < 65536) : pt (mT g) 223 [.ref m0, .int t, .int (nI k), .int 5] M (fun v M' => (∃  (I' : rI) (R' : rR), v = some (.int 0) ∧ RS g m0 q z I' R' M' ∧ eqI [0] I I' ∧ eqR [] R R' ∧ I' 0 = some 0)) := by
  refine pt_in (b := mb_223 g) rfl (fun kf => ?_)
  show pl (mT g) kf (mb_223 g).2 (0, [(0, .ref m0), (1, .int t), (2, .int (nI k)), (3, .int 5)], [], M) _
  have hEI : eqI [0] I I := eqI.rf
  have hER : eqR [] R R := eqR.rf
  have g9 := hQ k hk
  rw [Nat.zero_add] at g9
  refine ps_st (S' := (1, [(0, .ref m0), (1, .int t), (2, .int (nI k)), (3, .int 5)], [.ref m0], M)) rfl rfl rfl ?_
  refine ps_st (S' := (2, [(0, .ref m0), (1, .int t), (2, .int (nI k)), (3, .int 5)], [.int 0, .ref m0], M)) rfl rfl rfl ?_
  refine pr_put (j := 0) rfl hR rfl (fun M1 I2 hR3 hi4 hI5 => ?_)
  have hi6 := (hI5 18 (by decide)).trans hi18
  have hi7 := (hI5 25 (by decide)).trans hi25
  have hQ_8 := hQ.mono (pIx hI5 (by decide)) (fun _ _ => rfl)
  have hEI9 := hEI.put hI5 (by decide)
  show pl _ _ _ (5, [(0, .ref m0), (1, .int t), (2, .int (nI k)), (3, .int 5)], [], M1) _
  refine ps_st (S' := (6, [(0, .ref m0), (1, .int t), (2, .int (nI k)), (3, .int 5)], [.int 5], M1)) rfl rfl rfl ?_
  refine ps_if (S1 := (15, [(0, .ref m0)], [], M1)) (S2 := (9, [(0, .ref m0), (1, .int t), (2, .int (nI k)), (3, .int 5)], [], M1)) rfl rfl rfl (fun c_6 => ?_) (fun c_6 => ?_)
  · exact absurd (of_decide_eq_true c_6) (by decide)
  refine ps_st (S' := (10, [(0, .ref m0), (1, .int t), (2, .int (nI k)), (3, .int 5)], [.int 5], M1)) rfl rfl rfl ?_
  refine ps_st (S' := (12, [(0, .ref m0), (1, .int t), (2, .int (nI k)), (3, .int 5)], [.int 9, .int 5], M1)) rfl rfl rfl ?_
  refine ps_if2 (S1 := (20, [(0, .ref m0), (1, .int t), (2, .int (nI k)), (3, .int 5)], [], M1)) (S2 := (15, [(0, .ref m0)], [], M1)) rfl rfl rfl (fun c_12 => ?_) (fun c_12 => ?_)
  rotate_left
  · exact absurd (by decide) (of_decide_eq_false c_12)
  refine ps_st (S' := (21, [(0, .ref m0), (1, .int t), (2, .int (nI k)), (3, .int 5)], [.ref m0], M1)) rfl rfl rfl ?_
  refine pr_int (j := 18) (S' := (24, [(0, .ref m0), (1, .int t), (2, .int (nI k)), (3, .int 5)], [.int (nI n2)], M1)) rfl hR3 rfl hi6 rfl ?_
  refine ps_if (S1 := (50, [], [], M1)) (S2 := (27, [(0, .ref m0), (1, .int t), (2, .int (nI k)), (3, .int 5)], [], M1)) rfl rfl rfl (fun c_24 => ?_) (fun c_24 => ?_)
  · exact absurd (of_decide_eq_true c_24) (nI_n0 (by omega))
  refine ps_st (S' := (28, [(0, .ref m0), (1, .int t), (2, .int (nI k)), (3, .int 5)], [.int (nI k)], M1)) rfl rfl rfl ?_
  refine ps_if (S1 := (50, [], [], M1)) (S2 := (31, [(0, .ref m0), (1, .int t), (2, .int (nI k)), (3, .int 5)], [], M1)) rfl rfl rfl (fun c_28 => ?_) (fun c_28 => ?_)
  · exact absurd (of_decide_eq_true c_28) (nI_n0 (by omega))
  refine ps_st (S' := (32, [(0, .ref m0), (1, .int t), (2, .int (nI k)), (3, .int 5)], [.int (nI k)], M1)) rfl rfl rfl ?_
  refine ps_st (S' := (33, [(0, .ref m0), (1, .int t), (2, .int (nI k)), (3, .int 5)], [.int t, .int (nI k)], M1)) rfl rfl rfl ?_
  refine ps_if (S1 := (43, [(0, .ref m0), (1, .int t), (2, .int (nI k)), (3, .int 5)], [.int (nI k)], M1)) (S2 := (36, [(0, .ref m0), (1, .int t), (2, .int (nI k)), (3, .int 5)], [.int (nI k)], M1)) rfl rfl rfl (fun c_33 => ?_) (fun c_33 => ?_)
  rotate_left
  · exact absurd (ht) (of_decide_eq_false c_33)
  refine ps_st (S' := (44, [(0, .ref m0), (1, .int t), (2, .int (nI k)), (3, .int 5)], [.ref m0, .int (nI k)], M1)) rfl rfl rfl ?_
  refine pr_int (j := 25) (S' := (47, [(0, .ref m0), (1, .int t), (2, .int (nI k)), (3, .int 5)], [.int (nI B.length), .int (nI k)], M1)) rfl hR3 rfl hi7 rfl ?_
  refine ps_if2 (S1 := (52, [(0, .ref m0), (1, .int t), (2, .int (nI k)), (3, .int 5)], [], M1)) (S2 := (50, [], [], M1)) rfl rfl rfl (fun c_47 => ?_) (fun c_47 => ?_)
  rotate_left
  · exact absurd ((lt_nI (p := k) (n := B.length) (by omega) (by omega)).mpr hk) (of_decide_eq_false c_47)
  refine ps_st (S' := (53, [(0, .ref m0), (1, .int t), (2, .int (nI k)), (3, .int 5)], [.int 5], M1)) rfl rfl rfl ?_
  refine ps_st (S' := (188, [(0, .ref m0), (1, .int t), (2, .int (nI k)), (3, .int 5)], [], M1)) rfl rfl rfl ?_
  refine ps_st (S' := (189, [(0, .ref m0), (1, .int t), (2, .int (nI k)), (3, .int 5)], [.int t], M1)) rfl rfl rfl ?_
  refine ps_if (S1 := (194, [(0, .ref m0), (1, .int t), (2, .int (nI k)), (3, .int 5)], [], M1)) (S2 := (192, [(0, .ref m0), (1, .int t), (2, .int (nI k)), (3, .int 5)], [], M1)) rfl rfl rfl (fun c_189 => ?_) (fun c_189 => ?_)
  · exact absurd (of_decide_eq_true c_189) (fun h9 => h9 ht)
  refine ps_st (S' := (193, [(0, .ref m0), (1, .int t), (2, .int (nI k)), (3, .int 5)], [.int 0], M1)) rfl rfl rfl ?_
  exact ps_ret rfl rfl (⟨I2, R, rfl, hR3, hEI9, hER, hi4⟩)
set_option maxHeartbeats 1000000 in
theorem rd_memberF6 {g : xe_G} {m0 : Nat} {q : Nat → Nat} {z : Nat × Nat} {I : rI} {R : rR} {M : mi_H} {f : Nat → Int32} {n n2 k : Nat} {E : List (Nat × Nat)} {B : List Nat} {t : Int32} (hR : RS g m0 q z I R M) (hi18 : I 18 = some (nI n2)) (hi25 : I 25 = some (nI B.length)) (hQ : FQ f n E B 0 B.length I R) (hn2 : n2 ≤ 65540) (ht : t = 0) (hk : k < B.length) (hBl : B.length < 65536) : pt (mT g) 223 [.ref m0, .int t, .int (nI k), .int 6] M (fun v M' => (∃  (I' : rI) (R' : rR), v = some (.int 0) ∧ RS g m0 q z I' R' M' ∧ eqI [0] I I' ∧ eqR [] R R' ∧ I' 0 = some 0)) := by
  refine pt_in (b := mb_223 g) rfl (fun kf => ?_)
  show pl (mT g) kf (mb_223 g).2 (0, [(0, .ref m0), (1, .int t), (2, .int (nI k)), (3, .int 6)], [], M) _
  have hEI : eqI [0] I I := eqI.rf
  have hER : eqR [] R R := eqR.rf
  have g9 := hQ k hk
  rw [Nat.zero_add] at g9
  refine ps_st (S' := (1, [(0, .ref m0), (1, .int t), (2, .int (nI k)), (3, .int 6)], [.ref m0], M)) rfl rfl rfl ?_
  refine ps_st (S' := (2, [(0, .ref m0), (1, .int t), (2, .int (nI k)), (3, .int 6)], [.int 0, .ref m0], M)) rfl rfl rfl ?_
  refine pr_put (j := 0) rfl hR rfl (fun M1 I2 hR3 hi4 hI5 => ?_)
  have hi6 := (hI5 18 (by decide)).trans hi18
  have hi7 := (hI5 25 (by decide)).trans hi25
  have hQ_8 := hQ.mono (pIx hI5 (by decide)) (fun _ _ => rfl)
  have hEI9 := hEI.put hI5 (by decide)
  show pl _ _ _ (5, [(0, .ref m0), (1, .int t), (2, .int (nI k)), (3, .int 6)], [], M1) _
  refine ps_st (S' := (6, [(0, .ref m0), (1, .int t), (2, .int (nI k)), (3, .int 6)], [.int 6], M1)) rfl rfl rfl ?_
  refine ps_if (S1 := (15, [(0, .ref m0)], [], M1)) (S2 := (9, [(0, .ref m0), (1, .int t), (2, .int (nI k)), (3, .int 6)], [], M1)) rfl rfl rfl (fun c_6 => ?_) (fun c_6 => ?_)
  · exact absurd (of_decide_eq_true c_6) (by decide)
  refine ps_st (S' := (10, [(0, .ref m0), (1, .int t), (2, .int (nI k)), (3, .int 6)], [.int 6], M1)) rfl rfl rfl ?_
  refine ps_st (S' := (12, [(0, .ref m0), (1, .int t), (2, .int (nI k)), (3, .int 6)], [.int 9, .int 6], M1)) rfl rfl rfl ?_
  refine ps_if2 (S1 := (20, [(0, .ref m0), (1, .int t), (2, .int (nI k)), (3, .int 6)], [], M1)) (S2 := (15, [(0, .ref m0)], [], M1)) rfl rfl rfl (fun c_12 => ?_) (fun c_12 => ?_)
  rotate_left
  · exact absurd (by decide) (of_decide_eq_false c_12)
  refine ps_st (S' := (21, [(0, .ref m0), (1, .int t), (2, .int (nI k)), (3, .int 6)], [.ref m0], M1)) rfl rfl rfl ?_
  refine pr_int (j := 18) (S' := (24, [(0, .ref m0), (1, .int t), (2, .int (nI k)), (3, .int 6)], [.int (nI n2)], M1)) rfl hR3 rfl hi6 rfl ?_
  refine ps_if (S1 := (50, [], [], M1)) (S2 := (27, [(0, .ref m0), (1, .int t), (2, .int (nI k)), (3, .int 6)], [], M1)) rfl rfl rfl (fun c_24 => ?_) (fun c_24 => ?_)
  · exact absurd (of_decide_eq_true c_24) (nI_n0 (by omega))
  refine ps_st (S' := (28, [(0, .ref m0), (1, .int t), (2, .int (nI k)), (3, .int 6)], [.int (nI k)], M1)) rfl rfl rfl ?_
  refine ps_if (S1 := (50, [], [], M1)) (S2 := (31, [(0, .ref m0), (1, .int t), (2, .int (nI k)), (3, .int 6)], [], M1)) rfl rfl rfl (fun c_28 => ?_) (fun c_28 => ?_)
  · exact absurd (of_decide_eq_true c_28) (nI_n0 (by omega))
  refine ps_st (S' := (32, [(0, .ref m0), (1, .int t), (2, .int (nI k)), (3, .int 6)], [.int (nI k)], M1)) rfl rfl rfl ?_
  refine ps_st (S' := (33, [(0, .ref m0), (1, .int t), (2, .int (nI k)), (3, .int 6)], [.int t, .int (nI k)], M1)) rfl rfl rfl ?_
  refine ps_if (S1 := (43, [(0, .ref m0), (1, .int t), (2, .int (nI k)), (3, .int 6)], [.int (nI k)], M1)) (S2 := (36, [(0, .ref m0), (1, .int t), (2, .int (nI k)), (3, .int 6)], [.int (nI k)], M1)) rfl rfl rfl (fun c_33 => ?_) (fun c_33 => ?_)
  rotate_left
  · exact absurd (ht) (of_decide_eq_false c_33)
  refine ps_st (S' := (44, [(0, .ref m0), (1, .int t), (2, .int (nI k)), (3, .int 6)], [.ref m0, .int (nI k)], M1)) rfl rfl rfl ?_
  refine pr_int (j := 25) (S' := (47, [(0, .ref m0), (1, .int t), (2, .int (nI k)), (3, .int 6)], [.int (nI B.length), .int (nI k)], M1)) rfl hR3 rfl hi7 rfl ?_
  refine ps_if2 (S1 := (52, [(0, .ref m0), (1, .int t), (2, .int (nI k)), (3, .int 6)], [], M1)) (S2 := (50, [], [], M1)) rfl rfl rfl (fun c_47 => ?_) (fun c_47 => ?_)
  rotate_left
  · exact absurd ((lt_nI (p := k) (n := B.length) (by omega) (by omega)).mpr hk) (of_decide_eq_false c_47)
  refine ps_st (S' := (53, [(0, .ref m0), (1, .int t), (2, .int (nI k)), (3, .int 6)], [.int 6], M1)) rfl rfl rfl ?_
  refine ps_st (S' := (188, [(0, .ref m0), (1, .int t), (2, .int (nI k)), (3, .int 6)], [], M1)) rfl rfl rfl ?_
  refine ps_st (S' := (189, [(0, .ref m0), (1, .int t), (2, .int (nI k)), (3, .int 6)], [.int t], M1)) rfl rfl rfl ?_
  refine ps_if (S1 := (194, [(0, .ref m0), (1, .int t), (2, .int (nI k)), (3, .int 6)], [], M1)) (S2 := (192, [(0, .ref m0), (1, .int t), (2, .int (nI k)), (3, .int 6)], [], M1)) rfl rfl rfl (fun c_189 => ?_) (fun c_189 => ?_)
  · exact absurd (of_decide_eq_true c_189) (fun h9 => h9 ht)
  refine ps_st (S' := (193, [(0, .ref m0), (1, .int t), (2, .int (nI k)), (3, .int 6)], [.int 0], M1)) rfl rfl rfl ?_
  exact ps_ret rfl rfl (⟨I2, R, rfl, hR3, hEI9, hER, hi4⟩)
set_option maxHeartbeats 1000000 in
theorem rd_memberF7 {g : xe_G} {m0 : Nat} {q : Nat → Nat} {z : Nat × Nat} {I : rI} {R : rR} {M : mi_H} {f : Nat → Int32} {n n2 k : Nat} {E : List (Nat × Nat)} {B : List Nat} {t : Int32} (hR : RS g m0 q z I R M) (hi18 : I 18 = some (nI n2)) (hi25 : I 25 = some (nI B.length)) (hQ : FQ f n E B 0 B.length I R) (hn2 : n2 ≤ 65540) (ht : t = 0) (hk : k < B.length) (hBl : B.length < 65536) : pt (mT g) 223 [.ref m0, .int t, .int (nI k), .int 7] M (fun v M' => (∃  (I' : rI) (R' : rR), v = some (.int 0) ∧ RS g m0 q z I' R' M' ∧ eqI [0] I I' ∧ eqR [] R R' ∧ I' 0 = some 0)) := by
  refine pt_in (b := mb_223 g) rfl (fun kf => ?_)
  show pl (mT g) kf (mb_223 g).2 (0, [(0, .ref m0), (1, .int t), (2, .int (nI k)), (3, .int 7)], [], M) _
  have hEI : eqI [0] I I := eqI.rf
  have hER : eqR [] R R := eqR.rf
  have g9 := hQ k hk
  rw [Nat.zero_add] at g9
  refine ps_st (S' := (1, [(0, .ref m0), (1, .int t), (2, .int (nI k)), (3, .int 7)], [.ref m0], M)) rfl rfl rfl ?_
  refine ps_st (S' := (2, [(0, .ref m0), (1, .int t), (2, .int (nI k)), (3, .int 7)], [.int 0, .ref m0], M)) rfl rfl rfl ?_
  refine pr_put (j := 0) rfl hR rfl (fun M1 I2 hR3 hi4 hI5 => ?_)
  have hi6 := (hI5 18 (by decide)).trans hi18
  have hi7 := (hI5 25 (by decide)).trans hi25
  have hQ_8 := hQ.mono (pIx hI5 (by decide)) (fun _ _ => rfl)
  have hEI9 := hEI.put hI5 (by decide)
  show pl _ _ _ (5, [(0, .ref m0), (1, .int t), (2, .int (nI k)), (3, .int 7)], [], M1) _
  refine ps_st (S' := (6, [(0, .ref m0), (1, .int t), (2, .int (nI k)), (3, .int 7)], [.int 7], M1)) rfl rfl rfl ?_
  refine ps_if (S1 := (15, [(0, .ref m0)], [], M1)) (S2 := (9, [(0, .ref m0), (1, .int t), (2, .int (nI k)), (3, .int 7)], [], M1)) rfl rfl rfl (fun c_6 => ?_) (fun c_6 => ?_)
  · exact absurd (of_decide_eq_true c_6) (by decide)
  refine ps_st (S' := (10, [(0, .ref m0), (1, .int t), (2, .int (nI k)), (3, .int 7)], [.int 7], M1)) rfl rfl rfl ?_
  refine ps_st (S' := (12, [(0, .ref m0), (1, .int t), (2, .int (nI k)), (3, .int 7)], [.int 9, .int 7], M1)) rfl rfl rfl ?_
  refine ps_if2 (S1 := (20, [(0, .ref m0), (1, .int t), (2, .int (nI k)), (3, .int 7)], [], M1)) (S2 := (15, [(0, .ref m0)], [], M1)) rfl rfl rfl (fun c_12 => ?_) (fun c_12 => ?_)
  rotate_left
  · exact absurd (by decide) (of_decide_eq_false c_12)
  refine ps_st (S' := (21, [(0, .ref m0), (1, .int t), (2, .int (nI k)), (3, .int 7)], [.ref m0], M1)) rfl rfl rfl ?_
  refine pr_int (j := 18) (S' := (24, [(0, .ref m0), (1, .int t), (2, .int (nI k)), (3, .int 7)], [.int (nI n2)], M1)) rfl hR3 rfl hi6 rfl ?_
  refine ps_if (S1 := (50, [], [], M1)) (S2 := (27, [(0, .ref m0), (1, .int t), (2, .int (nI k)), (3, .int 7)], [], M1)) rfl rfl rfl (fun c_24 => ?_) (fun c_24 => ?_)
  · exact absurd (of_decide_eq_true c_24) (nI_n0 (by omega))
  refine ps_st (S' := (28, [(0, .ref m0), (1, .int t), (2, .int (nI k)), (3, .int 7)], [.int (nI k)], M1)) rfl rfl rfl ?_
  refine ps_if (S1 := (50, [], [], M1)) (S2 := (31, [(0, .ref m0), (1, .int t), (2, .int (nI k)), (3, .int 7)], [], M1)) rfl rfl rfl (fun c_28 => ?_) (fun c_28 => ?_)
  · exact absurd (of_decide_eq_true c_28) (nI_n0 (by omega))
  refine ps_st (S' := (32, [(0, .ref m0), (1, .int t), (2, .int (nI k)), (3, .int 7)], [.int (nI k)], M1)) rfl rfl rfl ?_
  refine ps_st (S' := (33, [(0, .ref m0), (1, .int t), (2, .int (nI k)), (3, .int 7)], [.int t, .int (nI k)], M1)) rfl rfl rfl ?_
  refine ps_if (S1 := (43, [(0, .ref m0), (1, .int t), (2, .int (nI k)), (3, .int 7)], [.int (nI k)], M1)) (S2 := (36, [(0, .ref m0), (1, .int t), (2, .int (nI k)), (3, .int 7)], [.int (nI k)], M1)) rfl rfl rfl (fun c_33 => ?_) (fun c_33 => ?_)
  rotate_left
  · exact absurd (ht) (of_decide_eq_false c_33)
  refine ps_st (S' := (44, [(0, .ref m0), (1, .int t), (2, .int (nI k)), (3, .int 7)], [.ref m0, .int (nI k)], M1)) rfl rfl rfl ?_
  refine pr_int (j := 25) (S' := (47, [(0, .ref m0), (1, .int t), (2, .int (nI k)), (3, .int 7)], [.int (nI B.length), .int (nI k)], M1)) rfl hR3 rfl hi7 rfl ?_
  refine ps_if2 (S1 := (52, [(0, .ref m0), (1, .int t), (2, .int (nI k)), (3, .int 7)], [], M1)) (S2 := (50, [], [], M1)) rfl rfl rfl (fun c_47 => ?_) (fun c_47 => ?_)
  rotate_left
  · exact absurd ((lt_nI (p := k) (n := B.length) (by omega) (by omega)).mpr hk) (of_decide_eq_false c_47)
  refine ps_st (S' := (53, [(0, .ref m0), (1, .int t), (2, .int (nI k)), (3, .int 7)], [.int 7], M1)) rfl rfl rfl ?_
  refine ps_st (S' := (188, [(0, .ref m0), (1, .int t), (2, .int (nI k)), (3, .int 7)], [], M1)) rfl rfl rfl ?_
  refine ps_st (S' := (189, [(0, .ref m0), (1, .int t), (2, .int (nI k)), (3, .int 7)], [.int t], M1)) rfl rfl rfl ?_
  refine ps_if (S1 := (194, [(0, .ref m0), (1, .int t), (2, .int (nI k)), (3, .int 7)], [], M1)) (S2 := (192, [(0, .ref m0), (1, .int t), (2, .int (nI k)), (3, .int 7)], [], M1)) rfl rfl rfl (fun c_189 => ?_) (fun c_189 => ?_)
  · exact absurd (of_decide_eq_true c_189) (fun h9 => h9 ht)
  refine ps_st (S' := (193, [(0, .ref m0), (1, .int t), (2, .int (nI k)), (3, .int 7)], [.int 0], M1)) rfl rfl rfl ?_
  exact ps_ret rfl rfl (⟨I2, R, rfl, hR3, hEI9, hER, hi4⟩)
set_option maxHeartbeats 1000000 in
theorem rd_memberF8 {g : xe_G} {m0 : Nat} {q : Nat → Nat} {z : Nat × Nat} {I : rI} {R : rR} {M : mi_H} {f : Nat → Int32} {n n2 k : Nat} {E : List (Nat × Nat)} {B : List Nat} {t : Int32} (hR : RS g m0 q z I R M) (hi18 : I 18 = some (nI n2)) (hi25 : I 25 = some (nI B.length)) (hQ : FQ f n E B 0 B.length I R) (hn2 : n2 ≤ 65540) (ht : t = 0) (hk : k < B.length) (hBl : B.length < 65536) : pt (mT g) 223 [.ref m0, .int t, .int (nI k), .int 8] M (fun v M' => (∃  (I' : rI) (R' : rR), v = some (.int 0) ∧ RS g m0 q z I' R' M' ∧ eqI [0] I I' ∧ eqR [] R R' ∧ I' 0 = some 0)) := by
  refine pt_in (b := mb_223 g) rfl (fun kf => ?_)
  show pl (mT g) kf (mb_223 g).2 (0, [(0, .ref m0), (1, .int t), (2, .int (nI k)), (3, .int 8)], [], M) _
  have hEI : eqI [0] I I := eqI.rf
  have hER : eqR [] R R := eqR.rf
  have g9 := hQ k hk
  rw [Nat.zero_add] at g9
  refine ps_st (S' := (1, [(0, .ref m0), (1, .int t), (2, .int (nI k)), (3, .int 8)], [.ref m0], M)) rfl rfl rfl ?_
  refine ps_st (S' := (2, [(0, .ref m0), (1, .int t), (2, .int (nI k)), (3, .int 8)], [.int 0, .ref m0], M)) rfl rfl rfl ?_
  refine pr_put (j := 0) rfl hR rfl (fun M1 I2 hR3 hi4 hI5 => ?_)
  have hi6 := (hI5 18 (by decide)).trans hi18
  have hi7 := (hI5 25 (by decide)).trans hi25
  have hQ_8 := hQ.mono (pIx hI5 (by decide)) (fun _ _ => rfl)
  have hEI9 := hEI.put hI5 (by decide)
  show pl _ _ _ (5, [(0, .ref m0), (1, .int t), (2, .int (nI k)), (3, .int 8)], [], M1) _
  refine ps_st (S' := (6, [(0, .ref m0), (1, .int t), (2, .int (nI k)), (3, .int 8)], [.int 8], M1)) rfl rfl rfl ?_
  refine ps_if (S1 := (15, [(0, .ref m0)], [], M1)) (S2 := (9, [(0, .ref m0), (1, .int t), (2, .int (nI k)), (3, .int 8)], [], M1)) rfl rfl rfl (fun c_6 => ?_) (fun c_6 => ?_)
  · exact absurd (of_decide_eq_true c_6) (by decide)
  refine ps_st (S' := (10, [(0, .ref m0), (1, .int t), (2, .int (nI k)), (3, .int 8)], [.int 8], M1)) rfl rfl rfl ?_
  refine ps_st (S' := (12, [(0, .ref m0), (1, .int t), (2, .int (nI k)), (3, .int 8)], [.int 9, .int 8], M1)) rfl rfl rfl ?_
  refine ps_if2 (S1 := (20, [(0, .ref m0), (1, .int t), (2, .int (nI k)), (3, .int 8)], [], M1)) (S2 := (15, [(0, .ref m0)], [], M1)) rfl rfl rfl (fun c_12 => ?_) (fun c_12 => ?_)
  rotate_left
  · exact absurd (by decide) (of_decide_eq_false c_12)
  refine ps_st (S' := (21, [(0, .ref m0), (1, .int t), (2, .int (nI k)), (3, .int 8)], [.ref m0], M1)) rfl rfl rfl ?_
  refine pr_int (j := 18) (S' := (24, [(0, .ref m0), (1, .int t), (2, .int (nI k)), (3, .int 8)], [.int (nI n2)], M1)) rfl hR3 rfl hi6 rfl ?_
  refine ps_if (S1 := (50, [], [], M1)) (S2 := (27, [(0, .ref m0), (1, .int t), (2, .int (nI k)), (3, .int 8)], [], M1)) rfl rfl rfl (fun c_24 => ?_) (fun c_24 => ?_)
  · exact absurd (of_decide_eq_true c_24) (nI_n0 (by omega))
  refine ps_st (S' := (28, [(0, .ref m0), (1, .int t), (2, .int (nI k)), (3, .int 8)], [.int (nI k)], M1)) rfl rfl rfl ?_
  refine ps_if (S1 := (50, [], [], M1)) (S2 := (31, [(0, .ref m0), (1, .int t), (2, .int (nI k)), (3, .int 8)], [], M1)) rfl rfl rfl (fun c_28 => ?_) (fun c_28 => ?_)
  · exact absurd (of_decide_eq_true c_28) (nI_n0 (by omega))
  refine ps_st (S' := (32, [(0, .ref m0), (1, .int t), (2, .int (nI k)), (3, .int 8)], [.int (nI k)], M1)) rfl rfl rfl ?_
  refine ps_st (S' := (33, [(0, .ref m0), (1, .int t), (2, .int (nI k)), (3, .int 8)], [.int t, .int (nI k)], M1)) rfl rfl rfl ?_
  refine ps_if (S1 := (43, [(0, .ref m0), (1, .int t), (2, .int (nI k)), (3, .int 8)], [.int (nI k)], M1)) (S2 := (36, [(0, .ref m0), (1, .int t), (2, .int (nI k)), (3, .int 8)], [.int (nI k)], M1)) rfl rfl rfl (fun c_33 => ?_) (fun c_33 => ?_)
  rotate_left
  · exact absurd (ht) (of_decide_eq_false c_33)
  refine ps_st (S' := (44, [(0, .ref m0), (1, .int t), (2, .int (nI k)), (3, .int 8)], [.ref m0, .int (nI k)], M1)) rfl rfl rfl ?_
  refine pr_int (j := 25) (S' := (47, [(0, .ref m0), (1, .int t), (2, .int (nI k)), (3, .int 8)], [.int (nI B.length), .int (nI k)], M1)) rfl hR3 rfl hi7 rfl ?_
  refine ps_if2 (S1 := (52, [(0, .ref m0), (1, .int t), (2, .int (nI k)), (3, .int 8)], [], M1)) (S2 := (50, [], [], M1)) rfl rfl rfl (fun c_47 => ?_) (fun c_47 => ?_)
  rotate_left
  · exact absurd ((lt_nI (p := k) (n := B.length) (by omega) (by omega)).mpr hk) (of_decide_eq_false c_47)
  refine ps_st (S' := (53, [(0, .ref m0), (1, .int t), (2, .int (nI k)), (3, .int 8)], [.int 8], M1)) rfl rfl rfl ?_
  refine ps_st (S' := (188, [(0, .ref m0), (1, .int t), (2, .int (nI k)), (3, .int 8)], [], M1)) rfl rfl rfl ?_
  refine ps_st (S' := (189, [(0, .ref m0), (1, .int t), (2, .int (nI k)), (3, .int 8)], [.int t], M1)) rfl rfl rfl ?_
  refine ps_if (S1 := (194, [(0, .ref m0), (1, .int t), (2, .int (nI k)), (3, .int 8)], [], M1)) (S2 := (192, [(0, .ref m0), (1, .int t), (2, .int (nI k)), (3, .int 8)], [], M1)) rfl rfl rfl (fun c_189 => ?_) (fun c_189 => ?_)
  · exact absurd (of_decide_eq_true c_189) (fun h9 => h9 ht)
  refine ps_st (S' := (193, [(0, .ref m0), (1, .int t), (2, .int (nI k)), (3, .int 8)], [.int 0], M1)) rfl rfl rfl ?_
  exact ps_ret rfl rfl (⟨I2, R, rfl, hR3, hEI9, hER, hi4⟩)
set_option maxHeartbeats 1000000 in
theorem rd_memberF9 {g : xe_G} {m0 : Nat} {q : Nat → Nat} {z : Nat × Nat} {I : rI} {R : rR} {M : mi_H} {f : Nat → Int32} {n n2 k : Nat} {E : List (Nat × Nat)} {B : List Nat} {t : Int32} (hR : RS g m0 q z I R M) (hi18 : I 18 = some (nI n2)) (hi25 : I 25 = some (nI B.length)) (hQ : FQ f n E B 0 B.length I R) (hn2 : n2 ≤ 65540) (ht : t = 0) (hk : k < B.length) (hBl : B.length < 65536) : pt (mT g) 223 [.ref m0, .int t, .int (nI k), .int 9] M (fun v M' => (∃  (I' : rI) (R' : rR), v = some (.int 0) ∧ RS g m0 q z I' R' M' ∧ eqI [0] I I' ∧ eqR [] R R' ∧ I' 0 = some 0)) := by
  refine pt_in (b := mb_223 g) rfl (fun kf => ?_)
  show pl (mT g) kf (mb_223 g).2 (0, [(0, .ref m0), (1, .int t), (2, .int (nI k)), (3, .int 9)], [], M) _
  have hEI : eqI [0] I I := eqI.rf
  have hER : eqR [] R R := eqR.rf
  have g9 := hQ k hk
  rw [Nat.zero_add] at g9
  refine ps_st (S' := (1, [(0, .ref m0), (1, .int t), (2, .int (nI k)), (3, .int 9)], [.ref m0], M)) rfl rfl rfl ?_
  refine ps_st (S' := (2, [(0, .ref m0), (1, .int t), (2, .int (nI k)), (3, .int 9)], [.int 0, .ref m0], M)) rfl rfl rfl ?_
  refine pr_put (j := 0) rfl hR rfl (fun M1 I2 hR3 hi4 hI5 => ?_)
  have hi6 := (hI5 18 (by decide)).trans hi18
  have hi7 := (hI5 25 (by decide)).trans hi25
  have hQ_8 := hQ.mono (pIx hI5 (by decide)) (fun _ _ => rfl)
  have hEI9 := hEI.put hI5 (by decide)
  show pl _ _ _ (5, [(0, .ref m0), (1, .int t), (2, .int (nI k)), (3, .int 9)], [], M1) _
  refine ps_st (S' := (6, [(0, .ref m0), (1, .int t), (2, .int (nI k)), (3, .int 9)], [.int 9], M1)) rfl rfl rfl ?_
  refine ps_if (S1 := (15, [(0, .ref m0)], [], M1)) (S2 := (9, [(0, .ref m0), (1, .int t), (2, .int (nI k)), (3, .int 9)], [], M1)) rfl rfl rfl (fun c_6 => ?_) (fun c_6 => ?_)
  · exact absurd (of_decide_eq_true c_6) (by decide)
  refine ps_st (S' := (10, [(0, .ref m0), (1, .int t), (2, .int (nI k)), (3, .int 9)], [.int 9], M1)) rfl rfl rfl ?_
  refine ps_st (S' := (12, [(0, .ref m0), (1, .int t), (2, .int (nI k)), (3, .int 9)], [.int 9, .int 9], M1)) rfl rfl rfl ?_
  refine ps_if2 (S1 := (20, [(0, .ref m0), (1, .int t), (2, .int (nI k)), (3, .int 9)], [], M1)) (S2 := (15, [(0, .ref m0)], [], M1)) rfl rfl rfl (fun c_12 => ?_) (fun c_12 => ?_)
  rotate_left
  · exact absurd (by decide) (of_decide_eq_false c_12)
  refine ps_st (S' := (21, [(0, .ref m0), (1, .int t), (2, .int (nI k)), (3, .int 9)], [.ref m0], M1)) rfl rfl rfl ?_
  refine pr_int (j := 18) (S' := (24, [(0, .ref m0), (1, .int t), (2, .int (nI k)), (3, .int 9)], [.int (nI n2)], M1)) rfl hR3 rfl hi6 rfl ?_
  refine ps_if (S1 := (50, [], [], M1)) (S2 := (27, [(0, .ref m0), (1, .int t), (2, .int (nI k)), (3, .int 9)], [], M1)) rfl rfl rfl (fun c_24 => ?_) (fun c_24 => ?_)
  · exact absurd (of_decide_eq_true c_24) (nI_n0 (by omega))
  refine ps_st (S' := (28, [(0, .ref m0), (1, .int t), (2, .int (nI k)), (3, .int 9)], [.int (nI k)], M1)) rfl rfl rfl ?_
  refine ps_if (S1 := (50, [], [], M1)) (S2 := (31, [(0, .ref m0), (1, .int t), (2, .int (nI k)), (3, .int 9)], [], M1)) rfl rfl rfl (fun c_28 => ?_) (fun c_28 => ?_)
  · exact absurd (of_decide_eq_true c_28) (nI_n0 (by omega))
  refine ps_st (S' := (32, [(0, .ref m0), (1, .int t), (2, .int (nI k)), (3, .int 9)], [.int (nI k)], M1)) rfl rfl rfl ?_
  refine ps_st (S' := (33, [(0, .ref m0), (1, .int t), (2, .int (nI k)), (3, .int 9)], [.int t, .int (nI k)], M1)) rfl rfl rfl ?_
  refine ps_if (S1 := (43, [(0, .ref m0), (1, .int t), (2, .int (nI k)), (3, .int 9)], [.int (nI k)], M1)) (S2 := (36, [(0, .ref m0), (1, .int t), (2, .int (nI k)), (3, .int 9)], [.int (nI k)], M1)) rfl rfl rfl (fun c_33 => ?_) (fun c_33 => ?_)
  rotate_left
  · exact absurd (ht) (of_decide_eq_false c_33)
  refine ps_st (S' := (44, [(0, .ref m0), (1, .int t), (2, .int (nI k)), (3, .int 9)], [.ref m0, .int (nI k)], M1)) rfl rfl rfl ?_
  refine pr_int (j := 25) (S' := (47, [(0, .ref m0), (1, .int t), (2, .int (nI k)), (3, .int 9)], [.int (nI B.length), .int (nI k)], M1)) rfl hR3 rfl hi7 rfl ?_
  refine ps_if2 (S1 := (52, [(0, .ref m0), (1, .int t), (2, .int (nI k)), (3, .int 9)], [], M1)) (S2 := (50, [], [], M1)) rfl rfl rfl (fun c_47 => ?_) (fun c_47 => ?_)
  rotate_left
  · exact absurd ((lt_nI (p := k) (n := B.length) (by omega) (by omega)).mpr hk) (of_decide_eq_false c_47)
  refine ps_st (S' := (53, [(0, .ref m0), (1, .int t), (2, .int (nI k)), (3, .int 9)], [.int 9], M1)) rfl rfl rfl ?_
  refine ps_st (S' := (188, [(0, .ref m0), (1, .int t), (2, .int (nI k)), (3, .int 9)], [], M1)) rfl rfl rfl ?_
  refine ps_st (S' := (189, [(0, .ref m0), (1, .int t), (2, .int (nI k)), (3, .int 9)], [.int t], M1)) rfl rfl rfl ?_
  refine ps_if (S1 := (194, [(0, .ref m0), (1, .int t), (2, .int (nI k)), (3, .int 9)], [], M1)) (S2 := (192, [(0, .ref m0), (1, .int t), (2, .int (nI k)), (3, .int 9)], [], M1)) rfl rfl rfl (fun c_189 => ?_) (fun c_189 => ?_)
  · exact absurd (of_decide_eq_true c_189) (fun h9 => h9 ht)
  refine ps_st (S' := (193, [(0, .ref m0), (1, .int t), (2, .int (nI k)), (3, .int 9)], [.int 0], M1)) rfl rfl rfl ?_
  exact ps_ret rfl rfl (⟨I2, R, rfl, hR3, hEI9, hER, hi4⟩)
set_option maxHeartbeats 1000000 in
theorem rd_memberM0 {g : xe_G} {m0 : Nat} {q : Nat → Nat} {z : Nat × Nat} {I : rI} {R : rR} {M : mi_H} {f : Nat → Int32} {n n2 k : Nat} {E : List (Nat × Nat)} {B : List Nat} {t : Int32} (hR : RS g m0 q z I R M) (hi18 : I 18 = some (nI n2)) (hi26 : I 26 = some (nI B.length)) (hQ : MQX f n E B 0 B.length I R) (hn2 : n2 ≤ 65540) (ht : ¬ t = 0) (hk : k < B.length) (hBl : B.length < 65536) : pt (mT g) 223 [.ref m0, .int t, .int (nI k), .int 0] M (fun v M' => (∃  (I' : rI) (R' : rR), v = some (.int (nI (by2 f (B.getD k 0)))) ∧ RS g m0 q z I' R' M' ∧ eqI [0] I I' ∧ eqR [] R R' ∧ I' 0 = some 0)) := by
  refine pt_in (b := mb_223 g) rfl (fun kf => ?_)
  show pl (mT g) kf (mb_223 g).2 (0, [(0, .ref m0), (1, .int t), (2, .int (nI k)), (3, .int 0)], [], M) _
  have hEI : eqI [0] I I := eqI.rf
  have hER : eqR [] R R := eqR.rf
  have g9 := hQ k hk
  rw [Nat.zero_add] at g9
  refine ps_st (S' := (1, [(0, .ref m0), (1, .int t), (2, .int (nI k)), (3, .int 0)], [.ref m0], M)) rfl rfl rfl ?_
  refine ps_st (S' := (2, [(0, .ref m0), (1, .int t), (2, .int (nI k)), (3, .int 0)], [.int 0, .ref m0], M)) rfl rfl rfl ?_
  refine pr_put (j := 0) rfl hR rfl (fun M1 I2 hR3 hi4 hI5 => ?_)
  have hi6 := (hI5 18 (by decide)).trans hi18
  have hi7 := (hI5 26 (by decide)).trans hi26
  have hQ_8 := hQ.mono (pIx hI5 (by decide)) (fun _ _ => rfl)
  have hEI9 := hEI.put hI5 (by decide)
  show pl _ _ _ (5, [(0, .ref m0), (1, .int t), (2, .int (nI k)), (3, .int 0)], [], M1) _
  refine ps_st (S' := (6, [(0, .ref m0), (1, .int t), (2, .int (nI k)), (3, .int 0)], [.int 0], M1)) rfl rfl rfl ?_
  refine ps_if (S1 := (15, [(0, .ref m0)], [], M1)) (S2 := (9, [(0, .ref m0), (1, .int t), (2, .int (nI k)), (3, .int 0)], [], M1)) rfl rfl rfl (fun c_6 => ?_) (fun c_6 => ?_)
  · exact absurd (of_decide_eq_true c_6) (by decide)
  refine ps_st (S' := (10, [(0, .ref m0), (1, .int t), (2, .int (nI k)), (3, .int 0)], [.int 0], M1)) rfl rfl rfl ?_
  refine ps_st (S' := (12, [(0, .ref m0), (1, .int t), (2, .int (nI k)), (3, .int 0)], [.int 9, .int 0], M1)) rfl rfl rfl ?_
  refine ps_if2 (S1 := (20, [(0, .ref m0), (1, .int t), (2, .int (nI k)), (3, .int 0)], [], M1)) (S2 := (15, [(0, .ref m0)], [], M1)) rfl rfl rfl (fun c_12 => ?_) (fun c_12 => ?_)
  rotate_left
  · exact absurd (by decide) (of_decide_eq_false c_12)
  refine ps_st (S' := (21, [(0, .ref m0), (1, .int t), (2, .int (nI k)), (3, .int 0)], [.ref m0], M1)) rfl rfl rfl ?_
  refine pr_int (j := 18) (S' := (24, [(0, .ref m0), (1, .int t), (2, .int (nI k)), (3, .int 0)], [.int (nI n2)], M1)) rfl hR3 rfl hi6 rfl ?_
  refine ps_if (S1 := (50, [], [], M1)) (S2 := (27, [(0, .ref m0), (1, .int t), (2, .int (nI k)), (3, .int 0)], [], M1)) rfl rfl rfl (fun c_24 => ?_) (fun c_24 => ?_)
  · exact absurd (of_decide_eq_true c_24) (nI_n0 (by omega))
  refine ps_st (S' := (28, [(0, .ref m0), (1, .int t), (2, .int (nI k)), (3, .int 0)], [.int (nI k)], M1)) rfl rfl rfl ?_
  refine ps_if (S1 := (50, [], [], M1)) (S2 := (31, [(0, .ref m0), (1, .int t), (2, .int (nI k)), (3, .int 0)], [], M1)) rfl rfl rfl (fun c_28 => ?_) (fun c_28 => ?_)
  · exact absurd (of_decide_eq_true c_28) (nI_n0 (by omega))
  refine ps_st (S' := (32, [(0, .ref m0), (1, .int t), (2, .int (nI k)), (3, .int 0)], [.int (nI k)], M1)) rfl rfl rfl ?_
  refine ps_st (S' := (33, [(0, .ref m0), (1, .int t), (2, .int (nI k)), (3, .int 0)], [.int t, .int (nI k)], M1)) rfl rfl rfl ?_
  refine ps_if (S1 := (43, [(0, .ref m0), (1, .int t), (2, .int (nI k)), (3, .int 0)], [.int (nI k)], M1)) (S2 := (36, [(0, .ref m0), (1, .int t), (2, .int (nI k)), (3, .int 0)], [.int (nI k)], M1)) rfl rfl rfl (fun c_33 => ?_) (fun c_33 => ?_)
  · exact absurd (of_decide_eq_true c_33) (ht)
  refine ps_st (S' := (37, [(0, .ref m0), (1, .int t), (2, .int (nI k)), (3, .int 0)], [.ref m0, .int (nI k)], M1)) rfl rfl rfl ?_
  refine pr_int (j := 26) (S' := (40, [(0, .ref m0), (1, .int t), (2, .int (nI k)), (3, .int 0)], [.int (nI B.length), .int (nI k)], M1)) rfl hR3 rfl hi7 rfl ?_
  refine ps_st (S' := (47, [(0, .ref m0), (1, .int t), (2, .int (nI k)), (3, .int 0)], [.int (nI B.length), .int (nI k)], M1)) rfl rfl rfl ?_
  refine ps_if2 (S1 := (52, [(0, .ref m0), (1, .int t), (2, .int (nI k)), (3, .int 0)], [], M1)) (S2 := (50, [], [], M1)) rfl rfl rfl (fun c_47 => ?_) (fun c_47 => ?_)
  rotate_left
  · exact absurd ((lt_nI (p := k) (n := B.length) (by omega) (by omega)).mpr hk) (of_decide_eq_false c_47)
  refine ps_st (S' := (53, [(0, .ref m0), (1, .int t), (2, .int (nI k)), (3, .int 0)], [.int 0], M1)) rfl rfl rfl ?_
  refine ps_st (S' := (88, [(0, .ref m0), (1, .int t), (2, .int (nI k)), (3, .int 0)], [], M1)) rfl rfl rfl ?_
  refine ps_st (S' := (89, [(0, .ref m0), (1, .int t), (2, .int (nI k)), (3, .int 0)], [.int t], M1)) rfl rfl rfl ?_
  refine ps_if (S1 := (101, [(0, .ref m0), (1, .int t), (2, .int (nI k)), (3, .int 0)], [], M1)) (S2 := (92, [(0, .ref m0), (1, .int t), (2, .int (nI k)), (3, .int 0)], [], M1)) rfl rfl rfl (fun c_89 => ?_) (fun c_89 => ?_)
  · exact absurd (of_decide_eq_true c_89) (ht)
  refine ps_st (S' := (93, [(0, .ref m0), (1, .int t), (2, .int (nI k)), (3, .int 0)], [.ref m0], M1)) rfl rfl rfl ?_
  refine pr_ref (j := 34) (S' := (96, [(0, .ref m0), (1, .int t), (2, .int (nI k)), (3, .int 0)], [.ref (q 34)], M1)) rfl hR3 rfl rfl ?_
  refine ps_st (S' := (97, [(0, .ref m0), (1, .int t), (2, .int (nI k)), (3, .int 0)], [.int (nI k), .ref (q 34)], M1)) rfl rfl rfl ?_
  refine pr_ld (a := 34) (j := k) (y := (nI (by2 f (B.getD k 0)))) (S' := (98, [(0, .ref m0), (1, .int t), (2, .int (nI k)), (3, .int 0)], [.int (nI (by2 f (B.getD k 0)))], M1)) rfl hR3 rfl (by omega) (fun _ => g9.1) rfl (fun i1_97 => ?_)
  refine ps_st (S' := (107, [], [.int (nI (by2 f (B.getD k 0)))], M1)) rfl rfl rfl ?_
  exact ps_reti rfl (⟨I2, R, rfl, hR3, hEI9, hER, hi4⟩)
set_option maxHeartbeats 1000000 in
theorem rd_memberM1 {g : xe_G} {m0 : Nat} {q : Nat → Nat} {z : Nat × Nat} {I : rI} {R : rR} {M : mi_H} {f : Nat → Int32} {n n2 k : Nat} {E : List (Nat × Nat)} {B : List Nat} {t : Int32} (hR : RS g m0 q z I R M) (hi18 : I 18 = some (nI n2)) (hi26 : I 26 = some (nI B.length)) (hQ : MQX f n E B 0 B.length I R) (hn2 : n2 ≤ 65540) (ht : ¬ t = 0) (hk : k < B.length) (hBl : B.length < 65536) : pt (mT g) 223 [.ref m0, .int t, .int (nI k), .int 1] M (fun v M' => (∃  (I' : rI) (R' : rR), v = some (.int (nI (by2 f (B.getD k 0 + 2)))) ∧ RS g m0 q z I' R' M' ∧ eqI [0] I I' ∧ eqR [] R R' ∧ I' 0 = some 0)) := by
  refine pt_in (b := mb_223 g) rfl (fun kf => ?_)
  show pl (mT g) kf (mb_223 g).2 (0, [(0, .ref m0), (1, .int t), (2, .int (nI k)), (3, .int 1)], [], M) _
  have hEI : eqI [0] I I := eqI.rf
  have hER : eqR [] R R := eqR.rf
  have g9 := hQ k hk
  rw [Nat.zero_add] at g9
  refine ps_st (S' := (1, [(0, .ref m0), (1, .int t), (2, .int (nI k)), (3, .int 1)], [.ref m0], M)) rfl rfl rfl ?_
  refine ps_st (S' := (2, [(0, .ref m0), (1, .int t), (2, .int (nI k)), (3, .int 1)], [.int 0, .ref m0], M)) rfl rfl rfl ?_
  refine pr_put (j := 0) rfl hR rfl (fun M1 I2 hR3 hi4 hI5 => ?_)
  have hi6 := (hI5 18 (by decide)).trans hi18
  have hi7 := (hI5 26 (by decide)).trans hi26
  have hQ_8 := hQ.mono (pIx hI5 (by decide)) (fun _ _ => rfl)
  have hEI9 := hEI.put hI5 (by decide)
  show pl _ _ _ (5, [(0, .ref m0), (1, .int t), (2, .int (nI k)), (3, .int 1)], [], M1) _
  refine ps_st (S' := (6, [(0, .ref m0), (1, .int t), (2, .int (nI k)), (3, .int 1)], [.int 1], M1)) rfl rfl rfl ?_
  refine ps_if (S1 := (15, [(0, .ref m0)], [], M1)) (S2 := (9, [(0, .ref m0), (1, .int t), (2, .int (nI k)), (3, .int 1)], [], M1)) rfl rfl rfl (fun c_6 => ?_) (fun c_6 => ?_)
  · exact absurd (of_decide_eq_true c_6) (by decide)
  refine ps_st (S' := (10, [(0, .ref m0), (1, .int t), (2, .int (nI k)), (3, .int 1)], [.int 1], M1)) rfl rfl rfl ?_
  refine ps_st (S' := (12, [(0, .ref m0), (1, .int t), (2, .int (nI k)), (3, .int 1)], [.int 9, .int 1], M1)) rfl rfl rfl ?_
  refine ps_if2 (S1 := (20, [(0, .ref m0), (1, .int t), (2, .int (nI k)), (3, .int 1)], [], M1)) (S2 := (15, [(0, .ref m0)], [], M1)) rfl rfl rfl (fun c_12 => ?_) (fun c_12 => ?_)
  rotate_left
  · exact absurd (by decide) (of_decide_eq_false c_12)
  refine ps_st (S' := (21, [(0, .ref m0), (1, .int t), (2, .int (nI k)), (3, .int 1)], [.ref m0], M1)) rfl rfl rfl ?_
  refine pr_int (j := 18) (S' := (24, [(0, .ref m0), (1, .int t), (2, .int (nI k)), (3, .int 1)], [.int (nI n2)], M1)) rfl hR3 rfl hi6 rfl ?_
  refine ps_if (S1 := (50, [], [], M1)) (S2 := (27, [(0, .ref m0), (1, .int t), (2, .int (nI k)), (3, .int 1)], [], M1)) rfl rfl rfl (fun c_24 => ?_) (fun c_24 => ?_)
  · exact absurd (of_decide_eq_true c_24) (nI_n0 (by omega))
  refine ps_st (S' := (28, [(0, .ref m0), (1, .int t), (2, .int (nI k)), (3, .int 1)], [.int (nI k)], M1)) rfl rfl rfl ?_
  refine ps_if (S1 := (50, [], [], M1)) (S2 := (31, [(0, .ref m0), (1, .int t), (2, .int (nI k)), (3, .int 1)], [], M1)) rfl rfl rfl (fun c_28 => ?_) (fun c_28 => ?_)
  · exact absurd (of_decide_eq_true c_28) (nI_n0 (by omega))
  refine ps_st (S' := (32, [(0, .ref m0), (1, .int t), (2, .int (nI k)), (3, .int 1)], [.int (nI k)], M1)) rfl rfl rfl ?_
  refine ps_st (S' := (33, [(0, .ref m0), (1, .int t), (2, .int (nI k)), (3, .int 1)], [.int t, .int (nI k)], M1)) rfl rfl rfl ?_
  refine ps_if (S1 := (43, [(0, .ref m0), (1, .int t), (2, .int (nI k)), (3, .int 1)], [.int (nI k)], M1)) (S2 := (36, [(0, .ref m0), (1, .int t), (2, .int (nI k)), (3, .int 1)], [.int (nI k)], M1)) rfl rfl rfl (fun c_33 => ?_) (fun c_33 => ?_)
  · exact absurd (of_decide_eq_true c_33) (ht)
  refine ps_st (S' := (37, [(0, .ref m0), (1, .int t), (2, .int (nI k)), (3, .int 1)], [.ref m0, .int (nI k)], M1)) rfl rfl rfl ?_
  refine pr_int (j := 26) (S' := (40, [(0, .ref m0), (1, .int t), (2, .int (nI k)), (3, .int 1)], [.int (nI B.length), .int (nI k)], M1)) rfl hR3 rfl hi7 rfl ?_
  refine ps_st (S' := (47, [(0, .ref m0), (1, .int t), (2, .int (nI k)), (3, .int 1)], [.int (nI B.length), .int (nI k)], M1)) rfl rfl rfl ?_
  refine ps_if2 (S1 := (52, [(0, .ref m0), (1, .int t), (2, .int (nI k)), (3, .int 1)], [], M1)) (S2 := (50, [], [], M1)) rfl rfl rfl (fun c_47 => ?_) (fun c_47 => ?_)
  rotate_left
  · exact absurd ((lt_nI (p := k) (n := B.length) (by omega) (by omega)).mpr hk) (of_decide_eq_false c_47)
  refine ps_st (S' := (53, [(0, .ref m0), (1, .int t), (2, .int (nI k)), (3, .int 1)], [.int 1], M1)) rfl rfl rfl ?_
  refine ps_st (S' := (108, [(0, .ref m0), (1, .int t), (2, .int (nI k)), (3, .int 1)], [], M1)) rfl rfl rfl ?_
  refine ps_st (S' := (109, [(0, .ref m0), (1, .int t), (2, .int (nI k)), (3, .int 1)], [.int t], M1)) rfl rfl rfl ?_
  refine ps_if (S1 := (121, [(0, .ref m0), (1, .int t), (2, .int (nI k)), (3, .int 1)], [], M1)) (S2 := (112, [(0, .ref m0), (1, .int t), (2, .int (nI k)), (3, .int 1)], [], M1)) rfl rfl rfl (fun c_109 => ?_) (fun c_109 => ?_)
  · exact absurd (of_decide_eq_true c_109) (ht)
  refine ps_st (S' := (113, [(0, .ref m0), (1, .int t), (2, .int (nI k)), (3, .int 1)], [.ref m0], M1)) rfl rfl rfl ?_
  refine pr_ref (j := 45) (S' := (116, [(0, .ref m0), (1, .int t), (2, .int (nI k)), (3, .int 1)], [.ref (q 45)], M1)) rfl hR3 rfl rfl ?_
  refine ps_st (S' := (117, [(0, .ref m0), (1, .int t), (2, .int (nI k)), (3, .int 1)], [.int (nI k), .ref (q 45)], M1)) rfl rfl rfl ?_
  refine pr_ld (a := 45) (j := k) (y := (nI (by2 f (B.getD k 0 + 2)))) (S' := (118, [(0, .ref m0), (1, .int t), (2, .int (nI k)), (3, .int 1)], [.int (nI (by2 f (B.getD k 0 + 2)))], M1)) rfl hR3 rfl (by omega) (fun _ => g9.2.2.1) rfl (fun i1_117 => ?_)
  refine ps_st (S' := (127, [], [.int (nI (by2 f (B.getD k 0 + 2)))], M1)) rfl rfl rfl ?_
  exact ps_reti rfl (⟨I2, R, rfl, hR3, hEI9, hER, hi4⟩)
set_option maxHeartbeats 1000000 in
theorem rd_memberM2 {g : xe_G} {m0 : Nat} {q : Nat → Nat} {z : Nat × Nat} {I : rI} {R : rR} {M : mi_H} {f : Nat → Int32} {n n2 k : Nat} {E : List (Nat × Nat)} {B : List Nat} {t : Int32} (hR : RS g m0 q z I R M) (hi18 : I 18 = some (nI n2)) (hi26 : I 26 = some (nI B.length)) (hQ : MQX f n E B 0 B.length I R) (hn2 : n2 ≤ 65540) (ht : ¬ t = 0) (hk : k < B.length) (hBl : B.length < 65536) : pt (mT g) 223 [.ref m0, .int t, .int (nI k), .int 2] M (fun v M' => (∃  (I' : rI) (R' : rR), v = some (.int (nI (by2 f (B.getD k 0 + 4)))) ∧ RS g m0 q z I' R' M' ∧ eqI [0] I I' ∧ eqR [] R R' ∧ I' 0 = some 0)) := by
  refine pt_in (b := mb_223 g) rfl (fun kf => ?_)
  show pl (mT g) kf (mb_223 g).2 (0, [(0, .ref m0), (1, .int t), (2, .int (nI k)), (3, .int 2)], [], M) _
  have hEI : eqI [0] I I := eqI.rf
  have hER : eqR [] R R := eqR.rf
  have g9 := hQ k hk
  rw [Nat.zero_add] at g9
  refine ps_st (S' := (1, [(0, .ref m0), (1, .int t), (2, .int (nI k)), (3, .int 2)], [.ref m0], M)) rfl rfl rfl ?_
  refine ps_st (S' := (2, [(0, .ref m0), (1, .int t), (2, .int (nI k)), (3, .int 2)], [.int 0, .ref m0], M)) rfl rfl rfl ?_
  refine pr_put (j := 0) rfl hR rfl (fun M1 I2 hR3 hi4 hI5 => ?_)
  have hi6 := (hI5 18 (by decide)).trans hi18
  have hi7 := (hI5 26 (by decide)).trans hi26
  have hQ_8 := hQ.mono (pIx hI5 (by decide)) (fun _ _ => rfl)
  have hEI9 := hEI.put hI5 (by decide)
  show pl _ _ _ (5, [(0, .ref m0), (1, .int t), (2, .int (nI k)), (3, .int 2)], [], M1) _
  refine ps_st (S' := (6, [(0, .ref m0), (1, .int t), (2, .int (nI k)), (3, .int 2)], [.int 2], M1)) rfl rfl rfl ?_
  refine ps_if (S1 := (15, [(0, .ref m0)], [], M1)) (S2 := (9, [(0, .ref m0), (1, .int t), (2, .int (nI k)), (3, .int 2)], [], M1)) rfl rfl rfl (fun c_6 => ?_) (fun c_6 => ?_)
  · exact absurd (of_decide_eq_true c_6) (by decide)
  refine ps_st (S' := (10, [(0, .ref m0), (1, .int t), (2, .int (nI k)), (3, .int 2)], [.int 2], M1)) rfl rfl rfl ?_
  refine ps_st (S' := (12, [(0, .ref m0), (1, .int t), (2, .int (nI k)), (3, .int 2)], [.int 9, .int 2], M1)) rfl rfl rfl ?_
  refine ps_if2 (S1 := (20, [(0, .ref m0), (1, .int t), (2, .int (nI k)), (3, .int 2)], [], M1)) (S2 := (15, [(0, .ref m0)], [], M1)) rfl rfl rfl (fun c_12 => ?_) (fun c_12 => ?_)
  rotate_left
  · exact absurd (by decide) (of_decide_eq_false c_12)
  refine ps_st (S' := (21, [(0, .ref m0), (1, .int t), (2, .int (nI k)), (3, .int 2)], [.ref m0], M1)) rfl rfl rfl ?_
  refine pr_int (j := 18) (S' := (24, [(0, .ref m0), (1, .int t), (2, .int (nI k)), (3, .int 2)], [.int (nI n2)], M1)) rfl hR3 rfl hi6 rfl ?_
  refine ps_if (S1 := (50, [], [], M1)) (S2 := (27, [(0, .ref m0), (1, .int t), (2, .int (nI k)), (3, .int 2)], [], M1)) rfl rfl rfl (fun c_24 => ?_) (fun c_24 => ?_)
  · exact absurd (of_decide_eq_true c_24) (nI_n0 (by omega))
  refine ps_st (S' := (28, [(0, .ref m0), (1, .int t), (2, .int (nI k)), (3, .int 2)], [.int (nI k)], M1)) rfl rfl rfl ?_
  refine ps_if (S1 := (50, [], [], M1)) (S2 := (31, [(0, .ref m0), (1, .int t), (2, .int (nI k)), (3, .int 2)], [], M1)) rfl rfl rfl (fun c_28 => ?_) (fun c_28 => ?_)
  · exact absurd (of_decide_eq_true c_28) (nI_n0 (by omega))
  refine ps_st (S' := (32, [(0, .ref m0), (1, .int t), (2, .int (nI k)), (3, .int 2)], [.int (nI k)], M1)) rfl rfl rfl ?_
  refine ps_st (S' := (33, [(0, .ref m0), (1, .int t), (2, .int (nI k)), (3, .int 2)], [.int t, .int (nI k)], M1)) rfl rfl rfl ?_
  refine ps_if (S1 := (43, [(0, .ref m0), (1, .int t), (2, .int (nI k)), (3, .int 2)], [.int (nI k)], M1)) (S2 := (36, [(0, .ref m0), (1, .int t), (2, .int (nI k)), (3, .int 2)], [.int (nI k)], M1)) rfl rfl rfl (fun c_33 => ?_) (fun c_33 => ?_)
  · exact absurd (of_decide_eq_true c_33) (ht)
  refine ps_st (S' := (37, [(0, .ref m0), (1, .int t), (2, .int (nI k)), (3, .int 2)], [.ref m0, .int (nI k)], M1)) rfl rfl rfl ?_
  refine pr_int (j := 26) (S' := (40, [(0, .ref m0), (1, .int t), (2, .int (nI k)), (3, .int 2)], [.int (nI B.length), .int (nI k)], M1)) rfl hR3 rfl hi7 rfl ?_
  refine ps_st (S' := (47, [(0, .ref m0), (1, .int t), (2, .int (nI k)), (3, .int 2)], [.int (nI B.length), .int (nI k)], M1)) rfl rfl rfl ?_
  refine ps_if2 (S1 := (52, [(0, .ref m0), (1, .int t), (2, .int (nI k)), (3, .int 2)], [], M1)) (S2 := (50, [], [], M1)) rfl rfl rfl (fun c_47 => ?_) (fun c_47 => ?_)
  rotate_left
  · exact absurd ((lt_nI (p := k) (n := B.length) (by omega) (by omega)).mpr hk) (of_decide_eq_false c_47)
  refine ps_st (S' := (53, [(0, .ref m0), (1, .int t), (2, .int (nI k)), (3, .int 2)], [.int 2], M1)) rfl rfl rfl ?_
  refine ps_st (S' := (128, [(0, .ref m0), (1, .int t), (2, .int (nI k)), (3, .int 2)], [], M1)) rfl rfl rfl ?_
  refine ps_st (S' := (129, [(0, .ref m0), (1, .int t), (2, .int (nI k)), (3, .int 2)], [.int t], M1)) rfl rfl rfl ?_
  refine ps_if (S1 := (141, [(0, .ref m0), (1, .int t), (2, .int (nI k)), (3, .int 2)], [], M1)) (S2 := (132, [(0, .ref m0), (1, .int t), (2, .int (nI k)), (3, .int 2)], [], M1)) rfl rfl rfl (fun c_129 => ?_) (fun c_129 => ?_)
  · exact absurd (of_decide_eq_true c_129) (ht)
  refine ps_st (S' := (133, [(0, .ref m0), (1, .int t), (2, .int (nI k)), (3, .int 2)], [.ref m0], M1)) rfl rfl rfl ?_
  refine pr_ref (j := 46) (S' := (136, [(0, .ref m0), (1, .int t), (2, .int (nI k)), (3, .int 2)], [.ref (q 46)], M1)) rfl hR3 rfl rfl ?_
  refine ps_st (S' := (137, [(0, .ref m0), (1, .int t), (2, .int (nI k)), (3, .int 2)], [.int (nI k), .ref (q 46)], M1)) rfl rfl rfl ?_
  refine pr_ld (a := 46) (j := k) (y := (nI (by2 f (B.getD k 0 + 4)))) (S' := (138, [(0, .ref m0), (1, .int t), (2, .int (nI k)), (3, .int 2)], [.int (nI (by2 f (B.getD k 0 + 4)))], M1)) rfl hR3 rfl (by omega) (fun _ => g9.2.2.2) rfl (fun i1_137 => ?_)
  refine ps_st (S' := (147, [], [.int (nI (by2 f (B.getD k 0 + 4)))], M1)) rfl rfl rfl ?_
  exact ps_reti rfl (⟨I2, R, rfl, hR3, hEI9, hER, hi4⟩)
set_option maxHeartbeats 1000000 in
theorem rd_memberM3 {g : xe_G} {m0 : Nat} {q : Nat → Nat} {z : Nat × Nat} {I : rI} {R : rR} {M : mi_H} {f : Nat → Int32} {n n2 k : Nat} {E : List (Nat × Nat)} {B : List Nat} {t : Int32} (hR : RS g m0 q z I R M) (hi18 : I 18 = some (nI n2)) (hi26 : I 26 = some (nI B.length)) (hQ : MQX f n E B 0 B.length I R) (hn2 : n2 ≤ 65540) (ht : ¬ t = 0) (hk : k < B.length) (hBl : B.length < 65536) : pt (mT g) 223 [.ref m0, .int t, .int (nI k), .int 3] M (fun v M' => (∃  (I' : rI) (R' : rR), v = some (.int (nI (mK f n E (B.getD k 0)).1)) ∧ RS g m0 q z I' R' M' ∧ eqI [0] I I' ∧ eqR [] R R' ∧ I' 0 = some 0)) := by
  refine pt_in (b := mb_223 g) rfl (fun kf => ?_)
  show pl (mT g) kf (mb_223 g).2 (0, [(0, .ref m0), (1, .int t), (2, .int (nI k)), (3, .int 3)], [], M) _
  have hEI : eqI [0] I I := eqI.rf
  have hER : eqR [] R R := eqR.rf
  have g9 := hQ k hk
  rw [Nat.zero_add] at g9
  refine ps_st (S' := (1, [(0, .ref m0), (1, .int t), (2, .int (nI k)), (3, .int 3)], [.ref m0], M)) rfl rfl rfl ?_
  refine ps_st (S' := (2, [(0, .ref m0), (1, .int t), (2, .int (nI k)), (3, .int 3)], [.int 0, .ref m0], M)) rfl rfl rfl ?_
  refine pr_put (j := 0) rfl hR rfl (fun M1 I2 hR3 hi4 hI5 => ?_)
  have hi6 := (hI5 18 (by decide)).trans hi18
  have hi7 := (hI5 26 (by decide)).trans hi26
  have hQ_8 := hQ.mono (pIx hI5 (by decide)) (fun _ _ => rfl)
  have hEI9 := hEI.put hI5 (by decide)
  show pl _ _ _ (5, [(0, .ref m0), (1, .int t), (2, .int (nI k)), (3, .int 3)], [], M1) _
  refine ps_st (S' := (6, [(0, .ref m0), (1, .int t), (2, .int (nI k)), (3, .int 3)], [.int 3], M1)) rfl rfl rfl ?_
  refine ps_if (S1 := (15, [(0, .ref m0)], [], M1)) (S2 := (9, [(0, .ref m0), (1, .int t), (2, .int (nI k)), (3, .int 3)], [], M1)) rfl rfl rfl (fun c_6 => ?_) (fun c_6 => ?_)
  · exact absurd (of_decide_eq_true c_6) (by decide)
  refine ps_st (S' := (10, [(0, .ref m0), (1, .int t), (2, .int (nI k)), (3, .int 3)], [.int 3], M1)) rfl rfl rfl ?_
  refine ps_st (S' := (12, [(0, .ref m0), (1, .int t), (2, .int (nI k)), (3, .int 3)], [.int 9, .int 3], M1)) rfl rfl rfl ?_
  refine ps_if2 (S1 := (20, [(0, .ref m0), (1, .int t), (2, .int (nI k)), (3, .int 3)], [], M1)) (S2 := (15, [(0, .ref m0)], [], M1)) rfl rfl rfl (fun c_12 => ?_) (fun c_12 => ?_)
  rotate_left
  · exact absurd (by decide) (of_decide_eq_false c_12)
  refine ps_st (S' := (21, [(0, .ref m0), (1, .int t), (2, .int (nI k)), (3, .int 3)], [.ref m0], M1)) rfl rfl rfl ?_
  refine pr_int (j := 18) (S' := (24, [(0, .ref m0), (1, .int t), (2, .int (nI k)), (3, .int 3)], [.int (nI n2)], M1)) rfl hR3 rfl hi6 rfl ?_
  refine ps_if (S1 := (50, [], [], M1)) (S2 := (27, [(0, .ref m0), (1, .int t), (2, .int (nI k)), (3, .int 3)], [], M1)) rfl rfl rfl (fun c_24 => ?_) (fun c_24 => ?_)
  · exact absurd (of_decide_eq_true c_24) (nI_n0 (by omega))
  refine ps_st (S' := (28, [(0, .ref m0), (1, .int t), (2, .int (nI k)), (3, .int 3)], [.int (nI k)], M1)) rfl rfl rfl ?_
  refine ps_if (S1 := (50, [], [], M1)) (S2 := (31, [(0, .ref m0), (1, .int t), (2, .int (nI k)), (3, .int 3)], [], M1)) rfl rfl rfl (fun c_28 => ?_) (fun c_28 => ?_)
  · exact absurd (of_decide_eq_true c_28) (nI_n0 (by omega))
  refine ps_st (S' := (32, [(0, .ref m0), (1, .int t), (2, .int (nI k)), (3, .int 3)], [.int (nI k)], M1)) rfl rfl rfl ?_
  refine ps_st (S' := (33, [(0, .ref m0), (1, .int t), (2, .int (nI k)), (3, .int 3)], [.int t, .int (nI k)], M1)) rfl rfl rfl ?_
  refine ps_if (S1 := (43, [(0, .ref m0), (1, .int t), (2, .int (nI k)), (3, .int 3)], [.int (nI k)], M1)) (S2 := (36, [(0, .ref m0), (1, .int t), (2, .int (nI k)), (3, .int 3)], [.int (nI k)], M1)) rfl rfl rfl (fun c_33 => ?_) (fun c_33 => ?_)
  · exact absurd (of_decide_eq_true c_33) (ht)
  refine ps_st (S' := (37, [(0, .ref m0), (1, .int t), (2, .int (nI k)), (3, .int 3)], [.ref m0, .int (nI k)], M1)) rfl rfl rfl ?_
  refine pr_int (j := 26) (S' := (40, [(0, .ref m0), (1, .int t), (2, .int (nI k)), (3, .int 3)], [.int (nI B.length), .int (nI k)], M1)) rfl hR3 rfl hi7 rfl ?_
  refine ps_st (S' := (47, [(0, .ref m0), (1, .int t), (2, .int (nI k)), (3, .int 3)], [.int (nI B.length), .int (nI k)], M1)) rfl rfl rfl ?_
  refine ps_if2 (S1 := (52, [(0, .ref m0), (1, .int t), (2, .int (nI k)), (3, .int 3)], [], M1)) (S2 := (50, [], [], M1)) rfl rfl rfl (fun c_47 => ?_) (fun c_47 => ?_)
  rotate_left
  · exact absurd ((lt_nI (p := k) (n := B.length) (by omega) (by omega)).mpr hk) (of_decide_eq_false c_47)
  refine ps_st (S' := (53, [(0, .ref m0), (1, .int t), (2, .int (nI k)), (3, .int 3)], [.int 3], M1)) rfl rfl rfl ?_
  refine ps_st (S' := (148, [(0, .ref m0), (1, .int t), (2, .int (nI k)), (3, .int 3)], [], M1)) rfl rfl rfl ?_
  refine ps_st (S' := (149, [(0, .ref m0), (1, .int t), (2, .int (nI k)), (3, .int 3)], [.int t], M1)) rfl rfl rfl ?_
  refine ps_if (S1 := (161, [(0, .ref m0), (1, .int t), (2, .int (nI k)), (3, .int 3)], [], M1)) (S2 := (152, [(0, .ref m0), (1, .int t), (2, .int (nI k)), (3, .int 3)], [], M1)) rfl rfl rfl (fun c_149 => ?_) (fun c_149 => ?_)
  · exact absurd (of_decide_eq_true c_149) (ht)
  refine ps_st (S' := (153, [(0, .ref m0), (1, .int t), (2, .int (nI k)), (3, .int 3)], [.ref m0], M1)) rfl rfl rfl ?_
  refine pr_ref (j := 43) (S' := (156, [(0, .ref m0), (1, .int t), (2, .int (nI k)), (3, .int 3)], [.ref (q 43)], M1)) rfl hR3 rfl rfl ?_
  refine ps_st (S' := (157, [(0, .ref m0), (1, .int t), (2, .int (nI k)), (3, .int 3)], [.int (nI k), .ref (q 43)], M1)) rfl rfl rfl ?_
  refine pr_ld (a := 43) (j := k) (y := (nI (mK f n E (B.getD k 0)).1)) (S' := (158, [(0, .ref m0), (1, .int t), (2, .int (nI k)), (3, .int 3)], [.int (nI (mK f n E (B.getD k 0)).1)], M1)) rfl hR3 rfl (by omega) (fun _ => g9.2.1.2.1) rfl (fun i1_157 => ?_)
  refine ps_st (S' := (167, [], [.int (nI (mK f n E (B.getD k 0)).1)], M1)) rfl rfl rfl ?_
  exact ps_reti rfl (⟨I2, R, rfl, hR3, hEI9, hER, hi4⟩)
set_option maxHeartbeats 1000000 in
theorem rd_memberM4 {g : xe_G} {m0 : Nat} {q : Nat → Nat} {z : Nat × Nat} {I : rI} {R : rR} {M : mi_H} {f : Nat → Int32} {n n2 k : Nat} {E : List (Nat × Nat)} {B : List Nat} {t : Int32} (hR : RS g m0 q z I R M) (hi18 : I 18 = some (nI n2)) (hi26 : I 26 = some (nI B.length)) (hQ : MQX f n E B 0 B.length I R) (hn2 : n2 ≤ 65540) (ht : ¬ t = 0) (hk : k < B.length) (hBl : B.length < 65536) : pt (mT g) 223 [.ref m0, .int t, .int (nI k), .int 4] M (fun v M' => (∃  (I' : rI) (R' : rR), v = some (.int (if (mK f n E (B.getD k 0)).2.1 = 0 then 0 else nI (by4 f ((mK f n E (B.getD k 0)).2.1 + 10)))) ∧ RS g m0 q z I' R' M' ∧ eqI [0] I I' ∧ eqR [] R R' ∧ I' 0 = some 0)) := by
  refine pt_in (b := mb_223 g) rfl (fun kf => ?_)
  show pl (mT g) kf (mb_223 g).2 (0, [(0, .ref m0), (1, .int t), (2, .int (nI k)), (3, .int 4)], [], M) _
  have hEI : eqI [0] I I := eqI.rf
  have hER : eqR [] R R := eqR.rf
  have g9 := hQ k hk
  rw [Nat.zero_add] at g9
  refine ps_st (S' := (1, [(0, .ref m0), (1, .int t), (2, .int (nI k)), (3, .int 4)], [.ref m0], M)) rfl rfl rfl ?_
  refine ps_st (S' := (2, [(0, .ref m0), (1, .int t), (2, .int (nI k)), (3, .int 4)], [.int 0, .ref m0], M)) rfl rfl rfl ?_
  refine pr_put (j := 0) rfl hR rfl (fun M1 I2 hR3 hi4 hI5 => ?_)
  have hi6 := (hI5 18 (by decide)).trans hi18
  have hi7 := (hI5 26 (by decide)).trans hi26
  have hQ_8 := hQ.mono (pIx hI5 (by decide)) (fun _ _ => rfl)
  have hEI9 := hEI.put hI5 (by decide)
  show pl _ _ _ (5, [(0, .ref m0), (1, .int t), (2, .int (nI k)), (3, .int 4)], [], M1) _
  refine ps_st (S' := (6, [(0, .ref m0), (1, .int t), (2, .int (nI k)), (3, .int 4)], [.int 4], M1)) rfl rfl rfl ?_
  refine ps_if (S1 := (15, [(0, .ref m0)], [], M1)) (S2 := (9, [(0, .ref m0), (1, .int t), (2, .int (nI k)), (3, .int 4)], [], M1)) rfl rfl rfl (fun c_6 => ?_) (fun c_6 => ?_)
  · exact absurd (of_decide_eq_true c_6) (by decide)
  refine ps_st (S' := (10, [(0, .ref m0), (1, .int t), (2, .int (nI k)), (3, .int 4)], [.int 4], M1)) rfl rfl rfl ?_
  refine ps_st (S' := (12, [(0, .ref m0), (1, .int t), (2, .int (nI k)), (3, .int 4)], [.int 9, .int 4], M1)) rfl rfl rfl ?_
  refine ps_if2 (S1 := (20, [(0, .ref m0), (1, .int t), (2, .int (nI k)), (3, .int 4)], [], M1)) (S2 := (15, [(0, .ref m0)], [], M1)) rfl rfl rfl (fun c_12 => ?_) (fun c_12 => ?_)
  rotate_left
  · exact absurd (by decide) (of_decide_eq_false c_12)
  refine ps_st (S' := (21, [(0, .ref m0), (1, .int t), (2, .int (nI k)), (3, .int 4)], [.ref m0], M1)) rfl rfl rfl ?_
  refine pr_int (j := 18) (S' := (24, [(0, .ref m0), (1, .int t), (2, .int (nI k)), (3, .int 4)], [.int (nI n2)], M1)) rfl hR3 rfl hi6 rfl ?_
  refine ps_if (S1 := (50, [], [], M1)) (S2 := (27, [(0, .ref m0), (1, .int t), (2, .int (nI k)), (3, .int 4)], [], M1)) rfl rfl rfl (fun c_24 => ?_) (fun c_24 => ?_)
  · exact absurd (of_decide_eq_true c_24) (nI_n0 (by omega))
  refine ps_st (S' := (28, [(0, .ref m0), (1, .int t), (2, .int (nI k)), (3, .int 4)], [.int (nI k)], M1)) rfl rfl rfl ?_
  refine ps_if (S1 := (50, [], [], M1)) (S2 := (31, [(0, .ref m0), (1, .int t), (2, .int (nI k)), (3, .int 4)], [], M1)) rfl rfl rfl (fun c_28 => ?_) (fun c_28 => ?_)
  · exact absurd (of_decide_eq_true c_28) (nI_n0 (by omega))
  refine ps_st (S' := (32, [(0, .ref m0), (1, .int t), (2, .int (nI k)), (3, .int 4)], [.int (nI k)], M1)) rfl rfl rfl ?_
  refine ps_st (S' := (33, [(0, .ref m0), (1, .int t), (2, .int (nI k)), (3, .int 4)], [.int t, .int (nI k)], M1)) rfl rfl rfl ?_
  refine ps_if (S1 := (43, [(0, .ref m0), (1, .int t), (2, .int (nI k)), (3, .int 4)], [.int (nI k)], M1)) (S2 := (36, [(0, .ref m0), (1, .int t), (2, .int (nI k)), (3, .int 4)], [.int (nI k)], M1)) rfl rfl rfl (fun c_33 => ?_) (fun c_33 => ?_)
  · exact absurd (of_decide_eq_true c_33) (ht)
  refine ps_st (S' := (37, [(0, .ref m0), (1, .int t), (2, .int (nI k)), (3, .int 4)], [.ref m0, .int (nI k)], M1)) rfl rfl rfl ?_
  refine pr_int (j := 26) (S' := (40, [(0, .ref m0), (1, .int t), (2, .int (nI k)), (3, .int 4)], [.int (nI B.length), .int (nI k)], M1)) rfl hR3 rfl hi7 rfl ?_
  refine ps_st (S' := (47, [(0, .ref m0), (1, .int t), (2, .int (nI k)), (3, .int 4)], [.int (nI B.length), .int (nI k)], M1)) rfl rfl rfl ?_
  refine ps_if2 (S1 := (52, [(0, .ref m0), (1, .int t), (2, .int (nI k)), (3, .int 4)], [], M1)) (S2 := (50, [], [], M1)) rfl rfl rfl (fun c_47 => ?_) (fun c_47 => ?_)
  rotate_left
  · exact absurd ((lt_nI (p := k) (n := B.length) (by omega) (by omega)).mpr hk) (of_decide_eq_false c_47)
  refine ps_st (S' := (53, [(0, .ref m0), (1, .int t), (2, .int (nI k)), (3, .int 4)], [.int 4], M1)) rfl rfl rfl ?_
  refine ps_st (S' := (168, [(0, .ref m0), (1, .int t), (2, .int (nI k)), (3, .int 4)], [], M1)) rfl rfl rfl ?_
  refine ps_st (S' := (169, [(0, .ref m0), (1, .int t), (2, .int (nI k)), (3, .int 4)], [.int t], M1)) rfl rfl rfl ?_
  refine ps_if (S1 := (181, [(0, .ref m0), (1, .int t), (2, .int (nI k)), (3, .int 4)], [], M1)) (S2 := (172, [(0, .ref m0), (1, .int t), (2, .int (nI k)), (3, .int 4)], [], M1)) rfl rfl rfl (fun c_169 => ?_) (fun c_169 => ?_)
  · exact absurd (of_decide_eq_true c_169) (ht)
  refine ps_st (S' := (173, [(0, .ref m0), (1, .int t), (2, .int (nI k)), (3, .int 4)], [.ref m0], M1)) rfl rfl rfl ?_
  refine pr_ref (j := 38) (S' := (176, [(0, .ref m0), (1, .int t), (2, .int (nI k)), (3, .int 4)], [.ref (q 38)], M1)) rfl hR3 rfl rfl ?_
  refine ps_st (S' := (177, [(0, .ref m0), (1, .int t), (2, .int (nI k)), (3, .int 4)], [.int (nI k), .ref (q 38)], M1)) rfl rfl rfl ?_
  refine pr_ld (a := 38) (j := k) (y := (if (mK f n E (B.getD k 0)).2.1 = 0 then 0 else nI (by4 f ((mK f n E (B.getD k 0)).2.1 + 10)))) (S' := (178, [(0, .ref m0), (1, .int t), (2, .int (nI k)), (3, .int 4)], [.int (if (mK f n E (B.getD k 0)).2.1 = 0 then 0 else nI (by4 f ((mK f n E (B.getD k 0)).2.1 + 10)))], M1)) rfl hR3 rfl (by omega) (fun _ => g9.2.1.1.2.1) rfl (fun i1_177 => ?_)
  refine ps_st (S' := (187, [], [.int (if (mK f n E (B.getD k 0)).2.1 = 0 then 0 else nI (by4 f ((mK f n E (B.getD k 0)).2.1 + 10)))], M1)) rfl rfl rfl ?_
  exact ps_reti rfl (⟨I2, R, rfl, hR3, hEI9, hER, hi4⟩)
set_option maxHeartbeats 1000000 in
theorem rd_memberM5 {g : xe_G} {m0 : Nat} {q : Nat → Nat} {z : Nat × Nat} {I : rI} {R : rR} {M : mi_H} {f : Nat → Int32} {n n2 k : Nat} {E : List (Nat × Nat)} {B : List Nat} {t : Int32} (hR : RS g m0 q z I R M) (hi18 : I 18 = some (nI n2)) (hi26 : I 26 = some (nI B.length)) (hQ : MQX f n E B 0 B.length I R) (hn2 : n2 ≤ 65540) (ht : ¬ t = 0) (hk : k < B.length) (hBl : B.length < 65536) : pt (mT g) 223 [.ref m0, .int t, .int (nI k), .int 5] M (fun v M' => (∃  (I' : rI) (R' : rR), v = some (.int (if (mK f n E (B.getD k 0)).2.1 = 0 then 0 else nI (by2 f ((mK f n E (B.getD k 0)).2.1 + 6)))) ∧ RS g m0 q z I' R' M' ∧ eqI [0] I I' ∧ eqR [] R R' ∧ I' 0 = some 0)) := by
  refine pt_in (b := mb_223 g) rfl (fun kf => ?_)
  show pl (mT g) kf (mb_223 g).2 (0, [(0, .ref m0), (1, .int t), (2, .int (nI k)), (3, .int 5)], [], M) _
  have hEI : eqI [0] I I := eqI.rf
  have hER : eqR [] R R := eqR.rf
  have g9 := hQ k hk
  rw [Nat.zero_add] at g9
  refine ps_st (S' := (1, [(0, .ref m0), (1, .int t), (2, .int (nI k)), (3, .int 5)], [.ref m0], M)) rfl rfl rfl ?_
  refine ps_st (S' := (2, [(0, .ref m0), (1, .int t), (2, .int (nI k)), (3, .int 5)], [.int 0, .ref m0], M)) rfl rfl rfl ?_
  refine pr_put (j := 0) rfl hR rfl (fun M1 I2 hR3 hi4 hI5 => ?_)
  have hi6 := (hI5 18 (by decide)).trans hi18
  have hi7 := (hI5 26 (by decide)).trans hi26
  have hQ_8 := hQ.mono (pIx hI5 (by decide)) (fun _ _ => rfl)
  have hEI9 := hEI.put hI5 (by decide)
  show pl _ _ _ (5, [(0, .ref m0), (1, .int t), (2, .int (nI k)), (3, .int 5)], [], M1) _
  refine ps_st (S' := (6, [(0, .ref m0), (1, .int t), (2, .int (nI k)), (3, .int 5)], [.int 5], M1)) rfl rfl rfl ?_
  refine ps_if (S1 := (15, [(0, .ref m0)], [], M1)) (S2 := (9, [(0, .ref m0), (1, .int t), (2, .int (nI k)), (3, .int 5)], [], M1)) rfl rfl rfl (fun c_6 => ?_) (fun c_6 => ?_)
  · exact absurd (of_decide_eq_true c_6) (by decide)
  refine ps_st (S' := (10, [(0, .ref m0), (1, .int t), (2, .int (nI k)), (3, .int 5)], [.int 5], M1)) rfl rfl rfl ?_
  refine ps_st (S' := (12, [(0, .ref m0), (1, .int t), (2, .int (nI k)), (3, .int 5)], [.int 9, .int 5], M1)) rfl rfl rfl ?_
  refine ps_if2 (S1 := (20, [(0, .ref m0), (1, .int t), (2, .int (nI k)), (3, .int 5)], [], M1)) (S2 := (15, [(0, .ref m0)], [], M1)) rfl rfl rfl (fun c_12 => ?_) (fun c_12 => ?_)
  rotate_left
  · exact absurd (by decide) (of_decide_eq_false c_12)
  refine ps_st (S' := (21, [(0, .ref m0), (1, .int t), (2, .int (nI k)), (3, .int 5)], [.ref m0], M1)) rfl rfl rfl ?_
  refine pr_int (j := 18) (S' := (24, [(0, .ref m0), (1, .int t), (2, .int (nI k)), (3, .int 5)], [.int (nI n2)], M1)) rfl hR3 rfl hi6 rfl ?_
  refine ps_if (S1 := (50, [], [], M1)) (S2 := (27, [(0, .ref m0), (1, .int t), (2, .int (nI k)), (3, .int 5)], [], M1)) rfl rfl rfl (fun c_24 => ?_) (fun c_24 => ?_)
  · exact absurd (of_decide_eq_true c_24) (nI_n0 (by omega))
  refine ps_st (S' := (28, [(0, .ref m0), (1, .int t), (2, .int (nI k)), (3, .int 5)], [.int (nI k)], M1)) rfl rfl rfl ?_
  refine ps_if (S1 := (50, [], [], M1)) (S2 := (31, [(0, .ref m0), (1, .int t), (2, .int (nI k)), (3, .int 5)], [], M1)) rfl rfl rfl (fun c_28 => ?_) (fun c_28 => ?_)
  · exact absurd (of_decide_eq_true c_28) (nI_n0 (by omega))
  refine ps_st (S' := (32, [(0, .ref m0), (1, .int t), (2, .int (nI k)), (3, .int 5)], [.int (nI k)], M1)) rfl rfl rfl ?_
  refine ps_st (S' := (33, [(0, .ref m0), (1, .int t), (2, .int (nI k)), (3, .int 5)], [.int t, .int (nI k)], M1)) rfl rfl rfl ?_
  refine ps_if (S1 := (43, [(0, .ref m0), (1, .int t), (2, .int (nI k)), (3, .int 5)], [.int (nI k)], M1)) (S2 := (36, [(0, .ref m0), (1, .int t), (2, .int (nI k)), (3, .int 5)], [.int (nI k)], M1)) rfl rfl rfl (fun c_33 => ?_) (fun c_33 => ?_)
  · exact absurd (of_decide_eq_true c_33) (ht)
  refine ps_st (S' := (37, [(0, .ref m0), (1, .int t), (2, .int (nI k)), (3, .int 5)], [.ref m0, .int (nI k)], M1)) rfl rfl rfl ?_
  refine pr_int (j := 26) (S' := (40, [(0, .ref m0), (1, .int t), (2, .int (nI k)), (3, .int 5)], [.int (nI B.length), .int (nI k)], M1)) rfl hR3 rfl hi7 rfl ?_
  refine ps_st (S' := (47, [(0, .ref m0), (1, .int t), (2, .int (nI k)), (3, .int 5)], [.int (nI B.length), .int (nI k)], M1)) rfl rfl rfl ?_
  refine ps_if2 (S1 := (52, [(0, .ref m0), (1, .int t), (2, .int (nI k)), (3, .int 5)], [], M1)) (S2 := (50, [], [], M1)) rfl rfl rfl (fun c_47 => ?_) (fun c_47 => ?_)
  rotate_left
  · exact absurd ((lt_nI (p := k) (n := B.length) (by omega) (by omega)).mpr hk) (of_decide_eq_false c_47)
  refine ps_st (S' := (53, [(0, .ref m0), (1, .int t), (2, .int (nI k)), (3, .int 5)], [.int 5], M1)) rfl rfl rfl ?_
  refine ps_st (S' := (188, [(0, .ref m0), (1, .int t), (2, .int (nI k)), (3, .int 5)], [], M1)) rfl rfl rfl ?_
  refine ps_st (S' := (189, [(0, .ref m0), (1, .int t), (2, .int (nI k)), (3, .int 5)], [.int t], M1)) rfl rfl rfl ?_
  refine ps_if (S1 := (194, [(0, .ref m0), (1, .int t), (2, .int (nI k)), (3, .int 5)], [], M1)) (S2 := (192, [(0, .ref m0), (1, .int t), (2, .int (nI k)), (3, .int 5)], [], M1)) rfl rfl rfl (fun c_189 => ?_) (fun c_189 => ?_)
  rotate_left
  · exact absurd (ht) (of_decide_eq_false c_189)
  refine ps_st (S' := (195, [(0, .ref m0), (1, .int t), (2, .int (nI k)), (3, .int 5)], [.int 5], M1)) rfl rfl rfl ?_
  refine ps_st (S' := (196, [(0, .ref m0), (1, .int t), (2, .int (nI k)), (3, .int 5)], [.int 5, .int 5], M1)) rfl rfl rfl ?_
  refine ps_if2 (S1 := (208, [(0, .ref m0), (1, .int t), (2, .int (nI k)), (3, .int 5)], [], M1)) (S2 := (199, [(0, .ref m0), (1, .int t), (2, .int (nI k)), (3, .int 5)], [], M1)) rfl rfl rfl (fun c_196 => ?_) (fun c_196 => ?_)
  · exact absurd (of_decide_eq_true c_196) (by decide)
  refine ps_st (S' := (200, [(0, .ref m0), (1, .int t), (2, .int (nI k)), (3, .int 5)], [.ref m0], M1)) rfl rfl rfl ?_
  refine pr_ref (j := 39) (S' := (203, [(0, .ref m0), (1, .int t), (2, .int (nI k)), (3, .int 5)], [.ref (q 39)], M1)) rfl hR3 rfl rfl ?_
  refine ps_st (S' := (204, [(0, .ref m0), (1, .int t), (2, .int (nI k)), (3, .int 5)], [.int (nI k), .ref (q 39)], M1)) rfl rfl rfl ?_
  refine pr_ld (a := 39) (j := k) (y := (if (mK f n E (B.getD k 0)).2.1 = 0 then 0 else nI (by2 f ((mK f n E (B.getD k 0)).2.1 + 6)))) (S' := (205, [(0, .ref m0), (1, .int t), (2, .int (nI k)), (3, .int 5)], [.int (if (mK f n E (B.getD k 0)).2.1 = 0 then 0 else nI (by2 f ((mK f n E (B.getD k 0)).2.1 + 6)))], M1)) rfl hR3 rfl (by omega) (fun _ => g9.2.1.1.2.2.1) rfl (fun i1_204 => ?_)
  refine ps_st (S' := (281, [], [.int (if (mK f n E (B.getD k 0)).2.1 = 0 then 0 else nI (by2 f ((mK f n E (B.getD k 0)).2.1 + 6)))], M1)) rfl rfl rfl ?_
  exact ps_reti rfl (⟨I2, R, rfl, hR3, hEI9, hER, hi4⟩)
set_option maxHeartbeats 1000000 in
theorem rd_memberM6 {g : xe_G} {m0 : Nat} {q : Nat → Nat} {z : Nat × Nat} {I : rI} {R : rR} {M : mi_H} {f : Nat → Int32} {n n2 k : Nat} {E : List (Nat × Nat)} {B : List Nat} {t : Int32} (hR : RS g m0 q z I R M) (hi18 : I 18 = some (nI n2)) (hi26 : I 26 = some (nI B.length)) (hQ : MQX f n E B 0 B.length I R) (hn2 : n2 ≤ 65540) (ht : ¬ t = 0) (hk : k < B.length) (hBl : B.length < 65536) : pt (mT g) 223 [.ref m0, .int t, .int (nI k), .int 6] M (fun v M' => (∃  (I' : rI) (R' : rR), v = some (.int (if (mK f n E (B.getD k 0)).2.1 = 0 then 0 else nI (by2 f ((mK f n E (B.getD k 0)).2.1 + 8)))) ∧ RS g m0 q z I' R' M' ∧ eqI [0] I I' ∧ eqR [] R R' ∧ I' 0 = some 0)) := by
  refine pt_in (b := mb_223 g) rfl (fun kf => ?_)
  show pl (mT g) kf (mb_223 g).2 (0, [(0, .ref m0), (1, .int t), (2, .int (nI k)), (3, .int 6)], [], M) _
  have hEI : eqI [0] I I := eqI.rf
  have hER : eqR [] R R := eqR.rf
  have g9 := hQ k hk
  rw [Nat.zero_add] at g9
  refine ps_st (S' := (1, [(0, .ref m0), (1, .int t), (2, .int (nI k)), (3, .int 6)], [.ref m0], M)) rfl rfl rfl ?_
  refine ps_st (S' := (2, [(0, .ref m0), (1, .int t), (2, .int (nI k)), (3, .int 6)], [.int 0, .ref m0], M)) rfl rfl rfl ?_
  refine pr_put (j := 0) rfl hR rfl (fun M1 I2 hR3 hi4 hI5 => ?_)
  have hi6 := (hI5 18 (by decide)).trans hi18
  have hi7 := (hI5 26 (by decide)).trans hi26
  have hQ_8 := hQ.mono (pIx hI5 (by decide)) (fun _ _ => rfl)
  have hEI9 := hEI.put hI5 (by decide)
  show pl _ _ _ (5, [(0, .ref m0), (1, .int t), (2, .int (nI k)), (3, .int 6)], [], M1) _
  refine ps_st (S' := (6, [(0, .ref m0), (1, .int t), (2, .int (nI k)), (3, .int 6)], [.int 6], M1)) rfl rfl rfl ?_
  refine ps_if (S1 := (15, [(0, .ref m0)], [], M1)) (S2 := (9, [(0, .ref m0), (1, .int t), (2, .int (nI k)), (3, .int 6)], [], M1)) rfl rfl rfl (fun c_6 => ?_) (fun c_6 => ?_)
  · exact absurd (of_decide_eq_true c_6) (by decide)
  refine ps_st (S' := (10, [(0, .ref m0), (1, .int t), (2, .int (nI k)), (3, .int 6)], [.int 6], M1)) rfl rfl rfl ?_
  refine ps_st (S' := (12, [(0, .ref m0), (1, .int t), (2, .int (nI k)), (3, .int 6)], [.int 9, .int 6], M1)) rfl rfl rfl ?_
  refine ps_if2 (S1 := (20, [(0, .ref m0), (1, .int t), (2, .int (nI k)), (3, .int 6)], [], M1)) (S2 := (15, [(0, .ref m0)], [], M1)) rfl rfl rfl (fun c_12 => ?_) (fun c_12 => ?_)
  rotate_left
  · exact absurd (by decide) (of_decide_eq_false c_12)
  refine ps_st (S' := (21, [(0, .ref m0), (1, .int t), (2, .int (nI k)), (3, .int 6)], [.ref m0], M1)) rfl rfl rfl ?_
  refine pr_int (j := 18) (S' := (24, [(0, .ref m0), (1, .int t), (2, .int (nI k)), (3, .int 6)], [.int (nI n2)], M1)) rfl hR3 rfl hi6 rfl ?_
  refine ps_if (S1 := (50, [], [], M1)) (S2 := (27, [(0, .ref m0), (1, .int t), (2, .int (nI k)), (3, .int 6)], [], M1)) rfl rfl rfl (fun c_24 => ?_) (fun c_24 => ?_)
  · exact absurd (of_decide_eq_true c_24) (nI_n0 (by omega))
  refine ps_st (S' := (28, [(0, .ref m0), (1, .int t), (2, .int (nI k)), (3, .int 6)], [.int (nI k)], M1)) rfl rfl rfl ?_
  refine ps_if (S1 := (50, [], [], M1)) (S2 := (31, [(0, .ref m0), (1, .int t), (2, .int (nI k)), (3, .int 6)], [], M1)) rfl rfl rfl (fun c_28 => ?_) (fun c_28 => ?_)
  · exact absurd (of_decide_eq_true c_28) (nI_n0 (by omega))
  refine ps_st (S' := (32, [(0, .ref m0), (1, .int t), (2, .int (nI k)), (3, .int 6)], [.int (nI k)], M1)) rfl rfl rfl ?_
  refine ps_st (S' := (33, [(0, .ref m0), (1, .int t), (2, .int (nI k)), (3, .int 6)], [.int t, .int (nI k)], M1)) rfl rfl rfl ?_
  refine ps_if (S1 := (43, [(0, .ref m0), (1, .int t), (2, .int (nI k)), (3, .int 6)], [.int (nI k)], M1)) (S2 := (36, [(0, .ref m0), (1, .int t), (2, .int (nI k)), (3, .int 6)], [.int (nI k)], M1)) rfl rfl rfl (fun c_33 => ?_) (fun c_33 => ?_)
  · exact absurd (of_decide_eq_true c_33) (ht)
  refine ps_st (S' := (37, [(0, .ref m0), (1, .int t), (2, .int (nI k)), (3, .int 6)], [.ref m0, .int (nI k)], M1)) rfl rfl rfl ?_
  refine pr_int (j := 26) (S' := (40, [(0, .ref m0), (1, .int t), (2, .int (nI k)), (3, .int 6)], [.int (nI B.length), .int (nI k)], M1)) rfl hR3 rfl hi7 rfl ?_
  refine ps_st (S' := (47, [(0, .ref m0), (1, .int t), (2, .int (nI k)), (3, .int 6)], [.int (nI B.length), .int (nI k)], M1)) rfl rfl rfl ?_
  refine ps_if2 (S1 := (52, [(0, .ref m0), (1, .int t), (2, .int (nI k)), (3, .int 6)], [], M1)) (S2 := (50, [], [], M1)) rfl rfl rfl (fun c_47 => ?_) (fun c_47 => ?_)
  rotate_left
  · exact absurd ((lt_nI (p := k) (n := B.length) (by omega) (by omega)).mpr hk) (of_decide_eq_false c_47)
  refine ps_st (S' := (53, [(0, .ref m0), (1, .int t), (2, .int (nI k)), (3, .int 6)], [.int 6], M1)) rfl rfl rfl ?_
  refine ps_st (S' := (188, [(0, .ref m0), (1, .int t), (2, .int (nI k)), (3, .int 6)], [], M1)) rfl rfl rfl ?_
  refine ps_st (S' := (189, [(0, .ref m0), (1, .int t), (2, .int (nI k)), (3, .int 6)], [.int t], M1)) rfl rfl rfl ?_
  refine ps_if (S1 := (194, [(0, .ref m0), (1, .int t), (2, .int (nI k)), (3, .int 6)], [], M1)) (S2 := (192, [(0, .ref m0), (1, .int t), (2, .int (nI k)), (3, .int 6)], [], M1)) rfl rfl rfl (fun c_189 => ?_) (fun c_189 => ?_)
  rotate_left
  · exact absurd (ht) (of_decide_eq_false c_189)
  refine ps_st (S' := (195, [(0, .ref m0), (1, .int t), (2, .int (nI k)), (3, .int 6)], [.int 6], M1)) rfl rfl rfl ?_
  refine ps_st (S' := (196, [(0, .ref m0), (1, .int t), (2, .int (nI k)), (3, .int 6)], [.int 5, .int 6], M1)) rfl rfl rfl ?_
  refine ps_if2 (S1 := (208, [(0, .ref m0), (1, .int t), (2, .int (nI k)), (3, .int 6)], [], M1)) (S2 := (199, [(0, .ref m0), (1, .int t), (2, .int (nI k)), (3, .int 6)], [], M1)) rfl rfl rfl (fun c_196 => ?_) (fun c_196 => ?_)
  rotate_left
  · exact absurd (by decide) (of_decide_eq_false c_196)
  refine ps_st (S' := (209, [(0, .ref m0), (1, .int t), (2, .int (nI k)), (3, .int 6)], [.int 6], M1)) rfl rfl rfl ?_
  refine ps_st (S' := (211, [(0, .ref m0), (1, .int t), (2, .int (nI k)), (3, .int 6)], [.int 6, .int 6], M1)) rfl rfl rfl ?_
  refine ps_if2 (S1 := (223, [(0, .ref m0), (1, .int t), (2, .int (nI k)), (3, .int 6)], [], M1)) (S2 := (214, [(0, .ref m0), (1, .int t), (2, .int (nI k)), (3, .int 6)], [], M1)) rfl rfl rfl (fun c_211 => ?_) (fun c_211 => ?_)
  · exact absurd (of_decide_eq_true c_211) (by decide)
  refine ps_st (S' := (215, [(0, .ref m0), (1, .int t), (2, .int (nI k)), (3, .int 6)], [.ref m0], M1)) rfl rfl rfl ?_
  refine pr_ref (j := 40) (S' := (218, [(0, .ref m0), (1, .int t), (2, .int (nI k)), (3, .int 6)], [.ref (q 40)], M1)) rfl hR3 rfl rfl ?_
  refine ps_st (S' := (219, [(0, .ref m0), (1, .int t), (2, .int (nI k)), (3, .int 6)], [.int (nI k), .ref (q 40)], M1)) rfl rfl rfl ?_
  refine pr_ld (a := 40) (j := k) (y := (if (mK f n E (B.getD k 0)).2.1 = 0 then 0 else nI (by2 f ((mK f n E (B.getD k 0)).2.1 + 8)))) (S' := (220, [(0, .ref m0), (1, .int t), (2, .int (nI k)), (3, .int 6)], [.int (if (mK f n E (B.getD k 0)).2.1 = 0 then 0 else nI (by2 f ((mK f n E (B.getD k 0)).2.1 + 8)))], M1)) rfl hR3 rfl (by omega) (fun _ => g9.2.1.1.2.2.2.1) rfl (fun i1_219 => ?_)
  refine ps_st (S' := (281, [], [.int (if (mK f n E (B.getD k 0)).2.1 = 0 then 0 else nI (by2 f ((mK f n E (B.getD k 0)).2.1 + 8)))], M1)) rfl rfl rfl ?_
  exact ps_reti rfl (⟨I2, R, rfl, hR3, hEI9, hER, hi4⟩)
set_option maxHeartbeats 1000000 in
theorem rd_memberM7 {g : xe_G} {m0 : Nat} {q : Nat → Nat} {z : Nat × Nat} {I : rI} {R : rR} {M : mi_H} {f : Nat → Int32} {n n2 k : Nat} {E : List (Nat × Nat)} {B : List Nat} {t : Int32} (hR : RS g m0 q z I R M) (hi18 : I 18 = some (nI n2)) (hi26 : I 26 = some (nI B.length)) (hQ : MQX f n E B 0 B.length I R) (hn2 : n2 ≤ 65540) (ht : ¬ t = 0) (hk : k < B.length) (hBl : B.length < 65536) : pt (mT g) 223 [.ref m0, .int t, .int (nI k), .int 7] M (fun v M' => (∃  (I' : rI) (R' : rR), v = some (.int (if (mK f n E (B.getD k 0)).2.1 = 0 then 0 else nI (by2 f ((mK f n E (B.getD k 0)).2.1 + 14 + by4 f ((mK f n E (B.getD k 0)).2.1 + 10))))) ∧ RS g m0 q z I' R' M' ∧ eqI [0] I I' ∧ eqR [] R R' ∧ I' 0 = some 0)) := by
  refine pt_in (b := mb_223 g) rfl (fun kf => ?_)
  show pl (mT g) kf (mb_223 g).2 (0, [(0, .ref m0), (1, .int t), (2, .int (nI k)), (3, .int 7)], [], M) _
  have hEI : eqI [0] I I := eqI.rf
  have hER : eqR [] R R := eqR.rf
  have g9 := hQ k hk
  rw [Nat.zero_add] at g9
  refine ps_st (S' := (1, [(0, .ref m0), (1, .int t), (2, .int (nI k)), (3, .int 7)], [.ref m0], M)) rfl rfl rfl ?_
  refine ps_st (S' := (2, [(0, .ref m0), (1, .int t), (2, .int (nI k)), (3, .int 7)], [.int 0, .ref m0], M)) rfl rfl rfl ?_
  refine pr_put (j := 0) rfl hR rfl (fun M1 I2 hR3 hi4 hI5 => ?_)
  have hi6 := (hI5 18 (by decide)).trans hi18
  have hi7 := (hI5 26 (by decide)).trans hi26
  have hQ_8 := hQ.mono (pIx hI5 (by decide)) (fun _ _ => rfl)
  have hEI9 := hEI.put hI5 (by decide)
  show pl _ _ _ (5, [(0, .ref m0), (1, .int t), (2, .int (nI k)), (3, .int 7)], [], M1) _
  refine ps_st (S' := (6, [(0, .ref m0), (1, .int t), (2, .int (nI k)), (3, .int 7)], [.int 7], M1)) rfl rfl rfl ?_
  refine ps_if (S1 := (15, [(0, .ref m0)], [], M1)) (S2 := (9, [(0, .ref m0), (1, .int t), (2, .int (nI k)), (3, .int 7)], [], M1)) rfl rfl rfl (fun c_6 => ?_) (fun c_6 => ?_)
  · exact absurd (of_decide_eq_true c_6) (by decide)
  refine ps_st (S' := (10, [(0, .ref m0), (1, .int t), (2, .int (nI k)), (3, .int 7)], [.int 7], M1)) rfl rfl rfl ?_
  refine ps_st (S' := (12, [(0, .ref m0), (1, .int t), (2, .int (nI k)), (3, .int 7)], [.int 9, .int 7], M1)) rfl rfl rfl ?_
  refine ps_if2 (S1 := (20, [(0, .ref m0), (1, .int t), (2, .int (nI k)), (3, .int 7)], [], M1)) (S2 := (15, [(0, .ref m0)], [], M1)) rfl rfl rfl (fun c_12 => ?_) (fun c_12 => ?_)
  rotate_left
  · exact absurd (by decide) (of_decide_eq_false c_12)
  refine ps_st (S' := (21, [(0, .ref m0), (1, .int t), (2, .int (nI k)), (3, .int 7)], [.ref m0], M1)) rfl rfl rfl ?_
  refine pr_int (j := 18) (S' := (24, [(0, .ref m0), (1, .int t), (2, .int (nI k)), (3, .int 7)], [.int (nI n2)], M1)) rfl hR3 rfl hi6 rfl ?_
  refine ps_if (S1 := (50, [], [], M1)) (S2 := (27, [(0, .ref m0), (1, .int t), (2, .int (nI k)), (3, .int 7)], [], M1)) rfl rfl rfl (fun c_24 => ?_) (fun c_24 => ?_)
  · exact absurd (of_decide_eq_true c_24) (nI_n0 (by omega))
  refine ps_st (S' := (28, [(0, .ref m0), (1, .int t), (2, .int (nI k)), (3, .int 7)], [.int (nI k)], M1)) rfl rfl rfl ?_
  refine ps_if (S1 := (50, [], [], M1)) (S2 := (31, [(0, .ref m0), (1, .int t), (2, .int (nI k)), (3, .int 7)], [], M1)) rfl rfl rfl (fun c_28 => ?_) (fun c_28 => ?_)
  · exact absurd (of_decide_eq_true c_28) (nI_n0 (by omega))
  refine ps_st (S' := (32, [(0, .ref m0), (1, .int t), (2, .int (nI k)), (3, .int 7)], [.int (nI k)], M1)) rfl rfl rfl ?_
  refine ps_st (S' := (33, [(0, .ref m0), (1, .int t), (2, .int (nI k)), (3, .int 7)], [.int t, .int (nI k)], M1)) rfl rfl rfl ?_
  refine ps_if (S1 := (43, [(0, .ref m0), (1, .int t), (2, .int (nI k)), (3, .int 7)], [.int (nI k)], M1)) (S2 := (36, [(0, .ref m0), (1, .int t), (2, .int (nI k)), (3, .int 7)], [.int (nI k)], M1)) rfl rfl rfl (fun c_33 => ?_) (fun c_33 => ?_)
  · exact absurd (of_decide_eq_true c_33) (ht)
  refine ps_st (S' := (37, [(0, .ref m0), (1, .int t), (2, .int (nI k)), (3, .int 7)], [.ref m0, .int (nI k)], M1)) rfl rfl rfl ?_
  refine pr_int (j := 26) (S' := (40, [(0, .ref m0), (1, .int t), (2, .int (nI k)), (3, .int 7)], [.int (nI B.length), .int (nI k)], M1)) rfl hR3 rfl hi7 rfl ?_
  refine ps_st (S' := (47, [(0, .ref m0), (1, .int t), (2, .int (nI k)), (3, .int 7)], [.int (nI B.length), .int (nI k)], M1)) rfl rfl rfl ?_
  refine ps_if2 (S1 := (52, [(0, .ref m0), (1, .int t), (2, .int (nI k)), (3, .int 7)], [], M1)) (S2 := (50, [], [], M1)) rfl rfl rfl (fun c_47 => ?_) (fun c_47 => ?_)
  rotate_left
  · exact absurd ((lt_nI (p := k) (n := B.length) (by omega) (by omega)).mpr hk) (of_decide_eq_false c_47)
  refine ps_st (S' := (53, [(0, .ref m0), (1, .int t), (2, .int (nI k)), (3, .int 7)], [.int 7], M1)) rfl rfl rfl ?_
  refine ps_st (S' := (188, [(0, .ref m0), (1, .int t), (2, .int (nI k)), (3, .int 7)], [], M1)) rfl rfl rfl ?_
  refine ps_st (S' := (189, [(0, .ref m0), (1, .int t), (2, .int (nI k)), (3, .int 7)], [.int t], M1)) rfl rfl rfl ?_
  refine ps_if (S1 := (194, [(0, .ref m0), (1, .int t), (2, .int (nI k)), (3, .int 7)], [], M1)) (S2 := (192, [(0, .ref m0), (1, .int t), (2, .int (nI k)), (3, .int 7)], [], M1)) rfl rfl rfl (fun c_189 => ?_) (fun c_189 => ?_)
  rotate_left
  · exact absurd (ht) (of_decide_eq_false c_189)
  refine ps_st (S' := (195, [(0, .ref m0), (1, .int t), (2, .int (nI k)), (3, .int 7)], [.int 7], M1)) rfl rfl rfl ?_
  refine ps_st (S' := (196, [(0, .ref m0), (1, .int t), (2, .int (nI k)), (3, .int 7)], [.int 5, .int 7], M1)) rfl rfl rfl ?_
  refine ps_if2 (S1 := (208, [(0, .ref m0), (1, .int t), (2, .int (nI k)), (3, .int 7)], [], M1)) (S2 := (199, [(0, .ref m0), (1, .int t), (2, .int (nI k)), (3, .int 7)], [], M1)) rfl rfl rfl (fun c_196 => ?_) (fun c_196 => ?_)
  rotate_left
  · exact absurd (by decide) (of_decide_eq_false c_196)
  refine ps_st (S' := (209, [(0, .ref m0), (1, .int t), (2, .int (nI k)), (3, .int 7)], [.int 7], M1)) rfl rfl rfl ?_
  refine ps_st (S' := (211, [(0, .ref m0), (1, .int t), (2, .int (nI k)), (3, .int 7)], [.int 6, .int 7], M1)) rfl rfl rfl ?_
  refine ps_if2 (S1 := (223, [(0, .ref m0), (1, .int t), (2, .int (nI k)), (3, .int 7)], [], M1)) (S2 := (214, [(0, .ref m0), (1, .int t), (2, .int (nI k)), (3, .int 7)], [], M1)) rfl rfl rfl (fun c_211 => ?_) (fun c_211 => ?_)
  rotate_left
  · exact absurd (by decide) (of_decide_eq_false c_211)
  refine ps_st (S' := (224, [(0, .ref m0), (1, .int t), (2, .int (nI k)), (3, .int 7)], [.int 7], M1)) rfl rfl rfl ?_
  refine ps_st (S' := (226, [(0, .ref m0), (1, .int t), (2, .int (nI k)), (3, .int 7)], [.int 7, .int 7], M1)) rfl rfl rfl ?_
  refine ps_if2 (S1 := (238, [(0, .ref m0), (1, .int t), (2, .int (nI k)), (3, .int 7)], [], M1)) (S2 := (229, [(0, .ref m0), (1, .int t), (2, .int (nI k)), (3, .int 7)], [], M1)) rfl rfl rfl (fun c_226 => ?_) (fun c_226 => ?_)
  · exact absurd (of_decide_eq_true c_226) (by decide)
  refine ps_st (S' := (230, [(0, .ref m0), (1, .int t), (2, .int (nI k)), (3, .int 7)], [.ref m0], M1)) rfl rfl rfl ?_
  refine pr_ref (j := 42) (S' := (233, [(0, .ref m0), (1, .int t), (2, .int (nI k)), (3, .int 7)], [.ref (q 42)], M1)) rfl hR3 rfl rfl ?_
  refine ps_st (S' := (234, [(0, .ref m0), (1, .int t), (2, .int (nI k)), (3, .int 7)], [.int (nI k), .ref (q 42)], M1)) rfl rfl rfl ?_
  refine pr_ld (a := 42) (j := k) (y := (if (mK f n E (B.getD k 0)).2.1 = 0 then 0 else nI (by2 f ((mK f n E (B.getD k 0)).2.1 + 14 + by4 f ((mK f n E (B.getD k 0)).2.1 + 10))))) (S' := (235, [(0, .ref m0), (1, .int t), (2, .int (nI k)), (3, .int 7)], [.int (if (mK f n E (B.getD k 0)).2.1 = 0 then 0 else nI (by2 f ((mK f n E (B.getD k 0)).2.1 + 14 + by4 f ((mK f n E (B.getD k 0)).2.1 + 10))))], M1)) rfl hR3 rfl (by omega) (fun _ => g9.2.1.1.2.2.2.2.2) rfl (fun i1_234 => ?_)
  refine ps_st (S' := (281, [], [.int (if (mK f n E (B.getD k 0)).2.1 = 0 then 0 else nI (by2 f ((mK f n E (B.getD k 0)).2.1 + 14 + by4 f ((mK f n E (B.getD k 0)).2.1 + 10))))], M1)) rfl rfl rfl ?_
  exact ps_reti rfl (⟨I2, R, rfl, hR3, hEI9, hER, hi4⟩)
set_option maxHeartbeats 1000000 in
theorem rd_memberM9 {g : xe_G} {m0 : Nat} {q : Nat → Nat} {z : Nat × Nat} {I : rI} {R : rR} {M : mi_H} {f : Nat → Int32} {n n2 k : Nat} {E : List (Nat × Nat)} {B : List Nat} {t : Int32} (hR : RS g m0 q z I R M) (hi18 : I 18 = some (nI n2)) (hi26 : I 26 = some (nI B.length)) (hQ : MQX f n E B 0 B.length I R) (hn2 : n2 ≤ 65540) (ht : ¬ t = 0) (hk : k < B.length) (hBl : B.length < 65536) : pt (mT g) 223 [.ref m0, .int t, .int (nI k), .int 9] M (fun v M' => (∃  (I' : rI) (R' : rR), v = some (.int (nI (mK f n E (B.getD k 0)).2.2)) ∧ RS g m0 q z I' R' M' ∧ eqI [0] I I' ∧ eqR [] R R' ∧ I' 0 = some 0)) := by
  refine pt_in (b := mb_223 g) rfl (fun kf => ?_)
  show pl (mT g) kf (mb_223 g).2 (0, [(0, .ref m0), (1, .int t), (2, .int (nI k)), (3, .int 9)], [], M) _
  have hEI : eqI [0] I I := eqI.rf
  have hER : eqR [] R R := eqR.rf
  have g9 := hQ k hk
  rw [Nat.zero_add] at g9
  refine ps_st (S' := (1, [(0, .ref m0), (1, .int t), (2, .int (nI k)), (3, .int 9)], [.ref m0], M)) rfl rfl rfl ?_
  refine ps_st (S' := (2, [(0, .ref m0), (1, .int t), (2, .int (nI k)), (3, .int 9)], [.int 0, .ref m0], M)) rfl rfl rfl ?_
  refine pr_put (j := 0) rfl hR rfl (fun M1 I2 hR3 hi4 hI5 => ?_)
  have hi6 := (hI5 18 (by decide)).trans hi18
  have hi7 := (hI5 26 (by decide)).trans hi26
  have hQ_8 := hQ.mono (pIx hI5 (by decide)) (fun _ _ => rfl)
  have hEI9 := hEI.put hI5 (by decide)
  show pl _ _ _ (5, [(0, .ref m0), (1, .int t), (2, .int (nI k)), (3, .int 9)], [], M1) _
  refine ps_st (S' := (6, [(0, .ref m0), (1, .int t), (2, .int (nI k)), (3, .int 9)], [.int 9], M1)) rfl rfl rfl ?_
  refine ps_if (S1 := (15, [(0, .ref m0)], [], M1)) (S2 := (9, [(0, .ref m0), (1, .int t), (2, .int (nI k)), (3, .int 9)], [], M1)) rfl rfl rfl (fun c_6 => ?_) (fun c_6 => ?_)
  · exact absurd (of_decide_eq_true c_6) (by decide)
  refine ps_st (S' := (10, [(0, .ref m0), (1, .int t), (2, .int (nI k)), (3, .int 9)], [.int 9], M1)) rfl rfl rfl ?_
  refine ps_st (S' := (12, [(0, .ref m0), (1, .int t), (2, .int (nI k)), (3, .int 9)], [.int 9, .int 9], M1)) rfl rfl rfl ?_
  refine ps_if2 (S1 := (20, [(0, .ref m0), (1, .int t), (2, .int (nI k)), (3, .int 9)], [], M1)) (S2 := (15, [(0, .ref m0)], [], M1)) rfl rfl rfl (fun c_12 => ?_) (fun c_12 => ?_)
  rotate_left
  · exact absurd (by decide) (of_decide_eq_false c_12)
  refine ps_st (S' := (21, [(0, .ref m0), (1, .int t), (2, .int (nI k)), (3, .int 9)], [.ref m0], M1)) rfl rfl rfl ?_
  refine pr_int (j := 18) (S' := (24, [(0, .ref m0), (1, .int t), (2, .int (nI k)), (3, .int 9)], [.int (nI n2)], M1)) rfl hR3 rfl hi6 rfl ?_
  refine ps_if (S1 := (50, [], [], M1)) (S2 := (27, [(0, .ref m0), (1, .int t), (2, .int (nI k)), (3, .int 9)], [], M1)) rfl rfl rfl (fun c_24 => ?_) (fun c_24 => ?_)
  · exact absurd (of_decide_eq_true c_24) (nI_n0 (by omega))
  refine ps_st (S' := (28, [(0, .ref m0), (1, .int t), (2, .int (nI k)), (3, .int 9)], [.int (nI k)], M1)) rfl rfl rfl ?_
  refine ps_if (S1 := (50, [], [], M1)) (S2 := (31, [(0, .ref m0), (1, .int t), (2, .int (nI k)), (3, .int 9)], [], M1)) rfl rfl rfl (fun c_28 => ?_) (fun c_28 => ?_)
  · exact absurd (of_decide_eq_true c_28) (nI_n0 (by omega))
  refine ps_st (S' := (32, [(0, .ref m0), (1, .int t), (2, .int (nI k)), (3, .int 9)], [.int (nI k)], M1)) rfl rfl rfl ?_
  refine ps_st (S' := (33, [(0, .ref m0), (1, .int t), (2, .int (nI k)), (3, .int 9)], [.int t, .int (nI k)], M1)) rfl rfl rfl ?_
  refine ps_if (S1 := (43, [(0, .ref m0), (1, .int t), (2, .int (nI k)), (3, .int 9)], [.int (nI k)], M1)) (S2 := (36, [(0, .ref m0), (1, .int t), (2, .int (nI k)), (3, .int 9)], [.int (nI k)], M1)) rfl rfl rfl (fun c_33 => ?_) (fun c_33 => ?_)
  · exact absurd (of_decide_eq_true c_33) (ht)
  refine ps_st (S' := (37, [(0, .ref m0), (1, .int t), (2, .int (nI k)), (3, .int 9)], [.ref m0, .int (nI k)], M1)) rfl rfl rfl ?_
  refine pr_int (j := 26) (S' := (40, [(0, .ref m0), (1, .int t), (2, .int (nI k)), (3, .int 9)], [.int (nI B.length), .int (nI k)], M1)) rfl hR3 rfl hi7 rfl ?_
  refine ps_st (S' := (47, [(0, .ref m0), (1, .int t), (2, .int (nI k)), (3, .int 9)], [.int (nI B.length), .int (nI k)], M1)) rfl rfl rfl ?_
  refine ps_if2 (S1 := (52, [(0, .ref m0), (1, .int t), (2, .int (nI k)), (3, .int 9)], [], M1)) (S2 := (50, [], [], M1)) rfl rfl rfl (fun c_47 => ?_) (fun c_47 => ?_)
  rotate_left
  · exact absurd ((lt_nI (p := k) (n := B.length) (by omega) (by omega)).mpr hk) (of_decide_eq_false c_47)
  refine ps_st (S' := (53, [(0, .ref m0), (1, .int t), (2, .int (nI k)), (3, .int 9)], [.int 9], M1)) rfl rfl rfl ?_
  refine ps_st (S' := (188, [(0, .ref m0), (1, .int t), (2, .int (nI k)), (3, .int 9)], [], M1)) rfl rfl rfl ?_
  refine ps_st (S' := (189, [(0, .ref m0), (1, .int t), (2, .int (nI k)), (3, .int 9)], [.int t], M1)) rfl rfl rfl ?_
  refine ps_if (S1 := (194, [(0, .ref m0), (1, .int t), (2, .int (nI k)), (3, .int 9)], [], M1)) (S2 := (192, [(0, .ref m0), (1, .int t), (2, .int (nI k)), (3, .int 9)], [], M1)) rfl rfl rfl (fun c_189 => ?_) (fun c_189 => ?_)
  rotate_left
  · exact absurd (ht) (of_decide_eq_false c_189)
  refine ps_st (S' := (195, [(0, .ref m0), (1, .int t), (2, .int (nI k)), (3, .int 9)], [.int 9], M1)) rfl rfl rfl ?_
  refine ps_st (S' := (196, [(0, .ref m0), (1, .int t), (2, .int (nI k)), (3, .int 9)], [.int 5, .int 9], M1)) rfl rfl rfl ?_
  refine ps_if2 (S1 := (208, [(0, .ref m0), (1, .int t), (2, .int (nI k)), (3, .int 9)], [], M1)) (S2 := (199, [(0, .ref m0), (1, .int t), (2, .int (nI k)), (3, .int 9)], [], M1)) rfl rfl rfl (fun c_196 => ?_) (fun c_196 => ?_)
  rotate_left
  · exact absurd (by decide) (of_decide_eq_false c_196)
  refine ps_st (S' := (209, [(0, .ref m0), (1, .int t), (2, .int (nI k)), (3, .int 9)], [.int 9], M1)) rfl rfl rfl ?_
  refine ps_st (S' := (211, [(0, .ref m0), (1, .int t), (2, .int (nI k)), (3, .int 9)], [.int 6, .int 9], M1)) rfl rfl rfl ?_
  refine ps_if2 (S1 := (223, [(0, .ref m0), (1, .int t), (2, .int (nI k)), (3, .int 9)], [], M1)) (S2 := (214, [(0, .ref m0), (1, .int t), (2, .int (nI k)), (3, .int 9)], [], M1)) rfl rfl rfl (fun c_211 => ?_) (fun c_211 => ?_)
  rotate_left
  · exact absurd (by decide) (of_decide_eq_false c_211)
  refine ps_st (S' := (224, [(0, .ref m0), (1, .int t), (2, .int (nI k)), (3, .int 9)], [.int 9], M1)) rfl rfl rfl ?_
  refine ps_st (S' := (226, [(0, .ref m0), (1, .int t), (2, .int (nI k)), (3, .int 9)], [.int 7, .int 9], M1)) rfl rfl rfl ?_
  refine ps_if2 (S1 := (238, [(0, .ref m0), (1, .int t), (2, .int (nI k)), (3, .int 9)], [], M1)) (S2 := (229, [(0, .ref m0), (1, .int t), (2, .int (nI k)), (3, .int 9)], [], M1)) rfl rfl rfl (fun c_226 => ?_) (fun c_226 => ?_)
  rotate_left
  · exact absurd (by decide) (of_decide_eq_false c_226)
  refine ps_st (S' := (239, [(0, .ref m0), (1, .int t), (2, .int (nI k)), (3, .int 9)], [.int 9], M1)) rfl rfl rfl ?_
  refine ps_st (S' := (241, [(0, .ref m0), (1, .int t), (2, .int (nI k)), (3, .int 9)], [.int 8, .int 9], M1)) rfl rfl rfl ?_
  refine ps_if2 (S1 := (275, [(0, .ref m0), (1, .int t), (2, .int (nI k)), (3, .int 9)], [], M1)) (S2 := (244, [(0, .ref m0), (1, .int t), (2, .int (nI k)), (3, .int 9)], [], M1)) rfl rfl rfl (fun c_241 => ?_) (fun c_241 => ?_)
  rotate_left
  · exact absurd (by decide) (of_decide_eq_false c_241)
  refine ps_st (S' := (276, [(0, .ref m0), (1, .int t), (2, .int (nI k)), (3, .int 9)], [.ref m0], M1)) rfl rfl rfl ?_
  refine pr_ref (j := 44) (S' := (279, [(0, .ref m0), (1, .int t), (2, .int (nI k)), (3, .int 9)], [.ref (q 44)], M1)) rfl hR3 rfl rfl ?_
  refine ps_st (S' := (280, [(0, .ref m0), (1, .int t), (2, .int (nI k)), (3, .int 9)], [.int (nI k), .ref (q 44)], M1)) rfl rfl rfl ?_
  refine pr_ld (a := 44) (j := k) (y := (nI (mK f n E (B.getD k 0)).2.2)) (S' := (281, [], [.int (nI (mK f n E (B.getD k 0)).2.2)], M1)) rfl hR3 rfl (by omega) (fun _ => g9.2.1.2.2) rfl (fun i1_280 => ?_)
  exact ps_reti rfl (⟨I2, R, rfl, hR3, hEI9, hER, hi4⟩)
set_option maxHeartbeats 1000000 in
theorem rd_memberM8 {g : xe_G} {m0 : Nat} {q : Nat → Nat} {z : Nat × Nat} {I : rI} {R : rR} {M : mi_H} {n : Nat} {f : Nat → Int32} {tx : List (List Nat)} {cN : Nat} {A : Nat → Nat} {N mj : Nat} {E : List (Nat × Nat)} {n2 : Nat} {k : Nat} {B : List Nat} {t : Int32} (hR : RS g m0 q z I R M) (hi18 : I 18 = some (nI n2)) (hi51 : I 51 = some 0) (hi52 : I 52 = some (nI N)) (hi53 : I 53 = some (nI mj)) (hi26 : I 26 = some (nI B.length)) (hF : FK n f I R) (hY : SYT tx cN A I R) (hP : RPV f n E tx N I R) (hQ : MQX f n E B 0 B.length I R) (hN9 : FN 35 36 f n E tx B 0 B.length I R) (hEP : EP f n E) (hN : N < 65536) (hmj : mj < 65536) (hn2 : n2 ≤ 65540) (ht : ¬ t = 0) (hk : k < B.length) (hBl : B.length < 65536) (hmt : ¬ mthN (tX f n E (by2 f (B.getD k 0 + 4))) = 0) : pt (mT g) 223 [.ref m0, .int t, .int (nI k), .int 8] M (fun v M' => (∃  (I' : rI) (R' : rR), v = some (.int (nI (apN f n E (B.getD k 0)))) ∧ RS g m0 q z I' R' M' ∧ eqI [0] I I' ∧ eqR [] R R' ∧ I' 0 = some 0)) := by
  refine pt_in (b := mb_223 g) rfl (fun kf => ?_)
  show pl (mT g) kf (mb_223 g).2 (0, [(0, .ref m0), (1, .int t), (2, .int (nI k)), (3, .int 8)], [], M) _
  have hEI : eqI [0] I I := eqI.rf
  have hER : eqR [] R R := eqR.rf
  have hn := hF.1
  have htl := hY.1.2.2.1
  have g9 := hQ k hk
  rw [Nat.zero_add] at g9
  obtain ⟨a9, d9, g1, g2, g3, g4, g5, g6⟩ := hN9 k hk
  rw [Nat.zero_add] at g1 g2
  have g7 := g4.1
  have hu8 := by2_lt f (B.getD k 0)
  refine ps_st (S' := (1, [(0, .ref m0), (1, .int t), (2, .int (nI k)), (3, .int 8)], [.ref m0], M)) rfl rfl rfl ?_
  refine ps_st (S' := (2, [(0, .ref m0), (1, .int t), (2, .int (nI k)), (3, .int 8)], [.int 0, .ref m0], M)) rfl rfl rfl ?_
  refine pr_put (j := 0) rfl hR rfl (fun M1 I2 hR3 hi4 hI5 => ?_)
  have hi6 := (hI5 18 (by decide)).trans hi18
  have hi7 := (hI5 51 (by decide)).trans hi51
  have hi8 := (hI5 52 (by decide)).trans hi52
  have hi9 := (hI5 53 (by decide)).trans hi53
  have hi10 := (hI5 26 (by decide)).trans hi26
  have hF_11 := hF.mono (pIx hI5 (by decide)) (fun _ _ => rfl)
  have hY_12 := hY.mono (pIx hI5 (by decide)) (fun _ _ => rfl)
  have hP_13 := hP.mono (pIx hI5 (by decide)) (fun _ _ => rfl)
  have hQ_14 := hQ.mono (pIx hI5 (by decide)) (fun _ _ => rfl)
  have hN9_15 := hN9.mono (pIx hI5 (by decide)) (fun _ _ => rfl)
  have hEI16 := hEI.put hI5 (by decide)
  show pl _ _ _ (5, [(0, .ref m0), (1, .int t), (2, .int (nI k)), (3, .int 8)], [], M1) _
  refine ps_st (S' := (6, [(0, .ref m0), (1, .int t), (2, .int (nI k)), (3, .int 8)], [.int 8], M1)) rfl rfl rfl ?_
  refine ps_if (S1 := (15, [(0, .ref m0)], [], M1)) (S2 := (9, [(0, .ref m0), (1, .int t), (2, .int (nI k)), (3, .int 8)], [], M1)) rfl rfl rfl (fun c_6 => ?_) (fun c_6 => ?_)
  · exact absurd (of_decide_eq_true c_6) (by decide)
  refine ps_st (S' := (10, [(0, .ref m0), (1, .int t), (2, .int (nI k)), (3, .int 8)], [.int 8], M1)) rfl rfl rfl ?_
  refine ps_st (S' := (12, [(0, .ref m0), (1, .int t), (2, .int (nI k)), (3, .int 8)], [.int 9, .int 8], M1)) rfl rfl rfl ?_
  refine ps_if2 (S1 := (20, [(0, .ref m0), (1, .int t), (2, .int (nI k)), (3, .int 8)], [], M1)) (S2 := (15, [(0, .ref m0)], [], M1)) rfl rfl rfl (fun c_12 => ?_) (fun c_12 => ?_)
  rotate_left
  · exact absurd (by decide) (of_decide_eq_false c_12)
  refine ps_st (S' := (21, [(0, .ref m0), (1, .int t), (2, .int (nI k)), (3, .int 8)], [.ref m0], M1)) rfl rfl rfl ?_
  refine pr_int (j := 18) (S' := (24, [(0, .ref m0), (1, .int t), (2, .int (nI k)), (3, .int 8)], [.int (nI n2)], M1)) rfl hR3 rfl hi6 rfl ?_
  refine ps_if (S1 := (50, [], [], M1)) (S2 := (27, [(0, .ref m0), (1, .int t), (2, .int (nI k)), (3, .int 8)], [], M1)) rfl rfl rfl (fun c_24 => ?_) (fun c_24 => ?_)
  · exact absurd (of_decide_eq_true c_24) (show ¬ ((nI n2) < 0) from fun h9 => absurd ((lt_nI (p := n2) (n := 0) (by omega) (by decide)).mp h9) (by omega))
  refine ps_st (S' := (28, [(0, .ref m0), (1, .int t), (2, .int (nI k)), (3, .int 8)], [.int (nI k)], M1)) rfl rfl rfl ?_
  refine ps_if (S1 := (50, [], [], M1)) (S2 := (31, [(0, .ref m0), (1, .int t), (2, .int (nI k)), (3, .int 8)], [], M1)) rfl rfl rfl (fun c_28 => ?_) (fun c_28 => ?_)
  · exact absurd (of_decide_eq_true c_28) (show ¬ ((nI k) < 0) from fun h9 => absurd ((lt_nI (p := k) (n := 0) (by omega) (by decide)).mp h9) (by omega))
  refine ps_st (S' := (32, [(0, .ref m0), (1, .int t), (2, .int (nI k)), (3, .int 8)], [.int (nI k)], M1)) rfl rfl rfl ?_
  refine ps_st (S' := (33, [(0, .ref m0), (1, .int t), (2, .int (nI k)), (3, .int 8)], [.int t, .int (nI k)], M1)) rfl rfl rfl ?_
  refine ps_if (S1 := (43, [(0, .ref m0), (1, .int t), (2, .int (nI k)), (3, .int 8)], [.int (nI k)], M1)) (S2 := (36, [(0, .ref m0), (1, .int t), (2, .int (nI k)), (3, .int 8)], [.int (nI k)], M1)) rfl rfl rfl (fun c_33 => ?_) (fun c_33 => ?_)
  · exact absurd (of_decide_eq_true c_33) (ht)
  refine ps_st (S' := (37, [(0, .ref m0), (1, .int t), (2, .int (nI k)), (3, .int 8)], [.ref m0, .int (nI k)], M1)) rfl rfl rfl ?_
  refine pr_int (j := 26) (S' := (40, [(0, .ref m0), (1, .int t), (2, .int (nI k)), (3, .int 8)], [.int (nI B.length), .int (nI k)], M1)) rfl hR3 rfl hi10 rfl ?_
  refine ps_st (S' := (47, [(0, .ref m0), (1, .int t), (2, .int (nI k)), (3, .int 8)], [.int (nI B.length), .int (nI k)], M1)) rfl rfl rfl ?_
  refine ps_if2 (S1 := (52, [(0, .ref m0), (1, .int t), (2, .int (nI k)), (3, .int 8)], [], M1)) (S2 := (50, [], [], M1)) rfl rfl rfl (fun c_47 => ?_) (fun c_47 => ?_)
  rotate_left
  · exact absurd ((lt_nI (p := k) (n := B.length) (by omega) (by omega)).mpr hk) (of_decide_eq_false c_47)
  refine ps_st (S' := (53, [(0, .ref m0), (1, .int t), (2, .int (nI k)), (3, .int 8)], [.int 8], M1)) rfl rfl rfl ?_
  refine ps_st (S' := (188, [(0, .ref m0), (1, .int t), (2, .int (nI k)), (3, .int 8)], [], M1)) rfl rfl rfl ?_
  refine ps_st (S' := (189, [(0, .ref m0), (1, .int t), (2, .int (nI k)), (3, .int 8)], [.int t], M1)) rfl rfl rfl ?_
  refine ps_if (S1 := (194, [(0, .ref m0), (1, .int t), (2, .int (nI k)), (3, .int 8)], [], M1)) (S2 := (192, [(0, .ref m0), (1, .int t), (2, .int (nI k)), (3, .int 8)], [], M1)) rfl rfl rfl (fun c_189 => ?_) (fun c_189 => ?_)
  rotate_left
  · exact absurd (ht) (of_decide_eq_false c_189)
  refine ps_st (S' := (195, [(0, .ref m0), (1, .int t), (2, .int (nI k)), (3, .int 8)], [.int 8], M1)) rfl rfl rfl ?_
  refine ps_st (S' := (196, [(0, .ref m0), (1, .int t), (2, .int (nI k)), (3, .int 8)], [.int 5, .int 8], M1)) rfl rfl rfl ?_
  refine ps_if2 (S1 := (208, [(0, .ref m0), (1, .int t), (2, .int (nI k)), (3, .int 8)], [], M1)) (S2 := (199, [(0, .ref m0), (1, .int t), (2, .int (nI k)), (3, .int 8)], [], M1)) rfl rfl rfl (fun c_196 => ?_) (fun c_196 => ?_)
  rotate_left
  · exact absurd (by decide) (of_decide_eq_false c_196)
  refine ps_st (S' := (209, [(0, .ref m0), (1, .int t), (2, .int (nI k)), (3, .int 8)], [.int 8], M1)) rfl rfl rfl ?_
  refine ps_st (S' := (211, [(0, .ref m0), (1, .int t), (2, .int (nI k)), (3, .int 8)], [.int 6, .int 8], M1)) rfl rfl rfl ?_
  refine ps_if2 (S1 := (223, [(0, .ref m0), (1, .int t), (2, .int (nI k)), (3, .int 8)], [], M1)) (S2 := (214, [(0, .ref m0), (1, .int t), (2, .int (nI k)), (3, .int 8)], [], M1)) rfl rfl rfl (fun c_211 => ?_) (fun c_211 => ?_)
  rotate_left
  · exact absurd (by decide) (of_decide_eq_false c_211)
  refine ps_st (S' := (224, [(0, .ref m0), (1, .int t), (2, .int (nI k)), (3, .int 8)], [.int 8], M1)) rfl rfl rfl ?_
  refine ps_st (S' := (226, [(0, .ref m0), (1, .int t), (2, .int (nI k)), (3, .int 8)], [.int 7, .int 8], M1)) rfl rfl rfl ?_
  refine ps_if2 (S1 := (238, [(0, .ref m0), (1, .int t), (2, .int (nI k)), (3, .int 8)], [], M1)) (S2 := (229, [(0, .ref m0), (1, .int t), (2, .int (nI k)), (3, .int 8)], [], M1)) rfl rfl rfl (fun c_226 => ?_) (fun c_226 => ?_)
  rotate_left
  · exact absurd (by decide) (of_decide_eq_false c_226)
  refine ps_st (S' := (239, [(0, .ref m0), (1, .int t), (2, .int (nI k)), (3, .int 8)], [.int 8], M1)) rfl rfl rfl ?_
  refine ps_st (S' := (241, [(0, .ref m0), (1, .int t), (2, .int (nI k)), (3, .int 8)], [.int 8, .int 8], M1)) rfl rfl rfl ?_
  refine ps_if2 (S1 := (275, [(0, .ref m0), (1, .int t), (2, .int (nI k)), (3, .int 8)], [], M1)) (S2 := (244, [(0, .ref m0), (1, .int t), (2, .int (nI k)), (3, .int 8)], [], M1)) rfl rfl rfl (fun c_241 => ?_) (fun c_241 => ?_)
  · exact absurd (of_decide_eq_true c_241) (by decide)
  refine ps_st (S' := (245, [(0, .ref m0), (1, .int t), (2, .int (nI k)), (3, .int 8)], [.ref m0], M1)) rfl rfl rfl ?_
  refine ps_st (S' := (246, [(0, .ref m0), (1, .int t), (2, .int (nI k)), (3, .int 8)], [.ref m0, .ref m0], M1)) rfl rfl rfl ?_
  refine pr_ref (j := 36) (S' := (249, [(0, .ref m0), (1, .int t), (2, .int (nI k)), (3, .int 8)], [.ref (q 36), .ref m0], M1)) rfl hR3 rfl rfl ?_
  refine ps_st (S' := (250, [(0, .ref m0), (1, .int t), (2, .int (nI k)), (3, .int 8)], [.int (nI k), .ref (q 36), .ref m0], M1)) rfl rfl rfl ?_
  refine pr_ld (a := 36) (j := k) (y := (nI d9)) (S' := (251, [(0, .ref m0), (1, .int t), (2, .int (nI k)), (3, .int 8)], [.int (nI d9), .ref m0], M1)) rfl hR3 rfl (by omega) (fun _ => g2) rfl (fun i1_250 => ?_)
  obtain ⟨-, -, k_251, W_251, hq1_251, hq2_251, hq3_251, hq4_251, hq5_251, hq6_251, -⟩ := mth_in (l := (tX f n E (by2 f (B.getD k 0 + 4)))) (by omega)
  refine pl_call (a := [.ref m0, .int (nI d9)]) (rest := []) rfl rfl rfl (rd_places0 (tx := tx) (cN := cN) (A := A) (s := d9) (l := (tX f n E (by2 f (B.getD k 0 + 4)))) (k0 := k_251) (W := W_251) hR3 hY_12 (g4) (hq1_251) (⟨by omega, hq5_251⟩)) (fun v17 M18 q19 => ?_)
  obtain ⟨rfl, rfl⟩ := q19
  show pl _ _ _ (254, [(0, .ref m0), (1, .int t), (2, .int (nI k)), (3, .int 8)], [.int (nI (W_251))], M1) _
  rw [← hq6_251]
  show pl _ _ _ (_, [(0, .ref m0), (1, .int t), (2, .int (nI k)), (3, .int 8)], [.int (nI (argN (tX f n E (by2 f (B.getD k 0 + 4)))))], M1) _
  have hal_251 := argN_lt (tX f n E (by2 f (B.getD k 0 + 4)))
  refine ps_st (S' := (255, [(0, .ref m0), (1, .int t), (2, .int (nI k)), (3, .int 8)], [.ref m0, .int (nI (argN (tX f n E (by2 f (B.getD k 0 + 4)))))], M1)) rfl rfl rfl ?_
  refine pr_ref (j := 34) (S' := (258, [(0, .ref m0), (1, .int t), (2, .int (nI k)), (3, .int 8)], [.ref (q 34), .int (nI (argN (tX f n E (by2 f (B.getD k 0 + 4)))))], M1)) rfl hR3 rfl rfl ?_
  refine ps_st (S' := (259, [(0, .ref m0), (1, .int t), (2, .int (nI k)), (3, .int 8)], [.int (nI k), .ref (q 34), .int (nI (argN (tX f n E (by2 f (B.getD k 0 + 4)))))], M1)) rfl rfl rfl ?_
  refine pr_ld (a := 34) (j := k) (y := (nI (by2 f (B.getD k 0)))) (S' := (260, [(0, .ref m0), (1, .int t), (2, .int (nI k)), (3, .int 8)], [.int (nI (by2 f (B.getD k 0))), .int (nI (argN (tX f n E (by2 f (B.getD k 0 + 4)))))], M1)) rfl hR3 rfl (by omega) (fun _ => g9.1) rfl (fun i1_259 => ?_)
  refine ps_st (S' := (262, [(0, .ref m0), (1, .int t), (2, .int (nI k)), (3, .int 8)], [.int 8, .int (nI (by2 f (B.getD k 0))), .int (nI (argN (tX f n E (by2 f (B.getD k 0 + 4)))))], M1)) rfl rfl rfl ?_
  refine ps_st (S' := (263, [(0, .ref m0), (1, .int t), (2, .int (nI k)), (3, .int 8)], [.int ((nI (by2 f (B.getD k 0))) &&& 8), .int (nI (argN (tX f n E (by2 f (B.getD k 0 + 4)))))], M1)) rfl rfl rfl ?_
  rw [nI_an (p := by2 f (B.getD k 0)) (k := 8) (x := 8) rfl]
  show pl _ _ _ (_, [(0, .ref m0), (1, .int t), (2, .int (nI k)), (3, .int 8)], [.int (nI (aN (by2 f (B.getD k 0)) 8)), .int (nI (argN (tX f n E (by2 f (B.getD k 0 + 4)))))], M1) _
  refine ps_if (S1 := (270, [(0, .ref m0), (1, .int t), (2, .int (nI k)), (3, .int 8)], [.int (nI (argN (tX f n E (by2 f (B.getD k 0 + 4)))))], M1)) (S2 := (266, [(0, .ref m0), (1, .int t), (2, .int (nI k)), (3, .int 8)], [.int (nI (argN (tX f n E (by2 f (B.getD k 0 + 4)))))], M1)) rfl rfl rfl (fun c_263 => ?_) (fun c_263 => ?_)
  · have c_263 : ¬ (nI (aN (by2 f (B.getD k 0)) 8)) = 0 := of_decide_eq_true c_263
    have n_263 : ¬ (aN (by2 f (B.getD k 0)) 8 = 0) := fun h9 => c_263 ((eq_nI (p := aN (by2 f (B.getD k 0)) 8) (n := 0) (Nat.lt_of_le_of_lt (an_le _ _) (by decide)) (by decide)).mpr h9)
    refine ps_st (S' := (271, [], [.int 0, .int (nI (argN (tX f n E (by2 f (B.getD k 0 + 4)))))], M1)) rfl rfl rfl ?_
    refine ps_st (S' := (272, [], [.int ((nI (argN (tX f n E (by2 f (B.getD k 0 + 4))))) + 0)], M1)) rfl rfl rfl ?_
    rw [nI_add1 (p := argN (tX f n E (by2 f (B.getD k 0 + 4)))) (k := 0) (x := 0) rfl (by omega)]
    show pl _ _ _ (_, [], [.int (nI (argN (tX f n E (by2 f (B.getD k 0 + 4))) + 0))], M1) _
    refine ps_st (S' := (281, [], [.int (nI (argN (tX f n E (by2 f (B.getD k 0 + 4))) + 0))], M1)) rfl rfl rfl ?_
    exact ps_reti rfl (⟨I2, R, congrArg (fun x => some (Value.int (nI x))) (show argN (tX f n E (by2 f (B.getD k 0 + 4))) + 0 = apN f n E (B.getD k 0) from by have a0_ := ap_9 (f := f) (n := n) (E := E) (p := (B.getD k 0)); omega), hR3, hEI16, hER, hi4⟩)
  · have c_263 : ¬ (¬ (nI (aN (by2 f (B.getD k 0)) 8)) = 0) := of_decide_eq_false c_263
    have n_263 : aN (by2 f (B.getD k 0)) 8 = 0 := (eq_nI (p := aN (by2 f (B.getD k 0)) 8) (n := 0) (Nat.lt_of_le_of_lt (an_le _ _) (by decide)) (by decide)).mp (Decidable.not_not.mp c_263)
    refine ps_st (S' := (267, [(0, .ref m0), (1, .int t), (2, .int (nI k)), (3, .int 8)], [.int 1, .int (nI (argN (tX f n E (by2 f (B.getD k 0 + 4)))))], M1)) rfl rfl rfl ?_
    refine ps_st (S' := (271, [], [.int 1, .int (nI (argN (tX f n E (by2 f (B.getD k 0 + 4)))))], M1)) rfl rfl rfl ?_
    refine ps_st (S' := (272, [], [.int ((nI (argN (tX f n E (by2 f (B.getD k 0 + 4))))) + 1)], M1)) rfl rfl rfl ?_
    rw [nI_add1 (p := argN (tX f n E (by2 f (B.getD k 0 + 4)))) (k := 1) (x := 1) rfl (by omega)]
    show pl _ _ _ (_, [], [.int (nI (argN (tX f n E (by2 f (B.getD k 0 + 4))) + 1))], M1) _
    refine ps_st (S' := (281, [], [.int (nI (argN (tX f n E (by2 f (B.getD k 0 + 4))) + 1))], M1)) rfl rfl rfl ?_
    exact ps_reti rfl (⟨I2, R, congrArg (fun x => some (Value.int (nI x))) (show argN (tX f n E (by2 f (B.getD k 0 + 4))) + 1 = apN f n E (B.getD k 0) from by have a0_ := ap_9 (f := f) (n := n) (E := E) (p := (B.getD k 0)); omega), hR3, hEI16, hER, hi4⟩)
theorem rd_memberK {g : xe_G} {m0 : Nat} {q : Nat → Nat} {z : Nat × Nat} {I : rI} {R : rR} {M : mi_H} {ko : Option (Nat × (Nat → Int32))} {t i x : Int32} (hR : RS g m0 q z I R M) (hK : KPR ko I R) (h0 : ¬ x < 0) (h1 : x ≤ 9) : pt (mT g) 223 [.ref m0, .int t, .int i, .int x] M (fun v M' => ∃ (I' : rI) (R' : rR), v = some (.int (meK ko t i x)) ∧ RS g m0 q z I' R' M' ∧ eqI [0] I I' ∧ eqR [] R R' ∧ I' 0 = some 0) := by
  cases ko with
  | none =>
    obtain ⟨kn, h2, h3⟩ := hK
    exact rd_member0 hR h2 h0 h1 h3
  | some r9 =>
    obtain ⟨h2, h3, -, hrd, tx, cN, A, E, N, mj, p1, pF, pM, pA, k1, k2, k3, k4, k5, k6, k7, rfl, rfl, m1, m2, m3, m4, m5, m6, m7, m8, ⟨a1, a2, a3, a4, a5⟩, -⟩ := hK
    have hN := by2_lt r9.2 8
    have hEP := (EP_of (whole_in k7)).1
    have hb1 := mbs_len m5
    have hb2 := mbs_len m6
    rw [meK_is k7]
    by_cases ht : t = 0
    · rw [if_pos ht]
      unfold meI
      by_cases hi : i < 0 ∨ nI (mbs r9.2 r9.1 (by2 r9.2 pF) (pF + 2)).length ≤ i
      · rw [if_pos hi]
        exact rd_memberNF hR h2 m1 h0 h1 h3 ht hi
      · rw [if_neg hi]
        obtain ⟨ei, li⟩ := i32_in hb1 hi
        obtain ⟨k, ek⟩ : ∃ k, k = i.toNatClampNeg := ⟨_, rfl⟩
        rw [← ek] at ei li ⊢
        subst ei
        obtain ⟨ew, hw⟩ := i32_10 h0 h1
        obtain ⟨j, ej⟩ : ∃ j, j = x.toNatClampNeg := ⟨_, rfl⟩
        rw [← ej] at ew hw ⊢
        subst ew
        rcases (show j = 0 ∨ j = 1 ∨ j = 2 ∨ j = 3 ∨ j = 4 ∨ j = 5 ∨ j = 6 ∨ j = 7 ∨ j = 8 ∨ j = 9 by omega) with rfl | rfl | rfl | rfl | rfl | rfl | rfl | rfl | rfl | rfl
        · exact rd_memberF0 hR h2 m1 a4 h3 ht li hb1
        · exact rd_memberF1 hR h2 m1 a4 h3 ht li hb1
        · exact rd_memberF2 hR h2 m1 a4 h3 ht li hb1
        · exact rd_memberF3 hR h2 m1 a4 h3 ht li hb1
        · exact rd_memberF4 hR h2 m1 a4 h3 ht li hb1
        · exact rd_memberF5 hR h2 m1 a4 h3 ht li hb1
        · exact rd_memberF6 hR h2 m1 a4 h3 ht li hb1
        · exact rd_memberF7 hR h2 m1 a4 h3 ht li hb1
        · exact rd_memberF8 hR h2 m1 a4 h3 ht li hb1
        · exact rd_memberF9 hR h2 m1 a4 h3 ht li hb1
    · rw [if_neg ht]
      unfold meI
      by_cases hi : i < 0 ∨ nI (mbs r9.2 r9.1 (by2 r9.2 pM) (pM + 2)).length ≤ i
      · rw [if_pos hi]
        exact rd_memberNM hR h2 m2 h0 h1 h3 ht hi
      · rw [if_neg hi]
        obtain ⟨ei, li⟩ := i32_in hb2 hi
        obtain ⟨k, ek⟩ : ∃ k, k = i.toNatClampNeg := ⟨_, rfl⟩
        rw [← ek] at ei li ⊢
        subst ei
        obtain ⟨ew, hw⟩ := i32_10 h0 h1
        obtain ⟨j, ej⟩ : ∃ j, j = x.toNatClampNeg := ⟨_, rfl⟩
        rw [← ej] at ew hw ⊢
        subst ew
        rcases (show j = 0 ∨ j = 1 ∨ j = 2 ∨ j = 3 ∨ j = 4 ∨ j = 5 ∨ j = 6 ∨ j = 7 ∨ j = 8 ∨ j = 9 by omega) with rfl | rfl | rfl | rfl | rfl | rfl | rfl | rfl | rfl | rfl
        · exact rd_memberM0 hR h2 m2 a5 h3 ht li hb2
        · exact rd_memberM1 hR h2 m2 a5 h3 ht li hb2
        · exact rd_memberM2 hR h2 m2 a5 h3 ht li hb2
        · exact rd_memberM3 hR h2 m2 a5 h3 ht li hb2
        · exact rd_memberM4 hR h2 m2 a5 h3 ht li hb2
        · exact rd_memberM5 hR h2 m2 a5 h3 ht li hb2
        · exact rd_memberM6 hR h2 m2 a5 h3 ht li hb2
        · exact rd_memberM7 hR h2 m2 a5 h3 ht li hb2
        · exact rd_memberM8 hR h2 k4 k5 k6 m2 k1 k2 k3 a5 m4 hEP hN (by2_lt _ _) h3 ht li hb2 (mth_of k7 hrd li)
        · exact rd_memberM9 hR h2 m2 a5 h3 ht li hb2

set_option maxHeartbeats 1000000 in
theorem rd_rowB {g : xe_G} {m0 : Nat} {q : Nat → Nat} {z : Nat × Nat} {I : rI} {R : rR} {M : mi_H} {m r x : Int32} (hR : RS g m0 q z I R M)   (hbad : x < 0 ∨ ¬ x ≤ 3) : pt (mT g) 239 [.ref m0, .int m, .int r, .int x] M (fun v M' => (∃  (I' : rI) (R' : rR), v = some (.int 0) ∧ RS g m0 q z I' R' M' ∧ eqI [0] I I' ∧ eqR [] R R' ∧ I' 0 = some 1)) := by
  refine pt_in (b := mb_239 g) rfl (fun kf => ?_)
  show pl (mT g) kf (mb_239 g).2 (0, [(0, .ref m0), (1, .int m), (2, .int r), (3, .int x)], [], M) _
  have hEI : eqI [0] I I := eqI.rf
  have hER : eqR [] R R := eqR.rf
  refine ps_st (S' := (1, [(0, .ref m0), (1, .int m), (2, .int r), (3, .int x)], [.ref m0], M)) rfl rfl rfl ?_
  refine ps_st (S' := (2, [(0, .ref m0), (1, .int m), (2, .int r), (3, .int x)], [.int 0, .ref m0], M)) rfl rfl rfl ?_
  refine pr_put (j := 0) rfl hR rfl (fun M1 I2 hR3 hi4 hI5 => ?_)
  have hEI6 := hEI.put hI5 (by decide)
  show pl _ _ _ (5, [(0, .ref m0), (1, .int m), (2, .int r), (3, .int x)], [], M1) _
  refine ps_st (S' := (6, [(0, .ref m0), (1, .int m), (2, .int r), (3, .int x)], [.int x], M1)) rfl rfl rfl ?_
  refine ps_if (S1 := (14, [(0, .ref m0)], [], M1)) (S2 := (9, [(0, .ref m0), (1, .int m), (2, .int r), (3, .int x)], [], M1)) rfl rfl rfl (fun c_6 => ?_) (fun c_6 => ?_)
  · have c_6 : x < 0 := of_decide_eq_true c_6
    refine ps_st (S' := (15, [(0, .ref m0)], [.ref m0], M1)) rfl rfl rfl ?_
    refine pl_call (a := [.ref m0]) (rest := []) rfl rfl rfl (rd_bad hR3) (fun v7 M8 q9 => ?_)
    obtain ⟨I10, R11, rfl, hR12, hI13, hX14, hi15⟩ := q9
    have hEI16 := hEI6.tr hI13 (by decide)
    have hER17 := hER.tr hX14 (by decide)
    show pl _ _ _ (18, [(0, .ref m0)], [.int 0], M8) _
    exact ps_ret rfl rfl (⟨I10, R11, rfl, hR12, hEI16, hER17, hi15⟩)
  · have c_6 : ¬ (x < 0) := of_decide_eq_false c_6
    refine ps_st (S' := (10, [(0, .ref m0), (1, .int m), (2, .int r), (3, .int x)], [.int x], M1)) rfl rfl rfl ?_
    refine ps_st (S' := (11, [(0, .ref m0), (1, .int m), (2, .int r), (3, .int x)], [.int 3, .int x], M1)) rfl rfl rfl ?_
    refine ps_if2 (S1 := (19, [(0, .ref m0), (1, .int m), (2, .int r), (3, .int x)], [], M1)) (S2 := (14, [(0, .ref m0)], [], M1)) rfl rfl rfl (fun c_11 => ?_) (fun c_11 => ?_)
    · have c_11 : x ≤ 3 := of_decide_eq_true c_11
      exact absurd hbad (fun h9 => h9.elim c_6 (fun h8 => h8 c_11))
    · have c_11 : ¬ (x ≤ 3) := of_decide_eq_false c_11
      refine ps_st (S' := (15, [(0, .ref m0)], [.ref m0], M1)) rfl rfl rfl ?_
      refine pl_call (a := [.ref m0]) (rest := []) rfl rfl rfl (rd_bad hR3) (fun v18 M19 q20 => ?_)
      obtain ⟨I21, R22, rfl, hR23, hI24, hX25, hi26⟩ := q20
      have hEI27 := hEI6.tr hI24 (by decide)
      have hER28 := hER.tr hX25 (by decide)
      show pl _ _ _ (18, [(0, .ref m0)], [.int 0], M19) _
      exact ps_ret rfl rfl (⟨I21, R22, rfl, hR23, hEI27, hER28, hi26⟩)
set_option maxHeartbeats 1000000 in
theorem rd_row0 {g : xe_G} {m0 : Nat} {q : Nat → Nat} {z : Nat × Nat} {I : rI} {R : rR} {M : mi_H} {kn m r x : Int32} (hR : RS g m0 q z I R M) (hi18 : I 18 = some kn)  (h0 : ¬ x < 0) (h1 : x ≤ 3) (hk : kn < 0) : pt (mT g) 239 [.ref m0, .int m, .int r, .int x] M (fun v M' => (∃  (I' : rI) (R' : rR), v = some (.int (-1)) ∧ RS g m0 q z I' R' M' ∧ eqI [0] I I' ∧ eqR [] R R' ∧ I' 0 = some 0)) := by
  refine pt_in (b := mb_239 g) rfl (fun kf => ?_)
  show pl (mT g) kf (mb_239 g).2 (0, [(0, .ref m0), (1, .int m), (2, .int r), (3, .int x)], [], M) _
  have hEI : eqI [0] I I := eqI.rf
  have hER : eqR [] R R := eqR.rf
  refine ps_st (S' := (1, [(0, .ref m0), (1, .int m), (2, .int r), (3, .int x)], [.ref m0], M)) rfl rfl rfl ?_
  refine ps_st (S' := (2, [(0, .ref m0), (1, .int m), (2, .int r), (3, .int x)], [.int 0, .ref m0], M)) rfl rfl rfl ?_
  refine pr_put (j := 0) rfl hR rfl (fun M1 I2 hR3 hi4 hI5 => ?_)
  have hi6 := (hI5 18 (by decide)).trans hi18
  have hEI7 := hEI.put hI5 (by decide)
  show pl _ _ _ (5, [(0, .ref m0), (1, .int m), (2, .int r), (3, .int x)], [], M1) _
  refine ps_st (S' := (6, [(0, .ref m0), (1, .int m), (2, .int r), (3, .int x)], [.int x], M1)) rfl rfl rfl ?_
  refine ps_if (S1 := (14, [(0, .ref m0)], [], M1)) (S2 := (9, [(0, .ref m0), (1, .int m), (2, .int r), (3, .int x)], [], M1)) rfl rfl rfl (fun c_6 => ?_) (fun c_6 => ?_)
  · exact absurd (of_decide_eq_true c_6) (h0)
  refine ps_st (S' := (10, [(0, .ref m0), (1, .int m), (2, .int r), (3, .int x)], [.int x], M1)) rfl rfl rfl ?_
  refine ps_st (S' := (11, [(0, .ref m0), (1, .int m), (2, .int r), (3, .int x)], [.int 3, .int x], M1)) rfl rfl rfl ?_
  refine ps_if2 (S1 := (19, [(0, .ref m0), (1, .int m), (2, .int r), (3, .int x)], [], M1)) (S2 := (14, [(0, .ref m0)], [], M1)) rfl rfl rfl (fun c_11 => ?_) (fun c_11 => ?_)
  rotate_left
  · exact absurd (h1) (of_decide_eq_false c_11)
  refine ps_st (S' := (20, [(0, .ref m0), (1, .int m), (2, .int r), (3, .int x)], [.ref m0], M1)) rfl rfl rfl ?_
  refine pr_int (j := 18) (S' := (23, [(0, .ref m0), (1, .int m), (2, .int r), (3, .int x)], [.int kn], M1)) rfl hR3 rfl hi6 rfl ?_
  refine ps_if (S1 := (61, [], [], M1)) (S2 := (26, [(0, .ref m0), (1, .int m), (2, .int r), (3, .int x)], [], M1)) rfl rfl rfl (fun c_23 => ?_) (fun c_23 => ?_)
  rotate_left
  · exact absurd (hk) (of_decide_eq_false c_23)
  refine ps_st (S' := (62, [], [.int (-1)], M1)) rfl rfl rfl ?_
  exact ps_ret rfl rfl (⟨I2, R, rfl, hR3, hEI7, hER, hi4⟩)
set_option maxHeartbeats 1000000 in
theorem rd_rowN {g : xe_G} {m0 : Nat} {q : Nat → Nat} {z : Nat × Nat} {I : rI} {R : rR} {M : mi_H} {n2 l : Nat} {m r x : Int32} (hR : RS g m0 q z I R M) (hi18 : I 18 = some (nI n2)) (hi26 : I 26 = some (nI l))  (h0 : ¬ x < 0) (h1 : x ≤ 3) (hn2 : n2 ≤ 65540) (hi : m < 0 ∨ nI l ≤ m) : pt (mT g) 239 [.ref m0, .int m, .int r, .int x] M (fun v M' => (∃  (I' : rI) (R' : rR), v = some (.int (-1)) ∧ RS g m0 q z I' R' M' ∧ eqI [0] I I' ∧ eqR [] R R' ∧ I' 0 = some 0)) := by
  refine pt_in (b := mb_239 g) rfl (fun kf => ?_)
  show pl (mT g) kf (mb_239 g).2 (0, [(0, .ref m0), (1, .int m), (2, .int r), (3, .int x)], [], M) _
  have hEI : eqI [0] I I := eqI.rf
  have hER : eqR [] R R := eqR.rf
  refine ps_st (S' := (1, [(0, .ref m0), (1, .int m), (2, .int r), (3, .int x)], [.ref m0], M)) rfl rfl rfl ?_
  refine ps_st (S' := (2, [(0, .ref m0), (1, .int m), (2, .int r), (3, .int x)], [.int 0, .ref m0], M)) rfl rfl rfl ?_
  refine pr_put (j := 0) rfl hR rfl (fun M1 I2 hR3 hi4 hI5 => ?_)
  have hi6 := (hI5 18 (by decide)).trans hi18
  have hi7 := (hI5 26 (by decide)).trans hi26
  have hEI8 := hEI.put hI5 (by decide)
  show pl _ _ _ (5, [(0, .ref m0), (1, .int m), (2, .int r), (3, .int x)], [], M1) _
  refine ps_st (S' := (6, [(0, .ref m0), (1, .int m), (2, .int r), (3, .int x)], [.int x], M1)) rfl rfl rfl ?_
  refine ps_if (S1 := (14, [(0, .ref m0)], [], M1)) (S2 := (9, [(0, .ref m0), (1, .int m), (2, .int r), (3, .int x)], [], M1)) rfl rfl rfl (fun c_6 => ?_) (fun c_6 => ?_)
  · exact absurd (of_decide_eq_true c_6) (h0)
  refine ps_st (S' := (10, [(0, .ref m0), (1, .int m), (2, .int r), (3, .int x)], [.int x], M1)) rfl rfl rfl ?_
  refine ps_st (S' := (11, [(0, .ref m0), (1, .int m), (2, .int r), (3, .int x)], [.int 3, .int x], M1)) rfl rfl rfl ?_
  refine ps_if2 (S1 := (19, [(0, .ref m0), (1, .int m), (2, .int r), (3, .int x)], [], M1)) (S2 := (14, [(0, .ref m0)], [], M1)) rfl rfl rfl (fun c_11 => ?_) (fun c_11 => ?_)
  rotate_left
  · exact absurd (h1) (of_decide_eq_false c_11)
  refine ps_st (S' := (20, [(0, .ref m0), (1, .int m), (2, .int r), (3, .int x)], [.ref m0], M1)) rfl rfl rfl ?_
  refine pr_int (j := 18) (S' := (23, [(0, .ref m0), (1, .int m), (2, .int r), (3, .int x)], [.int (nI n2)], M1)) rfl hR3 rfl hi6 rfl ?_
  refine ps_if (S1 := (61, [], [], M1)) (S2 := (26, [(0, .ref m0), (1, .int m), (2, .int r), (3, .int x)], [], M1)) rfl rfl rfl (fun c_23 => ?_) (fun c_23 => ?_)
  · exact absurd (of_decide_eq_true c_23) (nI_n0 (by omega))
  refine ps_st (S' := (27, [(0, .ref m0), (1, .int m), (2, .int r), (3, .int x)], [.int m], M1)) rfl rfl rfl ?_
  refine ps_if (S1 := (61, [], [], M1)) (S2 := (30, [(0, .ref m0), (1, .int m), (2, .int r), (3, .int x)], [], M1)) rfl rfl rfl (fun c_27 => ?_) (fun c_27 => ?_)
  · have c_27 : m < 0 := of_decide_eq_true c_27
    refine ps_st (S' := (62, [], [.int (-1)], M1)) rfl rfl rfl ?_
    exact ps_ret rfl rfl (⟨I2, R, rfl, hR3, hEI8, hER, hi4⟩)
  · have c_27 : ¬ (m < 0) := of_decide_eq_false c_27
    refine ps_st (S' := (31, [(0, .ref m0), (1, .int m), (2, .int r), (3, .int x)], [.int m], M1)) rfl rfl rfl ?_
    refine ps_st (S' := (32, [(0, .ref m0), (1, .int m), (2, .int r), (3, .int x)], [.ref m0, .int m], M1)) rfl rfl rfl ?_
    refine pr_int (j := 26) (S' := (35, [(0, .ref m0), (1, .int m), (2, .int r), (3, .int x)], [.int (nI l), .int m], M1)) rfl hR3 rfl hi7 rfl ?_
    refine ps_if2 (S1 := (61, [], [], M1)) (S2 := (38, [(0, .ref m0), (1, .int m), (2, .int r), (3, .int x)], [], M1)) rfl rfl rfl (fun c_35 => ?_) (fun c_35 => ?_)
    rotate_left
    · exact absurd (hi.resolve_left c_27) (of_decide_eq_false c_35)
    refine ps_st (S' := (62, [], [.int (-1)], M1)) rfl rfl rfl ?_
    exact ps_ret rfl rfl (⟨I2, R, rfl, hR3, hEI8, hER, hi4⟩)
set_option maxHeartbeats 1000000 in
theorem rd_rowC {g : xe_G} {m0 : Nat} {q : Nat → Nat} {z : Nat × Nat} {I : rI} {R : rR} {M : mi_H} {f : Nat → Int32} {n n2 k cp : Nat} {E : List (Nat × Nat)} {B : List Nat} {r x : Int32} (hR : RS g m0 q z I R M) (hi18 : I 18 = some (nI n2)) (hi26 : I 26 = some (nI B.length)) (hQ : MQX f n E B 0 B.length I R) (h0 : ¬ x < 0) (h1 : x ≤ 3) (hn2 : n2 ≤ 65540) (hk : k < B.length) (hBl : B.length < 65536) (hcp : (mK f n E (B.getD k 0)).2.1 = cp) (hc0 : cp = 0) : pt (mT g) 239 [.ref m0, .int (nI k), .int r, .int x] M (fun v M' => (∃  (I' : rI) (R' : rR), v = some (.int (-1)) ∧ RS g m0 q z I' R' M' ∧ eqI [0] I I' ∧ eqR [] R R' ∧ I' 0 = some 0)) := by
  refine pt_in (b := mb_239 g) rfl (fun kf => ?_)
  show pl (mT g) kf (mb_239 g).2 (0, [(0, .ref m0), (1, .int (nI k)), (2, .int r), (3, .int x)], [], M) _
  have hEI : eqI [0] I I := eqI.rf
  have hER : eqR [] R R := eqR.rf
  have g9 := hQ k hk
  rw [Nat.zero_add] at g9
  unfold MWc at g9
  rw [hcp] at g9
  refine ps_st (S' := (1, [(0, .ref m0), (1, .int (nI k)), (2, .int r), (3, .int x)], [.ref m0], M)) rfl rfl rfl ?_
  refine ps_st (S' := (2, [(0, .ref m0), (1, .int (nI k)), (2, .int r), (3, .int x)], [.int 0, .ref m0], M)) rfl rfl rfl ?_
  refine pr_put (j := 0) rfl hR rfl (fun M1 I2 hR3 hi4 hI5 => ?_)
  have hi6 := (hI5 18 (by decide)).trans hi18
  have hi7 := (hI5 26 (by decide)).trans hi26
  have hQ_8 := hQ.mono (pIx hI5 (by decide)) (fun _ _ => rfl)
  have hEI9 := hEI.put hI5 (by decide)
  show pl _ _ _ (5, [(0, .ref m0), (1, .int (nI k)), (2, .int r), (3, .int x)], [], M1) _
  refine ps_st (S' := (6, [(0, .ref m0), (1, .int (nI k)), (2, .int r), (3, .int x)], [.int x], M1)) rfl rfl rfl ?_
  refine ps_if (S1 := (14, [(0, .ref m0)], [], M1)) (S2 := (9, [(0, .ref m0), (1, .int (nI k)), (2, .int r), (3, .int x)], [], M1)) rfl rfl rfl (fun c_6 => ?_) (fun c_6 => ?_)
  · exact absurd (of_decide_eq_true c_6) (h0)
  refine ps_st (S' := (10, [(0, .ref m0), (1, .int (nI k)), (2, .int r), (3, .int x)], [.int x], M1)) rfl rfl rfl ?_
  refine ps_st (S' := (11, [(0, .ref m0), (1, .int (nI k)), (2, .int r), (3, .int x)], [.int 3, .int x], M1)) rfl rfl rfl ?_
  refine ps_if2 (S1 := (19, [(0, .ref m0), (1, .int (nI k)), (2, .int r), (3, .int x)], [], M1)) (S2 := (14, [(0, .ref m0)], [], M1)) rfl rfl rfl (fun c_11 => ?_) (fun c_11 => ?_)
  rotate_left
  · exact absurd (h1) (of_decide_eq_false c_11)
  refine ps_st (S' := (20, [(0, .ref m0), (1, .int (nI k)), (2, .int r), (3, .int x)], [.ref m0], M1)) rfl rfl rfl ?_
  refine pr_int (j := 18) (S' := (23, [(0, .ref m0), (1, .int (nI k)), (2, .int r), (3, .int x)], [.int (nI n2)], M1)) rfl hR3 rfl hi6 rfl ?_
  refine ps_if (S1 := (61, [], [], M1)) (S2 := (26, [(0, .ref m0), (1, .int (nI k)), (2, .int r), (3, .int x)], [], M1)) rfl rfl rfl (fun c_23 => ?_) (fun c_23 => ?_)
  · exact absurd (of_decide_eq_true c_23) (nI_n0 (by omega))
  refine ps_st (S' := (27, [(0, .ref m0), (1, .int (nI k)), (2, .int r), (3, .int x)], [.int (nI k)], M1)) rfl rfl rfl ?_
  refine ps_if (S1 := (61, [], [], M1)) (S2 := (30, [(0, .ref m0), (1, .int (nI k)), (2, .int r), (3, .int x)], [], M1)) rfl rfl rfl (fun c_27 => ?_) (fun c_27 => ?_)
  · exact absurd (of_decide_eq_true c_27) (nI_n0 (by omega))
  refine ps_st (S' := (31, [(0, .ref m0), (1, .int (nI k)), (2, .int r), (3, .int x)], [.int (nI k)], M1)) rfl rfl rfl ?_
  refine ps_st (S' := (32, [(0, .ref m0), (1, .int (nI k)), (2, .int r), (3, .int x)], [.ref m0, .int (nI k)], M1)) rfl rfl rfl ?_
  refine pr_int (j := 26) (S' := (35, [(0, .ref m0), (1, .int (nI k)), (2, .int r), (3, .int x)], [.int (nI B.length), .int (nI k)], M1)) rfl hR3 rfl hi7 rfl ?_
  refine ps_if2 (S1 := (61, [], [], M1)) (S2 := (38, [(0, .ref m0), (1, .int (nI k)), (2, .int r), (3, .int x)], [], M1)) rfl rfl rfl (fun c_35 => ?_) (fun c_35 => ?_)
  · exact absurd (of_decide_eq_true c_35) (fun h9 => absurd ((le_nI (p := B.length) (n := k) (by omega) (by omega)).mp h9) (by omega))
  refine ps_st (S' := (39, [(0, .ref m0), (1, .int (nI k)), (2, .int r), (3, .int x)], [.ref m0], M1)) rfl rfl rfl ?_
  refine pr_ref (j := 37) (S' := (42, [(0, .ref m0), (1, .int (nI k)), (2, .int r), (3, .int x)], [.ref (q 37)], M1)) rfl hR3 rfl rfl ?_
  refine ps_st (S' := (43, [(0, .ref m0), (1, .int (nI k)), (2, .int r), (3, .int x)], [.int (nI k), .ref (q 37)], M1)) rfl rfl rfl ?_
  refine pr_ld (a := 37) (j := k) (y := (-1)) (S' := (44, [(0, .ref m0), (1, .int (nI k)), (2, .int r), (3, .int x)], [.int (-1)], M1)) rfl hR3 rfl (by omega) (fun _ => by rw [g9.2.1.1.1, if_pos hc0]) rfl (fun i1_43 => ?_)
  refine ps_if (S1 := (61, [], [], M1)) (S2 := (47, [(0, .ref m0), (1, .int (nI k)), (2, .int r), (3, .int x)], [], M1)) rfl rfl rfl (fun c_44 => ?_) (fun c_44 => ?_)
  rotate_left
  · exact absurd (by decide) (of_decide_eq_false c_44)
  refine ps_st (S' := (62, [], [.int (-1)], M1)) rfl rfl rfl ?_
  exact ps_ret rfl rfl (⟨I2, R, rfl, hR3, hEI9, hER, hi4⟩)
set_option maxHeartbeats 1000000 in
theorem rd_rowR {g : xe_G} {m0 : Nat} {q : Nat → Nat} {z : Nat × Nat} {I : rI} {R : rR} {M : mi_H} {f : Nat → Int32} {n n2 k cp : Nat} {E : List (Nat × Nat)} {B : List Nat} {r x : Int32} (hR : RS g m0 q z I R M) (hi18 : I 18 = some (nI n2)) (hi26 : I 26 = some (nI B.length)) (hQ : MQX f n E B 0 B.length I R) (h0 : ¬ x < 0) (h1 : x ≤ 3) (hn2 : n2 ≤ 65540) (hk : k < B.length) (hBl : B.length < 65536) (hcp : (mK f n E (B.getD k 0)).2.1 = cp) (hc0 : ¬ cp = 0) (hci : CIN f n cp) (hn : n ≤ 65540) (hr : r < 0 ∨ nI (by2 f (cp + 14 + by4 f (cp + 10))) ≤ r) : pt (mT g) 239 [.ref m0, .int (nI k), .int r, .int x] M (fun v M' => (∃  (I' : rI) (R' : rR), v = some (.int (-1)) ∧ RS g m0 q z I' R' M' ∧ eqI [0] I I' ∧ eqR [] R R' ∧ I' 0 = some 0)) := by
  refine pt_in (b := mb_239 g) rfl (fun kf => ?_)
  show pl (mT g) kf (mb_239 g).2 (0, [(0, .ref m0), (1, .int (nI k)), (2, .int r), (3, .int x)], [], M) _
  have hEI : eqI [0] I I := eqI.rf
  have hER : eqR [] R R := eqR.rf
  have g9 := hQ k hk
  rw [Nat.zero_add] at g9
  unfold MWc at g9
  rw [hcp] at g9
  have hci1 := hci.1
  have hu9 := by2_lt f (cp + 14 + by4 f (cp + 10))
  refine ps_st (S' := (1, [(0, .ref m0), (1, .int (nI k)), (2, .int r), (3, .int x)], [.ref m0], M)) rfl rfl rfl ?_
  refine ps_st (S' := (2, [(0, .ref m0), (1, .int (nI k)), (2, .int r), (3, .int x)], [.int 0, .ref m0], M)) rfl rfl rfl ?_
  refine pr_put (j := 0) rfl hR rfl (fun M1 I2 hR3 hi4 hI5 => ?_)
  have hi6 := (hI5 18 (by decide)).trans hi18
  have hi7 := (hI5 26 (by decide)).trans hi26
  have hQ_8 := hQ.mono (pIx hI5 (by decide)) (fun _ _ => rfl)
  have hEI9 := hEI.put hI5 (by decide)
  show pl _ _ _ (5, [(0, .ref m0), (1, .int (nI k)), (2, .int r), (3, .int x)], [], M1) _
  refine ps_st (S' := (6, [(0, .ref m0), (1, .int (nI k)), (2, .int r), (3, .int x)], [.int x], M1)) rfl rfl rfl ?_
  refine ps_if (S1 := (14, [(0, .ref m0)], [], M1)) (S2 := (9, [(0, .ref m0), (1, .int (nI k)), (2, .int r), (3, .int x)], [], M1)) rfl rfl rfl (fun c_6 => ?_) (fun c_6 => ?_)
  · exact absurd (of_decide_eq_true c_6) (h0)
  refine ps_st (S' := (10, [(0, .ref m0), (1, .int (nI k)), (2, .int r), (3, .int x)], [.int x], M1)) rfl rfl rfl ?_
  refine ps_st (S' := (11, [(0, .ref m0), (1, .int (nI k)), (2, .int r), (3, .int x)], [.int 3, .int x], M1)) rfl rfl rfl ?_
  refine ps_if2 (S1 := (19, [(0, .ref m0), (1, .int (nI k)), (2, .int r), (3, .int x)], [], M1)) (S2 := (14, [(0, .ref m0)], [], M1)) rfl rfl rfl (fun c_11 => ?_) (fun c_11 => ?_)
  rotate_left
  · exact absurd (h1) (of_decide_eq_false c_11)
  refine ps_st (S' := (20, [(0, .ref m0), (1, .int (nI k)), (2, .int r), (3, .int x)], [.ref m0], M1)) rfl rfl rfl ?_
  refine pr_int (j := 18) (S' := (23, [(0, .ref m0), (1, .int (nI k)), (2, .int r), (3, .int x)], [.int (nI n2)], M1)) rfl hR3 rfl hi6 rfl ?_
  refine ps_if (S1 := (61, [], [], M1)) (S2 := (26, [(0, .ref m0), (1, .int (nI k)), (2, .int r), (3, .int x)], [], M1)) rfl rfl rfl (fun c_23 => ?_) (fun c_23 => ?_)
  · exact absurd (of_decide_eq_true c_23) (nI_n0 (by omega))
  refine ps_st (S' := (27, [(0, .ref m0), (1, .int (nI k)), (2, .int r), (3, .int x)], [.int (nI k)], M1)) rfl rfl rfl ?_
  refine ps_if (S1 := (61, [], [], M1)) (S2 := (30, [(0, .ref m0), (1, .int (nI k)), (2, .int r), (3, .int x)], [], M1)) rfl rfl rfl (fun c_27 => ?_) (fun c_27 => ?_)
  · exact absurd (of_decide_eq_true c_27) (nI_n0 (by omega))
  refine ps_st (S' := (31, [(0, .ref m0), (1, .int (nI k)), (2, .int r), (3, .int x)], [.int (nI k)], M1)) rfl rfl rfl ?_
  refine ps_st (S' := (32, [(0, .ref m0), (1, .int (nI k)), (2, .int r), (3, .int x)], [.ref m0, .int (nI k)], M1)) rfl rfl rfl ?_
  refine pr_int (j := 26) (S' := (35, [(0, .ref m0), (1, .int (nI k)), (2, .int r), (3, .int x)], [.int (nI B.length), .int (nI k)], M1)) rfl hR3 rfl hi7 rfl ?_
  refine ps_if2 (S1 := (61, [], [], M1)) (S2 := (38, [(0, .ref m0), (1, .int (nI k)), (2, .int r), (3, .int x)], [], M1)) rfl rfl rfl (fun c_35 => ?_) (fun c_35 => ?_)
  · exact absurd (of_decide_eq_true c_35) (fun h9 => absurd ((le_nI (p := B.length) (n := k) (by omega) (by omega)).mp h9) (by omega))
  refine ps_st (S' := (39, [(0, .ref m0), (1, .int (nI k)), (2, .int r), (3, .int x)], [.ref m0], M1)) rfl rfl rfl ?_
  refine pr_ref (j := 37) (S' := (42, [(0, .ref m0), (1, .int (nI k)), (2, .int r), (3, .int x)], [.ref (q 37)], M1)) rfl hR3 rfl rfl ?_
  refine ps_st (S' := (43, [(0, .ref m0), (1, .int (nI k)), (2, .int r), (3, .int x)], [.int (nI k), .ref (q 37)], M1)) rfl rfl rfl ?_
  refine pr_ld (a := 37) (j := k) (y := (nI (cp + 14))) (S' := (44, [(0, .ref m0), (1, .int (nI k)), (2, .int r), (3, .int x)], [.int (nI (cp + 14))], M1)) rfl hR3 rfl (by omega) (fun _ => by rw [g9.2.1.1.1, if_neg hc0]) rfl (fun i1_43 => ?_)
  refine ps_if (S1 := (61, [], [], M1)) (S2 := (47, [(0, .ref m0), (1, .int (nI k)), (2, .int r), (3, .int x)], [], M1)) rfl rfl rfl (fun c_44 => ?_) (fun c_44 => ?_)
  · exact absurd (of_decide_eq_true c_44) (nI_n0 (by omega))
  refine ps_st (S' := (48, [(0, .ref m0), (1, .int (nI k)), (2, .int r), (3, .int x)], [.int r], M1)) rfl rfl rfl ?_
  refine ps_if (S1 := (61, [], [], M1)) (S2 := (51, [(0, .ref m0), (1, .int (nI k)), (2, .int r), (3, .int x)], [], M1)) rfl rfl rfl (fun c_48 => ?_) (fun c_48 => ?_)
  · have c_48 : r < 0 := of_decide_eq_true c_48
    refine ps_st (S' := (62, [], [.int (-1)], M1)) rfl rfl rfl ?_
    exact ps_ret rfl rfl (⟨I2, R, rfl, hR3, hEI9, hER, hi4⟩)
  · have c_48 : ¬ (r < 0) := of_decide_eq_false c_48
    refine ps_st (S' := (52, [(0, .ref m0), (1, .int (nI k)), (2, .int r), (3, .int x)], [.int r], M1)) rfl rfl rfl ?_
    refine ps_st (S' := (53, [(0, .ref m0), (1, .int (nI k)), (2, .int r), (3, .int x)], [.ref m0, .int r], M1)) rfl rfl rfl ?_
    refine pr_ref (j := 42) (S' := (56, [(0, .ref m0), (1, .int (nI k)), (2, .int r), (3, .int x)], [.ref (q 42), .int r], M1)) rfl hR3 rfl rfl ?_
    refine ps_st (S' := (57, [(0, .ref m0), (1, .int (nI k)), (2, .int r), (3, .int x)], [.int (nI k), .ref (q 42), .int r], M1)) rfl rfl rfl ?_
    refine pr_ld (a := 42) (j := k) (y := (nI (by2 f (cp + 14 + by4 f (cp + 10))))) (S' := (58, [(0, .ref m0), (1, .int (nI k)), (2, .int r), (3, .int x)], [.int (nI (by2 f (cp + 14 + by4 f (cp + 10)))), .int r], M1)) rfl hR3 rfl (by omega) (fun _ => by rw [g9.2.1.1.2.2.2.2.2, if_neg hc0]) rfl (fun i1_57 => ?_)
    refine ps_if2 (S1 := (63, [(0, .ref m0), (1, .int (nI k)), (2, .int r), (3, .int x)], [], M1)) (S2 := (61, [], [], M1)) rfl rfl rfl (fun c_58 => ?_) (fun c_58 => ?_)
    · exact absurd (of_decide_eq_true c_58) (Int32.not_lt.mpr (hr.resolve_left c_48))
    refine ps_st (S' := (62, [], [.int (-1)], M1)) rfl rfl rfl ?_
    exact ps_ret rfl rfl (⟨I2, R, rfl, hR3, hEI9, hER, hi4⟩)
set_option maxHeartbeats 1000000 in
theorem rd_rowV {g : xe_G} {m0 : Nat} {q : Nat → Nat} {z : Nat × Nat} {I : rI} {R : rR} {M : mi_H} {f : Nat → Int32} {n n2 k cp : Nat} {E : List (Nat × Nat)} {B : List Nat} {u x : Nat} (hR : RS g m0 q z I R M) (hi18 : I 18 = some (nI n2)) (hi26 : I 26 = some (nI B.length)) (hF : FK n f I R) (hQ : MQX f n E B 0 B.length I R) (hx : x ≤ 3) (hn2 : n2 ≤ 65540) (hk : k < B.length) (hBl : B.length < 65536) (hcp : (mK f n E (B.getD k 0)).2.1 = cp) (hc0 : ¬ cp = 0) (hci : CIN f n cp) (hn : n ≤ 65540) (hu : u < by2 f (cp + 14 + by4 f (cp + 10))) : pt (mT g) 239 [.ref m0, .int (nI k), .int (nI u), .int (nI x)] M (fun v M' => (∃  (I' : rI) (R' : rR), v = some (.int (nI (by2 f (cp + 14 + by4 f (cp + 10) + 2 + 8 * u + 2 * x)))) ∧ RS g m0 q z I' R' M' ∧ eqI [0] I I' ∧ eqR [] R R' ∧ I' 0 = some 0)) := by
  refine pt_in (b := mb_239 g) rfl (fun kf => ?_)
  show pl (mT g) kf (mb_239 g).2 (0, [(0, .ref m0), (1, .int (nI k)), (2, .int (nI u)), (3, .int (nI x))], [], M) _
  have hEI : eqI [0] I I := eqI.rf
  have hER : eqR [] R R := eqR.rf
  have g9 := hQ k hk
  rw [Nat.zero_add] at g9
  unfold MWc at g9
  rw [hcp] at g9
  have hci1 := hci.1
  have hu9 := by2_lt f (cp + 14 + by4 f (cp + 10))
  refine ps_st (S' := (1, [(0, .ref m0), (1, .int (nI k)), (2, .int (nI u)), (3, .int (nI x))], [.ref m0], M)) rfl rfl rfl ?_
  refine ps_st (S' := (2, [(0, .ref m0), (1, .int (nI k)), (2, .int (nI u)), (3, .int (nI x))], [.int 0, .ref m0], M)) rfl rfl rfl ?_
  refine pr_put (j := 0) rfl hR rfl (fun M1 I2 hR3 hi4 hI5 => ?_)
  have hi6 := (hI5 18 (by decide)).trans hi18
  have hi7 := (hI5 26 (by decide)).trans hi26
  have hF_8 := hF.mono (pIx hI5 (by decide)) (fun _ _ => rfl)
  have hQ_9 := hQ.mono (pIx hI5 (by decide)) (fun _ _ => rfl)
  have hEI10 := hEI.put hI5 (by decide)
  show pl _ _ _ (5, [(0, .ref m0), (1, .int (nI k)), (2, .int (nI u)), (3, .int (nI x))], [], M1) _
  refine ps_st (S' := (6, [(0, .ref m0), (1, .int (nI k)), (2, .int (nI u)), (3, .int (nI x))], [.int (nI x)], M1)) rfl rfl rfl ?_
  refine ps_if (S1 := (14, [(0, .ref m0)], [], M1)) (S2 := (9, [(0, .ref m0), (1, .int (nI k)), (2, .int (nI u)), (3, .int (nI x))], [], M1)) rfl rfl rfl (fun c_6 => ?_) (fun c_6 => ?_)
  · exact absurd (of_decide_eq_true c_6) (nI_n0 (by omega))
  refine ps_st (S' := (10, [(0, .ref m0), (1, .int (nI k)), (2, .int (nI u)), (3, .int (nI x))], [.int (nI x)], M1)) rfl rfl rfl ?_
  refine ps_st (S' := (11, [(0, .ref m0), (1, .int (nI k)), (2, .int (nI u)), (3, .int (nI x))], [.int 3, .int (nI x)], M1)) rfl rfl rfl ?_
  refine ps_if2 (S1 := (19, [(0, .ref m0), (1, .int (nI k)), (2, .int (nI u)), (3, .int (nI x))], [], M1)) (S2 := (14, [(0, .ref m0)], [], M1)) rfl rfl rfl (fun c_11 => ?_) (fun c_11 => ?_)
  rotate_left
  · exact absurd ((le_nI (p := x) (n := 3) (by omega) (by decide)).mpr hx) (of_decide_eq_false c_11)
  refine ps_st (S' := (20, [(0, .ref m0), (1, .int (nI k)), (2, .int (nI u)), (3, .int (nI x))], [.ref m0], M1)) rfl rfl rfl ?_
  refine pr_int (j := 18) (S' := (23, [(0, .ref m0), (1, .int (nI k)), (2, .int (nI u)), (3, .int (nI x))], [.int (nI n2)], M1)) rfl hR3 rfl hi6 rfl ?_
  refine ps_if (S1 := (61, [], [], M1)) (S2 := (26, [(0, .ref m0), (1, .int (nI k)), (2, .int (nI u)), (3, .int (nI x))], [], M1)) rfl rfl rfl (fun c_23 => ?_) (fun c_23 => ?_)
  · exact absurd (of_decide_eq_true c_23) (nI_n0 (by omega))
  refine ps_st (S' := (27, [(0, .ref m0), (1, .int (nI k)), (2, .int (nI u)), (3, .int (nI x))], [.int (nI k)], M1)) rfl rfl rfl ?_
  refine ps_if (S1 := (61, [], [], M1)) (S2 := (30, [(0, .ref m0), (1, .int (nI k)), (2, .int (nI u)), (3, .int (nI x))], [], M1)) rfl rfl rfl (fun c_27 => ?_) (fun c_27 => ?_)
  · exact absurd (of_decide_eq_true c_27) (nI_n0 (by omega))
  refine ps_st (S' := (31, [(0, .ref m0), (1, .int (nI k)), (2, .int (nI u)), (3, .int (nI x))], [.int (nI k)], M1)) rfl rfl rfl ?_
  refine ps_st (S' := (32, [(0, .ref m0), (1, .int (nI k)), (2, .int (nI u)), (3, .int (nI x))], [.ref m0, .int (nI k)], M1)) rfl rfl rfl ?_
  refine pr_int (j := 26) (S' := (35, [(0, .ref m0), (1, .int (nI k)), (2, .int (nI u)), (3, .int (nI x))], [.int (nI B.length), .int (nI k)], M1)) rfl hR3 rfl hi7 rfl ?_
  refine ps_if2 (S1 := (61, [], [], M1)) (S2 := (38, [(0, .ref m0), (1, .int (nI k)), (2, .int (nI u)), (3, .int (nI x))], [], M1)) rfl rfl rfl (fun c_35 => ?_) (fun c_35 => ?_)
  · exact absurd (of_decide_eq_true c_35) (fun h9 => absurd ((le_nI (p := B.length) (n := k) (by omega) (by omega)).mp h9) (by omega))
  refine ps_st (S' := (39, [(0, .ref m0), (1, .int (nI k)), (2, .int (nI u)), (3, .int (nI x))], [.ref m0], M1)) rfl rfl rfl ?_
  refine pr_ref (j := 37) (S' := (42, [(0, .ref m0), (1, .int (nI k)), (2, .int (nI u)), (3, .int (nI x))], [.ref (q 37)], M1)) rfl hR3 rfl rfl ?_
  refine ps_st (S' := (43, [(0, .ref m0), (1, .int (nI k)), (2, .int (nI u)), (3, .int (nI x))], [.int (nI k), .ref (q 37)], M1)) rfl rfl rfl ?_
  refine pr_ld (a := 37) (j := k) (y := (nI (cp + 14))) (S' := (44, [(0, .ref m0), (1, .int (nI k)), (2, .int (nI u)), (3, .int (nI x))], [.int (nI (cp + 14))], M1)) rfl hR3 rfl (by omega) (fun _ => by rw [g9.2.1.1.1, if_neg hc0]) rfl (fun i1_43 => ?_)
  refine ps_if (S1 := (61, [], [], M1)) (S2 := (47, [(0, .ref m0), (1, .int (nI k)), (2, .int (nI u)), (3, .int (nI x))], [], M1)) rfl rfl rfl (fun c_44 => ?_) (fun c_44 => ?_)
  · exact absurd (of_decide_eq_true c_44) (nI_n0 (by omega))
  refine ps_st (S' := (48, [(0, .ref m0), (1, .int (nI k)), (2, .int (nI u)), (3, .int (nI x))], [.int (nI u)], M1)) rfl rfl rfl ?_
  refine ps_if (S1 := (61, [], [], M1)) (S2 := (51, [(0, .ref m0), (1, .int (nI k)), (2, .int (nI u)), (3, .int (nI x))], [], M1)) rfl rfl rfl (fun c_48 => ?_) (fun c_48 => ?_)
  · exact absurd (of_decide_eq_true c_48) (nI_n0 (by omega))
  refine ps_st (S' := (52, [(0, .ref m0), (1, .int (nI k)), (2, .int (nI u)), (3, .int (nI x))], [.int (nI u)], M1)) rfl rfl rfl ?_
  refine ps_st (S' := (53, [(0, .ref m0), (1, .int (nI k)), (2, .int (nI u)), (3, .int (nI x))], [.ref m0, .int (nI u)], M1)) rfl rfl rfl ?_
  refine pr_ref (j := 42) (S' := (56, [(0, .ref m0), (1, .int (nI k)), (2, .int (nI u)), (3, .int (nI x))], [.ref (q 42), .int (nI u)], M1)) rfl hR3 rfl rfl ?_
  refine ps_st (S' := (57, [(0, .ref m0), (1, .int (nI k)), (2, .int (nI u)), (3, .int (nI x))], [.int (nI k), .ref (q 42), .int (nI u)], M1)) rfl rfl rfl ?_
  refine pr_ld (a := 42) (j := k) (y := (nI (by2 f (cp + 14 + by4 f (cp + 10))))) (S' := (58, [(0, .ref m0), (1, .int (nI k)), (2, .int (nI u)), (3, .int (nI x))], [.int (nI (by2 f (cp + 14 + by4 f (cp + 10)))), .int (nI u)], M1)) rfl hR3 rfl (by omega) (fun _ => by rw [g9.2.1.1.2.2.2.2.2, if_neg hc0]) rfl (fun i1_57 => ?_)
  refine ps_if2 (S1 := (63, [(0, .ref m0), (1, .int (nI k)), (2, .int (nI u)), (3, .int (nI x))], [], M1)) (S2 := (61, [], [], M1)) rfl rfl rfl (fun c_58 => ?_) (fun c_58 => ?_)
  rotate_left
  · exact absurd ((lt_nI (p := u) (n := by2 f (cp + 14 + by4 f (cp + 10))) (by omega) (by omega)).mpr hu) (of_decide_eq_false c_58)
  refine ps_st (S' := (64, [(0, .ref m0), (1, .int (nI k)), (2, .int (nI u)), (3, .int (nI x))], [.ref m0], M1)) rfl rfl rfl ?_
  refine ps_st (S' := (65, [(0, .ref m0), (1, .int (nI k)), (2, .int (nI u)), (3, .int (nI x))], [.ref m0, .ref m0], M1)) rfl rfl rfl ?_
  refine pr_ref (j := 41) (S' := (68, [(0, .ref m0), (1, .int (nI k)), (2, .int (nI u)), (3, .int (nI x))], [.ref (q 41), .ref m0], M1)) rfl hR3 rfl rfl ?_
  refine ps_st (S' := (69, [(0, .ref m0), (1, .int (nI k)), (2, .int (nI u)), (3, .int (nI x))], [.int (nI k), .ref (q 41), .ref m0], M1)) rfl rfl rfl ?_
  refine pr_ld (a := 41) (j := k) (y := (nI (cp + 14 + by4 f (cp + 10) + 2))) (S' := (70, [(0, .ref m0), (1, .int (nI k)), (2, .int (nI u)), (3, .int (nI x))], [.int (nI (cp + 14 + by4 f (cp + 10) + 2)), .ref m0], M1)) rfl hR3 rfl (by omega) (fun _ => g9.2.1.1.2.2.2.2.1 hc0) rfl (fun i1_69 => ?_)
  refine ps_st (S' := (72, [(0, .ref m0), (1, .int (nI k)), (2, .int (nI u)), (3, .int (nI x))], [.int 8, .int (nI (cp + 14 + by4 f (cp + 10) + 2)), .ref m0], M1)) rfl rfl rfl ?_
  refine ps_st (S' := (73, [(0, .ref m0), (1, .int (nI k)), (2, .int (nI u)), (3, .int (nI x))], [.int (nI u), .int 8, .int (nI (cp + 14 + by4 f (cp + 10) + 2)), .ref m0], M1)) rfl rfl rfl ?_
  refine ps_st (S' := (74, [(0, .ref m0), (1, .int (nI k)), (2, .int (nI u)), (3, .int (nI x))], [.int (8 * (nI u)), .int (nI (cp + 14 + by4 f (cp + 10) + 2)), .ref m0], M1)) rfl rfl rfl ?_
  rw [nI_mul1 (p := 8) (k := u) (x := 8) (y := (nI u)) rfl rfl (by omega)]
  show pl _ _ _ (_, [(0, .ref m0), (1, .int (nI k)), (2, .int (nI u)), (3, .int (nI x))], [.int (nI (8 * u)), .int (nI (cp + 14 + by4 f (cp + 10) + 2)), .ref m0], M1) _
  refine ps_st (S' := (75, [(0, .ref m0), (1, .int (nI k)), (2, .int (nI u)), (3, .int (nI x))], [.int ((nI (cp + 14 + by4 f (cp + 10) + 2)) + (nI (8 * u))), .ref m0], M1)) rfl rfl rfl ?_
  rw [nI_add1 (p := cp + 14 + by4 f (cp + 10) + 2) (k := 8 * u) (x := (nI (8 * u))) rfl (by omega)]
  show pl _ _ _ (_, [(0, .ref m0), (1, .int (nI k)), (2, .int (nI u)), (3, .int (nI x))], [.int (nI (cp + 14 + by4 f (cp + 10) + 2 + 8 * u)), .ref m0], M1) _
  refine ps_st (S' := (76, [(0, .ref m0), (1, .int (nI k)), (2, .int (nI u)), (3, .int (nI x))], [.int 2, .int (nI (cp + 14 + by4 f (cp + 10) + 2 + 8 * u)), .ref m0], M1)) rfl rfl rfl ?_
  refine ps_st (S' := (77, [(0, .ref m0), (1, .int (nI k)), (2, .int (nI u)), (3, .int (nI x))], [.int (nI x), .int 2, .int (nI (cp + 14 + by4 f (cp + 10) + 2 + 8 * u)), .ref m0], M1)) rfl rfl rfl ?_
  refine ps_st (S' := (78, [(0, .ref m0), (1, .int (nI k)), (2, .int (nI u)), (3, .int (nI x))], [.int (2 * (nI x)), .int (nI (cp + 14 + by4 f (cp + 10) + 2 + 8 * u)), .ref m0], M1)) rfl rfl rfl ?_
  rw [nI_mul1 (p := 2) (k := x) (x := 2) (y := (nI x)) rfl rfl (by omega)]
  show pl _ _ _ (_, [(0, .ref m0), (1, .int (nI k)), (2, .int (nI u)), (3, .int (nI x))], [.int (nI (2 * x)), .int (nI (cp + 14 + by4 f (cp + 10) + 2 + 8 * u)), .ref m0], M1) _
  refine ps_st (S' := (79, [(0, .ref m0), (1, .int (nI k)), (2, .int (nI u)), (3, .int (nI x))], [.int ((nI (cp + 14 + by4 f (cp + 10) + 2 + 8 * u)) + (nI (2 * x))), .ref m0], M1)) rfl rfl rfl ?_
  rw [nI_add1 (p := cp + 14 + by4 f (cp + 10) + 2 + 8 * u) (k := 2 * x) (x := (nI (2 * x))) rfl (by omega)]
  show pl _ _ _ (_, [(0, .ref m0), (1, .int (nI k)), (2, .int (nI u)), (3, .int (nI x))], [.int (nI (cp + 14 + by4 f (cp + 10) + 2 + 8 * u + 2 * x)), .ref m0], M1) _
  refine pl_call (a := [.ref m0, .int (nI (cp + 14 + by4 f (cp + 10) + 2 + 8 * u + 2 * x))]) (rest := []) rfl rfl rfl (rd_u2 (n := n) (f := f) (p := (cp + 14 + by4 f (cp + 10) + 2 + 8 * u + 2 * x)) hR3 hF_8 (by omega)) (fun v11 M12 q13 => ?_)
  obtain ⟨rfl, rfl⟩ := q13
  show pl _ _ _ (82, [(0, .ref m0), (1, .int (nI k)), (2, .int (nI u)), (3, .int (nI x))], [.int (nI (by2 f (cp + 14 + by4 f (cp + 10) + 2 + 8 * u + 2 * x)))], M1) _
  have hu_79 := by2_lt f (cp + 14 + by4 f (cp + 10) + 2 + 8 * u + 2 * x)
  exact ps_reti rfl (⟨I2, R, rfl, hR3, hEI10, hER, hi4⟩)
theorem rd_rowK {g : xe_G} {m0 : Nat} {q : Nat → Nat} {z : Nat × Nat} {I : rI} {R : rR} {M : mi_H} {ko : Option (Nat × (Nat → Int32))} {m r x : Int32} (hR : RS g m0 q z I R M) (hK : KPR ko I R) (h0 : ¬ x < 0) (h1 : x ≤ 3) : pt (mT g) 239 [.ref m0, .int m, .int r, .int x] M (fun v M' => ∃ (I' : rI) (R' : rR), v = some (.int (roK ko m r x)) ∧ RS g m0 q z I' R' M' ∧ eqI [0] I I' ∧ eqR [] R R' ∧ I' 0 = some 0) := by
  cases ko with
  | none =>
    obtain ⟨kn, h2, h3⟩ := hK
    exact rd_row0 hR h2 h0 h1 h3
  | some r9 =>
    obtain ⟨h2, h3, -, hrd, tx, cN, A, E, N, mj, p1, pF, pM, pA, k1, k2, k3, k4, k5, k6, k7, rfl, rfl, m1, m2, m3, m4, m5, m6, m7, m8, ⟨a1, a2, a3, a4, a5⟩, -⟩ := hK
    have hN := by2_lt r9.2 8
    have hEP := (EP_of (whole_in k7)).1
    have hb1 := mbs_len m5
    have hb2 := mbs_len m6
    rw [roK_is k7]
    by_cases hi : m < 0 ∨ nI (mbs r9.2 r9.1 (by2 r9.2 pM) (pM + 2)).length ≤ m
    · rw [if_pos hi]
      exact rd_rowN hR h2 m2 h0 h1 h3 hi
    · rw [if_neg hi]
      obtain ⟨ei, li⟩ := i32_in hb2 hi
      obtain ⟨k, ek⟩ : ∃ k, k = m.toNatClampNeg := ⟨_, rfl⟩
      rw [← ek] at ei li ⊢
      subst ei
      have hin := code_in k7 hrd m6 li
      obtain ⟨cp, ecp⟩ : ∃ cp, (mK r9.2 r9.1 E ((mbs r9.2 r9.1 (by2 r9.2 pM) (pM + 2)).getD k 0)).2.1 = cp := ⟨_, rfl⟩
      rw [ecp] at hin ⊢
      unfold roI
      by_cases hp : cp = 0
      · rw [if_pos hp]
        exact rd_rowC hR h2 m2 a5 h0 h1 h3 li hb2 ecp hp
      · rw [if_neg hp]
        have hin := hin.resolve_left hp
        have hl9 := by2_lt r9.2 (cp + 14 + by4 r9.2 (cp + 10))
        by_cases h5 : r < 0 ∨ nI (by2 r9.2 (cp + 14 + by4 r9.2 (cp + 10))) ≤ r
        · rw [if_pos h5]
          exact rd_rowR hR h2 m2 a5 h0 h1 h3 li hb2 ecp hp hin h3 h5
        · rw [if_neg h5]
          obtain ⟨er, lr⟩ := i32_in hl9 h5
          obtain ⟨u, eu⟩ : ∃ u, u = r.toNatClampNeg := ⟨_, rfl⟩
          rw [← eu] at er lr ⊢
          subst er
          obtain ⟨ew, hw⟩ := i32_4 h0 h1
          obtain ⟨j, ej⟩ : ∃ j, j = x.toNatClampNeg := ⟨_, rfl⟩
          rw [← ej] at ew hw ⊢
          subst ew
          exact rd_rowV hR h2 m2 k1 a5 (by omega) h3 li hb2 ecp hp hin h3 lr
end
