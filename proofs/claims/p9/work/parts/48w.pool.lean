/-! the pool's writers (laid by wip/p2/c48.py) -/
theorem vin_out {a : Int32} {n : Nat} (hn : n < 1073741824) (h : nI n ≤ a) : ¬ vp_in a n := by
  intro h1
  have h2 := Int32.le_iff_toInt_le.mp h
  rw [nI_val hn] at h2
  refine h1 (Or.inr ?_)
  show n ≤ a.toInt.toNat
  omega
theorem vin_neg {a : Int32} {n : Nat} (h : a < 0) : ¬ vp_in a n := fun h1 => h1 (Or.inl h)
theorem upd_at {f : Nat → Int32} {k : Nat} {x : Int32} : upd f k x k = x := by simp [upd]
theorem upd_ne {f : Nat → Int32} {k j : Nat} {x : Int32} (h : j ≠ k) : upd f k x j = f j := by simp [upd, h]

set_option maxHeartbeats 1000000 in
theorem ct_setTag {g : xe_G} {M : mi_H} {p : Nat} {size : Int32} {n m : Nat} {q : Nat → Nat} {f : Nat → Nat → Int32} {cc : Int32} {x1 x2 x3 : Int32} (hP : PL M p size n m q f cc) (hQ : qd q) (hn : n < 1073741824) {d : Nat} (hd : 1 ≤ d) : mt (mT g) d 136 [.ref p, .int x1, .int x2, .int x3] M (fun v M' => v = none ∧ ((¬ vp_in x1 n ∧ M' = M) ∨ (vp_in x1 n ∧ M' = up (up M (q 1) (ar .int n (upd (f 1) (Int32.toNatClampNeg x1) x2))) (q 2) (ar .int n (upd (f 2) (Int32.toNatClampNeg x1) x3))))) := by
  obtain ⟨d, rfl⟩ : ∃ e, d = e + 1 := ⟨d - 1, by omega⟩
  refine mt_in (b := mb_136 g) rfl rfl ?_
  show ml (mT g) d (mb_136 g).2 (0, [(0, .ref p), (1, .int x1), (2, .int x2), (3, .int x3)], [], M) _
  refine ml_st (S' := (1, [(0, .ref p), (1, .int x1), (2, .int x2), (3, .int x3)], [.int x1], M)) rfl rfl rfl ?_
  refine ml_if (S1 := (27, [], [], M)) (S2 := (4, [(0, .ref p), (1, .int x1), (2, .int x2), (3, .int x3)], [], M)) rfl rfl rfl (fun c_1 => ?_) (fun c_1 => ?_)
  · have c_1 : x1 < 0 := of_decide_eq_true c_1
    exact ml_ret rfl (rfl) (⟨rfl, by first | exact Or.inr ⟨vin_ge c_1 c_10, rfl⟩ | exact Or.inl ⟨vin_neg c_1, rfl⟩ | exact Or.inl ⟨vin_out hn c_10, rfl⟩⟩)
  · have c_1 : ¬ (x1 < 0) := of_decide_eq_false c_1
    refine ml_st (S' := (5, [(0, .ref p), (1, .int x1), (2, .int x2), (3, .int x3)], [.int x1], M)) rfl rfl rfl ?_
    refine ml_st (S' := (6, [(0, .ref p), (1, .int x1), (2, .int x2), (3, .int x3)], [.ref p, .int x1], M)) rfl rfl rfl ?_
    refine mo_get (S' := (9, [(0, .ref p), (1, .int x1), (2, .int x2), (3, .int x3)], [.ref (q 1), .int x1], M)) rfl hP.1 rfl rfl ?_
    refine mo_alen (S' := (10, [(0, .ref p), (1, .int x1), (2, .int x2), (3, .int x3)], [.int (nI n), .int x1], M)) rfl (hP.2.1 1 (by decide) (by decide)) rfl ?_
    refine ml_if2 (S1 := (27, [], [], M)) (S2 := (13, [(0, .ref p), (1, .int x1), (2, .int x2), (3, .int x3)], [], M)) rfl rfl rfl (fun c_10 => ?_) (fun c_10 => ?_)
    · have c_10 : (nI n) ≤ x1 := of_decide_eq_true c_10
      exact ml_ret rfl (rfl) (⟨rfl, by first | exact Or.inr ⟨vin_ge c_1 c_10, rfl⟩ | exact Or.inl ⟨vin_neg c_1, rfl⟩ | exact Or.inl ⟨vin_out hn c_10, rfl⟩⟩)
    · have c_10 : ¬ ((nI n) ≤ x1) := of_decide_eq_false c_10
      refine ml_st (S' := (14, [(0, .ref p), (1, .int x1), (2, .int x2), (3, .int x3)], [.ref p], M)) rfl rfl rfl ?_
      refine mo_get (S' := (17, [(0, .ref p), (1, .int x1), (2, .int x2), (3, .int x3)], [.ref (q 1)], M)) rfl hP.1 rfl rfl ?_
      refine ml_st (S' := (18, [(0, .ref p), (1, .int x1), (2, .int x2), (3, .int x3)], [.int x1, .ref (q 1)], M)) rfl rfl rfl ?_
      refine ml_st (S' := (19, [(0, .ref p), (1, .int x1), (2, .int x2), (3, .int x3)], [.int x2, .int x1, .ref (q 1)], M)) rfl rfl rfl ?_
      refine mo_ast (S' := (20, [(0, .ref p), (1, .int x1), (2, .int x2), (3, .int x3)], [], (up M (q 1) (ar .int n (upd (f 1) (Int32.toNatClampNeg x1) x2))))) rfl (hP.2.1 1 (by decide) (by decide)) (vin_ge c_1 c_10) rfl ?_
      have hP1 := hP.up (f' := upd (f 1) (Int32.toNatClampNeg x1) x2) hQ (i := 1) (by decide) (by decide)
      generalize hM1 : (up M (q 1) (ar .int n (upd (f 1) (Int32.toNatClampNeg x1) x2))) = M1 at hP1 ⊢
      refine ml_st (S' := (21, [(0, .ref p), (1, .int x1), (2, .int x2), (3, .int x3)], [.ref p], M1)) rfl rfl rfl ?_
      refine mo_get (S' := (24, [(0, .ref p), (1, .int x1), (2, .int x2), (3, .int x3)], [.ref (q 2)], M1)) rfl hP1.1 rfl rfl ?_
      refine ml_st (S' := (25, [(0, .ref p), (1, .int x1), (2, .int x2), (3, .int x3)], [.int x1, .ref (q 2)], M1)) rfl rfl rfl ?_
      refine ml_st (S' := (26, [(0, .ref p), (1, .int x1), (2, .int x2), (3, .int x3)], [.int x3, .int x1, .ref (q 2)], M1)) rfl rfl rfl ?_
      refine mo_ast (S' := (27, [], [], (up M1 (q 2) (ar .int n (upd (f 2) (Int32.toNatClampNeg x1) x3))))) rfl (hP1.2.1 2 (by decide) (by decide)) (vin_ge c_1 c_10) rfl ?_
      exact ml_ret rfl (rfl) (⟨rfl, by first | exact Or.inr ⟨vin_ge c_1 c_10, rfl⟩ | exact Or.inl ⟨vin_neg c_1, rfl⟩ | exact Or.inl ⟨vin_out hn c_10, rfl⟩⟩)
set_option maxHeartbeats 1000000 in
theorem ct_setNumbers {g : xe_G} {M : mi_H} {p : Nat} {size : Int32} {n m : Nat} {q : Nat → Nat} {f : Nat → Nat → Int32} {cc : Int32} {x1 x2 x3 : Int32} (hP : PL M p size n m q f cc) (hQ : qd q) (hn : n < 1073741824) {d : Nat} (hd : 1 ≤ d) : mt (mT g) d 135 [.ref p, .int x1, .int x2, .int x3] M (fun v M' => v = none ∧ ((¬ vp_in x1 n ∧ M' = M) ∨ (vp_in x1 n ∧ M' = up (up M (q 3) (ar .int n (upd (f 3) (Int32.toNatClampNeg x1) x2))) (q 4) (ar .int n (upd (f 4) (Int32.toNatClampNeg x1) x3))))) := by
  obtain ⟨d, rfl⟩ : ∃ e, d = e + 1 := ⟨d - 1, by omega⟩
  refine mt_in (b := mb_135 g) rfl rfl ?_
  show ml (mT g) d (mb_135 g).2 (0, [(0, .ref p), (1, .int x1), (2, .int x2), (3, .int x3)], [], M) _
  refine ml_st (S' := (1, [(0, .ref p), (1, .int x1), (2, .int x2), (3, .int x3)], [.int x1], M)) rfl rfl rfl ?_
  refine ml_if (S1 := (27, [], [], M)) (S2 := (4, [(0, .ref p), (1, .int x1), (2, .int x2), (3, .int x3)], [], M)) rfl rfl rfl (fun c_1 => ?_) (fun c_1 => ?_)
  · have c_1 : x1 < 0 := of_decide_eq_true c_1
    exact ml_ret rfl (rfl) (⟨rfl, by first | exact Or.inr ⟨vin_ge c_1 c_10, rfl⟩ | exact Or.inl ⟨vin_neg c_1, rfl⟩ | exact Or.inl ⟨vin_out hn c_10, rfl⟩⟩)
  · have c_1 : ¬ (x1 < 0) := of_decide_eq_false c_1
    refine ml_st (S' := (5, [(0, .ref p), (1, .int x1), (2, .int x2), (3, .int x3)], [.int x1], M)) rfl rfl rfl ?_
    refine ml_st (S' := (6, [(0, .ref p), (1, .int x1), (2, .int x2), (3, .int x3)], [.ref p, .int x1], M)) rfl rfl rfl ?_
    refine mo_get (S' := (9, [(0, .ref p), (1, .int x1), (2, .int x2), (3, .int x3)], [.ref (q 1), .int x1], M)) rfl hP.1 rfl rfl ?_
    refine mo_alen (S' := (10, [(0, .ref p), (1, .int x1), (2, .int x2), (3, .int x3)], [.int (nI n), .int x1], M)) rfl (hP.2.1 1 (by decide) (by decide)) rfl ?_
    refine ml_if2 (S1 := (27, [], [], M)) (S2 := (13, [(0, .ref p), (1, .int x1), (2, .int x2), (3, .int x3)], [], M)) rfl rfl rfl (fun c_10 => ?_) (fun c_10 => ?_)
    · have c_10 : (nI n) ≤ x1 := of_decide_eq_true c_10
      exact ml_ret rfl (rfl) (⟨rfl, by first | exact Or.inr ⟨vin_ge c_1 c_10, rfl⟩ | exact Or.inl ⟨vin_neg c_1, rfl⟩ | exact Or.inl ⟨vin_out hn c_10, rfl⟩⟩)
    · have c_10 : ¬ ((nI n) ≤ x1) := of_decide_eq_false c_10
      refine ml_st (S' := (14, [(0, .ref p), (1, .int x1), (2, .int x2), (3, .int x3)], [.ref p], M)) rfl rfl rfl ?_
      refine mo_get (S' := (17, [(0, .ref p), (1, .int x1), (2, .int x2), (3, .int x3)], [.ref (q 3)], M)) rfl hP.1 rfl rfl ?_
      refine ml_st (S' := (18, [(0, .ref p), (1, .int x1), (2, .int x2), (3, .int x3)], [.int x1, .ref (q 3)], M)) rfl rfl rfl ?_
      refine ml_st (S' := (19, [(0, .ref p), (1, .int x1), (2, .int x2), (3, .int x3)], [.int x2, .int x1, .ref (q 3)], M)) rfl rfl rfl ?_
      refine mo_ast (S' := (20, [(0, .ref p), (1, .int x1), (2, .int x2), (3, .int x3)], [], (up M (q 3) (ar .int n (upd (f 3) (Int32.toNatClampNeg x1) x2))))) rfl (hP.2.1 3 (by decide) (by decide)) (vin_ge c_1 c_10) rfl ?_
      have hP1 := hP.up (f' := upd (f 3) (Int32.toNatClampNeg x1) x2) hQ (i := 3) (by decide) (by decide)
      generalize hM1 : (up M (q 3) (ar .int n (upd (f 3) (Int32.toNatClampNeg x1) x2))) = M1 at hP1 ⊢
      refine ml_st (S' := (21, [(0, .ref p), (1, .int x1), (2, .int x2), (3, .int x3)], [.ref p], M1)) rfl rfl rfl ?_
      refine mo_get (S' := (24, [(0, .ref p), (1, .int x1), (2, .int x2), (3, .int x3)], [.ref (q 4)], M1)) rfl hP1.1 rfl rfl ?_
      refine ml_st (S' := (25, [(0, .ref p), (1, .int x1), (2, .int x2), (3, .int x3)], [.int x1, .ref (q 4)], M1)) rfl rfl rfl ?_
      refine ml_st (S' := (26, [(0, .ref p), (1, .int x1), (2, .int x2), (3, .int x3)], [.int x3, .int x1, .ref (q 4)], M1)) rfl rfl rfl ?_
      refine mo_ast (S' := (27, [], [], (up M1 (q 4) (ar .int n (upd (f 4) (Int32.toNatClampNeg x1) x3))))) rfl (hP1.2.1 4 (by decide) (by decide)) (vin_ge c_1 c_10) rfl ?_
      exact ml_ret rfl (rfl) (⟨rfl, by first | exact Or.inr ⟨vin_ge c_1 c_10, rfl⟩ | exact Or.inl ⟨vin_neg c_1, rfl⟩ | exact Or.inl ⟨vin_out hn c_10, rfl⟩⟩)
set_option maxHeartbeats 1000000 in
theorem ct_addCharacter {g : xe_G} {M : mi_H} {p : Nat} {size : Int32} {n m : Nat} {q : Nat → Nat} {f : Nat → Nat → Int32} {cc : Int32} {x1 : Int32} (hP : PL M p size n m q f cc) (h0 : 0 ≤ cc.toInt) (hne : p ≠ q 6) {d : Nat} (hd : 1 ≤ d) : mt (mT g) d 111 [.ref p, .int x1] M (fun v M' => v = none ∧ ((M' = M ∧ nI m ≤ cc) ∨ (¬ nI m ≤ cc ∧ M' = up (up M (q 6) (ar .char m (upd (f 6) (Int32.toNatClampNeg cc) (vp_nar .char ((Int32.toUInt32 x1 % 65536).toInt32))))) p (ob 7 [.int size, .ref (q 1), .ref (q 2), .ref (q 3), .ref (q 4), .ref (q 5), .ref (q 6), .int (cc + 1)])))) := by
  obtain ⟨d, rfl⟩ : ∃ e, d = e + 1 := ⟨d - 1, by omega⟩
  refine mt_in (b := mb_111 g) rfl rfl ?_
  show ml (mT g) d (mb_111 g).2 (0, [(0, .ref p), (1, .int x1)], [], M) _
  refine ml_st (S' := (1, [(0, .ref p), (1, .int x1)], [.ref p], M)) rfl rfl rfl ?_
  refine mo_get (S' := (4, [(0, .ref p), (1, .int x1)], [.int cc], M)) rfl hP.1 rfl rfl ?_
  refine ml_st (S' := (5, [(0, .ref p), (1, .int x1)], [.ref p, .int cc], M)) rfl rfl rfl ?_
  refine mo_get (S' := (8, [(0, .ref p), (1, .int x1)], [.ref (q 6), .int cc], M)) rfl hP.1 rfl rfl ?_
  refine mo_alen (S' := (9, [(0, .ref p), (1, .int x1)], [.int (nI m), .int cc], M)) rfl hP.2.2 rfl ?_
  refine ml_if2 (S1 := (33, [], [], M)) (S2 := (12, [(0, .ref p), (1, .int x1)], [], M)) rfl rfl rfl (fun c_9 => ?_) (fun c_9 => ?_)
  · have c_9 : (nI m) ≤ cc := of_decide_eq_true c_9
    exact ml_ret rfl (rfl) (⟨rfl, by first | exact Or.inr ⟨c_9, rfl⟩ | exact Or.inl ⟨rfl, c_9⟩⟩)
  · have c_9 : ¬ ((nI m) ≤ cc) := of_decide_eq_false c_9
    refine ml_st (S' := (13, [(0, .ref p), (1, .int x1)], [.ref p], M)) rfl rfl rfl ?_
    refine mo_get (S' := (16, [(0, .ref p), (1, .int x1)], [.ref (q 6)], M)) rfl hP.1 rfl rfl ?_
    refine ml_st (S' := (17, [(0, .ref p), (1, .int x1)], [.ref p, .ref (q 6)], M)) rfl rfl rfl ?_
    refine mo_get (S' := (20, [(0, .ref p), (1, .int x1)], [.int cc, .ref (q 6)], M)) rfl hP.1 rfl rfl ?_
    refine ml_st (S' := (21, [(0, .ref p), (1, .int x1)], [.int x1, .int cc, .ref (q 6)], M)) rfl rfl rfl ?_
    refine ml_st (S' := (22, [(0, .ref p), (1, .int x1)], [.int ((Int32.toUInt32 x1 % 65536).toInt32), .int cc, .ref (q 6)], M)) rfl rfl rfl ?_
    refine mo_ast (S' := (23, [(0, .ref p), (1, .int x1)], [], (up M (q 6) (ar .char m (upd (f 6) (Int32.toNatClampNeg cc) (vp_nar .char ((Int32.toUInt32 x1 % 65536).toInt32))))))) rfl hP.2.2 (vin_ge (nlt0 h0) c_9) rfl ?_
    have hp1 := up_eq (c := (ar .char m (upd (f 6) (Int32.toNatClampNeg cc) (vp_nar .char ((Int32.toUInt32 x1 % 65536).toInt32))))) hP.1 hne
    generalize hM1 : (up M (q 6) (ar .char m (upd (f 6) (Int32.toNatClampNeg cc) (vp_nar .char ((Int32.toUInt32 x1 % 65536).toInt32))))) = M1 at hp1 ⊢
    refine ml_st (S' := (24, [(0, .ref p), (1, .int x1)], [.ref p], M1)) rfl rfl rfl ?_
    refine ml_st (S' := (25, [(0, .ref p), (1, .int x1)], [.ref p, .ref p], M1)) rfl rfl rfl ?_
    refine mo_get (S' := (28, [(0, .ref p), (1, .int x1)], [.int cc, .ref p], M1)) rfl hp1 rfl rfl ?_
    refine ml_st (S' := (29, [(0, .ref p), (1, .int x1)], [.int 1, .int cc, .ref p], M1)) rfl rfl rfl ?_
    refine ml_st (S' := (30, [(0, .ref p), (1, .int x1)], [.int (cc + 1), .ref p], M1)) rfl rfl rfl ?_
    refine mo_put (S' := (33, [], [], (up M1 p (ob 7 [.int size, .ref (q 1), .ref (q 2), .ref (q 3), .ref (q 4), .ref (q 5), .ref (q 6), .int (cc + 1)])))) rfl hp1 rfl (by simp) rfl ?_
    exact ml_ret rfl (rfl) (⟨rfl, by first | exact Or.inr ⟨c_9, rfl⟩ | exact Or.inl ⟨rfl, c_9⟩⟩)

/-- from k on no entry has numbers -/
def TZ (M : mi_H) (f s : Nat) (k : Int32) : Prop := ∃ n f3 f4, M.1 f = some (ar .int n f3) ∧ M.1 s = some (ar .int n f4) ∧ ∀ j : Nat, k.toInt ≤ j → f3 j = 0 ∧ f4 j = 0
def TG (M : mi_H) (t : Nat) (k x : Int32) : Prop := ∀ n f1, M.1 t = some (ar .int n f1) → vp_in k n → f1 k.toNatClampNeg = x
theorem TZ.fr {M M' : mi_H} {f s : Nat} {k : Int32} (h : TZ M f s k) (h1 : M'.1 f = M.1 f) (h2 : M'.1 s = M.1 s) : TZ M' f s k := by
  obtain ⟨n, f3, f4, a, b, c⟩ := h
  exact ⟨n, f3, f4, h1.trans a, h2.trans b, c⟩
theorem TZ.le {M : mi_H} {f s : Nat} {k k' : Int32} (h : TZ M f s k) (hk : k.toInt ≤ k'.toInt) : TZ M f s k' := by
  obtain ⟨n, f3, f4, a, b, c⟩ := h
  exact ⟨n, f3, f4, a, b, fun j hj => c j (by omega)⟩
theorem ar_inj {ty : FieldType} {n n' : Nat} {f f' : Nat → Int32} (h : (some (ar ty n f) : Option mi_C) = some (ar ty n' f')) : n = n' ∧ f = f' := by
  simp only [ar, Option.some.injEq, Sum.inl.injEq, Prod.mk.injEq, true_and] at h
  refine ⟨h.1, funext fun i => ?_⟩
  have := congrFun h.2 i
  simpa using this
theorem toN {a : Int32} {n : Nat} (h : vp_in a n) : (a.toNatClampNeg : Int) = a.toInt := by
  have h0 : ¬ a < 0 := fun q => h (Or.inl q)
  exact (mi_nn a h0).symm
theorem tm_setTag {g : xe_G} {M : mi_H} {Y : yT} {p n m t tp f s sh ch : Nat} {x1 x2 x3 : Int32} (hW : WF g Y M) (hY0 : Y.1 p = some (7, [n, m, t, tp, f, s, sh, ch])) (hz : TZ M f s x1) {d : Nat} (hd : 1 ≤ d) : mt (mT g) d 136 [.ref p, .int x1, .int x2, .int x3] M (fun v M' => v = none ∧ st g Y M M' ∧ fr [t, tp] M M' ∧ TG M' t x1 x2) := by
  obtain ⟨size, n', m', q, ff, cc, hP, hT, hn, hm, hs, hc, e⟩ := hW.pool hY0
  simp only [List.cons.injEq, and_true] at e
  obtain ⟨rfl, rfl, rfl, rfl, rfl, rfl, rfl, rfl⟩ := e
  obtain ⟨hQ, hq⟩ := hW.qd hY0
  refine (ct_setTag hP hQ hn hd).mono (fun v M' h => ⟨h.1, ?_⟩)
  rcases h.2 with ⟨h1, rfl⟩ | ⟨h1, e⟩
  · refine ⟨st.rf hW, fr.rf, fun n0 f1 h2 h3 => ?_⟩
    obtain ⟨rfl, rfl⟩ := ar_inj ((hP.2.1 1 (by decide) (by decide)).symm.trans h2)
    exact absurd h3 h1
  · have hP1 := (hP.up (f' := upd (ff 1) x1.toNatClampNeg x2) hQ (i := 1) (by decide) (by decide)).up (f' := upd (ff 2) x1.toNatClampNeg x3) hQ (i := 2) (by decide) (by decide)
    rw [← e] at hP1
    have hF : fr [q 1, q 2] M M' := by
      rw [e]
      exact (fr.rf.up (by simp)).up (by simp)
    obtain ⟨n0, f3, f4, z1, z2, z3⟩ := hz
    obtain ⟨rfl, rfl⟩ := ar_inj ((hP.2.1 3 (by decide) (by decide)).symm.trans z1)
    obtain ⟨-, rfl⟩ := ar_inj ((hP.2.1 4 (by decide) (by decide)).symm.trans z2)
    refine ⟨hW.poolset hY0 (fun z h2 h3 => hF z ?_) (by rw [e]; rfl) hP1 ⟨hT.1, hT.2.1, fun k hk h4 => ?_⟩ hs hc, hF, fun n0 f1 h2 h3 => ?_⟩
    · simp only [List.mem_cons, List.not_mem_nil, or_false, not_or]
      exact ⟨h3 1 (by decide) (by decide), h3 2 (by decide) (by decide)⟩
    · by_cases ek : k = x1.toNatClampNeg
      · subst ek
        have hx := toN h1
        obtain ⟨w1, w2⟩ := z3 x1.toNatClampNeg (by omega)
        show 0 ≤ (ff 3 _).toInt ∧ 0 ≤ (ff 4 _).toInt ∧ (ff 3 _).toInt + (ff 4 _).toInt ≤ cc.toInt
        rw [w1, w2]
        have := hT.1
        have z0 : (0 : Int32).toInt = 0 := rfl
        omega
      · have : upd (ff 1) x1.toNatClampNeg x2 k = 1 := h4
        rw [upd_ne ek] at this
        exact hT.2.2 k hk this
    · obtain ⟨rfl, rfl⟩ := ar_inj ((hP1.2.1 1 (by decide) (by decide)).symm.trans h2)
      exact upd_at
theorem tm_setNumbers {g : xe_G} {M : mi_H} {Y : yT} {p n m t tp f s sh ch : Nat} {x1 x2 x3 : Int32} (hW : WF g Y M) (hY0 : Y.1 p = some (7, [n, m, t, tp, f, s, sh, ch])) (hz : (∃ tg : Int32, tg ≠ 1 ∧ TG M t x1 tg) ∨ ∃ cc : Int32, mi_gf M p 7 7 = some (.int cc) ∧ 0 ≤ x2.toInt ∧ 0 ≤ x3.toInt ∧ x2.toInt + x3.toInt ≤ cc.toInt) {d : Nat} (hd : 1 ≤ d) : mt (mT g) d 135 [.ref p, .int x1, .int x2, .int x3] M (fun v M' => v = none ∧ st g Y M M' ∧ fr [f, s] M M' ∧ ∀ k : Int32, x1.toInt < k.toInt → TZ M f s k → TZ M' f s k) := by
  obtain ⟨size, n', m', q, ff, cc, hP, hT, hn, hm, hs, hc, e⟩ := hW.pool hY0
  simp only [List.cons.injEq, and_true] at e
  obtain ⟨rfl, rfl, rfl, rfl, rfl, rfl, rfl, rfl⟩ := e
  obtain ⟨hQ, hq⟩ := hW.qd hY0
  refine (ct_setNumbers hP hQ hn hd).mono (fun v M' h => ⟨h.1, ?_⟩)
  rcases h.2 with ⟨h1, rfl⟩ | ⟨h1, e⟩
  · exact ⟨st.rf hW, fr.rf, fun _ _ h => h⟩
  · have hP1 := (hP.up (f' := upd (ff 3) x1.toNatClampNeg x2) hQ (i := 3) (by decide) (by decide)).up (f' := upd (ff 4) x1.toNatClampNeg x3) hQ (i := 4) (by decide) (by decide)
    rw [← e] at hP1
    have hF : fr [q 3, q 4] M M' := by
      rw [e]
      exact (fr.rf.up (by simp)).up (by simp)
    have hx := toN h1
    refine ⟨hW.poolset hY0 (fun z h2 h3 => hF z ?_) (by rw [e]; rfl) hP1 ⟨hT.1, hT.2.1, fun k hk h4 => ?_⟩ hs hc, hF, fun k hk h2 => ?_⟩
    · simp only [List.mem_cons, List.not_mem_nil, or_false, not_or]
      exact ⟨h3 3 (by decide) (by decide), h3 4 (by decide) (by decide)⟩
    · have h4 : ff 1 k = 1 := h4
      show 0 ≤ (upd (ff 3) x1.toNatClampNeg x2 k).toInt ∧ 0 ≤ (upd (ff 4) x1.toNatClampNeg x3 k).toInt ∧ (upd (ff 3) x1.toNatClampNeg x2 k).toInt + (upd (ff 4) x1.toNatClampNeg x3 k).toInt ≤ cc.toInt
      by_cases ek : k = x1.toNatClampNeg
      · subst ek
        rcases hz with ⟨tg, w1, w2⟩ | ⟨cc', w0, w1, w2, w3⟩
        · exact absurd ((w2 _ _ (hP.2.1 1 (by decide) (by decide)) h1).symm.trans h4) w1
        · have : mi_gf M p 7 7 = some (.int cc) := gf_ob hP.1 rfl
          rw [this] at w0
          cases w0
          rw [upd_at, upd_at]
          exact ⟨w1, w2, w3⟩
      · rw [upd_ne ek, upd_ne ek]
        exact hT.2.2 k hk h4
    · obtain ⟨n0, f3, f4, z1, z2, z3⟩ := h2
      obtain ⟨rfl, rfl⟩ := ar_inj ((hP.2.1 3 (by decide) (by decide)).symm.trans z1)
      obtain ⟨-, rfl⟩ := ar_inj ((hP.2.1 4 (by decide) (by decide)).symm.trans z2)
      refine ⟨_, _, _, hP1.2.1 3 (by decide) (by decide), hP1.2.1 4 (by decide) (by decide), fun j hj => ?_⟩
      show upd (ff 3) x1.toNatClampNeg x2 j = 0 ∧ upd (ff 4) x1.toNatClampNeg x3 j = 0
      have : j ≠ x1.toNatClampNeg := by omega
      rw [upd_ne this, upd_ne this]
      exact z3 j hj
theorem tm_addCharacter {g : xe_G} {M : mi_H} {Y : yT} {p n m t tp f s sh ch : Nat} {x1 cc : Int32} (hW : WF g Y M) (hY0 : Y.1 p = some (7, [n, m, t, tp, f, s, sh, ch])) (hcc : mi_gf M p 7 7 = some (.int cc)) {d : Nat} (hd : 1 ≤ d) : mt (mT g) d 111 [.ref p, .int x1] M (fun v M' => v = none ∧ st g Y M M' ∧ fr [p, ch] M M' ∧ ∃ c' : Int32, mi_gf M' p 7 7 = some (.int c') ∧ cc.toInt ≤ c'.toInt) := by
  obtain ⟨size, n', m', q, ff, cc0, hP, hT, hn, hm, hs, hc, e⟩ := hW.pool hY0
  simp only [List.cons.injEq, and_true] at e
  obtain ⟨rfl, rfl, rfl, rfl, rfl, rfl, rfl, rfl⟩ := e
  obtain ⟨hQ, hq⟩ := hW.qd hY0
  have hcc0 : mi_gf M p 7 7 = some (.int cc0) := gf_ob hP.1 rfl
  rw [hcc0] at hcc
  cases hcc
  have hne : p ≠ q 6 := fun e => by
    have := hP.2.2
    rw [← e, hP.1] at this
    simp [ob, ar] at this
  refine (ct_addCharacter hP hT.1 hne hd).mono (fun v M' h => ⟨h.1, ?_⟩)
  rcases h.2 with ⟨rfl, h1⟩ | ⟨h1, e⟩
  · exact ⟨st.rf hW, fr.rf, cc, hcc0, Int.le_refl _⟩
  · have h2 := i_nle h1
    rw [nI_val hm] at h2
    have e1 : (cc + 1).toInt = cc.toInt + 1 := i_add (by have : (1 : Int32).toInt = 1 := rfl; have := hT.1; omega) (by have : (1 : Int32).toInt = 1 := rfl; omega)
    have hF : fr [p, q 6] M M' := by
      rw [e]
      exact (fr.rf.up (by simp)).up (by simp)
    have hP1 : PL M' p size n m q (fun j => if j = 6 then upd (ff 6) cc.toNatClampNeg (vp_nar .char (Int32.toUInt32 x1 % 65536).toInt32) else ff j) (cc + 1) := by
      rw [e]
      refine ⟨up_at, fun j hj1 hj5 => ?_, up_eq ?_ hne.symm⟩
      · have : j ≠ 6 := by omega
        simp only [this, if_false]
        have hj := hP.2.1 j hj1 hj5
        refine up_eq (up_eq hj (hQ j 6 hj1 (by omega) (by omega) (by omega) this)) (ob_ne_ar hP.1 hj)
      · simp only [if_true]
        exact up_at
    refine ⟨hW.poolset hY0 (fun z h3 h4 => hF z ?_) (by rw [e]; rfl) hP1 ⟨by rw [e1]; have := hT.1; omega, by rw [e1]; omega, fun k hk h4 => ?_⟩ hs (fun i => ?_), hF, cc + 1, gf_ob hP1.1 rfl, by rw [e1]; omega⟩
    · simp only [List.mem_cons, List.not_mem_nil, or_false, not_or]
      exact ⟨h3, h4 6 (by decide) (by decide)⟩
    · obtain ⟨w1, w2, w3⟩ := hT.2.2 k hk h4
      exact ⟨w1, w2, by rw [e1]; show (ff 3 k).toInt + (ff 4 k).toInt ≤ _; omega⟩
    · show ch16 (upd (ff 6) cc.toNatClampNeg _ i)
      by_cases ei : i = cc.toNatClampNeg
      · subst ei
        rw [upd_at]
        exact ch16_nar _
      · rw [upd_ne ei]
        exact hc i

