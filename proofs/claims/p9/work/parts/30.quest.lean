/-! the bytes of a file, the pool: what their short questions answer (laid by wip/p2/c30.py) -/
def BY (M : mi_H) (b da n : Nat) (f : Nat → Int32) : Prop := M.1 b = some (ob 1 [.ref da]) ∧ M.1 da = some (ar .byte n f) ∧ n < 1073741824
def PL (M : mi_H) (p : Nat) (size : Int32) (n m : Nat) (q : Nat → Nat) (f : Nat → Nat → Int32) (cc : Int32) : Prop :=
  M.1 p = some (ob 7 [.int size, .ref (q 1), .ref (q 2), .ref (q 3), .ref (q 4), .ref (q 5), .ref (q 6), .int cc]) ∧ (∀ i, 1 ≤ i → i ≤ 5 → M.1 (q i) = some (ar .int n (f i))) ∧ M.1 (q 6) = some (ar .char m (f 6))
theorem okc_v {pc na ci b : Nat} {lv : List (Nat × Value)} {st As : List Value} {M : mi_H} {l : List Value} (h1 : (st.take na).reverse = .ref b :: As) (h2 : decide (na ≤ st.length) = true) (h3 : decide (((st.drop na).map fun v => v.category).sum ≤ 8) = true) (h : M.1 b = some (ob ci l)) : mi_okc (some ci) na (pc, lv, st, M) = true := by
  unfold mi_okc
  dsimp only
  rw [h2, h3, h1]
  simp only [h, ob]
  simp
theorem nI_val {n : Nat} (h : n < 1073741824) : (nI n).toInt = n := by
  show (Int32.ofNat n).toInt = n
  exact Int32.toInt_ofNat_of_lt (by omega)
theorem vin_iff {a : Int32} {n : Nat} (h0 : 0 ≤ a.toInt) (h : a.toInt < n) : vp_in a n := by
  rintro (h3 | h3)
  · have h4 := Int32.lt_iff_toInt_lt.mp h3
    have : (0 : Int32).toInt = 0 := rfl
    omega
  · have h4 : a.toNatClampNeg = a.toInt.toNat := rfl
    rw [h4] at h3
    omega
theorem nneg {a : Int32} (h : ¬ a < 0) : 0 ≤ a.toInt := by
  have := Int32.le_iff_toInt_le.mp (Int32.not_lt.mp h)
  have h0 : (0 : Int32).toInt = 0 := rfl
  omega
theorem lt_sub {a k j : Int32} {n : Nat} (hn : n < 1073741824) (h0 : ¬ a < 0) (h : a < nI n - k) (h1 : 0 ≤ j.toInt) (h2 : j.toInt ≤ k.toInt) (h3 : k.toInt < 1073741824) : vp_in (a + j) n := by
  have e1 := nI_val hn
  have g1 := Int32.lt_iff_toInt_lt.mp h
  rw [Int32.toInt_sub, e1] at g1
  have e4 : Int.bmod ((n : Int) - k.toInt) (2 ^ 32) = n - k.toInt := by
    apply Int.bmod_eq_of_le <;> omega
  rw [e4] at g1
  have g2 := nneg h0
  have e5 : (a + j).toInt = a.toInt + j.toInt := by
    rw [Int32.toInt_add]
    apply Int.bmod_eq_of_le <;> omega
  exact vin_iff (by rw [e5]; omega) (by rw [e5]; omega)
theorem lt_sub0 {a k : Int32} {n : Nat} (hn : n < 1073741824) (h0 : ¬ a < 0) (h : a < nI n - k) (h2 : 0 ≤ k.toInt) (h3 : k.toInt < 1073741824) : vp_in a n := by
  have h4 := lt_sub (j := 0) hn h0 h (by decide) h2 h3
  rwa [Int32.add_zero] at h4
theorem vin_ge {a : Int32} {n : Nat} (h0 : ¬ a < 0) (h : ¬ nI n ≤ a) : vp_in a n := vin_of h0 (Int32.not_le.mp h)

def sp_size (n : Nat) (f : Nat → Int32)  : Int32 := (nI n)
set_option maxHeartbeats 1000000 in
theorem ct_size {g : xe_G} {M : mi_H} {b da n : Nat} {f : Nat → Int32} (hB : BY M b da n f) {d : Nat} (hd : 1 ≤ d) : mt (mT g) d 47 [.ref b] M (fun v M' => v = some (.int (sp_size n f )) ∧ M' = M) := by
  obtain ⟨d, rfl⟩ : ∃ e, d = e + 1 := ⟨d - 1, by omega⟩
  refine mt_in (b := mb_47 g) rfl rfl ?_
  show ml (mT g) d (mb_47 g).2 (0, [(0, .ref b)], [], M) _
  refine ml_st (S' := (1, [(0, .ref b)], [.ref b], M)) rfl rfl rfl ?_
  refine mo_get (S' := (4, [(0, .ref b)], [.ref da], M)) rfl hB.1 rfl rfl ?_
  refine mo_alen (S' := (5, [(0, .ref b)], [.int (nI n)], M)) rfl hB.2.1 rfl ?_
  exact ml_ret rfl (rfl) (⟨by rw [sp_size], rfl⟩)
def sp_u1 (n : Nat) (f : Nat → Int32) (x1 : Int32) : Int32 := if x1 < 0 then (0) else (if x1 < (nI n) then (((f (Int32.toNatClampNeg x1)) &&& 255)) else (0))
set_option maxHeartbeats 1000000 in
theorem ct_u1 {g : xe_G} {M : mi_H} {b da n : Nat} {f : Nat → Int32} {x1 : Int32} (hB : BY M b da n f) {d : Nat} (hd : 1 ≤ d) : mt (mT g) d 48 [.ref b, .int x1] M (fun v M' => v = some (.int (sp_u1 n f x1)) ∧ M' = M) := by
  obtain ⟨d, rfl⟩ : ∃ e, d = e + 1 := ⟨d - 1, by omega⟩
  refine mt_in (b := mb_48 g) rfl rfl ?_
  show ml (mT g) d (mb_48 g).2 (0, [(0, .ref b), (1, .int x1)], [], M) _
  refine ml_st (S' := (1, [(0, .ref b), (1, .int x1)], [.int x1], M)) rfl rfl rfl ?_
  refine ml_if (S1 := (13, [], [], M)) (S2 := (4, [(0, .ref b), (1, .int x1)], [], M)) rfl rfl rfl (fun c_1 => ?_) (fun c_1 => ?_)
  · have c_1 : x1 < 0 := of_decide_eq_true c_1
    refine ml_st (S' := (14, [], [.int 0], M)) rfl rfl rfl ?_
    refine ml_st (S' := (27, [], [.int 0], M)) rfl rfl rfl ?_
    exact ml_ret rfl (rfl) (⟨by rw [sp_u1, if_pos c_1], rfl⟩)
  · have c_1 : ¬ (x1 < 0) := of_decide_eq_false c_1
    refine ml_st (S' := (5, [(0, .ref b), (1, .int x1)], [.int x1], M)) rfl rfl rfl ?_
    refine ml_st (S' := (6, [(0, .ref b), (1, .int x1)], [.ref b, .int x1], M)) rfl rfl rfl ?_
    refine mo_get (S' := (9, [(0, .ref b), (1, .int x1)], [.ref da, .int x1], M)) rfl hB.1 rfl rfl ?_
    refine mo_alen (S' := (10, [(0, .ref b), (1, .int x1)], [.int (nI n), .int x1], M)) rfl hB.2.1 rfl ?_
    refine ml_if2 (S1 := (17, [(0, .ref b), (1, .int x1)], [], M)) (S2 := (13, [], [], M)) rfl rfl rfl (fun c_10 => ?_) (fun c_10 => ?_)
    · have c_10 : x1 < (nI n) := of_decide_eq_true c_10
      refine ml_st (S' := (18, [(0, .ref b), (1, .int x1)], [.ref b], M)) rfl rfl rfl ?_
      refine mo_get (S' := (21, [(0, .ref b), (1, .int x1)], [.ref da], M)) rfl hB.1 rfl rfl ?_
      refine ml_st (S' := (22, [(0, .ref b), (1, .int x1)], [.int x1, .ref da], M)) rfl rfl rfl ?_
      refine mo_ald (S' := (23, [(0, .ref b), (1, .int x1)], [.int (f (Int32.toNatClampNeg x1))], M)) rfl hB.2.1 (vin_of c_1 c_10) rfl ?_
      refine ml_st (S' := (26, [(0, .ref b), (1, .int x1)], [.int 255, .int (f (Int32.toNatClampNeg x1))], M)) rfl rfl rfl ?_
      refine ml_st (S' := (27, [], [.int ((f (Int32.toNatClampNeg x1)) &&& 255)], M)) rfl rfl rfl ?_
      exact ml_ret rfl (rfl) (⟨by rw [sp_u1, if_neg c_1, if_pos c_10], rfl⟩)
    · have c_10 : ¬ (x1 < (nI n)) := of_decide_eq_false c_10
      refine ml_st (S' := (14, [], [.int 0], M)) rfl rfl rfl ?_
      refine ml_st (S' := (27, [], [.int 0], M)) rfl rfl rfl ?_
      exact ml_ret rfl (rfl) (⟨by rw [sp_u1, if_neg c_1, if_neg c_10], rfl⟩)
def sp_u2 (n : Nat) (f : Nat → Int32) (x1 : Int32) : Int32 := if x1 < 0 then (0) else (if x1 < ((nI n) - 1) then (((((f (Int32.toNatClampNeg x1)) &&& 255) <<< (8 &&& 31)) ||| ((f (Int32.toNatClampNeg (x1 + 1))) &&& 255))) else (0))
set_option maxHeartbeats 1000000 in
theorem ct_u2 {g : xe_G} {M : mi_H} {b da n : Nat} {f : Nat → Int32} {x1 : Int32} (hB : BY M b da n f) {d : Nat} (hd : 1 ≤ d) : mt (mT g) d 49 [.ref b, .int x1] M (fun v M' => v = some (.int (sp_u2 n f x1)) ∧ M' = M) := by
  obtain ⟨d, rfl⟩ : ∃ e, d = e + 1 := ⟨d - 1, by omega⟩
  refine mt_in (b := mb_49 g) rfl rfl ?_
  show ml (mT g) d (mb_49 g).2 (0, [(0, .ref b), (1, .int x1)], [], M) _
  refine ml_st (S' := (1, [(0, .ref b), (1, .int x1)], [.int x1], M)) rfl rfl rfl ?_
  refine ml_if (S1 := (15, [], [], M)) (S2 := (4, [(0, .ref b), (1, .int x1)], [], M)) rfl rfl rfl (fun c_1 => ?_) (fun c_1 => ?_)
  · have c_1 : x1 < 0 := of_decide_eq_true c_1
    refine ml_st (S' := (16, [], [.int 0], M)) rfl rfl rfl ?_
    exact ml_ret rfl (rfl) (⟨by rw [sp_u2, if_pos c_1], rfl⟩)
  · have c_1 : ¬ (x1 < 0) := of_decide_eq_false c_1
    refine ml_st (S' := (5, [(0, .ref b), (1, .int x1)], [.int x1], M)) rfl rfl rfl ?_
    refine ml_st (S' := (6, [(0, .ref b), (1, .int x1)], [.ref b, .int x1], M)) rfl rfl rfl ?_
    refine mo_get (S' := (9, [(0, .ref b), (1, .int x1)], [.ref da, .int x1], M)) rfl hB.1 rfl rfl ?_
    refine mo_alen (S' := (10, [(0, .ref b), (1, .int x1)], [.int (nI n), .int x1], M)) rfl hB.2.1 rfl ?_
    refine ml_st (S' := (11, [(0, .ref b), (1, .int x1)], [.int 1, .int (nI n), .int x1], M)) rfl rfl rfl ?_
    refine ml_st (S' := (12, [(0, .ref b), (1, .int x1)], [.int ((nI n) - 1), .int x1], M)) rfl rfl rfl ?_
    refine ml_if2 (S1 := (17, [(0, .ref b), (1, .int x1)], [], M)) (S2 := (15, [], [], M)) rfl rfl rfl (fun c_12 => ?_) (fun c_12 => ?_)
    · have c_12 : x1 < ((nI n) - 1) := of_decide_eq_true c_12
      refine ml_st (S' := (18, [(0, .ref b), (1, .int x1)], [.ref b], M)) rfl rfl rfl ?_
      refine mo_get (S' := (21, [(0, .ref b), (1, .int x1)], [.ref da], M)) rfl hB.1 rfl rfl ?_
      refine ml_st (S' := (22, [(0, .ref b), (1, .int x1)], [.int x1, .ref da], M)) rfl rfl rfl ?_
      refine mo_ald (S' := (23, [(0, .ref b), (1, .int x1)], [.int (f (Int32.toNatClampNeg x1))], M)) rfl hB.2.1 (lt_sub0 hB.2.2 c_1 c_12 (by decide) (by decide)) rfl ?_
      refine ml_st (S' := (26, [(0, .ref b), (1, .int x1)], [.int 255, .int (f (Int32.toNatClampNeg x1))], M)) rfl rfl rfl ?_
      refine ml_st (S' := (27, [(0, .ref b), (1, .int x1)], [.int ((f (Int32.toNatClampNeg x1)) &&& 255)], M)) rfl rfl rfl ?_
      refine ml_st (S' := (29, [(0, .ref b), (1, .int x1)], [.int 8, .int ((f (Int32.toNatClampNeg x1)) &&& 255)], M)) rfl rfl rfl ?_
      refine ml_st (S' := (30, [(0, .ref b), (1, .int x1)], [.int (((f (Int32.toNatClampNeg x1)) &&& 255) <<< (8 &&& 31))], M)) rfl rfl rfl ?_
      refine ml_st (S' := (31, [(0, .ref b), (1, .int x1)], [.ref b, .int (((f (Int32.toNatClampNeg x1)) &&& 255) <<< (8 &&& 31))], M)) rfl rfl rfl ?_
      refine mo_get (S' := (34, [(0, .ref b), (1, .int x1)], [.ref da, .int (((f (Int32.toNatClampNeg x1)) &&& 255) <<< (8 &&& 31))], M)) rfl hB.1 rfl rfl ?_
      refine ml_st (S' := (35, [(0, .ref b), (1, .int x1)], [.int x1, .ref da, .int (((f (Int32.toNatClampNeg x1)) &&& 255) <<< (8 &&& 31))], M)) rfl rfl rfl ?_
      refine ml_st (S' := (36, [(0, .ref b), (1, .int x1)], [.int 1, .int x1, .ref da, .int (((f (Int32.toNatClampNeg x1)) &&& 255) <<< (8 &&& 31))], M)) rfl rfl rfl ?_
      refine ml_st (S' := (37, [(0, .ref b), (1, .int x1)], [.int (x1 + 1), .ref da, .int (((f (Int32.toNatClampNeg x1)) &&& 255) <<< (8 &&& 31))], M)) rfl rfl rfl ?_
      refine mo_ald (S' := (38, [(0, .ref b), (1, .int x1)], [.int (f (Int32.toNatClampNeg (x1 + 1))), .int (((f (Int32.toNatClampNeg x1)) &&& 255) <<< (8 &&& 31))], M)) rfl hB.2.1 (lt_sub hB.2.2 c_1 c_12 (by decide) (by decide) (by decide)) rfl ?_
      refine ml_st (S' := (41, [(0, .ref b), (1, .int x1)], [.int 255, .int (f (Int32.toNatClampNeg (x1 + 1))), .int (((f (Int32.toNatClampNeg x1)) &&& 255) <<< (8 &&& 31))], M)) rfl rfl rfl ?_
      refine ml_st (S' := (42, [(0, .ref b), (1, .int x1)], [.int ((f (Int32.toNatClampNeg (x1 + 1))) &&& 255), .int (((f (Int32.toNatClampNeg x1)) &&& 255) <<< (8 &&& 31))], M)) rfl rfl rfl ?_
      refine ml_st (S' := (43, [(0, .ref b), (1, .int x1)], [.int ((((f (Int32.toNatClampNeg x1)) &&& 255) <<< (8 &&& 31)) ||| ((f (Int32.toNatClampNeg (x1 + 1))) &&& 255))], M)) rfl rfl rfl ?_
      exact ml_ret rfl (rfl) (⟨by rw [sp_u2, if_neg c_1, if_pos c_12], rfl⟩)
    · have c_12 : ¬ (x1 < ((nI n) - 1)) := of_decide_eq_false c_12
      refine ml_st (S' := (16, [], [.int 0], M)) rfl rfl rfl ?_
      exact ml_ret rfl (rfl) (⟨by rw [sp_u2, if_neg c_1, if_neg c_12], rfl⟩)
def sp_u4 (n : Nat) (f : Nat → Int32) (x1 : Int32) : Int32 := if x1 < 0 then (0) else (if x1 < ((nI n) - 3) then ((((((f (Int32.toNatClampNeg x1)) <<< (24 &&& 31)) ||| (((f (Int32.toNatClampNeg (x1 + 1))) &&& 255) <<< (16 &&& 31))) ||| (((f (Int32.toNatClampNeg (x1 + 2))) &&& 255) <<< (8 &&& 31))) ||| ((f (Int32.toNatClampNeg (x1 + 3))) &&& 255))) else (0))
set_option maxHeartbeats 1000000 in
theorem ct_u4 {g : xe_G} {M : mi_H} {b da n : Nat} {f : Nat → Int32} {x1 : Int32} (hB : BY M b da n f) {d : Nat} (hd : 1 ≤ d) : mt (mT g) d 50 [.ref b, .int x1] M (fun v M' => v = some (.int (sp_u4 n f x1)) ∧ M' = M) := by
  obtain ⟨d, rfl⟩ : ∃ e, d = e + 1 := ⟨d - 1, by omega⟩
  refine mt_in (b := mb_50 g) rfl rfl ?_
  show ml (mT g) d (mb_50 g).2 (0, [(0, .ref b), (1, .int x1)], [], M) _
  refine ml_st (S' := (1, [(0, .ref b), (1, .int x1)], [.int x1], M)) rfl rfl rfl ?_
  refine ml_if (S1 := (15, [], [], M)) (S2 := (4, [(0, .ref b), (1, .int x1)], [], M)) rfl rfl rfl (fun c_1 => ?_) (fun c_1 => ?_)
  · have c_1 : x1 < 0 := of_decide_eq_true c_1
    refine ml_st (S' := (16, [], [.int 0], M)) rfl rfl rfl ?_
    exact ml_ret rfl (rfl) (⟨by rw [sp_u4, if_pos c_1], rfl⟩)
  · have c_1 : ¬ (x1 < 0) := of_decide_eq_false c_1
    refine ml_st (S' := (5, [(0, .ref b), (1, .int x1)], [.int x1], M)) rfl rfl rfl ?_
    refine ml_st (S' := (6, [(0, .ref b), (1, .int x1)], [.ref b, .int x1], M)) rfl rfl rfl ?_
    refine mo_get (S' := (9, [(0, .ref b), (1, .int x1)], [.ref da, .int x1], M)) rfl hB.1 rfl rfl ?_
    refine mo_alen (S' := (10, [(0, .ref b), (1, .int x1)], [.int (nI n), .int x1], M)) rfl hB.2.1 rfl ?_
    refine ml_st (S' := (11, [(0, .ref b), (1, .int x1)], [.int 3, .int (nI n), .int x1], M)) rfl rfl rfl ?_
    refine ml_st (S' := (12, [(0, .ref b), (1, .int x1)], [.int ((nI n) - 3), .int x1], M)) rfl rfl rfl ?_
    refine ml_if2 (S1 := (17, [(0, .ref b), (1, .int x1)], [], M)) (S2 := (15, [], [], M)) rfl rfl rfl (fun c_12 => ?_) (fun c_12 => ?_)
    · have c_12 : x1 < ((nI n) - 3) := of_decide_eq_true c_12
      refine ml_st (S' := (18, [(0, .ref b), (1, .int x1)], [.ref b], M)) rfl rfl rfl ?_
      refine mo_get (S' := (21, [(0, .ref b), (1, .int x1)], [.ref da], M)) rfl hB.1 rfl rfl ?_
      refine ml_st (S' := (22, [(0, .ref b), (1, .int x1)], [.int x1, .ref da], M)) rfl rfl rfl ?_
      refine mo_ald (S' := (23, [(0, .ref b), (1, .int x1)], [.int (f (Int32.toNatClampNeg x1))], M)) rfl hB.2.1 (lt_sub0 hB.2.2 c_1 c_12 (by decide) (by decide)) rfl ?_
      refine ml_st (S' := (25, [(0, .ref b), (1, .int x1)], [.int 24, .int (f (Int32.toNatClampNeg x1))], M)) rfl rfl rfl ?_
      refine ml_st (S' := (26, [(0, .ref b), (1, .int x1)], [.int ((f (Int32.toNatClampNeg x1)) <<< (24 &&& 31))], M)) rfl rfl rfl ?_
      refine ml_st (S' := (27, [(0, .ref b), (1, .int x1)], [.ref b, .int ((f (Int32.toNatClampNeg x1)) <<< (24 &&& 31))], M)) rfl rfl rfl ?_
      refine mo_get (S' := (30, [(0, .ref b), (1, .int x1)], [.ref da, .int ((f (Int32.toNatClampNeg x1)) <<< (24 &&& 31))], M)) rfl hB.1 rfl rfl ?_
      refine ml_st (S' := (31, [(0, .ref b), (1, .int x1)], [.int x1, .ref da, .int ((f (Int32.toNatClampNeg x1)) <<< (24 &&& 31))], M)) rfl rfl rfl ?_
      refine ml_st (S' := (32, [(0, .ref b), (1, .int x1)], [.int 1, .int x1, .ref da, .int ((f (Int32.toNatClampNeg x1)) <<< (24 &&& 31))], M)) rfl rfl rfl ?_
      refine ml_st (S' := (33, [(0, .ref b), (1, .int x1)], [.int (x1 + 1), .ref da, .int ((f (Int32.toNatClampNeg x1)) <<< (24 &&& 31))], M)) rfl rfl rfl ?_
      refine mo_ald (S' := (34, [(0, .ref b), (1, .int x1)], [.int (f (Int32.toNatClampNeg (x1 + 1))), .int ((f (Int32.toNatClampNeg x1)) <<< (24 &&& 31))], M)) rfl hB.2.1 (lt_sub hB.2.2 c_1 c_12 (by decide) (by decide) (by decide)) rfl ?_
      refine ml_st (S' := (37, [(0, .ref b), (1, .int x1)], [.int 255, .int (f (Int32.toNatClampNeg (x1 + 1))), .int ((f (Int32.toNatClampNeg x1)) <<< (24 &&& 31))], M)) rfl rfl rfl ?_
      refine ml_st (S' := (38, [(0, .ref b), (1, .int x1)], [.int ((f (Int32.toNatClampNeg (x1 + 1))) &&& 255), .int ((f (Int32.toNatClampNeg x1)) <<< (24 &&& 31))], M)) rfl rfl rfl ?_
      refine ml_st (S' := (40, [(0, .ref b), (1, .int x1)], [.int 16, .int ((f (Int32.toNatClampNeg (x1 + 1))) &&& 255), .int ((f (Int32.toNatClampNeg x1)) <<< (24 &&& 31))], M)) rfl rfl rfl ?_
      refine ml_st (S' := (41, [(0, .ref b), (1, .int x1)], [.int (((f (Int32.toNatClampNeg (x1 + 1))) &&& 255) <<< (16 &&& 31)), .int ((f (Int32.toNatClampNeg x1)) <<< (24 &&& 31))], M)) rfl rfl rfl ?_
      refine ml_st (S' := (42, [(0, .ref b), (1, .int x1)], [.int (((f (Int32.toNatClampNeg x1)) <<< (24 &&& 31)) ||| (((f (Int32.toNatClampNeg (x1 + 1))) &&& 255) <<< (16 &&& 31)))], M)) rfl rfl rfl ?_
      refine ml_st (S' := (43, [(0, .ref b), (1, .int x1)], [.ref b, .int (((f (Int32.toNatClampNeg x1)) <<< (24 &&& 31)) ||| (((f (Int32.toNatClampNeg (x1 + 1))) &&& 255) <<< (16 &&& 31)))], M)) rfl rfl rfl ?_
      refine mo_get (S' := (46, [(0, .ref b), (1, .int x1)], [.ref da, .int (((f (Int32.toNatClampNeg x1)) <<< (24 &&& 31)) ||| (((f (Int32.toNatClampNeg (x1 + 1))) &&& 255) <<< (16 &&& 31)))], M)) rfl hB.1 rfl rfl ?_
      refine ml_st (S' := (47, [(0, .ref b), (1, .int x1)], [.int x1, .ref da, .int (((f (Int32.toNatClampNeg x1)) <<< (24 &&& 31)) ||| (((f (Int32.toNatClampNeg (x1 + 1))) &&& 255) <<< (16 &&& 31)))], M)) rfl rfl rfl ?_
      refine ml_st (S' := (48, [(0, .ref b), (1, .int x1)], [.int 2, .int x1, .ref da, .int (((f (Int32.toNatClampNeg x1)) <<< (24 &&& 31)) ||| (((f (Int32.toNatClampNeg (x1 + 1))) &&& 255) <<< (16 &&& 31)))], M)) rfl rfl rfl ?_
      refine ml_st (S' := (49, [(0, .ref b), (1, .int x1)], [.int (x1 + 2), .ref da, .int (((f (Int32.toNatClampNeg x1)) <<< (24 &&& 31)) ||| (((f (Int32.toNatClampNeg (x1 + 1))) &&& 255) <<< (16 &&& 31)))], M)) rfl rfl rfl ?_
      refine mo_ald (S' := (50, [(0, .ref b), (1, .int x1)], [.int (f (Int32.toNatClampNeg (x1 + 2))), .int (((f (Int32.toNatClampNeg x1)) <<< (24 &&& 31)) ||| (((f (Int32.toNatClampNeg (x1 + 1))) &&& 255) <<< (16 &&& 31)))], M)) rfl hB.2.1 (lt_sub hB.2.2 c_1 c_12 (by decide) (by decide) (by decide)) rfl ?_
      refine ml_st (S' := (53, [(0, .ref b), (1, .int x1)], [.int 255, .int (f (Int32.toNatClampNeg (x1 + 2))), .int (((f (Int32.toNatClampNeg x1)) <<< (24 &&& 31)) ||| (((f (Int32.toNatClampNeg (x1 + 1))) &&& 255) <<< (16 &&& 31)))], M)) rfl rfl rfl ?_
      refine ml_st (S' := (54, [(0, .ref b), (1, .int x1)], [.int ((f (Int32.toNatClampNeg (x1 + 2))) &&& 255), .int (((f (Int32.toNatClampNeg x1)) <<< (24 &&& 31)) ||| (((f (Int32.toNatClampNeg (x1 + 1))) &&& 255) <<< (16 &&& 31)))], M)) rfl rfl rfl ?_
      refine ml_st (S' := (56, [(0, .ref b), (1, .int x1)], [.int 8, .int ((f (Int32.toNatClampNeg (x1 + 2))) &&& 255), .int (((f (Int32.toNatClampNeg x1)) <<< (24 &&& 31)) ||| (((f (Int32.toNatClampNeg (x1 + 1))) &&& 255) <<< (16 &&& 31)))], M)) rfl rfl rfl ?_
      refine ml_st (S' := (57, [(0, .ref b), (1, .int x1)], [.int (((f (Int32.toNatClampNeg (x1 + 2))) &&& 255) <<< (8 &&& 31)), .int (((f (Int32.toNatClampNeg x1)) <<< (24 &&& 31)) ||| (((f (Int32.toNatClampNeg (x1 + 1))) &&& 255) <<< (16 &&& 31)))], M)) rfl rfl rfl ?_
      refine ml_st (S' := (58, [(0, .ref b), (1, .int x1)], [.int ((((f (Int32.toNatClampNeg x1)) <<< (24 &&& 31)) ||| (((f (Int32.toNatClampNeg (x1 + 1))) &&& 255) <<< (16 &&& 31))) ||| (((f (Int32.toNatClampNeg (x1 + 2))) &&& 255) <<< (8 &&& 31)))], M)) rfl rfl rfl ?_
      refine ml_st (S' := (59, [(0, .ref b), (1, .int x1)], [.ref b, .int ((((f (Int32.toNatClampNeg x1)) <<< (24 &&& 31)) ||| (((f (Int32.toNatClampNeg (x1 + 1))) &&& 255) <<< (16 &&& 31))) ||| (((f (Int32.toNatClampNeg (x1 + 2))) &&& 255) <<< (8 &&& 31)))], M)) rfl rfl rfl ?_
      refine mo_get (S' := (62, [(0, .ref b), (1, .int x1)], [.ref da, .int ((((f (Int32.toNatClampNeg x1)) <<< (24 &&& 31)) ||| (((f (Int32.toNatClampNeg (x1 + 1))) &&& 255) <<< (16 &&& 31))) ||| (((f (Int32.toNatClampNeg (x1 + 2))) &&& 255) <<< (8 &&& 31)))], M)) rfl hB.1 rfl rfl ?_
      refine ml_st (S' := (63, [(0, .ref b), (1, .int x1)], [.int x1, .ref da, .int ((((f (Int32.toNatClampNeg x1)) <<< (24 &&& 31)) ||| (((f (Int32.toNatClampNeg (x1 + 1))) &&& 255) <<< (16 &&& 31))) ||| (((f (Int32.toNatClampNeg (x1 + 2))) &&& 255) <<< (8 &&& 31)))], M)) rfl rfl rfl ?_
      refine ml_st (S' := (64, [(0, .ref b), (1, .int x1)], [.int 3, .int x1, .ref da, .int ((((f (Int32.toNatClampNeg x1)) <<< (24 &&& 31)) ||| (((f (Int32.toNatClampNeg (x1 + 1))) &&& 255) <<< (16 &&& 31))) ||| (((f (Int32.toNatClampNeg (x1 + 2))) &&& 255) <<< (8 &&& 31)))], M)) rfl rfl rfl ?_
      refine ml_st (S' := (65, [(0, .ref b), (1, .int x1)], [.int (x1 + 3), .ref da, .int ((((f (Int32.toNatClampNeg x1)) <<< (24 &&& 31)) ||| (((f (Int32.toNatClampNeg (x1 + 1))) &&& 255) <<< (16 &&& 31))) ||| (((f (Int32.toNatClampNeg (x1 + 2))) &&& 255) <<< (8 &&& 31)))], M)) rfl rfl rfl ?_
      refine mo_ald (S' := (66, [(0, .ref b), (1, .int x1)], [.int (f (Int32.toNatClampNeg (x1 + 3))), .int ((((f (Int32.toNatClampNeg x1)) <<< (24 &&& 31)) ||| (((f (Int32.toNatClampNeg (x1 + 1))) &&& 255) <<< (16 &&& 31))) ||| (((f (Int32.toNatClampNeg (x1 + 2))) &&& 255) <<< (8 &&& 31)))], M)) rfl hB.2.1 (lt_sub hB.2.2 c_1 c_12 (by decide) (by decide) (by decide)) rfl ?_
      refine ml_st (S' := (69, [(0, .ref b), (1, .int x1)], [.int 255, .int (f (Int32.toNatClampNeg (x1 + 3))), .int ((((f (Int32.toNatClampNeg x1)) <<< (24 &&& 31)) ||| (((f (Int32.toNatClampNeg (x1 + 1))) &&& 255) <<< (16 &&& 31))) ||| (((f (Int32.toNatClampNeg (x1 + 2))) &&& 255) <<< (8 &&& 31)))], M)) rfl rfl rfl ?_
      refine ml_st (S' := (70, [(0, .ref b), (1, .int x1)], [.int ((f (Int32.toNatClampNeg (x1 + 3))) &&& 255), .int ((((f (Int32.toNatClampNeg x1)) <<< (24 &&& 31)) ||| (((f (Int32.toNatClampNeg (x1 + 1))) &&& 255) <<< (16 &&& 31))) ||| (((f (Int32.toNatClampNeg (x1 + 2))) &&& 255) <<< (8 &&& 31)))], M)) rfl rfl rfl ?_
      refine ml_st (S' := (71, [(0, .ref b), (1, .int x1)], [.int (((((f (Int32.toNatClampNeg x1)) <<< (24 &&& 31)) ||| (((f (Int32.toNatClampNeg (x1 + 1))) &&& 255) <<< (16 &&& 31))) ||| (((f (Int32.toNatClampNeg (x1 + 2))) &&& 255) <<< (8 &&& 31))) ||| ((f (Int32.toNatClampNeg (x1 + 3))) &&& 255))], M)) rfl rfl rfl ?_
      exact ml_ret rfl (rfl) (⟨by rw [sp_u4, if_neg c_1, if_pos c_12], rfl⟩)
    · have c_12 : ¬ (x1 < ((nI n) - 3)) := of_decide_eq_false c_12
      refine ml_st (S' := (16, [], [.int 0], M)) rfl rfl rfl ?_
      exact ml_ret rfl (rfl) (⟨by rw [sp_u4, if_neg c_1, if_neg c_12], rfl⟩)
def sp_goesOn (n : Nat) (f : Nat → Int32) (x1 : Int32) (x2 : Int32) : Int32 := if x1 < 0 then (0) else (if x2 ≤ x1 then (0) else (if (nI n) ≤ x1 then (0) else (if ¬ ((f (Int32.toNatClampNeg x1)) &&& 192) = 128 then (0) else (1))))
set_option maxHeartbeats 1000000 in
theorem ct_goesOn {g : xe_G} {M : mi_H} {b da n : Nat} {f : Nat → Int32} {x1 x2 : Int32} (hB : BY M b da n f) {d : Nat} (hd : 1 ≤ d) : mt (mT g) d 46 [.ref b, .int x1, .int x2] M (fun v M' => v = some (.int (sp_goesOn n f x1 x2)) ∧ M' = M) := by
  obtain ⟨d, rfl⟩ : ∃ e, d = e + 1 := ⟨d - 1, by omega⟩
  refine mt_in (b := mb_46 g) rfl rfl ?_
  show ml (mT g) d (mb_46 g).2 (0, [(0, .ref b), (1, .int x1), (2, .int x2)], [], M) _
  refine ml_st (S' := (1, [(0, .ref b), (1, .int x1), (2, .int x2)], [.int x1], M)) rfl rfl rfl ?_
  refine ml_if (S1 := (38, [], [], M)) (S2 := (4, [(0, .ref b), (1, .int x1), (2, .int x2)], [], M)) rfl rfl rfl (fun c_1 => ?_) (fun c_1 => ?_)
  · have c_1 : x1 < 0 := of_decide_eq_true c_1
    refine ml_st (S' := (39, [], [.int 0], M)) rfl rfl rfl ?_
    exact ml_ret rfl (rfl) (⟨by rw [sp_goesOn, if_pos c_1], rfl⟩)
  · have c_1 : ¬ (x1 < 0) := of_decide_eq_false c_1
    refine ml_st (S' := (5, [(0, .ref b), (1, .int x1), (2, .int x2)], [.int x1], M)) rfl rfl rfl ?_
    refine ml_st (S' := (6, [(0, .ref b), (1, .int x1), (2, .int x2)], [.int x2, .int x1], M)) rfl rfl rfl ?_
    refine ml_if2 (S1 := (38, [], [], M)) (S2 := (9, [(0, .ref b), (1, .int x1), (2, .int x2)], [], M)) rfl rfl rfl (fun c_6 => ?_) (fun c_6 => ?_)
    · have c_6 : x2 ≤ x1 := of_decide_eq_true c_6
      refine ml_st (S' := (39, [], [.int 0], M)) rfl rfl rfl ?_
      exact ml_ret rfl (rfl) (⟨by rw [sp_goesOn, if_neg c_1, if_pos c_6], rfl⟩)
    · have c_6 : ¬ (x2 ≤ x1) := of_decide_eq_false c_6
      refine ml_st (S' := (10, [(0, .ref b), (1, .int x1), (2, .int x2)], [.int x1], M)) rfl rfl rfl ?_
      refine ml_st (S' := (11, [(0, .ref b), (1, .int x1), (2, .int x2)], [.ref b, .int x1], M)) rfl rfl rfl ?_
      refine mo_get (S' := (14, [(0, .ref b), (1, .int x1), (2, .int x2)], [.ref da, .int x1], M)) rfl hB.1 rfl rfl ?_
      refine mo_alen (S' := (15, [(0, .ref b), (1, .int x1), (2, .int x2)], [.int (nI n), .int x1], M)) rfl hB.2.1 rfl ?_
      refine ml_if2 (S1 := (38, [], [], M)) (S2 := (18, [(0, .ref b), (1, .int x1), (2, .int x2)], [], M)) rfl rfl rfl (fun c_15 => ?_) (fun c_15 => ?_)
      · have c_15 : (nI n) ≤ x1 := of_decide_eq_true c_15
        refine ml_st (S' := (39, [], [.int 0], M)) rfl rfl rfl ?_
        exact ml_ret rfl (rfl) (⟨by rw [sp_goesOn, if_neg c_1, if_neg c_6, if_pos c_15], rfl⟩)
      · have c_15 : ¬ ((nI n) ≤ x1) := of_decide_eq_false c_15
        refine ml_st (S' := (19, [(0, .ref b), (1, .int x1), (2, .int x2)], [.ref b], M)) rfl rfl rfl ?_
        refine mo_get (S' := (22, [(0, .ref b), (1, .int x1), (2, .int x2)], [.ref da], M)) rfl hB.1 rfl rfl ?_
        refine ml_st (S' := (23, [(0, .ref b), (1, .int x1), (2, .int x2)], [.int x1, .ref da], M)) rfl rfl rfl ?_
        refine mo_ald (S' := (24, [(0, .ref b), (1, .int x1), (2, .int x2)], [.int (f (Int32.toNatClampNeg x1))], M)) rfl hB.2.1 (vin_ge c_1 c_15) rfl ?_
        refine ml_st (S' := (27, [(0, .ref b), (1, .int x1), (2, .int x2)], [.int 192, .int (f (Int32.toNatClampNeg x1))], M)) rfl rfl rfl ?_
        refine ml_st (S' := (28, [(0, .ref b), (1, .int x1), (2, .int x2)], [.int ((f (Int32.toNatClampNeg x1)) &&& 192)], M)) rfl rfl rfl ?_
        refine ml_st (S' := (31, [(0, .ref b), (1, .int x1), (2, .int x2)], [.int 128, .int ((f (Int32.toNatClampNeg x1)) &&& 192)], M)) rfl rfl rfl ?_
        refine ml_if2 (S1 := (38, [], [], M)) (S2 := (34, [(0, .ref b), (1, .int x1), (2, .int x2)], [], M)) rfl rfl rfl (fun c_31 => ?_) (fun c_31 => ?_)
        · have c_31 : ¬ ((f (Int32.toNatClampNeg x1)) &&& 192) = 128 := of_decide_eq_true c_31
          refine ml_st (S' := (39, [], [.int 0], M)) rfl rfl rfl ?_
          exact ml_ret rfl (rfl) (⟨by rw [sp_goesOn, if_neg c_1, if_neg c_6, if_neg c_15, if_pos c_31], rfl⟩)
        · have c_31 : ¬ (¬ ((f (Int32.toNatClampNeg x1)) &&& 192) = 128) := of_decide_eq_false c_31
          refine ml_st (S' := (35, [(0, .ref b), (1, .int x1), (2, .int x2)], [.int 1], M)) rfl rfl rfl ?_
          refine ml_st (S' := (39, [], [.int 1], M)) rfl rfl rfl ?_
          exact ml_ret rfl (rfl) (⟨by rw [sp_goesOn, if_neg c_1, if_neg c_6, if_neg c_15, if_neg c_31], rfl⟩)
def sp_tagOf (n m : Nat) (f : Nat → Nat → Int32) (x1 : Int32) : Int32 := if x1 < 0 then (0) else (if x1 < (nI n) then (((f 1) (Int32.toNatClampNeg x1))) else (0))
set_option maxHeartbeats 1000000 in
theorem ct_tagOf {g : xe_G} {M : mi_H} {p : Nat} {size : Int32} {n m : Nat} {q : Nat → Nat} {f : Nat → Nat → Int32} {cc : Int32} {x1 : Int32} (hP : PL M p size n m q f cc) {d : Nat} (hd : 1 ≤ d) : mt (mT g) d 138 [.ref p, .int x1] M (fun v M' => v = some (.int (sp_tagOf n m f x1)) ∧ M' = M) := by
  obtain ⟨d, rfl⟩ : ∃ e, d = e + 1 := ⟨d - 1, by omega⟩
  refine mt_in (b := mb_138 g) rfl rfl ?_
  show ml (mT g) d (mb_138 g).2 (0, [(0, .ref p), (1, .int x1)], [], M) _
  refine ml_st (S' := (1, [(0, .ref p), (1, .int x1)], [.int x1], M)) rfl rfl rfl ?_
  refine ml_if (S1 := (13, [], [], M)) (S2 := (4, [(0, .ref p), (1, .int x1)], [], M)) rfl rfl rfl (fun c_1 => ?_) (fun c_1 => ?_)
  · have c_1 : x1 < 0 := of_decide_eq_true c_1
    refine ml_st (S' := (14, [], [.int 0], M)) rfl rfl rfl ?_
    refine ml_st (S' := (23, [], [.int 0], M)) rfl rfl rfl ?_
    exact ml_ret rfl (rfl) (⟨by rw [sp_tagOf, if_pos c_1], rfl⟩)
  · have c_1 : ¬ (x1 < 0) := of_decide_eq_false c_1
    refine ml_st (S' := (5, [(0, .ref p), (1, .int x1)], [.int x1], M)) rfl rfl rfl ?_
    refine ml_st (S' := (6, [(0, .ref p), (1, .int x1)], [.ref p, .int x1], M)) rfl rfl rfl ?_
    refine mo_get (S' := (9, [(0, .ref p), (1, .int x1)], [.ref (q 1), .int x1], M)) rfl hP.1 rfl rfl ?_
    refine mo_alen (S' := (10, [(0, .ref p), (1, .int x1)], [.int (nI n), .int x1], M)) rfl (hP.2.1 1 (by decide) (by decide)) rfl ?_
    refine ml_if2 (S1 := (17, [(0, .ref p), (1, .int x1)], [], M)) (S2 := (13, [], [], M)) rfl rfl rfl (fun c_10 => ?_) (fun c_10 => ?_)
    · have c_10 : x1 < (nI n) := of_decide_eq_true c_10
      refine ml_st (S' := (18, [(0, .ref p), (1, .int x1)], [.ref p], M)) rfl rfl rfl ?_
      refine mo_get (S' := (21, [(0, .ref p), (1, .int x1)], [.ref (q 1)], M)) rfl hP.1 rfl rfl ?_
      refine ml_st (S' := (22, [(0, .ref p), (1, .int x1)], [.int x1, .ref (q 1)], M)) rfl rfl rfl ?_
      refine mo_ald (S' := (23, [], [.int ((f 1) (Int32.toNatClampNeg x1))], M)) rfl (hP.2.1 1 (by decide) (by decide)) (vin_of c_1 c_10) rfl ?_
      exact ml_ret rfl (rfl) (⟨by rw [sp_tagOf, if_neg c_1, if_pos c_10], rfl⟩)
    · have c_10 : ¬ (x1 < (nI n)) := of_decide_eq_false c_10
      refine ml_st (S' := (14, [], [.int 0], M)) rfl rfl rfl ?_
      refine ml_st (S' := (23, [], [.int 0], M)) rfl rfl rfl ?_
      exact ml_ret rfl (rfl) (⟨by rw [sp_tagOf, if_neg c_1, if_neg c_10], rfl⟩)
def sp_tagPlace (n m : Nat) (f : Nat → Nat → Int32) (x1 : Int32) : Int32 := if x1 < 0 then (0) else (if x1 < (nI n) then (((f 2) (Int32.toNatClampNeg x1))) else (0))
set_option maxHeartbeats 1000000 in
theorem ct_tagPlace {g : xe_G} {M : mi_H} {p : Nat} {size : Int32} {n m : Nat} {q : Nat → Nat} {f : Nat → Nat → Int32} {cc : Int32} {x1 : Int32} (hP : PL M p size n m q f cc) {d : Nat} (hd : 1 ≤ d) : mt (mT g) d 139 [.ref p, .int x1] M (fun v M' => v = some (.int (sp_tagPlace n m f x1)) ∧ M' = M) := by
  obtain ⟨d, rfl⟩ : ∃ e, d = e + 1 := ⟨d - 1, by omega⟩
  refine mt_in (b := mb_139 g) rfl rfl ?_
  show ml (mT g) d (mb_139 g).2 (0, [(0, .ref p), (1, .int x1)], [], M) _
  refine ml_st (S' := (1, [(0, .ref p), (1, .int x1)], [.int x1], M)) rfl rfl rfl ?_
  refine ml_if (S1 := (13, [], [], M)) (S2 := (4, [(0, .ref p), (1, .int x1)], [], M)) rfl rfl rfl (fun c_1 => ?_) (fun c_1 => ?_)
  · have c_1 : x1 < 0 := of_decide_eq_true c_1
    refine ml_st (S' := (14, [], [.int 0], M)) rfl rfl rfl ?_
    refine ml_st (S' := (23, [], [.int 0], M)) rfl rfl rfl ?_
    exact ml_ret rfl (rfl) (⟨by rw [sp_tagPlace, if_pos c_1], rfl⟩)
  · have c_1 : ¬ (x1 < 0) := of_decide_eq_false c_1
    refine ml_st (S' := (5, [(0, .ref p), (1, .int x1)], [.int x1], M)) rfl rfl rfl ?_
    refine ml_st (S' := (6, [(0, .ref p), (1, .int x1)], [.ref p, .int x1], M)) rfl rfl rfl ?_
    refine mo_get (S' := (9, [(0, .ref p), (1, .int x1)], [.ref (q 1), .int x1], M)) rfl hP.1 rfl rfl ?_
    refine mo_alen (S' := (10, [(0, .ref p), (1, .int x1)], [.int (nI n), .int x1], M)) rfl (hP.2.1 1 (by decide) (by decide)) rfl ?_
    refine ml_if2 (S1 := (17, [(0, .ref p), (1, .int x1)], [], M)) (S2 := (13, [], [], M)) rfl rfl rfl (fun c_10 => ?_) (fun c_10 => ?_)
    · have c_10 : x1 < (nI n) := of_decide_eq_true c_10
      refine ml_st (S' := (18, [(0, .ref p), (1, .int x1)], [.ref p], M)) rfl rfl rfl ?_
      refine mo_get (S' := (21, [(0, .ref p), (1, .int x1)], [.ref (q 2)], M)) rfl hP.1 rfl rfl ?_
      refine ml_st (S' := (22, [(0, .ref p), (1, .int x1)], [.int x1, .ref (q 2)], M)) rfl rfl rfl ?_
      refine mo_ald (S' := (23, [], [.int ((f 2) (Int32.toNatClampNeg x1))], M)) rfl (hP.2.1 2 (by decide) (by decide)) (vin_of c_1 c_10) rfl ?_
      exact ml_ret rfl (rfl) (⟨by rw [sp_tagPlace, if_neg c_1, if_pos c_10], rfl⟩)
    · have c_10 : ¬ (x1 < (nI n)) := of_decide_eq_false c_10
      refine ml_st (S' := (14, [], [.int 0], M)) rfl rfl rfl ?_
      refine ml_st (S' := (23, [], [.int 0], M)) rfl rfl rfl ?_
      exact ml_ret rfl (rfl) (⟨by rw [sp_tagPlace, if_neg c_1, if_neg c_10], rfl⟩)

theorem tag_in {n m : Nat} {f : Nat → Nat → Int32} {k t : Int32} (h : sp_tagOf n m f k = t) (ht : t ≠ 0) : vp_in k n ∧ f 1 k.toNatClampNeg = t := by
  unfold sp_tagOf at h
  split at h
  · exact absurd h.symm ht
  · split at h
    · exact ⟨vin_of ‹_› ‹_›, h⟩
    · exact absurd h.symm ht

def sp_firstIndex (n m : Nat) (f : Nat → Nat → Int32) (x1 : Int32) : Int32 := if x1 < 0 then (0) else (if (nI n) ≤ x1 then (0) else (if 7 ≤ ((f 1) (Int32.toNatClampNeg x1)) then (((f 3) (Int32.toNatClampNeg x1))) else (0)))
set_option maxHeartbeats 1000000 in
theorem ct_firstIndex {g : xe_G} {M : mi_H} {p : Nat} {size : Int32} {n m : Nat} {q : Nat → Nat} {f : Nat → Nat → Int32} {cc : Int32} {x1 : Int32} (hP : PL M p size n m q f cc) {d : Nat} (hd : 1 ≤ d) : mt (mT g) d 117 [.ref p, .int x1] M (fun v M' => v = some (.int (sp_firstIndex n m f x1)) ∧ M' = M) := by
  obtain ⟨d, rfl⟩ : ∃ e, d = e + 1 := ⟨d - 1, by omega⟩
  refine mt_in (b := mb_117 g) rfl rfl ?_
  show ml (mT g) d (mb_117 g).2 (0, [(0, .ref p), (1, .int x1)], [], M) _
  refine ml_st (S' := (1, [(0, .ref p), (1, .int x1)], [.int x1], M)) rfl rfl rfl ?_
  refine ml_if (S1 := (24, [], [], M)) (S2 := (4, [(0, .ref p), (1, .int x1)], [], M)) rfl rfl rfl (fun c_1 => ?_) (fun c_1 => ?_)
  · have c_1 : x1 < 0 := of_decide_eq_true c_1
    refine ml_st (S' := (25, [], [.int 0], M)) rfl rfl rfl ?_
    refine ml_st (S' := (34, [], [.int 0], M)) rfl rfl rfl ?_
    exact ml_ret rfl (rfl) (⟨by rw [sp_firstIndex, if_pos c_1], rfl⟩)
  · have c_1 : ¬ (x1 < 0) := of_decide_eq_false c_1
    refine ml_st (S' := (5, [(0, .ref p), (1, .int x1)], [.int x1], M)) rfl rfl rfl ?_
    refine ml_st (S' := (6, [(0, .ref p), (1, .int x1)], [.ref p, .int x1], M)) rfl rfl rfl ?_
    refine mo_get (S' := (9, [(0, .ref p), (1, .int x1)], [.ref (q 1), .int x1], M)) rfl hP.1 rfl rfl ?_
    refine mo_alen (S' := (10, [(0, .ref p), (1, .int x1)], [.int (nI n), .int x1], M)) rfl (hP.2.1 1 (by decide) (by decide)) rfl ?_
    refine ml_if2 (S1 := (24, [], [], M)) (S2 := (13, [(0, .ref p), (1, .int x1)], [], M)) rfl rfl rfl (fun c_10 => ?_) (fun c_10 => ?_)
    · have c_10 : (nI n) ≤ x1 := of_decide_eq_true c_10
      refine ml_st (S' := (25, [], [.int 0], M)) rfl rfl rfl ?_
      refine ml_st (S' := (34, [], [.int 0], M)) rfl rfl rfl ?_
      exact ml_ret rfl (rfl) (⟨by rw [sp_firstIndex, if_neg c_1, if_pos c_10], rfl⟩)
    · have c_10 : ¬ ((nI n) ≤ x1) := of_decide_eq_false c_10
      refine ml_st (S' := (14, [(0, .ref p), (1, .int x1)], [.ref p], M)) rfl rfl rfl ?_
      refine mo_get (S' := (17, [(0, .ref p), (1, .int x1)], [.ref (q 1)], M)) rfl hP.1 rfl rfl ?_
      refine ml_st (S' := (18, [(0, .ref p), (1, .int x1)], [.int x1, .ref (q 1)], M)) rfl rfl rfl ?_
      refine mo_ald (S' := (19, [(0, .ref p), (1, .int x1)], [.int ((f 1) (Int32.toNatClampNeg x1))], M)) rfl (hP.2.1 1 (by decide) (by decide)) (vin_ge c_1 c_10) rfl ?_
      refine ml_st (S' := (21, [(0, .ref p), (1, .int x1)], [.int 7, .int ((f 1) (Int32.toNatClampNeg x1))], M)) rfl rfl rfl ?_
      refine ml_if2 (S1 := (28, [(0, .ref p), (1, .int x1)], [], M)) (S2 := (24, [], [], M)) rfl rfl rfl (fun c_21 => ?_) (fun c_21 => ?_)
      · have c_21 : 7 ≤ ((f 1) (Int32.toNatClampNeg x1)) := of_decide_eq_true c_21
        refine ml_st (S' := (29, [(0, .ref p), (1, .int x1)], [.ref p], M)) rfl rfl rfl ?_
        refine mo_get (S' := (32, [(0, .ref p), (1, .int x1)], [.ref (q 3)], M)) rfl hP.1 rfl rfl ?_
        refine ml_st (S' := (33, [(0, .ref p), (1, .int x1)], [.int x1, .ref (q 3)], M)) rfl rfl rfl ?_
        refine mo_ald (S' := (34, [], [.int ((f 3) (Int32.toNatClampNeg x1))], M)) rfl (hP.2.1 3 (by decide) (by decide)) (vin_ge c_1 c_10) rfl ?_
        exact ml_ret rfl (rfl) (⟨by rw [sp_firstIndex, if_neg c_1, if_neg c_10, if_pos c_21], rfl⟩)
      · have c_21 : ¬ (7 ≤ ((f 1) (Int32.toNatClampNeg x1))) := of_decide_eq_false c_21
        refine ml_st (S' := (25, [], [.int 0], M)) rfl rfl rfl ?_
        refine ml_st (S' := (34, [], [.int 0], M)) rfl rfl rfl ?_
        exact ml_ret rfl (rfl) (⟨by rw [sp_firstIndex, if_neg c_1, if_neg c_10, if_neg c_21], rfl⟩)
def sp_secondIndex (n m : Nat) (f : Nat → Nat → Int32) (x1 : Int32) : Int32 := if x1 < 0 then (0) else (if (nI n) ≤ x1 then (0) else (if 7 ≤ ((f 1) (Int32.toNatClampNeg x1)) then (((f 4) (Int32.toNatClampNeg x1))) else (0)))
set_option maxHeartbeats 1000000 in
theorem ct_secondIndex {g : xe_G} {M : mi_H} {p : Nat} {size : Int32} {n m : Nat} {q : Nat → Nat} {f : Nat → Nat → Int32} {cc : Int32} {x1 : Int32} (hP : PL M p size n m q f cc) {d : Nat} (hd : 1 ≤ d) : mt (mT g) d 134 [.ref p, .int x1] M (fun v M' => v = some (.int (sp_secondIndex n m f x1)) ∧ M' = M) := by
  obtain ⟨d, rfl⟩ : ∃ e, d = e + 1 := ⟨d - 1, by omega⟩
  refine mt_in (b := mb_134 g) rfl rfl ?_
  show ml (mT g) d (mb_134 g).2 (0, [(0, .ref p), (1, .int x1)], [], M) _
  refine ml_st (S' := (1, [(0, .ref p), (1, .int x1)], [.int x1], M)) rfl rfl rfl ?_
  refine ml_if (S1 := (24, [], [], M)) (S2 := (4, [(0, .ref p), (1, .int x1)], [], M)) rfl rfl rfl (fun c_1 => ?_) (fun c_1 => ?_)
  · have c_1 : x1 < 0 := of_decide_eq_true c_1
    refine ml_st (S' := (25, [], [.int 0], M)) rfl rfl rfl ?_
    refine ml_st (S' := (34, [], [.int 0], M)) rfl rfl rfl ?_
    exact ml_ret rfl (rfl) (⟨by rw [sp_secondIndex, if_pos c_1], rfl⟩)
  · have c_1 : ¬ (x1 < 0) := of_decide_eq_false c_1
    refine ml_st (S' := (5, [(0, .ref p), (1, .int x1)], [.int x1], M)) rfl rfl rfl ?_
    refine ml_st (S' := (6, [(0, .ref p), (1, .int x1)], [.ref p, .int x1], M)) rfl rfl rfl ?_
    refine mo_get (S' := (9, [(0, .ref p), (1, .int x1)], [.ref (q 1), .int x1], M)) rfl hP.1 rfl rfl ?_
    refine mo_alen (S' := (10, [(0, .ref p), (1, .int x1)], [.int (nI n), .int x1], M)) rfl (hP.2.1 1 (by decide) (by decide)) rfl ?_
    refine ml_if2 (S1 := (24, [], [], M)) (S2 := (13, [(0, .ref p), (1, .int x1)], [], M)) rfl rfl rfl (fun c_10 => ?_) (fun c_10 => ?_)
    · have c_10 : (nI n) ≤ x1 := of_decide_eq_true c_10
      refine ml_st (S' := (25, [], [.int 0], M)) rfl rfl rfl ?_
      refine ml_st (S' := (34, [], [.int 0], M)) rfl rfl rfl ?_
      exact ml_ret rfl (rfl) (⟨by rw [sp_secondIndex, if_neg c_1, if_pos c_10], rfl⟩)
    · have c_10 : ¬ ((nI n) ≤ x1) := of_decide_eq_false c_10
      refine ml_st (S' := (14, [(0, .ref p), (1, .int x1)], [.ref p], M)) rfl rfl rfl ?_
      refine mo_get (S' := (17, [(0, .ref p), (1, .int x1)], [.ref (q 1)], M)) rfl hP.1 rfl rfl ?_
      refine ml_st (S' := (18, [(0, .ref p), (1, .int x1)], [.int x1, .ref (q 1)], M)) rfl rfl rfl ?_
      refine mo_ald (S' := (19, [(0, .ref p), (1, .int x1)], [.int ((f 1) (Int32.toNatClampNeg x1))], M)) rfl (hP.2.1 1 (by decide) (by decide)) (vin_ge c_1 c_10) rfl ?_
      refine ml_st (S' := (21, [(0, .ref p), (1, .int x1)], [.int 7, .int ((f 1) (Int32.toNatClampNeg x1))], M)) rfl rfl rfl ?_
      refine ml_if2 (S1 := (28, [(0, .ref p), (1, .int x1)], [], M)) (S2 := (24, [], [], M)) rfl rfl rfl (fun c_21 => ?_) (fun c_21 => ?_)
      · have c_21 : 7 ≤ ((f 1) (Int32.toNatClampNeg x1)) := of_decide_eq_true c_21
        refine ml_st (S' := (29, [(0, .ref p), (1, .int x1)], [.ref p], M)) rfl rfl rfl ?_
        refine mo_get (S' := (32, [(0, .ref p), (1, .int x1)], [.ref (q 4)], M)) rfl hP.1 rfl rfl ?_
        refine ml_st (S' := (33, [(0, .ref p), (1, .int x1)], [.int x1, .ref (q 4)], M)) rfl rfl rfl ?_
        refine mo_ald (S' := (34, [], [.int ((f 4) (Int32.toNatClampNeg x1))], M)) rfl (hP.2.1 4 (by decide) (by decide)) (vin_ge c_1 c_10) rfl ?_
        exact ml_ret rfl (rfl) (⟨by rw [sp_secondIndex, if_neg c_1, if_neg c_10, if_pos c_21], rfl⟩)
      · have c_21 : ¬ (7 ≤ ((f 1) (Int32.toNatClampNeg x1))) := of_decide_eq_false c_21
        refine ml_st (S' := (25, [], [.int 0], M)) rfl rfl rfl ?_
        refine ml_st (S' := (34, [], [.int 0], M)) rfl rfl rfl ?_
        exact ml_ret rfl (rfl) (⟨by rw [sp_secondIndex, if_neg c_1, if_neg c_10, if_neg c_21], rfl⟩)
def sp_isWide (n m : Nat) (f : Nat → Nat → Int32) (x1 : Int32) : Int32 := if (sp_tagOf n m f x1) = 5 then (1) else (if ¬ (sp_tagOf n m f x1) = 6 then (0) else (1))
set_option maxHeartbeats 1000000 in
theorem ct_isWide {g : xe_G} {M : mi_H} {p : Nat} {size : Int32} {n m : Nat} {q : Nat → Nat} {f : Nat → Nat → Int32} {cc : Int32} {x1 : Int32} (hP : PL M p size n m q f cc) {d : Nat} (hd : 2 ≤ d) : mt (mT g) d 125 [.ref p, .int x1] M (fun v M' => v = some (.int (sp_isWide n m f x1)) ∧ M' = M) := by
  obtain ⟨d, rfl⟩ : ∃ e, d = e + 1 := ⟨d - 1, by omega⟩
  refine mt_in (b := mb_125 g) rfl rfl ?_
  show ml (mT g) d (mb_125 g).2 (0, [(0, .ref p), (1, .int x1)], [], M) _
  refine ml_st (S' := (1, [(0, .ref p), (1, .int x1)], [.ref p], M)) rfl rfl rfl ?_
  refine ml_st (S' := (2, [(0, .ref p), (1, .int x1)], [.int x1, .ref p], M)) rfl rfl rfl ?_
  refine ml_call (a := [.ref p, .int x1]) (rest := []) rfl (okc_v rfl rfl rfl hP.1) rfl rfl (ct_tagOf hP (by omega)) (fun v1 M2 h3 => ?_)
  obtain ⟨rfl, h3⟩ := h3
  rw [h3]
  show ml _ _ _ (5, [(0, .ref p), (1, .int x1)], [.int (sp_tagOf n m f x1)], M) _
  refine ml_st (S' := (6, [(2, .int (sp_tagOf n m f x1)), (0, .ref p), (1, .int x1)], [], M)) rfl rfl rfl ?_
  refine ml_st (S' := (7, [(2, .int (sp_tagOf n m f x1)), (0, .ref p), (1, .int x1)], [.int (sp_tagOf n m f x1)], M)) rfl rfl rfl ?_
  refine ml_st (S' := (8, [(2, .int (sp_tagOf n m f x1)), (0, .ref p), (1, .int x1)], [.int 5, .int (sp_tagOf n m f x1)], M)) rfl rfl rfl ?_
  refine ml_if2 (S1 := (17, [], [], M)) (S2 := (11, [(2, .int (sp_tagOf n m f x1)), (0, .ref p), (1, .int x1)], [], M)) rfl rfl rfl (fun c_8 => ?_) (fun c_8 => ?_)
  · have c_8 : (sp_tagOf n m f x1) = 5 := of_decide_eq_true c_8
    refine ml_st (S' := (18, [], [.int 1], M)) rfl rfl rfl ?_
    refine ml_st (S' := (22, [], [.int 1], M)) rfl rfl rfl ?_
    exact ml_ret rfl (rfl) (⟨by rw [sp_isWide, if_pos c_8], rfl⟩)
  · have c_8 : ¬ ((sp_tagOf n m f x1) = 5) := of_decide_eq_false c_8
    refine ml_st (S' := (12, [(2, .int (sp_tagOf n m f x1)), (0, .ref p), (1, .int x1)], [.int (sp_tagOf n m f x1)], M)) rfl rfl rfl ?_
    refine ml_st (S' := (14, [(2, .int (sp_tagOf n m f x1)), (0, .ref p), (1, .int x1)], [.int 6, .int (sp_tagOf n m f x1)], M)) rfl rfl rfl ?_
    refine ml_if2 (S1 := (21, [(2, .int (sp_tagOf n m f x1)), (0, .ref p), (1, .int x1)], [], M)) (S2 := (17, [], [], M)) rfl rfl rfl (fun c_14 => ?_) (fun c_14 => ?_)
    · have c_14 : ¬ (sp_tagOf n m f x1) = 6 := of_decide_eq_true c_14
      refine ml_st (S' := (22, [], [.int 0], M)) rfl rfl rfl ?_
      exact ml_ret rfl (rfl) (⟨by rw [sp_isWide, if_neg c_8, if_pos c_14], rfl⟩)
    · have c_14 : ¬ (¬ (sp_tagOf n m f x1) = 6) := of_decide_eq_false c_14
      refine ml_st (S' := (18, [], [.int 1], M)) rfl rfl rfl ?_
      refine ml_st (S' := (22, [], [.int 1], M)) rfl rfl rfl ?_
      exact ml_ret rfl (rfl) (⟨by rw [sp_isWide, if_neg c_8, if_neg c_14], rfl⟩)
def sp_textLength (n m : Nat) (f : Nat → Nat → Int32) (x1 : Int32) : Int32 := if ¬ (sp_tagOf n m f x1) = 1 then (0) else (((f 4) (Int32.toNatClampNeg x1)))
set_option maxHeartbeats 1000000 in
theorem ct_textLength {g : xe_G} {M : mi_H} {p : Nat} {size : Int32} {n m : Nat} {q : Nat → Nat} {f : Nat → Nat → Int32} {cc : Int32} {x1 : Int32} (hP : PL M p size n m q f cc) {d : Nat} (hd : 2 ≤ d) : mt (mT g) d 141 [.ref p, .int x1] M (fun v M' => v = some (.int (sp_textLength n m f x1)) ∧ M' = M) := by
  obtain ⟨d, rfl⟩ : ∃ e, d = e + 1 := ⟨d - 1, by omega⟩
  refine mt_in (b := mb_141 g) rfl rfl ?_
  show ml (mT g) d (mb_141 g).2 (0, [(0, .ref p), (1, .int x1)], [], M) _
  refine ml_st (S' := (1, [(0, .ref p), (1, .int x1)], [.ref p], M)) rfl rfl rfl ?_
  refine ml_st (S' := (2, [(0, .ref p), (1, .int x1)], [.int x1, .ref p], M)) rfl rfl rfl ?_
  refine ml_call (a := [.ref p, .int x1]) (rest := []) rfl (okc_v rfl rfl rfl hP.1) rfl rfl (ct_tagOf hP (by omega)) (fun v1 M2 h3 => ?_)
  obtain ⟨rfl, h3⟩ := h3
  rw [h3]
  show ml _ _ _ (5, [(0, .ref p), (1, .int x1)], [.int (sp_tagOf n m f x1)], M) _
  refine ml_st (S' := (6, [(0, .ref p), (1, .int x1)], [.int 1, .int (sp_tagOf n m f x1)], M)) rfl rfl rfl ?_
  refine ml_if2 (S1 := (18, [(0, .ref p), (1, .int x1)], [], M)) (S2 := (9, [(0, .ref p), (1, .int x1)], [], M)) rfl rfl rfl (fun c_6 => ?_) (fun c_6 => ?_)
  · have c_6 : ¬ (sp_tagOf n m f x1) = 1 := of_decide_eq_true c_6
    refine ml_st (S' := (19, [], [.int 0], M)) rfl rfl rfl ?_
    exact ml_ret rfl (rfl) (⟨by rw [sp_textLength, if_pos c_6], rfl⟩)
  · have c_6 : ¬ (¬ (sp_tagOf n m f x1) = 1) := of_decide_eq_false c_6
    refine ml_st (S' := (10, [(0, .ref p), (1, .int x1)], [.ref p], M)) rfl rfl rfl ?_
    refine mo_get (S' := (13, [(0, .ref p), (1, .int x1)], [.ref (q 4)], M)) rfl hP.1 rfl rfl ?_
    refine ml_st (S' := (14, [(0, .ref p), (1, .int x1)], [.int x1, .ref (q 4)], M)) rfl rfl rfl ?_
    refine mo_ald (S' := (15, [(0, .ref p), (1, .int x1)], [.int ((f 4) (Int32.toNatClampNeg x1))], M)) rfl (hP.2.1 4 (by decide) (by decide)) ((tag_in (Decidable.not_not.mp c_6) (by decide)).1) rfl ?_
    refine ml_st (S' := (19, [], [.int ((f 4) (Int32.toNatClampNeg x1))], M)) rfl rfl rfl ?_
    exact ml_ret rfl (rfl) (⟨by rw [sp_textLength, if_neg c_6], rfl⟩)
def sp_isFieldDescriptor (n m : Nat) (f : Nat → Nat → Int32) (x1 : Int32) : Int32 := if ¬ (sp_tagOf n m f x1) = 1 then (0) else (if ((f 5) (Int32.toNatClampNeg x1)) ≤ 0 then (0) else (if 4096 ≤ ((f 5) (Int32.toNatClampNeg x1)) then (0) else (1)))
set_option maxHeartbeats 1000000 in
theorem ct_isFieldDescriptor {g : xe_G} {M : mi_H} {p : Nat} {size : Int32} {n m : Nat} {q : Nat → Nat} {f : Nat → Nat → Int32} {cc : Int32} {x1 : Int32} (hP : PL M p size n m q f cc) {d : Nat} (hd : 2 ≤ d) : mt (mT g) d 121 [.ref p, .int x1] M (fun v M' => v = some (.int (sp_isFieldDescriptor n m f x1)) ∧ M' = M) := by
  obtain ⟨d, rfl⟩ : ∃ e, d = e + 1 := ⟨d - 1, by omega⟩
  refine mt_in (b := mb_121 g) rfl rfl ?_
  show ml (mT g) d (mb_121 g).2 (0, [(0, .ref p), (1, .int x1)], [], M) _
  refine ml_st (S' := (1, [(0, .ref p), (1, .int x1)], [.ref p], M)) rfl rfl rfl ?_
  refine ml_st (S' := (2, [(0, .ref p), (1, .int x1)], [.int x1, .ref p], M)) rfl rfl rfl ?_
  refine ml_call (a := [.ref p, .int x1]) (rest := []) rfl (okc_v rfl rfl rfl hP.1) rfl rfl (ct_tagOf hP (by omega)) (fun v1 M2 h3 => ?_)
  obtain ⟨rfl, h3⟩ := h3
  rw [h3]
  show ml _ _ _ (5, [(0, .ref p), (1, .int x1)], [.int (sp_tagOf n m f x1)], M) _
  refine ml_st (S' := (6, [(0, .ref p), (1, .int x1)], [.int 1, .int (sp_tagOf n m f x1)], M)) rfl rfl rfl ?_
  refine ml_if2 (S1 := (34, [], [], M)) (S2 := (9, [(0, .ref p), (1, .int x1)], [], M)) rfl rfl rfl (fun c_6 => ?_) (fun c_6 => ?_)
  · have c_6 : ¬ (sp_tagOf n m f x1) = 1 := of_decide_eq_true c_6
    refine ml_st (S' := (35, [], [.int 0], M)) rfl rfl rfl ?_
    exact ml_ret rfl (rfl) (⟨by rw [sp_isFieldDescriptor, if_pos c_6], rfl⟩)
  · have c_6 : ¬ (¬ (sp_tagOf n m f x1) = 1) := of_decide_eq_false c_6
    refine ml_st (S' := (10, [(0, .ref p), (1, .int x1)], [.ref p], M)) rfl rfl rfl ?_
    refine mo_get (S' := (13, [(0, .ref p), (1, .int x1)], [.ref (q 5)], M)) rfl hP.1 rfl rfl ?_
    refine ml_st (S' := (14, [(0, .ref p), (1, .int x1)], [.int x1, .ref (q 5)], M)) rfl rfl rfl ?_
    refine mo_ald (S' := (15, [(0, .ref p), (1, .int x1)], [.int ((f 5) (Int32.toNatClampNeg x1))], M)) rfl (hP.2.1 5 (by decide) (by decide)) ((tag_in (Decidable.not_not.mp c_6) (by decide)).1) rfl ?_
    refine ml_if (S1 := (34, [], [], M)) (S2 := (18, [(0, .ref p), (1, .int x1)], [], M)) rfl rfl rfl (fun c_15 => ?_) (fun c_15 => ?_)
    · have c_15 : ((f 5) (Int32.toNatClampNeg x1)) ≤ 0 := of_decide_eq_true c_15
      refine ml_st (S' := (35, [], [.int 0], M)) rfl rfl rfl ?_
      exact ml_ret rfl (rfl) (⟨by rw [sp_isFieldDescriptor, if_neg c_6, if_pos c_15], rfl⟩)
    · have c_15 : ¬ (((f 5) (Int32.toNatClampNeg x1)) ≤ 0) := of_decide_eq_false c_15
      refine ml_st (S' := (19, [(0, .ref p), (1, .int x1)], [.ref p], M)) rfl rfl rfl ?_
      refine mo_get (S' := (22, [(0, .ref p), (1, .int x1)], [.ref (q 5)], M)) rfl hP.1 rfl rfl ?_
      refine ml_st (S' := (23, [(0, .ref p), (1, .int x1)], [.int x1, .ref (q 5)], M)) rfl rfl rfl ?_
      refine mo_ald (S' := (24, [(0, .ref p), (1, .int x1)], [.int ((f 5) (Int32.toNatClampNeg x1))], M)) rfl (hP.2.1 5 (by decide) (by decide)) ((tag_in (Decidable.not_not.mp c_6) (by decide)).1) rfl ?_
      refine ml_st (S' := (27, [(0, .ref p), (1, .int x1)], [.int 4096, .int ((f 5) (Int32.toNatClampNeg x1))], M)) rfl rfl rfl ?_
      refine ml_if2 (S1 := (34, [], [], M)) (S2 := (30, [(0, .ref p), (1, .int x1)], [], M)) rfl rfl rfl (fun c_27 => ?_) (fun c_27 => ?_)
      · have c_27 : 4096 ≤ ((f 5) (Int32.toNatClampNeg x1)) := of_decide_eq_true c_27
        refine ml_st (S' := (35, [], [.int 0], M)) rfl rfl rfl ?_
        exact ml_ret rfl (rfl) (⟨by rw [sp_isFieldDescriptor, if_neg c_6, if_neg c_15, if_pos c_27], rfl⟩)
      · have c_27 : ¬ (4096 ≤ ((f 5) (Int32.toNatClampNeg x1))) := of_decide_eq_false c_27
        refine ml_st (S' := (31, [(0, .ref p), (1, .int x1)], [.int 1], M)) rfl rfl rfl ?_
        refine ml_st (S' := (35, [], [.int 1], M)) rfl rfl rfl ?_
        exact ml_ret rfl (rfl) (⟨by rw [sp_isFieldDescriptor, if_neg c_6, if_neg c_15, if_neg c_27], rfl⟩)
def sp_isMethodDescriptor (n m : Nat) (f : Nat → Nat → Int32) (x1 : Int32) : Int32 := if ¬ (sp_tagOf n m f x1) = 1 then (0) else (if ((f 5) (Int32.toNatClampNeg x1)) < 4096 then (0) else (1))
set_option maxHeartbeats 1000000 in
theorem ct_isMethodDescriptor {g : xe_G} {M : mi_H} {p : Nat} {size : Int32} {n m : Nat} {q : Nat → Nat} {f : Nat → Nat → Int32} {cc : Int32} {x1 : Int32} (hP : PL M p size n m q f cc) {d : Nat} (hd : 2 ≤ d) : mt (mT g) d 122 [.ref p, .int x1] M (fun v M' => v = some (.int (sp_isMethodDescriptor n m f x1)) ∧ M' = M) := by
  obtain ⟨d, rfl⟩ : ∃ e, d = e + 1 := ⟨d - 1, by omega⟩
  refine mt_in (b := mb_122 g) rfl rfl ?_
  show ml (mT g) d (mb_122 g).2 (0, [(0, .ref p), (1, .int x1)], [], M) _
  refine ml_st (S' := (1, [(0, .ref p), (1, .int x1)], [.ref p], M)) rfl rfl rfl ?_
  refine ml_st (S' := (2, [(0, .ref p), (1, .int x1)], [.int x1, .ref p], M)) rfl rfl rfl ?_
  refine ml_call (a := [.ref p, .int x1]) (rest := []) rfl (okc_v rfl rfl rfl hP.1) rfl rfl (ct_tagOf hP (by omega)) (fun v1 M2 h3 => ?_)
  obtain ⟨rfl, h3⟩ := h3
  rw [h3]
  show ml _ _ _ (5, [(0, .ref p), (1, .int x1)], [.int (sp_tagOf n m f x1)], M) _
  refine ml_st (S' := (6, [(0, .ref p), (1, .int x1)], [.int 1, .int (sp_tagOf n m f x1)], M)) rfl rfl rfl ?_
  refine ml_if2 (S1 := (25, [], [], M)) (S2 := (9, [(0, .ref p), (1, .int x1)], [], M)) rfl rfl rfl (fun c_6 => ?_) (fun c_6 => ?_)
  · have c_6 : ¬ (sp_tagOf n m f x1) = 1 := of_decide_eq_true c_6
    refine ml_st (S' := (26, [], [.int 0], M)) rfl rfl rfl ?_
    exact ml_ret rfl (rfl) (⟨by rw [sp_isMethodDescriptor, if_pos c_6], rfl⟩)
  · have c_6 : ¬ (¬ (sp_tagOf n m f x1) = 1) := of_decide_eq_false c_6
    refine ml_st (S' := (10, [(0, .ref p), (1, .int x1)], [.ref p], M)) rfl rfl rfl ?_
    refine mo_get (S' := (13, [(0, .ref p), (1, .int x1)], [.ref (q 5)], M)) rfl hP.1 rfl rfl ?_
    refine ml_st (S' := (14, [(0, .ref p), (1, .int x1)], [.int x1, .ref (q 5)], M)) rfl rfl rfl ?_
    refine mo_ald (S' := (15, [(0, .ref p), (1, .int x1)], [.int ((f 5) (Int32.toNatClampNeg x1))], M)) rfl (hP.2.1 5 (by decide) (by decide)) ((tag_in (Decidable.not_not.mp c_6) (by decide)).1) rfl ?_
    refine ml_st (S' := (18, [(0, .ref p), (1, .int x1)], [.int 4096, .int ((f 5) (Int32.toNatClampNeg x1))], M)) rfl rfl rfl ?_
    refine ml_if2 (S1 := (25, [], [], M)) (S2 := (21, [(0, .ref p), (1, .int x1)], [], M)) rfl rfl rfl (fun c_18 => ?_) (fun c_18 => ?_)
    · have c_18 : ((f 5) (Int32.toNatClampNeg x1)) < 4096 := of_decide_eq_true c_18
      refine ml_st (S' := (26, [], [.int 0], M)) rfl rfl rfl ?_
      exact ml_ret rfl (rfl) (⟨by rw [sp_isMethodDescriptor, if_neg c_6, if_pos c_18], rfl⟩)
    · have c_18 : ¬ (((f 5) (Int32.toNatClampNeg x1)) < 4096) := of_decide_eq_false c_18
      refine ml_st (S' := (22, [(0, .ref p), (1, .int x1)], [.int 1], M)) rfl rfl rfl ?_
      refine ml_st (S' := (26, [], [.int 1], M)) rfl rfl rfl ?_
      exact ml_ret rfl (rfl) (⟨by rw [sp_isMethodDescriptor, if_neg c_6, if_neg c_18], rfl⟩)
def sp_placesTold (n m : Nat) (f : Nat → Nat → Int32) (x1 : Int32) : Int32 := if ¬ (sp_tagOf n m f x1) = 1 then ((-1)) else (if ¬ ((f 5) (Int32.toNatClampNeg x1)) = (-1) then ((((f 5) (Int32.toNatClampNeg x1)) - ((f 5) (Int32.toNatClampNeg x1)) / 4096 * 4096)) else ((-1)))
set_option maxHeartbeats 1000000 in
theorem ct_placesTold {g : xe_G} {M : mi_H} {p : Nat} {size : Int32} {n m : Nat} {q : Nat → Nat} {f : Nat → Nat → Int32} {cc : Int32} {x1 : Int32} (hP : PL M p size n m q f cc) {d : Nat} (hd : 2 ≤ d) : mt (mT g) d 131 [.ref p, .int x1] M (fun v M' => v = some (.int (sp_placesTold n m f x1)) ∧ M' = M) := by
  obtain ⟨d, rfl⟩ : ∃ e, d = e + 1 := ⟨d - 1, by omega⟩
  refine mt_in (b := mb_131 g) rfl rfl ?_
  show ml (mT g) d (mb_131 g).2 (0, [(0, .ref p), (1, .int x1)], [], M) _
  refine ml_st (S' := (1, [(0, .ref p), (1, .int x1)], [.ref p], M)) rfl rfl rfl ?_
  refine ml_st (S' := (2, [(0, .ref p), (1, .int x1)], [.int x1, .ref p], M)) rfl rfl rfl ?_
  refine ml_call (a := [.ref p, .int x1]) (rest := []) rfl (okc_v rfl rfl rfl hP.1) rfl rfl (ct_tagOf hP (by omega)) (fun v1 M2 h3 => ?_)
  obtain ⟨rfl, h3⟩ := h3
  rw [h3]
  show ml _ _ _ (5, [(0, .ref p), (1, .int x1)], [.int (sp_tagOf n m f x1)], M) _
  refine ml_st (S' := (6, [(0, .ref p), (1, .int x1)], [.int 1, .int (sp_tagOf n m f x1)], M)) rfl rfl rfl ?_
  refine ml_if2 (S1 := (19, [], [], M)) (S2 := (9, [(0, .ref p), (1, .int x1)], [], M)) rfl rfl rfl (fun c_6 => ?_) (fun c_6 => ?_)
  · have c_6 : ¬ (sp_tagOf n m f x1) = 1 := of_decide_eq_true c_6
    refine ml_st (S' := (20, [], [.int (-1)], M)) rfl rfl rfl ?_
    exact ml_ret rfl (rfl) (⟨by rw [sp_placesTold, if_pos c_6], rfl⟩)
  · have c_6 : ¬ (¬ (sp_tagOf n m f x1) = 1) := of_decide_eq_false c_6
    refine ml_st (S' := (10, [(0, .ref p), (1, .int x1)], [.ref p], M)) rfl rfl rfl ?_
    refine mo_get (S' := (13, [(0, .ref p), (1, .int x1)], [.ref (q 5)], M)) rfl hP.1 rfl rfl ?_
    refine ml_st (S' := (14, [(0, .ref p), (1, .int x1)], [.int x1, .ref (q 5)], M)) rfl rfl rfl ?_
    refine mo_ald (S' := (15, [(0, .ref p), (1, .int x1)], [.int ((f 5) (Int32.toNatClampNeg x1))], M)) rfl (hP.2.1 5 (by decide) (by decide)) ((tag_in (Decidable.not_not.mp c_6) (by decide)).1) rfl ?_
    refine ml_st (S' := (16, [(0, .ref p), (1, .int x1)], [.int (-1), .int ((f 5) (Int32.toNatClampNeg x1))], M)) rfl rfl rfl ?_
    refine ml_if2 (S1 := (21, [(0, .ref p), (1, .int x1)], [], M)) (S2 := (19, [], [], M)) rfl rfl rfl (fun c_16 => ?_) (fun c_16 => ?_)
    · have c_16 : ¬ ((f 5) (Int32.toNatClampNeg x1)) = (-1) := of_decide_eq_true c_16
      refine ml_st (S' := (22, [(0, .ref p), (1, .int x1)], [.ref p], M)) rfl rfl rfl ?_
      refine mo_get (S' := (25, [(0, .ref p), (1, .int x1)], [.ref (q 5)], M)) rfl hP.1 rfl rfl ?_
      refine ml_st (S' := (26, [(0, .ref p), (1, .int x1)], [.int x1, .ref (q 5)], M)) rfl rfl rfl ?_
      refine mo_ald (S' := (27, [(0, .ref p), (1, .int x1)], [.int ((f 5) (Int32.toNatClampNeg x1))], M)) rfl (hP.2.1 5 (by decide) (by decide)) ((tag_in (Decidable.not_not.mp c_6) (by decide)).1) rfl ?_
      refine ml_st (S' := (30, [(0, .ref p), (1, .int x1)], [.int 4096, .int ((f 5) (Int32.toNatClampNeg x1))], M)) rfl rfl rfl ?_
      refine ml_st (S' := (31, [(0, .ref p), (1, .int x1)], [.int (((f 5) (Int32.toNatClampNeg x1)) - ((f 5) (Int32.toNatClampNeg x1)) / 4096 * 4096)], M)) rfl rfl rfl ?_
      exact ml_ret rfl (rfl) (⟨by rw [sp_placesTold, if_neg c_6, if_pos c_16], rfl⟩)
    · have c_16 : ¬ (¬ ((f 5) (Int32.toNatClampNeg x1)) = (-1)) := of_decide_eq_false c_16
      refine ml_st (S' := (20, [], [.int (-1)], M)) rfl rfl rfl ?_
      exact ml_ret rfl (rfl) (⟨by rw [sp_placesTold, if_neg c_6, if_neg c_16], rfl⟩)
theorem isMD_in {n m : Nat} {f : Nat → Nat → Int32} {k : Int32} (h : ¬ sp_isMethodDescriptor n m f k = 0) : vp_in k n := by
  unfold sp_isMethodDescriptor at h
  split at h
  · exact absurd rfl h
  · rename_i h1
    exact (tag_in (Decidable.not_not.mp h1) (by decide)).1

def sp_argumentPlaces (n m : Nat) (f : Nat → Nat → Int32) (x1 : Int32) : Int32 := if (sp_isMethodDescriptor n m f x1) = 0 then (0) else ((((f 5) (Int32.toNatClampNeg x1)) - ((f 5) (Int32.toNatClampNeg x1)) / 1024 * 1024))
set_option maxHeartbeats 1000000 in
theorem ct_argumentPlaces {g : xe_G} {M : mi_H} {p : Nat} {size : Int32} {n m : Nat} {q : Nat → Nat} {f : Nat → Nat → Int32} {cc : Int32} {x1 : Int32} (hP : PL M p size n m q f cc) {d : Nat} (hd : 3 ≤ d) : mt (mT g) d 112 [.ref p, .int x1] M (fun v M' => v = some (.int (sp_argumentPlaces n m f x1)) ∧ M' = M) := by
  obtain ⟨d, rfl⟩ : ∃ e, d = e + 1 := ⟨d - 1, by omega⟩
  refine mt_in (b := mb_112 g) rfl rfl ?_
  show ml (mT g) d (mb_112 g).2 (0, [(0, .ref p), (1, .int x1)], [], M) _
  refine ml_st (S' := (1, [(0, .ref p), (1, .int x1)], [.ref p], M)) rfl rfl rfl ?_
  refine ml_st (S' := (2, [(0, .ref p), (1, .int x1)], [.int x1, .ref p], M)) rfl rfl rfl ?_
  refine ml_call (a := [.ref p, .int x1]) (rest := []) rfl (okc_v rfl rfl rfl hP.1) rfl rfl (ct_isMethodDescriptor hP (by omega)) (fun v1 M2 h3 => ?_)
  obtain ⟨rfl, h3⟩ := h3
  rw [h3]
  show ml _ _ _ (5, [(0, .ref p), (1, .int x1)], [.int (sp_isMethodDescriptor n m f x1)], M) _
  refine ml_if (S1 := (21, [(0, .ref p), (1, .int x1)], [], M)) (S2 := (8, [(0, .ref p), (1, .int x1)], [], M)) rfl rfl rfl (fun c_5 => ?_) (fun c_5 => ?_)
  · have c_5 : (sp_isMethodDescriptor n m f x1) = 0 := of_decide_eq_true c_5
    refine ml_st (S' := (22, [], [.int 0], M)) rfl rfl rfl ?_
    exact ml_ret rfl (rfl) (⟨by rw [sp_argumentPlaces, if_pos c_5], rfl⟩)
  · have c_5 : ¬ ((sp_isMethodDescriptor n m f x1) = 0) := of_decide_eq_false c_5
    refine ml_st (S' := (9, [(0, .ref p), (1, .int x1)], [.ref p], M)) rfl rfl rfl ?_
    refine mo_get (S' := (12, [(0, .ref p), (1, .int x1)], [.ref (q 5)], M)) rfl hP.1 rfl rfl ?_
    refine ml_st (S' := (13, [(0, .ref p), (1, .int x1)], [.int x1, .ref (q 5)], M)) rfl rfl rfl ?_
    refine mo_ald (S' := (14, [(0, .ref p), (1, .int x1)], [.int ((f 5) (Int32.toNatClampNeg x1))], M)) rfl (hP.2.1 5 (by decide) (by decide)) (isMD_in c_5) rfl ?_
    refine ml_st (S' := (17, [(0, .ref p), (1, .int x1)], [.int 1024, .int ((f 5) (Int32.toNatClampNeg x1))], M)) rfl rfl rfl ?_
    refine ml_st (S' := (18, [(0, .ref p), (1, .int x1)], [.int (((f 5) (Int32.toNatClampNeg x1)) - ((f 5) (Int32.toNatClampNeg x1)) / 1024 * 1024)], M)) rfl rfl rfl ?_
    refine ml_st (S' := (22, [], [.int (((f 5) (Int32.toNatClampNeg x1)) - ((f 5) (Int32.toNatClampNeg x1)) / 1024 * 1024)], M)) rfl rfl rfl ?_
    exact ml_ret rfl (rfl) (⟨by rw [sp_argumentPlaces, if_neg c_5], rfl⟩)
def sp_hasNoResult (n m : Nat) (f : Nat → Nat → Int32) (x1 : Int32) : Int32 := if (sp_isMethodDescriptor n m f x1) = 0 then (0) else (if 1024 ≤ (((f 5) (Int32.toNatClampNeg x1)) - 4096) then (0) else (1))
set_option maxHeartbeats 1000000 in
theorem ct_hasNoResult {g : xe_G} {M : mi_H} {p : Nat} {size : Int32} {n m : Nat} {q : Nat → Nat} {f : Nat → Nat → Int32} {cc : Int32} {x1 : Int32} (hP : PL M p size n m q f cc) {d : Nat} (hd : 3 ≤ d) : mt (mT g) d 119 [.ref p, .int x1] M (fun v M' => v = some (.int (sp_hasNoResult n m f x1)) ∧ M' = M) := by
  obtain ⟨d, rfl⟩ : ∃ e, d = e + 1 := ⟨d - 1, by omega⟩
  refine mt_in (b := mb_119 g) rfl rfl ?_
  show ml (mT g) d (mb_119 g).2 (0, [(0, .ref p), (1, .int x1)], [], M) _
  refine ml_st (S' := (1, [(0, .ref p), (1, .int x1)], [.ref p], M)) rfl rfl rfl ?_
  refine ml_st (S' := (2, [(0, .ref p), (1, .int x1)], [.int x1, .ref p], M)) rfl rfl rfl ?_
  refine ml_call (a := [.ref p, .int x1]) (rest := []) rfl (okc_v rfl rfl rfl hP.1) rfl rfl (ct_isMethodDescriptor hP (by omega)) (fun v1 M2 h3 => ?_)
  obtain ⟨rfl, h3⟩ := h3
  rw [h3]
  show ml _ _ _ (5, [(0, .ref p), (1, .int x1)], [.int (sp_isMethodDescriptor n m f x1)], M) _
  refine ml_if (S1 := (28, [], [], M)) (S2 := (8, [(0, .ref p), (1, .int x1)], [], M)) rfl rfl rfl (fun c_5 => ?_) (fun c_5 => ?_)
  · have c_5 : (sp_isMethodDescriptor n m f x1) = 0 := of_decide_eq_true c_5
    refine ml_st (S' := (29, [], [.int 0], M)) rfl rfl rfl ?_
    exact ml_ret rfl (rfl) (⟨by rw [sp_hasNoResult, if_pos c_5], rfl⟩)
  · have c_5 : ¬ ((sp_isMethodDescriptor n m f x1) = 0) := of_decide_eq_false c_5
    refine ml_st (S' := (9, [(0, .ref p), (1, .int x1)], [.ref p], M)) rfl rfl rfl ?_
    refine mo_get (S' := (12, [(0, .ref p), (1, .int x1)], [.ref (q 5)], M)) rfl hP.1 rfl rfl ?_
    refine ml_st (S' := (13, [(0, .ref p), (1, .int x1)], [.int x1, .ref (q 5)], M)) rfl rfl rfl ?_
    refine mo_ald (S' := (14, [(0, .ref p), (1, .int x1)], [.int ((f 5) (Int32.toNatClampNeg x1))], M)) rfl (hP.2.1 5 (by decide) (by decide)) (isMD_in c_5) rfl ?_
    refine ml_st (S' := (17, [(0, .ref p), (1, .int x1)], [.int 4096, .int ((f 5) (Int32.toNatClampNeg x1))], M)) rfl rfl rfl ?_
    refine ml_st (S' := (18, [(0, .ref p), (1, .int x1)], [.int (((f 5) (Int32.toNatClampNeg x1)) - 4096)], M)) rfl rfl rfl ?_
    refine ml_st (S' := (21, [(0, .ref p), (1, .int x1)], [.int 1024, .int (((f 5) (Int32.toNatClampNeg x1)) - 4096)], M)) rfl rfl rfl ?_
    refine ml_if2 (S1 := (28, [], [], M)) (S2 := (24, [(0, .ref p), (1, .int x1)], [], M)) rfl rfl rfl (fun c_21 => ?_) (fun c_21 => ?_)
    · have c_21 : 1024 ≤ (((f 5) (Int32.toNatClampNeg x1)) - 4096) := of_decide_eq_true c_21
      refine ml_st (S' := (29, [], [.int 0], M)) rfl rfl rfl ?_
      exact ml_ret rfl (rfl) (⟨by rw [sp_hasNoResult, if_neg c_5, if_pos c_21], rfl⟩)
    · have c_21 : ¬ (1024 ≤ (((f 5) (Int32.toNatClampNeg x1)) - 4096)) := of_decide_eq_false c_21
      refine ml_st (S' := (25, [(0, .ref p), (1, .int x1)], [.int 1], M)) rfl rfl rfl ?_
      refine ml_st (S' := (29, [], [.int 1], M)) rfl rfl rfl ?_
      exact ml_ret rfl (rfl) (⟨by rw [sp_hasNoResult, if_neg c_5, if_neg c_21], rfl⟩)
def sp_nameOf (n m : Nat) (f : Nat → Nat → Int32) (x1 : Int32) : Int32 := (sp_firstIndex n m f (sp_secondIndex n m f x1))
set_option maxHeartbeats 1000000 in
theorem ct_nameOf {g : xe_G} {M : mi_H} {p : Nat} {size : Int32} {n m : Nat} {q : Nat → Nat} {f : Nat → Nat → Int32} {cc : Int32} {x1 : Int32} (hP : PL M p size n m q f cc) {d : Nat} (hd : 2 ≤ d) : mt (mT g) d 128 [.ref p, .int x1] M (fun v M' => v = some (.int (sp_nameOf n m f x1)) ∧ M' = M) := by
  obtain ⟨d, rfl⟩ : ∃ e, d = e + 1 := ⟨d - 1, by omega⟩
  refine mt_in (b := mb_128 g) rfl rfl ?_
  show ml (mT g) d (mb_128 g).2 (0, [(0, .ref p), (1, .int x1)], [], M) _
  refine ml_st (S' := (1, [(0, .ref p), (1, .int x1)], [.ref p], M)) rfl rfl rfl ?_
  refine ml_st (S' := (2, [(0, .ref p), (1, .int x1)], [.ref p, .ref p], M)) rfl rfl rfl ?_
  refine ml_st (S' := (3, [(0, .ref p), (1, .int x1)], [.int x1, .ref p, .ref p], M)) rfl rfl rfl ?_
  refine ml_call (a := [.ref p, .int x1]) (rest := [.ref p]) rfl (okc_v rfl rfl rfl hP.1) rfl rfl (ct_secondIndex hP (by omega)) (fun v1 M2 h3 => ?_)
  obtain ⟨rfl, h3⟩ := h3
  rw [h3]
  show ml _ _ _ (6, [(0, .ref p), (1, .int x1)], [.int (sp_secondIndex n m f x1), .ref p], M) _
  refine ml_call (a := [.ref p, .int (sp_secondIndex n m f x1)]) (rest := []) rfl (okc_v rfl rfl rfl hP.1) rfl rfl (ct_firstIndex hP (by omega)) (fun v4 M5 h6 => ?_)
  obtain ⟨rfl, h6⟩ := h6
  rw [h6]
  show ml _ _ _ (9, [(0, .ref p), (1, .int x1)], [.int (sp_firstIndex n m f (sp_secondIndex n m f x1))], M) _
  exact ml_ret rfl (rfl) (⟨by rw [sp_nameOf], rfl⟩)
def sp_descriptorOf (n m : Nat) (f : Nat → Nat → Int32) (x1 : Int32) : Int32 := (sp_secondIndex n m f (sp_secondIndex n m f x1))
set_option maxHeartbeats 1000000 in
theorem ct_descriptorOf {g : xe_G} {M : mi_H} {p : Nat} {size : Int32} {n m : Nat} {q : Nat → Nat} {f : Nat → Nat → Int32} {cc : Int32} {x1 : Int32} (hP : PL M p size n m q f cc) {d : Nat} (hd : 2 ≤ d) : mt (mT g) d 115 [.ref p, .int x1] M (fun v M' => v = some (.int (sp_descriptorOf n m f x1)) ∧ M' = M) := by
  obtain ⟨d, rfl⟩ : ∃ e, d = e + 1 := ⟨d - 1, by omega⟩
  refine mt_in (b := mb_115 g) rfl rfl ?_
  show ml (mT g) d (mb_115 g).2 (0, [(0, .ref p), (1, .int x1)], [], M) _
  refine ml_st (S' := (1, [(0, .ref p), (1, .int x1)], [.ref p], M)) rfl rfl rfl ?_
  refine ml_st (S' := (2, [(0, .ref p), (1, .int x1)], [.ref p, .ref p], M)) rfl rfl rfl ?_
  refine ml_st (S' := (3, [(0, .ref p), (1, .int x1)], [.int x1, .ref p, .ref p], M)) rfl rfl rfl ?_
  refine ml_call (a := [.ref p, .int x1]) (rest := [.ref p]) rfl (okc_v rfl rfl rfl hP.1) rfl rfl (ct_secondIndex hP (by omega)) (fun v1 M2 h3 => ?_)
  obtain ⟨rfl, h3⟩ := h3
  rw [h3]
  show ml _ _ _ (6, [(0, .ref p), (1, .int x1)], [.int (sp_secondIndex n m f x1), .ref p], M) _
  refine ml_call (a := [.ref p, .int (sp_secondIndex n m f x1)]) (rest := []) rfl (okc_v rfl rfl rfl hP.1) rfl rfl (ct_secondIndex hP (by omega)) (fun v4 M5 h6 => ?_)
  obtain ⟨rfl, h6⟩ := h6
  rw [h6]
  show ml _ _ _ (9, [(0, .ref p), (1, .int x1)], [.int (sp_secondIndex n m f (sp_secondIndex n m f x1))], M) _
  exact ml_ret rfl (rfl) (⟨by rw [sp_descriptorOf], rfl⟩)
