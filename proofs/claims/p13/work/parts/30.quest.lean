section
/-! the bytes of a file, the pool: what their short questions answer (laid by wip/p2/c30.py) -/
def BY (M : mi_H) (b da n : Nat) (f : Nat → Int32) : Prop := M.1 b = some (ob 1 [.ref da]) ∧ M.1 da = some (ar .byte n f) ∧ n < 1073741824
def PL (M : mi_H) (p : Nat) (size : Int32) (n m : Nat) (q : Nat → Nat) (f : Nat → Nat → Int32) (cc : Int32) : Prop :=
  M.1 p = some (ob 7 [.int size, .ref (q 1), .ref (q 2), .ref (q 3), .ref (q 4), .ref (q 5), .ref (q 6), .int cc]) ∧ (∀ i, 1 ≤ i → i ≤ 5 → M.1 (q i) = some (ar .int n (f i))) ∧ M.1 (q 6) = some (ar .char m (f 6))
theorem okc_v {pc na ci b : Nat} {lv : List (Nat × Value)} {st As : List Value} {M : mi_H} {l : List Value} (h1 : (st.take na).reverse = .ref b :: As) (h2 : decide (na ≤ st.length) = true) (h3 : decide (((st.drop na).map fun v => v.category).sum ≤ 8) = true) (h : M.1 b = some (ob ci l)) : mi_okc (some ci) na (pc, lv, st, M) = true := by
  unfold mi_okc
  dsimp only
  rw [h2, h3, h1]
  simp only [h, ob]
  simp
theorem nI_val {n : Nat} (h : n < 1073741824) : (nI n).toInt = n := by
  show (Int32.ofNat n).toInt = n
  exact Int32.toInt_ofNat_of_lt (by omega)
theorem vin_iff {a : Int32} {n : Nat} (h0 : 0 ≤ a.toInt) (h : a.toInt < n) : vp_in a n := by
  rintro (h3 | h3)
  · have h4 := Int32.lt_iff_toInt_lt.mp h3
    have : (0 : Int32).toInt = 0 := rfl
    omega
  · have h4 : a.toNatClampNeg = a.toInt.toNat := rfl
    rw [h4] at h3
    omega
theorem nneg {a : Int32} (h : ¬ a < 0) : 0 ≤ a.toInt := by
  have := Int32.le_iff_toInt_le.mp (Int32.not_lt.mp h)
  have h0 : (0 : Int32).toInt = 0 := rfl
  omega
theorem lt_sub {a k j : Int32} {n : Nat} (hn : n < 1073741824) (h0 : ¬ a < 0) (h : a < nI n - k) (h1 : 0 ≤ j.toInt) (h2 : j.toInt ≤ k.toInt) (h3 : k.toInt < 1073741824) : vp_in (a + j) n := by
  have e1 := nI_val hn
  have g1 := Int32.lt_iff_toInt_lt.mp h
  rw [Int32.toInt_sub, e1] at g1
  have e4 : Int.bmod ((n : Int) - k.toInt) (2 ^ 32) = n - k.toInt := by
    apply Int.bmod_eq_of_le <;> omega
  rw [e4] at g1
  have g2 := nneg h0
  have e5 : (a + j).toInt = a.toInt + j.toInt := by
    rw [Int32.toInt_add]
    apply Int.bmod_eq_of_le <;> omega
  exact vin_iff (by rw [e5]; omega) (by rw [e5]; omega)
theorem lt_sub0 {a k : Int32} {n : Nat} (hn : n < 1073741824) (h0 : ¬ a < 0) (h : a < nI n - k) (h2 : 0 ≤ k.toInt) (h3 : k.toInt < 1073741824) : vp_in a n := by
  have h4 := lt_sub (j := 0) hn h0 h (by decide) h2 h3
  rwa [Int32.add_zero] at h4
theorem vin_ge {a : Int32} {n : Nat} (h0 : ¬ a < 0) (h : ¬ nI n ≤ a) : vp_in a n := vin_of h0 (Int32.not_le.mp h)

def sp_size (n : Nat) (f : Nat → Int32)  : Int32 := (nI n)
set_option maxHeartbeats 1000000 in
theorem ct_size {g : xe_G} {M : mi_H} {b da n : Nat} {f : Nat → Int32} (hB : BY M b da n f) {d : Nat} (hd : 1 ≤ d) : mt (mT g) d 47 [.ref b] M (fun v M' => v = some (.int (sp_size n f )) ∧ M' = M) := by
  obtain ⟨d, rfl⟩ : ∃ e, d = e + 1 := ⟨d - 1, by omega⟩
  refine mt_in (b := mb_47 g) rfl rfl ?_
  show ml (mT g) d (mb_47 g).2 (0, [(0, .ref b)], [], M) _
  refine ml_st (S' := (1, [(0, .ref b)], [.ref b], M)) rfl rfl rfl ?_
  refine mo_get (S' := (4, [(0, .ref b)], [.ref da], M)) rfl hB.1 rfl rfl ?_
  refine mo_alen (S' := (5, [(0, .ref b)], [.int (nI n)], M)) rfl hB.2.1 rfl ?_
  exact ml_ret rfl (rfl) (⟨by rw [sp_size], rfl⟩)
def sp_u1 (n : Nat) (f : Nat → Int32) (x1 : Int32) : Int32 := if x1 < 0 then (0) else (if x1 < (nI n) then (((f (Int32.toNatClampNeg x1)) &&& 255)) else (0))
set_option maxHeartbeats 1000000 in
theorem ct_u1 {g : xe_G} {M : mi_H} {b da n : Nat} {f : Nat → Int32} {x1 : Int32} (hB : BY M b da n f) {d : Nat} (hd : 1 ≤ d) : mt (mT g) d 48 [.ref b, .int x1] M (fun v M' => v = some (.int (sp_u1 n f x1)) ∧ M' = M) := by
  obtain ⟨d, rfl⟩ : ∃ e, d = e + 1 := ⟨d - 1, by omega⟩
  refine mt_in (b := mb_48 g) rfl rfl ?_
  show ml (mT g) d (mb_48 g).2 (0, [(0, .ref b), (1, .int x1)], [], M) _
  refine ml_st (S' := (1, [(0, .ref b), (1, .int x1)], [.int x1], M)) rfl rfl rfl ?_
  refine ml_if (S1 := (13, [], [], M)) (S2 := (4, [(0, .ref b), (1, .int x1)], [], M)) rfl rfl rfl (fun c_1 => ?_) (fun c_1 => ?_)
  · have c_1 : x1 < 0 := of_decide_eq_true c_1
    refine ml_st (S' := (14, [], [.int 0], M)) rfl rfl rfl ?_
    refine ml_st (S' := (27, [], [.int 0], M)) rfl rfl rfl ?_
    exact ml_ret rfl (rfl) (⟨by rw [sp_u1, if_pos c_1], rfl⟩)
  · have c_1 : ¬ (x1 < 0) := of_decide_eq_false c_1
    refine ml_st (S' := (5, [(0, .ref b), (1, .int x1)], [.int x1], M)) rfl rfl rfl ?_
    refine ml_st (S' := (6, [(0, .ref b), (1, .int x1)], [.ref b, .int x1], M)) rfl rfl rfl ?_
    refine mo_get (S' := (9, [(0, .ref b), (1, .int x1)], [.ref da, .int x1], M)) rfl hB.1 rfl rfl ?_
    refine mo_alen (S' := (10, [(0, .ref b), (1, .int x1)], [.int (nI n), .int x1], M)) rfl hB.2.1 rfl ?_
    refine ml_if2 (S1 := (17, [(0, .ref b), (1, .int x1)], [], M)) (S2 := (13, [], [], M)) rfl rfl rfl (fun c_10 => ?_) (fun c_10 => ?_)
    · have c_10 : x1 < (nI n) := of_decide_eq_true c_10
      refine ml_st (S' := (18, [(0, .ref b), (1, .int x1)], [.ref b], M)) rfl rfl rfl ?_
      refine mo_get (S' := (21, [(0, .ref b), (1, .int x1)], [.ref da], M)) rfl hB.1 rfl rfl ?_
      refine ml_st (S' := (22, [(0, .ref b), (1, .int x1)], [.int x1, .ref da], M)) rfl rfl rfl ?_
      refine mo_ald (S' := (23, [(0, .ref b), (1, .int x1)], [.int (f (Int32.toNatClampNeg x1))], M)) rfl hB.2.1 (vin_of c_1 c_10) rfl ?_
      refine ml_st (S' := (26, [(0, .ref b), (1, .int x1)], [.int 255, .int (f (Int32.toNatClampNeg x1))], M)) rfl rfl rfl ?_
      refine ml_st (S' := (27, [], [.int ((f (Int32.toNatClampNeg x1)) &&& 255)], M)) rfl rfl rfl ?_
      exact ml_ret rfl (rfl) (⟨by rw [sp_u1, if_neg c_1, if_pos c_10], rfl⟩)
    · have c_10 : ¬ (x1 < (nI n)) := of_decide_eq_false c_10
      refine ml_st (S' := (14, [], [.int 0], M)) rfl rfl rfl ?_
      refine ml_st (S' := (27, [], [.int 0], M)) rfl rfl rfl ?_
      exact ml_ret rfl (rfl) (⟨by rw [sp_u1, if_neg c_1, if_neg c_10], rfl⟩)
def sp_u2 (n : Nat) (f : Nat → Int32) (x1 : Int32) : Int32 := if x1 < 0 then (0) else (if x1 < ((nI n) - 1) then (((((f (Int32.toNatClampNeg x1)) &&& 255) <<< (8 &&& 31)) ||| ((f (Int32.toNatClampNeg (x1 + 1))) &&& 255))) else (0))
set_option maxHeartbeats 1000000 in
theorem ct_u2 {g : xe_G} {M : mi_H} {b da n : Nat} {f : Nat → Int32} {x1 : Int32} (hB : BY M b da n f) {d : Nat} (hd : 1 ≤ d) : mt (mT g) d 49 [.ref b, .int x1] M (fun v M' => v = some (.int (sp_u2 n f x1)) ∧ M' = M) := by
  obtain ⟨d, rfl⟩ : ∃ e, d = e + 1 := ⟨d - 1, by omega⟩
  refine mt_in (b := mb_49 g) rfl rfl ?_
  show ml (mT g) d (mb_49 g).2 (0, [(0, .ref b), (1, .int x1)], [], M) _
  refine ml_st (S' := (1, [(0, .ref b), (1, .int x1)], [.int x1], M)) rfl rfl rfl ?_
  refine ml_if (S1 := (15, [], [], M)) (S2 := (4, [(0, .ref b), (1, .int x1)], [], M)) rfl rfl rfl (fun c_1 => ?_) (fun c_1 => ?_)
  · have c_1 : x1 < 0 := of_decide_eq_true c_1
    refine ml_st (S' := (16, [], [.int 0], M)) rfl rfl rfl ?_
    exact ml_ret rfl (rfl) (⟨by rw [sp_u2, if_pos c_1], rfl⟩)
  · have c_1 : ¬ (x1 < 0) := of_decide_eq_false c_1
    refine ml_st (S' := (5, [(0, .ref b), (1, .int x1)], [.int x1], M)) rfl rfl rfl ?_
    refine ml_st (S' := (6, [(0, .ref b), (1, .int x1)], [.ref b, .int x1], M)) rfl rfl rfl ?_
    refine mo_get (S' := (9, [(0, .ref b), (1, .int x1)], [.ref da, .int x1], M)) rfl hB.1 rfl rfl ?_
    refine mo_alen (S' := (10, [(0, .ref b), (1, .int x1)], [.int (nI n), .int x1], M)) rfl hB.2.1 rfl ?_
    refine ml_st (S' := (11, [(0, .ref b), (1, .int x1)], [.int 1, .int (nI n), .int x1], M)) rfl rfl rfl ?_
    refine ml_st (S' := (12, [(0, .ref b), (1, .int x1)], [.int ((nI n) - 1), .int x1], M)) rfl rfl rfl ?_
    refine ml_if2 (S1 := (17, [(0, .ref b), (1, .int x1)], [], M)) (S2 := (15, [], [], M)) rfl rfl rfl (fun c_12 => ?_) (fun c_12 => ?_)
    · have c_12 : x1 < ((nI n) - 1) := of_decide_eq_true c_12
      refine ml_st (S' := (18, [(0, .ref b), (1, .int x1)], [.ref b], M)) rfl rfl rfl ?_
      refine mo_get (S' := (21, [(0, .ref b), (1, .int x1)], [.ref da], M)) rfl hB.1 rfl rfl ?_
      refine ml_st (S' := (22, [(0, .ref b), (1, .int x1)], [.int x1, .ref da], M)) rfl rfl rfl ?_
      refine mo_ald (S' := (23, [(0, .ref b), (1, .int x1)], [.int (f (Int32.toNatClampNeg x1))], M)) rfl hB.2.1 (lt_sub0 hB.2.2 c_1 c_12 (by decide) (by decide)) rfl ?_
      refine ml_st (S' := (26, [(0, .ref b), (1, .int x1)], [.int 255, .int (f (Int32.toNatClampNeg x1))], M)) rfl rfl rfl ?_
      refine ml_st (S' := (27, [(0, .ref b), (1, .int x1)], [.int ((f (Int32.toNatClampNeg x1)) &&& 255)], M)) rfl rfl rfl ?_
      refine ml_st (S' := (29, [(0, .ref b), (1, .int x1)], [.int 8, .int ((f (Int32.toNatClampNeg x1)) &&& 255)], M)) rfl rfl rfl ?_
      refine ml_st (S' := (30, [(0, .ref b), (1, .int x1)], [.int (((f (Int32.toNatClampNeg x1)) &&& 255) <<< (8 &&& 31))], M)) rfl rfl rfl ?_
      refine ml_st (S' := (31, [(0, .ref b), (1, .int x1)], [.ref b, .int (((f (Int32.toNatClampNeg x1)) &&& 255) <<< (8 &&& 31))], M)) rfl rfl rfl ?_
      refine mo_get (S' := (34, [(0, .ref b), (1, .int x1)], [.ref da, .int (((f (Int32.toNatClampNeg x1)) &&& 255) <<< (8 &&& 31))], M)) rfl hB.1 rfl rfl ?_
      refine ml_st (S' := (35, [(0, .ref b), (1, .int x1)], [.int x1, .ref da, .int (((f (Int32.toNatClampNeg x1)) &&& 255) <<< (8 &&& 31))], M)) rfl rfl rfl ?_
      refine ml_st (S' := (36, [(0, .ref b), (1, .int x1)], [.int 1, .int x1, .ref da, .int (((f (Int32.toNatClampNeg x1)) &&& 255) <<< (8 &&& 31))], M)) rfl rfl rfl ?_
      refine ml_st (S' := (37, [(0, .ref b), (1, .int x1)], [.int (x1 + 1), .ref da, .int (((f (Int32.toNatClampNeg x1)) &&& 255) <<< (8 &&& 31))], M)) rfl rfl rfl ?_
      refine mo_ald (S' := (38, [(0, .ref b), (1, .int x1)], [.int (f (Int32.toNatClampNeg (x1 + 1))), .int (((f (Int32.toNatClampNeg x1)) &&& 255) <<< (8 &&& 31))], M)) rfl hB.2.1 (lt_sub hB.2.2 c_1 c_12 (by decide) (by decide) (by decide)) rfl ?_
      refine ml_st (S' := (41, [(0, .ref b), (1, .int x1)], [.int 255, .int (f (Int32.toNatClampNeg (x1 + 1))), .int (((f (Int32.toNatClampNeg x1)) &&& 255) <<< (8 &&& 31))], M)) rfl rfl rfl ?_
      refine ml_st (S' := (42, [(0, .ref b), (1, .int x1)], [.int ((f (Int32.toNatClampNeg (x1 + 1))) &&& 255), .int (((f (Int32.toNatClampNeg x1)) &&& 255) <<< (8 &&& 31))], M)) rfl rfl rfl ?_
      refine ml_st (S' := (43, [(0, .ref b), (1, .int x1)], [.int ((((f (Int32.toNatClampNeg x1)) &&& 255) <<< (8 &&& 31)) ||| ((f (Int32.toNatClampNeg (x1 + 1))) &&& 255))], M)) rfl rfl rfl ?_
      exact ml_ret rfl (rfl) (⟨by rw [sp_u2, if_neg c_1, if_pos c_12], rfl⟩)
    · have c_12 : ¬ (x1 < ((nI n) - 1)) := of_decide_eq_false c_12
      refine ml_st (S' := (16, [], [.int 0], M)) rfl rfl rfl ?_
      exact ml_ret rfl (rfl) (⟨by rw [sp_u2, if_neg c_1, if_neg c_12], rfl⟩)
def sp_u4 (n : Nat) (f : Nat → Int32) (x1 : Int32) : Int32 := if x1 < 0 then (0) else (if x1 < ((nI n) - 3) then ((((((f (Int32.toNatClampNeg x1)) <<< (24 &&& 31)) ||| (((f (Int32.toNatClampNeg (x1 + 1))) &&& 255) <<< (16 &&& 31))) ||| (((f (Int32.toNatClampNeg (x1 + 2))) &&& 255) <<< (8 &&& 31))) ||| ((f (Int32.toNatClampNeg (x1 + 3))) &&& 255))) else (0))
set_option maxHeartbeats 1000000 in
theorem ct_u4 {g : xe_G} {M : mi_H} {b da n : Nat} {f : Nat → Int32} {x1 : Int32} (hB : BY M b da n f) {d : Nat} (hd : 1 ≤ d) : mt (mT g) d 50 [.ref b, .int x1] M (fun v M' => v = some (.int (sp_u4 n f x1)) ∧ M' = M) := by
  obtain ⟨d, rfl⟩ : ∃ e, d = e + 1 := ⟨d - 1, by omega⟩
  refine mt_in (b := mb_50 g) rfl rfl ?_
  show ml (mT g) d (mb_50 g).2 (0, [(0, .ref b), (1, .int x1)], [], M) _
  refine ml_st (S' := (1, [(0, .ref b), (1, .int x1)], [.int x1], M)) rfl rfl rfl ?_
  refine ml_if (S1 := (15, [], [], M)) (S2 := (4, [(0, .ref b), (1, .int x1)], [], M)) rfl rfl rfl (fun c_1 => ?_) (fun c_1 => ?_)
  · have c_1 : x1 < 0 := of_decide_eq_true c_1
    refine ml_st (S' := (16, [], [.int 0], M)) rfl rfl rfl ?_
    exact ml_ret rfl (rfl) (⟨by rw [sp_u4, if_pos c_1], rfl⟩)
  · have c_1 : ¬ (x1 < 0) := of_decide_eq_false c_1
    refine ml_st (S' := (5, [(0, .ref b), (1, .int x1)], [.int x1], M)) rfl rfl rfl ?_
    refine ml_st (S' := (6, [(0, .ref b), (1, .int x1)], [.ref b, .int x1], M)) rfl rfl rfl ?_
    refine mo_get (S' := (9, [(0, .ref b), (1, .int x1)], [.ref da, .int x1], M)) rfl hB.1 rfl rfl ?_
    refine mo_alen (S' := (10, [(0, .ref b), (1, .int x1)], [.int (nI n), .int x1], M)) rfl hB.2.1 rfl ?_
    refine ml_st (S' := (11, [(0, .ref b), (1, .int x1)], [.int 3, .int (nI n), .int x1], M)) rfl rfl rfl ?_
    refine ml_st (S' := (12, [(0, .ref b), (1, .int x1)], [.int ((nI n) - 3), .int x1], M)) rfl rfl rfl ?_
    refine ml_if2 (S1 := (17, [(0, .ref b), (1, .int x1)], [], M)) (S2 := (15, [], [], M)) rfl rfl rfl (fun c_12 => ?_) (fun c_12 => ?_)
    · have c_12 : x1 < ((nI n) - 3) := of_decide_eq_true c_12
      refine ml_st (S' := (18, [(0, .ref b), (1, .int x1)], [.ref b], M)) rfl rfl rfl ?_
      refine mo_get (S' := (21, [(0, .ref b), (1, .int x1)], [.ref da], M)) rfl hB.1 rfl rfl ?_
      refine ml_st (S' := (22, [(0, .ref b), (1, .int x1)], [.int x1, .ref da], M)) rfl rfl rfl ?_
      refine mo_ald (S' := (23, [(0, .ref b), (1, .int x1)], [.int (f (Int32.toNatClampNeg x1))], M)) rfl hB.2.1 (lt_sub0 hB.2.2 c_1 c_12 (by decide) (by decide)) rfl ?_
      refine ml_st (S' := (25, [(0, .ref b), (1, .int x1)], [.int 24, .int (f (Int32.toNatClampNeg x1))], M)) rfl rfl rfl ?_
      refine ml_st (S' := (26, [(0, .ref b), (1, .int x1)], [.int ((f (Int32.toNatClampNeg x1)) <<< (24 &&& 31))], M)) rfl rfl rfl ?_
      refine ml_st (S' := (27, [(0, .ref b), (1, .int x1)], [.ref b, .int ((f (Int32.toNatClampNeg x1)) <<< (24 &&& 31))], M)) rfl rfl rfl ?_
      refine mo_get (S' := (30, [(0, .ref b), (1, .int x1)], [.ref da, .int ((f (Int32.toNatClampNeg x1)) <<< (24 &&& 31))], M)) rfl hB.1 rfl rfl ?_
      refine ml_st (S' := (31, [(0, .ref b), (1, .int x1)], [.int x1, .ref da, .int ((f (Int32.toNatClampNeg x1)) <<< (24 &&& 31))], M)) rfl rfl rfl ?_
      refine ml_st (S' := (32, [(0, .ref b), (1, .int x1)], [.int 1, .int x1, .ref da, .int ((f (Int32.toNatClampNeg x1)) <<< (24 &&& 31))], M)) rfl rfl rfl ?_
      refine ml_st (S' := (33, [(0, .ref b), (1, .int x1)], [.int (x1 + 1), .ref da, .int ((f (Int32.toNatClampNeg x1)) <<< (24 &&& 31))], M)) rfl rfl rfl ?_
      refine mo_ald (S' := (34, [(0, .ref b), (1, .int x1)], [.int (f (Int32.toNatClampNeg (x1 + 1))), .int ((f (Int32.toNatClampNeg x1)) <<< (24 &&& 31))], M)) rfl hB.2.1 (lt_sub hB.2.2 c_1 c_12 (by decide) (by decide) (by decide)) rfl ?_
      refine ml_st (S' := (37, [(0, .ref b), (1, .int x1)], [.int 255, .int (f (Int32.toNatClampNeg (x1 + 1))), .int ((f (Int32.toNatClampNeg x1)) <<< (24 &&& 31))], M)) rfl rfl rfl ?_
      refine ml_st (S' := (38, [(0, .ref b), (1, .int x1)], [.int ((f (Int32.toNatClampNeg (x1 + 1))) &&& 255), .int ((f (Int32.toNatClampNeg x1)) <<< (24 &&& 31))], M)) rfl rfl rfl ?_
      refine ml_st (S' := (40, [(0, .ref b), (1, .int x1)], [.int 16, .int ((f (Int32.toNatClampNeg (x1 + 1))) &&& 255), .int ((f (Int32.toNatClampNeg x1)) <<< (24 &&& 31))], M)) rfl rfl rfl ?_
      refine ml_st (S' := (41, [(0, .ref b), (1, .int x1)], [.int (((f (Int32.toNatClampNeg (x1 + 1))) &&& 255) <<< (16 &&& 31)), .int ((f (Int32.toNatClampNeg x1)) <<< (24 &&& 31))], M)) rfl rfl rfl ?_
      refine ml_st (S' := (42, [(0, .ref b), (1, .int x1)], [.int (((f (Int32.toNatClampNeg x1)) <<< (24 &&& 31)) ||| (((f (Int32.toNatClampNeg (x1 + 1))) &&& 255) <<< (16 &&& 31)))], M)) rfl rfl rfl ?_
      refine ml_st (S' := (43, [(0, .ref b), (1, .int x1)], [.ref b, .int (((f (Int32.toNatClampNeg x1)) <<< (24 &&& 31)) ||| (((f (Int32.toNatClampNeg (x1 + 1))) &&& 255) <<< (16 &&& 31)))], M)) rfl rfl rfl ?_
      refine mo_get (S' := (46, [(0, .ref b), (1, .int x1)], [.ref da, .int (((f (Int32.toNatClampNeg x1)) <<< (24 &&& 31)) ||| (((f (Int32.toNatClampNeg (x1 + 1))) &&& 255) <<< (16 &&& 31)))], M)) rfl hB.1 rfl rfl ?_
      refine ml_st (S' := (47, [(0, .ref b), (1, .int x1)], [.int x1, .ref da, .int (((f (Int32.toNatClampNeg x1)) <<< (24 &&& 31)) ||| (((f (Int32.toNatClampNeg (x1 + 1))) &&& 255) <<< (16 &&& 31)))], M)) rfl rfl rfl ?_
      refine ml_st (S' := (48, [(0, .ref b), (1, .int x1)], [.int 2, .int x1, .ref da, .int (((f (Int32.toNatClampNeg x1)) <<< (24 &&& 31)) ||| (((f (Int32.toNatClampNeg (x1 + 1))) &&& 255) <<< (16 &&& 31)))], M)) rfl rfl rfl ?_
      refine ml_st (S' := (49, [(0, .ref b), (1, .int x1)], [.int (x1 + 2), .ref da, .int (((f (Int32.toNatClampNeg x1)) <<< (24 &&& 31)) ||| (((f (Int32.toNatClampNeg (x1 + 1))) &&& 255) <<< (16 &&& 31)))], M)) rfl rfl rfl ?_
      refine mo_ald (S' := (50, [(0, .ref b), (1, .int x1)], [.int (f (Int32.toNatClampNeg (x1 + 2))), .int (((f (Int32.toNatClampNeg x1)) <<< (24 &&& 31)) ||| (((f (Int32.toNatClampNeg (x1 + 1))) &&& 255) <<< (16 &&& 31)))], M)) rfl hB.2.1 (lt_sub hB.2.2 c_1 c_12 (by decide) (by decide) (by decide)) rfl ?_
      refine ml_st (S' := (53, [(0, .ref b), (1, .int x1)], [.int 255, .int (f (Int32.toNatClampNeg (x1 + 2))), .int (((f (Int32.toNatClampNeg x1)) <<< (24 &&& 31)) ||| (((f (Int32.toNatClampNeg (x1 + 1))) &&& 255) <<< (16 &&& 31)))], M)) rfl rfl rfl ?_
      refine ml_st (S' := (54, [(0, .ref b), (1, .int x1)], [.int ((f (Int32.toNatClampNeg (x1 + 2))) &&& 255), .int (((f (Int32.toNatClampNeg x1)) <<< (24 &&& 31)) ||| (((f (Int32.toNatClampNeg (x1 + 1))) &&& 255) <<< (16 &&& 31)))], M)) rfl rfl rfl ?_
      refine ml_st (S' := (56, [(0, .ref b), (1, .int x1)], [.int 8, .int ((f (Int32.toNatClampNeg (x1 + 2))) &&& 255), .int (((f (Int32.toNatClampNeg x1)) <<< (24 &&& 31)) ||| (((f (Int32.toNatClampNeg (x1 + 1))) &&& 255) <<< (16 &&& 31)))], M)) rfl rfl rfl ?_
      refine ml_st (S' := (57, [(0, .ref b), (1, .int x1)], [.int (((f (Int32.toNatClampNeg (x1 + 2))) &&& 255) <<< (8 &&& 31)), .int (((f (Int32.toNatClampNeg x1)) <<< (24 &&& 31)) ||| (((f (Int32.toNatClampNeg (x1 + 1))) &&& 255) <<< (16 &&& 31)))], M)) rfl rfl rfl ?_
      refine ml_st (S' := (58, [(0, .ref b), (1, .int x1)], [.int ((((f (Int32.toNatClampNeg x1)) <<< (24 &&& 31)) ||| (((f (Int32.toNatClampNeg (x1 + 1))) &&& 255) <<< (16 &&& 31))) ||| (((f (Int32.toNatClampNeg (x1 + 2))) &&& 255) <<< (8 &&& 31)))], M)) rfl rfl rfl ?_
      refine ml_st (S' := (59, [(0, .ref b), (1, .int x1)], [.ref b, .int ((((f (Int32.toNatClampNeg x1)) <<< (24 &&& 31)) ||| (((f (Int32.toNatClampNeg (x1 + 1))) &&& 255) <<< (16 &&& 31))) ||| (((f (Int32.toNatClampNeg (x1 + 2))) &&& 255) <<< (8 &&& 31)))], M)) rfl rfl rfl ?_
      refine mo_get (S' := (62, [(0, .ref b), (1, .int x1)], [.ref da, .int ((((f (Int32.toNatClampNeg x1)) <<< (24 &&& 31)) ||| (((f (Int32.toNatClampNeg (x1 + 1))) &&& 255) <<< (16 &&& 31))) ||| (((f (Int32.toNatClampNeg (x1 + 2))) &&& 255) <<< (8 &&& 31)))], M)) rfl hB.1 rfl rfl ?_
      refine ml_st (S' := (63, [(0, .ref b), (1, .int x1)], [.int x1, .ref da, .int ((((f (Int32.toNatClampNeg x1)) <<< (24 &&& 31)) ||| (((f (Int32.toNatClampNeg (x1 + 1))) &&& 255) <<< (16 &&& 31))) ||| (((f (Int32.toNatClampNeg (x1 + 2))) &&& 255) <<< (8 &&& 31)))], M)) rfl rfl rfl ?_
      refine ml_st (S' := (64, [(0, .ref b), (1, .int x1)], [.int 3, .int x1, .ref da, .int ((((f (Int32.toNatClampNeg x1)) <<< (24 &&& 31)) ||| (((f (Int32.toNatClampNeg (x1 + 1))) &&& 255) <<< (16 &&& 31))) ||| (((f (Int32.toNatClampNeg (x1 + 2))) &&& 255) <<< (8 &&& 31)))], M)) rfl rfl rfl ?_
      refine ml_st (S' := (65, [(0, .ref b), (1, .int x1)], [.int (x1 + 3), .ref da, .int ((((f (Int32.toNatClampNeg x1)) <<< (24 &&& 31)) ||| (((f (Int32.toNatClampNeg (x1 + 1))) &&& 255) <<< (16 &&& 31))) ||| (((f (Int32.toNatClampNeg (x1 + 2))) &&& 255) <<< (8 &&& 31)))], M)) rfl rfl rfl ?_
      refine mo_ald (S' := (66, [(0, .ref b), (1, .int x1)], [.int (f (Int32.toNatClampNeg (x1 + 3))), .int ((((f (Int32.toNatClampNeg x1)) <<< (24 &&& 31)) ||| (((f (Int32.toNatClampNeg (x1 + 1))) &&& 255) <<< (16 &&& 31))) ||| (((f (Int32.toNatClampNeg (x1 + 2))) &&& 255) <<< (8 &&& 31)))], M)) rfl hB.2.1 (lt_sub hB.2.2 c_1 c_12 (by decide) (by decide) (by decide)) rfl ?_
      refine ml_st (S' := (69, [(0, .ref b), (1, .int x1)], [.int 255, .int (f (Int32.toNatClampNeg (x1 + 3))), .int ((((f (Int32.toNatClampNeg x1)) <<< (24 &&& 31)) ||| (((f (Int32.toNatClampNeg (x1 + 1))) &&& 255) <<< (16 &&& 31))) ||| (((f (Int32.toNatClampNeg (x1 + 2))) &&& 255) <<< (8 &&& 31)))], M)) rfl rfl rfl ?_
      refine ml_st (S' := (70, [(0, .ref b), (1, .int x1)], [.int ((f (Int32.toNatClampNeg (x1 + 3))) &&& 255), .int ((((f (Int32.toNatClampNeg x1)) <<< (24 &&& 31)) ||| (((f (Int32.toNatClampNeg (x1 + 1))) &&& 255) <<< (16 &&& 31))) ||| (((f (Int32.toNatClampNeg (x1 + 2))) &&& 255) <<< (8 &&& 31)))], M)) rfl rfl rfl ?_
      refine ml_st (S' := (71, [(0, .ref b), (1, .int x1)], [.int (((((f (Int32.toNatClampNeg x1)) <<< (24 &&& 31)) ||| (((f (Int32.toNatClampNeg (x1 + 1))) &&& 255) <<< (16 &&& 31))) ||| (((f (Int32.toNatClampNeg (x1 + 2))) &&& 255) <<< (8 &&& 31))) ||| ((f (Int32.toNatClampNeg (x1 + 3))) &&& 255))], M)) rfl rfl rfl ?_
      exact ml_ret rfl (rfl) (⟨by rw [sp_u4, if_neg c_1, if_pos c_12], rfl⟩)
    · have c_12 : ¬ (x1 < ((nI n) - 3)) := of_decide_eq_false c_12
      refine ml_st (S' := (16, [], [.int 0], M)) rfl rfl rfl ?_
      exact ml_ret rfl (rfl) (⟨by rw [sp_u4, if_neg c_1, if_neg c_12], rfl⟩)
def sp_goesOn (n : Nat) (f : Nat → Int32) (x1 : Int32) (x2 : Int32) : Int32 := if x1 < 0 then (0) else (if x2 ≤ x1 then (0) else (if (nI n) ≤ x1 then (0) else (if ¬ ((f (Int32.toNatClampNeg x1)) &&& 192) = 128 then (0) else (1))))
set_option maxHeartbeats 1000000 in
theorem ct_goesOn {g : xe_G} {M : mi_H} {b da n : Nat} {f : Nat → Int32} {x1 x2 : Int32} (hB : BY M b da n f) {d : Nat} (hd : 1 ≤ d) : mt (mT g) d 46 [.ref b, .int x1, .int x2] M (fun v M' => v = some (.int (sp_goesOn n f x1 x2)) ∧ M' = M) := by
  obtain ⟨d, rfl⟩ : ∃ e, d = e + 1 := ⟨d - 1, by omega⟩
  refine mt_in (b := mb_46 g) rfl rfl ?_
  show ml (mT g) d (mb_46 g).2 (0, [(0, .ref b), (1, .int x1), (2, .int x2)], [], M) _
  refine ml_st (S' := (1, [(0, .ref b), (1, .int x1), (2, .int x2)], [.int x1], M)) rfl rfl rfl ?_
  refine ml_if (S1 := (38, [], [], M)) (S2 := (4, [(0, .ref b), (1, .int x1), (2, .int x2)], [], M)) rfl rfl rfl (fun c_1 => ?_) (fun c_1 => ?_)
  · have c_1 : x1 < 0 := of_decide_eq_true c_1
    refine ml_st (S' := (39, [], [.int 0], M)) rfl rfl rfl ?_
    exact ml_ret rfl (rfl) (⟨by rw [sp_goesOn, if_pos c_1], rfl⟩)
  · have c_1 : ¬ (x1 < 0) := of_decide_eq_false c_1
    refine ml_st (S' := (5, [(0, .ref b), (1, .int x1), (2, .int x2)], [.int x1], M)) rfl rfl rfl ?_
    refine ml_st (S' := (6, [(0, .ref b), (1, .int x1), (2, .int x2)], [.int x2, .int x1], M)) rfl rfl rfl ?_
    refine ml_if2 (S1 := (38, [], [], M)) (S2 := (9, [(0, .ref b), (1, .int x1), (2, .int x2)], [], M)) rfl rfl rfl (fun c_6 => ?_) (fun c_6 => ?_)
    · have c_6 : x2 ≤ x1 := of_decide_eq_true c_6
      refine ml_st (S' := (39, [], [.int 0], M)) rfl rfl rfl ?_
      exact ml_ret rfl (rfl) (⟨by rw [sp_goesOn, if_neg c_1, if_pos c_6], rfl⟩)
    · have c_6 : ¬ (x2 ≤ x1) := of_decide_eq_false c_6
      refine ml_st (S' := (10, [(0, .ref b), (1, .int x1), (2, .int x2)], [.int x1], M)) rfl rfl rfl ?_
      refine ml_st (S' := (11, [(0, .ref b), (1, .int x1), (2, .int x2)], [.ref b, .int x1], M)) rfl rfl rfl ?_
      refine mo_get (S' := (14, [(0, .ref b), (1, .int x1), (2, .int x2)], [.ref da, .int x1], M)) rfl hB.1 rfl rfl ?_
      refine mo_alen (S' := (15, [(0, .ref b), (1, .int x1), (2, .int x2)], [.int (nI n), .int x1], M)) rfl hB.2.1 rfl ?_
      refine ml_if2 (S1 := (38, [], [], M)) (S2 := (18, [(0, .ref b), (1, .int x1), (2, .int x2)], [], M)) rfl rfl rfl (fun c_15 => ?_) (fun c_15 => ?_)
      · have c_15 : (nI n) ≤ x1 := of_decide_eq_true c_15
        refine ml_st (S' := (39, [], [.int 0], M)) rfl rfl rfl ?_
        exact ml_ret rfl (rfl) (⟨by rw [sp_goesOn, if_neg c_1, if_neg c_6, if_pos c_15], rfl⟩)
      · have c_15 : ¬ ((nI n) ≤ x1) := of_decide_eq_false c_15
        refine ml_st (S' := (19, [(0, .ref b), (1, .int x1), (2, .int x2)], [.ref b], M)) rfl rfl rfl ?_
        refine mo_get (S' := (22, [(0, .ref b), (1, .int x1), (2, .int x2)], [.ref da], M)) rfl hB.1 rfl rfl ?_
        refine ml_st (S' := (23, [(0, .ref b), (1, .int x1), (2, .int x2)], [.int x1, .ref da], M)) rfl rfl rfl ?_
        refine mo_ald (S' := (24, [(0, .ref b), (1, .int x1), (2, .int x2)], [.int (f (Int32.toNatClampNeg x1))], M)) rfl hB.2.1 (vin_ge c_1 c_15) rfl ?_
        refine ml_st (S' := (27, [(0, .ref b), (1, .int x1), (2, .int x2)], [.int 192, .int (f (Int32.toNatClampNeg x1))], M)) rfl rfl rfl ?_
        refine ml_st (S' := (28, [(0, .ref b), (1, .int x1), (2, .int x2)], [.int ((f (Int32.toNatClampNeg x1)) &&& 192)], M)) rfl rfl rfl ?_
        refine ml_st (S' := (31, [(0, .ref b), (1, .int x1), (2, .int x2)], [.int 128, .int ((f (Int32.toNatClampNeg x1)) &&& 192)], M)) rfl rfl rfl ?_
        refine ml_if2 (S1 := (38, [], [], M)) (S2 := (34, [(0, .ref b), (1, .int x1), (2, .int x2)], [], M)) rfl rfl rfl (fun c_31 => ?_) (fun c_31 => ?_)
        · have c_31 : ¬ ((f (Int32.toNatClampNeg x1)) &&& 192) = 128 := of_decide_eq_true c_31
          refine ml_st (S' := (39, [], [.int 0], M)) rfl rfl rfl ?_
          exact ml_ret rfl (rfl) (⟨by rw [sp_goesOn, if_neg c_1, if_neg c_6, if_neg c_15, if_pos c_31], rfl⟩)
        · have c_31 : ¬ (¬ ((f (Int32.toNatClampNeg x1)) &&& 192) = 128) := of_decide_eq_false c_31
          refine ml_st (S' := (35, [(0, .ref b), (1, .int x1), (2, .int x2)], [.int 1], M)) rfl rfl rfl ?_
          refine ml_st (S' := (39, [], [.int 1], M)) rfl rfl rfl ?_
          exact ml_ret rfl (rfl) (⟨by rw [sp_goesOn, if_neg c_1, if_neg c_6, if_neg c_15, if_neg c_31], rfl⟩)
def sp_tagOf (n m : Nat) (f : Nat → Nat → Int32) (x1 : Int32) : Int32 := if x1 < 0 then (0) else (if x1 < (nI n) then (((f 1) (Int32.toNatClampNeg x1))) else (0))
set_option maxHeartbeats 1000000 in
theorem ct_tagOf {g : xe_G} {M : mi_H} {p : Nat} {size : Int32} {n m : Nat} {q : Nat → Nat} {f : Nat → Nat → Int32} {cc : Int32} {x1 : Int32} (hP : PL M p size n m q f cc) {d : Nat} (hd : 1 ≤ d) : mt (mT g) d 138 [.ref p, .int x1] M (fun v M' => v = some (.int (sp_tagOf n m f x1)) ∧ M' = M) := by
  obtain ⟨d, rfl⟩ : ∃ e, d = e + 1 := ⟨d - 1, by omega⟩
  refine mt_in (b := mb_138 g) rfl rfl ?_
  show ml (mT g) d (mb_138 g).2 (0, [(0, .ref p), (1, .int x1)], [], M) _
  refine ml_st (S' := (1, [(0, .ref p), (1, .int x1)], [.int x1], M)) rfl rfl rfl ?_
  refine ml_if (S1 := (13, [], [], M)) (S2 := (4, [(0, .ref p), (1, .int x1)], [], M)) rfl rfl rfl (fun c_1 => ?_) (fun c_1 => ?_)
  · have c_1 : x1 < 0 := of_decide_eq_true c_1
    refine ml_st (S' := (14, [], [.int 0], M)) rfl rfl rfl ?_
    refine ml_st (S' := (23, [], [.int 0], M)) rfl rfl rfl ?_
    exact ml_ret rfl (rfl) (⟨by rw [sp_tagOf, if_pos c_1], rfl⟩)
  · have c_1 : ¬ (x1 < 0) := of_decide_eq_false c_1
    refine ml_st (S' := (5, [(0, .ref p), (1, .int x1)], [.int x1], M)) rfl rfl rfl ?_
    refine ml_st (S' := (6, [(0, .ref p), (1, .int x1)], [.ref p, .int x1], M)) rfl rfl rfl ?_
    refine mo_get (S' := (9, [(0, .ref p), (1, .int x1)], [.ref (q 1), .int x1], M)) rfl hP.1 rfl rfl ?_
    refine mo_alen (S' := (10, [(0, .ref p), (1, .int x1)], [.int (nI n), .int x1], M)) rfl (hP.2.1 1 (by decide) (by decide)) rfl ?_
    refine ml_if2 (S1 := (17, [(0, .ref p), (1, .int x1)], [], M)) (S2 := (13, [], [], M)) rfl rfl rfl (fun c_10 => ?_) (fun c_10 => ?_)
    · have c_10 : x1 < (nI n) := of_decide_eq_true c_10
      refine ml_st (S' := (18, [(0, .ref p), (1, .int x1)], [.ref p], M)) rfl rfl rfl ?_
      refine mo_get (S' := (21, [(0, .ref p), (1, .int x1)], [.ref (q 1)], M)) rfl hP.1 rfl rfl ?_
      refine ml_st (S' := (22, [(0, .ref p), (1, .int x1)], [.int x1, .ref (q 1)], M)) rfl rfl rfl ?_
      refine mo_ald (S' := (23, [], [.int ((f 1) (Int32.toNatClampNeg x1))], M)) rfl (hP.2.1 1 (by decide) (by decide)) (vin_of c_1 c_10) rfl ?_
      exact ml_ret rfl (rfl) (⟨by rw [sp_tagOf, if_neg c_1, if_pos c_10], rfl⟩)
    · have c_10 : ¬ (x1 < (nI n)) := of_decide_eq_false c_10
      refine ml_st (S' := (14, [], [.int 0], M)) rfl rfl rfl ?_
      refine ml_st (S' := (23, [], [.int 0], M)) rfl rfl rfl ?_
      exact ml_ret rfl (rfl) (⟨by rw [sp_tagOf, if_neg c_1, if_neg c_10], rfl⟩)
def sp_tagPlace (n m : Nat) (f : Nat → Nat → Int32) (x1 : Int32) : Int32 := if x1 < 0 then (0) else (if x1 < (nI n) then (((f 2) (Int32.toNatClampNeg x1))) else (0))
set_option maxHeartbeats 1000000 in
theorem ct_tagPlace {g : xe_G} {M : mi_H} {p : Nat} {size : Int32} {n m : Nat} {q : Nat → Nat} {f : Nat → Nat → Int32} {cc : Int32} {x1 : Int32} (hP : PL M p size n m q f cc) {d : Nat} (hd : 1 ≤ d) : mt (mT g) d 139 [.ref p, .int x1] M (fun v M' => v = some (.int (sp_tagPlace n m f x1)) ∧ M' = M) := by
  obtain ⟨d, rfl⟩ : ∃ e, d = e + 1 := ⟨d - 1, by omega⟩
  refine mt_in (b := mb_139 g) rfl rfl ?_
  show ml (mT g) d (mb_139 g).2 (0, [(0, .ref p), (1, .int x1)], [], M) _
  refine ml_st (S' := (1, [(0, .ref p), (1, .int x1)], [.int x1], M)) rfl rfl rfl ?_
  refine ml_if (S1 := (13, [], [], M)) (S2 := (4, [(0, .ref p), (1, .int x1)], [], M)) rfl rfl rfl (fun c_1 => ?_) (fun c_1 => ?_)
  · have c_1 : x1 < 0 := of_decide_eq_true c_1
    refine ml_st (S' := (14, [], [.int 0], M)) rfl rfl rfl ?_
    refine ml_st (S' := (23, [], [.int 0], M)) rfl rfl rfl ?_
    exact ml_ret rfl (rfl) (⟨by rw [sp_tagPlace, if_pos c_1], rfl⟩)
  · have c_1 : ¬ (x1 < 0) := of_decide_eq_false c_1
    refine ml_st (S' := (5, [(0, .ref p), (1, .int x1)], [.int x1], M)) rfl rfl rfl ?_
    refine ml_st (S' := (6, [(0, .ref p), (1, .int x1)], [.ref p, .int x1], M)) rfl rfl rfl ?_
    refine mo_get (S' := (9, [(0, .ref p), (1, .int x1)], [.ref (q 1), .int x1], M)) rfl hP.1 rfl rfl ?_
    refine mo_alen (S' := (10, [(0, .ref p), (1, .int x1)], [.int (nI n), .int x1], M)) rfl (hP.2.1 1 (by decide) (by decide)) rfl ?_
    refine ml_if2 (S1 := (17, [(0, .ref p), (1, .int x1)], [], M)) (S2 := (13, [], [], M)) rfl rfl rfl (fun c_10 => ?_) (fun c_10 => ?_)
    · have c_10 : x1 < (nI n) := of_decide_eq_true c_10
      refine ml_st (S' := (18, [(0, .ref p), (1, .int x1)], [.ref p], M)) rfl rfl rfl ?_
      refine mo_get (S' := (21, [(0, .ref p), (1, .int x1)], [.ref (q 2)], M)) rfl hP.1 rfl rfl ?_
      refine ml_st (S' := (22, [(0, .ref p), (1, .int x1)], [.int x1, .ref (q 2)], M)) rfl rfl rfl ?_
      refine mo_ald (S' := (23, [], [.int ((f 2) (Int32.toNatClampNeg x1))], M)) rfl (hP.2.1 2 (by decide) (by decide)) (vin_of c_1 c_10) rfl ?_
      exact ml_ret rfl (rfl) (⟨by rw [sp_tagPlace, if_neg c_1, if_pos c_10], rfl⟩)
    · have c_10 : ¬ (x1 < (nI n)) := of_decide_eq_false c_10
      refine ml_st (S' := (14, [], [.int 0], M)) rfl rfl rfl ?_
      refine ml_st (S' := (23, [], [.int 0], M)) rfl rfl rfl ?_
      exact ml_ret rfl (rfl) (⟨by rw [sp_tagPlace, if_neg c_1, if_neg c_10], rfl⟩)

theorem tag_in {n m : Nat} {f : Nat → Nat → Int32} {k t : Int32} (h : sp_tagOf n m f k = t) (ht : t ≠ 0) : vp_in k n ∧ f 1 k.toNatClampNeg = t := by
  unfold sp_tagOf at h
  split at h
  · exact absurd h.symm ht
  · split at h
    · exact ⟨vin_of ‹_› ‹_›, h⟩
    · exact absurd h.symm ht

def sp_firstIndex (n m : Nat) (f : Nat → Nat → Int32) (x1 : Int32) : Int32 := if x1 < 0 then (0) else (if (nI n) ≤ x1 then (0) else (if 7 ≤ ((f 1) (Int32.toNatClampNeg x1)) then (((f 3) (Int32.toNatClampNeg x1))) else (0)))
set_option maxHeartbeats 1000000 in
theorem ct_firstIndex {g : xe_G} {M : mi_H} {p : Nat} {size : Int32} {n m : Nat} {q : Nat → Nat} {f : Nat → Nat → Int32} {cc : Int32} {x1 : Int32} (hP : PL M p size n m q f cc) {d : Nat} (hd : 1 ≤ d) : mt (mT g) d 117 [.ref p, .int x1] M (fun v M' => v = some (.int (sp_firstIndex n m f x1)) ∧ M' = M) := by
  obtain ⟨d, rfl⟩ : ∃ e, d = e + 1 := ⟨d - 1, by omega⟩
  refine mt_in (b := mb_117 g) rfl rfl ?_
  show ml (mT g) d (mb_117 g).2 (0, [(0, .ref p), (1, .int x1)], [], M) _
  refine ml_st (S' := (1, [(0, .ref p), (1, .int x1)], [.int x1], M)) rfl rfl rfl ?_
  refine ml_if (S1 := (24, [], [], M)) (S2 := (4, [(0, .ref p), (1, .int x1)], [], M)) rfl rfl rfl (fun c_1 => ?_) (fun c_1 => ?_)
  · have c_1 : x1 < 0 := of_decide_eq_true c_1
    refine ml_st (S' := (25, [], [.int 0], M)) rfl rfl rfl ?_
    refine ml_st (S' := (34, [], [.int 0], M)) rfl rfl rfl ?_
    exact ml_ret rfl (rfl) (⟨by rw [sp_firstIndex, if_pos c_1], rfl⟩)
  · have c_1 : ¬ (x1 < 0) := of_decide_eq_false c_1
    refine ml_st (S' := (5, [(0, .ref p), (1, .int x1)], [.int x1], M)) rfl rfl rfl ?_
    refine ml_st (S' := (6, [(0, .ref p), (1, .int x1)], [.ref p, .int x1], M)) rfl rfl rfl ?_
    refine mo_get (S' := (9, [(0, .ref p), (1, .int x1)], [.ref (q 1), .int x1], M)) rfl hP.1 rfl rfl ?_
    refine mo_alen (S' := (10, [(0, .ref p), (1, .int x1)], [.int (nI n), .int x1], M)) rfl (hP.2.1 1 (by decide) (by decide)) rfl ?_
    refine ml_if2 (S1 := (24, [], [], M)) (S2 := (13, [(0, .ref p), (1, .int x1)], [], M)) rfl rfl rfl (fun c_10 => ?_) (fun c_10 => ?_)
    · have c_10 : (nI n) ≤ x1 := of_decide_eq_true c_10
      refine ml_st (S' := (25, [], [.int 0], M)) rfl rfl rfl ?_
      refine ml_st (S' := (34, [], [.int 0], M)) rfl rfl rfl ?_
      exact ml_ret rfl (rfl) (⟨by rw [sp_firstIndex, if_neg c_1, if_pos c_10], rfl⟩)
    · have c_10 : ¬ ((nI n) ≤ x1) := of_decide_eq_false c_10
      refine ml_st (S' := (14, [(0, .ref p), (1, .int x1)], [.ref p], M)) rfl rfl rfl ?_
      refine mo_get (S' := (17, [(0, .ref p), (1, .int x1)], [.ref (q 1)], M)) rfl hP.1 rfl rfl ?_
      refine ml_st (S' := (18, [(0, .ref p), (1, .int x1)], [.int x1, .ref (q 1)], M)) rfl rfl rfl ?_
      refine mo_ald (S' := (19, [(0, .ref p), (1, .int x1)], [.int ((f 1) (Int32.toNatClampNeg x1))], M)) rfl (hP.2.1 1 (by decide) (by decide)) (vin_ge c_1 c_10) rfl ?_
      refine ml_st (S' := (21, [(0, .ref p), (1, .int x1)], [.int 7, .int ((f 1) (Int32.toNatClampNeg x1))], M)) rfl rfl rfl ?_
      refine ml_if2 (S1 := (28, [(0, .ref p), (1, .int x1)], [], M)) (S2 := (24, [], [], M)) rfl rfl rfl (fun c_21 => ?_) (fun c_21 => ?_)
      · have c_21 : 7 ≤ ((f 1) (Int32.toNatClampNeg x1)) := of_decide_eq_true c_21
        refine ml_st (S' := (29, [(0, .ref p), (1, .int x1)], [.ref p], M)) rfl rfl rfl ?_
        refine mo_get (S' := (32, [(0, .ref p), (1, .int x1)], [.ref (q 3)], M)) rfl hP.1 rfl rfl ?_
        refine ml_st (S' := (33, [(0, .ref p), (1, .int x1)], [.int x1, .ref (q 3)], M)) rfl rfl rfl ?_
        refine mo_ald (S' := (34, [], [.int ((f 3) (Int32.toNatClampNeg x1))], M)) rfl (hP.2.1 3 (by decide) (by decide)) (vin_ge c_1 c_10) rfl ?_
        exact ml_ret rfl (rfl) (⟨by rw [sp_firstIndex, if_neg c_1, if_neg c_10, if_pos c_21], rfl⟩)
      · have c_21 : ¬ (7 ≤ ((f 1) (Int32.toNatClampNeg x1))) := of_decide_eq_false c_21
        refine ml_st (S' := (25, [], [.int 0], M)) rfl rfl rfl ?_
        refine ml_st (S' := (34, [], [.int 0], M)) rfl rfl rfl ?_
        exact ml_ret rfl (rfl) (⟨by rw [sp_firstIndex, if_neg c_1, if_neg c_10, if_neg c_21], rfl⟩)
def sp_secondIndex (n m : Nat) (f : Nat → Nat → Int32) (x1 : Int32) : Int32 := if x1 < 0 then (0) else (if (nI n) ≤ x1 then (0) else (if 7 ≤ ((f 1) (Int32.toNatClampNeg x1)) then (((f 4) (Int32.toNatClampNeg x1))) else (0)))
set_option maxHeartbeats 1000000 in
theorem ct_secondIndex {g : xe_G} {M : mi_H} {p : Nat} {size : Int32} {n m : Nat} {q : Nat → Nat} {f : Nat → Nat → Int32} {cc : Int32} {x1 : Int32} (hP : PL M p size n m q f cc) {d : Nat} (hd : 1 ≤ d) : mt (mT g) d 134 [.ref p, .int x1] M (fun v M' => v = some (.int (sp_secondIndex n m f x1)) ∧ M' = M) := by
  obtain ⟨d, rfl⟩ : ∃ e, d = e + 1 := ⟨d - 1, by omega⟩
  refine mt_in (b := mb_134 g) rfl rfl ?_
  show ml (mT g) d (mb_134 g).2 (0, [(0, .ref p), (1, .int x1)], [], M) _
  refine ml_st (S' := (1, [(0, .ref p), (1, .int x1)], [.int x1], M)) rfl rfl rfl ?_
  refine ml_if (S1 := (24, [], [], M)) (S2 := (4, [(0, .ref p), (1, .int x1)], [], M)) rfl rfl rfl (fun c_1 => ?_) (fun c_1 => ?_)
  · have c_1 : x1 < 0 := of_decide_eq_true c_1
    refine ml_st (S' := (25, [], [.int 0], M)) rfl rfl rfl ?_
    refine ml_st (S' := (34, [], [.int 0], M)) rfl rfl rfl ?_
    exact ml_ret rfl (rfl) (⟨by rw [sp_secondIndex, if_pos c_1], rfl⟩)
  · have c_1 : ¬ (x1 < 0) := of_decide_eq_false c_1
    refine ml_st (S' := (5, [(0, .ref p), (1, .int x1)], [.int x1], M)) rfl rfl rfl ?_
    refine ml_st (S' := (6, [(0, .ref p), (1, .int x1)], [.ref p, .int x1], M)) rfl rfl rfl ?_
    refine mo_get (S' := (9, [(0, .ref p), (1, .int x1)], [.ref (q 1), .int x1], M)) rfl hP.1 rfl rfl ?_
    refine mo_alen (S' := (10, [(0, .ref p), (1, .int x1)], [.int (nI n), .int x1], M)) rfl (hP.2.1 1 (by decide) (by decide)) rfl ?_
    refine ml_if2 (S1 := (24, [], [], M)) (S2 := (13, [(0, .ref p), (1, .int x1)], [], M)) rfl rfl rfl (fun c_10 => ?_) (fun c_10 => ?_)
    · have c_10 : (nI n) ≤ x1 := of_decide_eq_true c_10
      refine ml_st (S' := (25, [], [.int 0], M)) rfl rfl rfl ?_
      refine ml_st (S' := (34, [], [.int 0], M)) rfl rfl rfl ?_
      exact ml_ret rfl (rfl) (⟨by rw [sp_secondIndex, if_neg c_1, if_pos c_10], rfl⟩)
    · have c_10 : ¬ ((nI n) ≤ x1) := of_decide_eq_false c_10
      refine ml_st (S' := (14, [(0, .ref p), (1, .int x1)], [.ref p], M)) rfl rfl rfl ?_
      refine mo_get (S' := (17, [(0, .ref p), (1, .int x1)], [.ref (q 1)], M)) rfl hP.1 rfl rfl ?_
      refine ml_st (S' := (18, [(0, .ref p), (1, .int x1)], [.int x1, .ref (q 1)], M)) rfl rfl rfl ?_
      refine mo_ald (S' := (19, [(0, .ref p), (1, .int x1)], [.int ((f 1) (Int32.toNatClampNeg x1))], M)) rfl (hP.2.1 1 (by decide) (by decide)) (vin_ge c_1 c_10) rfl ?_
      refine ml_st (S' := (21, [(0, .ref p), (1, .int x1)], [.int 7, .int ((f 1) (Int32.toNatClampNeg x1))], M)) rfl rfl rfl ?_
      refine ml_if2 (S1 := (28, [(0, .ref p), (1, .int x1)], [], M)) (S2 := (24, [], [], M)) rfl rfl rfl (fun c_21 => ?_) (fun c_21 => ?_)
      · have c_21 : 7 ≤ ((f 1) (Int32.toNatClampNeg x1)) := of_decide_eq_true c_21
        refine ml_st (S' := (29, [(0, .ref p), (1, .int x1)], [.ref p], M)) rfl rfl rfl ?_
        refine mo_get (S' := (32, [(0, .ref p), (1, .int x1)], [.ref (q 4)], M)) rfl hP.1 rfl rfl ?_
        refine ml_st (S' := (33, [(0, .ref p), (1, .int x1)], [.int x1, .ref (q 4)], M)) rfl rfl rfl ?_
        refine mo_ald (S' := (34, [], [.int ((f 4) (Int32.toNatClampNeg x1))], M)) rfl (hP.2.1 4 (by decide) (by decide)) (vin_ge c_1 c_10) rfl ?_
        exact ml_ret rfl (rfl) (⟨by rw [sp_secondIndex, if_neg c_1, if_neg c_10, if_pos c_21], rfl⟩)
      · have c_21 : ¬ (7 ≤ ((f 1) (Int32.toNatClampNeg x1))) := of_decide_eq_false c_21
        refine ml_st (S' := (25, [], [.int 0], M)) rfl rfl rfl ?_
        refine ml_st (S' := (34, [], [.int 0], M)) rfl rfl rfl ?_
        exact ml_ret rfl (rfl) (⟨by rw [sp_secondIndex, if_neg c_1, if_neg c_10, if_neg c_21], rfl⟩)
def sp_isWide (n m : Nat) (f : Nat → Nat → Int32) (x1 : Int32) : Int32 := if (sp_tagOf n m f x1) = 5 then (1) else (if ¬ (sp_tagOf n m f x1) = 6 then (0) else (1))
set_option maxHeartbeats 1000000 in
theorem ct_isWide {g : xe_G} {M : mi_H} {p : Nat} {size : Int32} {n m : Nat} {q : Nat → Nat} {f : Nat → Nat → Int32} {cc : Int32} {x1 : Int32} (hP : PL M p size n m q f cc) {d : Nat} (hd : 2 ≤ d) : mt (mT g) d 125 [.ref p, .int x1] M (fun v M' => v = some (.int (sp_isWide n m f x1)) ∧ M' = M) := by
  obtain ⟨d, rfl⟩ : ∃ e, d = e + 1 := ⟨d - 1, by omega⟩
  refine mt_in (b := mb_125 g) rfl rfl ?_
  show ml (mT g) d (mb_125 g).2 (0, [(0, .ref p), (1, .int x1)], [], M) _
  refine ml_st (S' := (1, [(0, .ref p), (1, .int x1)], [.ref p], M)) rfl rfl rfl ?_
  refine ml_st (S' := (2, [(0, .ref p), (1, .int x1)], [.int x1, .ref p], M)) rfl rfl rfl ?_
  refine ml_call (a := [.ref p, .int x1]) (rest := []) rfl (okc_v rfl rfl rfl hP.1) rfl rfl (ct_tagOf hP (by omega)) (fun v1 M2 h3 => ?_)
  obtain ⟨rfl, h3⟩ := h3
  rw [h3]
  show ml _ _ _ (5, [(0, .ref p), (1, .int x1)], [.int (sp_tagOf n m f x1)], M) _
  refine ml_st (S' := (6, [(2, .int (sp_tagOf n m f x1)), (0, .ref p), (1, .int x1)], [], M)) rfl rfl rfl ?_
  refine ml_st (S' := (7, [(2, .int (sp_tagOf n m f x1)), (0, .ref p), (1, .int x1)], [.int (sp_tagOf n m f x1)], M)) rfl rfl rfl ?_
  refine ml_st (S' := (8, [(2, .int (sp_tagOf n m f x1)), (0, .ref p), (1, .int x1)], [.int 5, .int (sp_tagOf n m f x1)], M)) rfl rfl rfl ?_
  refine ml_if2 (S1 := (17, [], [], M)) (S2 := (11, [(2, .int (sp_tagOf n m f x1)), (0, .ref p), (1, .int x1)], [], M)) rfl rfl rfl (fun c_8 => ?_) (fun c_8 => ?_)
  · have c_8 : (sp_tagOf n m f x1) = 5 := of_decide_eq_true c_8
    refine ml_st (S' := (18, [], [.int 1], M)) rfl rfl rfl ?_
    refine ml_st (S' := (22, [], [.int 1], M)) rfl rfl rfl ?_
    exact ml_ret rfl (rfl) (⟨by rw [sp_isWide, if_pos c_8], rfl⟩)
  · have c_8 : ¬ ((sp_tagOf n m f x1) = 5) := of_decide_eq_false c_8
    refine ml_st (S' := (12, [(2, .int (sp_tagOf n m f x1)), (0, .ref p), (1, .int x1)], [.int (sp_tagOf n m f x1)], M)) rfl rfl rfl ?_
    refine ml_st (S' := (14, [(2, .int (sp_tagOf n m f x1)), (0, .ref p), (1, .int x1)], [.int 6, .int (sp_tagOf n m f x1)], M)) rfl rfl rfl ?_
    refine ml_if2 (S1 := (21, [(2, .int (sp_tagOf n m f x1)), (0, .ref p), (1, .int x1)], [], M)) (S2 := (17, [], [], M)) rfl rfl rfl (fun c_14 => ?_) (fun c_14 => ?_)
    · have c_14 : ¬ (sp_tagOf n m f x1) = 6 := of_decide_eq_true c_14
      refine ml_st (S' := (22, [], [.int 0], M)) rfl rfl rfl ?_
      exact ml_ret rfl (rfl) (⟨by rw [sp_isWide, if_neg c_8, if_pos c_14], rfl⟩)
    · have c_14 : ¬ (¬ (sp_tagOf n m f x1) = 6) := of_decide_eq_false c_14
      refine ml_st (S' := (18, [], [.int 1], M)) rfl rfl rfl ?_
      refine ml_st (S' := (22, [], [.int 1], M)) rfl rfl rfl ?_
      exact ml_ret rfl (rfl) (⟨by rw [sp_isWide, if_neg c_8, if_neg c_14], rfl⟩)
def sp_textLength (n m : Nat) (f : Nat → Nat → Int32) (x1 : Int32) : Int32 := if ¬ (sp_tagOf n m f x1) = 1 then (0) else (((f 4) (Int32.toNatClampNeg x1)))
set_option maxHeartbeats 1000000 in
theorem ct_textLength {g : xe_G} {M : mi_H} {p : Nat} {size : Int32} {n m : Nat} {q : Nat → Nat} {f : Nat → Nat → Int32} {cc : Int32} {x1 : Int32} (hP : PL M p size n m q f cc) {d : Nat} (hd : 2 ≤ d) : mt (mT g) d 141 [.ref p, .int x1] M (fun v M' => v = some (.int (sp_textLength n m f x1)) ∧ M' = M) := by
  obtain ⟨d, rfl⟩ : ∃ e, d = e + 1 := ⟨d - 1, by omega⟩
  refine mt_in (b := mb_141 g) rfl rfl ?_
  show ml (mT g) d (mb_141 g).2 (0, [(0, .ref p), (1, .int x1)], [], M) _
  refine ml_st (S' := (1, [(0, .ref p), (1, .int x1)], [.ref p], M)) rfl rfl rfl ?_
  refine ml_st (S' := (2, [(0, .ref p), (1, .int x1)], [.int x1, .ref p], M)) rfl rfl rfl ?_
  refine ml_call (a := [.ref p, .int x1]) (rest := []) rfl (okc_v rfl rfl rfl hP.1) rfl rfl (ct_tagOf hP (by omega)) (fun v1 M2 h3 => ?_)
  obtain ⟨rfl, h3⟩ := h3
  rw [h3]
  show ml _ _ _ (5, [(0, .ref p), (1, .int x1)], [.int (sp_tagOf n m f x1)], M) _
  refine ml_st (S' := (6, [(0, .ref p), (1, .int x1)], [.int 1, .int (sp_tagOf n m f x1)], M)) rfl rfl rfl ?_
  refine ml_if2 (S1 := (18, [(0, .ref p), (1, .int x1)], [], M)) (S2 := (9, [(0, .ref p), (1, .int x1)], [], M)) rfl rfl rfl (fun c_6 => ?_) (fun c_6 => ?_)
  · have c_6 : ¬ (sp_tagOf n m f x1) = 1 := of_decide_eq_true c_6
    refine ml_st (S' := (19, [], [.int 0], M)) rfl rfl rfl ?_
    exact ml_ret rfl (rfl) (⟨by rw [sp_textLength, if_pos c_6], rfl⟩)
  · have c_6 : ¬ (¬ (sp_tagOf n m f x1) = 1) := of_decide_eq_false c_6
    refine ml_st (S' := (10, [(0, .ref p), (1, .int x1)], [.ref p], M)) rfl rfl rfl ?_
    refine mo_get (S' := (13, [(0, .ref p), (1, .int x1)], [.ref (q 4)], M)) rfl hP.1 rfl rfl ?_
    refine ml_st (S' := (14, [(0, .ref p), (1, .int x1)], [.int x1, .ref (q 4)], M)) rfl rfl rfl ?_
    refine mo_ald (S' := (15, [(0, .ref p), (1, .int x1)], [.int ((f 4) (Int32.toNatClampNeg x1))], M)) rfl (hP.2.1 4 (by decide) (by decide)) ((tag_in (Decidable.not_not.mp c_6) (by decide)).1) rfl ?_
    refine ml_st (S' := (19, [], [.int ((f 4) (Int32.toNatClampNeg x1))], M)) rfl rfl rfl ?_
    exact ml_ret rfl (rfl) (⟨by rw [sp_textLength, if_neg c_6], rfl⟩)
def sp_isFieldDescriptor (n m : Nat) (f : Nat → Nat → Int32) (x1 : Int32) : Int32 := if ¬ (sp_tagOf n m f x1) = 1 then (0) else (if ((f 5) (Int32.toNatClampNeg x1)) ≤ 0 then (0) else (if 4096 ≤ ((f 5) (Int32.toNatClampNeg x1)) then (0) else (1)))
set_option maxHeartbeats 1000000 in
theorem ct_isFieldDescriptor {g : xe_G} {M : mi_H} {p : Nat} {size : Int32} {n m : Nat} {q : Nat → Nat} {f : Nat → Nat → Int32} {cc : Int32} {x1 : Int32} (hP : PL M p size n m q f cc) {d : Nat} (hd : 2 ≤ d) : mt (mT g) d 121 [.ref p, .int x1] M (fun v M' => v = some (.int (sp_isFieldDescriptor n m f x1)) ∧ M' = M) := by
  obtain ⟨d, rfl⟩ : ∃ e, d = e + 1 := ⟨d - 1, by omega⟩
  refine mt_in (b := mb_121 g) rfl rfl ?_
  show ml (mT g) d (mb_121 g).2 (0, [(0, .ref p), (1, .int x1)], [], M) _
  refine ml_st (S' := (1, [(0, .ref p), (1, .int x1)], [.ref p], M)) rfl rfl rfl ?_
  refine ml_st (S' := (2, [(0, .ref p), (1, .int x1)], [.int x1, .ref p], M)) rfl rfl rfl ?_
  refine ml_call (a := [.ref p, .int x1]) (rest := []) rfl (okc_v rfl rfl rfl hP.1) rfl rfl (ct_tagOf hP (by omega)) (fun v1 M2 h3 => ?_)
  obtain ⟨rfl, h3⟩ := h3
  rw [h3]
  show ml _ _ _ (5, [(0, .ref p), (1, .int x1)], [.int (sp_tagOf n m f x1)], M) _
  refine ml_st (S' := (6, [(0, .ref p), (1, .int x1)], [.int 1, .int (sp_tagOf n m f x1)], M)) rfl rfl rfl ?_
  refine ml_if2 (S1 := (34, [], [], M)) (S2 := (9, [(0, .ref p), (1, .int x1)], [], M)) rfl rfl rfl (fun c_6 => ?_) (fun c_6 => ?_)
  · have c_6 : ¬ (sp_tagOf n m f x1) = 1 := of_decide_eq_true c_6
    refine ml_st (S' := (35, [], [.int 0], M)) rfl rfl rfl ?_
    exact ml_ret rfl (rfl) (⟨by rw [sp_isFieldDescriptor, if_pos c_6], rfl⟩)
  · have c_6 : ¬ (¬ (sp_tagOf n m f x1) = 1) := of_decide_eq_false c_6
    refine ml_st (S' := (10, [(0, .ref p), (1, .int x1)], [.ref p], M)) rfl rfl rfl ?_
    refine mo_get (S' := (13, [(0, .ref p), (1, .int x1)], [.ref (q 5)], M)) rfl hP.1 rfl rfl ?_
    refine ml_st (S' := (14, [(0, .ref p), (1, .int x1)], [.int x1, .ref (q 5)], M)) rfl rfl rfl ?_
    refine mo_ald (S' := (15, [(0, .ref p), (1, .int x1)], [.int ((f 5) (Int32.toNatClampNeg x1))], M)) rfl (hP.2.1 5 (by decide) (by decide)) ((tag_in (Decidable.not_not.mp c_6) (by decide)).1) rfl ?_
    refine ml_if (S1 := (34, [], [], M)) (S2 := (18, [(0, .ref p), (1, .int x1)], [], M)) rfl rfl rfl (fun c_15 => ?_) (fun c_15 => ?_)
    · have c_15 : ((f 5) (Int32.toNatClampNeg x1)) ≤ 0 := of_decide_eq_true c_15
      refine ml_st (S' := (35, [], [.int 0], M)) rfl rfl rfl ?_
      exact ml_ret rfl (rfl) (⟨by rw [sp_isFieldDescriptor, if_neg c_6, if_pos c_15], rfl⟩)
    · have c_15 : ¬ (((f 5) (Int32.toNatClampNeg x1)) ≤ 0) := of_decide_eq_false c_15
      refine ml_st (S' := (19, [(0, .ref p), (1, .int x1)], [.ref p], M)) rfl rfl rfl ?_
      refine mo_get (S' := (22, [(0, .ref p), (1, .int x1)], [.ref (q 5)], M)) rfl hP.1 rfl rfl ?_
      refine ml_st (S' := (23, [(0, .ref p), (1, .int x1)], [.int x1, .ref (q 5)], M)) rfl rfl rfl ?_
      refine mo_ald (S' := (24, [(0, .ref p), (1, .int x1)], [.int ((f 5) (Int32.toNatClampNeg x1))], M)) rfl (hP.2.1 5 (by decide) (by decide)) ((tag_in (Decidable.not_not.mp c_6) (by decide)).1) rfl ?_
      refine ml_st (S' := (27, [(0, .ref p), (1, .int x1)], [.int 4096, .int ((f 5) (Int32.toNatClampNeg x1))], M)) rfl rfl rfl ?_
      refine ml_if2 (S1 := (34, [], [], M)) (S2 := (30, [(0, .ref p), (1, .int x1)], [], M)) rfl rfl rfl (fun c_27 => ?_) (fun c_27 => ?_)
      · have c_27 : 4096 ≤ ((f 5) (Int32.toNatClampNeg x1)) := of_decide_eq_true c_27
        refine ml_st (S' := (35, [], [.int 0], M)) rfl rfl rfl ?_
        exact ml_ret rfl (rfl) (⟨by rw [sp_isFieldDescriptor, if_neg c_6, if_neg c_15, if_pos c_27], rfl⟩)
      · have c_27 : ¬ (4096 ≤ ((f 5) (Int32.toNatClampNeg x1))) := of_decide_eq_false c_27
        refine ml_st (S' := (31, [(0, .ref p), (1, .int x1)], [.int 1], M)) rfl rfl rfl ?_
        refine ml_st (S' := (35, [], [.int 1], M)) rfl rfl rfl ?_
        exact ml_ret rfl (rfl) (⟨by rw [sp_isFieldDescriptor, if_neg c_6, if_neg c_15, if_neg c_27], rfl⟩)
def sp_isMethodDescriptor (n m : Nat) (f : Nat → Nat → Int32) (x1 : Int32) : Int32 := if ¬ (sp_tagOf n m f x1) = 1 then (0) else (if ((f 5) (Int32.toNatClampNeg x1)) < 4096 then (0) else (1))
set_option maxHeartbeats 1000000 in
theorem ct_isMethodDescriptor {g : xe_G} {M : mi_H} {p : Nat} {size : Int32} {n m : Nat} {q : Nat → Nat} {f : Nat → Nat → Int32} {cc : Int32} {x1 : Int32} (hP : PL M p size n m q f cc) {d : Nat} (hd : 2 ≤ d) : mt (mT g) d 122 [.ref p, .int x1] M (fun v M' => v = some (.int (sp_isMethodDescriptor n m f x1)) ∧ M' = M) := by
  obtain ⟨d, rfl⟩ : ∃ e, d = e + 1 := ⟨d - 1, by omega⟩
  refine mt_in (b := mb_122 g) rfl rfl ?_
  show ml (mT g) d (mb_122 g).2 (0, [(0, .ref p), (1, .int x1)], [], M) _
  refine ml_st (S' := (1, [(0, .ref p), (1, .int x1)], [.ref p], M)) rfl rfl rfl ?_
  refine ml_st (S' := (2, [(0, .ref p), (1, .int x1)], [.int x1, .ref p], M)) rfl rfl rfl ?_
  refine ml_call (a := [.ref p, .int x1]) (rest := []) rfl (okc_v rfl rfl rfl hP.1) rfl rfl (ct_tagOf hP (by omega)) (fun v1 M2 h3 => ?_)
  obtain ⟨rfl, h3⟩ := h3
  rw [h3]
  show ml _ _ _ (5, [(0, .ref p), (1, .int x1)], [.int (sp_tagOf n m f x1)], M) _
  refine ml_st (S' := (6, [(0, .ref p), (1, .int x1)], [.int 1, .int (sp_tagOf n m f x1)], M)) rfl rfl rfl ?_
  refine ml_if2 (S1 := (25, [], [], M)) (S2 := (9, [(0, .ref p), (1, .int x1)], [], M)) rfl rfl rfl (fun c_6 => ?_) (fun c_6 => ?_)
  · have c_6 : ¬ (sp_tagOf n m f x1) = 1 := of_decide_eq_true c_6
    refine ml_st (S' := (26, [], [.int 0], M)) rfl rfl rfl ?_
    exact ml_ret rfl (rfl) (⟨by rw [sp_isMethodDescriptor, if_pos c_6], rfl⟩)
  · have c_6 : ¬ (¬ (sp_tagOf n m f x1) = 1) := of_decide_eq_false c_6
    refine ml_st (S' := (10, [(0, .ref p), (1, .int x1)], [.ref p], M)) rfl rfl rfl ?_
    refine mo_get (S' := (13, [(0, .ref p), (1, .int x1)], [.ref (q 5)], M)) rfl hP.1 rfl rfl ?_
    refine ml_st (S' := (14, [(0, .ref p), (1, .int x1)], [.int x1, .ref (q 5)], M)) rfl rfl rfl ?_
    refine mo_ald (S' := (15, [(0, .ref p), (1, .int x1)], [.int ((f 5) (Int32.toNatClampNeg x1))], M)) rfl (hP.2.1 5 (by decide) (by decide)) ((tag_in (Decidable.not_not.mp c_6) (by decide)).1) rfl ?_
    refine ml_st (S' := (18, [(0, .ref p), (1, .int x1)], [.int 4096, .int ((f 5) (Int32.toNatClampNeg x1))], M)) rfl rfl rfl ?_
    refine ml_if2 (S1 := (25, [], [], M)) (S2 := (21, [(0, .ref p), (1, .int x1)], [], M)) rfl rfl rfl (fun c_18 => ?_) (fun c_18 => ?_)
    · have c_18 : ((f 5) (Int32.toNatClampNeg x1)) < 4096 := of_decide_eq_true c_18
      refine ml_st (S' := (26, [], [.int 0], M)) rfl rfl rfl ?_
      exact ml_ret rfl (rfl) (⟨by rw [sp_isMethodDescriptor, if_neg c_6, if_pos c_18], rfl⟩)
    · have c_18 : ¬ (((f 5) (Int32.toNatClampNeg x1)) < 4096) := of_decide_eq_false c_18
      refine ml_st (S' := (22, [(0, .ref p), (1, .int x1)], [.int 1], M)) rfl rfl rfl ?_
      refine ml_st (S' := (26, [], [.int 1], M)) rfl rfl rfl ?_
      exact ml_ret rfl (rfl) (⟨by rw [sp_isMethodDescriptor, if_neg c_6, if_neg c_18], rfl⟩)
def sp_placesTold (n m : Nat) (f : Nat → Nat → Int32) (x1 : Int32) : Int32 := if ¬ (sp_tagOf n m f x1) = 1 then ((-1)) else (if ¬ ((f 5) (Int32.toNatClampNeg x1)) = (-1) then ((((f 5) (Int32.toNatClampNeg x1)) - ((f 5) (Int32.toNatClampNeg x1)) / 4096 * 4096)) else ((-1)))
set_option maxHeartbeats 1000000 in
theorem ct_placesTold {g : xe_G} {M : mi_H} {p : Nat} {size : Int32} {n m : Nat} {q : Nat → Nat} {f : Nat → Nat → Int32} {cc : Int32} {x1 : Int32} (hP : PL M p size n m q f cc) {d : Nat} (hd : 2 ≤ d) : mt (mT g) d 131 [.ref p, .int x1] M (fun v M' => v = some (.int (sp_placesTold n m f x1)) ∧ M' = M) := by
  obtain ⟨d, rfl⟩ : ∃ e, d = e + 1 := ⟨d - 1, by omega⟩
  refine mt_in (b := mb_131 g) rfl rfl ?_
  show ml (mT g) d (mb_131 g).2 (0, [(0, .ref p), (1, .int x1)], [], M) _
  refine ml_st (S' := (1, [(0, .ref p), (1, .int x1)], [.ref p], M)) rfl rfl rfl ?_
  refine ml_st (S' := (2, [(0, .ref p), (1, .int x1)], [.int x1, .ref p], M)) rfl rfl rfl ?_
  refine ml_call (a := [.ref p, .int x1]) (rest := []) rfl (okc_v rfl rfl rfl hP.1) rfl rfl (ct_tagOf hP (by omega)) (fun v1 M2 h3 => ?_)
  obtain ⟨rfl, h3⟩ := h3
  rw [h3]
  show ml _ _ _ (5, [(0, .ref p), (1, .int x1)], [.int (sp_tagOf n m f x1)], M) _
  refine ml_st (S' := (6, [(0, .ref p), (1, .int x1)], [.int 1, .int (sp_tagOf n m f x1)], M)) rfl rfl rfl ?_
  refine ml_if2 (S1 := (19, [], [], M)) (S2 := (9, [(0, .ref p), (1, .int x1)], [], M)) rfl rfl rfl (fun c_6 => ?_) (fun c_6 => ?_)
  · have c_6 : ¬ (sp_tagOf n m f x1) = 1 := of_decide_eq_true c_6
    refine ml_st (S' := (20, [], [.int (-1)], M)) rfl rfl rfl ?_
    exact ml_ret rfl (rfl) (⟨by rw [sp_placesTold, if_pos c_6], rfl⟩)
  · have c_6 : ¬ (¬ (sp_tagOf n m f x1) = 1) := of_decide_eq_false c_6
    refine ml_st (S' := (10, [(0, .ref p), (1, .int x1)], [.ref p], M)) rfl rfl rfl ?_
    refine mo_get (S' := (13, [(0, .ref p), (1, .int x1)], [.ref (q 5)], M)) rfl hP.1 rfl rfl ?_
    refine ml_st (S' := (14, [(0, .ref p), (1, .int x1)], [.int x1, .ref (q 5)], M)) rfl rfl rfl ?_
    refine mo_ald (S' := (15, [(0, .ref p), (1, .int x1)], [.int ((f 5) (Int32.toNatClampNeg x1))], M)) rfl (hP.2.1 5 (by decide) (by decide)) ((tag_in (Decidable.not_not.mp c_6) (by decide)).1) rfl ?_
    refine ml_st (S' := (16, [(0, .ref p), (1, .int x1)], [.int (-1), .int ((f 5) (Int32.toNatClampNeg x1))], M)) rfl rfl rfl ?_
    refine ml_if2 (S1 := (21, [(0, .ref p), (1, .int x1)], [], M)) (S2 := (19, [], [], M)) rfl rfl rfl (fun c_16 => ?_) (fun c_16 => ?_)
    · have c_16 : ¬ ((f 5) (Int32.toNatClampNeg x1)) = (-1) := of_decide_eq_true c_16
      refine ml_st (S' := (22, [(0, .ref p), (1, .int x1)], [.ref p], M)) rfl rfl rfl ?_
      refine mo_get (S' := (25, [(0, .ref p), (1, .int x1)], [.ref (q 5)], M)) rfl hP.1 rfl rfl ?_
      refine ml_st (S' := (26, [(0, .ref p), (1, .int x1)], [.int x1, .ref (q 5)], M)) rfl rfl rfl ?_
      refine mo_ald (S' := (27, [(0, .ref p), (1, .int x1)], [.int ((f 5) (Int32.toNatClampNeg x1))], M)) rfl (hP.2.1 5 (by decide) (by decide)) ((tag_in (Decidable.not_not.mp c_6) (by decide)).1) rfl ?_
      refine ml_st (S' := (30, [(0, .ref p), (1, .int x1)], [.int 4096, .int ((f 5) (Int32.toNatClampNeg x1))], M)) rfl rfl rfl ?_
      refine ml_st (S' := (31, [(0, .ref p), (1, .int x1)], [.int (((f 5) (Int32.toNatClampNeg x1)) - ((f 5) (Int32.toNatClampNeg x1)) / 4096 * 4096)], M)) rfl rfl rfl ?_
      exact ml_ret rfl (rfl) (⟨by rw [sp_placesTold, if_neg c_6, if_pos c_16], rfl⟩)
    · have c_16 : ¬ (¬ ((f 5) (Int32.toNatClampNeg x1)) = (-1)) := of_decide_eq_false c_16
      refine ml_st (S' := (20, [], [.int (-1)], M)) rfl rfl rfl ?_
      exact ml_ret rfl (rfl) (⟨by rw [sp_placesTold, if_neg c_6, if_neg c_16], rfl⟩)
theorem isMD_in {n m : Nat} {f : Nat → Nat → Int32} {k : Int32} (h : ¬ sp_isMethodDescriptor n m f k = 0) : vp_in k n := by
  unfold sp_isMethodDescriptor at h
  split at h
  · exact absurd rfl h
  · rename_i h1
    exact (tag_in (Decidable.not_not.mp h1) (by decide)).1

def sp_argumentPlaces (n m : Nat) (f : Nat → Nat → Int32) (x1 : Int32) : Int32 := if (sp_isMethodDescriptor n m f x1) = 0 then (0) else ((((f 5) (Int32.toNatClampNeg x1)) - ((f 5) (Int32.toNatClampNeg x1)) / 1024 * 1024))
set_option maxHeartbeats 1000000 in
theorem ct_argumentPlaces {g : xe_G} {M : mi_H} {p : Nat} {size : Int32} {n m : Nat} {q : Nat → Nat} {f : Nat → Nat → Int32} {cc : Int32} {x1 : Int32} (hP : PL M p size n m q f cc) {d : Nat} (hd : 3 ≤ d) : mt (mT g) d 112 [.ref p, .int x1] M (fun v M' => v = some (.int (sp_argumentPlaces n m f x1)) ∧ M' = M) := by
  obtain ⟨d, rfl⟩ : ∃ e, d = e + 1 := ⟨d - 1, by omega⟩
  refine mt_in (b := mb_112 g) rfl rfl ?_
  show ml (mT g) d (mb_112 g).2 (0, [(0, .ref p), (1, .int x1)], [], M) _
  refine ml_st (S' := (1, [(0, .ref p), (1, .int x1)], [.ref p], M)) rfl rfl rfl ?_
  refine ml_st (S' := (2, [(0, .ref p), (1, .int x1)], [.int x1, .ref p], M)) rfl rfl rfl ?_
  refine ml_call (a := [.ref p, .int x1]) (rest := []) rfl (okc_v rfl rfl rfl hP.1) rfl rfl (ct_isMethodDescriptor hP (by omega)) (fun v1 M2 h3 => ?_)
  obtain ⟨rfl, h3⟩ := h3
  rw [h3]
  show ml _ _ _ (5, [(0, .ref p), (1, .int x1)], [.int (sp_isMethodDescriptor n m f x1)], M) _
  refine ml_if (S1 := (21, [(0, .ref p), (1, .int x1)], [], M)) (S2 := (8, [(0, .ref p), (1, .int x1)], [], M)) rfl rfl rfl (fun c_5 => ?_) (fun c_5 => ?_)
  · have c_5 : (sp_isMethodDescriptor n m f x1) = 0 := of_decide_eq_true c_5
    refine ml_st (S' := (22, [], [.int 0], M)) rfl rfl rfl ?_
    exact ml_ret rfl (rfl) (⟨by rw [sp_argumentPlaces, if_pos c_5], rfl⟩)
  · have c_5 : ¬ ((sp_isMethodDescriptor n m f x1) = 0) := of_decide_eq_false c_5
    refine ml_st (S' := (9, [(0, .ref p), (1, .int x1)], [.ref p], M)) rfl rfl rfl ?_
    refine mo_get (S' := (12, [(0, .ref p), (1, .int x1)], [.ref (q 5)], M)) rfl hP.1 rfl rfl ?_
    refine ml_st (S' := (13, [(0, .ref p), (1, .int x1)], [.int x1, .ref (q 5)], M)) rfl rfl rfl ?_
    refine mo_ald (S' := (14, [(0, .ref p), (1, .int x1)], [.int ((f 5) (Int32.toNatClampNeg x1))], M)) rfl (hP.2.1 5 (by decide) (by decide)) (isMD_in c_5) rfl ?_
    refine ml_st (S' := (17, [(0, .ref p), (1, .int x1)], [.int 1024, .int ((f 5) (Int32.toNatClampNeg x1))], M)) rfl rfl rfl ?_
    refine ml_st (S' := (18, [(0, .ref p), (1, .int x1)], [.int (((f 5) (Int32.toNatClampNeg x1)) - ((f 5) (Int32.toNatClampNeg x1)) / 1024 * 1024)], M)) rfl rfl rfl ?_
    refine ml_st (S' := (22, [], [.int (((f 5) (Int32.toNatClampNeg x1)) - ((f 5) (Int32.toNatClampNeg x1)) / 1024 * 1024)], M)) rfl rfl rfl ?_
    exact ml_ret rfl (rfl) (⟨by rw [sp_argumentPlaces, if_neg c_5], rfl⟩)
def sp_hasNoResult (n m : Nat) (f : Nat → Nat → Int32) (x1 : Int32) : Int32 := if (sp_isMethodDescriptor n m f x1) = 0 then (0) else (if 1024 ≤ (((f 5) (Int32.toNatClampNeg x1)) - 4096) then (0) else (1))
set_option maxHeartbeats 1000000 in
theorem ct_hasNoResult {g : xe_G} {M : mi_H} {p : Nat} {size : Int32} {n m : Nat} {q : Nat → Nat} {f : Nat → Nat → Int32} {cc : Int32} {x1 : Int32} (hP : PL M p size n m q f cc) {d : Nat} (hd : 3 ≤ d) : mt (mT g) d 119 [.ref p, .int x1] M (fun v M' => v = some (.int (sp_hasNoResult n m f x1)) ∧ M' = M) := by
  obtain ⟨d, rfl⟩ : ∃ e, d = e + 1 := ⟨d - 1, by omega⟩
  refine mt_in (b := mb_119 g) rfl rfl ?_
  show ml (mT g) d (mb_119 g).2 (0, [(0, .ref p), (1, .int x1)], [], M) _
  refine ml_st (S' := (1, [(0, .ref p), (1, .int x1)], [.ref p], M)) rfl rfl rfl ?_
  refine ml_st (S' := (2, [(0, .ref p), (1, .int x1)], [.int x1, .ref p], M)) rfl rfl rfl ?_
  refine ml_call (a := [.ref p, .int x1]) (rest := []) rfl (okc_v rfl rfl rfl hP.1) rfl rfl (ct_isMethodDescriptor hP (by omega)) (fun v1 M2 h3 => ?_)
  obtain ⟨rfl, h3⟩ := h3
  rw [h3]
  show ml _ _ _ (5, [(0, .ref p), (1, .int x1)], [.int (sp_isMethodDescriptor n m f x1)], M) _
  refine ml_if (S1 := (28, [], [], M)) (S2 := (8, [(0, .ref p), (1, .int x1)], [], M)) rfl rfl rfl (fun c_5 => ?_) (fun c_5 => ?_)
  · have c_5 : (sp_isMethodDescriptor n m f x1) = 0 := of_decide_eq_true c_5
    refine ml_st (S' := (29, [], [.int 0], M)) rfl rfl rfl ?_
    exact ml_ret rfl (rfl) (⟨by rw [sp_hasNoResult, if_pos c_5], rfl⟩)
  · have c_5 : ¬ ((sp_isMethodDescriptor n m f x1) = 0) := of_decide_eq_false c_5
    refine ml_st (S' := (9, [(0, .ref p), (1, .int x1)], [.ref p], M)) rfl rfl rfl ?_
    refine mo_get (S' := (12, [(0, .ref p), (1, .int x1)], [.ref (q 5)], M)) rfl hP.1 rfl rfl ?_
    refine ml_st (S' := (13, [(0, .ref p), (1, .int x1)], [.int x1, .ref (q 5)], M)) rfl rfl rfl ?_
    refine mo_ald (S' := (14, [(0, .ref p), (1, .int x1)], [.int ((f 5) (Int32.toNatClampNeg x1))], M)) rfl (hP.2.1 5 (by decide) (by decide)) (isMD_in c_5) rfl ?_
    refine ml_st (S' := (17, [(0, .ref p), (1, .int x1)], [.int 4096, .int ((f 5) (Int32.toNatClampNeg x1))], M)) rfl rfl rfl ?_
    refine ml_st (S' := (18, [(0, .ref p), (1, .int x1)], [.int (((f 5) (Int32.toNatClampNeg x1)) - 4096)], M)) rfl rfl rfl ?_
    refine ml_st (S' := (21, [(0, .ref p), (1, .int x1)], [.int 1024, .int (((f 5) (Int32.toNatClampNeg x1)) - 4096)], M)) rfl rfl rfl ?_
    refine ml_if2 (S1 := (28, [], [], M)) (S2 := (24, [(0, .ref p), (1, .int x1)], [], M)) rfl rfl rfl (fun c_21 => ?_) (fun c_21 => ?_)
    · have c_21 : 1024 ≤ (((f 5) (Int32.toNatClampNeg x1)) - 4096) := of_decide_eq_true c_21
      refine ml_st (S' := (29, [], [.int 0], M)) rfl rfl rfl ?_
      exact ml_ret rfl (rfl) (⟨by rw [sp_hasNoResult, if_neg c_5, if_pos c_21], rfl⟩)
    · have c_21 : ¬ (1024 ≤ (((f 5) (Int32.toNatClampNeg x1)) - 4096)) := of_decide_eq_false c_21
      refine ml_st (S' := (25, [(0, .ref p), (1, .int x1)], [.int 1], M)) rfl rfl rfl ?_
      refine ml_st (S' := (29, [], [.int 1], M)) rfl rfl rfl ?_
      exact ml_ret rfl (rfl) (⟨by rw [sp_hasNoResult, if_neg c_5, if_neg c_21], rfl⟩)
def sp_nameOf (n m : Nat) (f : Nat → Nat → Int32) (x1 : Int32) : Int32 := (sp_firstIndex n m f (sp_secondIndex n m f x1))
set_option maxHeartbeats 1000000 in
theorem ct_nameOf {g : xe_G} {M : mi_H} {p : Nat} {size : Int32} {n m : Nat} {q : Nat → Nat} {f : Nat → Nat → Int32} {cc : Int32} {x1 : Int32} (hP : PL M p size n m q f cc) {d : Nat} (hd : 2 ≤ d) : mt (mT g) d 128 [.ref p, .int x1] M (fun v M' => v = some (.int (sp_nameOf n m f x1)) ∧ M' = M) := by
  obtain ⟨d, rfl⟩ : ∃ e, d = e + 1 := ⟨d - 1, by omega⟩
  refine mt_in (b := mb_128 g) rfl rfl ?_
  show ml (mT g) d (mb_128 g).2 (0, [(0, .ref p), (1, .int x1)], [], M) _
  refine ml_st (S' := (1, [(0, .ref p), (1, .int x1)], [.ref p], M)) rfl rfl rfl ?_
  refine ml_st (S' := (2, [(0, .ref p), (1, .int x1)], [.ref p, .ref p], M)) rfl rfl rfl ?_
  refine ml_st (S' := (3, [(0, .ref p), (1, .int x1)], [.int x1, .ref p, .ref p], M)) rfl rfl rfl ?_
  refine ml_call (a := [.ref p, .int x1]) (rest := [.ref p]) rfl (okc_v rfl rfl rfl hP.1) rfl rfl (ct_secondIndex hP (by omega)) (fun v1 M2 h3 => ?_)
  obtain ⟨rfl, h3⟩ := h3
  rw [h3]
  show ml _ _ _ (6, [(0, .ref p), (1, .int x1)], [.int (sp_secondIndex n m f x1), .ref p], M) _
  refine ml_call (a := [.ref p, .int (sp_secondIndex n m f x1)]) (rest := []) rfl (okc_v rfl rfl rfl hP.1) rfl rfl (ct_firstIndex hP (by omega)) (fun v4 M5 h6 => ?_)
  obtain ⟨rfl, h6⟩ := h6
  rw [h6]
  show ml _ _ _ (9, [(0, .ref p), (1, .int x1)], [.int (sp_firstIndex n m f (sp_secondIndex n m f x1))], M) _
  exact ml_ret rfl (rfl) (⟨by rw [sp_nameOf], rfl⟩)
def sp_descriptorOf (n m : Nat) (f : Nat → Nat → Int32) (x1 : Int32) : Int32 := (sp_secondIndex n m f (sp_secondIndex n m f x1))
set_option maxHeartbeats 1000000 in
theorem ct_descriptorOf {g : xe_G} {M : mi_H} {p : Nat} {size : Int32} {n m : Nat} {q : Nat → Nat} {f : Nat → Nat → Int32} {cc : Int32} {x1 : Int32} (hP : PL M p size n m q f cc) {d : Nat} (hd : 2 ≤ d) : mt (mT g) d 115 [.ref p, .int x1] M (fun v M' => v = some (.int (sp_descriptorOf n m f x1)) ∧ M' = M) := by
  obtain ⟨d, rfl⟩ : ∃ e, d = e + 1 := ⟨d - 1, by omega⟩
  refine mt_in (b := mb_115 g) rfl rfl ?_
  show ml (mT g) d (mb_115 g).2 (0, [(0, .ref p), (1, .int x1)], [], M) _
  refine ml_st (S' := (1, [(0, .ref p), (1, .int x1)], [.ref p], M)) rfl rfl rfl ?_
  refine ml_st (S' := (2, [(0, .ref p), (1, .int x1)], [.ref p, .ref p], M)) rfl rfl rfl ?_
  refine ml_st (S' := (3, [(0, .ref p), (1, .int x1)], [.int x1, .ref p, .ref p], M)) rfl rfl rfl ?_
  refine ml_call (a := [.ref p, .int x1]) (rest := [.ref p]) rfl (okc_v rfl rfl rfl hP.1) rfl rfl (ct_secondIndex hP (by omega)) (fun v1 M2 h3 => ?_)
  obtain ⟨rfl, h3⟩ := h3
  rw [h3]
  show ml _ _ _ (6, [(0, .ref p), (1, .int x1)], [.int (sp_secondIndex n m f x1), .ref p], M) _
  refine ml_call (a := [.ref p, .int (sp_secondIndex n m f x1)]) (rest := []) rfl (okc_v rfl rfl rfl hP.1) rfl rfl (ct_secondIndex hP (by omega)) (fun v4 M5 h6 => ?_)
  obtain ⟨rfl, h6⟩ := h6
  rw [h6]
  show ml _ _ _ (9, [(0, .ref p), (1, .int x1)], [.int (sp_secondIndex n m f (sp_secondIndex n m f x1))], M) _
  exact ml_ret rfl (rfl) (⟨by rw [sp_descriptorOf], rfl⟩)
end
section
/-! the class's heap by types: Y says of an address what stands there and what of it never changes (my own text) -/
section MIY
abbrev yT : Type := (Nat → Option (Nat × List Nat)) × (Nat → Nat → Int32)
def yle (Y Y' : yT) : Prop := ∀ a t, Y.1 a = some t → Y'.1 a = some t ∧ Y'.2 a = Y.2 a
theorem yle.rf {Y : yT} : yle Y Y := fun _ _ h => ⟨h, rfl⟩
theorem yle.tr {Y Y1 Y2 : yT} (h : yle Y Y1) (h' : yle Y1 Y2) : yle Y Y2 := fun a t q => ⟨(h' a t (h a t q).1).1, (h' a t (h a t q).1).2.trans (h a t q).2⟩
def vi (v : Value) : Prop := ∃ x, v = .int x
def vr (b : Nat) (v : Value) : Prop := v = .ref b
def vn (P : Nat → Prop) (v : Value) : Prop := v = .null ∨ ∃ b, v = .ref b ∧ P b
def vo (P : Nat → Prop) (v : Value) : Prop := ∃ b, v = .ref b ∧ P b
def vi9 : List (Value → Prop) := [vi, vi, vi, vi, vi, vi, vi, vi, vi]
/-- kinds: 0..10 the classes; 20 bytes, 21 ints, 23 members, 24 bytes that stay, 31..35 the pool's rows and 36 its characters, each with its pool -/
def sch (Y : yT) : Nat → List Nat → List (Value → Prop)
  | 0, [c, b, p, vd] => [vr c, vr b, vr p, vr vd, vi]
  | 1, [da, _] => [vr da]
  | 2, [c, b, p, vd, ac] => [vr c, vr b, vr p, vr vd, vr ac]
  | 3, [b, da, n] => [vr b, vo (fun p => ∃ ps, Y.1 p = some (7, ps)), vi, vi, vi, vi, vo (fun m => ∃ k, Y.1 m = some (23, [k, da, n])), vo (fun m => ∃ k, Y.1 m = some (23, [k, da, n]))] ++ vi9
  | 4, [p, o, _] => [vi, vi, vi, vi, vi, vr p, vi, vr o, vi, vn (fun a => ∃ n, Y.1 a = some (21, [n])), vn (fun a => ∃ n, Y.1 a = some (21, [n]))]
  | 5, [b, _] => [vr b, vi, vi] ++ vi9
  | 6, [_, n] => vi9 ++ [vi, vn (fun c => ∃ p o, Y.1 c = some (4, [p, o, n]))]
  | 7, [_, _, t, tp, f, s, sh, ch] => [vi, vr t, vr tp, vr f, vr s, vr sh, vr ch, vi]
  | 8, [p, vd] => [vr p, vi, vr vd]
  | 9, [c, b, vd, _] => [vr c, vr b, vr vd, vi, vi]
  | 10, [] => [vi, vi]
  | 11, [B] => [vo (fun a => ∃ m, Y.1 a = some (20, [m])), vi, vo (fun a => ∃ n, Y.1 a = some (24, [n]) ∧ n ≤ B), vn (fun c => ∃ b da n, Y.1 c = some (3, [b, da, n]) ∧ n ≤ B), vi]
  | _, _ => []
/-- what the fixed data say of each other -/
def lnk (Y : yT) (a : Nat) : Nat → List Nat → Prop
  | 0, [c, b, p, vd] => (∃ da n, Y.1 c = some (3, [b, da, n]) ∧ Y.1 b = some (1, [da, n])) ∧ (∃ ps, Y.1 p = some (7, ps)) ∧ Y.1 vd = some (10, [])
  | 1, [da, n] => Y.1 da = some (24, [n])
  | 2, [c, b, p, vd, ac] => (∃ da n, Y.1 c = some (3, [b, da, n]) ∧ Y.1 b = some (1, [da, n])) ∧ (∃ ps, Y.1 p = some (7, ps)) ∧ Y.1 vd = some (10, []) ∧ Y.1 ac = some (0, [c, b, p, vd])
  | 3, [b, da, n] => Y.1 b = some (1, [da, n])
  | 4, [p, o, k] => (∃ ps, Y.1 p = some (7, ps)) ∧ ∃ b, Y.1 o = some (5, [b, k])
  | 5, [b, _] => ∃ da n, Y.1 b = some (1, [da, n])
  | 6, [da, n] => Y.1 da = some (24, [n])
  | 7, [n, m, t, tp, f, s, sh, ch] => Y.1 t = some (31, [n, a]) ∧ Y.1 tp = some (32, [n, a]) ∧ Y.1 f = some (33, [n, a]) ∧ Y.1 s = some (34, [n, a]) ∧ Y.1 sh = some (35, [n, a]) ∧ Y.1 ch = some (36, [m, a])
  | 8, [p, vd] => (∃ ps, Y.1 p = some (7, ps)) ∧ Y.1 vd = some (10, [])
  | 9, [c, b, vd, n] => (∃ da, Y.1 c = some (3, [b, da, n]) ∧ Y.1 b = some (1, [da, n])) ∧ Y.1 vd = some (10, [])
  | _, _ => True
def fit (l : List Value) (s : List (Value → Prop)) : Prop := l.length = s.length ∧ ∀ (k : Nat) (v : Value) (P : Value → Prop), l[k]? = some v → s[k]? = some P → P v
/-- rows -/
def rowT (k : Nat) : Option FieldType := match k with
  | 20 => some .byte
  | 21 => some .int
  | 24 => some .byte
  | 31 => some .int
  | 32 => some .int
  | 33 => some .int
  | 34 => some .int
  | 35 => some .int
  | 36 => some .char
  | _ => none
def ch16 (x : Int32) : Prop := narrow .char (.int x) = .int x
def rowOk (Y : yT) (M : mi_H) (a k n : Nat) : Prop := ∃ ty f, rowT k = some ty ∧ M.1 a = some (ar ty n f) ∧ n < 1073741824 ∧ (k = 20 → ∀ i, fits .byte (.int (f i)) = true) ∧ (k = 24 → f = Y.2 a ∧ ∀ i, fits .byte (.int (f i)) = true) ∧ (k = 36 → ∀ i, ch16 (f i))
def memOk (Y : yT) (M : mi_H) (a k da n : Nat) : Prop := (k < 1073741824 ∧ 8 * k ≤ n) ∧ ∃ f : Nat → Option Nat, M.1 a = some (.inl (.object "ClassGate$Member", k, fun i => some (va_rf (f i)))) ∧ ∀ i b, f i = some b → Y.1 b = some (6, [da, n])
/-- attributes that lie within the first n bytes: how many are left, from where -/
def AW (f : Nat → Int32) (n : Nat) : Nat → Int32 → Prop
  | 0, a => 0 ≤ a.toInt ∧ a.toInt ≤ n
  | k + 1, a => 0 ≤ a.toInt ∧ a.toInt + 6 ≤ n ∧ 0 ≤ (sp_u4 n f (a + 2)).toInt ∧ a.toInt + 6 + (sp_u4 n f (a + 2)).toInt ≤ n ∧ AW f n k (a + 6 + sp_u4 n f (a + 2))
/-- more than types: a text lies within the characters; the reader within the file; attributes too -/
def txt (n m : Nat) (f : Nat → Nat → Int32) (cc : Int32) : Prop := 0 ≤ cc.toInt ∧ cc.toInt ≤ m ∧ ∀ k, k < n → f 1 k = 1 → 0 ≤ (f 3 k).toInt ∧ 0 ≤ (f 4 k).toInt ∧ (f 3 k).toInt + (f 4 k).toInt ≤ cc.toInt
def xtr (Y : yT) (M : mi_H) (l : List Value) : Nat → List Nat → Prop
  | 1, [_, n] => n ≤ 65540
  | 4, [_, _, k] => k ≤ 65540 ∧ ∃ x : Int32, l[2]? = some (.int x) ∧ 0 ≤ x.toInt ∧ x.toInt ≤ k
  | 5, [_, k] => k < 1073741824 ∧ ∃ x : Int32, l[2]? = some (.int x) ∧ 0 ≤ x.toInt ∧ x.toInt ≤ k
  | 6, [da, n] => ∃ x y : Int32, l[4]? = some (.int x) ∧ l[5]? = some (.int y) ∧ 0 ≤ x.toInt ∧ AW (Y.2 da) n x.toInt.toNat y
  | 7, [n, m, t, _, f, s, _, _] => n < 1073741824 ∧ m < 1073741824 ∧ ∃ (cc sz : Int32) (g1 g3 g4 : Nat → Int32), l[7]? = some (.int cc) ∧ l[0]? = some (.int sz) ∧ sz.toInt ≤ 65535 ∧ M.1 t = some (ar .int n g1) ∧ M.1 f = some (ar .int n g3) ∧ M.1 s = some (ar .int n g4) ∧ txt n m (fun i => if i = 1 then g1 else if i = 3 then g3 else g4) cc
  | 9, [_, _, _, n] => ∃ x : Int32, l[3]? = some (.int x) ∧ 0 ≤ x.toInt ∧ x.toInt ≤ n
  | _, _ => True
def okY (Y : yT) (M : mi_H) (a k : Nat) (ps : List Nat) : Prop :=
  (k < 12 ∧ ∃ l, M.1 a = some (ob k l) ∧ sch Y k ps ≠ [] ∧ fit l (sch Y k ps) ∧ lnk Y a k ps ∧ xtr Y M l k ps) ∨ (∃ n r, ps = n :: r ∧ rowOk Y M a k n) ∨ (k = 23 ∧ ∃ n da m, ps = [n, da, m] ∧ memOk Y M a n da m)
def litOk (g : xe_G) (M : mi_H) : Prop := ∀ k, k < 15 → g.2.1 k < M.2.1 ∧ ∃ f : Nat × (Nat → Option Value), M.1 (g.2.1 k) = some (.inr (100 + f.1 % 30, f.2))
def WF (g : xe_G) (Y : yT) (M : mi_H) : Prop := (∀ a k ps, Y.1 a = some (k, ps) → okY Y M a k ps) ∧ (∀ a t, Y.1 a = some t → a < M.2.1) ∧ litOk g M
theorem okY.obj {Y : yT} {M : mi_H} {a k : Nat} {ps : List Nat} (h : okY Y M a k ps) (hk : k < 12) : ∃ l, M.1 a = some (ob k l) ∧ sch Y k ps ≠ [] ∧ fit l (sch Y k ps) ∧ lnk Y a k ps ∧ xtr Y M l k ps := by
  rcases h with ⟨-, h⟩ | ⟨n, r, -, ty, f, h1, -⟩ | ⟨h1, -⟩
  · exact h
  · exfalso
    unfold rowT at h1
    split at h1 <;> first | omega | cases h1
  · omega
theorem okY.row {Y : yT} {M : mi_H} {a k n : Nat} {r : List Nat} {ty : FieldType} (h : okY Y M a k (n :: r)) (hk : rowT k = some ty) : rowOk Y M a k n := by
  rcases h with ⟨h1, -⟩ | ⟨n', r', e, h⟩ | ⟨h1, -⟩
  · exfalso
    unfold rowT at hk
    split at hk <;> first | omega | cases hk
  · cases e
    exact h
  · subst h1
    cases hk
variable {g : xe_G} {Y : yT} {M : mi_H}
/-- a field is read -/
theorem WF.get {a k j : Nat} {ps : List Nat} {P : Value → Prop} (h : WF g Y M) (hY : Y.1 a = some (k, ps)) (hk : k < 12) (hP : (sch Y k ps)[j]? = some P) : ∃ v, mi_gf M a k j = some v ∧ P v := by
  obtain ⟨l, h1, -, ⟨h2, h3⟩, -⟩ := (h.1 a k ps hY).obj hk
  have hj : j < l.length := by rw [h2]; exact (List.getElem?_eq_some_iff.mp hP).1
  exact ⟨l[j], gf_ob h1 (List.getElem?_eq_getElem hj), h3 j _ P (List.getElem?_eq_getElem hj) hP⟩
theorem WF.int {a k j : Nat} {ps : List Nat} (h : WF g Y M) (hY : Y.1 a = some (k, ps)) (hk : k < 12) (hP : (sch Y k ps)[j]? = some vi) : ∃ x, mi_gf M a k j = some (.int x) := by
  obtain ⟨v, h1, x, rfl⟩ := h.get hY hk hP
  exact ⟨x, h1⟩
theorem WF.ref {a k j b : Nat} {ps : List Nat} (h : WF g Y M) (hY : Y.1 a = some (k, ps)) (hk : k < 12) (hP : (sch Y k ps)[j]? = some (vr b)) : mi_gf M a k j = some (.ref b) := by
  obtain ⟨v, h1, h2⟩ := h.get hY hk hP
  rw [h1, h2]
theorem WF.cls {a k : Nat} {ps : List Nat} (h : WF g Y M) (hY : Y.1 a = some (k, ps)) (hk : k < 12) : ∃ l, M.1 a = some (ob k l) := by
  obtain ⟨l, h1, -⟩ := (h.1 a k ps hY).obj hk
  exact ⟨l, h1⟩
theorem okc_t {pc na ci b : Nat} {lv : List (Nat × Value)} {st As : List Value} {ps : List Nat} (h1 : (st.take na).reverse = .ref b :: As) (h2 : decide (na ≤ st.length) = true) (h3 : decide (((st.drop na).map fun v => v.category).sum ≤ 8) = true) (h : WF g Y M) (hY : Y.1 b = some (ci, ps)) (hk : ci < 12) : mi_okc (some ci) na (pc, lv, st, M) = true := by
  obtain ⟨l, hl⟩ := h.cls hY hk
  exact okc_v h1 h2 h3 hl
/-- the bytes of a file -/
theorem WF.bytes {b da n : Nat} (h : WF g Y M) (hY : Y.1 b = some (1, [da, n])) : BY M b da n (Y.2 da) ∧ ∀ i, fits .byte (.int (Y.2 da i)) = true := by
  obtain ⟨l, h1, -, ⟨h2, h3⟩, h4, h5⟩ := (h.1 b 1 _ hY).obj (by decide)
  obtain ⟨ty, f, g1, g2, -, -, g3, -⟩ := (h.1 da 24 _ h4).row rfl
  cases g1
  obtain ⟨rfl, g4⟩ := g3 rfl
  refine ⟨⟨?_, g2, by have h6 : n ≤ 65540 := h5; omega⟩, g4⟩
  rcases l with _ | ⟨v, _ | ⟨w, l⟩⟩
  · cases h2
  · have := h3 0 v _ rfl rfl
    rw [h1, this]
  · simp [sch] at h2
/-- the pool -/
theorem WF.pool {p : Nat} {pp : List Nat} (h : WF g Y M) (hY : Y.1 p = some (7, pp)) : ∃ (size : Int32) (n m : Nat) (q : Nat → Nat) (f : Nat → Nat → Int32) (cc : Int32), PL M p size n m q f cc ∧ txt n m f cc ∧ n < 1073741824 ∧ m < 1073741824 ∧ size.toInt ≤ 65535 ∧ (∀ i, ch16 (f 6 i)) ∧ pp = [n, m, q 1, q 2, q 3, q 4, q 5, q 6] := by
  obtain ⟨l, h1, h0, ⟨h2, h3⟩, h4, h5⟩ := (h.1 p 7 _ hY).obj (by decide)
  rcases pp with _ | ⟨n, _ | ⟨m, _ | ⟨t, _ | ⟨tp, _ | ⟨f, _ | ⟨s, _ | ⟨sh, _ | ⟨ch, _ | ⟨z, pp⟩⟩⟩⟩⟩⟩⟩⟩⟩
  any_goals exact absurd rfl h0
  obtain ⟨k1, k2, k3, k4, k5, k6⟩ := h4
  obtain ⟨j1, j2, cc, sz, g1, g3, g4, e7, e0, hs, m1, m3, m4, hx⟩ := h5
  obtain ⟨ty2, f2, a2, b2, -⟩ := (h.1 _ _ _ k2).row (ty := .int) rfl
  obtain ⟨ty5, f5, a5, b5, -⟩ := (h.1 _ _ _ k5).row (ty := .int) rfl
  obtain ⟨ty6, f6, a6, b6, -, -, -, c6⟩ := (h.1 _ _ _ k6).row (ty := .char) rfl
  cases a2
  cases a5
  cases a6
  refine ⟨sz, n, m, fun i => if i = 1 then t else if i = 2 then tp else if i = 3 then f else if i = 4 then s else if i = 5 then sh else ch, fun i => if i = 1 then g1 else if i = 2 then f2 else if i = 3 then g3 else if i = 4 then g4 else if i = 5 then f5 else f6, cc, ⟨?_, ?_, b6⟩, hx, j1, j2, hs, c6 rfl, rfl⟩
  · rcases l with _ | ⟨v0, _ | ⟨v1, _ | ⟨v2, _ | ⟨v3, _ | ⟨v4, _ | ⟨v5, _ | ⟨v6, _ | ⟨v7, _ | ⟨v8, l⟩⟩⟩⟩⟩⟩⟩⟩⟩
    any_goals (simp [sch] at h2; done)
    rw [h1]
    have r1 : v1 = .ref t := h3 1 v1 _ rfl rfl
    have r2 : v2 = .ref tp := h3 2 v2 _ rfl rfl
    have r3 : v3 = .ref f := h3 3 v3 _ rfl rfl
    have r4 : v4 = .ref s := h3 4 v4 _ rfl rfl
    have r5 : v5 = .ref sh := h3 5 v5 _ rfl rfl
    have r6 : v6 = .ref ch := h3 6 v6 _ rfl rfl
    have r7 : v7 = .int cc := Option.some.inj e7
    have r0 : v0 = .int sz := Option.some.inj e0
    subst r0 r1 r2 r3 r4 r5 r6 r7
    rfl
  · intro i hi1 hi5
    have : i = 1 ∨ i = 2 ∨ i = 3 ∨ i = 4 ∨ i = 5 := by omega
    rcases this with rfl | rfl | rfl | rfl | rfl
    · exact m1
    · exact b2
    · exact m3
    · exact m4
    · exact b5
end MIY
end
section
/-! a field is laid: the types stay (my own text) -/
section MIX
theorem ob_ne_ar {M : mi_H} {a b k n : Nat} {l : List Value} {ty : FieldType} {f : Nat → Int32} (h1 : M.1 a = some (ob k l)) (h2 : M.1 b = some (ar ty n f)) : b ≠ a := by
  intro e
  subst e
  rw [h1] at h2
  simp [ob, ar] at h2
variable {g : xe_G} {Y : yT} {M : mi_H}
theorem xtr_up {a k0 : Nat} {l0 l1 : List Value} (ha : M.1 a = some (ob k0 l0)) {l : List Value} {k : Nat} {ps : List Nat} (h : xtr Y M l k ps) : xtr Y (up M a (ob k0 l1)) l k ps := by
  unfold xtr at h ⊢
  split at h
  · exact h
  · exact h
  · exact h
  · exact h
  · obtain ⟨h1, h2, cc, sz, g1, g3, g4, h3, h4, h5, h6, h7, h8, h9⟩ := h
    exact ⟨h1, h2, cc, sz, g1, g3, g4, h3, h4, h5, up_eq h6 (ob_ne_ar ha h6), up_eq h7 (ob_ne_ar ha h7), up_eq h8 (ob_ne_ar ha h8), h9⟩
  · exact h
  · trivial
theorem okY.up {a b k0 k : Nat} {l0 l1 : List Value} {ps : List Nat} (ha : M.1 a = some (ob k0 l0)) (hne : b ≠ a) (h : okY Y M b k ps) : okY Y (up M a (ob k0 l1)) b k ps := by
  rcases h with ⟨hk, l, h1, h2, h3, h4, h5⟩ | ⟨n, r, e, ty, f, h1, h2, h3⟩ | ⟨hk, n, da, m, e, hn, f, h1, h2⟩
  · exact Or.inl ⟨hk, l, up_eq h1 hne, h2, h3, h4, xtr_up ha h5⟩
  · exact Or.inr (Or.inl ⟨n, r, e, ty, f, h1, up_eq h2 hne, h3⟩)
  · exact Or.inr (Or.inr ⟨hk, n, da, m, e, hn, f, up_eq h1 hne, h2⟩)
theorem fit.set {l : List Value} {s : List (Value → Prop)} {j : Nat} {v : Value} {P : Value → Prop} (h : fit l s) (hP : s[j]? = some P) (hv : P v) : fit (l.set j v) s := by
  refine ⟨by rw [List.length_set]; exact h.1, fun k w P' hk hP' => ?_⟩
  by_cases e : k = j
  · subst e
    cases hP.symm.trans hP'
    have hj : k < l.length := by rw [h.1]; exact (List.getElem?_eq_some_iff.mp hP).1
    rw [List.getElem?_set_self hj] at hk
    cases hk
    exact hv
  · rw [List.getElem?_set_ne (fun q => e q.symm)] at hk
    exact h.2 k w P' hk hP'
theorem ob_inj {k : Nat} {l l' : List Value} (h : (some (ob k l) : Option mi_C) = some (ob k l')) : l = l' := by
  simp only [ob, Option.some.injEq, Sum.inr.injEq, Prod.mk.injEq, true_and] at h
  apply List.ext_getElem?
  intro i
  exact congrFun h i
theorem litOk.up {a k : Nat} {l : List Value} (h : litOk g M) (hk : k < 12) (ha : M.1 a = some (ob k l)) (l' : List Value) : litOk g (up M a (ob k l')) := by
  intro i hi
  obtain ⟨hb, f, hf⟩ := h i hi
  refine ⟨hb, f, up_eq hf ?_⟩
  intro e
  rw [e, ha] at hf
  simp only [ob, Option.some.injEq, Sum.inr.injEq, Prod.mk.injEq] at hf
  omega
theorem WF.put {a k j : Nat} {ps : List Nat} {P : Value → Prop} {v : Value} {l : List Value} (h : WF g Y M) (hY : Y.1 a = some (k, ps)) (hk : k < 12) (hl : M.1 a = some (ob k l)) (hP : (sch Y k ps)[j]? = some P) (hv : P v) (hx : xtr Y M l k ps → xtr Y M (l.set j v) k ps) : WF g Y (up M a (ob k (l.set j v))) := by
  refine ⟨fun b kb pb hb => ?_, h.2.1, h.2.2.up hk hl _⟩
  by_cases e : b = a
  · subst e
    cases hY.symm.trans hb
    obtain ⟨l', h1, h2, h3, h4, h5⟩ := (h.1 b k ps hY).obj hk
    have e2 : l' = l := ob_inj (h1.symm.trans hl)
    subst e2
    exact Or.inl ⟨hk, _, up_at, h2, h3.set hP hv, h4, xtr_up hl (hx h5)⟩
  · exact (h.1 b kb pb hb).up hl e
/-- fields of which xtr says nothing -/
def xj (k j : Nat) : Bool := match k with
  | 4 => j != 2
  | 5 => j != 2
  | 6 => j != 4 && j != 5
  | 7 => j != 0 && j != 7
  | 9 => j != 3
  | _ => true
theorem set_ne {l : List Value} {j i : Nat} {v w : Value} (h : l[i]? = some w) (hj : (j != i) = true) : (l.set j v)[i]? = some w := by
  rw [List.getElem?_set_ne (by simpa using hj)]
  exact h
theorem xtr_set {l : List Value} {k j : Nat} {ps : List Nat} {v : Value} (hj : xj k j = true) (h : xtr Y M l k ps) : xtr Y M (l.set j v) k ps := by
  unfold xtr at h ⊢
  split at h
  · exact h
  · obtain ⟨h0, x, h1, h2⟩ := h
    exact ⟨h0, x, set_ne h1 hj, h2⟩
  · obtain ⟨h0, x, h1, h2⟩ := h
    exact ⟨h0, x, set_ne h1 hj, h2⟩
  · obtain ⟨x, y, h1, h2, h3⟩ := h
    have hj' := Bool.and_eq_true_iff.mp hj
    exact ⟨x, y, set_ne h1 hj'.1, set_ne h2 hj'.2, h3⟩
  · obtain ⟨h1, h2, cc, sz, g1, g3, g4, h3, h4, h5⟩ := h
    have hj' := Bool.and_eq_true_iff.mp hj
    exact ⟨h1, h2, cc, sz, g1, g3, g4, set_ne h3 hj'.2, set_ne h4 hj'.1, h5⟩
  · obtain ⟨x, h1, h2⟩ := h
    exact ⟨x, set_ne h1 hj, h2⟩
  · trivial
/-- what a method that makes nothing leaves behind -/
def st (g : xe_G) (Y : yT) (M M' : mi_H) : Prop := WF g Y M' ∧ M'.2 = M.2 ∧ ∀ x, Y.1 x = none → M'.1 x = M.1 x
theorem st.rf (h : WF g Y M) : st g Y M M := ⟨h, rfl, fun _ _ => rfl⟩
theorem st.tr {M1 M2 : mi_H} (h : st g Y M M1) (h' : st g Y M1 M2) : st g Y M M2 := ⟨h'.1, h'.2.1.trans h.2.1, fun x hx => (h'.2.2 x hx).trans (h.2.2 x hx)⟩
def qI (g : xe_G) (Y : yT) (M : mi_H) : Option Value → mi_H → Prop := fun v M' => (∃ x : Int32, v = some (.int x)) ∧ st g Y M M'
def qL (g : xe_G) (Y : yT) (M : mi_H) : Option Value → mi_H → Prop := fun v M' => (∃ x : Int64, v = some (.long x)) ∧ st g Y M M'
def qZ (g : xe_G) (Y : yT) (M : mi_H) : Option Value → mi_H → Prop := fun v M' => (∃ x : Int32, v = some (.int x) ∧ (x = 0 ∨ x = 1)) ∧ st g Y M M'
def qV (g : xe_G) (Y : yT) (M : mi_H) : Option Value → mi_H → Prop := fun v M' => v = none ∧ st g Y M M'
def pI (M : mi_H) : Option Value → mi_H → Prop := fun v M' => (∃ x : Int32, v = some (.int x)) ∧ M' = M
def pL (M : mi_H) : Option Value → mi_H → Prop := fun v M' => (∃ x : Int64, v = some (.long x)) ∧ M' = M
def pZ (M : mi_H) : Option Value → mi_H → Prop := fun v M' => (∃ x : Int32, v = some (.int x) ∧ (x = 0 ∨ x = 1)) ∧ M' = M
theorem r_z {x : Int32} (h : x = 0 ∨ x = 1) : r_int mi_cz [.int x] = some (some (.int x)) := by
  rcases h with rfl | rfl <;> rfl
variable {T : Nat → Option (Nat × mi_B)} {d pc : Nat} {tb : mi_B} {lv : List (Nat × Value)} {s0 : List Value} {Q : Option Value → mi_H → Prop}
theorem tg_int {k j a : Nat} {ps : List Nat} (h1 : tb.1 pc = some (.inl (o_get k j))) (hW : WF g Y M) (hY : Y.1 a = some (k, ps)) (hk : k < 12) (hP : (sch Y k ps)[j]? = some vi) (kk : ∀ x, mi_gf M a k j = some (.int x) → ml T d tb (mi_nk tb.2 (pc + 3, lv, .int x :: s0, M)) Q) : ml T d tb (pc, lv, .ref a :: s0, M) Q := by
  obtain ⟨x, hx⟩ := hW.int hY hk hP
  exact ml_get h1 hx rfl (kk x hx)
theorem tg_ref {k j a b : Nat} {ps : List Nat} {S' : mi_S} (h1 : tb.1 pc = some (.inl (o_get k j))) (hW : WF g Y M) (hY : Y.1 a = some (k, ps)) (hk : k < 12) (hP : (sch Y k ps)[j]? = some (vr b)) (e1 : mi_nk tb.2 (pc + 3, lv, .ref b :: s0, M) = S') (kk : ml T d tb S' Q) : ml T d tb (pc, lv, .ref a :: s0, M) Q :=
  ml_get h1 (hW.ref hY hk hP) e1 kk
theorem tg_vo {k j a : Nat} {ps : List Nat} {P : Nat → Prop} (h1 : tb.1 pc = some (.inl (o_get k j))) (hW : WF g Y M) (hY : Y.1 a = some (k, ps)) (hk : k < 12) (hP : (sch Y k ps)[j]? = some (vo P)) (kk : ∀ b, mi_gf M a k j = some (.ref b) → P b → ml T d tb (mi_nk tb.2 (pc + 3, lv, .ref b :: s0, M)) Q) : ml T d tb (pc, lv, .ref a :: s0, M) Q := by
  obtain ⟨v, hx, b, rfl, hb⟩ := hW.get hY hk hP
  exact ml_get h1 hx rfl (kk b hx hb)
theorem tg_vn {k j a : Nat} {ps : List Nat} {P : Nat → Prop} (h1 : tb.1 pc = some (.inl (o_get k j))) (hW : WF g Y M) (hY : Y.1 a = some (k, ps)) (hk : k < 12) (hP : (sch Y k ps)[j]? = some (vn P)) (k0 : mi_gf M a k j = some .null → ml T d tb (mi_nk tb.2 (pc + 3, lv, .null :: s0, M)) Q) (kk : ∀ b, mi_gf M a k j = some (.ref b) → P b → ml T d tb (mi_nk tb.2 (pc + 3, lv, .ref b :: s0, M)) Q) : ml T d tb (pc, lv, .ref a :: s0, M) Q := by
  obtain ⟨v, hx, rfl | ⟨b, rfl, hb⟩⟩ := hW.get hY hk hP
  · exact ml_get h1 hx rfl (k0 hx)
  · exact ml_get h1 hx rfl (kk b hx hb)
theorem gf_fr {M' : mi_H} {a k j : Nat} {v : Option Value} (h : M'.1 a = M.1 a) (hg : mi_gf M a k j = v) : mi_gf M' a k j = v := by
  unfold mi_gf at hg ⊢
  rw [h]
  exact hg
theorem ykne {a b k k' : Nat} {ps ps' : List Nat} (h : Y.1 a = some (k, ps)) (h' : Y.1 b = some (k', ps')) (hk : k ≠ k') : a ≠ b := by
  intro e
  subst e
  rw [h] at h'
  simp only [Option.some.injEq, Prod.mk.injEq] at h'
  exact hk h'.1
/-- what a field's write leaves: types, the other cells, the other fields, and the field itself -/
def pf (M M' : mi_H) (a k j : Nat) (v : Value) : Prop := (∀ x, x ≠ a → M'.1 x = M.1 x) ∧ (∀ i w, i ≠ j → mi_gf M a k i = some w → mi_gf M' a k i = some w) ∧ mi_gf M' a k j = some v ∧ ∀ l, M.1 a = some (ob k l) → M'.1 a = some (ob k (l.set j v))
theorem pf_up {a k j : Nat} {v : Value} {l : List Value} (h2 : M.1 a = some (ob k l)) (hj : j < l.length) : pf M (up M a (ob k (l.set j v))) a k j v := by
  refine ⟨fun x hx0 => up_ne hx0, fun i w hi hw => ?_, gf_ob up_at (by simp [hj]), fun l' hl' => ?_⟩
  · have : l[i]? = some w := by
      unfold mi_gf at hw
      rw [h2] at hw
      simpa [ob] using hw
    exact gf_ob up_at (set_ne this (by simpa using fun e => hi e.symm))
  · cases ob_inj (h2.symm.trans hl')
    exact up_at
theorem tp_putx {M0 : mi_H} {k j a : Nat} {ty : FieldType} {ps : List Nat} {v : Value} {P : Value → Prop} (h1 : tb.1 pc = some (.inl (o_put k j ty))) (hS : st g Y M0 M) (hY : Y.1 a = some (k, ps)) (hk : k < 12) (hP : (sch Y k ps)[j]? = some P) (hv : P v) (hf : mi_fit ty v = true) (hx : ∀ l, j < l.length → xtr Y M l k ps → xtr Y M (l.set j v) k ps) (kk : ∀ M', st g Y M0 M' → pf M M' a k j v → ml T d tb (mi_nk tb.2 (pc + 3, lv, s0, M')) Q) : ml T d tb (pc, lv, v :: .ref a :: s0, M) Q := by
  obtain ⟨l, h2, h3, h4, -⟩ := (hS.1.1 a k ps hY).obj hk
  have hj : j < l.length := by rw [h4.1]; exact (List.getElem?_eq_some_iff.mp hP).1
  refine mo_put h1 h2 hf hj rfl (kk _ (hS.tr ⟨hS.1.put hY hk h2 hP hv (hx l hj), rfl, fun x hx0 => up_ne ?_⟩) (pf_up h2 hj))
  intro e
  subst e
  rw [hY] at hx0
  cases hx0
theorem tp_put {M0 : mi_H} {k j a : Nat} {ty : FieldType} {ps : List Nat} {v : Value} {P : Value → Prop} (h1 : tb.1 pc = some (.inl (o_put k j ty))) (hS : st g Y M0 M) (hY : Y.1 a = some (k, ps)) (hk : k < 12) (hP : (sch Y k ps)[j]? = some P) (hv : P v) (hf : mi_fit ty v = true) (hx : xj k j = true) (kk : ∀ M', st g Y M0 M' → pf M M' a k j v → ml T d tb (mi_nk tb.2 (pc + 3, lv, s0, M')) Q) : ml T d tb (pc, lv, v :: .ref a :: s0, M) Q :=
  tp_putx h1 hS hY hk hP hv hf (fun _ _ h => xtr_set hx h) kk
end MIX
end
section
/-! questions of the pool that count through a text (laid by wip/p2/c33.py) -/
theorem inc_lt {i j : Int32} (h : i < j) : (i + 1).toInt = i.toInt + 1 := by
  have h1 := Int32.lt_iff_toInt_lt.mp h
  have h2 := Int32.toInt_lt j
  have h3 := Int32.le_toInt i
  rw [Int32.toInt_add]
  have : (1 : Int32).toInt = 1 := rfl
  rw [this]
  apply Int.bmod_eq_of_le <;> omega
theorem loop_inc {i j : Int32} {n : Nat} (h : i < j) (hn : (2147483648 - i.toInt).toNat ≤ n + 1) : (2147483648 - (i + 1).toInt).toNat ≤ n := by
  rw [inc_lt h]
  omega
theorem loop_zero {i : Int32} (hn : (2147483648 - i.toInt).toNat ≤ 0) : False := by
  have := Int32.toInt_lt i
  omega
theorem txt_in {n m : Nat} {f : Nat → Nat → Int32} {cc k i : Int32} (hT : txt n m f cc) (hm : m < 1073741824) (h0 : 0 ≤ i.toInt) (h : i < sp_textLength n m f k) : vp_in k n ∧ vp_in (f 3 k.toNatClampNeg + i) m := by
  have h1 := Int32.lt_iff_toInt_lt.mp h
  unfold sp_textLength at h1
  split at h1
  · have : (0 : Int32).toInt = 0 := rfl
    omega
  · rename_i ht
    obtain ⟨g1, g2⟩ := tag_in (Decidable.not_not.mp ht) (by decide)
    have hk : k.toNatClampNeg < n := Nat.not_le.mp fun q => g1 (Or.inr q)
    obtain ⟨a1, a2, a3⟩ := hT.2.2 _ hk g2
    have a4 := hT.2.1
    have e5 : (f 3 k.toNatClampNeg + i).toInt = (f 3 k.toNatClampNeg).toInt + i.toInt := by
      rw [Int32.toInt_add]
      apply Int.bmod_eq_of_le <;> omega
    exact ⟨g1, vin_iff (by rw [e5]; omega) (by rw [e5]; omega)⟩

set_option maxHeartbeats 1000000 in
theorem ct_hasAngle {g : xe_G} {M : mi_H} {p : Nat} {size : Int32} {n m : Nat} {q : Nat → Nat} {f : Nat → Nat → Int32} {cc : Int32} {x1 : Int32} (hP : PL M p size n m q f cc) (hT : txt n m f cc) (hm : m < 1073741824) {d : Nat} (hd : 3 ≤ d) : mt (mT g) d 118 [.ref p, .int x1] M (fun v M' => (∃ x, v = some (.int x) ∧ (x = 0 ∨ x = 1)) ∧ M' = M) := by
  obtain ⟨d, rfl⟩ : ∃ e, d = e + 1 := ⟨d - 1, by omega⟩
  have L2 : ∀ (n9 : Nat) (i2 : Int32), (2147483648 - i2.toInt).toNat ≤ n9 → 0 ≤ i2.toInt → ml (mT g) d (mb_118 g).2 (2, [(0, .ref p), (1, .int x1), (2, .int i2)], [], M) (fun v M' => (∃ x, v = some (.int x) ∧ (x = 0 ∨ x = 1)) ∧ M' = M) := by
    intro n9
    induction n9 with
    | zero => intro i2 hn _; exact (loop_zero hn).elim
    | succ n9 ih =>
      intro i2 hn h0
      refine ml_st (S' := (3, [(0, .ref p), (1, .int x1), (2, .int i2)], [.int i2], M)) rfl rfl rfl ?_
      refine ml_st (S' := (4, [(0, .ref p), (1, .int x1), (2, .int i2)], [.ref p, .int i2], M)) rfl rfl rfl ?_
      refine ml_st (S' := (5, [(0, .ref p), (1, .int x1), (2, .int i2)], [.int x1, .ref p, .int i2], M)) rfl rfl rfl ?_
      refine ml_call (a := [.ref p, .int x1]) (rest := [.int i2]) rfl (okc_v rfl rfl rfl hP.1) rfl rfl (ct_textLength hP (by omega)) (fun v1 M2 h3 => ?_)
      obtain ⟨rfl, h3⟩ := h3
      rw [h3]
      show ml _ _ _ (8, [(0, .ref p), (1, .int x1), (2, .int i2)], [.int (sp_textLength n m f x1), .int i2], M) _
      refine ml_if2 (S1 := (45, [(0, .ref p), (1, .int x1), (2, .int i2)], [], M)) (S2 := (11, [(0, .ref p), (1, .int x1), (2, .int i2)], [], M)) rfl rfl rfl (fun c_8 => ?_) (fun c_8 => ?_)
      · have c_8 : (sp_textLength n m f x1) ≤ i2 := of_decide_eq_true c_8
        refine ml_st (S' := (46, [(0, .ref p), (1, .int x1), (2, .int i2)], [.int 0], M)) rfl rfl rfl ?_
        exact ml_ret rfl (rfl) (⟨⟨_, rfl, by first | exact Or.inl rfl | exact Or.inr rfl⟩, rfl⟩)
      · have c_8 : ¬ ((sp_textLength n m f x1) ≤ i2) := of_decide_eq_false c_8
        refine ml_st (S' := (12, [(0, .ref p), (1, .int x1), (2, .int i2)], [.ref p], M)) rfl rfl rfl ?_
        refine mo_get (S' := (15, [(0, .ref p), (1, .int x1), (2, .int i2)], [.ref (q 6)], M)) rfl hP.1 rfl rfl ?_
        refine ml_st (S' := (16, [(0, .ref p), (1, .int x1), (2, .int i2)], [.ref p, .ref (q 6)], M)) rfl rfl rfl ?_
        refine mo_get (S' := (19, [(0, .ref p), (1, .int x1), (2, .int i2)], [.ref (q 3), .ref (q 6)], M)) rfl hP.1 rfl rfl ?_
        refine ml_st (S' := (20, [(0, .ref p), (1, .int x1), (2, .int i2)], [.int x1, .ref (q 3), .ref (q 6)], M)) rfl rfl rfl ?_
        refine mo_ald (S' := (21, [(0, .ref p), (1, .int x1), (2, .int i2)], [.int ((f 3) (Int32.toNatClampNeg x1)), .ref (q 6)], M)) rfl (hP.2.1 3 (by decide) (by decide)) ((txt_in hT hm h0 (Int32.not_le.mp c_8)).1) rfl ?_
        refine ml_st (S' := (22, [(0, .ref p), (1, .int x1), (2, .int i2)], [.int i2, .int ((f 3) (Int32.toNatClampNeg x1)), .ref (q 6)], M)) rfl rfl rfl ?_
        refine ml_st (S' := (23, [(0, .ref p), (1, .int x1), (2, .int i2)], [.int (((f 3) (Int32.toNatClampNeg x1)) + i2), .ref (q 6)], M)) rfl rfl rfl ?_
        refine mo_ald (S' := (24, [(0, .ref p), (1, .int x1), (2, .int i2)], [.int ((f 6) (Int32.toNatClampNeg (((f 3) (Int32.toNatClampNeg x1)) + i2)))], M)) rfl hP.2.2 ((txt_in hT hm h0 (Int32.not_le.mp c_8)).2) rfl ?_
        refine ml_st (S' := (25, [(3, .int ((f 6) (Int32.toNatClampNeg (((f 3) (Int32.toNatClampNeg x1)) + i2)))), (0, .ref p), (1, .int x1), (2, .int i2)], [], M)) rfl rfl rfl ?_
        refine ml_st (S' := (26, [(3, .int ((f 6) (Int32.toNatClampNeg (((f 3) (Int32.toNatClampNeg x1)) + i2)))), (0, .ref p), (1, .int x1), (2, .int i2)], [.int ((f 6) (Int32.toNatClampNeg (((f 3) (Int32.toNatClampNeg x1)) + i2)))], M)) rfl rfl rfl ?_
        refine ml_st (S' := (28, [(3, .int ((f 6) (Int32.toNatClampNeg (((f 3) (Int32.toNatClampNeg x1)) + i2)))), (0, .ref p), (1, .int x1), (2, .int i2)], [.int 60, .int ((f 6) (Int32.toNatClampNeg (((f 3) (Int32.toNatClampNeg x1)) + i2)))], M)) rfl rfl rfl ?_
        refine ml_if2 (S1 := (37, [], [], M)) (S2 := (31, [(3, .int ((f 6) (Int32.toNatClampNeg (((f 3) (Int32.toNatClampNeg x1)) + i2)))), (0, .ref p), (1, .int x1), (2, .int i2)], [], M)) rfl rfl rfl (fun c_28 => ?_) (fun c_28 => ?_)
        · have c_28 : ((f 6) (Int32.toNatClampNeg (((f 3) (Int32.toNatClampNeg x1)) + i2))) = 60 := of_decide_eq_true c_28
          refine ml_st (S' := (38, [], [.int 1], M)) rfl rfl rfl ?_
          exact ml_ret rfl (rfl) (⟨⟨_, rfl, by first | exact Or.inl rfl | exact Or.inr rfl⟩, rfl⟩)
        · have c_28 : ¬ (((f 6) (Int32.toNatClampNeg (((f 3) (Int32.toNatClampNeg x1)) + i2))) = 60) := of_decide_eq_false c_28
          refine ml_st (S' := (32, [(3, .int ((f 6) (Int32.toNatClampNeg (((f 3) (Int32.toNatClampNeg x1)) + i2)))), (0, .ref p), (1, .int x1), (2, .int i2)], [.int ((f 6) (Int32.toNatClampNeg (((f 3) (Int32.toNatClampNeg x1)) + i2)))], M)) rfl rfl rfl ?_
          refine ml_st (S' := (34, [(3, .int ((f 6) (Int32.toNatClampNeg (((f 3) (Int32.toNatClampNeg x1)) + i2)))), (0, .ref p), (1, .int x1), (2, .int i2)], [.int 62, .int ((f 6) (Int32.toNatClampNeg (((f 3) (Int32.toNatClampNeg x1)) + i2)))], M)) rfl rfl rfl ?_
          refine ml_if2 (S1 := (39, [(3, .int ((f 6) (Int32.toNatClampNeg (((f 3) (Int32.toNatClampNeg x1)) + i2)))), (0, .ref p), (1, .int x1), (2, .int i2)], [], M)) (S2 := (37, [], [], M)) rfl rfl rfl (fun c_34 => ?_) (fun c_34 => ?_)
          · have c_34 : ¬ ((f 6) (Int32.toNatClampNeg (((f 3) (Int32.toNatClampNeg x1)) + i2))) = 62 := of_decide_eq_true c_34
            refine ml_st (S' := (42, [(2, .int (i2 + 1)), (3, .int ((f 6) (Int32.toNatClampNeg (((f 3) (Int32.toNatClampNeg x1)) + i2)))), (0, .ref p), (1, .int x1)], [], M)) rfl rfl rfl ?_
            refine ml_st (S' := (2, [(0, .ref p), (1, .int x1), (2, .int (i2 + 1))], [], M)) rfl rfl rfl ?_
            exact ih _ (loop_inc (Int32.not_le.mp c_8) hn) (by rw [inc_lt (Int32.not_le.mp c_8)]; omega)
          · have c_34 : ¬ (¬ ((f 6) (Int32.toNatClampNeg (((f 3) (Int32.toNatClampNeg x1)) + i2))) = 62) := of_decide_eq_false c_34
            refine ml_st (S' := (38, [], [.int 1], M)) rfl rfl rfl ?_
            exact ml_ret rfl (rfl) (⟨⟨_, rfl, by first | exact Or.inl rfl | exact Or.inr rfl⟩, rfl⟩)
  refine mt_in (b := mb_118 g) rfl rfl ?_
  show ml (mT g) d (mb_118 g).2 (0, [(0, .ref p), (1, .int x1)], [], M) _
  refine ml_st (S' := (1, [(0, .ref p), (1, .int x1)], [.int 0], M)) rfl rfl rfl ?_
  refine ml_st (S' := (2, [(0, .ref p), (1, .int x1), (2, .int 0)], [], M)) rfl rfl rfl ?_
  exact L2 _ 0 (Nat.le_refl _) (by decide)
set_option maxHeartbeats 1000000 in
theorem ct_isUnqualifiedName {g : xe_G} {M : mi_H} {p : Nat} {size : Int32} {n m : Nat} {q : Nat → Nat} {f : Nat → Nat → Int32} {cc : Int32} {x1 : Int32} (hP : PL M p size n m q f cc) (hT : txt n m f cc) (hm : m < 1073741824) {d : Nat} (hd : 3 ≤ d) : mt (mT g) d 124 [.ref p, .int x1] M (fun v M' => (∃ x, v = some (.int x) ∧ (x = 0 ∨ x = 1)) ∧ M' = M) := by
  obtain ⟨d, rfl⟩ : ∃ e, d = e + 1 := ⟨d - 1, by omega⟩
  have L2 : ∀ (n9 : Nat) (i2 : Int32), (2147483648 - i2.toInt).toNat ≤ n9 → 0 ≤ i2.toInt → ml (mT g) d (mb_124 g).2 (2, [(0, .ref p), (1, .int x1), (2, .int i2)], [], M) (fun v M' => (∃ x, v = some (.int x) ∧ (x = 0 ∨ x = 1)) ∧ M' = M) := by
    intro n9
    induction n9 with
    | zero => intro i2 hn _; exact (loop_zero hn).elim
    | succ n9 ih =>
      intro i2 hn h0
      refine ml_st (S' := (3, [(0, .ref p), (1, .int x1), (2, .int i2)], [.int i2], M)) rfl rfl rfl ?_
      refine ml_st (S' := (4, [(0, .ref p), (1, .int x1), (2, .int i2)], [.ref p, .int i2], M)) rfl rfl rfl ?_
      refine ml_st (S' := (5, [(0, .ref p), (1, .int x1), (2, .int i2)], [.int x1, .ref p, .int i2], M)) rfl rfl rfl ?_
      refine ml_call (a := [.ref p, .int x1]) (rest := [.int i2]) rfl (okc_v rfl rfl rfl hP.1) rfl rfl (ct_textLength hP (by omega)) (fun v1 M2 h3 => ?_)
      obtain ⟨rfl, h3⟩ := h3
      rw [h3]
      show ml _ _ _ (8, [(0, .ref p), (1, .int x1), (2, .int i2)], [.int (sp_textLength n m f x1), .int i2], M) _
      refine ml_if2 (S1 := (57, [(0, .ref p), (1, .int x1), (2, .int i2)], [], M)) (S2 := (11, [(0, .ref p), (1, .int x1), (2, .int i2)], [], M)) rfl rfl rfl (fun c_8 => ?_) (fun c_8 => ?_)
      · have c_8 : (sp_textLength n m f x1) ≤ i2 := of_decide_eq_true c_8
        refine ml_st (S' := (58, [(0, .ref p), (1, .int x1), (2, .int i2)], [.ref p], M)) rfl rfl rfl ?_
        refine ml_st (S' := (59, [(0, .ref p), (1, .int x1), (2, .int i2)], [.int x1, .ref p], M)) rfl rfl rfl ?_
        refine ml_call (a := [.ref p, .int x1]) (rest := []) rfl (okc_v rfl rfl rfl hP.1) rfl rfl (ct_textLength hP (by omega)) (fun v4 M5 h6 => ?_)
        obtain ⟨rfl, h6⟩ := h6
        rw [h6]
        show ml _ _ _ (62, [(0, .ref p), (1, .int x1), (2, .int i2)], [.int (sp_textLength n m f x1)], M) _
        refine ml_if (S1 := (69, [(0, .ref p), (1, .int x1), (2, .int i2)], [], M)) (S2 := (65, [(0, .ref p), (1, .int x1), (2, .int i2)], [], M)) rfl rfl rfl (fun c_62 => ?_) (fun c_62 => ?_)
        · have c_62 : (sp_textLength n m f x1) ≤ 0 := of_decide_eq_true c_62
          refine ml_st (S' := (70, [], [.int 0], M)) rfl rfl rfl ?_
          exact ml_ret rfl (rfl) (⟨⟨_, rfl, by first | exact Or.inl rfl | exact Or.inr rfl⟩, rfl⟩)
        · have c_62 : ¬ ((sp_textLength n m f x1) ≤ 0) := of_decide_eq_false c_62
          refine ml_st (S' := (66, [(0, .ref p), (1, .int x1), (2, .int i2)], [.int 1], M)) rfl rfl rfl ?_
          refine ml_st (S' := (70, [], [.int 1], M)) rfl rfl rfl ?_
          exact ml_ret rfl (rfl) (⟨⟨_, rfl, by first | exact Or.inl rfl | exact Or.inr rfl⟩, rfl⟩)
      · have c_8 : ¬ ((sp_textLength n m f x1) ≤ i2) := of_decide_eq_false c_8
        refine ml_st (S' := (12, [(0, .ref p), (1, .int x1), (2, .int i2)], [.ref p], M)) rfl rfl rfl ?_
        refine mo_get (S' := (15, [(0, .ref p), (1, .int x1), (2, .int i2)], [.ref (q 6)], M)) rfl hP.1 rfl rfl ?_
        refine ml_st (S' := (16, [(0, .ref p), (1, .int x1), (2, .int i2)], [.ref p, .ref (q 6)], M)) rfl rfl rfl ?_
        refine mo_get (S' := (19, [(0, .ref p), (1, .int x1), (2, .int i2)], [.ref (q 3), .ref (q 6)], M)) rfl hP.1 rfl rfl ?_
        refine ml_st (S' := (20, [(0, .ref p), (1, .int x1), (2, .int i2)], [.int x1, .ref (q 3), .ref (q 6)], M)) rfl rfl rfl ?_
        refine mo_ald (S' := (21, [(0, .ref p), (1, .int x1), (2, .int i2)], [.int ((f 3) (Int32.toNatClampNeg x1)), .ref (q 6)], M)) rfl (hP.2.1 3 (by decide) (by decide)) ((txt_in hT hm h0 (Int32.not_le.mp c_8)).1) rfl ?_
        refine ml_st (S' := (22, [(0, .ref p), (1, .int x1), (2, .int i2)], [.int i2, .int ((f 3) (Int32.toNatClampNeg x1)), .ref (q 6)], M)) rfl rfl rfl ?_
        refine ml_st (S' := (23, [(0, .ref p), (1, .int x1), (2, .int i2)], [.int (((f 3) (Int32.toNatClampNeg x1)) + i2), .ref (q 6)], M)) rfl rfl rfl ?_
        refine mo_ald (S' := (24, [(0, .ref p), (1, .int x1), (2, .int i2)], [.int ((f 6) (Int32.toNatClampNeg (((f 3) (Int32.toNatClampNeg x1)) + i2)))], M)) rfl hP.2.2 ((txt_in hT hm h0 (Int32.not_le.mp c_8)).2) rfl ?_
        refine ml_st (S' := (25, [(3, .int ((f 6) (Int32.toNatClampNeg (((f 3) (Int32.toNatClampNeg x1)) + i2)))), (0, .ref p), (1, .int x1), (2, .int i2)], [], M)) rfl rfl rfl ?_
        refine ml_st (S' := (26, [(3, .int ((f 6) (Int32.toNatClampNeg (((f 3) (Int32.toNatClampNeg x1)) + i2)))), (0, .ref p), (1, .int x1), (2, .int i2)], [.int ((f 6) (Int32.toNatClampNeg (((f 3) (Int32.toNatClampNeg x1)) + i2)))], M)) rfl rfl rfl ?_
        refine ml_st (S' := (28, [(3, .int ((f 6) (Int32.toNatClampNeg (((f 3) (Int32.toNatClampNeg x1)) + i2)))), (0, .ref p), (1, .int x1), (2, .int i2)], [.int 46, .int ((f 6) (Int32.toNatClampNeg (((f 3) (Int32.toNatClampNeg x1)) + i2)))], M)) rfl rfl rfl ?_
        refine ml_if2 (S1 := (49, [], [], M)) (S2 := (31, [(3, .int ((f 6) (Int32.toNatClampNeg (((f 3) (Int32.toNatClampNeg x1)) + i2)))), (0, .ref p), (1, .int x1), (2, .int i2)], [], M)) rfl rfl rfl (fun c_28 => ?_) (fun c_28 => ?_)
        · have c_28 : ((f 6) (Int32.toNatClampNeg (((f 3) (Int32.toNatClampNeg x1)) + i2))) = 46 := of_decide_eq_true c_28
          refine ml_st (S' := (50, [], [.int 0], M)) rfl rfl rfl ?_
          exact ml_ret rfl (rfl) (⟨⟨_, rfl, by first | exact Or.inl rfl | exact Or.inr rfl⟩, rfl⟩)
        · have c_28 : ¬ (((f 6) (Int32.toNatClampNeg (((f 3) (Int32.toNatClampNeg x1)) + i2))) = 46) := of_decide_eq_false c_28
          refine ml_st (S' := (32, [(3, .int ((f 6) (Int32.toNatClampNeg (((f 3) (Int32.toNatClampNeg x1)) + i2)))), (0, .ref p), (1, .int x1), (2, .int i2)], [.int ((f 6) (Int32.toNatClampNeg (((f 3) (Int32.toNatClampNeg x1)) + i2)))], M)) rfl rfl rfl ?_
          refine ml_st (S' := (34, [(3, .int ((f 6) (Int32.toNatClampNeg (((f 3) (Int32.toNatClampNeg x1)) + i2)))), (0, .ref p), (1, .int x1), (2, .int i2)], [.int 59, .int ((f 6) (Int32.toNatClampNeg (((f 3) (Int32.toNatClampNeg x1)) + i2)))], M)) rfl rfl rfl ?_
          refine ml_if2 (S1 := (49, [], [], M)) (S2 := (37, [(3, .int ((f 6) (Int32.toNatClampNeg (((f 3) (Int32.toNatClampNeg x1)) + i2)))), (0, .ref p), (1, .int x1), (2, .int i2)], [], M)) rfl rfl rfl (fun c_34 => ?_) (fun c_34 => ?_)
          · have c_34 : ((f 6) (Int32.toNatClampNeg (((f 3) (Int32.toNatClampNeg x1)) + i2))) = 59 := of_decide_eq_true c_34
            refine ml_st (S' := (50, [], [.int 0], M)) rfl rfl rfl ?_
            exact ml_ret rfl (rfl) (⟨⟨_, rfl, by first | exact Or.inl rfl | exact Or.inr rfl⟩, rfl⟩)
          · have c_34 : ¬ (((f 6) (Int32.toNatClampNeg (((f 3) (Int32.toNatClampNeg x1)) + i2))) = 59) := of_decide_eq_false c_34
            refine ml_st (S' := (38, [(3, .int ((f 6) (Int32.toNatClampNeg (((f 3) (Int32.toNatClampNeg x1)) + i2)))), (0, .ref p), (1, .int x1), (2, .int i2)], [.int ((f 6) (Int32.toNatClampNeg (((f 3) (Int32.toNatClampNeg x1)) + i2)))], M)) rfl rfl rfl ?_
            refine ml_st (S' := (40, [(3, .int ((f 6) (Int32.toNatClampNeg (((f 3) (Int32.toNatClampNeg x1)) + i2)))), (0, .ref p), (1, .int x1), (2, .int i2)], [.int 91, .int ((f 6) (Int32.toNatClampNeg (((f 3) (Int32.toNatClampNeg x1)) + i2)))], M)) rfl rfl rfl ?_
            refine ml_if2 (S1 := (49, [], [], M)) (S2 := (43, [(3, .int ((f 6) (Int32.toNatClampNeg (((f 3) (Int32.toNatClampNeg x1)) + i2)))), (0, .ref p), (1, .int x1), (2, .int i2)], [], M)) rfl rfl rfl (fun c_40 => ?_) (fun c_40 => ?_)
            · have c_40 : ((f 6) (Int32.toNatClampNeg (((f 3) (Int32.toNatClampNeg x1)) + i2))) = 91 := of_decide_eq_true c_40
              refine ml_st (S' := (50, [], [.int 0], M)) rfl rfl rfl ?_
              exact ml_ret rfl (rfl) (⟨⟨_, rfl, by first | exact Or.inl rfl | exact Or.inr rfl⟩, rfl⟩)
            · have c_40 : ¬ (((f 6) (Int32.toNatClampNeg (((f 3) (Int32.toNatClampNeg x1)) + i2))) = 91) := of_decide_eq_false c_40
              refine ml_st (S' := (44, [(3, .int ((f 6) (Int32.toNatClampNeg (((f 3) (Int32.toNatClampNeg x1)) + i2)))), (0, .ref p), (1, .int x1), (2, .int i2)], [.int ((f 6) (Int32.toNatClampNeg (((f 3) (Int32.toNatClampNeg x1)) + i2)))], M)) rfl rfl rfl ?_
              refine ml_st (S' := (46, [(3, .int ((f 6) (Int32.toNatClampNeg (((f 3) (Int32.toNatClampNeg x1)) + i2)))), (0, .ref p), (1, .int x1), (2, .int i2)], [.int 47, .int ((f 6) (Int32.toNatClampNeg (((f 3) (Int32.toNatClampNeg x1)) + i2)))], M)) rfl rfl rfl ?_
              refine ml_if2 (S1 := (51, [(3, .int ((f 6) (Int32.toNatClampNeg (((f 3) (Int32.toNatClampNeg x1)) + i2)))), (0, .ref p), (1, .int x1), (2, .int i2)], [], M)) (S2 := (49, [], [], M)) rfl rfl rfl (fun c_46 => ?_) (fun c_46 => ?_)
              · have c_46 : ¬ ((f 6) (Int32.toNatClampNeg (((f 3) (Int32.toNatClampNeg x1)) + i2))) = 47 := of_decide_eq_true c_46
                refine ml_st (S' := (54, [(2, .int (i2 + 1)), (3, .int ((f 6) (Int32.toNatClampNeg (((f 3) (Int32.toNatClampNeg x1)) + i2)))), (0, .ref p), (1, .int x1)], [], M)) rfl rfl rfl ?_
                refine ml_st (S' := (2, [(0, .ref p), (1, .int x1), (2, .int (i2 + 1))], [], M)) rfl rfl rfl ?_
                exact ih _ (loop_inc (Int32.not_le.mp c_8) hn) (by rw [inc_lt (Int32.not_le.mp c_8)]; omega)
              · have c_46 : ¬ (¬ ((f 6) (Int32.toNatClampNeg (((f 3) (Int32.toNatClampNeg x1)) + i2))) = 47) := of_decide_eq_false c_46
                refine ml_st (S' := (50, [], [.int 0], M)) rfl rfl rfl ?_
                exact ml_ret rfl (rfl) (⟨⟨_, rfl, by first | exact Or.inl rfl | exact Or.inr rfl⟩, rfl⟩)
  refine mt_in (b := mb_124 g) rfl rfl ?_
  show ml (mT g) d (mb_124 g).2 (0, [(0, .ref p), (1, .int x1)], [], M) _
  refine ml_st (S' := (1, [(0, .ref p), (1, .int x1)], [.int 0], M)) rfl rfl rfl ?_
  refine ml_st (S' := (2, [(0, .ref p), (1, .int x1), (2, .int 0)], [], M)) rfl rfl rfl ?_
  exact L2 _ 0 (Nat.le_refl _) (by decide)
end
section
/-! more of the pool's questions (laid by wip/p2/c34.py) -/
def sp_characterAt (n m : Nat) (f : Nat → Nat → Int32) (x1 : Int32) (x2 : Int32) : Int32 := if ¬ (sp_tagOf n m f x1) = 1 then ((-1)) else (if x2 < 0 then ((-1)) else (if x2 < ((f 4) (Int32.toNatClampNeg x1)) then (((f 6) (Int32.toNatClampNeg (((f 3) (Int32.toNatClampNeg x1)) + x2)))) else ((-1))))
set_option maxHeartbeats 1000000 in
theorem ct_characterAt {g : xe_G} {M : mi_H} {p : Nat} {size : Int32} {n m : Nat} {q : Nat → Nat} {f : Nat → Nat → Int32} {cc : Int32} {x1 x2 : Int32} (hP : PL M p size n m q f cc) (hT : txt n m f cc) (hm : m < 1073741824) {d : Nat} (hd : 2 ≤ d) : mt (mT g) d 113 [.ref p, .int x1, .int x2] M (fun v M' => v = some (.int (sp_characterAt n m f x1 x2)) ∧ M' = M) := by
  obtain ⟨d, rfl⟩ : ∃ e, d = e + 1 := ⟨d - 1, by omega⟩
  refine mt_in (b := mb_113 g) rfl rfl ?_
  show ml (mT g) d (mb_113 g).2 (0, [(0, .ref p), (1, .int x1), (2, .int x2)], [], M) _
  refine ml_st (S' := (1, [(0, .ref p), (1, .int x1), (2, .int x2)], [.ref p], M)) rfl rfl rfl ?_
  refine ml_st (S' := (2, [(0, .ref p), (1, .int x1), (2, .int x2)], [.int x1, .ref p], M)) rfl rfl rfl ?_
  refine ml_call (a := [.ref p, .int x1]) (rest := []) rfl (okc_v rfl rfl rfl hP.1) rfl rfl (ct_tagOf hP (by omega)) (fun v1 M2 h3 => ?_)
  obtain ⟨rfl, h3⟩ := h3
  rw [h3]
  show ml _ _ _ (5, [(0, .ref p), (1, .int x1), (2, .int x2)], [.int (sp_tagOf n m f x1)], M) _
  refine ml_st (S' := (6, [(0, .ref p), (1, .int x1), (2, .int x2)], [.int 1, .int (sp_tagOf n m f x1)], M)) rfl rfl rfl ?_
  refine ml_if2 (S1 := (23, [], [], M)) (S2 := (9, [(0, .ref p), (1, .int x1), (2, .int x2)], [], M)) rfl rfl rfl (fun c_6 => ?_) (fun c_6 => ?_)
  · have c_6 : ¬ (sp_tagOf n m f x1) = 1 := of_decide_eq_true c_6
    refine ml_st (S' := (24, [], [.int (-1)], M)) rfl rfl rfl ?_
    refine ml_st (S' := (40, [], [.int (-1)], M)) rfl rfl rfl ?_
    exact ml_ret rfl (rfl) (⟨by rw [sp_characterAt, if_pos c_6], rfl⟩)
  · have c_6 : ¬ (¬ (sp_tagOf n m f x1) = 1) := of_decide_eq_false c_6
    refine ml_st (S' := (10, [(0, .ref p), (1, .int x1), (2, .int x2)], [.int x2], M)) rfl rfl rfl ?_
    refine ml_if (S1 := (23, [], [], M)) (S2 := (13, [(0, .ref p), (1, .int x1), (2, .int x2)], [], M)) rfl rfl rfl (fun c_10 => ?_) (fun c_10 => ?_)
    · have c_10 : x2 < 0 := of_decide_eq_true c_10
      refine ml_st (S' := (24, [], [.int (-1)], M)) rfl rfl rfl ?_
      refine ml_st (S' := (40, [], [.int (-1)], M)) rfl rfl rfl ?_
      exact ml_ret rfl (rfl) (⟨by rw [sp_characterAt, if_neg c_6, if_pos c_10], rfl⟩)
    · have c_10 : ¬ (x2 < 0) := of_decide_eq_false c_10
      refine ml_st (S' := (14, [(0, .ref p), (1, .int x1), (2, .int x2)], [.int x2], M)) rfl rfl rfl ?_
      refine ml_st (S' := (15, [(0, .ref p), (1, .int x1), (2, .int x2)], [.ref p, .int x2], M)) rfl rfl rfl ?_
      refine mo_get (S' := (18, [(0, .ref p), (1, .int x1), (2, .int x2)], [.ref (q 4), .int x2], M)) rfl hP.1 rfl rfl ?_
      refine ml_st (S' := (19, [(0, .ref p), (1, .int x1), (2, .int x2)], [.int x1, .ref (q 4), .int x2], M)) rfl rfl rfl ?_
      refine mo_ald (S' := (20, [(0, .ref p), (1, .int x1), (2, .int x2)], [.int ((f 4) (Int32.toNatClampNeg x1)), .int x2], M)) rfl (hP.2.1 4 (by decide) (by decide)) ((tag_in (Decidable.not_not.mp c_6) (by decide)).1) rfl ?_
      refine ml_if2 (S1 := (27, [(0, .ref p), (1, .int x1), (2, .int x2)], [], M)) (S2 := (23, [], [], M)) rfl rfl rfl (fun c_20 => ?_) (fun c_20 => ?_)
      · have c_20 : x2 < ((f 4) (Int32.toNatClampNeg x1)) := of_decide_eq_true c_20
        refine ml_st (S' := (28, [(0, .ref p), (1, .int x1), (2, .int x2)], [.ref p], M)) rfl rfl rfl ?_
        refine mo_get (S' := (31, [(0, .ref p), (1, .int x1), (2, .int x2)], [.ref (q 6)], M)) rfl hP.1 rfl rfl ?_
        refine ml_st (S' := (32, [(0, .ref p), (1, .int x1), (2, .int x2)], [.ref p, .ref (q 6)], M)) rfl rfl rfl ?_
        refine mo_get (S' := (35, [(0, .ref p), (1, .int x1), (2, .int x2)], [.ref (q 3), .ref (q 6)], M)) rfl hP.1 rfl rfl ?_
        refine ml_st (S' := (36, [(0, .ref p), (1, .int x1), (2, .int x2)], [.int x1, .ref (q 3), .ref (q 6)], M)) rfl rfl rfl ?_
        refine mo_ald (S' := (37, [(0, .ref p), (1, .int x1), (2, .int x2)], [.int ((f 3) (Int32.toNatClampNeg x1)), .ref (q 6)], M)) rfl (hP.2.1 3 (by decide) (by decide)) ((tag_in (Decidable.not_not.mp c_6) (by decide)).1) rfl ?_
        refine ml_st (S' := (38, [(0, .ref p), (1, .int x1), (2, .int x2)], [.int x2, .int ((f 3) (Int32.toNatClampNeg x1)), .ref (q 6)], M)) rfl rfl rfl ?_
        refine ml_st (S' := (39, [(0, .ref p), (1, .int x1), (2, .int x2)], [.int (((f 3) (Int32.toNatClampNeg x1)) + x2), .ref (q 6)], M)) rfl rfl rfl ?_
        refine mo_ald (S' := (40, [], [.int ((f 6) (Int32.toNatClampNeg (((f 3) (Int32.toNatClampNeg x1)) + x2)))], M)) rfl hP.2.2 ((txt_in hT hm (nneg c_10) (by unfold sp_textLength; rw [if_neg c_6]; exact c_20)).2) rfl ?_
        exact ml_ret rfl (rfl) (⟨by rw [sp_characterAt, if_neg c_6, if_neg c_10, if_pos c_20], rfl⟩)
      · have c_20 : ¬ (x2 < ((f 4) (Int32.toNatClampNeg x1))) := of_decide_eq_false c_20
        refine ml_st (S' := (24, [], [.int (-1)], M)) rfl rfl rfl ?_
        refine ml_st (S' := (40, [], [.int (-1)], M)) rfl rfl rfl ?_
        exact ml_ret rfl (rfl) (⟨by rw [sp_characterAt, if_neg c_6, if_neg c_10, if_neg c_20], rfl⟩)
def sp_isPlainClass (n m : Nat) (f : Nat → Nat → Int32) (x1 : Int32) : Int32 := if ¬ (sp_tagOf n m f x1) = 7 then (0) else (if (sp_characterAt n m f ((f 3) (Int32.toNatClampNeg x1)) 0) = 91 then (0) else (1))
set_option maxHeartbeats 1000000 in
theorem ct_isPlainClass {g : xe_G} {M : mi_H} {p : Nat} {size : Int32} {n m : Nat} {q : Nat → Nat} {f : Nat → Nat → Int32} {cc : Int32} {x1 : Int32} (hP : PL M p size n m q f cc) (hT : txt n m f cc) (hm : m < 1073741824) {d : Nat} (hd : 3 ≤ d) : mt (mT g) d 123 [.ref p, .int x1] M (fun v M' => v = some (.int (sp_isPlainClass n m f x1)) ∧ M' = M) := by
  obtain ⟨d, rfl⟩ : ∃ e, d = e + 1 := ⟨d - 1, by omega⟩
  refine mt_in (b := mb_123 g) rfl rfl ?_
  show ml (mT g) d (mb_123 g).2 (0, [(0, .ref p), (1, .int x1)], [], M) _
  refine ml_st (S' := (1, [(0, .ref p), (1, .int x1)], [.ref p], M)) rfl rfl rfl ?_
  refine ml_st (S' := (2, [(0, .ref p), (1, .int x1)], [.int x1, .ref p], M)) rfl rfl rfl ?_
  refine ml_call (a := [.ref p, .int x1]) (rest := []) rfl (okc_v rfl rfl rfl hP.1) rfl rfl (ct_tagOf hP (by omega)) (fun v1 M2 h3 => ?_)
  obtain ⟨rfl, h3⟩ := h3
  rw [h3]
  show ml _ _ _ (5, [(0, .ref p), (1, .int x1)], [.int (sp_tagOf n m f x1)], M) _
  refine ml_st (S' := (7, [(0, .ref p), (1, .int x1)], [.int 7, .int (sp_tagOf n m f x1)], M)) rfl rfl rfl ?_
  refine ml_if2 (S1 := (30, [], [], M)) (S2 := (10, [(0, .ref p), (1, .int x1)], [], M)) rfl rfl rfl (fun c_7 => ?_) (fun c_7 => ?_)
  · have c_7 : ¬ (sp_tagOf n m f x1) = 7 := of_decide_eq_true c_7
    refine ml_st (S' := (31, [], [.int 0], M)) rfl rfl rfl ?_
    exact ml_ret rfl (rfl) (⟨by rw [sp_isPlainClass, if_pos c_7], rfl⟩)
  · have c_7 : ¬ (¬ (sp_tagOf n m f x1) = 7) := of_decide_eq_false c_7
    refine ml_st (S' := (11, [(0, .ref p), (1, .int x1)], [.ref p], M)) rfl rfl rfl ?_
    refine ml_st (S' := (12, [(0, .ref p), (1, .int x1)], [.ref p, .ref p], M)) rfl rfl rfl ?_
    refine mo_get (S' := (15, [(0, .ref p), (1, .int x1)], [.ref (q 3), .ref p], M)) rfl hP.1 rfl rfl ?_
    refine ml_st (S' := (16, [(0, .ref p), (1, .int x1)], [.int x1, .ref (q 3), .ref p], M)) rfl rfl rfl ?_
    refine mo_ald (S' := (17, [(0, .ref p), (1, .int x1)], [.int ((f 3) (Int32.toNatClampNeg x1)), .ref p], M)) rfl (hP.2.1 3 (by decide) (by decide)) ((tag_in (Decidable.not_not.mp c_7) (by decide)).1) rfl ?_
    refine ml_st (S' := (18, [(0, .ref p), (1, .int x1)], [.int 0, .int ((f 3) (Int32.toNatClampNeg x1)), .ref p], M)) rfl rfl rfl ?_
    refine ml_call (a := [.ref p, .int ((f 3) (Int32.toNatClampNeg x1)), .int 0]) (rest := []) rfl (okc_v rfl rfl rfl hP.1) rfl rfl (ct_characterAt hP hT hm (by omega)) (fun v4 M5 h6 => ?_)
    obtain ⟨rfl, h6⟩ := h6
    rw [h6]
    show ml _ _ _ (21, [(0, .ref p), (1, .int x1)], [.int (sp_characterAt n m f ((f 3) (Int32.toNatClampNeg x1)) 0)], M) _
    refine ml_st (S' := (23, [(0, .ref p), (1, .int x1)], [.int 91, .int (sp_characterAt n m f ((f 3) (Int32.toNatClampNeg x1)) 0)], M)) rfl rfl rfl ?_
    refine ml_if2 (S1 := (30, [], [], M)) (S2 := (26, [(0, .ref p), (1, .int x1)], [], M)) rfl rfl rfl (fun c_23 => ?_) (fun c_23 => ?_)
    · have c_23 : (sp_characterAt n m f ((f 3) (Int32.toNatClampNeg x1)) 0) = 91 := of_decide_eq_true c_23
      refine ml_st (S' := (31, [], [.int 0], M)) rfl rfl rfl ?_
      exact ml_ret rfl (rfl) (⟨by rw [sp_isPlainClass, if_neg c_7, if_pos c_23], rfl⟩)
    · have c_23 : ¬ ((sp_characterAt n m f ((f 3) (Int32.toNatClampNeg x1)) 0) = 91) := of_decide_eq_false c_23
      refine ml_st (S' := (27, [(0, .ref p), (1, .int x1)], [.int 1], M)) rfl rfl rfl ?_
      refine ml_st (S' := (31, [], [.int 1], M)) rfl rfl rfl ?_
      exact ml_ret rfl (rfl) (⟨by rw [sp_isPlainClass, if_neg c_7, if_neg c_23], rfl⟩)
end
section
/-! the pool's questions with loops (laid by wip/p2/c35.py) -/
set_option maxHeartbeats 1000000 in
theorem ct_dimensionsOf {g : xe_G} {M : mi_H} {p : Nat} {size : Int32} {n m : Nat} {q : Nat → Nat} {f : Nat → Nat → Int32} {cc : Int32} {x1 : Int32} (hP : PL M p size n m q f cc) (hT : txt n m f cc) (hm : m < 1073741824) {d : Nat} (hd : 3 ≤ d) : mt (mT g) d 116 [.ref p, .int x1] M (fun v M' => (∃ x, v = some (.int x)) ∧ M' = M) := by
  obtain ⟨d, rfl⟩ : ∃ e, d = e + 1 := ⟨d - 1, by omega⟩
  have L8 : ∀ (n9 : Nat) (i2 : Int32), (2147483648 - i2.toInt).toNat ≤ n9 → 0 ≤ i2.toInt → ml (mT g) d (mb_116 g).2 (8, [(0, .ref p), (2, .int (sp_firstIndex n m f x1)), (3, .int i2)], [], M) (fun v M' => (∃ x, v = some (.int x)) ∧ M' = M) := by
    intro n9
    induction n9 with
    | zero => intro i2 hn _; exact (loop_zero hn).elim
    | succ n9 ih =>
      intro i2 hn h0
      refine ml_st (S' := (9, [(0, .ref p), (2, .int (sp_firstIndex n m f x1)), (3, .int i2)], [.int i2], M)) rfl rfl rfl ?_
      refine ml_st (S' := (10, [(0, .ref p), (2, .int (sp_firstIndex n m f x1)), (3, .int i2)], [.ref p, .int i2], M)) rfl rfl rfl ?_
      refine ml_st (S' := (11, [(0, .ref p), (2, .int (sp_firstIndex n m f x1)), (3, .int i2)], [.int (sp_firstIndex n m f x1), .ref p, .int i2], M)) rfl rfl rfl ?_
      refine ml_call (a := [.ref p, .int (sp_firstIndex n m f x1)]) (rest := [.int i2]) rfl (okc_v rfl rfl rfl hP.1) rfl rfl (ct_textLength hP (by omega)) (fun v1 M2 h3 => ?_)
      obtain ⟨rfl, h3⟩ := h3
      rw [h3]
      show ml _ _ _ (14, [(0, .ref p), (2, .int (sp_firstIndex n m f x1)), (3, .int i2)], [.int (sp_textLength n m f (sp_firstIndex n m f x1)), .int i2], M) _
      refine ml_if2 (S1 := (41, [(3, .int i2)], [], M)) (S2 := (17, [(0, .ref p), (2, .int (sp_firstIndex n m f x1)), (3, .int i2)], [], M)) rfl rfl rfl (fun c_14 => ?_) (fun c_14 => ?_)
      · have c_14 : (sp_textLength n m f (sp_firstIndex n m f x1)) ≤ i2 := of_decide_eq_true c_14
        refine ml_st (S' := (42, [(3, .int i2)], [.int i2], M)) rfl rfl rfl ?_
        exact ml_ret rfl (rfl) (⟨⟨_, rfl⟩, rfl⟩)
      · have c_14 : ¬ ((sp_textLength n m f (sp_firstIndex n m f x1)) ≤ i2) := of_decide_eq_false c_14
        refine ml_st (S' := (18, [(0, .ref p), (2, .int (sp_firstIndex n m f x1)), (3, .int i2)], [.ref p], M)) rfl rfl rfl ?_
        refine mo_get (S' := (21, [(0, .ref p), (2, .int (sp_firstIndex n m f x1)), (3, .int i2)], [.ref (q 6)], M)) rfl hP.1 rfl rfl ?_
        refine ml_st (S' := (22, [(0, .ref p), (2, .int (sp_firstIndex n m f x1)), (3, .int i2)], [.ref p, .ref (q 6)], M)) rfl rfl rfl ?_
        refine mo_get (S' := (25, [(0, .ref p), (2, .int (sp_firstIndex n m f x1)), (3, .int i2)], [.ref (q 3), .ref (q 6)], M)) rfl hP.1 rfl rfl ?_
        refine ml_st (S' := (26, [(0, .ref p), (2, .int (sp_firstIndex n m f x1)), (3, .int i2)], [.int (sp_firstIndex n m f x1), .ref (q 3), .ref (q 6)], M)) rfl rfl rfl ?_
        refine mo_ald (S' := (27, [(0, .ref p), (2, .int (sp_firstIndex n m f x1)), (3, .int i2)], [.int ((f 3) (Int32.toNatClampNeg (sp_firstIndex n m f x1))), .ref (q 6)], M)) rfl (hP.2.1 3 (by decide) (by decide)) ((txt_in hT hm h0 (Int32.not_le.mp c_14)).1) rfl ?_
        refine ml_st (S' := (28, [(0, .ref p), (2, .int (sp_firstIndex n m f x1)), (3, .int i2)], [.int i2, .int ((f 3) (Int32.toNatClampNeg (sp_firstIndex n m f x1))), .ref (q 6)], M)) rfl rfl rfl ?_
        refine ml_st (S' := (29, [(0, .ref p), (2, .int (sp_firstIndex n m f x1)), (3, .int i2)], [.int (((f 3) (Int32.toNatClampNeg (sp_firstIndex n m f x1))) + i2), .ref (q 6)], M)) rfl rfl rfl ?_
        refine mo_ald (S' := (30, [(0, .ref p), (2, .int (sp_firstIndex n m f x1)), (3, .int i2)], [.int ((f 6) (Int32.toNatClampNeg (((f 3) (Int32.toNatClampNeg (sp_firstIndex n m f x1))) + i2)))], M)) rfl hP.2.2 ((txt_in hT hm h0 (Int32.not_le.mp c_14)).2) rfl ?_
        refine ml_st (S' := (32, [(0, .ref p), (2, .int (sp_firstIndex n m f x1)), (3, .int i2)], [.int 91, .int ((f 6) (Int32.toNatClampNeg (((f 3) (Int32.toNatClampNeg (sp_firstIndex n m f x1))) + i2)))], M)) rfl rfl rfl ?_
        refine ml_if2 (S1 := (41, [(3, .int i2)], [], M)) (S2 := (35, [(0, .ref p), (2, .int (sp_firstIndex n m f x1)), (3, .int i2)], [], M)) rfl rfl rfl (fun c_32 => ?_) (fun c_32 => ?_)
        · have c_32 : ¬ ((f 6) (Int32.toNatClampNeg (((f 3) (Int32.toNatClampNeg (sp_firstIndex n m f x1))) + i2))) = 91 := of_decide_eq_true c_32
          refine ml_st (S' := (42, [(3, .int i2)], [.int i2], M)) rfl rfl rfl ?_
          exact ml_ret rfl (rfl) (⟨⟨_, rfl⟩, rfl⟩)
        · have c_32 : ¬ (¬ ((f 6) (Int32.toNatClampNeg (((f 3) (Int32.toNatClampNeg (sp_firstIndex n m f x1))) + i2))) = 91) := of_decide_eq_false c_32
          refine ml_st (S' := (38, [(3, .int (i2 + 1)), (0, .ref p), (2, .int (sp_firstIndex n m f x1))], [], M)) rfl rfl rfl ?_
          refine ml_st (S' := (8, [(0, .ref p), (2, .int (sp_firstIndex n m f x1)), (3, .int (i2 + 1))], [], M)) rfl rfl rfl ?_
          exact ih _ (loop_inc (Int32.not_le.mp c_14) hn) (by rw [inc_lt (Int32.not_le.mp c_14)]; omega)
  refine mt_in (b := mb_116 g) rfl rfl ?_
  show ml (mT g) d (mb_116 g).2 (0, [(0, .ref p), (1, .int x1)], [], M) _
  refine ml_st (S' := (1, [(0, .ref p), (1, .int x1)], [.ref p], M)) rfl rfl rfl ?_
  refine ml_st (S' := (2, [(0, .ref p), (1, .int x1)], [.int x1, .ref p], M)) rfl rfl rfl ?_
  refine ml_call (a := [.ref p, .int x1]) (rest := []) rfl (okc_v rfl rfl rfl hP.1) rfl rfl (ct_firstIndex hP (by omega)) (fun v1 M2 h3 => ?_)
  obtain ⟨rfl, h3⟩ := h3
  rw [h3]
  show ml _ _ _ (5, [(0, .ref p), (1, .int x1)], [.int (sp_firstIndex n m f x1)], M) _
  refine ml_st (S' := (6, [(2, .int (sp_firstIndex n m f x1)), (0, .ref p), (1, .int x1)], [], M)) rfl rfl rfl ?_
  refine ml_st (S' := (7, [(2, .int (sp_firstIndex n m f x1)), (0, .ref p), (1, .int x1)], [.int 0], M)) rfl rfl rfl ?_
  refine ml_st (S' := (8, [(0, .ref p), (2, .int (sp_firstIndex n m f x1)), (3, .int 0)], [], M)) rfl rfl rfl ?_
  exact L8 _ 0 (Nat.le_refl _) (by decide)
theorem vin_end {i x2 : Int32} {m : Nat} (h0 : 0 ≤ i.toInt) (h : ¬ x2 ≤ i) (h2 : x2.toInt ≤ m) : vp_in i m := by
  have := Int32.lt_iff_toInt_lt.mp (Int32.not_le.mp h)
  exact vin_iff h0 (by omega)
set_option maxHeartbeats 1000000 in
theorem ct_nameEnd {g : xe_G} {M : mi_H} {p : Nat} {size : Int32} {n m : Nat} {q : Nat → Nat} {f : Nat → Nat → Int32} {cc : Int32} {x1 x2 : Int32} (hP : PL M p size n m q f cc) (h1 : 0 ≤ x1.toInt) (h2 : x2.toInt ≤ m) {d : Nat} (hd : 1 ≤ d) : mt (mT g) d 127 [.ref p, .int x1, .int x2] M (fun v M' => (∃ x, v = some (.int x)) ∧ M' = M) := by
  obtain ⟨d, rfl⟩ : ∃ e, d = e + 1 := ⟨d - 1, by omega⟩
  have L5 : ∀ (n9 : Nat) (i3 i4 : Int32), (2147483648 - i4.toInt).toNat ≤ n9 → 0 ≤ i4.toInt → ml (mT g) d (mb_127 g).2 (5, [(0, .ref p), (2, .int x2), (3, .int i3), (4, .int i4)], [], M) (fun v M' => (∃ x, v = some (.int x)) ∧ M' = M) := by
    intro n9
    induction n9 with
    | zero => intro i3 i4 hn _; exact (loop_zero hn).elim
    | succ n9 ih =>
      intro i3 i4 hn h0
      refine ml_st (S' := (7, [(0, .ref p), (2, .int x2), (3, .int i3), (4, .int i4)], [.int i4], M)) rfl rfl rfl ?_
      refine ml_st (S' := (8, [(0, .ref p), (2, .int x2), (3, .int i3), (4, .int i4)], [.int x2, .int i4], M)) rfl rfl rfl ?_
      refine ml_if2 (S1 := (87, [(0, .ref p), (2, .int x2), (3, .int i3), (4, .int i4)], [], M)) (S2 := (11, [(0, .ref p), (2, .int x2), (3, .int i3), (4, .int i4)], [], M)) rfl rfl rfl (fun c_8 => ?_) (fun c_8 => ?_)
      · have c_8 : x2 ≤ i4 := of_decide_eq_true c_8
        refine ml_st (S' := (88, [(0, .ref p), (2, .int x2), (3, .int i3), (4, .int i4)], [.int x2], M)) rfl rfl rfl ?_
        refine ml_st (S' := (89, [(0, .ref p), (2, .int x2), (3, .int i3), (4, .int i4)], [.int i3, .int x2], M)) rfl rfl rfl ?_
        refine ml_if2 (S1 := (96, [(0, .ref p), (2, .int x2), (3, .int i3), (4, .int i4)], [], M)) (S2 := (92, [(0, .ref p), (2, .int x2), (3, .int i3), (4, .int i4)], [], M)) rfl rfl rfl (fun c_89 => ?_) (fun c_89 => ?_)
        · have c_89 : x2 ≤ i3 := of_decide_eq_true c_89
          refine ml_st (S' := (97, [], [.int (-1)], M)) rfl rfl rfl ?_
          exact ml_ret rfl (rfl) (⟨⟨_, rfl⟩, rfl⟩)
        · have c_89 : ¬ (x2 ≤ i3) := of_decide_eq_false c_89
          refine ml_st (S' := (93, [(0, .ref p), (2, .int x2), (3, .int i3), (4, .int i4)], [.int x2], M)) rfl rfl rfl ?_
          refine ml_st (S' := (97, [], [.int x2], M)) rfl rfl rfl ?_
          exact ml_ret rfl (rfl) (⟨⟨_, rfl⟩, rfl⟩)
      · have c_8 : ¬ (x2 ≤ i4) := of_decide_eq_false c_8
        refine ml_st (S' := (12, [(0, .ref p), (2, .int x2), (3, .int i3), (4, .int i4)], [.ref p], M)) rfl rfl rfl ?_
        refine mo_get (S' := (15, [(0, .ref p), (2, .int x2), (3, .int i3), (4, .int i4)], [.ref (q 6)], M)) rfl hP.1 rfl rfl ?_
        refine ml_st (S' := (17, [(0, .ref p), (2, .int x2), (3, .int i3), (4, .int i4)], [.int i4, .ref (q 6)], M)) rfl rfl rfl ?_
        refine mo_ald (S' := (18, [(0, .ref p), (2, .int x2), (3, .int i3), (4, .int i4)], [.int ((f 6) (Int32.toNatClampNeg i4))], M)) rfl hP.2.2 (vin_end h0 c_8 h2) rfl ?_
        refine ml_st (S' := (20, [(5, .int ((f 6) (Int32.toNatClampNeg i4))), (0, .ref p), (2, .int x2), (3, .int i3), (4, .int i4)], [], M)) rfl rfl rfl ?_
        refine ml_st (S' := (22, [(5, .int ((f 6) (Int32.toNatClampNeg i4))), (0, .ref p), (2, .int x2), (3, .int i3), (4, .int i4)], [.int ((f 6) (Int32.toNatClampNeg i4))], M)) rfl rfl rfl ?_
        refine ml_st (S' := (24, [(5, .int ((f 6) (Int32.toNatClampNeg i4))), (0, .ref p), (2, .int x2), (3, .int i3), (4, .int i4)], [.int 59, .int ((f 6) (Int32.toNatClampNeg i4))], M)) rfl rfl rfl ?_
        refine ml_if2 (S1 := (40, [(5, .int ((f 6) (Int32.toNatClampNeg i4))), (0, .ref p), (2, .int x2), (3, .int i3), (4, .int i4)], [], M)) (S2 := (27, [(5, .int ((f 6) (Int32.toNatClampNeg i4))), (0, .ref p), (2, .int x2), (3, .int i3), (4, .int i4)], [], M)) rfl rfl rfl (fun c_24 => ?_) (fun c_24 => ?_)
        · have c_24 : ¬ ((f 6) (Int32.toNatClampNeg i4)) = 59 := of_decide_eq_true c_24
          refine ml_st (S' := (42, [(5, .int ((f 6) (Int32.toNatClampNeg i4))), (0, .ref p), (2, .int x2), (3, .int i3), (4, .int i4)], [.int ((f 6) (Int32.toNatClampNeg i4))], M)) rfl rfl rfl ?_
          refine ml_st (S' := (44, [(5, .int ((f 6) (Int32.toNatClampNeg i4))), (0, .ref p), (2, .int x2), (3, .int i3), (4, .int i4)], [.int 46, .int ((f 6) (Int32.toNatClampNeg i4))], M)) rfl rfl rfl ?_
          refine ml_if2 (S1 := (67, [], [], M)) (S2 := (47, [(5, .int ((f 6) (Int32.toNatClampNeg i4))), (0, .ref p), (2, .int x2), (3, .int i3), (4, .int i4)], [], M)) rfl rfl rfl (fun c_44 => ?_) (fun c_44 => ?_)
          · have c_44 : ((f 6) (Int32.toNatClampNeg i4)) = 46 := of_decide_eq_true c_44
            refine ml_st (S' := (68, [], [.int (-1)], M)) rfl rfl rfl ?_
            exact ml_ret rfl (rfl) (⟨⟨_, rfl⟩, rfl⟩)
          · have c_44 : ¬ (((f 6) (Int32.toNatClampNeg i4)) = 46) := of_decide_eq_false c_44
            refine ml_st (S' := (49, [(5, .int ((f 6) (Int32.toNatClampNeg i4))), (0, .ref p), (2, .int x2), (3, .int i3), (4, .int i4)], [.int ((f 6) (Int32.toNatClampNeg i4))], M)) rfl rfl rfl ?_
            refine ml_st (S' := (51, [(5, .int ((f 6) (Int32.toNatClampNeg i4))), (0, .ref p), (2, .int x2), (3, .int i3), (4, .int i4)], [.int 91, .int ((f 6) (Int32.toNatClampNeg i4))], M)) rfl rfl rfl ?_
            refine ml_if2 (S1 := (67, [], [], M)) (S2 := (54, [(5, .int ((f 6) (Int32.toNatClampNeg i4))), (0, .ref p), (2, .int x2), (3, .int i3), (4, .int i4)], [], M)) rfl rfl rfl (fun c_51 => ?_) (fun c_51 => ?_)
            · have c_51 : ((f 6) (Int32.toNatClampNeg i4)) = 91 := of_decide_eq_true c_51
              refine ml_st (S' := (68, [], [.int (-1)], M)) rfl rfl rfl ?_
              exact ml_ret rfl (rfl) (⟨⟨_, rfl⟩, rfl⟩)
            · have c_51 : ¬ (((f 6) (Int32.toNatClampNeg i4)) = 91) := of_decide_eq_false c_51
              refine ml_st (S' := (56, [(5, .int ((f 6) (Int32.toNatClampNeg i4))), (0, .ref p), (2, .int x2), (3, .int i3), (4, .int i4)], [.int ((f 6) (Int32.toNatClampNeg i4))], M)) rfl rfl rfl ?_
              refine ml_st (S' := (58, [(5, .int ((f 6) (Int32.toNatClampNeg i4))), (0, .ref p), (2, .int x2), (3, .int i3), (4, .int i4)], [.int 47, .int ((f 6) (Int32.toNatClampNeg i4))], M)) rfl rfl rfl ?_
              refine ml_if2 (S1 := (69, [(0, .ref p), (2, .int x2), (3, .int i3), (4, .int i4), (5, .int ((f 6) (Int32.toNatClampNeg i4)))], [], M)) (S2 := (61, [(5, .int ((f 6) (Int32.toNatClampNeg i4))), (0, .ref p), (2, .int x2), (3, .int i3), (4, .int i4)], [], M)) rfl rfl rfl (fun c_58 => ?_) (fun c_58 => ?_)
              · have c_58 : ¬ ((f 6) (Int32.toNatClampNeg i4)) = 47 := of_decide_eq_true c_58
                refine ml_st (S' := (71, [(0, .ref p), (2, .int x2), (3, .int i3), (4, .int i4), (5, .int ((f 6) (Int32.toNatClampNeg i4)))], [.int ((f 6) (Int32.toNatClampNeg i4))], M)) rfl rfl rfl ?_
                refine ml_st (S' := (73, [(0, .ref p), (2, .int x2), (3, .int i3), (4, .int i4), (5, .int ((f 6) (Int32.toNatClampNeg i4)))], [.int 47, .int ((f 6) (Int32.toNatClampNeg i4))], M)) rfl rfl rfl ?_
                refine ml_if2 (S1 := (81, [(0, .ref p), (2, .int x2), (3, .int i3), (4, .int i4)], [], M)) (S2 := (76, [(0, .ref p), (2, .int x2), (3, .int i3), (4, .int i4), (5, .int ((f 6) (Int32.toNatClampNeg i4)))], [], M)) rfl rfl rfl (fun c_73 => ?_) (fun c_73 => ?_)
                · have c_73 : ¬ ((f 6) (Int32.toNatClampNeg i4)) = 47 := of_decide_eq_true c_73
                  refine ml_st (S' := (84, [(4, .int (i4 + 1)), (0, .ref p), (2, .int x2), (3, .int i3)], [], M)) rfl rfl rfl ?_
                  refine ml_st (S' := (5, [(0, .ref p), (2, .int x2), (3, .int i3), (4, .int (i4 + 1))], [], M)) rfl rfl rfl ?_
                  exact ih _ _ (loop_inc (Int32.not_le.mp c_8) hn) (by rw [inc_lt (Int32.not_le.mp c_8)]; omega)
                · have c_73 : ¬ (¬ ((f 6) (Int32.toNatClampNeg i4)) = 47) := of_decide_eq_false c_73
                  refine ml_st (S' := (78, [(0, .ref p), (2, .int x2), (3, .int i3), (4, .int i4), (5, .int ((f 6) (Int32.toNatClampNeg i4)))], [.int i4], M)) rfl rfl rfl ?_
                  refine ml_st (S' := (79, [(0, .ref p), (2, .int x2), (3, .int i3), (4, .int i4), (5, .int ((f 6) (Int32.toNatClampNeg i4)))], [.int 1, .int i4], M)) rfl rfl rfl ?_
                  refine ml_st (S' := (80, [(0, .ref p), (2, .int x2), (3, .int i3), (4, .int i4), (5, .int ((f 6) (Int32.toNatClampNeg i4)))], [.int (i4 + 1)], M)) rfl rfl rfl ?_
                  refine ml_st (S' := (81, [(0, .ref p), (2, .int x2), (3, .int (i4 + 1)), (4, .int i4)], [], M)) rfl rfl rfl ?_
                  refine ml_st (S' := (84, [(4, .int (i4 + 1)), (0, .ref p), (2, .int x2), (3, .int (i4 + 1))], [], M)) rfl rfl rfl ?_
                  refine ml_st (S' := (5, [(0, .ref p), (2, .int x2), (3, .int (i4 + 1)), (4, .int (i4 + 1))], [], M)) rfl rfl rfl ?_
                  exact ih _ _ (loop_inc (Int32.not_le.mp c_8) hn) (by rw [inc_lt (Int32.not_le.mp c_8)]; omega)
              · have c_58 : ¬ (¬ ((f 6) (Int32.toNatClampNeg i4)) = 47) := of_decide_eq_false c_58
                refine ml_st (S' := (63, [(5, .int ((f 6) (Int32.toNatClampNeg i4))), (0, .ref p), (2, .int x2), (3, .int i3), (4, .int i4)], [.int i4], M)) rfl rfl rfl ?_
                refine ml_st (S' := (64, [(5, .int ((f 6) (Int32.toNatClampNeg i4))), (0, .ref p), (2, .int x2), (3, .int i3), (4, .int i4)], [.int i3, .int i4], M)) rfl rfl rfl ?_
                refine ml_if2 (S1 := (69, [(0, .ref p), (2, .int x2), (3, .int i3), (4, .int i4), (5, .int ((f 6) (Int32.toNatClampNeg i4)))], [], M)) (S2 := (67, [], [], M)) rfl rfl rfl (fun c_64 => ?_) (fun c_64 => ?_)
                · have c_64 : ¬ i4 = i3 := of_decide_eq_true c_64
                  refine ml_st (S' := (71, [(0, .ref p), (2, .int x2), (3, .int i3), (4, .int i4), (5, .int ((f 6) (Int32.toNatClampNeg i4)))], [.int ((f 6) (Int32.toNatClampNeg i4))], M)) rfl rfl rfl ?_
                  refine ml_st (S' := (73, [(0, .ref p), (2, .int x2), (3, .int i3), (4, .int i4), (5, .int ((f 6) (Int32.toNatClampNeg i4)))], [.int 47, .int ((f 6) (Int32.toNatClampNeg i4))], M)) rfl rfl rfl ?_
                  refine ml_if2 (S1 := (81, [(0, .ref p), (2, .int x2), (3, .int i3), (4, .int i4)], [], M)) (S2 := (76, [(0, .ref p), (2, .int x2), (3, .int i3), (4, .int i4), (5, .int ((f 6) (Int32.toNatClampNeg i4)))], [], M)) rfl rfl rfl (fun c_73 => ?_) (fun c_73 => ?_)
                  · have c_73 : ¬ ((f 6) (Int32.toNatClampNeg i4)) = 47 := of_decide_eq_true c_73
                    refine ml_st (S' := (84, [(4, .int (i4 + 1)), (0, .ref p), (2, .int x2), (3, .int i3)], [], M)) rfl rfl rfl ?_
                    refine ml_st (S' := (5, [(0, .ref p), (2, .int x2), (3, .int i3), (4, .int (i4 + 1))], [], M)) rfl rfl rfl ?_
                    exact ih _ _ (loop_inc (Int32.not_le.mp c_8) hn) (by rw [inc_lt (Int32.not_le.mp c_8)]; omega)
                  · have c_73 : ¬ (¬ ((f 6) (Int32.toNatClampNeg i4)) = 47) := of_decide_eq_false c_73
                    refine ml_st (S' := (78, [(0, .ref p), (2, .int x2), (3, .int i3), (4, .int i4), (5, .int ((f 6) (Int32.toNatClampNeg i4)))], [.int i4], M)) rfl rfl rfl ?_
                    refine ml_st (S' := (79, [(0, .ref p), (2, .int x2), (3, .int i3), (4, .int i4), (5, .int ((f 6) (Int32.toNatClampNeg i4)))], [.int 1, .int i4], M)) rfl rfl rfl ?_
                    refine ml_st (S' := (80, [(0, .ref p), (2, .int x2), (3, .int i3), (4, .int i4), (5, .int ((f 6) (Int32.toNatClampNeg i4)))], [.int (i4 + 1)], M)) rfl rfl rfl ?_
                    refine ml_st (S' := (81, [(0, .ref p), (2, .int x2), (3, .int (i4 + 1)), (4, .int i4)], [], M)) rfl rfl rfl ?_
                    refine ml_st (S' := (84, [(4, .int (i4 + 1)), (0, .ref p), (2, .int x2), (3, .int (i4 + 1))], [], M)) rfl rfl rfl ?_
                    refine ml_st (S' := (5, [(0, .ref p), (2, .int x2), (3, .int (i4 + 1)), (4, .int (i4 + 1))], [], M)) rfl rfl rfl ?_
                    exact ih _ _ (loop_inc (Int32.not_le.mp c_8) hn) (by rw [inc_lt (Int32.not_le.mp c_8)]; omega)
                · have c_64 : ¬ (¬ i4 = i3) := of_decide_eq_false c_64
                  refine ml_st (S' := (68, [], [.int (-1)], M)) rfl rfl rfl ?_
                  exact ml_ret rfl (rfl) (⟨⟨_, rfl⟩, rfl⟩)
        · have c_24 : ¬ (¬ ((f 6) (Int32.toNatClampNeg i4)) = 59) := of_decide_eq_false c_24
          refine ml_st (S' := (29, [(5, .int ((f 6) (Int32.toNatClampNeg i4))), (0, .ref p), (2, .int x2), (3, .int i3), (4, .int i4)], [.int i4], M)) rfl rfl rfl ?_
          refine ml_st (S' := (30, [(5, .int ((f 6) (Int32.toNatClampNeg i4))), (0, .ref p), (2, .int x2), (3, .int i3), (4, .int i4)], [.int i3, .int i4], M)) rfl rfl rfl ?_
          refine ml_if2 (S1 := (38, [(5, .int ((f 6) (Int32.toNatClampNeg i4))), (0, .ref p), (2, .int x2), (3, .int i3), (4, .int i4)], [], M)) (S2 := (33, [(5, .int ((f 6) (Int32.toNatClampNeg i4))), (0, .ref p), (2, .int x2), (3, .int i3), (4, .int i4)], [], M)) rfl rfl rfl (fun c_30 => ?_) (fun c_30 => ?_)
          · have c_30 : i4 ≤ i3 := of_decide_eq_true c_30
            refine ml_st (S' := (39, [], [.int (-1)], M)) rfl rfl rfl ?_
            exact ml_ret rfl (rfl) (⟨⟨_, rfl⟩, rfl⟩)
          · have c_30 : ¬ (i4 ≤ i3) := of_decide_eq_false c_30
            refine ml_st (S' := (35, [(5, .int ((f 6) (Int32.toNatClampNeg i4))), (0, .ref p), (2, .int x2), (3, .int i3), (4, .int i4)], [.int i4], M)) rfl rfl rfl ?_
            refine ml_st (S' := (39, [], [.int i4], M)) rfl rfl rfl ?_
            exact ml_ret rfl (rfl) (⟨⟨_, rfl⟩, rfl⟩)
  refine mt_in (b := mb_127 g) rfl rfl ?_
  show ml (mT g) d (mb_127 g).2 (0, [(0, .ref p), (1, .int x1), (2, .int x2)], [], M) _
  refine ml_st (S' := (1, [(0, .ref p), (1, .int x1), (2, .int x2)], [.int x1], M)) rfl rfl rfl ?_
  refine ml_st (S' := (2, [(3, .int x1), (0, .ref p), (1, .int x1), (2, .int x2)], [], M)) rfl rfl rfl ?_
  refine ml_st (S' := (3, [(3, .int x1), (0, .ref p), (1, .int x1), (2, .int x2)], [.int x1], M)) rfl rfl rfl ?_
  refine ml_st (S' := (5, [(0, .ref p), (2, .int x2), (3, .int x1), (4, .int x1)], [], M)) rfl rfl rfl ?_
  exact L5 _ _ _ (Nat.le_refl _) h1
end
section
/-! where a type ends (laid by wip/p2/c36.py) -/
theorem up1 {i x : Int32} (h0 : 0 ≤ i.toInt) (h : ¬ x ≤ i) : 0 ≤ (i + 1).toInt ∧ (i + 1).toInt ≤ x.toInt := by
  have h1 := Int32.not_le.mp h
  have h2 := Int32.lt_iff_toInt_lt.mp h1
  rw [inc_lt h1]
  omega
theorem mi_sw_in {ps : List (Int × Nat)} {dt t : Nat} {x : Int32} (h : mi_sw ps dt x = t) : t ∈ dt :: ps.map (fun q => q.2) := by
  unfold mi_sw at h
  split at h
  · rename_i q hq
    subst h
    exact List.mem_cons_of_mem _ (List.mem_map.mpr ⟨q, List.mem_of_find?_eq_some hq, rfl⟩)
  · subst h
    exact List.mem_cons_self
theorem mi_sw_sub {ps : List (Int × Nat)} {dt t : Nat} {x : Int32} {l : List Nat} (h : mi_sw ps dt x = t) (hs : ∀ y ∈ dt :: ps.map (fun q => q.2), y ∈ l) : t ∈ l := hs t (mi_sw_in h)

set_option maxHeartbeats 1000000 in
theorem ct_typeEnd {g : xe_G} {M : mi_H} {p : Nat} {size : Int32} {n m : Nat} {q : Nat → Nat} {f : Nat → Nat → Int32} {cc : Int32} {x1 x2 : Int32} (hP : PL M p size n m q f cc) (h1 : 0 ≤ x1.toInt) (h2 : x2.toInt ≤ m) {d : Nat} (hd : 2 ≤ d) : mt (mT g) d 142 [.ref p, .int x1, .int x2] M (fun v M' => (∃ x : Int32, v = some (.int x) ∧ (x = -1 ∨ (0 ≤ x.toInt ∧ x.toInt ≤ x2.toInt))) ∧ M' = M) := by
  obtain ⟨d, rfl⟩ : ∃ e, d = e + 1 := ⟨d - 1, by omega⟩
  have L2 : ∀ (n9 : Nat) (i3 : Int32), (2147483648 - i3.toInt).toNat ≤ n9 → 0 ≤ i3.toInt → ml (mT g) d (mb_142 g).2 (2, [(0, .ref p), (1, .int x1), (2, .int x2), (3, .int i3)], [], M) (fun v M' => (∃ x : Int32, v = some (.int x) ∧ (x = -1 ∨ (0 ≤ x.toInt ∧ x.toInt ≤ x2.toInt))) ∧ M' = M) := by
    intro n9
    induction n9 with
    | zero => intro i3 hn _; exact (loop_zero hn).elim
    | succ n9 ih =>
      intro i3 hn h0
      refine ml_st (S' := (3, [(0, .ref p), (1, .int x1), (2, .int x2), (3, .int i3)], [.int i3], M)) rfl rfl rfl ?_
      refine ml_st (S' := (4, [(0, .ref p), (1, .int x1), (2, .int x2), (3, .int i3)], [.int x2, .int i3], M)) rfl rfl rfl ?_
      refine ml_if2 (S1 := (24, [(0, .ref p), (1, .int x1), (2, .int x2), (3, .int i3)], [], M)) (S2 := (7, [(0, .ref p), (1, .int x1), (2, .int x2), (3, .int i3)], [], M)) rfl rfl rfl (fun c_4 => ?_) (fun c_4 => ?_)
      · have c_4 : x2 ≤ i3 := of_decide_eq_true c_4
        refine ml_st (S' := (25, [(0, .ref p), (1, .int x1), (2, .int x2), (3, .int i3)], [.int i3], M)) rfl rfl rfl ?_
        refine ml_st (S' := (26, [(0, .ref p), (1, .int x1), (2, .int x2), (3, .int i3)], [.int x2, .int i3], M)) rfl rfl rfl ?_
        refine ml_if2 (S1 := (38, [], [], M)) (S2 := (29, [(0, .ref p), (1, .int x1), (2, .int x2), (3, .int i3)], [], M)) rfl rfl rfl (fun c_26 => ?_) (fun c_26 => ?_)
        · have c_26 : x2 ≤ i3 := of_decide_eq_true c_26
          refine ml_st (S' := (39, [], [.int (-1)], M)) rfl rfl rfl ?_
          exact ml_ret rfl (rfl) (⟨⟨_, rfl, by first | exact Or.inl rfl | exact Or.inr (up1 h0 c_26) | exact Or.inr (up1 (nneg c_176) (Int32.not_le.mpr c_182))⟩, rfl⟩)
        · have c_26 : ¬ (x2 ≤ i3) := of_decide_eq_false c_26
          refine ml_st (S' := (30, [(0, .ref p), (1, .int x1), (2, .int x2), (3, .int i3)], [.int i3], M)) rfl rfl rfl ?_
          refine ml_st (S' := (31, [(0, .ref p), (1, .int x1), (2, .int x2), (3, .int i3)], [.int x1, .int i3], M)) rfl rfl rfl ?_
          refine ml_st (S' := (32, [(0, .ref p), (1, .int x1), (2, .int x2), (3, .int i3)], [.int (i3 - x1)], M)) rfl rfl rfl ?_
          refine ml_st (S' := (35, [(0, .ref p), (1, .int x1), (2, .int x2), (3, .int i3)], [.int 255, .int (i3 - x1)], M)) rfl rfl rfl ?_
          refine ml_if2 (S1 := (40, [(0, .ref p), (1, .int x1), (2, .int x2), (3, .int i3)], [], M)) (S2 := (38, [], [], M)) rfl rfl rfl (fun c_35 => ?_) (fun c_35 => ?_)
          · have c_35 : (i3 - x1) ≤ 255 := of_decide_eq_true c_35
            refine ml_st (S' := (41, [(0, .ref p), (1, .int x1), (2, .int x2), (3, .int i3)], [.ref p], M)) rfl rfl rfl ?_
            refine mo_get (S' := (44, [(0, .ref p), (1, .int x1), (2, .int x2), (3, .int i3)], [.ref (q 6)], M)) rfl hP.1 rfl rfl ?_
            refine ml_st (S' := (45, [(0, .ref p), (1, .int x1), (2, .int x2), (3, .int i3)], [.int i3, .ref (q 6)], M)) rfl rfl rfl ?_
            refine mo_ald (S' := (46, [(0, .ref p), (1, .int x1), (2, .int x2), (3, .int i3)], [.int ((f 6) (Int32.toNatClampNeg i3))], M)) rfl hP.2.2 (vin_end h0 c_26 h2) rfl ?_
            refine ml_sw rfl (fun t_46 ht_46 => ?_)
            have ht_46 : t_46 ∈ [160, 164, 194] := mi_sw_sub ht_46 (by decide)
            simp only [List.mem_cons, List.not_mem_nil, or_false] at ht_46
            rcases ht_46 with rfl | rfl | rfl
            · show ml _ _ _ (160, [(0, .ref p), (1, .int x1), (2, .int x2), (3, .int i3)], [], M) _
              refine ml_st (S' := (161, [(0, .ref p), (1, .int x1), (2, .int x2), (3, .int i3)], [.int i3], M)) rfl rfl rfl ?_
              refine ml_st (S' := (162, [(0, .ref p), (1, .int x1), (2, .int x2), (3, .int i3)], [.int 1, .int i3], M)) rfl rfl rfl ?_
              refine ml_st (S' := (163, [(0, .ref p), (1, .int x1), (2, .int x2), (3, .int i3)], [.int (i3 + 1)], M)) rfl rfl rfl ?_
              exact ml_ret rfl (rfl) (⟨⟨_, rfl, by first | exact Or.inl rfl | exact Or.inr (up1 h0 c_26) | exact Or.inr (up1 (nneg c_176) (Int32.not_le.mpr c_182))⟩, rfl⟩)
            · show ml _ _ _ (164, [(0, .ref p), (1, .int x1), (2, .int x2), (3, .int i3)], [], M) _
              refine ml_st (S' := (165, [(0, .ref p), (1, .int x1), (2, .int x2), (3, .int i3)], [.ref p], M)) rfl rfl rfl ?_
              refine ml_st (S' := (166, [(0, .ref p), (1, .int x1), (2, .int x2), (3, .int i3)], [.int i3, .ref p], M)) rfl rfl rfl ?_
              refine ml_st (S' := (167, [(0, .ref p), (1, .int x1), (2, .int x2), (3, .int i3)], [.int 1, .int i3, .ref p], M)) rfl rfl rfl ?_
              refine ml_st (S' := (168, [(0, .ref p), (1, .int x1), (2, .int x2), (3, .int i3)], [.int (i3 + 1), .ref p], M)) rfl rfl rfl ?_
              refine ml_st (S' := (169, [(0, .ref p), (1, .int x1), (2, .int x2), (3, .int i3)], [.int x2, .int (i3 + 1), .ref p], M)) rfl rfl rfl ?_
              refine ml_call (a := [.ref p, .int (i3 + 1), .int x2]) (rest := []) rfl (okc_v rfl rfl rfl hP.1) rfl rfl (ct_nameEnd hP (by rw [inc_lt (Int32.not_le.mp c_26)]; omega) h2 (by omega)) (fun v9 M9 h9 => ?_)
              obtain ⟨⟨r9, rfl⟩, h9⟩ := h9
              rw [h9]
              show ml _ _ _ (172, [(0, .ref p), (1, .int x1), (2, .int x2), (3, .int i3)], [.int r9], M) _
              refine ml_st (S' := (174, [(4, .int r9), (0, .ref p), (1, .int x1), (2, .int x2), (3, .int i3)], [], M)) rfl rfl rfl ?_
              refine ml_st (S' := (176, [(4, .int r9), (0, .ref p), (1, .int x1), (2, .int x2), (3, .int i3)], [.int r9], M)) rfl rfl rfl ?_
              refine ml_if (S1 := (185, [], [], M)) (S2 := (179, [(4, .int r9), (0, .ref p), (1, .int x1), (2, .int x2), (3, .int i3)], [], M)) rfl rfl rfl (fun c_176 => ?_) (fun c_176 => ?_)
              · have c_176 : r9 < 0 := of_decide_eq_true c_176
                refine ml_st (S' := (186, [], [.int (-1)], M)) rfl rfl rfl ?_
                refine ml_st (S' := (193, [], [.int (-1)], M)) rfl rfl rfl ?_
                exact ml_ret rfl (rfl) (⟨⟨_, rfl, by first | exact Or.inl rfl | exact Or.inr (up1 h0 c_26) | exact Or.inr (up1 (nneg c_176) (Int32.not_le.mpr c_182))⟩, rfl⟩)
              · have c_176 : ¬ (r9 < 0) := of_decide_eq_false c_176
                refine ml_st (S' := (181, [(4, .int r9), (0, .ref p), (1, .int x1), (2, .int x2), (3, .int i3)], [.int r9], M)) rfl rfl rfl ?_
                refine ml_st (S' := (182, [(4, .int r9), (0, .ref p), (1, .int x1), (2, .int x2), (3, .int i3)], [.int x2, .int r9], M)) rfl rfl rfl ?_
                refine ml_if2 (S1 := (189, [(4, .int r9), (0, .ref p), (1, .int x1), (2, .int x2), (3, .int i3)], [], M)) (S2 := (185, [], [], M)) rfl rfl rfl (fun c_182 => ?_) (fun c_182 => ?_)
                · have c_182 : r9 < x2 := of_decide_eq_true c_182
                  refine ml_st (S' := (191, [(4, .int r9), (0, .ref p), (1, .int x1), (2, .int x2), (3, .int i3)], [.int r9], M)) rfl rfl rfl ?_
                  refine ml_st (S' := (192, [(4, .int r9), (0, .ref p), (1, .int x1), (2, .int x2), (3, .int i3)], [.int 1, .int r9], M)) rfl rfl rfl ?_
                  refine ml_st (S' := (193, [], [.int (r9 + 1)], M)) rfl rfl rfl ?_
                  exact ml_ret rfl (rfl) (⟨⟨_, rfl, by first | exact Or.inl rfl | exact Or.inr (up1 h0 c_26) | exact Or.inr (up1 (nneg c_176) (Int32.not_le.mpr c_182))⟩, rfl⟩)
                · have c_182 : ¬ (r9 < x2) := of_decide_eq_false c_182
                  refine ml_st (S' := (186, [], [.int (-1)], M)) rfl rfl rfl ?_
                  refine ml_st (S' := (193, [], [.int (-1)], M)) rfl rfl rfl ?_
                  exact ml_ret rfl (rfl) (⟨⟨_, rfl, by first | exact Or.inl rfl | exact Or.inr (up1 h0 c_26) | exact Or.inr (up1 (nneg c_176) (Int32.not_le.mpr c_182))⟩, rfl⟩)
            · show ml _ _ _ (194, [(0, .ref p), (1, .int x1), (2, .int x2), (3, .int i3)], [], M) _
              refine ml_st (S' := (195, [(0, .ref p), (1, .int x1), (2, .int x2), (3, .int i3)], [.int (-1)], M)) rfl rfl rfl ?_
              exact ml_ret rfl (rfl) (⟨⟨_, rfl, by first | exact Or.inl rfl | exact Or.inr (up1 h0 c_26) | exact Or.inr (up1 (nneg c_176) (Int32.not_le.mpr c_182))⟩, rfl⟩)
          · have c_35 : ¬ ((i3 - x1) ≤ 255) := of_decide_eq_false c_35
            refine ml_st (S' := (39, [], [.int (-1)], M)) rfl rfl rfl ?_
            exact ml_ret rfl (rfl) (⟨⟨_, rfl, by first | exact Or.inl rfl | exact Or.inr (up1 h0 c_26) | exact Or.inr (up1 (nneg c_176) (Int32.not_le.mpr c_182))⟩, rfl⟩)
      · have c_4 : ¬ (x2 ≤ i3) := of_decide_eq_false c_4
        refine ml_st (S' := (8, [(0, .ref p), (1, .int x1), (2, .int x2), (3, .int i3)], [.ref p], M)) rfl rfl rfl ?_
        refine mo_get (S' := (11, [(0, .ref p), (1, .int x1), (2, .int x2), (3, .int i3)], [.ref (q 6)], M)) rfl hP.1 rfl rfl ?_
        refine ml_st (S' := (12, [(0, .ref p), (1, .int x1), (2, .int x2), (3, .int i3)], [.int i3, .ref (q 6)], M)) rfl rfl rfl ?_
        refine mo_ald (S' := (13, [(0, .ref p), (1, .int x1), (2, .int x2), (3, .int i3)], [.int ((f 6) (Int32.toNatClampNeg i3))], M)) rfl hP.2.2 (vin_end h0 c_4 h2) rfl ?_
        refine ml_st (S' := (15, [(0, .ref p), (1, .int x1), (2, .int x2), (3, .int i3)], [.int 91, .int ((f 6) (Int32.toNatClampNeg i3))], M)) rfl rfl rfl ?_
        refine ml_if2 (S1 := (24, [(0, .ref p), (1, .int x1), (2, .int x2), (3, .int i3)], [], M)) (S2 := (18, [(0, .ref p), (1, .int x1), (2, .int x2), (3, .int i3)], [], M)) rfl rfl rfl (fun c_15 => ?_) (fun c_15 => ?_)
        · have c_15 : ¬ ((f 6) (Int32.toNatClampNeg i3)) = 91 := of_decide_eq_true c_15
          refine ml_st (S' := (25, [(0, .ref p), (1, .int x1), (2, .int x2), (3, .int i3)], [.int i3], M)) rfl rfl rfl ?_
          refine ml_st (S' := (26, [(0, .ref p), (1, .int x1), (2, .int x2), (3, .int i3)], [.int x2, .int i3], M)) rfl rfl rfl ?_
          refine ml_if2 (S1 := (38, [], [], M)) (S2 := (29, [(0, .ref p), (1, .int x1), (2, .int x2), (3, .int i3)], [], M)) rfl rfl rfl (fun c_26 => ?_) (fun c_26 => ?_)
          · have c_26 : x2 ≤ i3 := of_decide_eq_true c_26
            refine ml_st (S' := (39, [], [.int (-1)], M)) rfl rfl rfl ?_
            exact ml_ret rfl (rfl) (⟨⟨_, rfl, by first | exact Or.inl rfl | exact Or.inr (up1 h0 c_26) | exact Or.inr (up1 (nneg c_176) (Int32.not_le.mpr c_182))⟩, rfl⟩)
          · have c_26 : ¬ (x2 ≤ i3) := of_decide_eq_false c_26
            refine ml_st (S' := (30, [(0, .ref p), (1, .int x1), (2, .int x2), (3, .int i3)], [.int i3], M)) rfl rfl rfl ?_
            refine ml_st (S' := (31, [(0, .ref p), (1, .int x1), (2, .int x2), (3, .int i3)], [.int x1, .int i3], M)) rfl rfl rfl ?_
            refine ml_st (S' := (32, [(0, .ref p), (1, .int x1), (2, .int x2), (3, .int i3)], [.int (i3 - x1)], M)) rfl rfl rfl ?_
            refine ml_st (S' := (35, [(0, .ref p), (1, .int x1), (2, .int x2), (3, .int i3)], [.int 255, .int (i3 - x1)], M)) rfl rfl rfl ?_
            refine ml_if2 (S1 := (40, [(0, .ref p), (1, .int x1), (2, .int x2), (3, .int i3)], [], M)) (S2 := (38, [], [], M)) rfl rfl rfl (fun c_35 => ?_) (fun c_35 => ?_)
            · have c_35 : (i3 - x1) ≤ 255 := of_decide_eq_true c_35
              refine ml_st (S' := (41, [(0, .ref p), (1, .int x1), (2, .int x2), (3, .int i3)], [.ref p], M)) rfl rfl rfl ?_
              refine mo_get (S' := (44, [(0, .ref p), (1, .int x1), (2, .int x2), (3, .int i3)], [.ref (q 6)], M)) rfl hP.1 rfl rfl ?_
              refine ml_st (S' := (45, [(0, .ref p), (1, .int x1), (2, .int x2), (3, .int i3)], [.int i3, .ref (q 6)], M)) rfl rfl rfl ?_
              refine mo_ald (S' := (46, [(0, .ref p), (1, .int x1), (2, .int x2), (3, .int i3)], [.int ((f 6) (Int32.toNatClampNeg i3))], M)) rfl hP.2.2 (vin_end h0 c_26 h2) rfl ?_
              refine ml_sw rfl (fun t_46 ht_46 => ?_)
              have ht_46 : t_46 ∈ [160, 164, 194] := mi_sw_sub ht_46 (by decide)
              simp only [List.mem_cons, List.not_mem_nil, or_false] at ht_46
              rcases ht_46 with rfl | rfl | rfl
              · show ml _ _ _ (160, [(0, .ref p), (1, .int x1), (2, .int x2), (3, .int i3)], [], M) _
                refine ml_st (S' := (161, [(0, .ref p), (1, .int x1), (2, .int x2), (3, .int i3)], [.int i3], M)) rfl rfl rfl ?_
                refine ml_st (S' := (162, [(0, .ref p), (1, .int x1), (2, .int x2), (3, .int i3)], [.int 1, .int i3], M)) rfl rfl rfl ?_
                refine ml_st (S' := (163, [(0, .ref p), (1, .int x1), (2, .int x2), (3, .int i3)], [.int (i3 + 1)], M)) rfl rfl rfl ?_
                exact ml_ret rfl (rfl) (⟨⟨_, rfl, by first | exact Or.inl rfl | exact Or.inr (up1 h0 c_26) | exact Or.inr (up1 (nneg c_176) (Int32.not_le.mpr c_182))⟩, rfl⟩)
              · show ml _ _ _ (164, [(0, .ref p), (1, .int x1), (2, .int x2), (3, .int i3)], [], M) _
                refine ml_st (S' := (165, [(0, .ref p), (1, .int x1), (2, .int x2), (3, .int i3)], [.ref p], M)) rfl rfl rfl ?_
                refine ml_st (S' := (166, [(0, .ref p), (1, .int x1), (2, .int x2), (3, .int i3)], [.int i3, .ref p], M)) rfl rfl rfl ?_
                refine ml_st (S' := (167, [(0, .ref p), (1, .int x1), (2, .int x2), (3, .int i3)], [.int 1, .int i3, .ref p], M)) rfl rfl rfl ?_
                refine ml_st (S' := (168, [(0, .ref p), (1, .int x1), (2, .int x2), (3, .int i3)], [.int (i3 + 1), .ref p], M)) rfl rfl rfl ?_
                refine ml_st (S' := (169, [(0, .ref p), (1, .int x1), (2, .int x2), (3, .int i3)], [.int x2, .int (i3 + 1), .ref p], M)) rfl rfl rfl ?_
                refine ml_call (a := [.ref p, .int (i3 + 1), .int x2]) (rest := []) rfl (okc_v rfl rfl rfl hP.1) rfl rfl (ct_nameEnd hP (by rw [inc_lt (Int32.not_le.mp c_26)]; omega) h2 (by omega)) (fun v9 M9 h9 => ?_)
                obtain ⟨⟨r9, rfl⟩, h9⟩ := h9
                rw [h9]
                show ml _ _ _ (172, [(0, .ref p), (1, .int x1), (2, .int x2), (3, .int i3)], [.int r9], M) _
                refine ml_st (S' := (174, [(4, .int r9), (0, .ref p), (1, .int x1), (2, .int x2), (3, .int i3)], [], M)) rfl rfl rfl ?_
                refine ml_st (S' := (176, [(4, .int r9), (0, .ref p), (1, .int x1), (2, .int x2), (3, .int i3)], [.int r9], M)) rfl rfl rfl ?_
                refine ml_if (S1 := (185, [], [], M)) (S2 := (179, [(4, .int r9), (0, .ref p), (1, .int x1), (2, .int x2), (3, .int i3)], [], M)) rfl rfl rfl (fun c_176 => ?_) (fun c_176 => ?_)
                · have c_176 : r9 < 0 := of_decide_eq_true c_176
                  refine ml_st (S' := (186, [], [.int (-1)], M)) rfl rfl rfl ?_
                  refine ml_st (S' := (193, [], [.int (-1)], M)) rfl rfl rfl ?_
                  exact ml_ret rfl (rfl) (⟨⟨_, rfl, by first | exact Or.inl rfl | exact Or.inr (up1 h0 c_26) | exact Or.inr (up1 (nneg c_176) (Int32.not_le.mpr c_182))⟩, rfl⟩)
                · have c_176 : ¬ (r9 < 0) := of_decide_eq_false c_176
                  refine ml_st (S' := (181, [(4, .int r9), (0, .ref p), (1, .int x1), (2, .int x2), (3, .int i3)], [.int r9], M)) rfl rfl rfl ?_
                  refine ml_st (S' := (182, [(4, .int r9), (0, .ref p), (1, .int x1), (2, .int x2), (3, .int i3)], [.int x2, .int r9], M)) rfl rfl rfl ?_
                  refine ml_if2 (S1 := (189, [(4, .int r9), (0, .ref p), (1, .int x1), (2, .int x2), (3, .int i3)], [], M)) (S2 := (185, [], [], M)) rfl rfl rfl (fun c_182 => ?_) (fun c_182 => ?_)
                  · have c_182 : r9 < x2 := of_decide_eq_true c_182
                    refine ml_st (S' := (191, [(4, .int r9), (0, .ref p), (1, .int x1), (2, .int x2), (3, .int i3)], [.int r9], M)) rfl rfl rfl ?_
                    refine ml_st (S' := (192, [(4, .int r9), (0, .ref p), (1, .int x1), (2, .int x2), (3, .int i3)], [.int 1, .int r9], M)) rfl rfl rfl ?_
                    refine ml_st (S' := (193, [], [.int (r9 + 1)], M)) rfl rfl rfl ?_
                    exact ml_ret rfl (rfl) (⟨⟨_, rfl, by first | exact Or.inl rfl | exact Or.inr (up1 h0 c_26) | exact Or.inr (up1 (nneg c_176) (Int32.not_le.mpr c_182))⟩, rfl⟩)
                  · have c_182 : ¬ (r9 < x2) := of_decide_eq_false c_182
                    refine ml_st (S' := (186, [], [.int (-1)], M)) rfl rfl rfl ?_
                    refine ml_st (S' := (193, [], [.int (-1)], M)) rfl rfl rfl ?_
                    exact ml_ret rfl (rfl) (⟨⟨_, rfl, by first | exact Or.inl rfl | exact Or.inr (up1 h0 c_26) | exact Or.inr (up1 (nneg c_176) (Int32.not_le.mpr c_182))⟩, rfl⟩)
              · show ml _ _ _ (194, [(0, .ref p), (1, .int x1), (2, .int x2), (3, .int i3)], [], M) _
                refine ml_st (S' := (195, [(0, .ref p), (1, .int x1), (2, .int x2), (3, .int i3)], [.int (-1)], M)) rfl rfl rfl ?_
                exact ml_ret rfl (rfl) (⟨⟨_, rfl, by first | exact Or.inl rfl | exact Or.inr (up1 h0 c_26) | exact Or.inr (up1 (nneg c_176) (Int32.not_le.mpr c_182))⟩, rfl⟩)
            · have c_35 : ¬ ((i3 - x1) ≤ 255) := of_decide_eq_false c_35
              refine ml_st (S' := (39, [], [.int (-1)], M)) rfl rfl rfl ?_
              exact ml_ret rfl (rfl) (⟨⟨_, rfl, by first | exact Or.inl rfl | exact Or.inr (up1 h0 c_26) | exact Or.inr (up1 (nneg c_176) (Int32.not_le.mpr c_182))⟩, rfl⟩)
        · have c_15 : ¬ (¬ ((f 6) (Int32.toNatClampNeg i3)) = 91) := of_decide_eq_false c_15
          refine ml_st (S' := (21, [(3, .int (i3 + 1)), (0, .ref p), (1, .int x1), (2, .int x2)], [], M)) rfl rfl rfl ?_
          refine ml_st (S' := (2, [(0, .ref p), (1, .int x1), (2, .int x2), (3, .int (i3 + 1))], [], M)) rfl rfl rfl ?_
          exact ih _ (loop_inc (Int32.not_le.mp c_4) hn) (by rw [inc_lt (Int32.not_le.mp c_4)]; omega)
  refine mt_in (b := mb_142 g) rfl rfl ?_
  show ml (mT g) d (mb_142 g).2 (0, [(0, .ref p), (1, .int x1), (2, .int x2)], [], M) _
  refine ml_st (S' := (1, [(0, .ref p), (1, .int x1), (2, .int x2)], [.int x1], M)) rfl rfl rfl ?_
  refine ml_st (S' := (2, [(0, .ref p), (1, .int x1), (2, .int x2), (3, .int x1)], [], M)) rfl rfl rfl ?_
  exact L2 _ _ (Nat.le_refl _) h1
end
section
/-! two texts (laid by wip/p2/c37.py) -/
set_option maxHeartbeats 1000000 in
theorem ct_sameText {g : xe_G} {M : mi_H} {p : Nat} {size : Int32} {n m : Nat} {q : Nat → Nat} {f : Nat → Nat → Int32} {cc : Int32} {x1 x2 : Int32} (hP : PL M p size n m q f cc) (hT : txt n m f cc) (hm : m < 1073741824) {d : Nat} (hd : 2 ≤ d) : mt (mT g) d 133 [.ref p, .int x1, .int x2] M (fun v M' => (∃ x, v = some (.int x) ∧ (x = 0 ∨ x = 1)) ∧ M' = M) := by
  obtain ⟨d, rfl⟩ : ∃ e, d = e + 1 := ⟨d - 1, by omega⟩
  have L44 : ∀ (n9 : Nat) (i3 : Int32), (2147483648 - i3.toInt).toNat ≤ n9 → (0 ≤ i3.toInt ∧ sp_tagOf n m f x1 = 1 ∧ sp_tagOf n m f x2 = 1 ∧ f 4 (Int32.toNatClampNeg x1) = f 4 (Int32.toNatClampNeg x2)) → ml (mT g) d (mb_133 g).2 (44, [(0, .ref p), (1, .int x1), (2, .int x2), (3, .int i3)], [], M) (fun v M' => (∃ x, v = some (.int x) ∧ (x = 0 ∨ x = 1)) ∧ M' = M) := by
    intro n9
    induction n9 with
    | zero => intro i3 hn _; exact (loop_zero hn).elim
    | succ n9 ih =>
      intro i3 hn h0
      refine ml_st (S' := (45, [(0, .ref p), (1, .int x1), (2, .int x2), (3, .int i3)], [.int i3], M)) rfl rfl rfl ?_
      refine ml_st (S' := (46, [(0, .ref p), (1, .int x1), (2, .int x2), (3, .int i3)], [.ref p, .int i3], M)) rfl rfl rfl ?_
      refine mo_get (S' := (49, [(0, .ref p), (1, .int x1), (2, .int x2), (3, .int i3)], [.ref (q 4), .int i3], M)) rfl hP.1 rfl rfl ?_
      refine ml_st (S' := (50, [(0, .ref p), (1, .int x1), (2, .int x2), (3, .int i3)], [.int x1, .ref (q 4), .int i3], M)) rfl rfl rfl ?_
      refine mo_ald (S' := (51, [(0, .ref p), (1, .int x1), (2, .int x2), (3, .int i3)], [.int ((f 4) (Int32.toNatClampNeg x1)), .int i3], M)) rfl (hP.2.1 4 (by decide) (by decide)) ((tag_in h0.2.1 (by decide)).1) rfl ?_
      refine ml_if2 (S1 := (91, [(0, .ref p), (1, .int x1), (2, .int x2), (3, .int i3)], [], M)) (S2 := (54, [(0, .ref p), (1, .int x1), (2, .int x2), (3, .int i3)], [], M)) rfl rfl rfl (fun c_51 => ?_) (fun c_51 => ?_)
      · have c_51 : ((f 4) (Int32.toNatClampNeg x1)) ≤ i3 := of_decide_eq_true c_51
        refine ml_st (S' := (92, [(0, .ref p), (1, .int x1), (2, .int x2), (3, .int i3)], [.int 1], M)) rfl rfl rfl ?_
        exact ml_ret rfl (rfl) (⟨⟨_, rfl, by first | exact Or.inl rfl | exact Or.inr rfl⟩, rfl⟩)
      · have c_51 : ¬ (((f 4) (Int32.toNatClampNeg x1)) ≤ i3) := of_decide_eq_false c_51
        refine ml_st (S' := (55, [(0, .ref p), (1, .int x1), (2, .int x2), (3, .int i3)], [.ref p], M)) rfl rfl rfl ?_
        refine mo_get (S' := (58, [(0, .ref p), (1, .int x1), (2, .int x2), (3, .int i3)], [.ref (q 6)], M)) rfl hP.1 rfl rfl ?_
        refine ml_st (S' := (59, [(0, .ref p), (1, .int x1), (2, .int x2), (3, .int i3)], [.ref p, .ref (q 6)], M)) rfl rfl rfl ?_
        refine mo_get (S' := (62, [(0, .ref p), (1, .int x1), (2, .int x2), (3, .int i3)], [.ref (q 3), .ref (q 6)], M)) rfl hP.1 rfl rfl ?_
        refine ml_st (S' := (63, [(0, .ref p), (1, .int x1), (2, .int x2), (3, .int i3)], [.int x1, .ref (q 3), .ref (q 6)], M)) rfl rfl rfl ?_
        refine mo_ald (S' := (64, [(0, .ref p), (1, .int x1), (2, .int x2), (3, .int i3)], [.int ((f 3) (Int32.toNatClampNeg x1)), .ref (q 6)], M)) rfl (hP.2.1 3 (by decide) (by decide)) ((tag_in h0.2.1 (by decide)).1) rfl ?_
        refine ml_st (S' := (65, [(0, .ref p), (1, .int x1), (2, .int x2), (3, .int i3)], [.int i3, .int ((f 3) (Int32.toNatClampNeg x1)), .ref (q 6)], M)) rfl rfl rfl ?_
        refine ml_st (S' := (66, [(0, .ref p), (1, .int x1), (2, .int x2), (3, .int i3)], [.int (((f 3) (Int32.toNatClampNeg x1)) + i3), .ref (q 6)], M)) rfl rfl rfl ?_
        refine mo_ald (S' := (67, [(0, .ref p), (1, .int x1), (2, .int x2), (3, .int i3)], [.int ((f 6) (Int32.toNatClampNeg (((f 3) (Int32.toNatClampNeg x1)) + i3)))], M)) rfl hP.2.2 ((txt_in hT hm h0.1 (by unfold sp_textLength; rw [if_neg (not_not_intro h0.2.1)]; exact (Int32.not_le.mp c_51))).2) rfl ?_
        refine ml_st (S' := (68, [(0, .ref p), (1, .int x1), (2, .int x2), (3, .int i3)], [.ref p, .int ((f 6) (Int32.toNatClampNeg (((f 3) (Int32.toNatClampNeg x1)) + i3)))], M)) rfl rfl rfl ?_
        refine mo_get (S' := (71, [(0, .ref p), (1, .int x1), (2, .int x2), (3, .int i3)], [.ref (q 6), .int ((f 6) (Int32.toNatClampNeg (((f 3) (Int32.toNatClampNeg x1)) + i3)))], M)) rfl hP.1 rfl rfl ?_
        refine ml_st (S' := (72, [(0, .ref p), (1, .int x1), (2, .int x2), (3, .int i3)], [.ref p, .ref (q 6), .int ((f 6) (Int32.toNatClampNeg (((f 3) (Int32.toNatClampNeg x1)) + i3)))], M)) rfl rfl rfl ?_
        refine mo_get (S' := (75, [(0, .ref p), (1, .int x1), (2, .int x2), (3, .int i3)], [.ref (q 3), .ref (q 6), .int ((f 6) (Int32.toNatClampNeg (((f 3) (Int32.toNatClampNeg x1)) + i3)))], M)) rfl hP.1 rfl rfl ?_
        refine ml_st (S' := (76, [(0, .ref p), (1, .int x1), (2, .int x2), (3, .int i3)], [.int x2, .ref (q 3), .ref (q 6), .int ((f 6) (Int32.toNatClampNeg (((f 3) (Int32.toNatClampNeg x1)) + i3)))], M)) rfl rfl rfl ?_
        refine mo_ald (S' := (77, [(0, .ref p), (1, .int x1), (2, .int x2), (3, .int i3)], [.int ((f 3) (Int32.toNatClampNeg x2)), .ref (q 6), .int ((f 6) (Int32.toNatClampNeg (((f 3) (Int32.toNatClampNeg x1)) + i3)))], M)) rfl (hP.2.1 3 (by decide) (by decide)) ((tag_in h0.2.2.1 (by decide)).1) rfl ?_
        refine ml_st (S' := (78, [(0, .ref p), (1, .int x1), (2, .int x2), (3, .int i3)], [.int i3, .int ((f 3) (Int32.toNatClampNeg x2)), .ref (q 6), .int ((f 6) (Int32.toNatClampNeg (((f 3) (Int32.toNatClampNeg x1)) + i3)))], M)) rfl rfl rfl ?_
        refine ml_st (S' := (79, [(0, .ref p), (1, .int x1), (2, .int x2), (3, .int i3)], [.int (((f 3) (Int32.toNatClampNeg x2)) + i3), .ref (q 6), .int ((f 6) (Int32.toNatClampNeg (((f 3) (Int32.toNatClampNeg x1)) + i3)))], M)) rfl rfl rfl ?_
        refine mo_ald (S' := (80, [(0, .ref p), (1, .int x1), (2, .int x2), (3, .int i3)], [.int ((f 6) (Int32.toNatClampNeg (((f 3) (Int32.toNatClampNeg x2)) + i3))), .int ((f 6) (Int32.toNatClampNeg (((f 3) (Int32.toNatClampNeg x1)) + i3)))], M)) rfl hP.2.2 ((txt_in hT hm h0.1 (by unfold sp_textLength; rw [if_neg (not_not_intro h0.2.2.1), ← h0.2.2.2]; exact (Int32.not_le.mp c_51))).2) rfl ?_
        refine ml_if2 (S1 := (85, [(0, .ref p), (1, .int x1), (2, .int x2), (3, .int i3)], [], M)) (S2 := (83, [(0, .ref p), (1, .int x1), (2, .int x2), (3, .int i3)], [], M)) rfl rfl rfl (fun c_80 => ?_) (fun c_80 => ?_)
        · have c_80 : ((f 6) (Int32.toNatClampNeg (((f 3) (Int32.toNatClampNeg x1)) + i3))) = ((f 6) (Int32.toNatClampNeg (((f 3) (Int32.toNatClampNeg x2)) + i3))) := of_decide_eq_true c_80
          refine ml_st (S' := (88, [(3, .int (i3 + 1)), (0, .ref p), (1, .int x1), (2, .int x2)], [], M)) rfl rfl rfl ?_
          refine ml_st (S' := (44, [(0, .ref p), (1, .int x1), (2, .int x2), (3, .int (i3 + 1))], [], M)) rfl rfl rfl ?_
          exact ih _ (loop_inc (Int32.not_le.mp c_51) hn) ⟨by rw [inc_lt (Int32.not_le.mp c_51)]; have := h0.1; omega, h0.2⟩
        · have c_80 : ¬ (((f 6) (Int32.toNatClampNeg (((f 3) (Int32.toNatClampNeg x1)) + i3))) = ((f 6) (Int32.toNatClampNeg (((f 3) (Int32.toNatClampNeg x2)) + i3)))) := of_decide_eq_false c_80
          refine ml_st (S' := (84, [(0, .ref p), (1, .int x1), (2, .int x2), (3, .int i3)], [.int 0], M)) rfl rfl rfl ?_
          exact ml_ret rfl (rfl) (⟨⟨_, rfl, by first | exact Or.inl rfl | exact Or.inr rfl⟩, rfl⟩)
  refine mt_in (b := mb_133 g) rfl rfl ?_
  show ml (mT g) d (mb_133 g).2 (0, [(0, .ref p), (1, .int x1), (2, .int x2)], [], M) _
  refine ml_st (S' := (1, [(0, .ref p), (1, .int x1), (2, .int x2)], [.int x1], M)) rfl rfl rfl ?_
  refine ml_st (S' := (2, [(0, .ref p), (1, .int x1), (2, .int x2)], [.int x2, .int x1], M)) rfl rfl rfl ?_
  refine ml_if2 (S1 := (7, [(0, .ref p), (1, .int x1), (2, .int x2)], [], M)) (S2 := (5, [(0, .ref p), (1, .int x1), (2, .int x2)], [], M)) rfl rfl rfl (fun c_2 => ?_) (fun c_2 => ?_)
  · have c_2 : ¬ x1 = x2 := of_decide_eq_true c_2
    refine ml_st (S' := (8, [(0, .ref p), (1, .int x1), (2, .int x2)], [.ref p], M)) rfl rfl rfl ?_
    refine ml_st (S' := (9, [(0, .ref p), (1, .int x1), (2, .int x2)], [.int x1, .ref p], M)) rfl rfl rfl ?_
    refine ml_call (a := [.ref p, .int x1]) (rest := []) rfl (okc_v rfl rfl rfl hP.1) rfl rfl (ct_tagOf hP (by omega)) (fun v1 M2 h3 => ?_)
    obtain ⟨rfl, h3⟩ := h3
    rw [h3]
    show ml _ _ _ (12, [(0, .ref p), (1, .int x1), (2, .int x2)], [.int (sp_tagOf n m f x1)], M) _
    refine ml_st (S' := (13, [(0, .ref p), (1, .int x1), (2, .int x2)], [.int 1, .int (sp_tagOf n m f x1)], M)) rfl rfl rfl ?_
    refine ml_if2 (S1 := (40, [], [], M)) (S2 := (16, [(0, .ref p), (1, .int x1), (2, .int x2)], [], M)) rfl rfl rfl (fun c_13 => ?_) (fun c_13 => ?_)
    · have c_13 : ¬ (sp_tagOf n m f x1) = 1 := of_decide_eq_true c_13
      refine ml_st (S' := (41, [], [.int 0], M)) rfl rfl rfl ?_
      exact ml_ret rfl (rfl) (⟨⟨_, rfl, by first | exact Or.inl rfl | exact Or.inr rfl⟩, rfl⟩)
    · have c_13 : ¬ (¬ (sp_tagOf n m f x1) = 1) := of_decide_eq_false c_13
      refine ml_st (S' := (17, [(0, .ref p), (1, .int x1), (2, .int x2)], [.ref p], M)) rfl rfl rfl ?_
      refine ml_st (S' := (18, [(0, .ref p), (1, .int x1), (2, .int x2)], [.int x2, .ref p], M)) rfl rfl rfl ?_
      refine ml_call (a := [.ref p, .int x2]) (rest := []) rfl (okc_v rfl rfl rfl hP.1) rfl rfl (ct_tagOf hP (by omega)) (fun v4 M5 h6 => ?_)
      obtain ⟨rfl, h6⟩ := h6
      rw [h6]
      show ml _ _ _ (21, [(0, .ref p), (1, .int x1), (2, .int x2)], [.int (sp_tagOf n m f x2)], M) _
      refine ml_st (S' := (22, [(0, .ref p), (1, .int x1), (2, .int x2)], [.int 1, .int (sp_tagOf n m f x2)], M)) rfl rfl rfl ?_
      refine ml_if2 (S1 := (40, [], [], M)) (S2 := (25, [(0, .ref p), (1, .int x1), (2, .int x2)], [], M)) rfl rfl rfl (fun c_22 => ?_) (fun c_22 => ?_)
      · have c_22 : ¬ (sp_tagOf n m f x2) = 1 := of_decide_eq_true c_22
        refine ml_st (S' := (41, [], [.int 0], M)) rfl rfl rfl ?_
        exact ml_ret rfl (rfl) (⟨⟨_, rfl, by first | exact Or.inl rfl | exact Or.inr rfl⟩, rfl⟩)
      · have c_22 : ¬ (¬ (sp_tagOf n m f x2) = 1) := of_decide_eq_false c_22
        refine ml_st (S' := (26, [(0, .ref p), (1, .int x1), (2, .int x2)], [.ref p], M)) rfl rfl rfl ?_
        refine mo_get (S' := (29, [(0, .ref p), (1, .int x1), (2, .int x2)], [.ref (q 4)], M)) rfl hP.1 rfl rfl ?_
        refine ml_st (S' := (30, [(0, .ref p), (1, .int x1), (2, .int x2)], [.int x1, .ref (q 4)], M)) rfl rfl rfl ?_
        refine mo_ald (S' := (31, [(0, .ref p), (1, .int x1), (2, .int x2)], [.int ((f 4) (Int32.toNatClampNeg x1))], M)) rfl (hP.2.1 4 (by decide) (by decide)) ((tag_in (Decidable.not_not.mp c_13) (by decide)).1) rfl ?_
        refine ml_st (S' := (32, [(0, .ref p), (1, .int x1), (2, .int x2)], [.ref p, .int ((f 4) (Int32.toNatClampNeg x1))], M)) rfl rfl rfl ?_
        refine mo_get (S' := (35, [(0, .ref p), (1, .int x1), (2, .int x2)], [.ref (q 4), .int ((f 4) (Int32.toNatClampNeg x1))], M)) rfl hP.1 rfl rfl ?_
        refine ml_st (S' := (36, [(0, .ref p), (1, .int x1), (2, .int x2)], [.int x2, .ref (q 4), .int ((f 4) (Int32.toNatClampNeg x1))], M)) rfl rfl rfl ?_
        refine mo_ald (S' := (37, [(0, .ref p), (1, .int x1), (2, .int x2)], [.int ((f 4) (Int32.toNatClampNeg x2)), .int ((f 4) (Int32.toNatClampNeg x1))], M)) rfl (hP.2.1 4 (by decide) (by decide)) ((tag_in (Decidable.not_not.mp c_22) (by decide)).1) rfl ?_
        refine ml_if2 (S1 := (42, [(0, .ref p), (1, .int x1), (2, .int x2)], [], M)) (S2 := (40, [], [], M)) rfl rfl rfl (fun c_37 => ?_) (fun c_37 => ?_)
        · have c_37 : ((f 4) (Int32.toNatClampNeg x1)) = ((f 4) (Int32.toNatClampNeg x2)) := of_decide_eq_true c_37
          refine ml_st (S' := (43, [(0, .ref p), (1, .int x1), (2, .int x2)], [.int 0], M)) rfl rfl rfl ?_
          refine ml_st (S' := (44, [(0, .ref p), (1, .int x1), (2, .int x2), (3, .int 0)], [], M)) rfl rfl rfl ?_
          exact L44 _ 0 (Nat.le_refl _) ⟨by decide, Decidable.not_not.mp c_13, Decidable.not_not.mp c_22, c_37⟩
        · have c_37 : ¬ (((f 4) (Int32.toNatClampNeg x1)) = ((f 4) (Int32.toNatClampNeg x2))) := of_decide_eq_false c_37
          refine ml_st (S' := (41, [], [.int 0], M)) rfl rfl rfl ?_
          exact ml_ret rfl (rfl) (⟨⟨_, rfl, by first | exact Or.inl rfl | exact Or.inr rfl⟩, rfl⟩)
  · have c_2 : ¬ (¬ x1 = x2) := of_decide_eq_false c_2
    refine ml_st (S' := (6, [(0, .ref p), (1, .int x1), (2, .int x2)], [.int 1], M)) rfl rfl rfl ?_
    exact ml_ret rfl (rfl) (⟨⟨_, rfl, by first | exact Or.inl rfl | exact Or.inr rfl⟩, rfl⟩)
end
section
/-! where attributes end (laid by wip/p2/c38.py) -/
set_option maxHeartbeats 1000000 in
theorem ct_attributesEnd {g : xe_G} {M : mi_H} {b da n : Nat} {f : Nat → Int32} {x1 x2 x3 : Int32} (hB : BY M b da n f) {d : Nat} (hd : 2 ≤ d) : mt (mT g) d 45 [.ref b, .int x1, .int x2, .int x3] M (fun v M' => (∃ x, v = some (.int x)) ∧ M' = M) := by
  obtain ⟨d, rfl⟩ : ∃ e, d = e + 1 := ⟨d - 1, by omega⟩
  have L6 : ∀ (n9 : Nat) (i4 i5 : Int32), (2147483648 - i5.toInt).toNat ≤ n9 → True → ml (mT g) d (mb_45 g).2 (6, [(0, .ref b), (2, .int x2), (3, .int x3), (4, .int i4), (5, .int i5)], [], M) (fun v M' => (∃ x, v = some (.int x)) ∧ M' = M) := by
    intro n9
    induction n9 with
    | zero => intro i4 i5 hn _; exact (loop_zero hn).elim
    | succ n9 ih =>
      intro i4 i5 hn h0
      refine ml_st (S' := (8, [(0, .ref b), (2, .int x2), (3, .int x3), (4, .int i4), (5, .int i5)], [.int i5], M)) rfl rfl rfl ?_
      refine ml_st (S' := (9, [(0, .ref b), (2, .int x2), (3, .int x3), (4, .int i4), (5, .int i5)], [.int x2, .int i5], M)) rfl rfl rfl ?_
      refine ml_if2 (S1 := (68, [(0, .ref b), (2, .int x2), (3, .int x3), (4, .int i4), (5, .int i5)], [], M)) (S2 := (12, [(0, .ref b), (2, .int x2), (3, .int x3), (4, .int i4), (5, .int i5)], [], M)) rfl rfl rfl (fun c_9 => ?_) (fun c_9 => ?_)
      · have c_9 : x2 ≤ i5 := of_decide_eq_true c_9
        refine ml_st (S' := (70, [(0, .ref b), (2, .int x2), (3, .int x3), (4, .int i4), (5, .int i5)], [.int i4], M)) rfl rfl rfl ?_
        exact ml_ret rfl (rfl) (⟨⟨_, rfl⟩, rfl⟩)
      · have c_9 : ¬ (x2 ≤ i5) := of_decide_eq_false c_9
        refine ml_st (S' := (13, [(0, .ref b), (2, .int x2), (3, .int x3), (4, .int i4), (5, .int i5)], [.int x3], M)) rfl rfl rfl ?_
        refine ml_st (S' := (15, [(0, .ref b), (2, .int x2), (3, .int x3), (4, .int i4), (5, .int i5)], [.int i4, .int x3], M)) rfl rfl rfl ?_
        refine ml_st (S' := (16, [(0, .ref b), (2, .int x2), (3, .int x3), (4, .int i4), (5, .int i5)], [.int (x3 - i4)], M)) rfl rfl rfl ?_
        refine ml_st (S' := (18, [(0, .ref b), (2, .int x2), (3, .int x3), (4, .int i4), (5, .int i5)], [.int 6, .int (x3 - i4)], M)) rfl rfl rfl ?_
        refine ml_if2 (S1 := (23, [(0, .ref b), (2, .int x2), (3, .int x3), (4, .int i4), (5, .int i5)], [], M)) (S2 := (21, [(0, .ref b), (2, .int x2), (3, .int x3), (4, .int i4), (5, .int i5)], [], M)) rfl rfl rfl (fun c_18 => ?_) (fun c_18 => ?_)
        · have c_18 : 6 ≤ (x3 - i4) := of_decide_eq_true c_18
          refine ml_st (S' := (24, [(0, .ref b), (2, .int x2), (3, .int x3), (4, .int i4), (5, .int i5)], [.ref b], M)) rfl rfl rfl ?_
          refine ml_st (S' := (26, [(0, .ref b), (2, .int x2), (3, .int x3), (4, .int i4), (5, .int i5)], [.int i4, .ref b], M)) rfl rfl rfl ?_
          refine ml_st (S' := (27, [(0, .ref b), (2, .int x2), (3, .int x3), (4, .int i4), (5, .int i5)], [.int 2, .int i4, .ref b], M)) rfl rfl rfl ?_
          refine ml_st (S' := (28, [(0, .ref b), (2, .int x2), (3, .int x3), (4, .int i4), (5, .int i5)], [.int (i4 + 2), .ref b], M)) rfl rfl rfl ?_
          refine ml_call (a := [.ref b, .int (i4 + 2)]) (rest := []) rfl (okc_v rfl rfl rfl hB.1) rfl rfl (ct_u4 hB (by omega)) (fun v1 M2 h3 => ?_)
          obtain ⟨rfl, h3⟩ := h3
          rw [h3]
          show ml _ _ _ (31, [(0, .ref b), (2, .int x2), (3, .int x3), (4, .int i4), (5, .int i5)], [.int (sp_u4 n f (i4 + 2))], M) _
          refine ml_st (S' := (33, [(6, .int (sp_u4 n f (i4 + 2))), (0, .ref b), (2, .int x2), (3, .int x3), (4, .int i4), (5, .int i5)], [], M)) rfl rfl rfl ?_
          refine ml_st (S' := (35, [(6, .int (sp_u4 n f (i4 + 2))), (0, .ref b), (2, .int x2), (3, .int x3), (4, .int i4), (5, .int i5)], [.int (sp_u4 n f (i4 + 2))], M)) rfl rfl rfl ?_
          refine ml_if (S1 := (50, [], [], M)) (S2 := (38, [(6, .int (sp_u4 n f (i4 + 2))), (0, .ref b), (2, .int x2), (3, .int x3), (4, .int i4), (5, .int i5)], [], M)) rfl rfl rfl (fun c_35 => ?_) (fun c_35 => ?_)
          · have c_35 : (sp_u4 n f (i4 + 2)) < 0 := of_decide_eq_true c_35
            refine ml_st (S' := (51, [], [.int (-1)], M)) rfl rfl rfl ?_
            exact ml_ret rfl (rfl) (⟨⟨_, rfl⟩, rfl⟩)
          · have c_35 : ¬ ((sp_u4 n f (i4 + 2)) < 0) := of_decide_eq_false c_35
            refine ml_st (S' := (40, [(6, .int (sp_u4 n f (i4 + 2))), (0, .ref b), (2, .int x2), (3, .int x3), (4, .int i4), (5, .int i5)], [.int (sp_u4 n f (i4 + 2))], M)) rfl rfl rfl ?_
            refine ml_st (S' := (41, [(6, .int (sp_u4 n f (i4 + 2))), (0, .ref b), (2, .int x2), (3, .int x3), (4, .int i4), (5, .int i5)], [.int x3, .int (sp_u4 n f (i4 + 2))], M)) rfl rfl rfl ?_
            refine ml_st (S' := (43, [(6, .int (sp_u4 n f (i4 + 2))), (0, .ref b), (2, .int x2), (3, .int x3), (4, .int i4), (5, .int i5)], [.int i4, .int x3, .int (sp_u4 n f (i4 + 2))], M)) rfl rfl rfl ?_
            refine ml_st (S' := (44, [(6, .int (sp_u4 n f (i4 + 2))), (0, .ref b), (2, .int x2), (3, .int x3), (4, .int i4), (5, .int i5)], [.int (x3 - i4), .int (sp_u4 n f (i4 + 2))], M)) rfl rfl rfl ?_
            refine ml_st (S' := (46, [(6, .int (sp_u4 n f (i4 + 2))), (0, .ref b), (2, .int x2), (3, .int x3), (4, .int i4), (5, .int i5)], [.int 6, .int (x3 - i4), .int (sp_u4 n f (i4 + 2))], M)) rfl rfl rfl ?_
            refine ml_st (S' := (47, [(6, .int (sp_u4 n f (i4 + 2))), (0, .ref b), (2, .int x2), (3, .int x3), (4, .int i4), (5, .int i5)], [.int ((x3 - i4) - 6), .int (sp_u4 n f (i4 + 2))], M)) rfl rfl rfl ?_
            refine ml_if2 (S1 := (52, [(6, .int (sp_u4 n f (i4 + 2))), (0, .ref b), (2, .int x2), (3, .int x3), (4, .int i4), (5, .int i5)], [], M)) (S2 := (50, [], [], M)) rfl rfl rfl (fun c_47 => ?_) (fun c_47 => ?_)
            · have c_47 : (sp_u4 n f (i4 + 2)) ≤ ((x3 - i4) - 6) := of_decide_eq_true c_47
              refine ml_st (S' := (54, [(6, .int (sp_u4 n f (i4 + 2))), (0, .ref b), (2, .int x2), (3, .int x3), (4, .int i4), (5, .int i5)], [.int i4], M)) rfl rfl rfl ?_
              refine ml_st (S' := (56, [(6, .int (sp_u4 n f (i4 + 2))), (0, .ref b), (2, .int x2), (3, .int x3), (4, .int i4), (5, .int i5)], [.int 6, .int i4], M)) rfl rfl rfl ?_
              refine ml_st (S' := (58, [(6, .int (sp_u4 n f (i4 + 2))), (0, .ref b), (2, .int x2), (3, .int x3), (4, .int i4), (5, .int i5)], [.int (sp_u4 n f (i4 + 2)), .int 6, .int i4], M)) rfl rfl rfl ?_
              refine ml_st (S' := (59, [(6, .int (sp_u4 n f (i4 + 2))), (0, .ref b), (2, .int x2), (3, .int x3), (4, .int i4), (5, .int i5)], [.int (6 + (sp_u4 n f (i4 + 2))), .int i4], M)) rfl rfl rfl ?_
              refine ml_st (S' := (60, [(6, .int (sp_u4 n f (i4 + 2))), (0, .ref b), (2, .int x2), (3, .int x3), (4, .int i4), (5, .int i5)], [.int (i4 + (6 + (sp_u4 n f (i4 + 2))))], M)) rfl rfl rfl ?_
              refine ml_st (S' := (62, [(4, .int (i4 + (6 + (sp_u4 n f (i4 + 2))))), (6, .int (sp_u4 n f (i4 + 2))), (0, .ref b), (2, .int x2), (3, .int x3), (5, .int i5)], [], M)) rfl rfl rfl ?_
              refine ml_st (S' := (65, [(5, .int (i5 + 1)), (4, .int (i4 + (6 + (sp_u4 n f (i4 + 2))))), (6, .int (sp_u4 n f (i4 + 2))), (0, .ref b), (2, .int x2), (3, .int x3)], [], M)) rfl rfl rfl ?_
              refine ml_st (S' := (6, [(0, .ref b), (2, .int x2), (3, .int x3), (4, .int (i4 + (6 + (sp_u4 n f (i4 + 2))))), (5, .int (i5 + 1))], [], M)) rfl rfl rfl ?_
              exact ih _ _ (loop_inc (Int32.not_le.mp c_9) hn) trivial
            · have c_47 : ¬ ((sp_u4 n f (i4 + 2)) ≤ ((x3 - i4) - 6)) := of_decide_eq_false c_47
              refine ml_st (S' := (51, [], [.int (-1)], M)) rfl rfl rfl ?_
              exact ml_ret rfl (rfl) (⟨⟨_, rfl⟩, rfl⟩)
        · have c_18 : ¬ (6 ≤ (x3 - i4)) := of_decide_eq_false c_18
          refine ml_st (S' := (22, [(0, .ref b), (2, .int x2), (3, .int x3), (4, .int i4), (5, .int i5)], [.int (-1)], M)) rfl rfl rfl ?_
          exact ml_ret rfl (rfl) (⟨⟨_, rfl⟩, rfl⟩)
  refine mt_in (b := mb_45 g) rfl rfl ?_
  show ml (mT g) d (mb_45 g).2 (0, [(0, .ref b), (1, .int x1), (2, .int x2), (3, .int x3)], [], M) _
  refine ml_st (S' := (1, [(0, .ref b), (1, .int x1), (2, .int x2), (3, .int x3)], [.int x1], M)) rfl rfl rfl ?_
  refine ml_st (S' := (3, [(4, .int x1), (0, .ref b), (1, .int x1), (2, .int x2), (3, .int x3)], [], M)) rfl rfl rfl ?_
  refine ml_st (S' := (4, [(4, .int x1), (0, .ref b), (1, .int x1), (2, .int x2), (3, .int x3)], [.int 0], M)) rfl rfl rfl ?_
  refine ml_st (S' := (6, [(0, .ref b), (2, .int x2), (3, .int x3), (4, .int x1), (5, .int 0)], [], M)) rfl rfl rfl ?_
  exact L6 _ _ _ (Nat.le_refl _) trivial
end
section
/-! rules over typed heaps (my own text) -/
section MIT
def mi_blk (tb : mi_B) : Nat → mi_S → Option mi_S
  | 0, S => some S
  | n + 1, S => match tb.1 S.1 with
    | some (.inl o) => match o S with
      | some S1 => mi_blk tb n (mi_nk tb.2 S1)
      | none => none
    | _ => none
variable {g : xe_G} {Y : yT} {M : mi_H} {T : Nat → Option (Nat × mi_B)} {d pc : Nat} {tb : mi_B} {lv : List (Nat × Value)} {s0 : List Value} {Q : Option Value → mi_H → Prop}
theorem ml_blk : ∀ (n : Nat) {S S' : mi_S}, mi_blk tb n S = some S' → ml T d tb S' Q → ml T d tb S Q := by
  intro n
  induction n with
  | zero => intro S S' h k; cases h; exact k
  | succ n ih =>
    intro S S' h k
    rw [mi_blk] at h
    split at h
    · rename_i o h1
      split at h
      · rename_i S1 h2
        obtain ⟨a, b, c, e⟩ := S
        exact ml_st h1 h2 rfl (ih h k)
      · cases h
    · cases h
theorem WF.lnk {a k : Nat} {ps : List Nat} (h : WF g Y M) (hY : Y.1 a = some (k, ps)) (hk : k < 12) : lnk Y a k ps := by
  obtain ⟨l, -, -, -, h4, -⟩ := (h.1 a k ps hY).obj hk
  exact h4
theorem okY.mem {a k da n : Nat} (h : okY Y M a 23 [k, da, n]) : memOk Y M a k da n := by
  rcases h with ⟨h1, -⟩ | ⟨n', r', -, ty, f, h1, -⟩ | ⟨-, n', da', m', e, h⟩
  · omega
  · cases h1
  · cases e
    exact h
theorem ta_mem {k da n a : Nat} {i : Int32} (h1 : tb.1 pc = some (.inl (o_ald (.object "ClassGate$Member")))) (hW : WF g Y M) (hY : Y.1 a = some (23, [k, da, n])) (hi : vp_in i k) (k0 : ml T d tb (mi_nk tb.2 (pc + 1, lv, .null :: s0, M)) Q) (kk : ∀ b, Y.1 b = some (6, [da, n]) → ml T d tb (mi_nk tb.2 (pc + 1, lv, .ref b :: s0, M)) Q) : ml T d tb (pc, lv, .int i :: .ref a :: s0, M) Q := by
  obtain ⟨-, f, h2, h3⟩ := (hW.1 a _ _ hY).mem
  have hg : mi_ga M a (.object "ClassGate$Member") = some (k, fun i => some (va_rf (f i))) := by
    unfold mi_ga
    rw [h2]
    simp
  cases hf : f i.toNatClampNeg with
  | none => exact ml_ald (v := .null) h1 hg hi (by simp only [hf, va_rf]) rfl k0
  | some b => exact ml_ald (v := .ref b) h1 hg hi (by simp only [hf, va_rf]) rfl (kk b (h3 _ _ hf))
theorem tl_mem {k da n a : Nat} {S' : mi_S} (h1 : tb.1 pc = some (.inl (o_alen (.object "ClassGate$Member")))) (hW : WF g Y M) (hY : Y.1 a = some (23, [k, da, n])) (e1 : mi_nk tb.2 (pc + 1, lv, .int (nI k) :: s0, M) = S') (kk : ml T d tb S' Q) : ml T d tb (pc, lv, .ref a :: s0, M) Q := by
  obtain ⟨-, f, h2, h3⟩ := (hW.1 a _ _ hY).mem
  have hg : mi_ga M a (.object "ClassGate$Member") = some (k, fun i => some (va_rf (f i))) := by
    unfold mi_ga
    rw [h2]
    simp
  exact ml_alen h1 hg e1 kk
theorem tl_row {k n a : Nat} {ty : FieldType} {r : List Nat} {S' : mi_S} (h1 : tb.1 pc = some (.inl (o_alen ty))) (hW : WF g Y M) (hY : Y.1 a = some (k, n :: r)) (hk : rowT k = some ty) (e1 : mi_nk tb.2 (pc + 1, lv, .int (nI n) :: s0, M) = S') (kk : ml T d tb S' Q) : ml T d tb (pc, lv, .ref a :: s0, M) Q := by
  obtain ⟨ty', f, h2, h3, -⟩ := (hW.1 a _ _ hY).row hk
  cases hk.symm.trans h2
  exact mo_alen h1 h3 e1 kk
theorem ta_int {n a : Nat} {r : List Nat} {i : Int32} (h1 : tb.1 pc = some (.inl (o_ald .int))) (hW : WF g Y M) (hY : Y.1 a = some (21, n :: r)) (hi : vp_in i n) (kk : ∀ x, ml T d tb (mi_nk tb.2 (pc + 1, lv, .int x :: s0, M)) Q) : ml T d tb (pc, lv, .int i :: .ref a :: s0, M) Q := by
  obtain ⟨ty', f, h2, h3, -⟩ := (hW.1 a _ _ hY).row (ty := .int) rfl
  cases h2
  exact mo_ald h1 h3 hi rfl (kk _)
theorem WF.rlen {a k n : Nat} {r : List Nat} {ty : FieldType} (hW : WF g Y M) (hY : Y.1 a = some (k, n :: r)) (hk : rowT k = some ty) : n < 1073741824 := by
  obtain ⟨ty', f, -, -, h, -⟩ := (hW.1 a _ _ hY).row hk
  exact h
theorem WF.pint {p j : Nat} {pp : List Nat} (hW : WF g Y M) (hY : Y.1 p = some (7, pp)) (hj : (j == 0 || j == 7) = true) : ∃ x, mi_gf M p 7 j = some (.int x) := by
  obtain ⟨size, n, m, q, f, cc, hP, -⟩ := hW.pool hY
  have : j = 0 ∨ j = 7 := by simpa using hj
  rcases this with rfl | rfl
  · exact ⟨_, gf_ob hP.1 rfl⟩
  · exact ⟨_, gf_ob hP.1 rfl⟩
theorem tg_pint {j p : Nat} {pp : List Nat} (h1 : tb.1 pc = some (.inl (o_get 7 j))) (hW : WF g Y M) (hY : Y.1 p = some (7, pp)) (hj : (j == 0 || j == 7) = true) (kk : ∀ x, mi_gf M p 7 j = some (.int x) → ml T d tb (mi_nk tb.2 (pc + 3, lv, .int x :: s0, M)) Q) : ml T d tb (pc, lv, .ref p :: s0, M) Q := by
  obtain ⟨x, hx⟩ := hW.pint hY hj
  exact ml_get h1 hx rfl (kk x hx)
theorem ml_slen {a lk : Nat} {f : Nat → Option Value} {S' : mi_S} (h1 : tb.1 pc = some (.inl o_slength)) (hL : M.1 a = some (.inr (100 + lk, f))) (hk : lk < 30) (hc : decide ((s0.map fun v => v.category).sum ≤ 8) = true) (e1 : mi_nk tb.2 (pc + 3, lv, .int (nI (xe_lt lk).2.2.2.length) :: s0, M) = S') (kk : ml T d tb S' Q) : ml T d tb (pc, lv, .ref a :: s0, M) Q := by
  refine ml_st h1 (S1 := (pc + 3, lv, .int (nI (xe_lt lk).2.2.2.length) :: s0, M)) ?_ e1 kk
  simp only [o_slength, hL]
  rw [if_pos ⟨by omega, by omega, of_decide_eq_true hc⟩, show 100 + lk - 100 = lk by omega]
theorem ml_scat {a lk : Nat} {j : Int32} {f : Nat → Option Value} {S' : mi_S} (h1 : tb.1 pc = some (.inl o_scharAt)) (hL : M.1 a = some (.inr (100 + lk, f))) (hk : lk < 30) (hc : decide ((s0.map fun v => v.category).sum ≤ 8) = true) (h0 : ¬ j < 0) (hj : j.toNatClampNeg < (xe_lt lk).2.2.2.length) (e1 : mi_nk tb.2 (pc + 3, lv, .int (xe_ch lk j.toNatClampNeg) :: s0, M) = S') (kk : ml T d tb S' Q) : ml T d tb (pc, lv, .int j :: .ref a :: s0, M) Q := by
  refine ml_st h1 (S1 := (pc + 3, lv, .int (xe_ch lk j.toNatClampNeg) :: s0, M)) ?_ e1 kk
  simp only [o_scharAt, hL]
  rw [if_pos ⟨by omega, by omega, of_decide_eq_true hc, h0, by rw [show 100 + lk - 100 = lk by omega]; exact hj⟩, show 100 + lk - 100 = lk by omega]
theorem nlt0 {i : Int32} (h : 0 ≤ i.toInt) : ¬ i < 0 := by
  intro h1
  have h2 := Int32.lt_iff_toInt_lt.mp h1
  have h0 : (0 : Int32).toInt = 0 := rfl
  omega
theorem vin_nI {i : Int32} {n : Nat} (h0 : 0 ≤ i.toInt) (h : ¬ nI n ≤ i) : vp_in i n := vin_ge (nlt0 h0) h
theorem vin_nat {i : Int32} {n : Nat} (h : vp_in i n) : i.toNatClampNeg < n := Nat.not_le.mp fun q => h (Or.inr q)
def fr (S : List Nat) (M M' : mi_H) : Prop := ∀ z, z ∉ S → M'.1 z = M.1 z
theorem fr.rf {S : List Nat} : fr S M M := fun _ _ => rfl
theorem fr.tr {S S' : List Nat} {M1 M2 : mi_H} (h : fr S M M1) (h' : fr S' M1 M2) (hs : ∀ x, x ∈ S' → x ∈ S) : fr S M M2 := fun z hz => (h' z (fun q => hz (hs z q))).trans (h z hz)
theorem fr.up {S : List Nat} {M1 : mi_H} {a : Nat} {c : mi_C} (h : fr S M M1) (ha : a ∈ S) : fr S M (up M1 a c) := fun z hz => (up_ne (fun (e : z = a) => hz (e ▸ ha))).trans (h z hz)
theorem fr.pf {S : List Nat} {M1 M2 : mi_H} {a k j : Nat} {v : Value} (h : fr S M M1) (hp : pf M1 M2 a k j v) (ha : a ∈ S) : fr S M M2 := fun z hz => (hp.1 z (fun (e : z = a) => hz (e ▸ ha))).trans (h z hz)
theorem nin_nil {x : Nat} : x ∉ ([] : List Nat) := by simp
theorem nin_cons {x a : Nat} {l : List Nat} (h : x ≠ a) (h' : x ∉ l) : x ∉ a :: l := by
  simp only [List.mem_cons, not_or]
  exact ⟨h, h'⟩
theorem fr.gf {S : List Nat} {M' : mi_H} {x k j : Nat} {v : Option Value} (h : fr S M M') (hx : x ∉ S) (hg : mi_gf M x k j = v) : mi_gf M' x k j = v := gf_fr (h x hx) hg
def sf (g : xe_G) (Y : yT) (S : List Nat) (M M' : mi_H) : Prop := st g Y M M' ∧ fr S M M'
theorem sf.rf {S : List Nat} (h : WF g Y M) : sf g Y S M M := ⟨st.rf h, fr.rf⟩
theorem sf.tr {S S' : List Nat} {M1 M2 : mi_H} (h : sf g Y S M M1) (h' : sf g Y S' M1 M2) (hs : ∀ x, x ∈ S' → x ∈ S) : sf g Y S M M2 := ⟨h.1.tr h'.1, h.2.tr h'.2 hs⟩
theorem sf.put {S : List Nat} {M1 M2 : mi_H} {a k j : Nat} {v : Value} (h : sf g Y S M M1) (h' : st g Y M M2) (hp : pf M1 M2 a k j v) (ha : a ∈ S) : sf g Y S M M2 := ⟨h', h.2.pf hp ha⟩
def fZ (g : xe_G) (Y : yT) (S : List Nat) (M : mi_H) : Option Value → mi_H → Prop := fun v M' => (∃ x : Int32, v = some (.int x) ∧ (x = 0 ∨ x = 1)) ∧ sf g Y S M M'
def f0 (g : xe_G) (Y : yT) (S : List Nat) (M : mi_H) : Option Value → mi_H → Prop := fun v M' => v = some (.int 0) ∧ sf g Y S M M'
def fV (g : xe_G) (Y : yT) (S : List Nat) (M : mi_H) : Option Value → mi_H → Prop := fun v M' => v = none ∧ sf g Y S M M'
theorem WF.bm {b da n : Nat} (h : WF g Y M) (hY : Y.1 b = some (1, [da, n])) : n ≤ 65540 := by
  obtain ⟨l, h1, -, -, -, h5⟩ := (h.1 b 1 _ hY).obj (by decide)
  exact h5
end MIT
end
section
/-! a text and a literal (laid by wip/p2/c40.py) -/
set_option maxHeartbeats 1000000 in
theorem ct_textIs {g : xe_G} {M : mi_H} {p lt lk : Nat} {fl : Nat → Option Value} {size : Int32} {n m : Nat} {q : Nat → Nat} {f : Nat → Nat → Int32} {cc : Int32} {x1 : Int32} (hP : PL M p size n m q f cc) (hT : txt n m f cc) (hm : m < 1073741824) (hL : M.1 lt = some (.inr (100 + lk, fl))) (hk : lk < 30) {d : Nat} (hd : 2 ≤ d) : mt (mT g) d 140 [.ref p, .int x1, .ref lt] M (fun v M' => (∃ x, v = some (.int x) ∧ (x = 0 ∨ x = 1)) ∧ M' = M) := by
  obtain ⟨d, rfl⟩ : ∃ e, d = e + 1 := ⟨d - 1, by omega⟩
  have L26 : ∀ (n9 : Nat) (i3 : Int32), (2147483648 - i3.toInt).toNat ≤ n9 → (0 ≤ i3.toInt ∧ sp_tagOf n m f x1 = 1 ∧ f 4 (Int32.toNatClampNeg x1) = (nI (xe_lt lk).2.2.2.length)) → ml (mT g) d (mb_140 g).2 (26, [(0, .ref p), (1, .int x1), (2, .ref lt), (3, .int i3)], [], M) (fun v M' => (∃ x, v = some (.int x) ∧ (x = 0 ∨ x = 1)) ∧ M' = M) := by
    intro n9
    induction n9 with
    | zero => intro i3 hn _; exact (loop_zero hn).elim
    | succ n9 ih =>
      intro i3 hn h0
      refine ml_st (S' := (27, [(0, .ref p), (1, .int x1), (2, .ref lt), (3, .int i3)], [.int i3], M)) rfl rfl rfl ?_
      refine ml_st (S' := (28, [(0, .ref p), (1, .int x1), (2, .ref lt), (3, .int i3)], [.ref lt, .int i3], M)) rfl rfl rfl ?_
      refine ml_slen (S' := (31, [(0, .ref p), (1, .int x1), (2, .ref lt), (3, .int i3)], [.int (nI (xe_lt lk).2.2.2.length), .int i3], M)) rfl hL hk rfl rfl ?_
      refine ml_if2 (S1 := (63, [(0, .ref p), (1, .int x1), (2, .ref lt), (3, .int i3)], [], M)) (S2 := (34, [(0, .ref p), (1, .int x1), (2, .ref lt), (3, .int i3)], [], M)) rfl rfl rfl (fun c_31 => ?_) (fun c_31 => ?_)
      · have c_31 : (nI (xe_lt lk).2.2.2.length) ≤ i3 := of_decide_eq_true c_31
        refine ml_st (S' := (64, [(0, .ref p), (1, .int x1), (2, .ref lt), (3, .int i3)], [.int 1], M)) rfl rfl rfl ?_
        exact ml_ret rfl (rfl) (⟨⟨_, rfl, by first | exact Or.inl rfl | exact Or.inr rfl⟩, rfl⟩)
      · have c_31 : ¬ ((nI (xe_lt lk).2.2.2.length) ≤ i3) := of_decide_eq_false c_31
        refine ml_st (S' := (35, [(0, .ref p), (1, .int x1), (2, .ref lt), (3, .int i3)], [.ref p], M)) rfl rfl rfl ?_
        refine mo_get (S' := (38, [(0, .ref p), (1, .int x1), (2, .ref lt), (3, .int i3)], [.ref (q 6)], M)) rfl hP.1 rfl rfl ?_
        refine ml_st (S' := (39, [(0, .ref p), (1, .int x1), (2, .ref lt), (3, .int i3)], [.ref p, .ref (q 6)], M)) rfl rfl rfl ?_
        refine mo_get (S' := (42, [(0, .ref p), (1, .int x1), (2, .ref lt), (3, .int i3)], [.ref (q 3), .ref (q 6)], M)) rfl hP.1 rfl rfl ?_
        refine ml_st (S' := (43, [(0, .ref p), (1, .int x1), (2, .ref lt), (3, .int i3)], [.int x1, .ref (q 3), .ref (q 6)], M)) rfl rfl rfl ?_
        refine mo_ald (S' := (44, [(0, .ref p), (1, .int x1), (2, .ref lt), (3, .int i3)], [.int ((f 3) (Int32.toNatClampNeg x1)), .ref (q 6)], M)) rfl (hP.2.1 3 (by decide) (by decide)) ((tag_in h0.2.1 (by decide)).1) rfl ?_
        refine ml_st (S' := (45, [(0, .ref p), (1, .int x1), (2, .ref lt), (3, .int i3)], [.int i3, .int ((f 3) (Int32.toNatClampNeg x1)), .ref (q 6)], M)) rfl rfl rfl ?_
        refine ml_st (S' := (46, [(0, .ref p), (1, .int x1), (2, .ref lt), (3, .int i3)], [.int (((f 3) (Int32.toNatClampNeg x1)) + i3), .ref (q 6)], M)) rfl rfl rfl ?_
        refine mo_ald (S' := (47, [(0, .ref p), (1, .int x1), (2, .ref lt), (3, .int i3)], [.int ((f 6) (Int32.toNatClampNeg (((f 3) (Int32.toNatClampNeg x1)) + i3)))], M)) rfl hP.2.2 ((txt_in hT hm h0.1 (by unfold sp_textLength; rw [if_neg (not_not_intro h0.2.1), h0.2.2]; exact (Int32.not_le.mp c_31))).2) rfl ?_
        refine ml_st (S' := (48, [(0, .ref p), (1, .int x1), (2, .ref lt), (3, .int i3)], [.ref lt, .int ((f 6) (Int32.toNatClampNeg (((f 3) (Int32.toNatClampNeg x1)) + i3)))], M)) rfl rfl rfl ?_
        refine ml_st (S' := (49, [(0, .ref p), (1, .int x1), (2, .ref lt), (3, .int i3)], [.int i3, .ref lt, .int ((f 6) (Int32.toNatClampNeg (((f 3) (Int32.toNatClampNeg x1)) + i3)))], M)) rfl rfl rfl ?_
        refine ml_scat (S' := (52, [(0, .ref p), (1, .int x1), (2, .ref lt), (3, .int i3)], [.int (xe_ch lk (Int32.toNatClampNeg i3)), .int ((f 6) (Int32.toNatClampNeg (((f 3) (Int32.toNatClampNeg x1)) + i3)))], M)) rfl hL hk rfl (nlt0 h0.1) (vin_nat (vin_nI h0.1 c_31)) rfl ?_
        refine ml_if2 (S1 := (57, [(0, .ref p), (1, .int x1), (2, .ref lt), (3, .int i3)], [], M)) (S2 := (55, [(0, .ref p), (1, .int x1), (2, .ref lt), (3, .int i3)], [], M)) rfl rfl rfl (fun c_52 => ?_) (fun c_52 => ?_)
        · have c_52 : ((f 6) (Int32.toNatClampNeg (((f 3) (Int32.toNatClampNeg x1)) + i3))) = (xe_ch lk (Int32.toNatClampNeg i3)) := of_decide_eq_true c_52
          refine ml_st (S' := (60, [(3, .int (i3 + 1)), (0, .ref p), (1, .int x1), (2, .ref lt)], [], M)) rfl rfl rfl ?_
          refine ml_st (S' := (26, [(0, .ref p), (1, .int x1), (2, .ref lt), (3, .int (i3 + 1))], [], M)) rfl rfl rfl ?_
          exact ih _ (loop_inc (Int32.not_le.mp c_31) hn) ⟨by rw [inc_lt (Int32.not_le.mp c_31)]; have := h0.1; omega, h0.2⟩
        · have c_52 : ¬ (((f 6) (Int32.toNatClampNeg (((f 3) (Int32.toNatClampNeg x1)) + i3))) = (xe_ch lk (Int32.toNatClampNeg i3))) := of_decide_eq_false c_52
          refine ml_st (S' := (56, [(0, .ref p), (1, .int x1), (2, .ref lt), (3, .int i3)], [.int 0], M)) rfl rfl rfl ?_
          exact ml_ret rfl (rfl) (⟨⟨_, rfl, by first | exact Or.inl rfl | exact Or.inr rfl⟩, rfl⟩)
  refine mt_in (b := mb_140 g) rfl rfl ?_
  show ml (mT g) d (mb_140 g).2 (0, [(0, .ref p), (1, .int x1), (2, .ref lt)], [], M) _
  refine ml_st (S' := (1, [(0, .ref p), (1, .int x1), (2, .ref lt)], [.ref p], M)) rfl rfl rfl ?_
  refine ml_st (S' := (2, [(0, .ref p), (1, .int x1), (2, .ref lt)], [.int x1, .ref p], M)) rfl rfl rfl ?_
  refine ml_call (a := [.ref p, .int x1]) (rest := []) rfl (okc_v rfl rfl rfl hP.1) rfl rfl (ct_tagOf hP (by omega)) (fun v1 M2 h3 => ?_)
  obtain ⟨rfl, h3⟩ := h3
  rw [h3]
  show ml _ _ _ (5, [(0, .ref p), (1, .int x1), (2, .ref lt)], [.int (sp_tagOf n m f x1)], M) _
  refine ml_st (S' := (6, [(0, .ref p), (1, .int x1), (2, .ref lt)], [.int 1, .int (sp_tagOf n m f x1)], M)) rfl rfl rfl ?_
  refine ml_if2 (S1 := (22, [], [], M)) (S2 := (9, [(0, .ref p), (1, .int x1), (2, .ref lt)], [], M)) rfl rfl rfl (fun c_6 => ?_) (fun c_6 => ?_)
  · have c_6 : ¬ (sp_tagOf n m f x1) = 1 := of_decide_eq_true c_6
    refine ml_st (S' := (23, [], [.int 0], M)) rfl rfl rfl ?_
    exact ml_ret rfl (rfl) (⟨⟨_, rfl, by first | exact Or.inl rfl | exact Or.inr rfl⟩, rfl⟩)
  · have c_6 : ¬ (¬ (sp_tagOf n m f x1) = 1) := of_decide_eq_false c_6
    refine ml_st (S' := (10, [(0, .ref p), (1, .int x1), (2, .ref lt)], [.ref p], M)) rfl rfl rfl ?_
    refine mo_get (S' := (13, [(0, .ref p), (1, .int x1), (2, .ref lt)], [.ref (q 4)], M)) rfl hP.1 rfl rfl ?_
    refine ml_st (S' := (14, [(0, .ref p), (1, .int x1), (2, .ref lt)], [.int x1, .ref (q 4)], M)) rfl rfl rfl ?_
    refine mo_ald (S' := (15, [(0, .ref p), (1, .int x1), (2, .ref lt)], [.int ((f 4) (Int32.toNatClampNeg x1))], M)) rfl (hP.2.1 4 (by decide) (by decide)) ((tag_in (Decidable.not_not.mp c_6) (by decide)).1) rfl ?_
    refine ml_st (S' := (16, [(0, .ref p), (1, .int x1), (2, .ref lt)], [.ref lt, .int ((f 4) (Int32.toNatClampNeg x1))], M)) rfl rfl rfl ?_
    refine ml_slen (S' := (19, [(0, .ref p), (1, .int x1), (2, .ref lt)], [.int (nI (xe_lt lk).2.2.2.length), .int ((f 4) (Int32.toNatClampNeg x1))], M)) rfl hL hk rfl rfl ?_
    refine ml_if2 (S1 := (24, [(0, .ref p), (1, .int x1), (2, .ref lt)], [], M)) (S2 := (22, [], [], M)) rfl rfl rfl (fun c_19 => ?_) (fun c_19 => ?_)
    · have c_19 : ((f 4) (Int32.toNatClampNeg x1)) = (nI (xe_lt lk).2.2.2.length) := of_decide_eq_true c_19
      refine ml_st (S' := (25, [(0, .ref p), (1, .int x1), (2, .ref lt)], [.int 0], M)) rfl rfl rfl ?_
      refine ml_st (S' := (26, [(0, .ref p), (1, .int x1), (2, .ref lt), (3, .int 0)], [], M)) rfl rfl rfl ?_
      exact L26 _ 0 (Nat.le_refl _) ⟨by decide, Decidable.not_not.mp c_6, c_19⟩
    · have c_19 : ¬ (((f 4) (Int32.toNatClampNeg x1)) = (nI (xe_lt lk).2.2.2.length)) := of_decide_eq_false c_19
      refine ml_st (S' := (23, [], [.int 0], M)) rfl rfl rfl ?_
      exact ml_ret rfl (rfl) (⟨⟨_, rfl, by first | exact Or.inl rfl | exact Or.inr rfl⟩, rfl⟩)
end
section
/-! class texts, shapes (laid by wip/p2/c41.py) -/
theorem txt_at {n m : Nat} {f : Nat → Nat → Int32} {cc k : Int32} (hT : txt n m f cc) (hm : m < 1073741824) (h : sp_tagOf n m f k = 1) : 0 ≤ (f 3 k.toNatClampNeg).toInt ∧ 0 ≤ (f 4 k.toNatClampNeg).toInt ∧ (f 3 k.toNatClampNeg + f 4 k.toNatClampNeg).toInt = (f 3 k.toNatClampNeg).toInt + (f 4 k.toNatClampNeg).toInt ∧ (f 3 k.toNatClampNeg + f 4 k.toNatClampNeg).toInt ≤ m := by
  obtain ⟨g1, g2⟩ := tag_in h (by decide)
  have hk : k.toNatClampNeg < n := Nat.not_le.mp fun q => g1 (Or.inr q)
  obtain ⟨a1, a2, a3⟩ := hT.2.2 _ hk g2
  have a4 := hT.2.1
  have e5 : (f 3 k.toNatClampNeg + f 4 k.toNatClampNeg).toInt = (f 3 k.toNatClampNeg).toInt + (f 4 k.toNatClampNeg).toInt := by
    rw [Int32.toInt_add]
    apply Int.bmod_eq_of_le <;> omega
  exact ⟨a1, a2, e5, by omega⟩
theorem tl_tag {n m : Nat} {f : Nat → Nat → Int32} {k : Int32} (h : sp_tagOf n m f k = 1) : sp_textLength n m f k = f 4 k.toNatClampNeg := by
  unfold sp_textLength
  rw [if_neg (not_not_intro h)]
theorem tl_none {n m : Nat} {f : Nat → Nat → Int32} {k : Int32} (h : ¬ sp_tagOf n m f k = 1) : sp_textLength n m f k = 0 := by
  unfold sp_textLength
  rw [if_pos h]
theorem isFD_z {n m : Nat} {f : Nat → Nat → Int32} {k : Int32} : sp_isFieldDescriptor n m f k = 0 ∨ sp_isFieldDescriptor n m f k = 1 := by
  unfold sp_isFieldDescriptor
  repeat' (first | exact Or.inl rfl | exact Or.inr rfl | split)
theorem pT_z (x : Int32) : (if x = 74 then (2 : Int32) else if x = 68 then 2 else 1).toInt = 1 ∨ (if x = 74 then (2 : Int32) else if x = 68 then 2 else 1).toInt = 2 := by
  repeat' (first | exact Or.inl rfl | exact Or.inr rfl | split)
theorem inc_pl {i y : Int32} (h : ¬ (255 : Int32) < i) (h0 : 0 ≤ i.toInt) (hy : y.toInt = 1 ∨ y.toInt = 2) : (i + y).toInt = i.toInt + y.toInt := by
  have h1 := Int32.le_iff_toInt_le.mp (Int32.not_lt.mp h)
  have h2 : (255 : Int32).toInt = 255 := rfl
  rw [Int32.toInt_add]
  apply Int.bmod_eq_of_le <;> omega
theorem loop_pl {i y : Int32} {n : Nat} (h : ¬ (255 : Int32) < i) (h0 : 0 ≤ i.toInt) (hy : y.toInt = 1 ∨ y.toInt = 2) (hn : (2147483648 - i.toInt).toNat ≤ n + 1) : (2147483648 - (i + y).toInt).toNat ≤ n := by
  have h1 := Int32.le_iff_toInt_le.mp (Int32.not_lt.mp h)
  have h2 : (255 : Int32).toInt = 255 := rfl
  rw [inc_pl h h0 hy]
  omega

set_option maxHeartbeats 1000000 in
theorem ct_isClassText {g : xe_G} {M : mi_H} {p : Nat} {size : Int32} {n m : Nat} {q : Nat → Nat} {f : Nat → Nat → Int32} {cc : Int32} {x1 : Int32} (hP : PL M p size n m q f cc) (hT : txt n m f cc) (hm : m < 1073741824) {d : Nat} (hd : 3 ≤ d) : mt (mT g) d 120 [.ref p, .int x1] M (fun v M' => (∃ x, v = some (.int x) ∧ (x = 0 ∨ x = 1)) ∧ M' = M) := by
  obtain ⟨d, rfl⟩ : ∃ e, d = e + 1 := ⟨d - 1, by omega⟩
  refine mt_in (b := mb_120 g) rfl rfl ?_
  show ml (mT g) d (mb_120 g).2 (0, [(0, .ref p), (1, .int x1)], [], M) _
  refine ml_st (S' := (1, [(0, .ref p), (1, .int x1)], [.ref p], M)) rfl rfl rfl ?_
  refine ml_st (S' := (2, [(0, .ref p), (1, .int x1)], [.int x1, .ref p], M)) rfl rfl rfl ?_
  refine ml_st (S' := (3, [(0, .ref p), (1, .int x1)], [.int 0, .int x1, .ref p], M)) rfl rfl rfl ?_
  refine ml_call (a := [.ref p, .int x1, .int 0]) (rest := []) rfl (okc_v rfl rfl rfl hP.1) rfl rfl (ct_characterAt hP hT hm (by omega)) (fun v1 M2 h3 => ?_)
  obtain ⟨rfl, h3⟩ := h3
  rw [h3]
  show ml _ _ _ (6, [(0, .ref p), (1, .int x1)], [.int (sp_characterAt n m f x1 0)], M) _
  refine ml_st (S' := (8, [(0, .ref p), (1, .int x1)], [.int 91, .int (sp_characterAt n m f x1 0)], M)) rfl rfl rfl ?_
  refine ml_if2 (S1 := (17, [(0, .ref p), (1, .int x1)], [], M)) (S2 := (11, [(0, .ref p), (1, .int x1)], [], M)) rfl rfl rfl (fun c_8 => ?_) (fun c_8 => ?_)
  · have c_8 : ¬ (sp_characterAt n m f x1 0) = 91 := of_decide_eq_true c_8
    refine ml_st (S' := (18, [(0, .ref p), (1, .int x1)], [.ref p], M)) rfl rfl rfl ?_
    refine ml_st (S' := (19, [(0, .ref p), (1, .int x1)], [.int x1, .ref p], M)) rfl rfl rfl ?_
    refine ml_call (a := [.ref p, .int x1]) (rest := []) rfl (okc_v rfl rfl rfl hP.1) rfl rfl (ct_tagOf hP (by omega)) (fun v4 M5 h6 => ?_)
    obtain ⟨rfl, h6⟩ := h6
    rw [h6]
    show ml _ _ _ (22, [(0, .ref p), (1, .int x1)], [.int (sp_tagOf n m f x1)], M) _
    refine ml_st (S' := (23, [(0, .ref p), (1, .int x1)], [.int 1, .int (sp_tagOf n m f x1)], M)) rfl rfl rfl ?_
    refine ml_if2 (S1 := (35, [(0, .ref p), (1, .int x1)], [], M)) (S2 := (26, [(0, .ref p), (1, .int x1)], [], M)) rfl rfl rfl (fun c_23 => ?_) (fun c_23 => ?_)
    · have c_23 : ¬ (sp_tagOf n m f x1) = 1 := of_decide_eq_true c_23
      refine ml_st (S' := (36, [(0, .ref p), (1, .int x1)], [.int 0], M)) rfl rfl rfl ?_
      refine ml_st (S' := (37, [(2, .int 0), (0, .ref p), (1, .int x1)], [], M)) rfl rfl rfl ?_
      refine ml_st (S' := (38, [(2, .int 0), (0, .ref p), (1, .int x1)], [.int 0], M)) rfl rfl rfl ?_
      refine ml_st (S' := (39, [(2, .int 0), (0, .ref p), (1, .int x1)], [.ref p, .int 0], M)) rfl rfl rfl ?_
      refine ml_st (S' := (40, [(2, .int 0), (0, .ref p), (1, .int x1)], [.int x1, .ref p, .int 0], M)) rfl rfl rfl ?_
      refine ml_call (a := [.ref p, .int x1]) (rest := [.int 0]) rfl (okc_v rfl rfl rfl hP.1) rfl rfl (ct_textLength hP (by omega)) (fun v7 M8 h9 => ?_)
      obtain ⟨rfl, h9⟩ := h9
      rw [h9]
      show ml _ _ _ (43, [(2, .int 0), (0, .ref p), (1, .int x1)], [.int (sp_textLength n m f x1), .int 0], M) _
      refine ml_st (S' := (44, [(2, .int 0), (0, .ref p), (1, .int x1)], [.int (0 + (sp_textLength n m f x1))], M)) rfl rfl rfl ?_
      refine ml_st (S' := (45, [(3, .int (0 + (sp_textLength n m f x1))), (2, .int 0), (0, .ref p), (1, .int x1)], [], M)) rfl rfl rfl ?_
      refine ml_st (S' := (46, [(3, .int (0 + (sp_textLength n m f x1))), (2, .int 0), (0, .ref p), (1, .int x1)], [.ref p], M)) rfl rfl rfl ?_
      refine ml_st (S' := (47, [(3, .int (0 + (sp_textLength n m f x1))), (2, .int 0), (0, .ref p), (1, .int x1)], [.int 0, .ref p], M)) rfl rfl rfl ?_
      refine ml_st (S' := (48, [(3, .int (0 + (sp_textLength n m f x1))), (2, .int 0), (0, .ref p), (1, .int x1)], [.int (0 + (sp_textLength n m f x1)), .int 0, .ref p], M)) rfl rfl rfl ?_
      refine ml_call (a := [.ref p, .int 0, .int (0 + (sp_textLength n m f x1))]) (rest := []) rfl (okc_v rfl rfl rfl hP.1) rfl rfl (ct_nameEnd hP (by first | decide | (rw [tl_none c_23]; show (0 : Int32).toInt ≤ (m : Int); have : (0 : Int32).toInt = 0 := rfl; omega)) (by first | decide | (rw [tl_none c_23]; show (0 : Int32).toInt ≤ (m : Int); have : (0 : Int32).toInt = 0 := rfl; omega)) (by omega)) (fun v9 M9 h9 => ?_)
      obtain ⟨⟨r9, rfl⟩, h9⟩ := h9
      rw [h9]
      show ml _ _ _ (51, [(3, .int (0 + (sp_textLength n m f x1))), (2, .int 0), (0, .ref p), (1, .int x1)], [.int r9], M) _
      refine ml_st (S' := (52, [(3, .int (0 + (sp_textLength n m f x1))), (2, .int 0), (0, .ref p), (1, .int x1)], [.int (0 + (sp_textLength n m f x1)), .int r9], M)) rfl rfl rfl ?_
      refine ml_if2 (S1 := (59, [(3, .int (0 + (sp_textLength n m f x1))), (2, .int 0), (0, .ref p), (1, .int x1)], [], M)) (S2 := (55, [(3, .int (0 + (sp_textLength n m f x1))), (2, .int 0), (0, .ref p), (1, .int x1)], [], M)) rfl rfl rfl (fun c_52 => ?_) (fun c_52 => ?_)
      · have c_52 : ¬ r9 = (0 + (sp_textLength n m f x1)) := of_decide_eq_true c_52
        refine ml_st (S' := (60, [], [.int 0], M)) rfl rfl rfl ?_
        exact ml_ret rfl (rfl) (⟨⟨_, rfl, by first | exact Or.inl rfl | exact Or.inr rfl⟩, rfl⟩)
      · have c_52 : ¬ (¬ r9 = (0 + (sp_textLength n m f x1))) := of_decide_eq_false c_52
        refine ml_st (S' := (56, [(3, .int (0 + (sp_textLength n m f x1))), (2, .int 0), (0, .ref p), (1, .int x1)], [.int 1], M)) rfl rfl rfl ?_
        refine ml_st (S' := (60, [], [.int 1], M)) rfl rfl rfl ?_
        exact ml_ret rfl (rfl) (⟨⟨_, rfl, by first | exact Or.inl rfl | exact Or.inr rfl⟩, rfl⟩)
    · have c_23 : ¬ (¬ (sp_tagOf n m f x1) = 1) := of_decide_eq_false c_23
      refine ml_st (S' := (27, [(0, .ref p), (1, .int x1)], [.ref p], M)) rfl rfl rfl ?_
      refine mo_get (S' := (30, [(0, .ref p), (1, .int x1)], [.ref (q 3)], M)) rfl hP.1 rfl rfl ?_
      refine ml_st (S' := (31, [(0, .ref p), (1, .int x1)], [.int x1, .ref (q 3)], M)) rfl rfl rfl ?_
      refine mo_ald (S' := (32, [(0, .ref p), (1, .int x1)], [.int ((f 3) (Int32.toNatClampNeg x1))], M)) rfl (hP.2.1 3 (by decide) (by decide)) ((tag_in (Decidable.not_not.mp c_23) (by decide)).1) rfl ?_
      refine ml_st (S' := (36, [(0, .ref p), (1, .int x1)], [.int ((f 3) (Int32.toNatClampNeg x1))], M)) rfl rfl rfl ?_
      refine ml_st (S' := (37, [(2, .int ((f 3) (Int32.toNatClampNeg x1))), (0, .ref p), (1, .int x1)], [], M)) rfl rfl rfl ?_
      refine ml_st (S' := (38, [(2, .int ((f 3) (Int32.toNatClampNeg x1))), (0, .ref p), (1, .int x1)], [.int ((f 3) (Int32.toNatClampNeg x1))], M)) rfl rfl rfl ?_
      refine ml_st (S' := (39, [(2, .int ((f 3) (Int32.toNatClampNeg x1))), (0, .ref p), (1, .int x1)], [.ref p, .int ((f 3) (Int32.toNatClampNeg x1))], M)) rfl rfl rfl ?_
      refine ml_st (S' := (40, [(2, .int ((f 3) (Int32.toNatClampNeg x1))), (0, .ref p), (1, .int x1)], [.int x1, .ref p, .int ((f 3) (Int32.toNatClampNeg x1))], M)) rfl rfl rfl ?_
      refine ml_call (a := [.ref p, .int x1]) (rest := [.int ((f 3) (Int32.toNatClampNeg x1))]) rfl (okc_v rfl rfl rfl hP.1) rfl rfl (ct_textLength hP (by omega)) (fun v10 M11 h12 => ?_)
      obtain ⟨rfl, h12⟩ := h12
      rw [h12]
      show ml _ _ _ (43, [(2, .int ((f 3) (Int32.toNatClampNeg x1))), (0, .ref p), (1, .int x1)], [.int (sp_textLength n m f x1), .int ((f 3) (Int32.toNatClampNeg x1))], M) _
      refine ml_st (S' := (44, [(2, .int ((f 3) (Int32.toNatClampNeg x1))), (0, .ref p), (1, .int x1)], [.int (((f 3) (Int32.toNatClampNeg x1)) + (sp_textLength n m f x1))], M)) rfl rfl rfl ?_
      refine ml_st (S' := (45, [(3, .int (((f 3) (Int32.toNatClampNeg x1)) + (sp_textLength n m f x1))), (2, .int ((f 3) (Int32.toNatClampNeg x1))), (0, .ref p), (1, .int x1)], [], M)) rfl rfl rfl ?_
      refine ml_st (S' := (46, [(3, .int (((f 3) (Int32.toNatClampNeg x1)) + (sp_textLength n m f x1))), (2, .int ((f 3) (Int32.toNatClampNeg x1))), (0, .ref p), (1, .int x1)], [.ref p], M)) rfl rfl rfl ?_
      refine ml_st (S' := (47, [(3, .int (((f 3) (Int32.toNatClampNeg x1)) + (sp_textLength n m f x1))), (2, .int ((f 3) (Int32.toNatClampNeg x1))), (0, .ref p), (1, .int x1)], [.int ((f 3) (Int32.toNatClampNeg x1)), .ref p], M)) rfl rfl rfl ?_
      refine ml_st (S' := (48, [(3, .int (((f 3) (Int32.toNatClampNeg x1)) + (sp_textLength n m f x1))), (2, .int ((f 3) (Int32.toNatClampNeg x1))), (0, .ref p), (1, .int x1)], [.int (((f 3) (Int32.toNatClampNeg x1)) + (sp_textLength n m f x1)), .int ((f 3) (Int32.toNatClampNeg x1)), .ref p], M)) rfl rfl rfl ?_
      refine ml_call (a := [.ref p, .int ((f 3) (Int32.toNatClampNeg x1)), .int (((f 3) (Int32.toNatClampNeg x1)) + (sp_textLength n m f x1))]) (rest := []) rfl (okc_v rfl rfl rfl hP.1) rfl rfl (ct_nameEnd hP (by have h9 := txt_at hT hm (Decidable.not_not.mp c_23); first | exact h9.1 | (rw [tl_tag (Decidable.not_not.mp c_23)]; exact h9.2.2.2)) (by have h9 := txt_at hT hm (Decidable.not_not.mp c_23); first | exact h9.1 | (rw [tl_tag (Decidable.not_not.mp c_23)]; exact h9.2.2.2)) (by omega)) (fun v9 M9 h9 => ?_)
      obtain ⟨⟨r9, rfl⟩, h9⟩ := h9
      rw [h9]
      show ml _ _ _ (51, [(3, .int (((f 3) (Int32.toNatClampNeg x1)) + (sp_textLength n m f x1))), (2, .int ((f 3) (Int32.toNatClampNeg x1))), (0, .ref p), (1, .int x1)], [.int r9], M) _
      refine ml_st (S' := (52, [(3, .int (((f 3) (Int32.toNatClampNeg x1)) + (sp_textLength n m f x1))), (2, .int ((f 3) (Int32.toNatClampNeg x1))), (0, .ref p), (1, .int x1)], [.int (((f 3) (Int32.toNatClampNeg x1)) + (sp_textLength n m f x1)), .int r9], M)) rfl rfl rfl ?_
      refine ml_if2 (S1 := (59, [(3, .int (((f 3) (Int32.toNatClampNeg x1)) + (sp_textLength n m f x1))), (2, .int ((f 3) (Int32.toNatClampNeg x1))), (0, .ref p), (1, .int x1)], [], M)) (S2 := (55, [(3, .int (((f 3) (Int32.toNatClampNeg x1)) + (sp_textLength n m f x1))), (2, .int ((f 3) (Int32.toNatClampNeg x1))), (0, .ref p), (1, .int x1)], [], M)) rfl rfl rfl (fun c_52 => ?_) (fun c_52 => ?_)
      · have c_52 : ¬ r9 = (((f 3) (Int32.toNatClampNeg x1)) + (sp_textLength n m f x1)) := of_decide_eq_true c_52
        refine ml_st (S' := (60, [], [.int 0], M)) rfl rfl rfl ?_
        exact ml_ret rfl (rfl) (⟨⟨_, rfl, by first | exact Or.inl rfl | exact Or.inr rfl⟩, rfl⟩)
      · have c_52 : ¬ (¬ r9 = (((f 3) (Int32.toNatClampNeg x1)) + (sp_textLength n m f x1))) := of_decide_eq_false c_52
        refine ml_st (S' := (56, [(3, .int (((f 3) (Int32.toNatClampNeg x1)) + (sp_textLength n m f x1))), (2, .int ((f 3) (Int32.toNatClampNeg x1))), (0, .ref p), (1, .int x1)], [.int 1], M)) rfl rfl rfl ?_
        refine ml_st (S' := (60, [], [.int 1], M)) rfl rfl rfl ?_
        exact ml_ret rfl (rfl) (⟨⟨_, rfl, by first | exact Or.inl rfl | exact Or.inr rfl⟩, rfl⟩)
  · have c_8 : ¬ (¬ (sp_characterAt n m f x1 0) = 91) := of_decide_eq_false c_8
    refine ml_st (S' := (12, [(0, .ref p), (1, .int x1)], [.ref p], M)) rfl rfl rfl ?_
    refine ml_st (S' := (13, [(0, .ref p), (1, .int x1)], [.int x1, .ref p], M)) rfl rfl rfl ?_
    refine ml_call (a := [.ref p, .int x1]) (rest := []) rfl (okc_v rfl rfl rfl hP.1) rfl rfl (ct_isFieldDescriptor hP (by omega)) (fun v13 M14 h15 => ?_)
    obtain ⟨rfl, h15⟩ := h15
    rw [h15]
    show ml _ _ _ (16, [(0, .ref p), (1, .int x1)], [.int (sp_isFieldDescriptor n m f x1)], M) _
    exact ml_ret rfl (r_z isFD_z) (⟨⟨_, rfl, isFD_z⟩, rfl⟩)
set_option maxHeartbeats 1000000 in
theorem ct_placesOfType {g : xe_G} {M : mi_H} {x1 : Int32}  {d : Nat} (hd : 1 ≤ d) : mt (mT g) d 130 [.int x1] M (fun v M' => v = some (.int (if x1 = 74 then 2 else if x1 = 68 then 2 else 1)) ∧ M' = M) := by
  obtain ⟨d, rfl⟩ : ∃ e, d = e + 1 := ⟨d - 1, by omega⟩
  refine mt_in (b := mb_130 g) rfl rfl ?_
  show ml (mT g) d (mb_130 g).2 (0, [(0, .int x1)], [], M) _
  refine ml_st (S' := (1, [(0, .int x1)], [.int x1], M)) rfl rfl rfl ?_
  refine ml_st (S' := (3, [(0, .int x1)], [.int 74, .int x1], M)) rfl rfl rfl ?_
  refine ml_if2 (S1 := (12, [], [], M)) (S2 := (6, [(0, .int x1)], [], M)) rfl rfl rfl (fun c_3 => ?_) (fun c_3 => ?_)
  · have c_3 : x1 = 74 := of_decide_eq_true c_3
    refine ml_st (S' := (13, [], [.int 2], M)) rfl rfl rfl ?_
    refine ml_st (S' := (17, [], [.int 2], M)) rfl rfl rfl ?_
    exact ml_ret rfl (rfl) (⟨by first | rw [if_pos c_3] | rw [if_neg c_3, if_pos (Decidable.not_not.mp c_9)] | rw [if_neg c_3, if_neg c_9], rfl⟩)
  · have c_3 : ¬ (x1 = 74) := of_decide_eq_false c_3
    refine ml_st (S' := (7, [(0, .int x1)], [.int x1], M)) rfl rfl rfl ?_
    refine ml_st (S' := (9, [(0, .int x1)], [.int 68, .int x1], M)) rfl rfl rfl ?_
    refine ml_if2 (S1 := (16, [(0, .int x1)], [], M)) (S2 := (12, [], [], M)) rfl rfl rfl (fun c_9 => ?_) (fun c_9 => ?_)
    · have c_9 : ¬ x1 = 68 := of_decide_eq_true c_9
      refine ml_st (S' := (17, [], [.int 1], M)) rfl rfl rfl ?_
      exact ml_ret rfl (rfl) (⟨by first | rw [if_pos c_3] | rw [if_neg c_3, if_pos (Decidable.not_not.mp c_9)] | rw [if_neg c_3, if_neg c_9], rfl⟩)
    · have c_9 : ¬ (¬ x1 = 68) := of_decide_eq_false c_9
      refine ml_st (S' := (13, [], [.int 2], M)) rfl rfl rfl ?_
      refine ml_st (S' := (17, [], [.int 2], M)) rfl rfl rfl ?_
      exact ml_ret rfl (rfl) (⟨by first | rw [if_pos c_3] | rw [if_neg c_3, if_pos (Decidable.not_not.mp c_9)] | rw [if_neg c_3, if_neg c_9], rfl⟩)
theorem res_in {i x : Int32} {m : Nat} (h0 : 0 ≤ i.toInt) (h1 : i.toInt ≤ x.toInt) (h2 : x.toInt ≤ m) (hm : m < 1073741824) (h : ¬ x ≤ i + 1) : 0 ≤ (i + 1).toInt ∧ vp_in (i + 1) m := by
  have e : (i + 1).toInt = i.toInt + 1 := by
    rw [Int32.toInt_add]
    have : (1 : Int32).toInt = 1 := rfl
    rw [this]
    apply Int.bmod_eq_of_le <;> omega
  have h3 := Int32.lt_iff_toInt_lt.mp (Int32.not_le.mp h)
  exact ⟨by omega, vin_iff (by omega) (by omega)⟩
set_option maxHeartbeats 1000000 in
theorem ct_methodShape {g : xe_G} {M : mi_H} {p : Nat} {size : Int32} {n m : Nat} {q : Nat → Nat} {f : Nat → Nat → Int32} {cc : Int32} {x1 x2 : Int32} (hP : PL M p size n m q f cc) (h1 : 0 ≤ x1.toInt) (h12 : x1.toInt ≤ x2.toInt) (h2 : x2.toInt ≤ m) (hm : m < 1073741824) {d : Nat} (hd : 3 ≤ d) : mt (mT g) d 126 [.ref p, .int x1, .int x2] M (fun v M' => (∃ x, v = some (.int x)) ∧ M' = M) := by
  obtain ⟨d, rfl⟩ : ∃ e, d = e + 1 := ⟨d - 1, by omega⟩
  have L5 : ∀ (n9 : Nat) (i3 i4 : Int32), (2147483648 - i4.toInt).toNat ≤ n9 → (0 ≤ i3.toInt ∧ i3.toInt ≤ x2.toInt ∧ 0 ≤ i4.toInt) → ml (mT g) d (mb_126 g).2 (5, [(0, .ref p), (2, .int x2), (3, .int i3), (4, .int i4)], [], M) (fun v M' => (∃ x, v = some (.int x)) ∧ M' = M) := by
    intro n9
    induction n9 with
    | zero => intro i3 i4 hn _; exact (loop_zero hn).elim
    | succ n9 ih =>
      intro i3 i4 hn h0
      refine ml_st (S' := (7, [(0, .ref p), (2, .int x2), (3, .int i3), (4, .int i4)], [.int i4], M)) rfl rfl rfl ?_
      refine ml_st (S' := (10, [(0, .ref p), (2, .int x2), (3, .int i3), (4, .int i4)], [.int 255, .int i4], M)) rfl rfl rfl ?_
      refine ml_if2 (S1 := (56, [(0, .ref p), (2, .int x2), (3, .int i3), (4, .int i4)], [], M)) (S2 := (13, [(0, .ref p), (2, .int x2), (3, .int i3), (4, .int i4)], [], M)) rfl rfl rfl (fun c_10 => ?_) (fun c_10 => ?_)
      · have c_10 : 255 < i4 := of_decide_eq_true c_10
        refine ml_st (S' := (57, [(0, .ref p), (2, .int x2), (3, .int i3), (4, .int i4)], [.int i3], M)) rfl rfl rfl ?_
        refine ml_st (S' := (58, [(0, .ref p), (2, .int x2), (3, .int i3), (4, .int i4)], [.int 1, .int i3], M)) rfl rfl rfl ?_
        refine ml_st (S' := (59, [(0, .ref p), (2, .int x2), (3, .int i3), (4, .int i4)], [.int (i3 + 1)], M)) rfl rfl rfl ?_
        refine ml_st (S' := (61, [(5, .int (i3 + 1)), (0, .ref p), (2, .int x2), (3, .int i3), (4, .int i4)], [], M)) rfl rfl rfl ?_
        refine ml_st (S' := (63, [(5, .int (i3 + 1)), (0, .ref p), (2, .int x2), (3, .int i3), (4, .int i4)], [.int (i3 + 1)], M)) rfl rfl rfl ?_
        refine ml_st (S' := (64, [(5, .int (i3 + 1)), (0, .ref p), (2, .int x2), (3, .int i3), (4, .int i4)], [.int x2, .int (i3 + 1)], M)) rfl rfl rfl ?_
        refine ml_if2 (S1 := (75, [], [], M)) (S2 := (67, [(5, .int (i3 + 1)), (0, .ref p), (2, .int x2), (3, .int i3), (4, .int i4)], [], M)) rfl rfl rfl (fun c_64 => ?_) (fun c_64 => ?_)
        · have c_64 : x2 ≤ (i3 + 1) := of_decide_eq_true c_64
          refine ml_st (S' := (76, [], [.int (-1)], M)) rfl rfl rfl ?_
          exact ml_ret rfl (rfl) (⟨⟨_, rfl⟩, rfl⟩)
        · have c_64 : ¬ (x2 ≤ (i3 + 1)) := of_decide_eq_false c_64
          refine ml_st (S' := (69, [(5, .int (i3 + 1)), (0, .ref p), (2, .int x2), (3, .int i3), (4, .int i4)], [.int i4], M)) rfl rfl rfl ?_
          refine ml_st (S' := (72, [(5, .int (i3 + 1)), (0, .ref p), (2, .int x2), (3, .int i3), (4, .int i4)], [.int 255, .int i4], M)) rfl rfl rfl ?_
          refine ml_if2 (S1 := (77, [(5, .int (i3 + 1)), (0, .ref p), (2, .int x2), (3, .int i3), (4, .int i4)], [], M)) (S2 := (75, [], [], M)) rfl rfl rfl (fun c_72 => ?_) (fun c_72 => ?_)
          · have c_72 : i4 ≤ 255 := of_decide_eq_true c_72
            refine ml_st (S' := (78, [(5, .int (i3 + 1)), (0, .ref p), (2, .int x2), (3, .int i3), (4, .int i4)], [.ref p], M)) rfl rfl rfl ?_
            refine mo_get (S' := (81, [(5, .int (i3 + 1)), (0, .ref p), (2, .int x2), (3, .int i3), (4, .int i4)], [.ref (q 6)], M)) rfl hP.1 rfl rfl ?_
            refine ml_st (S' := (83, [(5, .int (i3 + 1)), (0, .ref p), (2, .int x2), (3, .int i3), (4, .int i4)], [.int (i3 + 1), .ref (q 6)], M)) rfl rfl rfl ?_
            refine mo_ald (S' := (84, [(5, .int (i3 + 1)), (0, .ref p), (2, .int x2), (3, .int i3), (4, .int i4)], [.int ((f 6) (Int32.toNatClampNeg (i3 + 1)))], M)) rfl hP.2.2 ((res_in h0.1 h0.2.1 h2 hm c_64).2) rfl ?_
            refine ml_st (S' := (86, [(5, .int (i3 + 1)), (0, .ref p), (2, .int x2), (3, .int i3), (4, .int i4)], [.int 86, .int ((f 6) (Int32.toNatClampNeg (i3 + 1)))], M)) rfl rfl rfl ?_
            refine ml_if2 (S1 := (104, [(0, .ref p), (2, .int x2), (4, .int i4), (5, .int (i3 + 1))], [], M)) (S2 := (89, [(5, .int (i3 + 1)), (0, .ref p), (2, .int x2), (3, .int i3), (4, .int i4)], [], M)) rfl rfl rfl (fun c_86 => ?_) (fun c_86 => ?_)
            · have c_86 : ¬ ((f 6) (Int32.toNatClampNeg (i3 + 1))) = 86 := of_decide_eq_true c_86
              refine ml_st (S' := (105, [(0, .ref p), (2, .int x2), (4, .int i4), (5, .int (i3 + 1))], [.ref p], M)) rfl rfl rfl ?_
              refine ml_st (S' := (107, [(0, .ref p), (2, .int x2), (4, .int i4), (5, .int (i3 + 1))], [.int (i3 + 1), .ref p], M)) rfl rfl rfl ?_
              refine ml_st (S' := (108, [(0, .ref p), (2, .int x2), (4, .int i4), (5, .int (i3 + 1))], [.int x2, .int (i3 + 1), .ref p], M)) rfl rfl rfl ?_
              refine ml_call (a := [.ref p, .int (i3 + 1), .int x2]) (rest := []) rfl (okc_v rfl rfl rfl hP.1) rfl rfl (ct_typeEnd hP ((res_in h0.1 h0.2.1 h2 hm c_64).1) (h2) (by omega)) (fun v9 M9 h9 => ?_)
              obtain ⟨⟨r1, rfl, e2⟩, hh3⟩ := h9
              rw [hh3]
              show ml _ _ _ (111, [(0, .ref p), (2, .int x2), (4, .int i4), (5, .int (i3 + 1))], [.int r1], M) _
              refine ml_st (S' := (112, [(0, .ref p), (2, .int x2), (4, .int i4), (5, .int (i3 + 1))], [.int x2, .int r1], M)) rfl rfl rfl ?_
              refine ml_if2 (S1 := (117, [(0, .ref p), (2, .int x2), (4, .int i4), (5, .int (i3 + 1))], [], M)) (S2 := (115, [(0, .ref p), (2, .int x2), (4, .int i4), (5, .int (i3 + 1))], [], M)) rfl rfl rfl (fun c_112 => ?_) (fun c_112 => ?_)
              · have c_112 : r1 = x2 := of_decide_eq_true c_112
                refine ml_st (S' := (120, [(0, .ref p), (2, .int x2), (4, .int i4), (5, .int (i3 + 1))], [.int 4096], M)) rfl rfl rfl ?_
                refine ml_st (S' := (123, [(0, .ref p), (2, .int x2), (4, .int i4), (5, .int (i3 + 1))], [.int 1024, .int 4096], M)) rfl rfl rfl ?_
                refine ml_st (S' := (124, [(0, .ref p), (2, .int x2), (4, .int i4), (5, .int (i3 + 1))], [.ref p, .int 1024, .int 4096], M)) rfl rfl rfl ?_
                refine mo_get (S' := (127, [(0, .ref p), (2, .int x2), (4, .int i4), (5, .int (i3 + 1))], [.ref (q 6), .int 1024, .int 4096], M)) rfl hP.1 rfl rfl ?_
                refine ml_st (S' := (129, [(0, .ref p), (2, .int x2), (4, .int i4), (5, .int (i3 + 1))], [.int (i3 + 1), .ref (q 6), .int 1024, .int 4096], M)) rfl rfl rfl ?_
                refine mo_ald (S' := (130, [(0, .ref p), (2, .int x2), (4, .int i4), (5, .int (i3 + 1))], [.int ((f 6) (Int32.toNatClampNeg (i3 + 1))), .int 1024, .int 4096], M)) rfl hP.2.2 ((res_in h0.1 h0.2.1 h2 hm c_64).2) rfl ?_
                refine ml_call (a := [.int ((f 6) (Int32.toNatClampNeg (i3 + 1)))]) (rest := [.int 1024, .int 4096]) rfl (rfl) rfl rfl (ct_placesOfType  (by omega)) (fun v4 M5 h6 => ?_)
                obtain ⟨rfl, h6⟩ := h6
                rw [h6]
                show ml _ _ _ (133, [(0, .ref p), (2, .int x2), (4, .int i4), (5, .int (i3 + 1))], [.int (if ((f 6) (Int32.toNatClampNeg (i3 + 1))) = 74 then 2 else if ((f 6) (Int32.toNatClampNeg (i3 + 1))) = 68 then 2 else 1), .int 1024, .int 4096], M) _
                refine ml_st (S' := (134, [(0, .ref p), (2, .int x2), (4, .int i4), (5, .int (i3 + 1))], [.int (1024 * (if ((f 6) (Int32.toNatClampNeg (i3 + 1))) = 74 then 2 else if ((f 6) (Int32.toNatClampNeg (i3 + 1))) = 68 then 2 else 1)), .int 4096], M)) rfl rfl rfl ?_
                refine ml_st (S' := (135, [(0, .ref p), (2, .int x2), (4, .int i4), (5, .int (i3 + 1))], [.int (4096 + (1024 * (if ((f 6) (Int32.toNatClampNeg (i3 + 1))) = 74 then 2 else if ((f 6) (Int32.toNatClampNeg (i3 + 1))) = 68 then 2 else 1)))], M)) rfl rfl rfl ?_
                refine ml_st (S' := (137, [(0, .ref p), (2, .int x2), (4, .int i4), (5, .int (i3 + 1))], [.int i4, .int (4096 + (1024 * (if ((f 6) (Int32.toNatClampNeg (i3 + 1))) = 74 then 2 else if ((f 6) (Int32.toNatClampNeg (i3 + 1))) = 68 then 2 else 1)))], M)) rfl rfl rfl ?_
                refine ml_st (S' := (138, [(0, .ref p), (2, .int x2), (4, .int i4), (5, .int (i3 + 1))], [.int ((4096 + (1024 * (if ((f 6) (Int32.toNatClampNeg (i3 + 1))) = 74 then 2 else if ((f 6) (Int32.toNatClampNeg (i3 + 1))) = 68 then 2 else 1))) + i4)], M)) rfl rfl rfl ?_
                exact ml_ret rfl (rfl) (⟨⟨_, rfl⟩, rfl⟩)
              · have c_112 : ¬ (r1 = x2) := of_decide_eq_false c_112
                refine ml_st (S' := (116, [(0, .ref p), (2, .int x2), (4, .int i4), (5, .int (i3 + 1))], [.int (-1)], M)) rfl rfl rfl ?_
                exact ml_ret rfl (rfl) (⟨⟨_, rfl⟩, rfl⟩)
            · have c_86 : ¬ (¬ ((f 6) (Int32.toNatClampNeg (i3 + 1))) = 86) := of_decide_eq_false c_86
              refine ml_st (S' := (91, [(5, .int (i3 + 1)), (0, .ref p), (2, .int x2), (3, .int i3), (4, .int i4)], [.int (i3 + 1)], M)) rfl rfl rfl ?_
              refine ml_st (S' := (92, [(5, .int (i3 + 1)), (0, .ref p), (2, .int x2), (3, .int i3), (4, .int i4)], [.int 1, .int (i3 + 1)], M)) rfl rfl rfl ?_
              refine ml_st (S' := (93, [(5, .int (i3 + 1)), (0, .ref p), (2, .int x2), (3, .int i3), (4, .int i4)], [.int ((i3 + 1) + 1)], M)) rfl rfl rfl ?_
              refine ml_st (S' := (94, [(5, .int (i3 + 1)), (0, .ref p), (2, .int x2), (3, .int i3), (4, .int i4)], [.int x2, .int ((i3 + 1) + 1)], M)) rfl rfl rfl ?_
              refine ml_if2 (S1 := (104, [(0, .ref p), (2, .int x2), (4, .int i4), (5, .int (i3 + 1))], [], M)) (S2 := (97, [(5, .int (i3 + 1)), (0, .ref p), (2, .int x2), (3, .int i3), (4, .int i4)], [], M)) rfl rfl rfl (fun c_94 => ?_) (fun c_94 => ?_)
              · have c_94 : ¬ ((i3 + 1) + 1) = x2 := of_decide_eq_true c_94
                refine ml_st (S' := (105, [(0, .ref p), (2, .int x2), (4, .int i4), (5, .int (i3 + 1))], [.ref p], M)) rfl rfl rfl ?_
                refine ml_st (S' := (107, [(0, .ref p), (2, .int x2), (4, .int i4), (5, .int (i3 + 1))], [.int (i3 + 1), .ref p], M)) rfl rfl rfl ?_
                refine ml_st (S' := (108, [(0, .ref p), (2, .int x2), (4, .int i4), (5, .int (i3 + 1))], [.int x2, .int (i3 + 1), .ref p], M)) rfl rfl rfl ?_
                refine ml_call (a := [.ref p, .int (i3 + 1), .int x2]) (rest := []) rfl (okc_v rfl rfl rfl hP.1) rfl rfl (ct_typeEnd hP ((res_in h0.1 h0.2.1 h2 hm c_64).1) (h2) (by omega)) (fun v9 M9 h9 => ?_)
                obtain ⟨⟨r7, rfl, e8⟩, hh9⟩ := h9
                rw [hh9]
                show ml _ _ _ (111, [(0, .ref p), (2, .int x2), (4, .int i4), (5, .int (i3 + 1))], [.int r7], M) _
                refine ml_st (S' := (112, [(0, .ref p), (2, .int x2), (4, .int i4), (5, .int (i3 + 1))], [.int x2, .int r7], M)) rfl rfl rfl ?_
                refine ml_if2 (S1 := (117, [(0, .ref p), (2, .int x2), (4, .int i4), (5, .int (i3 + 1))], [], M)) (S2 := (115, [(0, .ref p), (2, .int x2), (4, .int i4), (5, .int (i3 + 1))], [], M)) rfl rfl rfl (fun c_112 => ?_) (fun c_112 => ?_)
                · have c_112 : r7 = x2 := of_decide_eq_true c_112
                  refine ml_st (S' := (120, [(0, .ref p), (2, .int x2), (4, .int i4), (5, .int (i3 + 1))], [.int 4096], M)) rfl rfl rfl ?_
                  refine ml_st (S' := (123, [(0, .ref p), (2, .int x2), (4, .int i4), (5, .int (i3 + 1))], [.int 1024, .int 4096], M)) rfl rfl rfl ?_
                  refine ml_st (S' := (124, [(0, .ref p), (2, .int x2), (4, .int i4), (5, .int (i3 + 1))], [.ref p, .int 1024, .int 4096], M)) rfl rfl rfl ?_
                  refine mo_get (S' := (127, [(0, .ref p), (2, .int x2), (4, .int i4), (5, .int (i3 + 1))], [.ref (q 6), .int 1024, .int 4096], M)) rfl hP.1 rfl rfl ?_
                  refine ml_st (S' := (129, [(0, .ref p), (2, .int x2), (4, .int i4), (5, .int (i3 + 1))], [.int (i3 + 1), .ref (q 6), .int 1024, .int 4096], M)) rfl rfl rfl ?_
                  refine mo_ald (S' := (130, [(0, .ref p), (2, .int x2), (4, .int i4), (5, .int (i3 + 1))], [.int ((f 6) (Int32.toNatClampNeg (i3 + 1))), .int 1024, .int 4096], M)) rfl hP.2.2 ((res_in h0.1 h0.2.1 h2 hm c_64).2) rfl ?_
                  refine ml_call (a := [.int ((f 6) (Int32.toNatClampNeg (i3 + 1)))]) (rest := [.int 1024, .int 4096]) rfl (rfl) rfl rfl (ct_placesOfType  (by omega)) (fun v10 M11 h12 => ?_)
                  obtain ⟨rfl, h12⟩ := h12
                  rw [h12]
                  show ml _ _ _ (133, [(0, .ref p), (2, .int x2), (4, .int i4), (5, .int (i3 + 1))], [.int (if ((f 6) (Int32.toNatClampNeg (i3 + 1))) = 74 then 2 else if ((f 6) (Int32.toNatClampNeg (i3 + 1))) = 68 then 2 else 1), .int 1024, .int 4096], M) _
                  refine ml_st (S' := (134, [(0, .ref p), (2, .int x2), (4, .int i4), (5, .int (i3 + 1))], [.int (1024 * (if ((f 6) (Int32.toNatClampNeg (i3 + 1))) = 74 then 2 else if ((f 6) (Int32.toNatClampNeg (i3 + 1))) = 68 then 2 else 1)), .int 4096], M)) rfl rfl rfl ?_
                  refine ml_st (S' := (135, [(0, .ref p), (2, .int x2), (4, .int i4), (5, .int (i3 + 1))], [.int (4096 + (1024 * (if ((f 6) (Int32.toNatClampNeg (i3 + 1))) = 74 then 2 else if ((f 6) (Int32.toNatClampNeg (i3 + 1))) = 68 then 2 else 1)))], M)) rfl rfl rfl ?_
                  refine ml_st (S' := (137, [(0, .ref p), (2, .int x2), (4, .int i4), (5, .int (i3 + 1))], [.int i4, .int (4096 + (1024 * (if ((f 6) (Int32.toNatClampNeg (i3 + 1))) = 74 then 2 else if ((f 6) (Int32.toNatClampNeg (i3 + 1))) = 68 then 2 else 1)))], M)) rfl rfl rfl ?_
                  refine ml_st (S' := (138, [(0, .ref p), (2, .int x2), (4, .int i4), (5, .int (i3 + 1))], [.int ((4096 + (1024 * (if ((f 6) (Int32.toNatClampNeg (i3 + 1))) = 74 then 2 else if ((f 6) (Int32.toNatClampNeg (i3 + 1))) = 68 then 2 else 1))) + i4)], M)) rfl rfl rfl ?_
                  exact ml_ret rfl (rfl) (⟨⟨_, rfl⟩, rfl⟩)
                · have c_112 : ¬ (r7 = x2) := of_decide_eq_false c_112
                  refine ml_st (S' := (116, [(0, .ref p), (2, .int x2), (4, .int i4), (5, .int (i3 + 1))], [.int (-1)], M)) rfl rfl rfl ?_
                  exact ml_ret rfl (rfl) (⟨⟨_, rfl⟩, rfl⟩)
              · have c_94 : ¬ (¬ ((i3 + 1) + 1) = x2) := of_decide_eq_false c_94
                refine ml_st (S' := (100, [(5, .int (i3 + 1)), (0, .ref p), (2, .int x2), (3, .int i3), (4, .int i4)], [.int 4096], M)) rfl rfl rfl ?_
                refine ml_st (S' := (102, [(5, .int (i3 + 1)), (0, .ref p), (2, .int x2), (3, .int i3), (4, .int i4)], [.int i4, .int 4096], M)) rfl rfl rfl ?_
                refine ml_st (S' := (103, [(5, .int (i3 + 1)), (0, .ref p), (2, .int x2), (3, .int i3), (4, .int i4)], [.int (4096 + i4)], M)) rfl rfl rfl ?_
                exact ml_ret rfl (rfl) (⟨⟨_, rfl⟩, rfl⟩)
          · have c_72 : ¬ (i4 ≤ 255) := of_decide_eq_false c_72
            refine ml_st (S' := (76, [], [.int (-1)], M)) rfl rfl rfl ?_
            exact ml_ret rfl (rfl) (⟨⟨_, rfl⟩, rfl⟩)
      · have c_10 : ¬ (255 < i4) := of_decide_eq_false c_10
        refine ml_st (S' := (14, [(0, .ref p), (2, .int x2), (3, .int i3), (4, .int i4)], [.int i3], M)) rfl rfl rfl ?_
        refine ml_st (S' := (15, [(0, .ref p), (2, .int x2), (3, .int i3), (4, .int i4)], [.int x2, .int i3], M)) rfl rfl rfl ?_
        refine ml_if2 (S1 := (56, [(0, .ref p), (2, .int x2), (3, .int i3), (4, .int i4)], [], M)) (S2 := (18, [(0, .ref p), (2, .int x2), (3, .int i3), (4, .int i4)], [], M)) rfl rfl rfl (fun c_15 => ?_) (fun c_15 => ?_)
        · have c_15 : x2 ≤ i3 := of_decide_eq_true c_15
          refine ml_st (S' := (57, [(0, .ref p), (2, .int x2), (3, .int i3), (4, .int i4)], [.int i3], M)) rfl rfl rfl ?_
          refine ml_st (S' := (58, [(0, .ref p), (2, .int x2), (3, .int i3), (4, .int i4)], [.int 1, .int i3], M)) rfl rfl rfl ?_
          refine ml_st (S' := (59, [(0, .ref p), (2, .int x2), (3, .int i3), (4, .int i4)], [.int (i3 + 1)], M)) rfl rfl rfl ?_
          refine ml_st (S' := (61, [(5, .int (i3 + 1)), (0, .ref p), (2, .int x2), (3, .int i3), (4, .int i4)], [], M)) rfl rfl rfl ?_
          refine ml_st (S' := (63, [(5, .int (i3 + 1)), (0, .ref p), (2, .int x2), (3, .int i3), (4, .int i4)], [.int (i3 + 1)], M)) rfl rfl rfl ?_
          refine ml_st (S' := (64, [(5, .int (i3 + 1)), (0, .ref p), (2, .int x2), (3, .int i3), (4, .int i4)], [.int x2, .int (i3 + 1)], M)) rfl rfl rfl ?_
          refine ml_if2 (S1 := (75, [], [], M)) (S2 := (67, [(5, .int (i3 + 1)), (0, .ref p), (2, .int x2), (3, .int i3), (4, .int i4)], [], M)) rfl rfl rfl (fun c_64 => ?_) (fun c_64 => ?_)
          · have c_64 : x2 ≤ (i3 + 1) := of_decide_eq_true c_64
            refine ml_st (S' := (76, [], [.int (-1)], M)) rfl rfl rfl ?_
            exact ml_ret rfl (rfl) (⟨⟨_, rfl⟩, rfl⟩)
          · have c_64 : ¬ (x2 ≤ (i3 + 1)) := of_decide_eq_false c_64
            refine ml_st (S' := (69, [(5, .int (i3 + 1)), (0, .ref p), (2, .int x2), (3, .int i3), (4, .int i4)], [.int i4], M)) rfl rfl rfl ?_
            refine ml_st (S' := (72, [(5, .int (i3 + 1)), (0, .ref p), (2, .int x2), (3, .int i3), (4, .int i4)], [.int 255, .int i4], M)) rfl rfl rfl ?_
            refine ml_if2 (S1 := (77, [(5, .int (i3 + 1)), (0, .ref p), (2, .int x2), (3, .int i3), (4, .int i4)], [], M)) (S2 := (75, [], [], M)) rfl rfl rfl (fun c_72 => ?_) (fun c_72 => ?_)
            · have c_72 : i4 ≤ 255 := of_decide_eq_true c_72
              refine ml_st (S' := (78, [(5, .int (i3 + 1)), (0, .ref p), (2, .int x2), (3, .int i3), (4, .int i4)], [.ref p], M)) rfl rfl rfl ?_
              refine mo_get (S' := (81, [(5, .int (i3 + 1)), (0, .ref p), (2, .int x2), (3, .int i3), (4, .int i4)], [.ref (q 6)], M)) rfl hP.1 rfl rfl ?_
              refine ml_st (S' := (83, [(5, .int (i3 + 1)), (0, .ref p), (2, .int x2), (3, .int i3), (4, .int i4)], [.int (i3 + 1), .ref (q 6)], M)) rfl rfl rfl ?_
              refine mo_ald (S' := (84, [(5, .int (i3 + 1)), (0, .ref p), (2, .int x2), (3, .int i3), (4, .int i4)], [.int ((f 6) (Int32.toNatClampNeg (i3 + 1)))], M)) rfl hP.2.2 ((res_in h0.1 h0.2.1 h2 hm c_64).2) rfl ?_
              refine ml_st (S' := (86, [(5, .int (i3 + 1)), (0, .ref p), (2, .int x2), (3, .int i3), (4, .int i4)], [.int 86, .int ((f 6) (Int32.toNatClampNeg (i3 + 1)))], M)) rfl rfl rfl ?_
              refine ml_if2 (S1 := (104, [(0, .ref p), (2, .int x2), (4, .int i4), (5, .int (i3 + 1))], [], M)) (S2 := (89, [(5, .int (i3 + 1)), (0, .ref p), (2, .int x2), (3, .int i3), (4, .int i4)], [], M)) rfl rfl rfl (fun c_86 => ?_) (fun c_86 => ?_)
              · have c_86 : ¬ ((f 6) (Int32.toNatClampNeg (i3 + 1))) = 86 := of_decide_eq_true c_86
                refine ml_st (S' := (105, [(0, .ref p), (2, .int x2), (4, .int i4), (5, .int (i3 + 1))], [.ref p], M)) rfl rfl rfl ?_
                refine ml_st (S' := (107, [(0, .ref p), (2, .int x2), (4, .int i4), (5, .int (i3 + 1))], [.int (i3 + 1), .ref p], M)) rfl rfl rfl ?_
                refine ml_st (S' := (108, [(0, .ref p), (2, .int x2), (4, .int i4), (5, .int (i3 + 1))], [.int x2, .int (i3 + 1), .ref p], M)) rfl rfl rfl ?_
                refine ml_call (a := [.ref p, .int (i3 + 1), .int x2]) (rest := []) rfl (okc_v rfl rfl rfl hP.1) rfl rfl (ct_typeEnd hP ((res_in h0.1 h0.2.1 h2 hm c_64).1) (h2) (by omega)) (fun v9 M9 h9 => ?_)
                obtain ⟨⟨r13, rfl, e14⟩, hh15⟩ := h9
                rw [hh15]
                show ml _ _ _ (111, [(0, .ref p), (2, .int x2), (4, .int i4), (5, .int (i3 + 1))], [.int r13], M) _
                refine ml_st (S' := (112, [(0, .ref p), (2, .int x2), (4, .int i4), (5, .int (i3 + 1))], [.int x2, .int r13], M)) rfl rfl rfl ?_
                refine ml_if2 (S1 := (117, [(0, .ref p), (2, .int x2), (4, .int i4), (5, .int (i3 + 1))], [], M)) (S2 := (115, [(0, .ref p), (2, .int x2), (4, .int i4), (5, .int (i3 + 1))], [], M)) rfl rfl rfl (fun c_112 => ?_) (fun c_112 => ?_)
                · have c_112 : r13 = x2 := of_decide_eq_true c_112
                  refine ml_st (S' := (120, [(0, .ref p), (2, .int x2), (4, .int i4), (5, .int (i3 + 1))], [.int 4096], M)) rfl rfl rfl ?_
                  refine ml_st (S' := (123, [(0, .ref p), (2, .int x2), (4, .int i4), (5, .int (i3 + 1))], [.int 1024, .int 4096], M)) rfl rfl rfl ?_
                  refine ml_st (S' := (124, [(0, .ref p), (2, .int x2), (4, .int i4), (5, .int (i3 + 1))], [.ref p, .int 1024, .int 4096], M)) rfl rfl rfl ?_
                  refine mo_get (S' := (127, [(0, .ref p), (2, .int x2), (4, .int i4), (5, .int (i3 + 1))], [.ref (q 6), .int 1024, .int 4096], M)) rfl hP.1 rfl rfl ?_
                  refine ml_st (S' := (129, [(0, .ref p), (2, .int x2), (4, .int i4), (5, .int (i3 + 1))], [.int (i3 + 1), .ref (q 6), .int 1024, .int 4096], M)) rfl rfl rfl ?_
                  refine mo_ald (S' := (130, [(0, .ref p), (2, .int x2), (4, .int i4), (5, .int (i3 + 1))], [.int ((f 6) (Int32.toNatClampNeg (i3 + 1))), .int 1024, .int 4096], M)) rfl hP.2.2 ((res_in h0.1 h0.2.1 h2 hm c_64).2) rfl ?_
                  refine ml_call (a := [.int ((f 6) (Int32.toNatClampNeg (i3 + 1)))]) (rest := [.int 1024, .int 4096]) rfl (rfl) rfl rfl (ct_placesOfType  (by omega)) (fun v16 M17 h18 => ?_)
                  obtain ⟨rfl, h18⟩ := h18
                  rw [h18]
                  show ml _ _ _ (133, [(0, .ref p), (2, .int x2), (4, .int i4), (5, .int (i3 + 1))], [.int (if ((f 6) (Int32.toNatClampNeg (i3 + 1))) = 74 then 2 else if ((f 6) (Int32.toNatClampNeg (i3 + 1))) = 68 then 2 else 1), .int 1024, .int 4096], M) _
                  refine ml_st (S' := (134, [(0, .ref p), (2, .int x2), (4, .int i4), (5, .int (i3 + 1))], [.int (1024 * (if ((f 6) (Int32.toNatClampNeg (i3 + 1))) = 74 then 2 else if ((f 6) (Int32.toNatClampNeg (i3 + 1))) = 68 then 2 else 1)), .int 4096], M)) rfl rfl rfl ?_
                  refine ml_st (S' := (135, [(0, .ref p), (2, .int x2), (4, .int i4), (5, .int (i3 + 1))], [.int (4096 + (1024 * (if ((f 6) (Int32.toNatClampNeg (i3 + 1))) = 74 then 2 else if ((f 6) (Int32.toNatClampNeg (i3 + 1))) = 68 then 2 else 1)))], M)) rfl rfl rfl ?_
                  refine ml_st (S' := (137, [(0, .ref p), (2, .int x2), (4, .int i4), (5, .int (i3 + 1))], [.int i4, .int (4096 + (1024 * (if ((f 6) (Int32.toNatClampNeg (i3 + 1))) = 74 then 2 else if ((f 6) (Int32.toNatClampNeg (i3 + 1))) = 68 then 2 else 1)))], M)) rfl rfl rfl ?_
                  refine ml_st (S' := (138, [(0, .ref p), (2, .int x2), (4, .int i4), (5, .int (i3 + 1))], [.int ((4096 + (1024 * (if ((f 6) (Int32.toNatClampNeg (i3 + 1))) = 74 then 2 else if ((f 6) (Int32.toNatClampNeg (i3 + 1))) = 68 then 2 else 1))) + i4)], M)) rfl rfl rfl ?_
                  exact ml_ret rfl (rfl) (⟨⟨_, rfl⟩, rfl⟩)
                · have c_112 : ¬ (r13 = x2) := of_decide_eq_false c_112
                  refine ml_st (S' := (116, [(0, .ref p), (2, .int x2), (4, .int i4), (5, .int (i3 + 1))], [.int (-1)], M)) rfl rfl rfl ?_
                  exact ml_ret rfl (rfl) (⟨⟨_, rfl⟩, rfl⟩)
              · have c_86 : ¬ (¬ ((f 6) (Int32.toNatClampNeg (i3 + 1))) = 86) := of_decide_eq_false c_86
                refine ml_st (S' := (91, [(5, .int (i3 + 1)), (0, .ref p), (2, .int x2), (3, .int i3), (4, .int i4)], [.int (i3 + 1)], M)) rfl rfl rfl ?_
                refine ml_st (S' := (92, [(5, .int (i3 + 1)), (0, .ref p), (2, .int x2), (3, .int i3), (4, .int i4)], [.int 1, .int (i3 + 1)], M)) rfl rfl rfl ?_
                refine ml_st (S' := (93, [(5, .int (i3 + 1)), (0, .ref p), (2, .int x2), (3, .int i3), (4, .int i4)], [.int ((i3 + 1) + 1)], M)) rfl rfl rfl ?_
                refine ml_st (S' := (94, [(5, .int (i3 + 1)), (0, .ref p), (2, .int x2), (3, .int i3), (4, .int i4)], [.int x2, .int ((i3 + 1) + 1)], M)) rfl rfl rfl ?_
                refine ml_if2 (S1 := (104, [(0, .ref p), (2, .int x2), (4, .int i4), (5, .int (i3 + 1))], [], M)) (S2 := (97, [(5, .int (i3 + 1)), (0, .ref p), (2, .int x2), (3, .int i3), (4, .int i4)], [], M)) rfl rfl rfl (fun c_94 => ?_) (fun c_94 => ?_)
                · have c_94 : ¬ ((i3 + 1) + 1) = x2 := of_decide_eq_true c_94
                  refine ml_st (S' := (105, [(0, .ref p), (2, .int x2), (4, .int i4), (5, .int (i3 + 1))], [.ref p], M)) rfl rfl rfl ?_
                  refine ml_st (S' := (107, [(0, .ref p), (2, .int x2), (4, .int i4), (5, .int (i3 + 1))], [.int (i3 + 1), .ref p], M)) rfl rfl rfl ?_
                  refine ml_st (S' := (108, [(0, .ref p), (2, .int x2), (4, .int i4), (5, .int (i3 + 1))], [.int x2, .int (i3 + 1), .ref p], M)) rfl rfl rfl ?_
                  refine ml_call (a := [.ref p, .int (i3 + 1), .int x2]) (rest := []) rfl (okc_v rfl rfl rfl hP.1) rfl rfl (ct_typeEnd hP ((res_in h0.1 h0.2.1 h2 hm c_64).1) (h2) (by omega)) (fun v9 M9 h9 => ?_)
                  obtain ⟨⟨r19, rfl, e20⟩, hh21⟩ := h9
                  rw [hh21]
                  show ml _ _ _ (111, [(0, .ref p), (2, .int x2), (4, .int i4), (5, .int (i3 + 1))], [.int r19], M) _
                  refine ml_st (S' := (112, [(0, .ref p), (2, .int x2), (4, .int i4), (5, .int (i3 + 1))], [.int x2, .int r19], M)) rfl rfl rfl ?_
                  refine ml_if2 (S1 := (117, [(0, .ref p), (2, .int x2), (4, .int i4), (5, .int (i3 + 1))], [], M)) (S2 := (115, [(0, .ref p), (2, .int x2), (4, .int i4), (5, .int (i3 + 1))], [], M)) rfl rfl rfl (fun c_112 => ?_) (fun c_112 => ?_)
                  · have c_112 : r19 = x2 := of_decide_eq_true c_112
                    refine ml_st (S' := (120, [(0, .ref p), (2, .int x2), (4, .int i4), (5, .int (i3 + 1))], [.int 4096], M)) rfl rfl rfl ?_
                    refine ml_st (S' := (123, [(0, .ref p), (2, .int x2), (4, .int i4), (5, .int (i3 + 1))], [.int 1024, .int 4096], M)) rfl rfl rfl ?_
                    refine ml_st (S' := (124, [(0, .ref p), (2, .int x2), (4, .int i4), (5, .int (i3 + 1))], [.ref p, .int 1024, .int 4096], M)) rfl rfl rfl ?_
                    refine mo_get (S' := (127, [(0, .ref p), (2, .int x2), (4, .int i4), (5, .int (i3 + 1))], [.ref (q 6), .int 1024, .int 4096], M)) rfl hP.1 rfl rfl ?_
                    refine ml_st (S' := (129, [(0, .ref p), (2, .int x2), (4, .int i4), (5, .int (i3 + 1))], [.int (i3 + 1), .ref (q 6), .int 1024, .int 4096], M)) rfl rfl rfl ?_
                    refine mo_ald (S' := (130, [(0, .ref p), (2, .int x2), (4, .int i4), (5, .int (i3 + 1))], [.int ((f 6) (Int32.toNatClampNeg (i3 + 1))), .int 1024, .int 4096], M)) rfl hP.2.2 ((res_in h0.1 h0.2.1 h2 hm c_64).2) rfl ?_
                    refine ml_call (a := [.int ((f 6) (Int32.toNatClampNeg (i3 + 1)))]) (rest := [.int 1024, .int 4096]) rfl (rfl) rfl rfl (ct_placesOfType  (by omega)) (fun v22 M23 h24 => ?_)
                    obtain ⟨rfl, h24⟩ := h24
                    rw [h24]
                    show ml _ _ _ (133, [(0, .ref p), (2, .int x2), (4, .int i4), (5, .int (i3 + 1))], [.int (if ((f 6) (Int32.toNatClampNeg (i3 + 1))) = 74 then 2 else if ((f 6) (Int32.toNatClampNeg (i3 + 1))) = 68 then 2 else 1), .int 1024, .int 4096], M) _
                    refine ml_st (S' := (134, [(0, .ref p), (2, .int x2), (4, .int i4), (5, .int (i3 + 1))], [.int (1024 * (if ((f 6) (Int32.toNatClampNeg (i3 + 1))) = 74 then 2 else if ((f 6) (Int32.toNatClampNeg (i3 + 1))) = 68 then 2 else 1)), .int 4096], M)) rfl rfl rfl ?_
                    refine ml_st (S' := (135, [(0, .ref p), (2, .int x2), (4, .int i4), (5, .int (i3 + 1))], [.int (4096 + (1024 * (if ((f 6) (Int32.toNatClampNeg (i3 + 1))) = 74 then 2 else if ((f 6) (Int32.toNatClampNeg (i3 + 1))) = 68 then 2 else 1)))], M)) rfl rfl rfl ?_
                    refine ml_st (S' := (137, [(0, .ref p), (2, .int x2), (4, .int i4), (5, .int (i3 + 1))], [.int i4, .int (4096 + (1024 * (if ((f 6) (Int32.toNatClampNeg (i3 + 1))) = 74 then 2 else if ((f 6) (Int32.toNatClampNeg (i3 + 1))) = 68 then 2 else 1)))], M)) rfl rfl rfl ?_
                    refine ml_st (S' := (138, [(0, .ref p), (2, .int x2), (4, .int i4), (5, .int (i3 + 1))], [.int ((4096 + (1024 * (if ((f 6) (Int32.toNatClampNeg (i3 + 1))) = 74 then 2 else if ((f 6) (Int32.toNatClampNeg (i3 + 1))) = 68 then 2 else 1))) + i4)], M)) rfl rfl rfl ?_
                    exact ml_ret rfl (rfl) (⟨⟨_, rfl⟩, rfl⟩)
                  · have c_112 : ¬ (r19 = x2) := of_decide_eq_false c_112
                    refine ml_st (S' := (116, [(0, .ref p), (2, .int x2), (4, .int i4), (5, .int (i3 + 1))], [.int (-1)], M)) rfl rfl rfl ?_
                    exact ml_ret rfl (rfl) (⟨⟨_, rfl⟩, rfl⟩)
                · have c_94 : ¬ (¬ ((i3 + 1) + 1) = x2) := of_decide_eq_false c_94
                  refine ml_st (S' := (100, [(5, .int (i3 + 1)), (0, .ref p), (2, .int x2), (3, .int i3), (4, .int i4)], [.int 4096], M)) rfl rfl rfl ?_
                  refine ml_st (S' := (102, [(5, .int (i3 + 1)), (0, .ref p), (2, .int x2), (3, .int i3), (4, .int i4)], [.int i4, .int 4096], M)) rfl rfl rfl ?_
                  refine ml_st (S' := (103, [(5, .int (i3 + 1)), (0, .ref p), (2, .int x2), (3, .int i3), (4, .int i4)], [.int (4096 + i4)], M)) rfl rfl rfl ?_
                  exact ml_ret rfl (rfl) (⟨⟨_, rfl⟩, rfl⟩)
            · have c_72 : ¬ (i4 ≤ 255) := of_decide_eq_false c_72
              refine ml_st (S' := (76, [], [.int (-1)], M)) rfl rfl rfl ?_
              exact ml_ret rfl (rfl) (⟨⟨_, rfl⟩, rfl⟩)
        · have c_15 : ¬ (x2 ≤ i3) := of_decide_eq_false c_15
          refine ml_st (S' := (19, [(0, .ref p), (2, .int x2), (3, .int i3), (4, .int i4)], [.ref p], M)) rfl rfl rfl ?_
          refine mo_get (S' := (22, [(0, .ref p), (2, .int x2), (3, .int i3), (4, .int i4)], [.ref (q 6)], M)) rfl hP.1 rfl rfl ?_
          refine ml_st (S' := (23, [(0, .ref p), (2, .int x2), (3, .int i3), (4, .int i4)], [.int i3, .ref (q 6)], M)) rfl rfl rfl ?_
          refine mo_ald (S' := (24, [(0, .ref p), (2, .int x2), (3, .int i3), (4, .int i4)], [.int ((f 6) (Int32.toNatClampNeg i3))], M)) rfl hP.2.2 (vin_end h0.1 c_15 h2) rfl ?_
          refine ml_st (S' := (26, [(0, .ref p), (2, .int x2), (3, .int i3), (4, .int i4)], [.int 41, .int ((f 6) (Int32.toNatClampNeg i3))], M)) rfl rfl rfl ?_
          refine ml_if2 (S1 := (56, [(0, .ref p), (2, .int x2), (3, .int i3), (4, .int i4)], [], M)) (S2 := (29, [(0, .ref p), (2, .int x2), (3, .int i3), (4, .int i4)], [], M)) rfl rfl rfl (fun c_26 => ?_) (fun c_26 => ?_)
          · have c_26 : ((f 6) (Int32.toNatClampNeg i3)) = 41 := of_decide_eq_true c_26
            refine ml_st (S' := (57, [(0, .ref p), (2, .int x2), (3, .int i3), (4, .int i4)], [.int i3], M)) rfl rfl rfl ?_
            refine ml_st (S' := (58, [(0, .ref p), (2, .int x2), (3, .int i3), (4, .int i4)], [.int 1, .int i3], M)) rfl rfl rfl ?_
            refine ml_st (S' := (59, [(0, .ref p), (2, .int x2), (3, .int i3), (4, .int i4)], [.int (i3 + 1)], M)) rfl rfl rfl ?_
            refine ml_st (S' := (61, [(5, .int (i3 + 1)), (0, .ref p), (2, .int x2), (3, .int i3), (4, .int i4)], [], M)) rfl rfl rfl ?_
            refine ml_st (S' := (63, [(5, .int (i3 + 1)), (0, .ref p), (2, .int x2), (3, .int i3), (4, .int i4)], [.int (i3 + 1)], M)) rfl rfl rfl ?_
            refine ml_st (S' := (64, [(5, .int (i3 + 1)), (0, .ref p), (2, .int x2), (3, .int i3), (4, .int i4)], [.int x2, .int (i3 + 1)], M)) rfl rfl rfl ?_
            refine ml_if2 (S1 := (75, [], [], M)) (S2 := (67, [(5, .int (i3 + 1)), (0, .ref p), (2, .int x2), (3, .int i3), (4, .int i4)], [], M)) rfl rfl rfl (fun c_64 => ?_) (fun c_64 => ?_)
            · have c_64 : x2 ≤ (i3 + 1) := of_decide_eq_true c_64
              refine ml_st (S' := (76, [], [.int (-1)], M)) rfl rfl rfl ?_
              exact ml_ret rfl (rfl) (⟨⟨_, rfl⟩, rfl⟩)
            · have c_64 : ¬ (x2 ≤ (i3 + 1)) := of_decide_eq_false c_64
              refine ml_st (S' := (69, [(5, .int (i3 + 1)), (0, .ref p), (2, .int x2), (3, .int i3), (4, .int i4)], [.int i4], M)) rfl rfl rfl ?_
              refine ml_st (S' := (72, [(5, .int (i3 + 1)), (0, .ref p), (2, .int x2), (3, .int i3), (4, .int i4)], [.int 255, .int i4], M)) rfl rfl rfl ?_
              refine ml_if2 (S1 := (77, [(5, .int (i3 + 1)), (0, .ref p), (2, .int x2), (3, .int i3), (4, .int i4)], [], M)) (S2 := (75, [], [], M)) rfl rfl rfl (fun c_72 => ?_) (fun c_72 => ?_)
              · have c_72 : i4 ≤ 255 := of_decide_eq_true c_72
                refine ml_st (S' := (78, [(5, .int (i3 + 1)), (0, .ref p), (2, .int x2), (3, .int i3), (4, .int i4)], [.ref p], M)) rfl rfl rfl ?_
                refine mo_get (S' := (81, [(5, .int (i3 + 1)), (0, .ref p), (2, .int x2), (3, .int i3), (4, .int i4)], [.ref (q 6)], M)) rfl hP.1 rfl rfl ?_
                refine ml_st (S' := (83, [(5, .int (i3 + 1)), (0, .ref p), (2, .int x2), (3, .int i3), (4, .int i4)], [.int (i3 + 1), .ref (q 6)], M)) rfl rfl rfl ?_
                refine mo_ald (S' := (84, [(5, .int (i3 + 1)), (0, .ref p), (2, .int x2), (3, .int i3), (4, .int i4)], [.int ((f 6) (Int32.toNatClampNeg (i3 + 1)))], M)) rfl hP.2.2 ((res_in h0.1 h0.2.1 h2 hm c_64).2) rfl ?_
                refine ml_st (S' := (86, [(5, .int (i3 + 1)), (0, .ref p), (2, .int x2), (3, .int i3), (4, .int i4)], [.int 86, .int ((f 6) (Int32.toNatClampNeg (i3 + 1)))], M)) rfl rfl rfl ?_
                refine ml_if2 (S1 := (104, [(0, .ref p), (2, .int x2), (4, .int i4), (5, .int (i3 + 1))], [], M)) (S2 := (89, [(5, .int (i3 + 1)), (0, .ref p), (2, .int x2), (3, .int i3), (4, .int i4)], [], M)) rfl rfl rfl (fun c_86 => ?_) (fun c_86 => ?_)
                · have c_86 : ¬ ((f 6) (Int32.toNatClampNeg (i3 + 1))) = 86 := of_decide_eq_true c_86
                  refine ml_st (S' := (105, [(0, .ref p), (2, .int x2), (4, .int i4), (5, .int (i3 + 1))], [.ref p], M)) rfl rfl rfl ?_
                  refine ml_st (S' := (107, [(0, .ref p), (2, .int x2), (4, .int i4), (5, .int (i3 + 1))], [.int (i3 + 1), .ref p], M)) rfl rfl rfl ?_
                  refine ml_st (S' := (108, [(0, .ref p), (2, .int x2), (4, .int i4), (5, .int (i3 + 1))], [.int x2, .int (i3 + 1), .ref p], M)) rfl rfl rfl ?_
                  refine ml_call (a := [.ref p, .int (i3 + 1), .int x2]) (rest := []) rfl (okc_v rfl rfl rfl hP.1) rfl rfl (ct_typeEnd hP ((res_in h0.1 h0.2.1 h2 hm c_64).1) (h2) (by omega)) (fun v9 M9 h9 => ?_)
                  obtain ⟨⟨r25, rfl, e26⟩, hh27⟩ := h9
                  rw [hh27]
                  show ml _ _ _ (111, [(0, .ref p), (2, .int x2), (4, .int i4), (5, .int (i3 + 1))], [.int r25], M) _
                  refine ml_st (S' := (112, [(0, .ref p), (2, .int x2), (4, .int i4), (5, .int (i3 + 1))], [.int x2, .int r25], M)) rfl rfl rfl ?_
                  refine ml_if2 (S1 := (117, [(0, .ref p), (2, .int x2), (4, .int i4), (5, .int (i3 + 1))], [], M)) (S2 := (115, [(0, .ref p), (2, .int x2), (4, .int i4), (5, .int (i3 + 1))], [], M)) rfl rfl rfl (fun c_112 => ?_) (fun c_112 => ?_)
                  · have c_112 : r25 = x2 := of_decide_eq_true c_112
                    refine ml_st (S' := (120, [(0, .ref p), (2, .int x2), (4, .int i4), (5, .int (i3 + 1))], [.int 4096], M)) rfl rfl rfl ?_
                    refine ml_st (S' := (123, [(0, .ref p), (2, .int x2), (4, .int i4), (5, .int (i3 + 1))], [.int 1024, .int 4096], M)) rfl rfl rfl ?_
                    refine ml_st (S' := (124, [(0, .ref p), (2, .int x2), (4, .int i4), (5, .int (i3 + 1))], [.ref p, .int 1024, .int 4096], M)) rfl rfl rfl ?_
                    refine mo_get (S' := (127, [(0, .ref p), (2, .int x2), (4, .int i4), (5, .int (i3 + 1))], [.ref (q 6), .int 1024, .int 4096], M)) rfl hP.1 rfl rfl ?_
                    refine ml_st (S' := (129, [(0, .ref p), (2, .int x2), (4, .int i4), (5, .int (i3 + 1))], [.int (i3 + 1), .ref (q 6), .int 1024, .int 4096], M)) rfl rfl rfl ?_
                    refine mo_ald (S' := (130, [(0, .ref p), (2, .int x2), (4, .int i4), (5, .int (i3 + 1))], [.int ((f 6) (Int32.toNatClampNeg (i3 + 1))), .int 1024, .int 4096], M)) rfl hP.2.2 ((res_in h0.1 h0.2.1 h2 hm c_64).2) rfl ?_
                    refine ml_call (a := [.int ((f 6) (Int32.toNatClampNeg (i3 + 1)))]) (rest := [.int 1024, .int 4096]) rfl (rfl) rfl rfl (ct_placesOfType  (by omega)) (fun v28 M29 h30 => ?_)
                    obtain ⟨rfl, h30⟩ := h30
                    rw [h30]
                    show ml _ _ _ (133, [(0, .ref p), (2, .int x2), (4, .int i4), (5, .int (i3 + 1))], [.int (if ((f 6) (Int32.toNatClampNeg (i3 + 1))) = 74 then 2 else if ((f 6) (Int32.toNatClampNeg (i3 + 1))) = 68 then 2 else 1), .int 1024, .int 4096], M) _
                    refine ml_st (S' := (134, [(0, .ref p), (2, .int x2), (4, .int i4), (5, .int (i3 + 1))], [.int (1024 * (if ((f 6) (Int32.toNatClampNeg (i3 + 1))) = 74 then 2 else if ((f 6) (Int32.toNatClampNeg (i3 + 1))) = 68 then 2 else 1)), .int 4096], M)) rfl rfl rfl ?_
                    refine ml_st (S' := (135, [(0, .ref p), (2, .int x2), (4, .int i4), (5, .int (i3 + 1))], [.int (4096 + (1024 * (if ((f 6) (Int32.toNatClampNeg (i3 + 1))) = 74 then 2 else if ((f 6) (Int32.toNatClampNeg (i3 + 1))) = 68 then 2 else 1)))], M)) rfl rfl rfl ?_
                    refine ml_st (S' := (137, [(0, .ref p), (2, .int x2), (4, .int i4), (5, .int (i3 + 1))], [.int i4, .int (4096 + (1024 * (if ((f 6) (Int32.toNatClampNeg (i3 + 1))) = 74 then 2 else if ((f 6) (Int32.toNatClampNeg (i3 + 1))) = 68 then 2 else 1)))], M)) rfl rfl rfl ?_
                    refine ml_st (S' := (138, [(0, .ref p), (2, .int x2), (4, .int i4), (5, .int (i3 + 1))], [.int ((4096 + (1024 * (if ((f 6) (Int32.toNatClampNeg (i3 + 1))) = 74 then 2 else if ((f 6) (Int32.toNatClampNeg (i3 + 1))) = 68 then 2 else 1))) + i4)], M)) rfl rfl rfl ?_
                    exact ml_ret rfl (rfl) (⟨⟨_, rfl⟩, rfl⟩)
                  · have c_112 : ¬ (r25 = x2) := of_decide_eq_false c_112
                    refine ml_st (S' := (116, [(0, .ref p), (2, .int x2), (4, .int i4), (5, .int (i3 + 1))], [.int (-1)], M)) rfl rfl rfl ?_
                    exact ml_ret rfl (rfl) (⟨⟨_, rfl⟩, rfl⟩)
                · have c_86 : ¬ (¬ ((f 6) (Int32.toNatClampNeg (i3 + 1))) = 86) := of_decide_eq_false c_86
                  refine ml_st (S' := (91, [(5, .int (i3 + 1)), (0, .ref p), (2, .int x2), (3, .int i3), (4, .int i4)], [.int (i3 + 1)], M)) rfl rfl rfl ?_
                  refine ml_st (S' := (92, [(5, .int (i3 + 1)), (0, .ref p), (2, .int x2), (3, .int i3), (4, .int i4)], [.int 1, .int (i3 + 1)], M)) rfl rfl rfl ?_
                  refine ml_st (S' := (93, [(5, .int (i3 + 1)), (0, .ref p), (2, .int x2), (3, .int i3), (4, .int i4)], [.int ((i3 + 1) + 1)], M)) rfl rfl rfl ?_
                  refine ml_st (S' := (94, [(5, .int (i3 + 1)), (0, .ref p), (2, .int x2), (3, .int i3), (4, .int i4)], [.int x2, .int ((i3 + 1) + 1)], M)) rfl rfl rfl ?_
                  refine ml_if2 (S1 := (104, [(0, .ref p), (2, .int x2), (4, .int i4), (5, .int (i3 + 1))], [], M)) (S2 := (97, [(5, .int (i3 + 1)), (0, .ref p), (2, .int x2), (3, .int i3), (4, .int i4)], [], M)) rfl rfl rfl (fun c_94 => ?_) (fun c_94 => ?_)
                  · have c_94 : ¬ ((i3 + 1) + 1) = x2 := of_decide_eq_true c_94
                    refine ml_st (S' := (105, [(0, .ref p), (2, .int x2), (4, .int i4), (5, .int (i3 + 1))], [.ref p], M)) rfl rfl rfl ?_
                    refine ml_st (S' := (107, [(0, .ref p), (2, .int x2), (4, .int i4), (5, .int (i3 + 1))], [.int (i3 + 1), .ref p], M)) rfl rfl rfl ?_
                    refine ml_st (S' := (108, [(0, .ref p), (2, .int x2), (4, .int i4), (5, .int (i3 + 1))], [.int x2, .int (i3 + 1), .ref p], M)) rfl rfl rfl ?_
                    refine ml_call (a := [.ref p, .int (i3 + 1), .int x2]) (rest := []) rfl (okc_v rfl rfl rfl hP.1) rfl rfl (ct_typeEnd hP ((res_in h0.1 h0.2.1 h2 hm c_64).1) (h2) (by omega)) (fun v9 M9 h9 => ?_)
                    obtain ⟨⟨r31, rfl, e32⟩, hh33⟩ := h9
                    rw [hh33]
                    show ml _ _ _ (111, [(0, .ref p), (2, .int x2), (4, .int i4), (5, .int (i3 + 1))], [.int r31], M) _
                    refine ml_st (S' := (112, [(0, .ref p), (2, .int x2), (4, .int i4), (5, .int (i3 + 1))], [.int x2, .int r31], M)) rfl rfl rfl ?_
                    refine ml_if2 (S1 := (117, [(0, .ref p), (2, .int x2), (4, .int i4), (5, .int (i3 + 1))], [], M)) (S2 := (115, [(0, .ref p), (2, .int x2), (4, .int i4), (5, .int (i3 + 1))], [], M)) rfl rfl rfl (fun c_112 => ?_) (fun c_112 => ?_)
                    · have c_112 : r31 = x2 := of_decide_eq_true c_112
                      refine ml_st (S' := (120, [(0, .ref p), (2, .int x2), (4, .int i4), (5, .int (i3 + 1))], [.int 4096], M)) rfl rfl rfl ?_
                      refine ml_st (S' := (123, [(0, .ref p), (2, .int x2), (4, .int i4), (5, .int (i3 + 1))], [.int 1024, .int 4096], M)) rfl rfl rfl ?_
                      refine ml_st (S' := (124, [(0, .ref p), (2, .int x2), (4, .int i4), (5, .int (i3 + 1))], [.ref p, .int 1024, .int 4096], M)) rfl rfl rfl ?_
                      refine mo_get (S' := (127, [(0, .ref p), (2, .int x2), (4, .int i4), (5, .int (i3 + 1))], [.ref (q 6), .int 1024, .int 4096], M)) rfl hP.1 rfl rfl ?_
                      refine ml_st (S' := (129, [(0, .ref p), (2, .int x2), (4, .int i4), (5, .int (i3 + 1))], [.int (i3 + 1), .ref (q 6), .int 1024, .int 4096], M)) rfl rfl rfl ?_
                      refine mo_ald (S' := (130, [(0, .ref p), (2, .int x2), (4, .int i4), (5, .int (i3 + 1))], [.int ((f 6) (Int32.toNatClampNeg (i3 + 1))), .int 1024, .int 4096], M)) rfl hP.2.2 ((res_in h0.1 h0.2.1 h2 hm c_64).2) rfl ?_
                      refine ml_call (a := [.int ((f 6) (Int32.toNatClampNeg (i3 + 1)))]) (rest := [.int 1024, .int 4096]) rfl (rfl) rfl rfl (ct_placesOfType  (by omega)) (fun v34 M35 h36 => ?_)
                      obtain ⟨rfl, h36⟩ := h36
                      rw [h36]
                      show ml _ _ _ (133, [(0, .ref p), (2, .int x2), (4, .int i4), (5, .int (i3 + 1))], [.int (if ((f 6) (Int32.toNatClampNeg (i3 + 1))) = 74 then 2 else if ((f 6) (Int32.toNatClampNeg (i3 + 1))) = 68 then 2 else 1), .int 1024, .int 4096], M) _
                      refine ml_st (S' := (134, [(0, .ref p), (2, .int x2), (4, .int i4), (5, .int (i3 + 1))], [.int (1024 * (if ((f 6) (Int32.toNatClampNeg (i3 + 1))) = 74 then 2 else if ((f 6) (Int32.toNatClampNeg (i3 + 1))) = 68 then 2 else 1)), .int 4096], M)) rfl rfl rfl ?_
                      refine ml_st (S' := (135, [(0, .ref p), (2, .int x2), (4, .int i4), (5, .int (i3 + 1))], [.int (4096 + (1024 * (if ((f 6) (Int32.toNatClampNeg (i3 + 1))) = 74 then 2 else if ((f 6) (Int32.toNatClampNeg (i3 + 1))) = 68 then 2 else 1)))], M)) rfl rfl rfl ?_
                      refine ml_st (S' := (137, [(0, .ref p), (2, .int x2), (4, .int i4), (5, .int (i3 + 1))], [.int i4, .int (4096 + (1024 * (if ((f 6) (Int32.toNatClampNeg (i3 + 1))) = 74 then 2 else if ((f 6) (Int32.toNatClampNeg (i3 + 1))) = 68 then 2 else 1)))], M)) rfl rfl rfl ?_
                      refine ml_st (S' := (138, [(0, .ref p), (2, .int x2), (4, .int i4), (5, .int (i3 + 1))], [.int ((4096 + (1024 * (if ((f 6) (Int32.toNatClampNeg (i3 + 1))) = 74 then 2 else if ((f 6) (Int32.toNatClampNeg (i3 + 1))) = 68 then 2 else 1))) + i4)], M)) rfl rfl rfl ?_
                      exact ml_ret rfl (rfl) (⟨⟨_, rfl⟩, rfl⟩)
                    · have c_112 : ¬ (r31 = x2) := of_decide_eq_false c_112
                      refine ml_st (S' := (116, [(0, .ref p), (2, .int x2), (4, .int i4), (5, .int (i3 + 1))], [.int (-1)], M)) rfl rfl rfl ?_
                      exact ml_ret rfl (rfl) (⟨⟨_, rfl⟩, rfl⟩)
                  · have c_94 : ¬ (¬ ((i3 + 1) + 1) = x2) := of_decide_eq_false c_94
                    refine ml_st (S' := (100, [(5, .int (i3 + 1)), (0, .ref p), (2, .int x2), (3, .int i3), (4, .int i4)], [.int 4096], M)) rfl rfl rfl ?_
                    refine ml_st (S' := (102, [(5, .int (i3 + 1)), (0, .ref p), (2, .int x2), (3, .int i3), (4, .int i4)], [.int i4, .int 4096], M)) rfl rfl rfl ?_
                    refine ml_st (S' := (103, [(5, .int (i3 + 1)), (0, .ref p), (2, .int x2), (3, .int i3), (4, .int i4)], [.int (4096 + i4)], M)) rfl rfl rfl ?_
                    exact ml_ret rfl (rfl) (⟨⟨_, rfl⟩, rfl⟩)
              · have c_72 : ¬ (i4 ≤ 255) := of_decide_eq_false c_72
                refine ml_st (S' := (76, [], [.int (-1)], M)) rfl rfl rfl ?_
                exact ml_ret rfl (rfl) (⟨⟨_, rfl⟩, rfl⟩)
          · have c_26 : ¬ (((f 6) (Int32.toNatClampNeg i3)) = 41) := of_decide_eq_false c_26
            refine ml_st (S' := (31, [(0, .ref p), (2, .int x2), (3, .int i3), (4, .int i4)], [.int i4], M)) rfl rfl rfl ?_
            refine ml_st (S' := (32, [(0, .ref p), (2, .int x2), (3, .int i3), (4, .int i4)], [.ref p, .int i4], M)) rfl rfl rfl ?_
            refine mo_get (S' := (35, [(0, .ref p), (2, .int x2), (3, .int i3), (4, .int i4)], [.ref (q 6), .int i4], M)) rfl hP.1 rfl rfl ?_
            refine ml_st (S' := (36, [(0, .ref p), (2, .int x2), (3, .int i3), (4, .int i4)], [.int i3, .ref (q 6), .int i4], M)) rfl rfl rfl ?_
            refine mo_ald (S' := (37, [(0, .ref p), (2, .int x2), (3, .int i3), (4, .int i4)], [.int ((f 6) (Int32.toNatClampNeg i3)), .int i4], M)) rfl hP.2.2 (vin_end h0.1 c_15 h2) rfl ?_
            refine ml_call (a := [.int ((f 6) (Int32.toNatClampNeg i3))]) (rest := [.int i4]) rfl (rfl) rfl rfl (ct_placesOfType  (by omega)) (fun v37 M38 h39 => ?_)
            obtain ⟨rfl, h39⟩ := h39
            rw [h39]
            show ml _ _ _ (40, [(0, .ref p), (2, .int x2), (3, .int i3), (4, .int i4)], [.int (if ((f 6) (Int32.toNatClampNeg i3)) = 74 then 2 else if ((f 6) (Int32.toNatClampNeg i3)) = 68 then 2 else 1), .int i4], M) _
            refine ml_st (S' := (41, [(0, .ref p), (2, .int x2), (3, .int i3), (4, .int i4)], [.int (i4 + (if ((f 6) (Int32.toNatClampNeg i3)) = 74 then 2 else if ((f 6) (Int32.toNatClampNeg i3)) = 68 then 2 else 1))], M)) rfl rfl rfl ?_
            refine ml_st (S' := (43, [(4, .int (i4 + (if ((f 6) (Int32.toNatClampNeg i3)) = 74 then 2 else if ((f 6) (Int32.toNatClampNeg i3)) = 68 then 2 else 1))), (0, .ref p), (2, .int x2), (3, .int i3)], [], M)) rfl rfl rfl ?_
            refine ml_st (S' := (44, [(4, .int (i4 + (if ((f 6) (Int32.toNatClampNeg i3)) = 74 then 2 else if ((f 6) (Int32.toNatClampNeg i3)) = 68 then 2 else 1))), (0, .ref p), (2, .int x2), (3, .int i3)], [.ref p], M)) rfl rfl rfl ?_
            refine ml_st (S' := (45, [(4, .int (i4 + (if ((f 6) (Int32.toNatClampNeg i3)) = 74 then 2 else if ((f 6) (Int32.toNatClampNeg i3)) = 68 then 2 else 1))), (0, .ref p), (2, .int x2), (3, .int i3)], [.int i3, .ref p], M)) rfl rfl rfl ?_
            refine ml_st (S' := (46, [(4, .int (i4 + (if ((f 6) (Int32.toNatClampNeg i3)) = 74 then 2 else if ((f 6) (Int32.toNatClampNeg i3)) = 68 then 2 else 1))), (0, .ref p), (2, .int x2), (3, .int i3)], [.int x2, .int i3, .ref p], M)) rfl rfl rfl ?_
            refine ml_call (a := [.ref p, .int i3, .int x2]) (rest := []) rfl (okc_v rfl rfl rfl hP.1) rfl rfl (ct_typeEnd hP (h0.1) (h2) (by omega)) (fun v9 M9 h9 => ?_)
            obtain ⟨⟨r40, rfl, e41⟩, hh42⟩ := h9
            rw [hh42]
            show ml _ _ _ (49, [(4, .int (i4 + (if ((f 6) (Int32.toNatClampNeg i3)) = 74 then 2 else if ((f 6) (Int32.toNatClampNeg i3)) = 68 then 2 else 1))), (0, .ref p), (2, .int x2), (3, .int i3)], [.int r40], M) _
            refine ml_st (S' := (50, [(3, .int r40), (4, .int (i4 + (if ((f 6) (Int32.toNatClampNeg i3)) = 74 then 2 else if ((f 6) (Int32.toNatClampNeg i3)) = 68 then 2 else 1))), (0, .ref p), (2, .int x2)], [], M)) rfl rfl rfl ?_
            refine ml_st (S' := (51, [(3, .int r40), (4, .int (i4 + (if ((f 6) (Int32.toNatClampNeg i3)) = 74 then 2 else if ((f 6) (Int32.toNatClampNeg i3)) = 68 then 2 else 1))), (0, .ref p), (2, .int x2)], [.int r40], M)) rfl rfl rfl ?_
            refine ml_if (S1 := (5, [(0, .ref p), (2, .int x2), (3, .int r40), (4, .int (i4 + (if ((f 6) (Int32.toNatClampNeg i3)) = 74 then 2 else if ((f 6) (Int32.toNatClampNeg i3)) = 68 then 2 else 1)))], [], M)) (S2 := (54, [(3, .int r40), (4, .int (i4 + (if ((f 6) (Int32.toNatClampNeg i3)) = 74 then 2 else if ((f 6) (Int32.toNatClampNeg i3)) = 68 then 2 else 1))), (0, .ref p), (2, .int x2)], [], M)) rfl rfl rfl (fun c_51 => ?_) (fun c_51 => ?_)
            · have c_51 : 0 ≤ r40 := of_decide_eq_true c_51
              exact ih _ _ (loop_pl c_10 h0.2.2 (pT_z _) hn) ⟨nneg (Int32.not_lt.mpr c_51), by rcases e41 with rfl | h9; exact absurd (show (0 : Int32) ≤ -1 from c_51) (by decide); exact h9.2, by rw [inc_pl c_10 h0.2.2 (pT_z _)]; have := pT_z (f 6 (Int32.toNatClampNeg i3)); have := h0.2.2; omega⟩
            · have c_51 : ¬ (0 ≤ r40) := of_decide_eq_false c_51
              refine ml_st (S' := (55, [(3, .int r40), (4, .int (i4 + (if ((f 6) (Int32.toNatClampNeg i3)) = 74 then 2 else if ((f 6) (Int32.toNatClampNeg i3)) = 68 then 2 else 1))), (0, .ref p), (2, .int x2)], [.int (-1)], M)) rfl rfl rfl ?_
              exact ml_ret rfl (rfl) (⟨⟨_, rfl⟩, rfl⟩)
  refine mt_in (b := mb_126 g) rfl rfl ?_
  show ml (mT g) d (mb_126 g).2 (0, [(0, .ref p), (1, .int x1), (2, .int x2)], [], M) _
  refine ml_st (S' := (1, [(0, .ref p), (1, .int x1), (2, .int x2)], [.int x1], M)) rfl rfl rfl ?_
  refine ml_st (S' := (2, [(3, .int x1), (0, .ref p), (1, .int x1), (2, .int x2)], [], M)) rfl rfl rfl ?_
  refine ml_st (S' := (3, [(3, .int x1), (0, .ref p), (1, .int x1), (2, .int x2)], [.int 0], M)) rfl rfl rfl ?_
  refine ml_st (S' := (5, [(0, .ref p), (2, .int x2), (3, .int x1), (4, .int 0)], [], M)) rfl rfl rfl ?_
  exact L5 _ _ _ (Nat.le_refl _) ⟨h1, h12, by decide⟩
set_option maxHeartbeats 1000000 in
theorem ct_shapeOf {g : xe_G} {M : mi_H} {p : Nat} {size : Int32} {n m : Nat} {q : Nat → Nat} {f : Nat → Nat → Int32} {cc : Int32} {x1 x2 : Int32} (hP : PL M p size n m q f cc) (h1 : 0 ≤ x1.toInt) (h2 : x2.toInt ≤ m) (hm : m < 1073741824) {d : Nat} (hd : 4 ≤ d) : mt (mT g) d 137 [.ref p, .int x1, .int x2] M (fun v M' => (∃ x, v = some (.int x)) ∧ M' = M) := by
  obtain ⟨d, rfl⟩ : ∃ e, d = e + 1 := ⟨d - 1, by omega⟩
  refine mt_in (b := mb_137 g) rfl rfl ?_
  show ml (mT g) d (mb_137 g).2 (0, [(0, .ref p), (1, .int x1), (2, .int x2)], [], M) _
  refine ml_st (S' := (1, [(0, .ref p), (1, .int x1), (2, .int x2)], [.int x1], M)) rfl rfl rfl ?_
  refine ml_st (S' := (2, [(0, .ref p), (1, .int x1), (2, .int x2)], [.int x2, .int x1], M)) rfl rfl rfl ?_
  refine ml_if2 (S1 := (7, [(0, .ref p), (1, .int x1), (2, .int x2)], [], M)) (S2 := (5, [(0, .ref p), (1, .int x1), (2, .int x2)], [], M)) rfl rfl rfl (fun c_2 => ?_) (fun c_2 => ?_)
  · have c_2 : x1 < x2 := of_decide_eq_true c_2
    refine ml_st (S' := (8, [(0, .ref p), (1, .int x1), (2, .int x2)], [.ref p], M)) rfl rfl rfl ?_
    refine mo_get (S' := (11, [(0, .ref p), (1, .int x1), (2, .int x2)], [.ref (q 6)], M)) rfl hP.1 rfl rfl ?_
    refine ml_st (S' := (12, [(0, .ref p), (1, .int x1), (2, .int x2)], [.int x1, .ref (q 6)], M)) rfl rfl rfl ?_
    refine mo_ald (S' := (13, [(0, .ref p), (1, .int x1), (2, .int x2)], [.int ((f 6) (Int32.toNatClampNeg x1))], M)) rfl hP.2.2 (vin_end h1 (Int32.not_le.mpr c_2) h2) rfl ?_
    refine ml_st (S' := (15, [(0, .ref p), (1, .int x1), (2, .int x2)], [.int 40, .int ((f 6) (Int32.toNatClampNeg x1))], M)) rfl rfl rfl ?_
    refine ml_if2 (S1 := (27, [(0, .ref p), (1, .int x1), (2, .int x2)], [], M)) (S2 := (18, [(0, .ref p), (1, .int x1), (2, .int x2)], [], M)) rfl rfl rfl (fun c_15 => ?_) (fun c_15 => ?_)
    · have c_15 : ¬ ((f 6) (Int32.toNatClampNeg x1)) = 40 := of_decide_eq_true c_15
      refine ml_st (S' := (28, [(0, .ref p), (1, .int x1), (2, .int x2)], [.ref p], M)) rfl rfl rfl ?_
      refine ml_st (S' := (29, [(0, .ref p), (1, .int x1), (2, .int x2)], [.int x1, .ref p], M)) rfl rfl rfl ?_
      refine ml_st (S' := (30, [(0, .ref p), (1, .int x1), (2, .int x2)], [.int x2, .int x1, .ref p], M)) rfl rfl rfl ?_
      refine ml_call (a := [.ref p, .int x1, .int x2]) (rest := []) rfl (okc_v rfl rfl rfl hP.1) rfl rfl (ct_typeEnd hP (h1) (h2) (by omega)) (fun v9 M9 h9 => ?_)
      obtain ⟨⟨r1, rfl, e2⟩, hh3⟩ := h9
      rw [hh3]
      show ml _ _ _ (33, [(0, .ref p), (1, .int x1), (2, .int x2)], [.int r1], M) _
      refine ml_st (S' := (34, [(0, .ref p), (1, .int x1), (2, .int x2)], [.int x2, .int r1], M)) rfl rfl rfl ?_
      refine ml_if2 (S1 := (49, [(0, .ref p), (1, .int x1), (2, .int x2)], [], M)) (S2 := (37, [(0, .ref p), (1, .int x1), (2, .int x2)], [], M)) rfl rfl rfl (fun c_34 => ?_) (fun c_34 => ?_)
      · have c_34 : ¬ r1 = x2 := of_decide_eq_true c_34
        refine ml_st (S' := (50, [], [.int (-1)], M)) rfl rfl rfl ?_
        exact ml_ret rfl (rfl) (⟨⟨_, rfl⟩, rfl⟩)
      · have c_34 : ¬ (¬ r1 = x2) := of_decide_eq_false c_34
        refine ml_st (S' := (38, [(0, .ref p), (1, .int x1), (2, .int x2)], [.ref p], M)) rfl rfl rfl ?_
        refine mo_get (S' := (41, [(0, .ref p), (1, .int x1), (2, .int x2)], [.ref (q 6)], M)) rfl hP.1 rfl rfl ?_
        refine ml_st (S' := (42, [(0, .ref p), (1, .int x1), (2, .int x2)], [.int x1, .ref (q 6)], M)) rfl rfl rfl ?_
        refine mo_ald (S' := (43, [(0, .ref p), (1, .int x1), (2, .int x2)], [.int ((f 6) (Int32.toNatClampNeg x1))], M)) rfl hP.2.2 (vin_end h1 (Int32.not_le.mpr c_2) h2) rfl ?_
        refine ml_call (a := [.int ((f 6) (Int32.toNatClampNeg x1))]) (rest := []) rfl (rfl) rfl rfl (ct_placesOfType  (by omega)) (fun v4 M5 h6 => ?_)
        obtain ⟨rfl, h6⟩ := h6
        rw [h6]
        show ml _ _ _ (46, [(0, .ref p), (1, .int x1), (2, .int x2)], [.int (if ((f 6) (Int32.toNatClampNeg x1)) = 74 then 2 else if ((f 6) (Int32.toNatClampNeg x1)) = 68 then 2 else 1)], M) _
        refine ml_st (S' := (50, [], [.int (if ((f 6) (Int32.toNatClampNeg x1)) = 74 then 2 else if ((f 6) (Int32.toNatClampNeg x1)) = 68 then 2 else 1)], M)) rfl rfl rfl ?_
        exact ml_ret rfl (rfl) (⟨⟨_, rfl⟩, rfl⟩)
    · have c_15 : ¬ (¬ ((f 6) (Int32.toNatClampNeg x1)) = 40) := of_decide_eq_false c_15
      refine ml_st (S' := (19, [(0, .ref p), (1, .int x1), (2, .int x2)], [.ref p], M)) rfl rfl rfl ?_
      refine ml_st (S' := (20, [(0, .ref p), (1, .int x1), (2, .int x2)], [.int x1, .ref p], M)) rfl rfl rfl ?_
      refine ml_st (S' := (21, [(0, .ref p), (1, .int x1), (2, .int x2)], [.int 1, .int x1, .ref p], M)) rfl rfl rfl ?_
      refine ml_st (S' := (22, [(0, .ref p), (1, .int x1), (2, .int x2)], [.int (x1 + 1), .ref p], M)) rfl rfl rfl ?_
      refine ml_st (S' := (23, [(0, .ref p), (1, .int x1), (2, .int x2)], [.int x2, .int (x1 + 1), .ref p], M)) rfl rfl rfl ?_
      refine ml_call (a := [.ref p, .int (x1 + 1), .int x2]) (rest := []) rfl (okc_v rfl rfl rfl hP.1) rfl rfl (ct_methodShape hP (up1 h1 (Int32.not_le.mpr c_2)).1 (up1 h1 (Int32.not_le.mpr c_2)).2 h2 hm (by omega)) (fun v9 M9 h9 => ?_)
      obtain ⟨⟨r9, rfl⟩, h9⟩ := h9
      rw [h9]
      show ml _ _ _ (26, [(0, .ref p), (1, .int x1), (2, .int x2)], [.int r9], M) _
      exact ml_ret rfl (rfl) (⟨⟨_, rfl⟩, rfl⟩)
  · have c_2 : ¬ (x1 < x2) := of_decide_eq_false c_2
    refine ml_st (S' := (6, [(0, .ref p), (1, .int x1), (2, .int x2)], [.int (-1)], M)) rfl rfl rfl ?_
    exact ml_ret rfl (rfl) (⟨⟨_, rfl⟩, rfl⟩)
end
section
/-! questions over typed heaps (laid by wip/p2/c42.py) -/
theorem tq_tagOf {g : xe_G} {M : mi_H} {Y : yT} {p : Nat} {pp : List Nat} {x1 : Int32}  (hW : WF g Y M) (hY0 : Y.1 p = some (7, pp)) {d : Nat} (hd : 1 ≤ d) : mt (mT g) d 138 [.ref p, .int x1] M (pI M) := by
  obtain ⟨size, n, m, q, f, cc, hP, hT, hn, hm, -, hc, -⟩ := hW.pool hY0
  exact (ct_tagOf hP hd).mono (fun v M' h => ⟨⟨_, h.1⟩, h.2⟩)
theorem tq_tagPlace {g : xe_G} {M : mi_H} {Y : yT} {p : Nat} {pp : List Nat} {x1 : Int32}  (hW : WF g Y M) (hY0 : Y.1 p = some (7, pp)) {d : Nat} (hd : 1 ≤ d) : mt (mT g) d 139 [.ref p, .int x1] M (pI M) := by
  obtain ⟨size, n, m, q, f, cc, hP, hT, hn, hm, -, hc, -⟩ := hW.pool hY0
  exact (ct_tagPlace hP hd).mono (fun v M' h => ⟨⟨_, h.1⟩, h.2⟩)
theorem tq_firstIndex {g : xe_G} {M : mi_H} {Y : yT} {p : Nat} {pp : List Nat} {x1 : Int32}  (hW : WF g Y M) (hY0 : Y.1 p = some (7, pp)) {d : Nat} (hd : 1 ≤ d) : mt (mT g) d 117 [.ref p, .int x1] M (pI M) := by
  obtain ⟨size, n, m, q, f, cc, hP, hT, hn, hm, -, hc, -⟩ := hW.pool hY0
  exact (ct_firstIndex hP hd).mono (fun v M' h => ⟨⟨_, h.1⟩, h.2⟩)
theorem tq_secondIndex {g : xe_G} {M : mi_H} {Y : yT} {p : Nat} {pp : List Nat} {x1 : Int32}  (hW : WF g Y M) (hY0 : Y.1 p = some (7, pp)) {d : Nat} (hd : 1 ≤ d) : mt (mT g) d 134 [.ref p, .int x1] M (pI M) := by
  obtain ⟨size, n, m, q, f, cc, hP, hT, hn, hm, -, hc, -⟩ := hW.pool hY0
  exact (ct_secondIndex hP hd).mono (fun v M' h => ⟨⟨_, h.1⟩, h.2⟩)
theorem tq_isWide {g : xe_G} {M : mi_H} {Y : yT} {p : Nat} {pp : List Nat} {x1 : Int32}  (hW : WF g Y M) (hY0 : Y.1 p = some (7, pp)) {d : Nat} (hd : 2 ≤ d) : mt (mT g) d 125 [.ref p, .int x1] M (pZ M) := by
  obtain ⟨size, n, m, q, f, cc, hP, hT, hn, hm, -, hc, -⟩ := hW.pool hY0
  exact (ct_isWide hP hd).mono (fun v M' h => ⟨⟨_, h.1, by unfold sp_isWide; repeat' (first | split | exact Or.inl rfl | exact Or.inr rfl)⟩, h.2⟩)
theorem tq_textLength {g : xe_G} {M : mi_H} {Y : yT} {p : Nat} {pp : List Nat} {x1 : Int32}  (hW : WF g Y M) (hY0 : Y.1 p = some (7, pp)) {d : Nat} (hd : 2 ≤ d) : mt (mT g) d 141 [.ref p, .int x1] M (pI M) := by
  obtain ⟨size, n, m, q, f, cc, hP, hT, hn, hm, -, hc, -⟩ := hW.pool hY0
  exact (ct_textLength hP hd).mono (fun v M' h => ⟨⟨_, h.1⟩, h.2⟩)
theorem tq_isFieldDescriptor {g : xe_G} {M : mi_H} {Y : yT} {p : Nat} {pp : List Nat} {x1 : Int32}  (hW : WF g Y M) (hY0 : Y.1 p = some (7, pp)) {d : Nat} (hd : 2 ≤ d) : mt (mT g) d 121 [.ref p, .int x1] M (pZ M) := by
  obtain ⟨size, n, m, q, f, cc, hP, hT, hn, hm, -, hc, -⟩ := hW.pool hY0
  exact (ct_isFieldDescriptor hP hd).mono (fun v M' h => ⟨⟨_, h.1, by unfold sp_isFieldDescriptor; repeat' (first | split | exact Or.inl rfl | exact Or.inr rfl)⟩, h.2⟩)
theorem tq_isMethodDescriptor {g : xe_G} {M : mi_H} {Y : yT} {p : Nat} {pp : List Nat} {x1 : Int32}  (hW : WF g Y M) (hY0 : Y.1 p = some (7, pp)) {d : Nat} (hd : 2 ≤ d) : mt (mT g) d 122 [.ref p, .int x1] M (pZ M) := by
  obtain ⟨size, n, m, q, f, cc, hP, hT, hn, hm, -, hc, -⟩ := hW.pool hY0
  exact (ct_isMethodDescriptor hP hd).mono (fun v M' h => ⟨⟨_, h.1, by unfold sp_isMethodDescriptor; repeat' (first | split | exact Or.inl rfl | exact Or.inr rfl)⟩, h.2⟩)
theorem tq_placesTold {g : xe_G} {M : mi_H} {Y : yT} {p : Nat} {pp : List Nat} {x1 : Int32}  (hW : WF g Y M) (hY0 : Y.1 p = some (7, pp)) {d : Nat} (hd : 2 ≤ d) : mt (mT g) d 131 [.ref p, .int x1] M (pI M) := by
  obtain ⟨size, n, m, q, f, cc, hP, hT, hn, hm, -, hc, -⟩ := hW.pool hY0
  exact (ct_placesTold hP hd).mono (fun v M' h => ⟨⟨_, h.1⟩, h.2⟩)
theorem tq_argumentPlaces {g : xe_G} {M : mi_H} {Y : yT} {p : Nat} {pp : List Nat} {x1 : Int32}  (hW : WF g Y M) (hY0 : Y.1 p = some (7, pp)) {d : Nat} (hd : 3 ≤ d) : mt (mT g) d 112 [.ref p, .int x1] M (pI M) := by
  obtain ⟨size, n, m, q, f, cc, hP, hT, hn, hm, -, hc, -⟩ := hW.pool hY0
  exact (ct_argumentPlaces hP hd).mono (fun v M' h => ⟨⟨_, h.1⟩, h.2⟩)
theorem tq_hasNoResult {g : xe_G} {M : mi_H} {Y : yT} {p : Nat} {pp : List Nat} {x1 : Int32}  (hW : WF g Y M) (hY0 : Y.1 p = some (7, pp)) {d : Nat} (hd : 3 ≤ d) : mt (mT g) d 119 [.ref p, .int x1] M (pZ M) := by
  obtain ⟨size, n, m, q, f, cc, hP, hT, hn, hm, -, hc, -⟩ := hW.pool hY0
  exact (ct_hasNoResult hP hd).mono (fun v M' h => ⟨⟨_, h.1, by unfold sp_hasNoResult; repeat' (first | split | exact Or.inl rfl | exact Or.inr rfl)⟩, h.2⟩)
theorem tq_nameOf {g : xe_G} {M : mi_H} {Y : yT} {p : Nat} {pp : List Nat} {x1 : Int32}  (hW : WF g Y M) (hY0 : Y.1 p = some (7, pp)) {d : Nat} (hd : 2 ≤ d) : mt (mT g) d 128 [.ref p, .int x1] M (pI M) := by
  obtain ⟨size, n, m, q, f, cc, hP, hT, hn, hm, -, hc, -⟩ := hW.pool hY0
  exact (ct_nameOf hP hd).mono (fun v M' h => ⟨⟨_, h.1⟩, h.2⟩)
theorem tq_descriptorOf {g : xe_G} {M : mi_H} {Y : yT} {p : Nat} {pp : List Nat} {x1 : Int32}  (hW : WF g Y M) (hY0 : Y.1 p = some (7, pp)) {d : Nat} (hd : 2 ≤ d) : mt (mT g) d 115 [.ref p, .int x1] M (pI M) := by
  obtain ⟨size, n, m, q, f, cc, hP, hT, hn, hm, -, hc, -⟩ := hW.pool hY0
  exact (ct_descriptorOf hP hd).mono (fun v M' h => ⟨⟨_, h.1⟩, h.2⟩)
theorem tq_characterAt {g : xe_G} {M : mi_H} {Y : yT} {p : Nat} {pp : List Nat} {x1 x2 : Int32}  (hW : WF g Y M) (hY0 : Y.1 p = some (7, pp)) {d : Nat} (hd : 2 ≤ d) : mt (mT g) d 113 [.ref p, .int x1, .int x2] M (pI M) := by
  obtain ⟨size, n, m, q, f, cc, hP, hT, hn, hm, -, hc, -⟩ := hW.pool hY0
  exact (ct_characterAt hP hT hm hd).mono (fun v M' h => ⟨⟨_, h.1⟩, h.2⟩)
theorem tq_isPlainClass {g : xe_G} {M : mi_H} {Y : yT} {p : Nat} {pp : List Nat} {x1 : Int32}  (hW : WF g Y M) (hY0 : Y.1 p = some (7, pp)) {d : Nat} (hd : 3 ≤ d) : mt (mT g) d 123 [.ref p, .int x1] M (pZ M) := by
  obtain ⟨size, n, m, q, f, cc, hP, hT, hn, hm, -, hc, -⟩ := hW.pool hY0
  exact (ct_isPlainClass hP hT hm hd).mono (fun v M' h => ⟨⟨_, h.1, by unfold sp_isPlainClass; repeat' (first | split | exact Or.inl rfl | exact Or.inr rfl)⟩, h.2⟩)
theorem tq_hasAngle {g : xe_G} {M : mi_H} {Y : yT} {p : Nat} {pp : List Nat} {x1 : Int32}  (hW : WF g Y M) (hY0 : Y.1 p = some (7, pp)) {d : Nat} (hd : 3 ≤ d) : mt (mT g) d 118 [.ref p, .int x1] M (pZ M) := by
  obtain ⟨size, n, m, q, f, cc, hP, hT, hn, hm, -, hc, -⟩ := hW.pool hY0
  exact (ct_hasAngle hP hT hm hd).mono (fun v M' h => ⟨h.1, h.2⟩)
theorem tq_isUnqualifiedName {g : xe_G} {M : mi_H} {Y : yT} {p : Nat} {pp : List Nat} {x1 : Int32}  (hW : WF g Y M) (hY0 : Y.1 p = some (7, pp)) {d : Nat} (hd : 3 ≤ d) : mt (mT g) d 124 [.ref p, .int x1] M (pZ M) := by
  obtain ⟨size, n, m, q, f, cc, hP, hT, hn, hm, -, hc, -⟩ := hW.pool hY0
  exact (ct_isUnqualifiedName hP hT hm hd).mono (fun v M' h => ⟨h.1, h.2⟩)
theorem tq_dimensionsOf {g : xe_G} {M : mi_H} {Y : yT} {p : Nat} {pp : List Nat} {x1 : Int32}  (hW : WF g Y M) (hY0 : Y.1 p = some (7, pp)) {d : Nat} (hd : 3 ≤ d) : mt (mT g) d 116 [.ref p, .int x1] M (pI M) := by
  obtain ⟨size, n, m, q, f, cc, hP, hT, hn, hm, -, hc, -⟩ := hW.pool hY0
  exact (ct_dimensionsOf hP hT hm hd).mono (fun v M' h => ⟨h.1, h.2⟩)
theorem tq_sameText {g : xe_G} {M : mi_H} {Y : yT} {p : Nat} {pp : List Nat} {x1 x2 : Int32}  (hW : WF g Y M) (hY0 : Y.1 p = some (7, pp)) {d : Nat} (hd : 2 ≤ d) : mt (mT g) d 133 [.ref p, .int x1, .int x2] M (pZ M) := by
  obtain ⟨size, n, m, q, f, cc, hP, hT, hn, hm, -, hc, -⟩ := hW.pool hY0
  exact (ct_sameText hP hT hm hd).mono (fun v M' h => ⟨h.1, h.2⟩)
theorem tq_isClassText {g : xe_G} {M : mi_H} {Y : yT} {p : Nat} {pp : List Nat} {x1 : Int32}  (hW : WF g Y M) (hY0 : Y.1 p = some (7, pp)) {d : Nat} (hd : 3 ≤ d) : mt (mT g) d 120 [.ref p, .int x1] M (pZ M) := by
  obtain ⟨size, n, m, q, f, cc, hP, hT, hn, hm, -, hc, -⟩ := hW.pool hY0
  exact (ct_isClassText hP hT hm hd).mono (fun v M' h => ⟨h.1, h.2⟩)
theorem tq_size {g : xe_G} {M : mi_H} {Y : yT} {b da n : Nat}  (hW : WF g Y M) (hY0 : Y.1 b = some (1, [da, n])) {d : Nat} (hd : 1 ≤ d) : mt (mT g) d 47 [.ref b] M (pI M) := by
  exact (ct_size (hW.bytes hY0).1 hd).mono (fun v M' h => ⟨⟨_, h.1⟩, h.2⟩)
theorem tq_u1 {g : xe_G} {M : mi_H} {Y : yT} {b da n : Nat} {x1 : Int32}  (hW : WF g Y M) (hY0 : Y.1 b = some (1, [da, n])) {d : Nat} (hd : 1 ≤ d) : mt (mT g) d 48 [.ref b, .int x1] M (pI M) := by
  exact (ct_u1 (hW.bytes hY0).1 hd).mono (fun v M' h => ⟨⟨_, h.1⟩, h.2⟩)
theorem tq_u2 {g : xe_G} {M : mi_H} {Y : yT} {b da n : Nat} {x1 : Int32}  (hW : WF g Y M) (hY0 : Y.1 b = some (1, [da, n])) {d : Nat} (hd : 1 ≤ d) : mt (mT g) d 49 [.ref b, .int x1] M (pI M) := by
  exact (ct_u2 (hW.bytes hY0).1 hd).mono (fun v M' h => ⟨⟨_, h.1⟩, h.2⟩)
theorem tq_u4 {g : xe_G} {M : mi_H} {Y : yT} {b da n : Nat} {x1 : Int32}  (hW : WF g Y M) (hY0 : Y.1 b = some (1, [da, n])) {d : Nat} (hd : 1 ≤ d) : mt (mT g) d 50 [.ref b, .int x1] M (pI M) := by
  exact (ct_u4 (hW.bytes hY0).1 hd).mono (fun v M' h => ⟨⟨_, h.1⟩, h.2⟩)
theorem tq_goesOn {g : xe_G} {M : mi_H} {Y : yT} {b da n : Nat} {x1 x2 : Int32}  (hW : WF g Y M) (hY0 : Y.1 b = some (1, [da, n])) {d : Nat} (hd : 1 ≤ d) : mt (mT g) d 46 [.ref b, .int x1, .int x2] M (pZ M) := by
  exact (ct_goesOn (hW.bytes hY0).1 hd).mono (fun v M' h => ⟨⟨_, h.1, by unfold sp_goesOn; repeat' (first | split | exact Or.inl rfl | exact Or.inr rfl)⟩, h.2⟩)
theorem tq_attributesEnd {g : xe_G} {M : mi_H} {Y : yT} {b da n : Nat} {x1 x2 x3 : Int32}  (hW : WF g Y M) (hY0 : Y.1 b = some (1, [da, n])) {d : Nat} (hd : 2 ≤ d) : mt (mT g) d 45 [.ref b, .int x1, .int x2, .int x3] M (pI M) := by
  exact (ct_attributesEnd (hW.bytes hY0).1 hd).mono (fun v M' h => ⟨h.1, h.2⟩)
theorem tq_textIs {g : xe_G} {M : mi_H} {Y : yT} {p : Nat} {pp : List Nat} {x1 : Int32} {lk : Nat} (hW : WF g Y M) (hY0 : Y.1 p = some (7, pp)) (hk : lk < 15) {d : Nat} (hd : 2 ≤ d) : mt (mT g) d 140 [.ref p, .int x1, .ref (g.2.1 lk)] M (pZ M) := by
  obtain ⟨size, n, m, q, f, cc, hP, hT, hn, hm, -, hc, -⟩ := hW.pool hY0
  obtain ⟨-, fl, hL⟩ := hW.2.2 lk hk
  exact (ct_textIs hP hT hm hL (Nat.mod_lt _ (by decide)) hd).mono (fun v M' h => ⟨h.1, h.2⟩)
end
section
/-! weak contracts: verdict, pool, pool check (laid by wip/p2/c43.py) -/
set_option maxHeartbeats 2000000 in
theorem tw_Ve_wrong {g : xe_G} {M : mi_H} {Y : yT} {vd : Nat} {x1 x2 : Int32}  (hW : WF g Y M) (hY0 : Y.1 vd = some (10, [])) {d : Nat} (hd : 1 ≤ d) : mt (mT g) d 172 [.ref vd, .int x1, .int x2] M (f0 g Y [vd] M) := by
  obtain ⟨d, rfl⟩ : ∃ e, d = e + 1 := ⟨d - 1, by omega⟩
  have hS : sf g Y [vd] M M := sf.rf hW
  refine mt_in (b := mb_172 g) rfl rfl ?_
  show ml (mT g) d (mb_172 g).2 (0, [(0, .ref vd), (1, .int x1), (2, .int x2)], [], M) _
  refine ml_blk 2 (S' := (2, [(0, .ref vd), (1, .int x1), (2, .int x2)], [.int x1, .ref vd], M)) rfl ?_
  refine tp_put rfl hS.1 hY0 (by decide) rfl (⟨_, rfl⟩) rfl rfl (fun M1 hS2 f3 => ?_)
  have hS4 := hS.put hS2 f3 (by simp)
  show ml _ _ _ (5, [(0, .ref vd), (1, .int x1), (2, .int x2)], [], M1) _
  refine ml_blk 2 (S' := (7, [(0, .ref vd), (1, .int x1), (2, .int x2)], [.int x2, .ref vd], M1)) rfl ?_
  refine tp_put rfl hS4.1 hY0 (by decide) rfl (⟨_, rfl⟩) rfl rfl (fun M5 hS6 f7 => ?_)
  have hS8 := hS4.put hS6 f7 (by simp)
  show ml _ _ _ (10, [(0, .ref vd), (1, .int x1), (2, .int x2)], [], M5) _
  refine ml_st (S' := (11, [(0, .ref vd), (1, .int x1), (2, .int x2)], [.int 0], M5)) rfl rfl rfl ?_
  exact ml_ret rfl (r_z (Or.inl rfl)) (⟨rfl, hS8⟩)
set_option maxHeartbeats 2000000 in
theorem tw_J_bitCount {g : xe_G} {M : mi_H} {Y : yT} {x1 : Int32}  (hW : WF g Y M) {d : Nat} (hd : 1 ≤ d) : mt (mT g) d 258 [.int x1] M (pI M) := by
  obtain ⟨d, rfl⟩ : ∃ e, d = e + 1 := ⟨d - 1, by omega⟩
  have hS : st g Y M M := st.rf hW
  refine mt_in (b := mb_258 g) rfl rfl ?_
  show ml (mT g) d (mb_258 g).2 (0, [(0, .int x1)], [], M) _
  refine ml_blk 3 (S' := (3, [(0, .int x1)], [.int 1, .int x1, .int x1], M)) rfl ?_
  refine ml_blk 3 (S' := (8, [(0, .int x1)], [.int ((((Int32.toUInt32 x1) >>> ((Int32.toUInt32 1) &&& Int32.toUInt32 31)).toInt32) &&& 1431655765), .int x1], M)) rfl ?_
  refine ml_st (S' := (9, [(0, .int x1)], [.int (x1 - ((((Int32.toUInt32 x1) >>> ((Int32.toUInt32 1) &&& Int32.toUInt32 31)).toInt32) &&& 1431655765))], M)) rfl rfl rfl ?_
  refine ml_st (S' := (10, [(0, .int (x1 - ((((Int32.toUInt32 x1) >>> ((Int32.toUInt32 1) &&& Int32.toUInt32 31)).toInt32) &&& 1431655765)))], [], M)) rfl rfl rfl ?_
  refine ml_blk 3 (S' := (15, [(0, .int (x1 - ((((Int32.toUInt32 x1) >>> ((Int32.toUInt32 1) &&& Int32.toUInt32 31)).toInt32) &&& 1431655765)))], [.int ((x1 - ((((Int32.toUInt32 x1) >>> ((Int32.toUInt32 1) &&& Int32.toUInt32 31)).toInt32) &&& 1431655765)) &&& 858993459)], M)) rfl ?_
  refine ml_blk 3 (S' := (18, [(0, .int (x1 - ((((Int32.toUInt32 x1) >>> ((Int32.toUInt32 1) &&& Int32.toUInt32 31)).toInt32) &&& 1431655765)))], [.int (((Int32.toUInt32 (x1 - ((((Int32.toUInt32 x1) >>> ((Int32.toUInt32 1) &&& Int32.toUInt32 31)).toInt32) &&& 1431655765))) >>> ((Int32.toUInt32 2) &&& Int32.toUInt32 31)).toInt32), .int ((x1 - ((((Int32.toUInt32 x1) >>> ((Int32.toUInt32 1) &&& Int32.toUInt32 31)).toInt32) &&& 1431655765)) &&& 858993459)], M)) rfl ?_
  generalize (((Int32.toUInt32 (x1 - ((((Int32.toUInt32 x1) >>> ((Int32.toUInt32 1) &&& Int32.toUInt32 31)).toInt32) &&& 1431655765))) >>> ((Int32.toUInt32 2) &&& Int32.toUInt32 31)).toInt32) = u1
  refine ml_blk 3 (S' := (23, [(0, .int (x1 - ((((Int32.toUInt32 x1) >>> ((Int32.toUInt32 1) &&& Int32.toUInt32 31)).toInt32) &&& 1431655765)))], [.int (((x1 - ((((Int32.toUInt32 x1) >>> ((Int32.toUInt32 1) &&& Int32.toUInt32 31)).toInt32) &&& 1431655765)) &&& 858993459) + (u1 &&& 858993459))], M)) rfl ?_
  refine ml_st (S' := (24, [(0, .int (((x1 - ((((Int32.toUInt32 x1) >>> ((Int32.toUInt32 1) &&& Int32.toUInt32 31)).toInt32) &&& 1431655765)) &&& 858993459) + (u1 &&& 858993459)))], [], M)) rfl rfl rfl ?_
  refine ml_blk 3 (S' := (27, [(0, .int (((x1 - ((((Int32.toUInt32 x1) >>> ((Int32.toUInt32 1) &&& Int32.toUInt32 31)).toInt32) &&& 1431655765)) &&& 858993459) + (u1 &&& 858993459)))], [.int 4, .int (((x1 - ((((Int32.toUInt32 x1) >>> ((Int32.toUInt32 1) &&& Int32.toUInt32 31)).toInt32) &&& 1431655765)) &&& 858993459) + (u1 &&& 858993459)), .int (((x1 - ((((Int32.toUInt32 x1) >>> ((Int32.toUInt32 1) &&& Int32.toUInt32 31)).toInt32) &&& 1431655765)) &&& 858993459) + (u1 &&& 858993459))], M)) rfl ?_
  refine ml_st (S' := (28, [(0, .int (((x1 - ((((Int32.toUInt32 x1) >>> ((Int32.toUInt32 1) &&& Int32.toUInt32 31)).toInt32) &&& 1431655765)) &&& 858993459) + (u1 &&& 858993459)))], [.int (((Int32.toUInt32 (((x1 - ((((Int32.toUInt32 x1) >>> ((Int32.toUInt32 1) &&& Int32.toUInt32 31)).toInt32) &&& 1431655765)) &&& 858993459) + (u1 &&& 858993459))) >>> ((Int32.toUInt32 4) &&& Int32.toUInt32 31)).toInt32), .int (((x1 - ((((Int32.toUInt32 x1) >>> ((Int32.toUInt32 1) &&& Int32.toUInt32 31)).toInt32) &&& 1431655765)) &&& 858993459) + (u1 &&& 858993459))], M)) rfl rfl rfl ?_
  generalize (((Int32.toUInt32 (((x1 - ((((Int32.toUInt32 x1) >>> ((Int32.toUInt32 1) &&& Int32.toUInt32 31)).toInt32) &&& 1431655765)) &&& 858993459) + (u1 &&& 858993459))) >>> ((Int32.toUInt32 4) &&& Int32.toUInt32 31)).toInt32) = u2
  refine ml_blk 3 (S' := (33, [(0, .int (((x1 - ((((Int32.toUInt32 x1) >>> ((Int32.toUInt32 1) &&& Int32.toUInt32 31)).toInt32) &&& 1431655765)) &&& 858993459) + (u1 &&& 858993459)))], [.int (((((x1 - ((((Int32.toUInt32 x1) >>> ((Int32.toUInt32 1) &&& Int32.toUInt32 31)).toInt32) &&& 1431655765)) &&& 858993459) + (u1 &&& 858993459)) + u2) &&& 252645135)], M)) rfl ?_
  generalize (((((x1 - ((((Int32.toUInt32 x1) >>> ((Int32.toUInt32 1) &&& Int32.toUInt32 31)).toInt32) &&& 1431655765)) &&& 858993459) + (u1 &&& 858993459)) + u2) &&& 252645135) = u3
  refine ml_st (S' := (34, [(0, .int u3)], [], M)) rfl rfl rfl ?_
  refine ml_blk 3 (S' := (38, [(0, .int u3)], [.int 8, .int u3, .int u3], M)) rfl ?_
  refine ml_blk 2 (S' := (40, [(0, .int u3)], [.int (u3 + (((Int32.toUInt32 u3) >>> ((Int32.toUInt32 8) &&& Int32.toUInt32 31)).toInt32))], M)) rfl ?_
  refine ml_st (S' := (41, [(0, .int (u3 + (((Int32.toUInt32 u3) >>> ((Int32.toUInt32 8) &&& Int32.toUInt32 31)).toInt32)))], [], M)) rfl rfl rfl ?_
  refine ml_blk 3 (S' := (45, [(0, .int (u3 + (((Int32.toUInt32 u3) >>> ((Int32.toUInt32 8) &&& Int32.toUInt32 31)).toInt32)))], [.int 16, .int (u3 + (((Int32.toUInt32 u3) >>> ((Int32.toUInt32 8) &&& Int32.toUInt32 31)).toInt32)), .int (u3 + (((Int32.toUInt32 u3) >>> ((Int32.toUInt32 8) &&& Int32.toUInt32 31)).toInt32))], M)) rfl ?_
  refine ml_st (S' := (46, [(0, .int (u3 + (((Int32.toUInt32 u3) >>> ((Int32.toUInt32 8) &&& Int32.toUInt32 31)).toInt32)))], [.int (((Int32.toUInt32 (u3 + (((Int32.toUInt32 u3) >>> ((Int32.toUInt32 8) &&& Int32.toUInt32 31)).toInt32))) >>> ((Int32.toUInt32 16) &&& Int32.toUInt32 31)).toInt32), .int (u3 + (((Int32.toUInt32 u3) >>> ((Int32.toUInt32 8) &&& Int32.toUInt32 31)).toInt32))], M)) rfl rfl rfl ?_
  generalize (((Int32.toUInt32 (u3 + (((Int32.toUInt32 u3) >>> ((Int32.toUInt32 8) &&& Int32.toUInt32 31)).toInt32))) >>> ((Int32.toUInt32 16) &&& Int32.toUInt32 31)).toInt32) = u4
  refine ml_st (S' := (47, [(0, .int (u3 + (((Int32.toUInt32 u3) >>> ((Int32.toUInt32 8) &&& Int32.toUInt32 31)).toInt32)))], [.int ((u3 + (((Int32.toUInt32 u3) >>> ((Int32.toUInt32 8) &&& Int32.toUInt32 31)).toInt32)) + u4)], M)) rfl rfl rfl ?_
  refine ml_st (S' := (48, [(0, .int ((u3 + (((Int32.toUInt32 u3) >>> ((Int32.toUInt32 8) &&& Int32.toUInt32 31)).toInt32)) + u4))], [], M)) rfl rfl rfl ?_
  refine ml_blk 3 (S' := (52, [(0, .int ((u3 + (((Int32.toUInt32 u3) >>> ((Int32.toUInt32 8) &&& Int32.toUInt32 31)).toInt32)) + u4))], [.int (((u3 + (((Int32.toUInt32 u3) >>> ((Int32.toUInt32 8) &&& Int32.toUInt32 31)).toInt32)) + u4) &&& 63)], M)) rfl ?_
  exact ml_ret rfl (rfl) (⟨⟨_, rfl⟩, rfl⟩)
set_option maxHeartbeats 2000000 in
theorem tw_Po_namesInit {g : xe_G} {M : mi_H} {Y : yT} {p : Nat} {pp : List Nat} {x1 : Int32}  (hW : WF g Y M) (hY0 : Y.1 p = some (7, pp)) {d : Nat} (hd : 3 ≤ d) : mt (mT g) d 129 [.ref p, .int x1] M (pZ M) := by
  obtain ⟨d, rfl⟩ : ∃ e, d = e + 1 := ⟨d - 1, by omega⟩
  have hS : st g Y M M := st.rf hW
  refine mt_in (b := mb_129 g) rfl rfl ?_
  show ml (mT g) d (mb_129 g).2 (0, [(0, .ref p), (1, .int x1)], [], M) _
  refine ml_blk 3 (S' := (3, [(0, .ref p), (1, .int x1)], [.int x1, .ref p, .ref p], M)) rfl ?_
  refine ml_call (a := [.ref p, .int x1]) (rest := [.ref p]) rfl (okc_t rfl rfl rfl hS.1 hY0 (by decide)) rfl rfl (tq_nameOf hS.1 hY0 (by omega)) (fun v1 M2 h3 => ?_)
  obtain ⟨⟨u4, rfl⟩, h3⟩ := h3
  rw [h3]
  show ml _ _ _ (6, [(0, .ref p), (1, .int x1)], [.int u4, .ref p], M) _
  refine ml_st (S' := (8, [(0, .ref p), (1, .int x1)], [.ref (g.2.1 14), .int u4, .ref p], M)) rfl rfl rfl ?_
  refine ml_call (a := [.ref p, .int u4, .ref (g.2.1 14)]) (rest := []) rfl (okc_t rfl rfl rfl hS.1 hY0 (by decide)) rfl rfl (tq_textIs (lk := 14) hS.1 hY0 (by decide) (by omega)) (fun v5 M6 h7 => ?_)
  obtain ⟨⟨x8, rfl, z9⟩, h7⟩ := h7
  rw [h7]
  show ml _ _ _ (11, [(0, .ref p), (1, .int x1)], [.int x8], M) _
  exact ml_ret rfl (r_z (z9)) (⟨⟨_, rfl, z9⟩, rfl⟩)
set_option maxHeartbeats 2000000 in
theorem tw_Po_isMember {g : xe_G} {M : mi_H} {Y : yT} {a p vd : Nat} {pp : List Nat} {x1 : Int32}  (hW : WF g Y M) (hY0 : Y.1 a = some (8, [p, vd])) (hY1 : Y.1 p = some (7, pp)) (hY2 : Y.1 vd = some (10, [])) {d : Nat} (hd : 2 ≤ d) : mt (mT g) d 148 [.ref a, .int x1] M (pZ M) := by
  obtain ⟨d, rfl⟩ : ∃ e, d = e + 1 := ⟨d - 1, by omega⟩
  have hS : st g Y M M := st.rf hW
  refine mt_in (b := mb_148 g) rfl rfl ?_
  show ml (mT g) d (mb_148 g).2 (0, [(0, .ref a), (1, .int x1)], [], M) _
  refine ml_st (S' := (1, [(0, .ref a), (1, .int x1)], [.ref a], M)) rfl rfl rfl ?_
  refine tg_ref (S' := (4, [(0, .ref a), (1, .int x1)], [.ref p], M)) rfl hS.1 hY0 (by decide) rfl rfl ?_
  refine ml_st (S' := (5, [(0, .ref a), (1, .int x1)], [.int x1, .ref p], M)) rfl rfl rfl ?_
  refine ml_call (a := [.ref p, .int x1]) (rest := []) rfl (okc_t rfl rfl rfl hS.1 hY1 (by decide)) rfl rfl (tq_tagOf hS.1 hY1 (by omega)) (fun v1 M2 h3 => ?_)
  obtain ⟨⟨u4, rfl⟩, h3⟩ := h3
  rw [h3]
  show ml _ _ _ (8, [(0, .ref a), (1, .int x1)], [.int u4], M) _
  refine ml_st (S' := (9, [(2, .int u4), (0, .ref a), (1, .int x1)], [], M)) rfl rfl rfl ?_
  refine ml_blk 2 (S' := (12, [(2, .int u4), (0, .ref a), (1, .int x1)], [.int 9, .int u4], M)) rfl ?_
  refine ml_if2 (S1 := (27, [], [], M)) (S2 := (15, [(2, .int u4), (0, .ref a), (1, .int x1)], [], M)) rfl rfl rfl (fun c_12 => ?_) (fun c_12 => ?_)
  · have c_12 : u4 = 9 := of_decide_eq_true c_12
    refine ml_st (S' := (28, [], [.int 1], M)) rfl rfl rfl ?_
    refine ml_st (S' := (32, [], [.int 1], M)) rfl rfl rfl ?_
    exact ml_ret rfl (r_z (Or.inr rfl)) (⟨⟨_, rfl, Or.inr rfl⟩, rfl⟩)
  · have c_12 : ¬ (u4 = 9) := of_decide_eq_false c_12
    refine ml_blk 2 (S' := (18, [(2, .int u4), (0, .ref a), (1, .int x1)], [.int 10, .int u4], M)) rfl ?_
    refine ml_if2 (S1 := (27, [], [], M)) (S2 := (21, [(2, .int u4), (0, .ref a), (1, .int x1)], [], M)) rfl rfl rfl (fun c_18 => ?_) (fun c_18 => ?_)
    · have c_18 : u4 = 10 := of_decide_eq_true c_18
      refine ml_st (S' := (28, [], [.int 1], M)) rfl rfl rfl ?_
      refine ml_st (S' := (32, [], [.int 1], M)) rfl rfl rfl ?_
      exact ml_ret rfl (r_z (Or.inr rfl)) (⟨⟨_, rfl, Or.inr rfl⟩, rfl⟩)
    · have c_18 : ¬ (u4 = 10) := of_decide_eq_false c_18
      refine ml_blk 2 (S' := (24, [(2, .int u4), (0, .ref a), (1, .int x1)], [.int 11, .int u4], M)) rfl ?_
      refine ml_if2 (S1 := (31, [(2, .int u4), (0, .ref a), (1, .int x1)], [], M)) (S2 := (27, [], [], M)) rfl rfl rfl (fun c_24 => ?_) (fun c_24 => ?_)
      · have c_24 : ¬ u4 = 11 := of_decide_eq_true c_24
        refine ml_st (S' := (32, [], [.int 0], M)) rfl rfl rfl ?_
        exact ml_ret rfl (r_z (Or.inl rfl)) (⟨⟨_, rfl, Or.inl rfl⟩, rfl⟩)
      · have c_24 : ¬ (¬ u4 = 11) := of_decide_eq_false c_24
        refine ml_st (S' := (28, [], [.int 1], M)) rfl rfl rfl ?_
        refine ml_st (S' := (32, [], [.int 1], M)) rfl rfl rfl ?_
        exact ml_ret rfl (r_z (Or.inr rfl)) (⟨⟨_, rfl, Or.inr rfl⟩, rfl⟩)
set_option maxHeartbeats 2000000 in
theorem tw_Po_pairHolds {g : xe_G} {M : mi_H} {Y : yT} {a p vd : Nat} {pp : List Nat} {x1 : Int32}  (hW : WF g Y M) (hY0 : Y.1 a = some (8, [p, vd])) (hY1 : Y.1 p = some (7, pp)) (hY2 : Y.1 vd = some (10, [])) {d : Nat} (hd : 2 ≤ d) : mt (mT g) d 153 [.ref a, .int x1] M (pZ M) := by
  obtain ⟨d, rfl⟩ : ∃ e, d = e + 1 := ⟨d - 1, by omega⟩
  have hS : st g Y M M := st.rf hW
  refine mt_in (b := mb_153 g) rfl rfl ?_
  show ml (mT g) d (mb_153 g).2 (0, [(0, .ref a), (1, .int x1)], [], M) _
  refine ml_st (S' := (1, [(0, .ref a), (1, .int x1)], [.ref a], M)) rfl rfl rfl ?_
  refine tg_ref (S' := (4, [(0, .ref a), (1, .int x1)], [.ref p], M)) rfl hS.1 hY0 (by decide) rfl rfl ?_
  refine ml_st (S' := (5, [(0, .ref a), (1, .int x1)], [.int x1, .ref p], M)) rfl rfl rfl ?_
  refine ml_call (a := [.ref p, .int x1]) (rest := []) rfl (okc_t rfl rfl rfl hS.1 hY1 (by decide)) rfl rfl (tq_tagOf hS.1 hY1 (by omega)) (fun v1 M2 h3 => ?_)
  obtain ⟨⟨u4, rfl⟩, h3⟩ := h3
  rw [h3]
  show ml _ _ _ (8, [(0, .ref a), (1, .int x1)], [.int u4], M) _
  refine ml_st (S' := (10, [(0, .ref a), (1, .int x1)], [.int 12, .int u4], M)) rfl rfl rfl ?_
  refine ml_if2 (S1 := (55, [], [], M)) (S2 := (13, [(0, .ref a), (1, .int x1)], [], M)) rfl rfl rfl (fun c_10 => ?_) (fun c_10 => ?_)
  · have c_10 : ¬ u4 = 12 := of_decide_eq_true c_10
    refine ml_st (S' := (56, [], [.int 0], M)) rfl rfl rfl ?_
    exact ml_ret rfl (r_z (Or.inl rfl)) (⟨⟨_, rfl, Or.inl rfl⟩, rfl⟩)
  · have c_10 : ¬ (¬ u4 = 12) := of_decide_eq_false c_10
    refine ml_st (S' := (14, [(0, .ref a), (1, .int x1)], [.ref a], M)) rfl rfl rfl ?_
    refine tg_ref (S' := (17, [(0, .ref a), (1, .int x1)], [.ref p], M)) rfl hS.1 hY0 (by decide) rfl rfl ?_
    refine ml_st (S' := (18, [(0, .ref a), (1, .int x1)], [.ref a, .ref p], M)) rfl rfl rfl ?_
    refine tg_ref (S' := (21, [(0, .ref a), (1, .int x1)], [.ref p, .ref p], M)) rfl hS.1 hY0 (by decide) rfl rfl ?_
    refine ml_st (S' := (22, [(0, .ref a), (1, .int x1)], [.int x1, .ref p, .ref p], M)) rfl rfl rfl ?_
    refine ml_call (a := [.ref p, .int x1]) (rest := [.ref p]) rfl (okc_t rfl rfl rfl hS.1 hY1 (by decide)) rfl rfl (tq_firstIndex hS.1 hY1 (by omega)) (fun v5 M6 h7 => ?_)
    obtain ⟨⟨u8, rfl⟩, h7⟩ := h7
    rw [h7]
    show ml _ _ _ (25, [(0, .ref a), (1, .int x1)], [.int u8, .ref p], M) _
    refine ml_call (a := [.ref p, .int u8]) (rest := []) rfl (okc_t rfl rfl rfl hS.1 hY1 (by decide)) rfl rfl (tq_tagOf hS.1 hY1 (by omega)) (fun v9 M10 h11 => ?_)
    obtain ⟨⟨u12, rfl⟩, h11⟩ := h11
    rw [h11]
    show ml _ _ _ (28, [(0, .ref a), (1, .int x1)], [.int u12], M) _
    refine ml_st (S' := (29, [(0, .ref a), (1, .int x1)], [.int 1, .int u12], M)) rfl rfl rfl ?_
    refine ml_if2 (S1 := (55, [], [], M)) (S2 := (32, [(0, .ref a), (1, .int x1)], [], M)) rfl rfl rfl (fun c_29 => ?_) (fun c_29 => ?_)
    · have c_29 : ¬ u12 = 1 := of_decide_eq_true c_29
      refine ml_st (S' := (56, [], [.int 0], M)) rfl rfl rfl ?_
      exact ml_ret rfl (r_z (Or.inl rfl)) (⟨⟨_, rfl, Or.inl rfl⟩, rfl⟩)
    · have c_29 : ¬ (¬ u12 = 1) := of_decide_eq_false c_29
      refine ml_st (S' := (33, [(0, .ref a), (1, .int x1)], [.ref a], M)) rfl rfl rfl ?_
      refine tg_ref (S' := (36, [(0, .ref a), (1, .int x1)], [.ref p], M)) rfl hS.1 hY0 (by decide) rfl rfl ?_
      refine ml_st (S' := (37, [(0, .ref a), (1, .int x1)], [.ref a, .ref p], M)) rfl rfl rfl ?_
      refine tg_ref (S' := (40, [(0, .ref a), (1, .int x1)], [.ref p, .ref p], M)) rfl hS.1 hY0 (by decide) rfl rfl ?_
      refine ml_st (S' := (41, [(0, .ref a), (1, .int x1)], [.int x1, .ref p, .ref p], M)) rfl rfl rfl ?_
      refine ml_call (a := [.ref p, .int x1]) (rest := [.ref p]) rfl (okc_t rfl rfl rfl hS.1 hY1 (by decide)) rfl rfl (tq_secondIndex hS.1 hY1 (by omega)) (fun v13 M14 h15 => ?_)
      obtain ⟨⟨u16, rfl⟩, h15⟩ := h15
      rw [h15]
      show ml _ _ _ (44, [(0, .ref a), (1, .int x1)], [.int u16, .ref p], M) _
      refine ml_call (a := [.ref p, .int u16]) (rest := []) rfl (okc_t rfl rfl rfl hS.1 hY1 (by decide)) rfl rfl (tq_tagOf hS.1 hY1 (by omega)) (fun v17 M18 h19 => ?_)
      obtain ⟨⟨u20, rfl⟩, h19⟩ := h19
      rw [h19]
      show ml _ _ _ (47, [(0, .ref a), (1, .int x1)], [.int u20], M) _
      refine ml_st (S' := (48, [(0, .ref a), (1, .int x1)], [.int 1, .int u20], M)) rfl rfl rfl ?_
      refine ml_if2 (S1 := (55, [], [], M)) (S2 := (51, [(0, .ref a), (1, .int x1)], [], M)) rfl rfl rfl (fun c_48 => ?_) (fun c_48 => ?_)
      · have c_48 : ¬ u20 = 1 := of_decide_eq_true c_48
        refine ml_st (S' := (56, [], [.int 0], M)) rfl rfl rfl ?_
        exact ml_ret rfl (r_z (Or.inl rfl)) (⟨⟨_, rfl, Or.inl rfl⟩, rfl⟩)
      · have c_48 : ¬ (¬ u20 = 1) := of_decide_eq_false c_48
        refine ml_st (S' := (52, [(0, .ref a), (1, .int x1)], [.int 1], M)) rfl rfl rfl ?_
        refine ml_st (S' := (56, [], [.int 1], M)) rfl rfl rfl ?_
        exact ml_ret rfl (r_z (Or.inr rfl)) (⟨⟨_, rfl, Or.inr rfl⟩, rfl⟩)
set_option maxHeartbeats 2000000 in
theorem tw_Po_memberHolds {g : xe_G} {M : mi_H} {Y : yT} {a p vd : Nat} {pp : List Nat} {x1 : Int32}  (hW : WF g Y M) (hY0 : Y.1 a = some (8, [p, vd])) (hY1 : Y.1 p = some (7, pp)) (hY2 : Y.1 vd = some (10, [])) {d : Nat} (hd : 3 ≤ d) : mt (mT g) d 152 [.ref a, .int x1] M (pZ M) := by
  obtain ⟨d, rfl⟩ : ∃ e, d = e + 1 := ⟨d - 1, by omega⟩
  have hS : st g Y M M := st.rf hW
  refine mt_in (b := mb_152 g) rfl rfl ?_
  show ml (mT g) d (mb_152 g).2 (0, [(0, .ref a), (1, .int x1)], [], M) _
  refine ml_st (S' := (1, [(0, .ref a), (1, .int x1)], [.ref a], M)) rfl rfl rfl ?_
  refine tg_ref (S' := (4, [(0, .ref a), (1, .int x1)], [.ref p], M)) rfl hS.1 hY0 (by decide) rfl rfl ?_
  refine ml_st (S' := (5, [(0, .ref a), (1, .int x1)], [.int x1, .ref p], M)) rfl rfl rfl ?_
  refine ml_call (a := [.ref p, .int x1]) (rest := []) rfl (okc_t rfl rfl rfl hS.1 hY1 (by decide)) rfl rfl (tq_firstIndex hS.1 hY1 (by omega)) (fun v1 M2 h3 => ?_)
  obtain ⟨⟨u4, rfl⟩, h3⟩ := h3
  rw [h3]
  show ml _ _ _ (8, [(0, .ref a), (1, .int x1)], [.int u4], M) _
  refine ml_st (S' := (9, [(2, .int u4), (0, .ref a), (1, .int x1)], [], M)) rfl rfl rfl ?_
  refine ml_st (S' := (10, [(2, .int u4), (0, .ref a), (1, .int x1)], [.ref a], M)) rfl rfl rfl ?_
  refine tg_ref (S' := (13, [(2, .int u4), (0, .ref a), (1, .int x1)], [.ref p], M)) rfl hS.1 hY0 (by decide) rfl rfl ?_
  refine ml_st (S' := (14, [(2, .int u4), (0, .ref a), (1, .int x1)], [.int u4, .ref p], M)) rfl rfl rfl ?_
  refine ml_call (a := [.ref p, .int u4]) (rest := []) rfl (okc_t rfl rfl rfl hS.1 hY1 (by decide)) rfl rfl (tq_tagOf hS.1 hY1 (by omega)) (fun v5 M6 h7 => ?_)
  obtain ⟨⟨u8, rfl⟩, h7⟩ := h7
  rw [h7]
  show ml _ _ _ (17, [(2, .int u4), (0, .ref a), (1, .int x1)], [.int u8], M) _
  refine ml_st (S' := (19, [(2, .int u4), (0, .ref a), (1, .int x1)], [.int 7, .int u8], M)) rfl rfl rfl ?_
  refine ml_if2 (S1 := (60, [], [], M)) (S2 := (22, [(2, .int u4), (0, .ref a), (1, .int x1)], [], M)) rfl rfl rfl (fun c_19 => ?_) (fun c_19 => ?_)
  · have c_19 : ¬ u8 = 7 := of_decide_eq_true c_19
    refine ml_st (S' := (61, [], [.int 0], M)) rfl rfl rfl ?_
    exact ml_ret rfl (r_z (Or.inl rfl)) (⟨⟨_, rfl, Or.inl rfl⟩, rfl⟩)
  · have c_19 : ¬ (¬ u8 = 7) := of_decide_eq_false c_19
    refine ml_st (S' := (23, [(2, .int u4), (0, .ref a), (1, .int x1)], [.ref a], M)) rfl rfl rfl ?_
    refine tg_ref (S' := (26, [(2, .int u4), (0, .ref a), (1, .int x1)], [.ref p], M)) rfl hS.1 hY0 (by decide) rfl rfl ?_
    refine ml_st (S' := (27, [(2, .int u4), (0, .ref a), (1, .int x1)], [.ref a, .ref p], M)) rfl rfl rfl ?_
    refine tg_ref (S' := (30, [(2, .int u4), (0, .ref a), (1, .int x1)], [.ref p, .ref p], M)) rfl hS.1 hY0 (by decide) rfl rfl ?_
    refine ml_st (S' := (31, [(2, .int u4), (0, .ref a), (1, .int x1)], [.int u4, .ref p, .ref p], M)) rfl rfl rfl ?_
    refine ml_call (a := [.ref p, .int u4]) (rest := [.ref p]) rfl (okc_t rfl rfl rfl hS.1 hY1 (by decide)) rfl rfl (tq_firstIndex hS.1 hY1 (by omega)) (fun v9 M10 h11 => ?_)
    obtain ⟨⟨u12, rfl⟩, h11⟩ := h11
    rw [h11]
    show ml _ _ _ (34, [(2, .int u4), (0, .ref a), (1, .int x1)], [.int u12, .ref p], M) _
    refine ml_call (a := [.ref p, .int u12]) (rest := []) rfl (okc_t rfl rfl rfl hS.1 hY1 (by decide)) rfl rfl (tq_tagOf hS.1 hY1 (by omega)) (fun v13 M14 h15 => ?_)
    obtain ⟨⟨u16, rfl⟩, h15⟩ := h15
    rw [h15]
    show ml _ _ _ (37, [(2, .int u4), (0, .ref a), (1, .int x1)], [.int u16], M) _
    refine ml_st (S' := (38, [(2, .int u4), (0, .ref a), (1, .int x1)], [.int 1, .int u16], M)) rfl rfl rfl ?_
    refine ml_if2 (S1 := (60, [], [], M)) (S2 := (41, [(2, .int u4), (0, .ref a), (1, .int x1)], [], M)) rfl rfl rfl (fun c_38 => ?_) (fun c_38 => ?_)
    · have c_38 : ¬ u16 = 1 := of_decide_eq_true c_38
      refine ml_st (S' := (61, [], [.int 0], M)) rfl rfl rfl ?_
      exact ml_ret rfl (r_z (Or.inl rfl)) (⟨⟨_, rfl, Or.inl rfl⟩, rfl⟩)
    · have c_38 : ¬ (¬ u16 = 1) := of_decide_eq_false c_38
      refine ml_blk 2 (S' := (43, [(2, .int u4), (0, .ref a), (1, .int x1)], [.ref a, .ref a], M)) rfl ?_
      refine tg_ref (S' := (46, [(2, .int u4), (0, .ref a), (1, .int x1)], [.ref p, .ref a], M)) rfl hS.1 hY0 (by decide) rfl rfl ?_
      refine ml_st (S' := (47, [(2, .int u4), (0, .ref a), (1, .int x1)], [.int x1, .ref p, .ref a], M)) rfl rfl rfl ?_
      refine ml_call (a := [.ref p, .int x1]) (rest := [.ref a]) rfl (okc_t rfl rfl rfl hS.1 hY1 (by decide)) rfl rfl (tq_secondIndex hS.1 hY1 (by omega)) (fun v17 M18 h19 => ?_)
      obtain ⟨⟨u20, rfl⟩, h19⟩ := h19
      rw [h19]
      show ml _ _ _ (50, [(2, .int u4), (0, .ref a), (1, .int x1)], [.int u20, .ref a], M) _
      refine ml_call (a := [.ref a, .int u20]) (rest := []) rfl (okc_t rfl rfl rfl hS.1 hY0 (by decide)) rfl rfl (tw_Po_pairHolds hS.1 hY0 hY1 hY2 (by omega)) (fun v21 M22 h23 => ?_)
      obtain ⟨⟨u24, rfl, z25⟩, h23⟩ := h23
      rw [h23]
      show ml _ _ _ (53, [(2, .int u4), (0, .ref a), (1, .int x1)], [.int u24], M) _
      refine ml_if (S1 := (60, [], [], M)) (S2 := (56, [(2, .int u4), (0, .ref a), (1, .int x1)], [], M)) rfl rfl rfl (fun c_53 => ?_) (fun c_53 => ?_)
      · have c_53 : u24 = 0 := of_decide_eq_true c_53
        refine ml_st (S' := (61, [], [.int 0], M)) rfl rfl rfl ?_
        exact ml_ret rfl (r_z (Or.inl rfl)) (⟨⟨_, rfl, Or.inl rfl⟩, rfl⟩)
      · have c_53 : ¬ (u24 = 0) := of_decide_eq_false c_53
        refine ml_st (S' := (57, [(2, .int u4), (0, .ref a), (1, .int x1)], [.int 1], M)) rfl rfl rfl ?_
        refine ml_st (S' := (61, [], [.int 1], M)) rfl rfl rfl ?_
        exact ml_ret rfl (r_z (Or.inr rfl)) (⟨⟨_, rfl, Or.inr rfl⟩, rfl⟩)
set_option maxHeartbeats 2000000 in
theorem tw_Po_linksHold {g : xe_G} {M : mi_H} {Y : yT} {a p vd : Nat} {pp : List Nat} {x1 : Int32}  (hW : WF g Y M) (hY0 : Y.1 a = some (8, [p, vd])) (hY1 : Y.1 p = some (7, pp)) (hY2 : Y.1 vd = some (10, [])) {d : Nat} (hd : 4 ≤ d) : mt (mT g) d 151 [.ref a, .int x1] M (pZ M) := by
  obtain ⟨d, rfl⟩ : ∃ e, d = e + 1 := ⟨d - 1, by omega⟩
  have hS : st g Y M M := st.rf hW
  refine mt_in (b := mb_151 g) rfl rfl ?_
  show ml (mT g) d (mb_151 g).2 (0, [(0, .ref a), (1, .int x1)], [], M) _
  refine ml_st (S' := (1, [(0, .ref a), (1, .int x1)], [.ref a], M)) rfl rfl rfl ?_
  refine tg_ref (S' := (4, [(0, .ref a), (1, .int x1)], [.ref p], M)) rfl hS.1 hY0 (by decide) rfl rfl ?_
  refine ml_st (S' := (5, [(0, .ref a), (1, .int x1)], [.int x1, .ref p], M)) rfl rfl rfl ?_
  refine ml_call (a := [.ref p, .int x1]) (rest := []) rfl (okc_t rfl rfl rfl hS.1 hY1 (by decide)) rfl rfl (tq_tagOf hS.1 hY1 (by omega)) (fun v1 M2 h3 => ?_)
  obtain ⟨⟨u4, rfl⟩, h3⟩ := h3
  rw [h3]
  show ml _ _ _ (8, [(0, .ref a), (1, .int x1)], [.int u4], M) _
  refine ml_sw rfl (fun t_8 ht_8 => ?_)
  have kt_8 := ht_8
  have ht_8 : t_8 ∈ [80, 105, 111, 117, 159, 172] := mi_sw_sub ht_8 (by decide)
  simp only [List.mem_cons, List.not_mem_nil, or_false] at ht_8
  rcases ht_8 with rfl | rfl | rfl | rfl | rfl | rfl
  · show ml _ _ _ (80, [(0, .ref a), (1, .int x1)], [], M) _
    refine ml_st (S' := (81, [(0, .ref a), (1, .int x1)], [.ref a], M)) rfl rfl rfl ?_
    refine tg_ref (S' := (84, [(0, .ref a), (1, .int x1)], [.ref p], M)) rfl hS.1 hY0 (by decide) rfl rfl ?_
    refine ml_st (S' := (85, [(0, .ref a), (1, .int x1)], [.ref a, .ref p], M)) rfl rfl rfl ?_
    refine tg_ref (S' := (88, [(0, .ref a), (1, .int x1)], [.ref p, .ref p], M)) rfl hS.1 hY0 (by decide) rfl rfl ?_
    refine ml_st (S' := (89, [(0, .ref a), (1, .int x1)], [.int x1, .ref p, .ref p], M)) rfl rfl rfl ?_
    refine ml_call (a := [.ref p, .int x1]) (rest := [.ref p]) rfl (okc_t rfl rfl rfl hS.1 hY1 (by decide)) rfl rfl (tq_firstIndex hS.1 hY1 (by omega)) (fun v5 M6 h7 => ?_)
    obtain ⟨⟨u8, rfl⟩, h7⟩ := h7
    rw [h7]
    show ml _ _ _ (92, [(0, .ref a), (1, .int x1)], [.int u8, .ref p], M) _
    refine ml_call (a := [.ref p, .int u8]) (rest := []) rfl (okc_t rfl rfl rfl hS.1 hY1 (by decide)) rfl rfl (tq_tagOf hS.1 hY1 (by omega)) (fun v9 M10 h11 => ?_)
    obtain ⟨⟨u12, rfl⟩, h11⟩ := h11
    rw [h11]
    show ml _ _ _ (95, [(0, .ref a), (1, .int x1)], [.int u12], M) _
    refine ml_st (S' := (96, [(0, .ref a), (1, .int x1)], [.int 1, .int u12], M)) rfl rfl rfl ?_
    refine ml_if2 (S1 := (103, [(0, .ref a), (1, .int x1)], [], M)) (S2 := (99, [(0, .ref a), (1, .int x1)], [], M)) rfl rfl rfl (fun c_96 => ?_) (fun c_96 => ?_)
    · have c_96 : ¬ u12 = 1 := of_decide_eq_true c_96
      refine ml_st (S' := (104, [], [.int 0], M)) rfl rfl rfl ?_
      exact ml_ret rfl (r_z (Or.inl rfl)) (⟨⟨_, rfl, Or.inl rfl⟩, rfl⟩)
    · have c_96 : ¬ (¬ u12 = 1) := of_decide_eq_false c_96
      refine ml_st (S' := (100, [(0, .ref a), (1, .int x1)], [.int 1], M)) rfl rfl rfl ?_
      refine ml_st (S' := (104, [], [.int 1], M)) rfl rfl rfl ?_
      exact ml_ret rfl (r_z (Or.inr rfl)) (⟨⟨_, rfl, Or.inr rfl⟩, rfl⟩)
  · show ml _ _ _ (105, [(0, .ref a), (1, .int x1)], [], M) _
    refine ml_blk 2 (S' := (107, [(0, .ref a), (1, .int x1)], [.int x1, .ref a], M)) rfl ?_
    refine ml_call (a := [.ref a, .int x1]) (rest := []) rfl (okc_t rfl rfl rfl hS.1 hY0 (by decide)) rfl rfl (tw_Po_pairHolds hS.1 hY0 hY1 hY2 (by omega)) (fun v13 M14 h15 => ?_)
    obtain ⟨⟨u16, rfl, z17⟩, h15⟩ := h15
    rw [h15]
    show ml _ _ _ (110, [(0, .ref a), (1, .int x1)], [.int u16], M) _
    exact ml_ret rfl (r_z (z17)) (⟨⟨_, rfl, z17⟩, rfl⟩)
  · show ml _ _ _ (111, [(0, .ref a), (1, .int x1)], [], M) _
    refine ml_blk 2 (S' := (113, [(0, .ref a), (1, .int x1)], [.int x1, .ref a], M)) rfl ?_
    refine ml_call (a := [.ref a, .int x1]) (rest := []) rfl (okc_t rfl rfl rfl hS.1 hY0 (by decide)) rfl rfl (tw_Po_memberHolds hS.1 hY0 hY1 hY2 (by omega)) (fun v18 M19 h20 => ?_)
    obtain ⟨⟨u21, rfl, z22⟩, h20⟩ := h20
    rw [h20]
    show ml _ _ _ (116, [(0, .ref a), (1, .int x1)], [.int u21], M) _
    exact ml_ret rfl (r_z (z22)) (⟨⟨_, rfl, z22⟩, rfl⟩)
  · show ml _ _ _ (117, [(0, .ref a), (1, .int x1)], [], M) _
    refine ml_st (S' := (118, [(0, .ref a), (1, .int x1)], [.ref a], M)) rfl rfl rfl ?_
    refine tg_ref (S' := (121, [(0, .ref a), (1, .int x1)], [.ref p], M)) rfl hS.1 hY0 (by decide) rfl rfl ?_
    refine ml_st (S' := (122, [(0, .ref a), (1, .int x1)], [.int x1, .ref p], M)) rfl rfl rfl ?_
    refine ml_call (a := [.ref p, .int x1]) (rest := []) rfl (okc_t rfl rfl rfl hS.1 hY1 (by decide)) rfl rfl (tq_secondIndex hS.1 hY1 (by omega)) (fun v23 M24 h25 => ?_)
    obtain ⟨⟨u26, rfl⟩, h25⟩ := h25
    rw [h25]
    show ml _ _ _ (125, [(0, .ref a), (1, .int x1)], [.int u26], M) _
    refine ml_st (S' := (126, [(2, .int u26), (0, .ref a), (1, .int x1)], [], M)) rfl rfl rfl ?_
    refine ml_blk 2 (S' := (128, [(2, .int u26), (0, .ref a), (1, .int x1)], [.int u26, .ref a], M)) rfl ?_
    refine ml_call (a := [.ref a, .int u26]) (rest := []) rfl (okc_t rfl rfl rfl hS.1 hY0 (by decide)) rfl rfl (tw_Po_isMember hS.1 hY0 hY1 hY2 (by omega)) (fun v27 M28 h29 => ?_)
    obtain ⟨⟨u30, rfl, z31⟩, h29⟩ := h29
    rw [h29]
    show ml _ _ _ (131, [(2, .int u26), (0, .ref a), (1, .int x1)], [.int u30], M) _
    refine ml_if (S1 := (142, [(2, .int u26), (0, .ref a), (1, .int x1)], [], M)) (S2 := (134, [(2, .int u26), (0, .ref a), (1, .int x1)], [], M)) rfl rfl rfl (fun c_131 => ?_) (fun c_131 => ?_)
    · have c_131 : u30 = 0 := of_decide_eq_true c_131
      refine ml_st (S' := (143, [(2, .int u26), (0, .ref a), (1, .int x1)], [.ref a], M)) rfl rfl rfl ?_
      refine tg_ref (S' := (146, [(2, .int u26), (0, .ref a), (1, .int x1)], [.ref p], M)) rfl hS.1 hY0 (by decide) rfl rfl ?_
      refine ml_st (S' := (147, [(2, .int u26), (0, .ref a), (1, .int x1)], [.int u26, .ref p], M)) rfl rfl rfl ?_
      refine ml_call (a := [.ref p, .int u26]) (rest := []) rfl (okc_t rfl rfl rfl hS.1 hY1 (by decide)) rfl rfl (tq_tagOf hS.1 hY1 (by omega)) (fun v32 M33 h34 => ?_)
      obtain ⟨⟨u35, rfl⟩, h34⟩ := h34
      rw [h34]
      show ml _ _ _ (150, [(2, .int u26), (0, .ref a), (1, .int x1)], [.int u35], M) _
      refine ml_if (S1 := (157, [(2, .int u26), (0, .ref a), (1, .int x1)], [], M)) (S2 := (153, [(2, .int u26), (0, .ref a), (1, .int x1)], [], M)) rfl rfl rfl (fun c_150 => ?_) (fun c_150 => ?_)
      · have c_150 : u35 = 0 := of_decide_eq_true c_150
        refine ml_st (S' := (158, [], [.int 0], M)) rfl rfl rfl ?_
        exact ml_ret rfl (r_z (Or.inl rfl)) (⟨⟨_, rfl, Or.inl rfl⟩, rfl⟩)
      · have c_150 : ¬ (u35 = 0) := of_decide_eq_false c_150
        refine ml_st (S' := (154, [(2, .int u26), (0, .ref a), (1, .int x1)], [.int 1], M)) rfl rfl rfl ?_
        refine ml_st (S' := (158, [], [.int 1], M)) rfl rfl rfl ?_
        exact ml_ret rfl (r_z (Or.inr rfl)) (⟨⟨_, rfl, Or.inr rfl⟩, rfl⟩)
    · have c_131 : ¬ (u30 = 0) := of_decide_eq_false c_131
      refine ml_blk 2 (S' := (136, [(2, .int u26), (0, .ref a), (1, .int x1)], [.int u26, .ref a], M)) rfl ?_
      refine ml_call (a := [.ref a, .int u26]) (rest := []) rfl (okc_t rfl rfl rfl hS.1 hY0 (by decide)) rfl rfl (tw_Po_memberHolds hS.1 hY0 hY1 hY2 (by omega)) (fun v36 M37 h38 => ?_)
      obtain ⟨⟨u39, rfl, z40⟩, h38⟩ := h38
      rw [h38]
      show ml _ _ _ (139, [(2, .int u26), (0, .ref a), (1, .int x1)], [.int u39], M) _
      refine ml_st (S' := (158, [], [.int u39], M)) rfl rfl rfl ?_
      exact ml_ret rfl (r_z (z40)) (⟨⟨_, rfl, z40⟩, rfl⟩)
  · show ml _ _ _ (159, [(0, .ref a), (1, .int x1)], [], M) _
    refine ml_blk 2 (S' := (161, [(0, .ref a), (1, .int x1)], [.ref a, .ref a], M)) rfl ?_
    refine tg_ref (S' := (164, [(0, .ref a), (1, .int x1)], [.ref p, .ref a], M)) rfl hS.1 hY0 (by decide) rfl rfl ?_
    refine ml_st (S' := (165, [(0, .ref a), (1, .int x1)], [.int x1, .ref p, .ref a], M)) rfl rfl rfl ?_
    refine ml_call (a := [.ref p, .int x1]) (rest := [.ref a]) rfl (okc_t rfl rfl rfl hS.1 hY1 (by decide)) rfl rfl (tq_secondIndex hS.1 hY1 (by omega)) (fun v41 M42 h43 => ?_)
    obtain ⟨⟨u44, rfl⟩, h43⟩ := h43
    rw [h43]
    show ml _ _ _ (168, [(0, .ref a), (1, .int x1)], [.int u44, .ref a], M) _
    refine ml_call (a := [.ref a, .int u44]) (rest := []) rfl (okc_t rfl rfl rfl hS.1 hY0 (by decide)) rfl rfl (tw_Po_pairHolds hS.1 hY0 hY1 hY2 (by omega)) (fun v45 M46 h47 => ?_)
    obtain ⟨⟨u48, rfl, z49⟩, h47⟩ := h47
    rw [h47]
    show ml _ _ _ (171, [(0, .ref a), (1, .int x1)], [.int u48], M) _
    exact ml_ret rfl (r_z (z49)) (⟨⟨_, rfl, z49⟩, rfl⟩)
  · show ml _ _ _ (172, [(0, .ref a), (1, .int x1)], [], M) _
    refine ml_st (S' := (173, [(0, .ref a), (1, .int x1)], [.int 1], M)) rfl rfl rfl ?_
    exact ml_ret rfl (r_z (Or.inr rfl)) (⟨⟨_, rfl, Or.inr rfl⟩, rfl⟩)
set_option maxHeartbeats 2000000 in
theorem tw_Po_isNameWithType {g : xe_G} {M : mi_H} {Y : yT} {a p vd : Nat} {pp : List Nat} {x1 : Int32}  (hW : WF g Y M) (hY0 : Y.1 a = some (8, [p, vd])) (hY1 : Y.1 p = some (7, pp)) (hY2 : Y.1 vd = some (10, [])) {d : Nat} (hd : 4 ≤ d) : mt (mT g) d 150 [.ref a, .int x1] M (pZ M) := by
  obtain ⟨d, rfl⟩ : ∃ e, d = e + 1 := ⟨d - 1, by omega⟩
  have hS : st g Y M M := st.rf hW
  refine mt_in (b := mb_150 g) rfl rfl ?_
  show ml (mT g) d (mb_150 g).2 (0, [(0, .ref a), (1, .int x1)], [], M) _
  refine ml_st (S' := (1, [(0, .ref a), (1, .int x1)], [.ref a], M)) rfl rfl rfl ?_
  refine tg_ref (S' := (4, [(0, .ref a), (1, .int x1)], [.ref p], M)) rfl hS.1 hY0 (by decide) rfl rfl ?_
  refine ml_st (S' := (5, [(0, .ref a), (1, .int x1)], [.int x1, .ref p], M)) rfl rfl rfl ?_
  refine ml_call (a := [.ref p, .int x1]) (rest := []) rfl (okc_t rfl rfl rfl hS.1 hY1 (by decide)) rfl rfl (tq_secondIndex hS.1 hY1 (by omega)) (fun v1 M2 h3 => ?_)
  obtain ⟨⟨u4, rfl⟩, h3⟩ := h3
  rw [h3]
  show ml _ _ _ (8, [(0, .ref a), (1, .int x1)], [.int u4], M) _
  refine ml_st (S' := (9, [(2, .int u4), (0, .ref a), (1, .int x1)], [], M)) rfl rfl rfl ?_
  refine ml_st (S' := (10, [(2, .int u4), (0, .ref a), (1, .int x1)], [.ref a], M)) rfl rfl rfl ?_
  refine tg_ref (S' := (13, [(2, .int u4), (0, .ref a), (1, .int x1)], [.ref p], M)) rfl hS.1 hY0 (by decide) rfl rfl ?_
  refine ml_st (S' := (14, [(2, .int u4), (0, .ref a), (1, .int x1)], [.ref a, .ref p], M)) rfl rfl rfl ?_
  refine tg_ref (S' := (17, [(2, .int u4), (0, .ref a), (1, .int x1)], [.ref p, .ref p], M)) rfl hS.1 hY0 (by decide) rfl rfl ?_
  refine ml_st (S' := (18, [(2, .int u4), (0, .ref a), (1, .int x1)], [.int x1, .ref p, .ref p], M)) rfl rfl rfl ?_
  refine ml_call (a := [.ref p, .int x1]) (rest := [.ref p]) rfl (okc_t rfl rfl rfl hS.1 hY1 (by decide)) rfl rfl (tq_firstIndex hS.1 hY1 (by omega)) (fun v5 M6 h7 => ?_)
  obtain ⟨⟨u8, rfl⟩, h7⟩ := h7
  rw [h7]
  show ml _ _ _ (21, [(2, .int u4), (0, .ref a), (1, .int x1)], [.int u8, .ref p], M) _
  refine ml_call (a := [.ref p, .int u8]) (rest := []) rfl (okc_t rfl rfl rfl hS.1 hY1 (by decide)) rfl rfl (tq_isUnqualifiedName hS.1 hY1 (by omega)) (fun v9 M10 h11 => ?_)
  obtain ⟨⟨u12, rfl, z13⟩, h11⟩ := h11
  rw [h11]
  show ml _ _ _ (24, [(2, .int u4), (0, .ref a), (1, .int x1)], [.int u12], M) _
  refine ml_if (S1 := (53, [], [], M)) (S2 := (27, [(2, .int u4), (0, .ref a), (1, .int x1)], [], M)) rfl rfl rfl (fun c_24 => ?_) (fun c_24 => ?_)
  · have c_24 : u12 = 0 := of_decide_eq_true c_24
    refine ml_st (S' := (54, [], [.int 0], M)) rfl rfl rfl ?_
    exact ml_ret rfl (r_z (Or.inl rfl)) (⟨⟨_, rfl, Or.inl rfl⟩, rfl⟩)
  · have c_24 : ¬ (u12 = 0) := of_decide_eq_false c_24
    refine ml_st (S' := (28, [(2, .int u4), (0, .ref a), (1, .int x1)], [.ref a], M)) rfl rfl rfl ?_
    refine tg_ref (S' := (31, [(2, .int u4), (0, .ref a), (1, .int x1)], [.ref p], M)) rfl hS.1 hY0 (by decide) rfl rfl ?_
    refine ml_st (S' := (32, [(2, .int u4), (0, .ref a), (1, .int x1)], [.int u4, .ref p], M)) rfl rfl rfl ?_
    refine ml_call (a := [.ref p, .int u4]) (rest := []) rfl (okc_t rfl rfl rfl hS.1 hY1 (by decide)) rfl rfl (tq_isFieldDescriptor hS.1 hY1 (by omega)) (fun v14 M15 h16 => ?_)
    obtain ⟨⟨u17, rfl, z18⟩, h16⟩ := h16
    rw [h16]
    show ml _ _ _ (35, [(2, .int u4), (0, .ref a), (1, .int x1)], [.int u17], M) _
    refine ml_if (S1 := (49, [], [], M)) (S2 := (38, [(2, .int u4), (0, .ref a), (1, .int x1)], [], M)) rfl rfl rfl (fun c_35 => ?_) (fun c_35 => ?_)
    · have c_35 : ¬ u17 = 0 := of_decide_eq_true c_35
      refine ml_st (S' := (50, [], [.int 1], M)) rfl rfl rfl ?_
      refine ml_st (S' := (54, [], [.int 1], M)) rfl rfl rfl ?_
      exact ml_ret rfl (r_z (Or.inr rfl)) (⟨⟨_, rfl, Or.inr rfl⟩, rfl⟩)
    · have c_35 : ¬ (¬ u17 = 0) := of_decide_eq_false c_35
      refine ml_st (S' := (39, [(2, .int u4), (0, .ref a), (1, .int x1)], [.ref a], M)) rfl rfl rfl ?_
      refine tg_ref (S' := (42, [(2, .int u4), (0, .ref a), (1, .int x1)], [.ref p], M)) rfl hS.1 hY0 (by decide) rfl rfl ?_
      refine ml_st (S' := (43, [(2, .int u4), (0, .ref a), (1, .int x1)], [.int u4, .ref p], M)) rfl rfl rfl ?_
      refine ml_call (a := [.ref p, .int u4]) (rest := []) rfl (okc_t rfl rfl rfl hS.1 hY1 (by decide)) rfl rfl (tq_isMethodDescriptor hS.1 hY1 (by omega)) (fun v19 M20 h21 => ?_)
      obtain ⟨⟨u22, rfl, z23⟩, h21⟩ := h21
      rw [h21]
      show ml _ _ _ (46, [(2, .int u4), (0, .ref a), (1, .int x1)], [.int u22], M) _
      refine ml_if (S1 := (53, [], [], M)) (S2 := (49, [], [], M)) rfl rfl rfl (fun c_46 => ?_) (fun c_46 => ?_)
      · have c_46 : u22 = 0 := of_decide_eq_true c_46
        refine ml_st (S' := (54, [], [.int 0], M)) rfl rfl rfl ?_
        exact ml_ret rfl (r_z (Or.inl rfl)) (⟨⟨_, rfl, Or.inl rfl⟩, rfl⟩)
      · have c_46 : ¬ (u22 = 0) := of_decide_eq_false c_46
        refine ml_st (S' := (50, [], [.int 1], M)) rfl rfl rfl ?_
        refine ml_st (S' := (54, [], [.int 1], M)) rfl rfl rfl ?_
        exact ml_ret rfl (r_z (Or.inr rfl)) (⟨⟨_, rfl, Or.inr rfl⟩, rfl⟩)
set_option maxHeartbeats 2000000 in
theorem tw_Po_isMethodRef {g : xe_G} {M : mi_H} {Y : yT} {a p vd : Nat} {pp : List Nat} {x1 : Int32}  (hW : WF g Y M) (hY0 : Y.1 a = some (8, [p, vd])) (hY1 : Y.1 p = some (7, pp)) (hY2 : Y.1 vd = some (10, [])) {d : Nat} (hd : 4 ≤ d) : mt (mT g) d 149 [.ref a, .int x1] M (pZ M) := by
  obtain ⟨d, rfl⟩ : ∃ e, d = e + 1 := ⟨d - 1, by omega⟩
  have hS : st g Y M M := st.rf hW
  refine mt_in (b := mb_149 g) rfl rfl ?_
  show ml (mT g) d (mb_149 g).2 (0, [(0, .ref a), (1, .int x1)], [], M) _
  refine ml_st (S' := (1, [(0, .ref a), (1, .int x1)], [.ref a], M)) rfl rfl rfl ?_
  refine tg_ref (S' := (4, [(0, .ref a), (1, .int x1)], [.ref p], M)) rfl hS.1 hY0 (by decide) rfl rfl ?_
  refine ml_st (S' := (5, [(0, .ref a), (1, .int x1)], [.int x1, .ref p], M)) rfl rfl rfl ?_
  refine ml_call (a := [.ref p, .int x1]) (rest := []) rfl (okc_t rfl rfl rfl hS.1 hY1 (by decide)) rfl rfl (tq_descriptorOf hS.1 hY1 (by omega)) (fun v1 M2 h3 => ?_)
  obtain ⟨⟨u4, rfl⟩, h3⟩ := h3
  rw [h3]
  show ml _ _ _ (8, [(0, .ref a), (1, .int x1)], [.int u4], M) _
  refine ml_st (S' := (9, [(2, .int u4), (0, .ref a), (1, .int x1)], [], M)) rfl rfl rfl ?_
  refine ml_st (S' := (10, [(2, .int u4), (0, .ref a), (1, .int x1)], [.ref a], M)) rfl rfl rfl ?_
  refine tg_ref (S' := (13, [(2, .int u4), (0, .ref a), (1, .int x1)], [.ref p], M)) rfl hS.1 hY0 (by decide) rfl rfl ?_
  refine ml_st (S' := (14, [(2, .int u4), (0, .ref a), (1, .int x1)], [.int u4, .ref p], M)) rfl rfl rfl ?_
  refine ml_call (a := [.ref p, .int u4]) (rest := []) rfl (okc_t rfl rfl rfl hS.1 hY1 (by decide)) rfl rfl (tq_isMethodDescriptor hS.1 hY1 (by omega)) (fun v5 M6 h7 => ?_)
  obtain ⟨⟨u8, rfl, z9⟩, h7⟩ := h7
  rw [h7]
  show ml _ _ _ (17, [(2, .int u4), (0, .ref a), (1, .int x1)], [.int u8], M) _
  refine ml_if (S1 := (22, [(2, .int u4), (0, .ref a), (1, .int x1)], [], M)) (S2 := (20, [(2, .int u4), (0, .ref a), (1, .int x1)], [], M)) rfl rfl rfl (fun c_17 => ?_) (fun c_17 => ?_)
  · have c_17 : ¬ u8 = 0 := of_decide_eq_true c_17
    refine ml_st (S' := (23, [(2, .int u4), (0, .ref a), (1, .int x1)], [.ref a], M)) rfl rfl rfl ?_
    refine tg_ref (S' := (26, [(2, .int u4), (0, .ref a), (1, .int x1)], [.ref p], M)) rfl hS.1 hY0 (by decide) rfl rfl ?_
    refine ml_st (S' := (27, [(2, .int u4), (0, .ref a), (1, .int x1)], [.ref a, .ref p], M)) rfl rfl rfl ?_
    refine tg_ref (S' := (30, [(2, .int u4), (0, .ref a), (1, .int x1)], [.ref p, .ref p], M)) rfl hS.1 hY0 (by decide) rfl rfl ?_
    refine ml_st (S' := (31, [(2, .int u4), (0, .ref a), (1, .int x1)], [.int x1, .ref p, .ref p], M)) rfl rfl rfl ?_
    refine ml_call (a := [.ref p, .int x1]) (rest := [.ref p]) rfl (okc_t rfl rfl rfl hS.1 hY1 (by decide)) rfl rfl (tq_nameOf hS.1 hY1 (by omega)) (fun v10 M11 h12 => ?_)
    obtain ⟨⟨u13, rfl⟩, h12⟩ := h12
    rw [h12]
    show ml _ _ _ (34, [(2, .int u4), (0, .ref a), (1, .int x1)], [.int u13, .ref p], M) _
    refine ml_call (a := [.ref p, .int u13]) (rest := []) rfl (okc_t rfl rfl rfl hS.1 hY1 (by decide)) rfl rfl (tq_hasAngle hS.1 hY1 (by omega)) (fun v14 M15 h16 => ?_)
    obtain ⟨⟨u17, rfl, z18⟩, h16⟩ := h16
    rw [h16]
    show ml _ _ _ (37, [(2, .int u4), (0, .ref a), (1, .int x1)], [.int u17], M) _
    refine ml_if (S1 := (42, [(2, .int u4), (0, .ref a), (1, .int x1)], [], M)) (S2 := (40, [(2, .int u4), (0, .ref a), (1, .int x1)], [], M)) rfl rfl rfl (fun c_37 => ?_) (fun c_37 => ?_)
    · have c_37 : ¬ u17 = 0 := of_decide_eq_true c_37
      refine ml_st (S' := (43, [(2, .int u4), (0, .ref a), (1, .int x1)], [.ref a], M)) rfl rfl rfl ?_
      refine tg_ref (S' := (46, [(2, .int u4), (0, .ref a), (1, .int x1)], [.ref p], M)) rfl hS.1 hY0 (by decide) rfl rfl ?_
      refine ml_st (S' := (47, [(2, .int u4), (0, .ref a), (1, .int x1)], [.int x1, .ref p], M)) rfl rfl rfl ?_
      refine ml_call (a := [.ref p, .int x1]) (rest := []) rfl (okc_t rfl rfl rfl hS.1 hY1 (by decide)) rfl rfl (tq_tagOf hS.1 hY1 (by omega)) (fun v19 M20 h21 => ?_)
      obtain ⟨⟨u22, rfl⟩, h21⟩ := h21
      rw [h21]
      show ml _ _ _ (50, [(2, .int u4), (0, .ref a), (1, .int x1)], [.int u22], M) _
      refine ml_st (S' := (52, [(2, .int u4), (0, .ref a), (1, .int x1)], [.int 10, .int u22], M)) rfl rfl rfl ?_
      refine ml_if2 (S1 := (81, [], [], M)) (S2 := (55, [(2, .int u4), (0, .ref a), (1, .int x1)], [], M)) rfl rfl rfl (fun c_52 => ?_) (fun c_52 => ?_)
      · have c_52 : ¬ u22 = 10 := of_decide_eq_true c_52
        refine ml_st (S' := (82, [], [.int 0], M)) rfl rfl rfl ?_
        exact ml_ret rfl (r_z (Or.inl rfl)) (⟨⟨_, rfl, Or.inl rfl⟩, rfl⟩)
      · have c_52 : ¬ (¬ u22 = 10) := of_decide_eq_false c_52
        refine ml_st (S' := (56, [(2, .int u4), (0, .ref a), (1, .int x1)], [.ref a], M)) rfl rfl rfl ?_
        refine tg_ref (S' := (59, [(2, .int u4), (0, .ref a), (1, .int x1)], [.ref p], M)) rfl hS.1 hY0 (by decide) rfl rfl ?_
        refine ml_st (S' := (60, [(2, .int u4), (0, .ref a), (1, .int x1)], [.int x1, .ref p], M)) rfl rfl rfl ?_
        refine ml_call (a := [.ref p, .int x1]) (rest := []) rfl (okc_t rfl rfl rfl hS.1 hY1 (by decide)) rfl rfl (tw_Po_namesInit hS.1 hY1 (by omega)) (fun v23 M24 h25 => ?_)
        obtain ⟨⟨u26, rfl, z27⟩, h25⟩ := h25
        rw [h25]
        show ml _ _ _ (63, [(2, .int u4), (0, .ref a), (1, .int x1)], [.int u26], M) _
        refine ml_if (S1 := (81, [], [], M)) (S2 := (66, [(2, .int u4), (0, .ref a), (1, .int x1)], [], M)) rfl rfl rfl (fun c_63 => ?_) (fun c_63 => ?_)
        · have c_63 : u26 = 0 := of_decide_eq_true c_63
          refine ml_st (S' := (82, [], [.int 0], M)) rfl rfl rfl ?_
          exact ml_ret rfl (r_z (Or.inl rfl)) (⟨⟨_, rfl, Or.inl rfl⟩, rfl⟩)
        · have c_63 : ¬ (u26 = 0) := of_decide_eq_false c_63
          refine ml_st (S' := (67, [(2, .int u4), (0, .ref a), (1, .int x1)], [.ref a], M)) rfl rfl rfl ?_
          refine tg_ref (S' := (70, [(2, .int u4), (0, .ref a), (1, .int x1)], [.ref p], M)) rfl hS.1 hY0 (by decide) rfl rfl ?_
          refine ml_st (S' := (71, [(2, .int u4), (0, .ref a), (1, .int x1)], [.int u4, .ref p], M)) rfl rfl rfl ?_
          refine ml_call (a := [.ref p, .int u4]) (rest := []) rfl (okc_t rfl rfl rfl hS.1 hY1 (by decide)) rfl rfl (tq_hasNoResult hS.1 hY1 (by omega)) (fun v28 M29 h30 => ?_)
          obtain ⟨⟨u31, rfl, z32⟩, h30⟩ := h30
          rw [h30]
          show ml _ _ _ (74, [(2, .int u4), (0, .ref a), (1, .int x1)], [.int u31], M) _
          refine ml_if (S1 := (81, [], [], M)) (S2 := (77, [(2, .int u4), (0, .ref a), (1, .int x1)], [], M)) rfl rfl rfl (fun c_74 => ?_) (fun c_74 => ?_)
          · have c_74 : u31 = 0 := of_decide_eq_true c_74
            refine ml_st (S' := (82, [], [.int 0], M)) rfl rfl rfl ?_
            exact ml_ret rfl (r_z (Or.inl rfl)) (⟨⟨_, rfl, Or.inl rfl⟩, rfl⟩)
          · have c_74 : ¬ (u31 = 0) := of_decide_eq_false c_74
            refine ml_st (S' := (78, [(2, .int u4), (0, .ref a), (1, .int x1)], [.int 1], M)) rfl rfl rfl ?_
            refine ml_st (S' := (82, [], [.int 1], M)) rfl rfl rfl ?_
            exact ml_ret rfl (r_z (Or.inr rfl)) (⟨⟨_, rfl, Or.inr rfl⟩, rfl⟩)
    · have c_37 : ¬ (¬ u17 = 0) := of_decide_eq_false c_37
      refine ml_st (S' := (41, [(2, .int u4), (0, .ref a), (1, .int x1)], [.int 1], M)) rfl rfl rfl ?_
      exact ml_ret rfl (r_z (Or.inr rfl)) (⟨⟨_, rfl, Or.inr rfl⟩, rfl⟩)
  · have c_17 : ¬ (¬ u8 = 0) := of_decide_eq_false c_17
    refine ml_st (S' := (21, [(2, .int u4), (0, .ref a), (1, .int x1)], [.int 0], M)) rfl rfl rfl ?_
    exact ml_ret rfl (r_z (Or.inl rfl)) (⟨⟨_, rfl, Or.inl rfl⟩, rfl⟩)
set_option maxHeartbeats 2000000 in
theorem tw_Po_isHandle {g : xe_G} {M : mi_H} {Y : yT} {a p vd : Nat} {pp : List Nat} {x1 x2 : Int32}  (hW : WF g Y M) (hY0 : Y.1 a = some (8, [p, vd])) (hY1 : Y.1 p = some (7, pp)) (hY2 : Y.1 vd = some (10, [])) {d : Nat} (hd : 4 ≤ d) : mt (mT g) d 147 [.ref a, .int x1, .int x2] M (pZ M) := by
  obtain ⟨d, rfl⟩ : ∃ e, d = e + 1 := ⟨d - 1, by omega⟩
  have hS : st g Y M M := st.rf hW
  refine mt_in (b := mb_147 g) rfl rfl ?_
  show ml (mT g) d (mb_147 g).2 (0, [(0, .ref a), (1, .int x1), (2, .int x2)], [], M) _
  refine ml_st (S' := (1, [(0, .ref a), (1, .int x1), (2, .int x2)], [.ref a], M)) rfl rfl rfl ?_
  refine tg_ref (S' := (4, [(0, .ref a), (1, .int x1), (2, .int x2)], [.ref p], M)) rfl hS.1 hY0 (by decide) rfl rfl ?_
  refine ml_st (S' := (5, [(0, .ref a), (1, .int x1), (2, .int x2)], [.int x2, .ref p], M)) rfl rfl rfl ?_
  refine ml_call (a := [.ref p, .int x2]) (rest := []) rfl (okc_t rfl rfl rfl hS.1 hY1 (by decide)) rfl rfl (tq_tagOf hS.1 hY1 (by omega)) (fun v1 M2 h3 => ?_)
  obtain ⟨⟨u4, rfl⟩, h3⟩ := h3
  rw [h3]
  show ml _ _ _ (8, [(0, .ref a), (1, .int x1), (2, .int x2)], [.int u4], M) _
  refine ml_st (S' := (9, [(3, .int u4), (0, .ref a), (1, .int x1), (2, .int x2)], [], M)) rfl rfl rfl ?_
  refine ml_st (S' := (10, [(3, .int u4), (0, .ref a), (1, .int x1), (2, .int x2)], [.int x1], M)) rfl rfl rfl ?_
  refine ml_sw rfl (fun t_10 ht_10 => ?_)
  have kt_10 := ht_10
  have ht_10 : t_10 ∈ [60, 72, 95, 133, 156, 179] := mi_sw_sub ht_10 (by decide)
  simp only [List.mem_cons, List.not_mem_nil, or_false] at ht_10
  rcases ht_10 with rfl | rfl | rfl | rfl | rfl | rfl
  · show ml _ _ _ (60, [(3, .int u4), (0, .ref a), (1, .int x1), (2, .int x2)], [], M) _
    refine ml_blk 2 (S' := (63, [(3, .int u4), (0, .ref a), (1, .int x1), (2, .int x2)], [.int 9, .int u4], M)) rfl ?_
    refine ml_if2 (S1 := (70, [(3, .int u4), (0, .ref a), (1, .int x1), (2, .int x2)], [], M)) (S2 := (66, [(3, .int u4), (0, .ref a), (1, .int x1), (2, .int x2)], [], M)) rfl rfl rfl (fun c_63 => ?_) (fun c_63 => ?_)
    · have c_63 : ¬ u4 = 9 := of_decide_eq_true c_63
      refine ml_st (S' := (71, [], [.int 0], M)) rfl rfl rfl ?_
      exact ml_ret rfl (r_z (Or.inl rfl)) (⟨⟨_, rfl, Or.inl rfl⟩, rfl⟩)
    · have c_63 : ¬ (¬ u4 = 9) := of_decide_eq_false c_63
      refine ml_st (S' := (67, [(3, .int u4), (0, .ref a), (1, .int x1), (2, .int x2)], [.int 1], M)) rfl rfl rfl ?_
      refine ml_st (S' := (71, [], [.int 1], M)) rfl rfl rfl ?_
      exact ml_ret rfl (r_z (Or.inr rfl)) (⟨⟨_, rfl, Or.inr rfl⟩, rfl⟩)
  · show ml _ _ _ (72, [(3, .int u4), (0, .ref a), (1, .int x1), (2, .int x2)], [], M) _
    refine ml_blk 2 (S' := (75, [(3, .int u4), (0, .ref a), (1, .int x1), (2, .int x2)], [.int 10, .int u4], M)) rfl ?_
    refine ml_if2 (S1 := (93, [], [], M)) (S2 := (78, [(3, .int u4), (0, .ref a), (1, .int x1), (2, .int x2)], [], M)) rfl rfl rfl (fun c_75 => ?_) (fun c_75 => ?_)
    · have c_75 : ¬ u4 = 10 := of_decide_eq_true c_75
      refine ml_st (S' := (94, [], [.int 0], M)) rfl rfl rfl ?_
      exact ml_ret rfl (r_z (Or.inl rfl)) (⟨⟨_, rfl, Or.inl rfl⟩, rfl⟩)
    · have c_75 : ¬ (¬ u4 = 10) := of_decide_eq_false c_75
      refine ml_st (S' := (79, [(3, .int u4), (0, .ref a), (1, .int x1), (2, .int x2)], [.ref a], M)) rfl rfl rfl ?_
      refine tg_ref (S' := (82, [(3, .int u4), (0, .ref a), (1, .int x1), (2, .int x2)], [.ref p], M)) rfl hS.1 hY0 (by decide) rfl rfl ?_
      refine ml_st (S' := (83, [(3, .int u4), (0, .ref a), (1, .int x1), (2, .int x2)], [.int x2, .ref p], M)) rfl rfl rfl ?_
      refine ml_call (a := [.ref p, .int x2]) (rest := []) rfl (okc_t rfl rfl rfl hS.1 hY1 (by decide)) rfl rfl (tw_Po_namesInit hS.1 hY1 (by omega)) (fun v5 M6 h7 => ?_)
      obtain ⟨⟨u8, rfl, z9⟩, h7⟩ := h7
      rw [h7]
      show ml _ _ _ (86, [(3, .int u4), (0, .ref a), (1, .int x1), (2, .int x2)], [.int u8], M) _
      refine ml_if (S1 := (93, [], [], M)) (S2 := (89, [(3, .int u4), (0, .ref a), (1, .int x1), (2, .int x2)], [], M)) rfl rfl rfl (fun c_86 => ?_) (fun c_86 => ?_)
      · have c_86 : ¬ u8 = 0 := of_decide_eq_true c_86
        refine ml_st (S' := (94, [], [.int 0], M)) rfl rfl rfl ?_
        exact ml_ret rfl (r_z (Or.inl rfl)) (⟨⟨_, rfl, Or.inl rfl⟩, rfl⟩)
      · have c_86 : ¬ (¬ u8 = 0) := of_decide_eq_false c_86
        refine ml_st (S' := (90, [(3, .int u4), (0, .ref a), (1, .int x1), (2, .int x2)], [.int 1], M)) rfl rfl rfl ?_
        refine ml_st (S' := (94, [], [.int 1], M)) rfl rfl rfl ?_
        exact ml_ret rfl (r_z (Or.inr rfl)) (⟨⟨_, rfl, Or.inr rfl⟩, rfl⟩)
  · show ml _ _ _ (95, [(3, .int u4), (0, .ref a), (1, .int x1), (2, .int x2)], [], M) _
    refine ml_blk 2 (S' := (98, [(3, .int u4), (0, .ref a), (1, .int x1), (2, .int x2)], [.int 10, .int u4], M)) rfl ?_
    refine ml_if2 (S1 := (116, [(0, .ref a), (2, .int x2)], [], M)) (S2 := (101, [(3, .int u4), (0, .ref a), (1, .int x1), (2, .int x2)], [], M)) rfl rfl rfl (fun c_98 => ?_) (fun c_98 => ?_)
    · have c_98 : u4 = 10 := of_decide_eq_true c_98
      refine ml_st (S' := (117, [(0, .ref a), (2, .int x2)], [.ref a], M)) rfl rfl rfl ?_
      refine tg_ref (S' := (120, [(0, .ref a), (2, .int x2)], [.ref p], M)) rfl hS.1 hY0 (by decide) rfl rfl ?_
      refine ml_st (S' := (121, [(0, .ref a), (2, .int x2)], [.int x2, .ref p], M)) rfl rfl rfl ?_
      refine ml_call (a := [.ref p, .int x2]) (rest := []) rfl (okc_t rfl rfl rfl hS.1 hY1 (by decide)) rfl rfl (tw_Po_namesInit hS.1 hY1 (by omega)) (fun v10 M11 h12 => ?_)
      obtain ⟨⟨u13, rfl, z14⟩, h12⟩ := h12
      rw [h12]
      show ml _ _ _ (124, [(0, .ref a), (2, .int x2)], [.int u13], M) _
      refine ml_if (S1 := (131, [], [], M)) (S2 := (127, [(0, .ref a), (2, .int x2)], [], M)) rfl rfl rfl (fun c_124 => ?_) (fun c_124 => ?_)
      · have c_124 : ¬ u13 = 0 := of_decide_eq_true c_124
        refine ml_st (S' := (132, [], [.int 0], M)) rfl rfl rfl ?_
        exact ml_ret rfl (r_z (Or.inl rfl)) (⟨⟨_, rfl, Or.inl rfl⟩, rfl⟩)
      · have c_124 : ¬ (¬ u13 = 0) := of_decide_eq_false c_124
        refine ml_st (S' := (128, [(0, .ref a), (2, .int x2)], [.int 1], M)) rfl rfl rfl ?_
        refine ml_st (S' := (132, [], [.int 1], M)) rfl rfl rfl ?_
        exact ml_ret rfl (r_z (Or.inr rfl)) (⟨⟨_, rfl, Or.inr rfl⟩, rfl⟩)
    · have c_98 : ¬ (u4 = 10) := of_decide_eq_false c_98
      refine ml_blk 2 (S' := (104, [(3, .int u4), (0, .ref a), (1, .int x1), (2, .int x2)], [.int 11, .int u4], M)) rfl ?_
      refine ml_if2 (S1 := (131, [], [], M)) (S2 := (107, [(3, .int u4), (0, .ref a), (1, .int x1), (2, .int x2)], [], M)) rfl rfl rfl (fun c_104 => ?_) (fun c_104 => ?_)
      · have c_104 : ¬ u4 = 11 := of_decide_eq_true c_104
        refine ml_st (S' := (132, [], [.int 0], M)) rfl rfl rfl ?_
        exact ml_ret rfl (r_z (Or.inl rfl)) (⟨⟨_, rfl, Or.inl rfl⟩, rfl⟩)
      · have c_104 : ¬ (¬ u4 = 11) := of_decide_eq_false c_104
        refine ml_st (S' := (108, [(3, .int u4), (0, .ref a), (1, .int x1), (2, .int x2)], [.ref a], M)) rfl rfl rfl ?_
        refine tg_int rfl hS.1 hY0 (by decide) rfl (fun u15 g16 => ?_)
        show ml _ _ _ (111, [(3, .int u4), (0, .ref a), (1, .int x1), (2, .int x2)], [.int u15], M) _
        refine ml_st (S' := (113, [(3, .int u4), (0, .ref a), (1, .int x1), (2, .int x2)], [.int 52, .int u15], M)) rfl rfl rfl ?_
        refine ml_if2 (S1 := (131, [], [], M)) (S2 := (116, [(0, .ref a), (2, .int x2)], [], M)) rfl rfl rfl (fun c_113 => ?_) (fun c_113 => ?_)
        · have c_113 : u15 < 52 := of_decide_eq_true c_113
          refine ml_st (S' := (132, [], [.int 0], M)) rfl rfl rfl ?_
          exact ml_ret rfl (r_z (Or.inl rfl)) (⟨⟨_, rfl, Or.inl rfl⟩, rfl⟩)
        · have c_113 : ¬ (u15 < 52) := of_decide_eq_false c_113
          refine ml_st (S' := (117, [(0, .ref a), (2, .int x2)], [.ref a], M)) rfl rfl rfl ?_
          refine tg_ref (S' := (120, [(0, .ref a), (2, .int x2)], [.ref p], M)) rfl hS.1 hY0 (by decide) rfl rfl ?_
          refine ml_st (S' := (121, [(0, .ref a), (2, .int x2)], [.int x2, .ref p], M)) rfl rfl rfl ?_
          refine ml_call (a := [.ref p, .int x2]) (rest := []) rfl (okc_t rfl rfl rfl hS.1 hY1 (by decide)) rfl rfl (tw_Po_namesInit hS.1 hY1 (by omega)) (fun v17 M18 h19 => ?_)
          obtain ⟨⟨u20, rfl, z21⟩, h19⟩ := h19
          rw [h19]
          show ml _ _ _ (124, [(0, .ref a), (2, .int x2)], [.int u20], M) _
          refine ml_if (S1 := (131, [], [], M)) (S2 := (127, [(0, .ref a), (2, .int x2)], [], M)) rfl rfl rfl (fun c_124 => ?_) (fun c_124 => ?_)
          · have c_124 : ¬ u20 = 0 := of_decide_eq_true c_124
            refine ml_st (S' := (132, [], [.int 0], M)) rfl rfl rfl ?_
            exact ml_ret rfl (r_z (Or.inl rfl)) (⟨⟨_, rfl, Or.inl rfl⟩, rfl⟩)
          · have c_124 : ¬ (¬ u20 = 0) := of_decide_eq_false c_124
            refine ml_st (S' := (128, [(0, .ref a), (2, .int x2)], [.int 1], M)) rfl rfl rfl ?_
            refine ml_st (S' := (132, [], [.int 1], M)) rfl rfl rfl ?_
            exact ml_ret rfl (r_z (Or.inr rfl)) (⟨⟨_, rfl, Or.inr rfl⟩, rfl⟩)
  · show ml _ _ _ (133, [(3, .int u4), (0, .ref a), (1, .int x1), (2, .int x2)], [], M) _
    refine ml_blk 2 (S' := (136, [(3, .int u4), (0, .ref a), (1, .int x1), (2, .int x2)], [.int 10, .int u4], M)) rfl ?_
    refine ml_if2 (S1 := (154, [], [], M)) (S2 := (139, [(3, .int u4), (0, .ref a), (1, .int x1), (2, .int x2)], [], M)) rfl rfl rfl (fun c_136 => ?_) (fun c_136 => ?_)
    · have c_136 : ¬ u4 = 10 := of_decide_eq_true c_136
      refine ml_st (S' := (155, [], [.int 0], M)) rfl rfl rfl ?_
      exact ml_ret rfl (r_z (Or.inl rfl)) (⟨⟨_, rfl, Or.inl rfl⟩, rfl⟩)
    · have c_136 : ¬ (¬ u4 = 10) := of_decide_eq_false c_136
      refine ml_st (S' := (140, [(3, .int u4), (0, .ref a), (1, .int x1), (2, .int x2)], [.ref a], M)) rfl rfl rfl ?_
      refine tg_ref (S' := (143, [(3, .int u4), (0, .ref a), (1, .int x1), (2, .int x2)], [.ref p], M)) rfl hS.1 hY0 (by decide) rfl rfl ?_
      refine ml_st (S' := (144, [(3, .int u4), (0, .ref a), (1, .int x1), (2, .int x2)], [.int x2, .ref p], M)) rfl rfl rfl ?_
      refine ml_call (a := [.ref p, .int x2]) (rest := []) rfl (okc_t rfl rfl rfl hS.1 hY1 (by decide)) rfl rfl (tw_Po_namesInit hS.1 hY1 (by omega)) (fun v22 M23 h24 => ?_)
      obtain ⟨⟨u25, rfl, z26⟩, h24⟩ := h24
      rw [h24]
      show ml _ _ _ (147, [(3, .int u4), (0, .ref a), (1, .int x1), (2, .int x2)], [.int u25], M) _
      refine ml_if (S1 := (154, [], [], M)) (S2 := (150, [(3, .int u4), (0, .ref a), (1, .int x1), (2, .int x2)], [], M)) rfl rfl rfl (fun c_147 => ?_) (fun c_147 => ?_)
      · have c_147 : u25 = 0 := of_decide_eq_true c_147
        refine ml_st (S' := (155, [], [.int 0], M)) rfl rfl rfl ?_
        exact ml_ret rfl (r_z (Or.inl rfl)) (⟨⟨_, rfl, Or.inl rfl⟩, rfl⟩)
      · have c_147 : ¬ (u25 = 0) := of_decide_eq_false c_147
        refine ml_st (S' := (151, [(3, .int u4), (0, .ref a), (1, .int x1), (2, .int x2)], [.int 1], M)) rfl rfl rfl ?_
        refine ml_st (S' := (155, [], [.int 1], M)) rfl rfl rfl ?_
        exact ml_ret rfl (r_z (Or.inr rfl)) (⟨⟨_, rfl, Or.inr rfl⟩, rfl⟩)
  · show ml _ _ _ (156, [(3, .int u4), (0, .ref a), (1, .int x1), (2, .int x2)], [], M) _
    refine ml_blk 2 (S' := (159, [(3, .int u4), (0, .ref a), (1, .int x1), (2, .int x2)], [.int 11, .int u4], M)) rfl ?_
    refine ml_if2 (S1 := (177, [], [], M)) (S2 := (162, [(3, .int u4), (0, .ref a), (1, .int x1), (2, .int x2)], [], M)) rfl rfl rfl (fun c_159 => ?_) (fun c_159 => ?_)
    · have c_159 : ¬ u4 = 11 := of_decide_eq_true c_159
      refine ml_st (S' := (178, [], [.int 0], M)) rfl rfl rfl ?_
      exact ml_ret rfl (r_z (Or.inl rfl)) (⟨⟨_, rfl, Or.inl rfl⟩, rfl⟩)
    · have c_159 : ¬ (¬ u4 = 11) := of_decide_eq_false c_159
      refine ml_st (S' := (163, [(3, .int u4), (0, .ref a), (1, .int x1), (2, .int x2)], [.ref a], M)) rfl rfl rfl ?_
      refine tg_ref (S' := (166, [(3, .int u4), (0, .ref a), (1, .int x1), (2, .int x2)], [.ref p], M)) rfl hS.1 hY0 (by decide) rfl rfl ?_
      refine ml_st (S' := (167, [(3, .int u4), (0, .ref a), (1, .int x1), (2, .int x2)], [.int x2, .ref p], M)) rfl rfl rfl ?_
      refine ml_call (a := [.ref p, .int x2]) (rest := []) rfl (okc_t rfl rfl rfl hS.1 hY1 (by decide)) rfl rfl (tw_Po_namesInit hS.1 hY1 (by omega)) (fun v27 M28 h29 => ?_)
      obtain ⟨⟨u30, rfl, z31⟩, h29⟩ := h29
      rw [h29]
      show ml _ _ _ (170, [(3, .int u4), (0, .ref a), (1, .int x1), (2, .int x2)], [.int u30], M) _
      refine ml_if (S1 := (177, [], [], M)) (S2 := (173, [(3, .int u4), (0, .ref a), (1, .int x1), (2, .int x2)], [], M)) rfl rfl rfl (fun c_170 => ?_) (fun c_170 => ?_)
      · have c_170 : ¬ u30 = 0 := of_decide_eq_true c_170
        refine ml_st (S' := (178, [], [.int 0], M)) rfl rfl rfl ?_
        exact ml_ret rfl (r_z (Or.inl rfl)) (⟨⟨_, rfl, Or.inl rfl⟩, rfl⟩)
      · have c_170 : ¬ (¬ u30 = 0) := of_decide_eq_false c_170
        refine ml_st (S' := (174, [(3, .int u4), (0, .ref a), (1, .int x1), (2, .int x2)], [.int 1], M)) rfl rfl rfl ?_
        refine ml_st (S' := (178, [], [.int 1], M)) rfl rfl rfl ?_
        exact ml_ret rfl (r_z (Or.inr rfl)) (⟨⟨_, rfl, Or.inr rfl⟩, rfl⟩)
  · show ml _ _ _ (179, [(3, .int u4), (0, .ref a), (1, .int x1), (2, .int x2)], [], M) _
    refine ml_st (S' := (180, [(3, .int u4), (0, .ref a), (1, .int x1), (2, .int x2)], [.int 0], M)) rfl rfl rfl ?_
    exact ml_ret rfl (r_z (Or.inl rfl)) (⟨⟨_, rfl, Or.inl rfl⟩, rfl⟩)
set_option maxHeartbeats 2000000 in
theorem tw_Po_brokenRule {g : xe_G} {M : mi_H} {Y : yT} {a p vd : Nat} {pp : List Nat} {x1 : Int32}  (hW : WF g Y M) (hY0 : Y.1 a = some (8, [p, vd])) (hY1 : Y.1 p = some (7, pp)) (hY2 : Y.1 vd = some (10, [])) {d : Nat} (hd : 5 ≤ d) : mt (mT g) d 145 [.ref a, .int x1] M (pI M) := by
  obtain ⟨d, rfl⟩ : ∃ e, d = e + 1 := ⟨d - 1, by omega⟩
  have hS : st g Y M M := st.rf hW
  refine mt_in (b := mb_145 g) rfl rfl ?_
  show ml (mT g) d (mb_145 g).2 (0, [(0, .ref a), (1, .int x1)], [], M) _
  refine ml_st (S' := (1, [(0, .ref a), (1, .int x1)], [.ref a], M)) rfl rfl rfl ?_
  refine tg_ref (S' := (4, [(0, .ref a), (1, .int x1)], [.ref p], M)) rfl hS.1 hY0 (by decide) rfl rfl ?_
  refine ml_st (S' := (5, [(0, .ref a), (1, .int x1)], [.int x1, .ref p], M)) rfl rfl rfl ?_
  refine ml_call (a := [.ref p, .int x1]) (rest := []) rfl (okc_t rfl rfl rfl hS.1 hY1 (by decide)) rfl rfl (tq_tagOf hS.1 hY1 (by omega)) (fun v1 M2 h3 => ?_)
  obtain ⟨⟨u4, rfl⟩, h3⟩ := h3
  rw [h3]
  show ml _ _ _ (8, [(0, .ref a), (1, .int x1)], [.int u4], M) _
  refine ml_sw rfl (fun t_8 ht_8 => ?_)
  have kt_8 := ht_8
  have ht_8 : t_8 ∈ [72, 97, 112, 137, 152, 182, 207, 250, 293] := mi_sw_sub ht_8 (by decide)
  simp only [List.mem_cons, List.not_mem_nil, or_false] at ht_8
  rcases ht_8 with rfl | rfl | rfl | rfl | rfl | rfl | rfl | rfl | rfl
  · show ml _ _ _ (72, [(0, .ref a), (1, .int x1)], [], M) _
    refine ml_st (S' := (73, [(0, .ref a), (1, .int x1)], [.ref a], M)) rfl rfl rfl ?_
    refine tg_ref (S' := (76, [(0, .ref a), (1, .int x1)], [.ref p], M)) rfl hS.1 hY0 (by decide) rfl rfl ?_
    refine ml_st (S' := (77, [(0, .ref a), (1, .int x1)], [.ref a, .ref p], M)) rfl rfl rfl ?_
    refine tg_ref (S' := (80, [(0, .ref a), (1, .int x1)], [.ref p, .ref p], M)) rfl hS.1 hY0 (by decide) rfl rfl ?_
    refine ml_st (S' := (81, [(0, .ref a), (1, .int x1)], [.int x1, .ref p, .ref p], M)) rfl rfl rfl ?_
    refine ml_call (a := [.ref p, .int x1]) (rest := [.ref p]) rfl (okc_t rfl rfl rfl hS.1 hY1 (by decide)) rfl rfl (tq_firstIndex hS.1 hY1 (by omega)) (fun v5 M6 h7 => ?_)
    obtain ⟨⟨u8, rfl⟩, h7⟩ := h7
    rw [h7]
    show ml _ _ _ (84, [(0, .ref a), (1, .int x1)], [.int u8, .ref p], M) _
    refine ml_call (a := [.ref p, .int u8]) (rest := []) rfl (okc_t rfl rfl rfl hS.1 hY1 (by decide)) rfl rfl (tq_isClassText hS.1 hY1 (by omega)) (fun v9 M10 h11 => ?_)
    obtain ⟨⟨u12, rfl, z13⟩, h11⟩ := h11
    rw [h11]
    show ml _ _ _ (87, [(0, .ref a), (1, .int x1)], [.int u12], M) _
    refine ml_if (S1 := (94, [(0, .ref a), (1, .int x1)], [], M)) (S2 := (90, [(0, .ref a), (1, .int x1)], [], M)) rfl rfl rfl (fun c_87 => ?_) (fun c_87 => ?_)
    · have c_87 : u12 = 0 := of_decide_eq_true c_87
      refine ml_st (S' := (96, [], [.int 10], M)) rfl rfl rfl ?_
      exact ml_ret rfl (rfl) (⟨⟨_, rfl⟩, rfl⟩)
    · have c_87 : ¬ (u12 = 0) := of_decide_eq_false c_87
      refine ml_st (S' := (91, [(0, .ref a), (1, .int x1)], [.int 0], M)) rfl rfl rfl ?_
      refine ml_st (S' := (96, [], [.int 0], M)) rfl rfl rfl ?_
      exact ml_ret rfl (rfl) (⟨⟨_, rfl⟩, rfl⟩)
  · show ml _ _ _ (97, [(0, .ref a), (1, .int x1)], [], M) _
    refine ml_blk 2 (S' := (99, [(0, .ref a), (1, .int x1)], [.int x1, .ref a], M)) rfl ?_
    refine ml_call (a := [.ref a, .int x1]) (rest := []) rfl (okc_t rfl rfl rfl hS.1 hY0 (by decide)) rfl rfl (tw_Po_isNameWithType hS.1 hY0 hY1 hY2 (by omega)) (fun v14 M15 h16 => ?_)
    obtain ⟨⟨u17, rfl, z18⟩, h16⟩ := h16
    rw [h16]
    show ml _ _ _ (102, [(0, .ref a), (1, .int x1)], [.int u17], M) _
    refine ml_if (S1 := (109, [(0, .ref a), (1, .int x1)], [], M)) (S2 := (105, [(0, .ref a), (1, .int x1)], [], M)) rfl rfl rfl (fun c_102 => ?_) (fun c_102 => ?_)
    · have c_102 : u17 = 0 := of_decide_eq_true c_102
      refine ml_st (S' := (111, [], [.int 11], M)) rfl rfl rfl ?_
      exact ml_ret rfl (rfl) (⟨⟨_, rfl⟩, rfl⟩)
    · have c_102 : ¬ (u17 = 0) := of_decide_eq_false c_102
      refine ml_st (S' := (106, [(0, .ref a), (1, .int x1)], [.int 0], M)) rfl rfl rfl ?_
      refine ml_st (S' := (111, [], [.int 0], M)) rfl rfl rfl ?_
      exact ml_ret rfl (rfl) (⟨⟨_, rfl⟩, rfl⟩)
  · show ml _ _ _ (112, [(0, .ref a), (1, .int x1)], [], M) _
    refine ml_st (S' := (113, [(0, .ref a), (1, .int x1)], [.ref a], M)) rfl rfl rfl ?_
    refine tg_ref (S' := (116, [(0, .ref a), (1, .int x1)], [.ref p], M)) rfl hS.1 hY0 (by decide) rfl rfl ?_
    refine ml_st (S' := (117, [(0, .ref a), (1, .int x1)], [.ref a, .ref p], M)) rfl rfl rfl ?_
    refine tg_ref (S' := (120, [(0, .ref a), (1, .int x1)], [.ref p, .ref p], M)) rfl hS.1 hY0 (by decide) rfl rfl ?_
    refine ml_st (S' := (121, [(0, .ref a), (1, .int x1)], [.int x1, .ref p, .ref p], M)) rfl rfl rfl ?_
    refine ml_call (a := [.ref p, .int x1]) (rest := [.ref p]) rfl (okc_t rfl rfl rfl hS.1 hY1 (by decide)) rfl rfl (tq_descriptorOf hS.1 hY1 (by omega)) (fun v19 M20 h21 => ?_)
    obtain ⟨⟨u22, rfl⟩, h21⟩ := h21
    rw [h21]
    show ml _ _ _ (124, [(0, .ref a), (1, .int x1)], [.int u22, .ref p], M) _
    refine ml_call (a := [.ref p, .int u22]) (rest := []) rfl (okc_t rfl rfl rfl hS.1 hY1 (by decide)) rfl rfl (tq_isFieldDescriptor hS.1 hY1 (by omega)) (fun v23 M24 h25 => ?_)
    obtain ⟨⟨u26, rfl, z27⟩, h25⟩ := h25
    rw [h25]
    show ml _ _ _ (127, [(0, .ref a), (1, .int x1)], [.int u26], M) _
    refine ml_if (S1 := (134, [(0, .ref a), (1, .int x1)], [], M)) (S2 := (130, [(0, .ref a), (1, .int x1)], [], M)) rfl rfl rfl (fun c_127 => ?_) (fun c_127 => ?_)
    · have c_127 : u26 = 0 := of_decide_eq_true c_127
      refine ml_st (S' := (136, [], [.int 12], M)) rfl rfl rfl ?_
      exact ml_ret rfl (rfl) (⟨⟨_, rfl⟩, rfl⟩)
    · have c_127 : ¬ (u26 = 0) := of_decide_eq_false c_127
      refine ml_st (S' := (131, [(0, .ref a), (1, .int x1)], [.int 0], M)) rfl rfl rfl ?_
      refine ml_st (S' := (136, [], [.int 0], M)) rfl rfl rfl ?_
      exact ml_ret rfl (rfl) (⟨⟨_, rfl⟩, rfl⟩)
  · show ml _ _ _ (137, [(0, .ref a), (1, .int x1)], [], M) _
    refine ml_blk 2 (S' := (139, [(0, .ref a), (1, .int x1)], [.int x1, .ref a], M)) rfl ?_
    refine ml_call (a := [.ref a, .int x1]) (rest := []) rfl (okc_t rfl rfl rfl hS.1 hY0 (by decide)) rfl rfl (tw_Po_isMethodRef hS.1 hY0 hY1 hY2 (by omega)) (fun v28 M29 h30 => ?_)
    obtain ⟨⟨u31, rfl, z32⟩, h30⟩ := h30
    rw [h30]
    show ml _ _ _ (142, [(0, .ref a), (1, .int x1)], [.int u31], M) _
    refine ml_if (S1 := (149, [(0, .ref a), (1, .int x1)], [], M)) (S2 := (145, [(0, .ref a), (1, .int x1)], [], M)) rfl rfl rfl (fun c_142 => ?_) (fun c_142 => ?_)
    · have c_142 : u31 = 0 := of_decide_eq_true c_142
      refine ml_st (S' := (151, [], [.int 12], M)) rfl rfl rfl ?_
      exact ml_ret rfl (rfl) (⟨⟨_, rfl⟩, rfl⟩)
    · have c_142 : ¬ (u31 = 0) := of_decide_eq_false c_142
      refine ml_st (S' := (146, [(0, .ref a), (1, .int x1)], [.int 0], M)) rfl rfl rfl ?_
      refine ml_st (S' := (151, [], [.int 0], M)) rfl rfl rfl ?_
      exact ml_ret rfl (rfl) (⟨⟨_, rfl⟩, rfl⟩)
  · show ml _ _ _ (152, [(0, .ref a), (1, .int x1)], [], M) _
    refine ml_blk 2 (S' := (154, [(0, .ref a), (1, .int x1)], [.ref a, .ref a], M)) rfl ?_
    refine tg_ref (S' := (157, [(0, .ref a), (1, .int x1)], [.ref p, .ref a], M)) rfl hS.1 hY0 (by decide) rfl rfl ?_
    refine ml_st (S' := (158, [(0, .ref a), (1, .int x1)], [.int x1, .ref p, .ref a], M)) rfl rfl rfl ?_
    refine ml_call (a := [.ref p, .int x1]) (rest := [.ref a]) rfl (okc_t rfl rfl rfl hS.1 hY1 (by decide)) rfl rfl (tq_firstIndex hS.1 hY1 (by omega)) (fun v33 M34 h35 => ?_)
    obtain ⟨⟨u36, rfl⟩, h35⟩ := h35
    rw [h35]
    show ml _ _ _ (161, [(0, .ref a), (1, .int x1)], [.int u36, .ref a], M) _
    refine ml_st (S' := (162, [(0, .ref a), (1, .int x1)], [.ref a, .int u36, .ref a], M)) rfl rfl rfl ?_
    refine tg_ref (S' := (165, [(0, .ref a), (1, .int x1)], [.ref p, .int u36, .ref a], M)) rfl hS.1 hY0 (by decide) rfl rfl ?_
    refine ml_st (S' := (166, [(0, .ref a), (1, .int x1)], [.int x1, .ref p, .int u36, .ref a], M)) rfl rfl rfl ?_
    refine ml_call (a := [.ref p, .int x1]) (rest := [.int u36, .ref a]) rfl (okc_t rfl rfl rfl hS.1 hY1 (by decide)) rfl rfl (tq_secondIndex hS.1 hY1 (by omega)) (fun v37 M38 h39 => ?_)
    obtain ⟨⟨u40, rfl⟩, h39⟩ := h39
    rw [h39]
    show ml _ _ _ (169, [(0, .ref a), (1, .int x1)], [.int u40, .int u36, .ref a], M) _
    refine ml_call (a := [.ref a, .int u36, .int u40]) (rest := []) rfl (okc_t rfl rfl rfl hS.1 hY0 (by decide)) rfl rfl (tw_Po_isHandle hS.1 hY0 hY1 hY2 (by omega)) (fun v41 M42 h43 => ?_)
    obtain ⟨⟨u44, rfl, z45⟩, h43⟩ := h43
    rw [h43]
    show ml _ _ _ (172, [(0, .ref a), (1, .int x1)], [.int u44], M) _
    refine ml_if (S1 := (179, [(0, .ref a), (1, .int x1)], [], M)) (S2 := (175, [(0, .ref a), (1, .int x1)], [], M)) rfl rfl rfl (fun c_172 => ?_) (fun c_172 => ?_)
    · have c_172 : u44 = 0 := of_decide_eq_true c_172
      refine ml_st (S' := (181, [], [.int 13], M)) rfl rfl rfl ?_
      exact ml_ret rfl (rfl) (⟨⟨_, rfl⟩, rfl⟩)
    · have c_172 : ¬ (u44 = 0) := of_decide_eq_false c_172
      refine ml_st (S' := (176, [(0, .ref a), (1, .int x1)], [.int 0], M)) rfl rfl rfl ?_
      refine ml_st (S' := (181, [], [.int 0], M)) rfl rfl rfl ?_
      exact ml_ret rfl (rfl) (⟨⟨_, rfl⟩, rfl⟩)
  · show ml _ _ _ (182, [(0, .ref a), (1, .int x1)], [], M) _
    refine ml_st (S' := (183, [(0, .ref a), (1, .int x1)], [.ref a], M)) rfl rfl rfl ?_
    refine tg_ref (S' := (186, [(0, .ref a), (1, .int x1)], [.ref p], M)) rfl hS.1 hY0 (by decide) rfl rfl ?_
    refine ml_st (S' := (187, [(0, .ref a), (1, .int x1)], [.ref a, .ref p], M)) rfl rfl rfl ?_
    refine tg_ref (S' := (190, [(0, .ref a), (1, .int x1)], [.ref p, .ref p], M)) rfl hS.1 hY0 (by decide) rfl rfl ?_
    refine ml_st (S' := (191, [(0, .ref a), (1, .int x1)], [.int x1, .ref p, .ref p], M)) rfl rfl rfl ?_
    refine ml_call (a := [.ref p, .int x1]) (rest := [.ref p]) rfl (okc_t rfl rfl rfl hS.1 hY1 (by decide)) rfl rfl (tq_firstIndex hS.1 hY1 (by omega)) (fun v46 M47 h48 => ?_)
    obtain ⟨⟨u49, rfl⟩, h48⟩ := h48
    rw [h48]
    show ml _ _ _ (194, [(0, .ref a), (1, .int x1)], [.int u49, .ref p], M) _
    refine ml_call (a := [.ref p, .int u49]) (rest := []) rfl (okc_t rfl rfl rfl hS.1 hY1 (by decide)) rfl rfl (tq_isMethodDescriptor hS.1 hY1 (by omega)) (fun v50 M51 h52 => ?_)
    obtain ⟨⟨u53, rfl, z54⟩, h52⟩ := h52
    rw [h52]
    show ml _ _ _ (197, [(0, .ref a), (1, .int x1)], [.int u53], M) _
    refine ml_if (S1 := (204, [(0, .ref a), (1, .int x1)], [], M)) (S2 := (200, [(0, .ref a), (1, .int x1)], [], M)) rfl rfl rfl (fun c_197 => ?_) (fun c_197 => ?_)
    · have c_197 : u53 = 0 := of_decide_eq_true c_197
      refine ml_st (S' := (206, [], [.int 14], M)) rfl rfl rfl ?_
      exact ml_ret rfl (rfl) (⟨⟨_, rfl⟩, rfl⟩)
    · have c_197 : ¬ (u53 = 0) := of_decide_eq_false c_197
      refine ml_st (S' := (201, [(0, .ref a), (1, .int x1)], [.int 0], M)) rfl rfl rfl ?_
      refine ml_st (S' := (206, [], [.int 0], M)) rfl rfl rfl ?_
      exact ml_ret rfl (rfl) (⟨⟨_, rfl⟩, rfl⟩)
  · show ml _ _ _ (207, [(0, .ref a), (1, .int x1)], [], M) _
    refine ml_st (S' := (208, [(0, .ref a), (1, .int x1)], [.ref a], M)) rfl rfl rfl ?_
    refine tg_ref (S' := (211, [(0, .ref a), (1, .int x1)], [.ref p], M)) rfl hS.1 hY0 (by decide) rfl rfl ?_
    refine ml_st (S' := (212, [(0, .ref a), (1, .int x1)], [.ref a, .ref p], M)) rfl rfl rfl ?_
    refine tg_ref (S' := (215, [(0, .ref a), (1, .int x1)], [.ref p, .ref p], M)) rfl hS.1 hY0 (by decide) rfl rfl ?_
    refine ml_st (S' := (216, [(0, .ref a), (1, .int x1)], [.int x1, .ref p, .ref p], M)) rfl rfl rfl ?_
    refine ml_call (a := [.ref p, .int x1]) (rest := [.ref p]) rfl (okc_t rfl rfl rfl hS.1 hY1 (by decide)) rfl rfl (tq_descriptorOf hS.1 hY1 (by omega)) (fun v55 M56 h57 => ?_)
    obtain ⟨⟨u58, rfl⟩, h57⟩ := h57
    rw [h57]
    show ml _ _ _ (219, [(0, .ref a), (1, .int x1)], [.int u58, .ref p], M) _
    refine ml_call (a := [.ref p, .int u58]) (rest := []) rfl (okc_t rfl rfl rfl hS.1 hY1 (by decide)) rfl rfl (tq_isFieldDescriptor hS.1 hY1 (by omega)) (fun v59 M60 h61 => ?_)
    obtain ⟨⟨u62, rfl, z63⟩, h61⟩ := h61
    rw [h61]
    show ml _ _ _ (222, [(0, .ref a), (1, .int x1)], [.int u62], M) _
    refine ml_if (S1 := (247, [], [], M)) (S2 := (225, [(0, .ref a), (1, .int x1)], [], M)) rfl rfl rfl (fun c_222 => ?_) (fun c_222 => ?_)
    · have c_222 : u62 = 0 := of_decide_eq_true c_222
      refine ml_st (S' := (249, [], [.int 14], M)) rfl rfl rfl ?_
      exact ml_ret rfl (rfl) (⟨⟨_, rfl⟩, rfl⟩)
    · have c_222 : ¬ (u62 = 0) := of_decide_eq_false c_222
      refine ml_st (S' := (226, [(0, .ref a), (1, .int x1)], [.ref a], M)) rfl rfl rfl ?_
      refine tg_ref (S' := (229, [(0, .ref a), (1, .int x1)], [.ref p], M)) rfl hS.1 hY0 (by decide) rfl rfl ?_
      refine ml_st (S' := (230, [(0, .ref a), (1, .int x1)], [.ref a, .ref p], M)) rfl rfl rfl ?_
      refine tg_ref (S' := (233, [(0, .ref a), (1, .int x1)], [.ref p, .ref p], M)) rfl hS.1 hY0 (by decide) rfl rfl ?_
      refine ml_st (S' := (234, [(0, .ref a), (1, .int x1)], [.int x1, .ref p, .ref p], M)) rfl rfl rfl ?_
      refine ml_call (a := [.ref p, .int x1]) (rest := [.ref p]) rfl (okc_t rfl rfl rfl hS.1 hY1 (by decide)) rfl rfl (tq_nameOf hS.1 hY1 (by omega)) (fun v64 M65 h66 => ?_)
      obtain ⟨⟨u67, rfl⟩, h66⟩ := h66
      rw [h66]
      show ml _ _ _ (237, [(0, .ref a), (1, .int x1)], [.int u67, .ref p], M) _
      refine ml_call (a := [.ref p, .int u67]) (rest := []) rfl (okc_t rfl rfl rfl hS.1 hY1 (by decide)) rfl rfl (tq_hasAngle hS.1 hY1 (by omega)) (fun v68 M69 h70 => ?_)
      obtain ⟨⟨u71, rfl, z72⟩, h70⟩ := h70
      rw [h70]
      show ml _ _ _ (240, [(0, .ref a), (1, .int x1)], [.int u71], M) _
      refine ml_if (S1 := (247, [], [], M)) (S2 := (243, [(0, .ref a), (1, .int x1)], [], M)) rfl rfl rfl (fun c_240 => ?_) (fun c_240 => ?_)
      · have c_240 : ¬ u71 = 0 := of_decide_eq_true c_240
        refine ml_st (S' := (249, [], [.int 14], M)) rfl rfl rfl ?_
        exact ml_ret rfl (rfl) (⟨⟨_, rfl⟩, rfl⟩)
      · have c_240 : ¬ (¬ u71 = 0) := of_decide_eq_false c_240
        refine ml_st (S' := (244, [(0, .ref a), (1, .int x1)], [.int 0], M)) rfl rfl rfl ?_
        refine ml_st (S' := (249, [], [.int 0], M)) rfl rfl rfl ?_
        exact ml_ret rfl (rfl) (⟨⟨_, rfl⟩, rfl⟩)
  · show ml _ _ _ (250, [(0, .ref a), (1, .int x1)], [], M) _
    refine ml_st (S' := (251, [(0, .ref a), (1, .int x1)], [.ref a], M)) rfl rfl rfl ?_
    refine tg_ref (S' := (254, [(0, .ref a), (1, .int x1)], [.ref p], M)) rfl hS.1 hY0 (by decide) rfl rfl ?_
    refine ml_st (S' := (255, [(0, .ref a), (1, .int x1)], [.ref a, .ref p], M)) rfl rfl rfl ?_
    refine tg_ref (S' := (258, [(0, .ref a), (1, .int x1)], [.ref p, .ref p], M)) rfl hS.1 hY0 (by decide) rfl rfl ?_
    refine ml_st (S' := (259, [(0, .ref a), (1, .int x1)], [.int x1, .ref p, .ref p], M)) rfl rfl rfl ?_
    refine ml_call (a := [.ref p, .int x1]) (rest := [.ref p]) rfl (okc_t rfl rfl rfl hS.1 hY1 (by decide)) rfl rfl (tq_descriptorOf hS.1 hY1 (by omega)) (fun v73 M74 h75 => ?_)
    obtain ⟨⟨u76, rfl⟩, h75⟩ := h75
    rw [h75]
    show ml _ _ _ (262, [(0, .ref a), (1, .int x1)], [.int u76, .ref p], M) _
    refine ml_call (a := [.ref p, .int u76]) (rest := []) rfl (okc_t rfl rfl rfl hS.1 hY1 (by decide)) rfl rfl (tq_isMethodDescriptor hS.1 hY1 (by omega)) (fun v77 M78 h79 => ?_)
    obtain ⟨⟨u80, rfl, z81⟩, h79⟩ := h79
    rw [h79]
    show ml _ _ _ (265, [(0, .ref a), (1, .int x1)], [.int u80], M) _
    refine ml_if (S1 := (290, [], [], M)) (S2 := (268, [(0, .ref a), (1, .int x1)], [], M)) rfl rfl rfl (fun c_265 => ?_) (fun c_265 => ?_)
    · have c_265 : u80 = 0 := of_decide_eq_true c_265
      refine ml_st (S' := (292, [], [.int 14], M)) rfl rfl rfl ?_
      exact ml_ret rfl (rfl) (⟨⟨_, rfl⟩, rfl⟩)
    · have c_265 : ¬ (u80 = 0) := of_decide_eq_false c_265
      refine ml_st (S' := (269, [(0, .ref a), (1, .int x1)], [.ref a], M)) rfl rfl rfl ?_
      refine tg_ref (S' := (272, [(0, .ref a), (1, .int x1)], [.ref p], M)) rfl hS.1 hY0 (by decide) rfl rfl ?_
      refine ml_st (S' := (273, [(0, .ref a), (1, .int x1)], [.ref a, .ref p], M)) rfl rfl rfl ?_
      refine tg_ref (S' := (276, [(0, .ref a), (1, .int x1)], [.ref p, .ref p], M)) rfl hS.1 hY0 (by decide) rfl rfl ?_
      refine ml_st (S' := (277, [(0, .ref a), (1, .int x1)], [.int x1, .ref p, .ref p], M)) rfl rfl rfl ?_
      refine ml_call (a := [.ref p, .int x1]) (rest := [.ref p]) rfl (okc_t rfl rfl rfl hS.1 hY1 (by decide)) rfl rfl (tq_nameOf hS.1 hY1 (by omega)) (fun v82 M83 h84 => ?_)
      obtain ⟨⟨u85, rfl⟩, h84⟩ := h84
      rw [h84]
      show ml _ _ _ (280, [(0, .ref a), (1, .int x1)], [.int u85, .ref p], M) _
      refine ml_call (a := [.ref p, .int u85]) (rest := []) rfl (okc_t rfl rfl rfl hS.1 hY1 (by decide)) rfl rfl (tq_hasAngle hS.1 hY1 (by omega)) (fun v86 M87 h88 => ?_)
      obtain ⟨⟨u89, rfl, z90⟩, h88⟩ := h88
      rw [h88]
      show ml _ _ _ (283, [(0, .ref a), (1, .int x1)], [.int u89], M) _
      refine ml_if (S1 := (290, [], [], M)) (S2 := (286, [(0, .ref a), (1, .int x1)], [], M)) rfl rfl rfl (fun c_283 => ?_) (fun c_283 => ?_)
      · have c_283 : ¬ u89 = 0 := of_decide_eq_true c_283
        refine ml_st (S' := (292, [], [.int 14], M)) rfl rfl rfl ?_
        exact ml_ret rfl (rfl) (⟨⟨_, rfl⟩, rfl⟩)
      · have c_283 : ¬ (¬ u89 = 0) := of_decide_eq_false c_283
        refine ml_st (S' := (287, [(0, .ref a), (1, .int x1)], [.int 0], M)) rfl rfl rfl ?_
        refine ml_st (S' := (292, [], [.int 0], M)) rfl rfl rfl ?_
        exact ml_ret rfl (rfl) (⟨⟨_, rfl⟩, rfl⟩)
  · show ml _ _ _ (293, [(0, .ref a), (1, .int x1)], [], M) _
    refine ml_st (S' := (294, [(0, .ref a), (1, .int x1)], [.int 0], M)) rfl rfl rfl ?_
    exact ml_ret rfl (rfl) (⟨⟨_, rfl⟩, rfl⟩)
set_option maxHeartbeats 2000000 in
theorem tw_Po_entriesHold {g : xe_G} {M : mi_H} {Y : yT} {a p vd : Nat} {pp : List Nat}  (hW : WF g Y M) (hY0 : Y.1 a = some (8, [p, vd])) (hY1 : Y.1 p = some (7, pp)) (hY2 : Y.1 vd = some (10, [])) {d : Nat} (hd : 6 ≤ d) : mt (mT g) d 146 [.ref a] M (qZ g Y M) := by
  obtain ⟨d, rfl⟩ : ∃ e, d = e + 1 := ⟨d - 1, by omega⟩
  have hS : st g Y M M := st.rf hW
  refine mt_in (b := mb_146 g) rfl rfl ?_
  show ml (mT g) d (mb_146 g).2 (0, [(0, .ref a)], [], M) _
  refine ml_st (S' := (1, [(0, .ref a)], [.int 1], M)) rfl rfl rfl ?_
  refine ml_st (S' := (2, [(0, .ref a), (1, .int 1)], [], M)) rfl rfl rfl ?_
  have L_2 : ∀ (n_2 : Nat) (i2_1 : Int32), (2147483648 - i2_1.toInt).toNat ≤ n_2 → ml (mT g) d (mb_146 g).2 (2, [(0, .ref a), (1, .int i2_1)], [], M) (qZ g Y M) := by
    intro n_2
    induction n_2 with
    | zero => intro i2_1 hn; exact (loop_zero hn).elim
    | succ n_2 ih_2 =>
      intro i2_1 hn_2
      refine ml_blk 2 (S' := (4, [(0, .ref a), (1, .int i2_1)], [.ref a, .int i2_1], M)) rfl ?_
      refine tg_ref (S' := (7, [(0, .ref a), (1, .int i2_1)], [.ref p, .int i2_1], M)) rfl hS.1 hY0 (by decide) rfl rfl ?_
      refine tg_pint rfl hS.1 hY1 rfl (fun u1 g2 => ?_)
      show ml _ _ _ (10, [(0, .ref a), (1, .int i2_1)], [.int u1, .int i2_1], M) _
      refine ml_if2 (S1 := (59, [(0, .ref a), (1, .int i2_1)], [], M)) (S2 := (13, [(0, .ref a), (1, .int i2_1)], [], M)) rfl rfl rfl (fun c_10 => ?_) (fun c_10 => ?_)
      · have c_10 : u1 ≤ i2_1 := of_decide_eq_true c_10
        refine ml_st (S' := (60, [(0, .ref a), (1, .int i2_1)], [.int 1], M)) rfl rfl rfl ?_
        exact ml_ret rfl (r_z (Or.inr rfl)) (⟨⟨_, rfl, Or.inr rfl⟩, hS⟩)
      · have c_10 : ¬ (u1 ≤ i2_1) := of_decide_eq_false c_10
        refine ml_blk 2 (S' := (15, [(0, .ref a), (1, .int i2_1)], [.int i2_1, .ref a], M)) rfl ?_
        refine ml_call (a := [.ref a, .int i2_1]) (rest := []) rfl (okc_t rfl rfl rfl hS.1 hY0 (by decide)) rfl rfl (tw_Po_linksHold hS.1 hY0 hY1 hY2 (by omega)) (fun v3 M4 h5 => ?_)
        obtain ⟨⟨u6, rfl, z7⟩, h5⟩ := h5
        rw [h5]
        show ml _ _ _ (18, [(0, .ref a), (1, .int i2_1)], [.int u6], M) _
        have J_31 : ∀ (s31_0 : Int32), ml (mT g) d (mb_146 g).2 (31, [(0, .ref a), (1, .int i2_1)], [.int s31_0], M) (qZ g Y M) := by
          intro s31_0
          refine ml_st (S' := (32, [(2, .int s31_0), (0, .ref a), (1, .int i2_1)], [], M)) rfl rfl rfl ?_
          refine ml_st (S' := (33, [(2, .int s31_0), (0, .ref a), (1, .int i2_1)], [.int s31_0], M)) rfl rfl rfl ?_
          refine ml_if (S1 := (53, [(2, .int s31_0), (0, .ref a), (1, .int i2_1)], [], M)) (S2 := (36, [(2, .int s31_0), (0, .ref a), (1, .int i2_1)], [], M)) rfl rfl rfl (fun c_33 => ?_) (fun c_33 => ?_)
          · have c_33 : s31_0 = 0 := of_decide_eq_true c_33
            refine ml_st (S' := (56, [(1, .int (i2_1 + 1)), (2, .int s31_0), (0, .ref a)], [], M)) rfl rfl rfl ?_
            refine ml_st (S' := (2, [(0, .ref a), (1, .int (i2_1 + 1))], [], M)) rfl rfl rfl ?_
            exact ih_2 (i2_1 + 1) (loop_inc (Int32.not_le.mp c_10) hn_2) 
          · have c_33 : ¬ (s31_0 = 0) := of_decide_eq_false c_33
            refine ml_st (S' := (37, [(2, .int s31_0), (0, .ref a), (1, .int i2_1)], [.ref a], M)) rfl rfl rfl ?_
            refine tg_ref (S' := (40, [(2, .int s31_0), (0, .ref a), (1, .int i2_1)], [.ref vd], M)) rfl hS.1 hY0 (by decide) rfl rfl ?_
            refine ml_blk 2 (S' := (42, [(2, .int s31_0), (0, .ref a), (1, .int i2_1)], [.ref a, .int s31_0, .ref vd], M)) rfl ?_
            refine tg_ref (S' := (45, [(2, .int s31_0), (0, .ref a), (1, .int i2_1)], [.ref p, .int s31_0, .ref vd], M)) rfl hS.1 hY0 (by decide) rfl rfl ?_
            refine ml_st (S' := (46, [(2, .int s31_0), (0, .ref a), (1, .int i2_1)], [.int i2_1, .ref p, .int s31_0, .ref vd], M)) rfl rfl rfl ?_
            refine ml_call (a := [.ref p, .int i2_1]) (rest := [.int s31_0, .ref vd]) rfl (okc_t rfl rfl rfl hS.1 hY1 (by decide)) rfl rfl (tq_tagPlace hS.1 hY1 (by omega)) (fun v8 M9 h10 => ?_)
            obtain ⟨⟨u11, rfl⟩, h10⟩ := h10
            rw [h10]
            show ml _ _ _ (49, [(2, .int s31_0), (0, .ref a), (1, .int i2_1)], [.int u11, .int s31_0, .ref vd], M) _
            refine ml_call (a := [.ref vd, .int s31_0, .int u11]) (rest := []) rfl (okc_t rfl rfl rfl hS.1 hY2 (by decide)) rfl rfl (tw_Ve_wrong hS.1 hY2 (by omega)) (fun v12 M13 h14 => ?_)
            obtain ⟨rfl, h14⟩ := h14
            have hS16 := hS.tr h14.1
            show ml _ _ _ (52, [(2, .int s31_0), (0, .ref a), (1, .int i2_1)], [.int 0], M13) _
            exact ml_ret rfl (r_z (Or.inl rfl)) (⟨⟨_, rfl, Or.inl rfl⟩, hS16⟩)
        refine ml_if (S1 := (29, [(0, .ref a), (1, .int i2_1)], [], M)) (S2 := (21, [(0, .ref a), (1, .int i2_1)], [], M)) rfl rfl rfl (fun c_18 => ?_) (fun c_18 => ?_)
        · have c_18 : u6 = 0 := of_decide_eq_true c_18
          refine ml_st (S' := (31, [(0, .ref a), (1, .int i2_1)], [.int 9], M)) rfl rfl rfl ?_
          exact J_31 9
        · have c_18 : ¬ (u6 = 0) := of_decide_eq_false c_18
          refine ml_blk 2 (S' := (23, [(0, .ref a), (1, .int i2_1)], [.int i2_1, .ref a], M)) rfl ?_
          refine ml_call (a := [.ref a, .int i2_1]) (rest := []) rfl (okc_t rfl rfl rfl hS.1 hY0 (by decide)) rfl rfl (tw_Po_brokenRule hS.1 hY0 hY1 hY2 (by omega)) (fun v17 M18 h19 => ?_)
          obtain ⟨⟨u20, rfl⟩, h19⟩ := h19
          rw [h19]
          show ml _ _ _ (26, [(0, .ref a), (1, .int i2_1)], [.int u20], M) _
          refine ml_st (S' := (31, [(0, .ref a), (1, .int i2_1)], [.int u20], M)) rfl rfl rfl ?_
          exact J_31 u20
  exact L_2 _ 1 (Nat.le_refl _) 
set_option maxHeartbeats 2000000 in
theorem tw_Po_bootstrapsHold {g : xe_G} {M : mi_H} {Y : yT} {a p vd : Nat} {pp : List Nat} {x1 : Int32}  (hW : WF g Y M) (hY0 : Y.1 a = some (8, [p, vd])) (hY1 : Y.1 p = some (7, pp)) (hY2 : Y.1 vd = some (10, [])) {d : Nat} (hd : 2 ≤ d) : mt (mT g) d 144 [.ref a, .int x1] M (qZ g Y M) := by
  obtain ⟨d, rfl⟩ : ∃ e, d = e + 1 := ⟨d - 1, by omega⟩
  have hS : st g Y M M := st.rf hW
  refine mt_in (b := mb_144 g) rfl rfl ?_
  show ml (mT g) d (mb_144 g).2 (0, [(0, .ref a), (1, .int x1)], [], M) _
  refine ml_st (S' := (1, [(0, .ref a), (1, .int x1)], [.int 1], M)) rfl rfl rfl ?_
  refine ml_st (S' := (2, [(0, .ref a), (1, .int x1), (2, .int 1)], [], M)) rfl rfl rfl ?_
  have L_2 : ∀ (n_2 : Nat) (i2_2 : Int32), (2147483648 - i2_2.toInt).toNat ≤ n_2 → ml (mT g) d (mb_144 g).2 (2, [(0, .ref a), (1, .int x1), (2, .int i2_2)], [], M) (qZ g Y M) := by
    intro n_2
    induction n_2 with
    | zero => intro i2_2 hn; exact (loop_zero hn).elim
    | succ n_2 ih_2 =>
      intro i2_2 hn_2
      refine ml_blk 2 (S' := (4, [(0, .ref a), (1, .int x1), (2, .int i2_2)], [.ref a, .int i2_2], M)) rfl ?_
      refine tg_ref (S' := (7, [(0, .ref a), (1, .int x1), (2, .int i2_2)], [.ref p, .int i2_2], M)) rfl hS.1 hY0 (by decide) rfl rfl ?_
      refine tg_pint rfl hS.1 hY1 rfl (fun u1 g2 => ?_)
      show ml _ _ _ (10, [(0, .ref a), (1, .int x1), (2, .int i2_2)], [.int u1, .int i2_2], M) _
      refine ml_if2 (S1 := (70, [(0, .ref a), (1, .int x1), (2, .int i2_2)], [], M)) (S2 := (13, [(0, .ref a), (1, .int x1), (2, .int i2_2)], [], M)) rfl rfl rfl (fun c_10 => ?_) (fun c_10 => ?_)
      · have c_10 : u1 ≤ i2_2 := of_decide_eq_true c_10
        refine ml_st (S' := (71, [(0, .ref a), (1, .int x1), (2, .int i2_2)], [.int 1], M)) rfl rfl rfl ?_
        exact ml_ret rfl (r_z (Or.inr rfl)) (⟨⟨_, rfl, Or.inr rfl⟩, hS⟩)
      · have c_10 : ¬ (u1 ≤ i2_2) := of_decide_eq_false c_10
        refine ml_st (S' := (14, [(0, .ref a), (1, .int x1), (2, .int i2_2)], [.ref a], M)) rfl rfl rfl ?_
        refine tg_ref (S' := (17, [(0, .ref a), (1, .int x1), (2, .int i2_2)], [.ref p], M)) rfl hS.1 hY0 (by decide) rfl rfl ?_
        refine ml_st (S' := (18, [(0, .ref a), (1, .int x1), (2, .int i2_2)], [.int i2_2, .ref p], M)) rfl rfl rfl ?_
        refine ml_call (a := [.ref p, .int i2_2]) (rest := []) rfl (okc_t rfl rfl rfl hS.1 hY1 (by decide)) rfl rfl (tq_tagOf hS.1 hY1 (by omega)) (fun v3 M4 h5 => ?_)
        obtain ⟨⟨u6, rfl⟩, h5⟩ := h5
        rw [h5]
        show ml _ _ _ (21, [(0, .ref a), (1, .int x1), (2, .int i2_2)], [.int u6], M) _
        refine ml_st (S' := (22, [(3, .int u6), (0, .ref a), (1, .int x1), (2, .int i2_2)], [], M)) rfl rfl rfl ?_
        refine ml_blk 2 (S' := (25, [(3, .int u6), (0, .ref a), (1, .int x1), (2, .int i2_2)], [.int 17, .int u6], M)) rfl ?_
        have J_34 : ml (mT g) d (mb_144 g).2 (34, [(0, .ref a), (1, .int x1), (2, .int i2_2)], [], M) (qZ g Y M) := by
          refine ml_st (S' := (35, [(0, .ref a), (1, .int x1), (2, .int i2_2)], [.ref a], M)) rfl rfl rfl ?_
          refine tg_ref (S' := (38, [(0, .ref a), (1, .int x1), (2, .int i2_2)], [.ref p], M)) rfl hS.1 hY0 (by decide) rfl rfl ?_
          refine ml_st (S' := (39, [(0, .ref a), (1, .int x1), (2, .int i2_2)], [.int i2_2, .ref p], M)) rfl rfl rfl ?_
          refine ml_call (a := [.ref p, .int i2_2]) (rest := []) rfl (okc_t rfl rfl rfl hS.1 hY1 (by decide)) rfl rfl (tq_firstIndex hS.1 hY1 (by omega)) (fun v7 M8 h9 => ?_)
          obtain ⟨⟨u10, rfl⟩, h9⟩ := h9
          rw [h9]
          show ml _ _ _ (42, [(0, .ref a), (1, .int x1), (2, .int i2_2)], [.int u10], M) _
          refine ml_st (S' := (43, [(0, .ref a), (1, .int x1), (2, .int i2_2)], [.int x1, .int u10], M)) rfl rfl rfl ?_
          refine ml_if2 (S1 := (64, [(0, .ref a), (1, .int x1), (2, .int i2_2)], [], M)) (S2 := (46, [(0, .ref a), (1, .int x1), (2, .int i2_2)], [], M)) rfl rfl rfl (fun c_43 => ?_) (fun c_43 => ?_)
          · have c_43 : u10 < x1 := of_decide_eq_true c_43
            refine ml_st (S' := (67, [(2, .int (i2_2 + 1)), (0, .ref a), (1, .int x1)], [], M)) rfl rfl rfl ?_
            refine ml_st (S' := (2, [(0, .ref a), (1, .int x1), (2, .int (i2_2 + 1))], [], M)) rfl rfl rfl ?_
            exact ih_2 (i2_2 + 1) (loop_inc (Int32.not_le.mp c_10) hn_2) 
          · have c_43 : ¬ (u10 < x1) := of_decide_eq_false c_43
            refine ml_st (S' := (47, [(0, .ref a), (1, .int x1), (2, .int i2_2)], [.ref a], M)) rfl rfl rfl ?_
            refine tg_ref (S' := (50, [(0, .ref a), (1, .int x1), (2, .int i2_2)], [.ref vd], M)) rfl hS.1 hY0 (by decide) rfl rfl ?_
            refine ml_blk 2 (S' := (53, [(0, .ref a), (1, .int x1), (2, .int i2_2)], [.ref a, .int 40, .ref vd], M)) rfl ?_
            refine tg_ref (S' := (56, [(0, .ref a), (1, .int x1), (2, .int i2_2)], [.ref p, .int 40, .ref vd], M)) rfl hS.1 hY0 (by decide) rfl rfl ?_
            refine ml_st (S' := (57, [(0, .ref a), (1, .int x1), (2, .int i2_2)], [.int i2_2, .ref p, .int 40, .ref vd], M)) rfl rfl rfl ?_
            refine ml_call (a := [.ref p, .int i2_2]) (rest := [.int 40, .ref vd]) rfl (okc_t rfl rfl rfl hS.1 hY1 (by decide)) rfl rfl (tq_tagPlace hS.1 hY1 (by omega)) (fun v11 M12 h13 => ?_)
            obtain ⟨⟨u14, rfl⟩, h13⟩ := h13
            rw [h13]
            show ml _ _ _ (60, [(0, .ref a), (1, .int x1), (2, .int i2_2)], [.int u14, .int 40, .ref vd], M) _
            refine ml_call (a := [.ref vd, .int 40, .int u14]) (rest := []) rfl (okc_t rfl rfl rfl hS.1 hY2 (by decide)) rfl rfl (tw_Ve_wrong hS.1 hY2 (by omega)) (fun v15 M16 h17 => ?_)
            obtain ⟨rfl, h17⟩ := h17
            have hS19 := hS.tr h17.1
            show ml _ _ _ (63, [(0, .ref a), (1, .int x1), (2, .int i2_2)], [.int 0], M16) _
            exact ml_ret rfl (r_z (Or.inl rfl)) (⟨⟨_, rfl, Or.inl rfl⟩, hS19⟩)
        refine ml_if2 (S1 := (34, [(0, .ref a), (1, .int x1), (2, .int i2_2)], [], M)) (S2 := (28, [(3, .int u6), (0, .ref a), (1, .int x1), (2, .int i2_2)], [], M)) rfl rfl rfl (fun c_25 => ?_) (fun c_25 => ?_)
        · have c_25 : u6 = 17 := of_decide_eq_true c_25
          exact J_34 
        · have c_25 : ¬ (u6 = 17) := of_decide_eq_false c_25
          refine ml_blk 2 (S' := (31, [(3, .int u6), (0, .ref a), (1, .int x1), (2, .int i2_2)], [.int 18, .int u6], M)) rfl ?_
          refine ml_if2 (S1 := (64, [(0, .ref a), (1, .int x1), (2, .int i2_2)], [], M)) (S2 := (34, [(0, .ref a), (1, .int x1), (2, .int i2_2)], [], M)) rfl rfl rfl (fun c_31 => ?_) (fun c_31 => ?_)
          · have c_31 : ¬ u6 = 18 := of_decide_eq_true c_31
            refine ml_st (S' := (67, [(2, .int (i2_2 + 1)), (0, .ref a), (1, .int x1)], [], M)) rfl rfl rfl ?_
            refine ml_st (S' := (2, [(0, .ref a), (1, .int x1), (2, .int (i2_2 + 1))], [], M)) rfl rfl rfl ?_
            exact ih_2 (i2_2 + 1) (loop_inc (Int32.not_le.mp c_10) hn_2) 
          · have c_31 : ¬ (¬ u6 = 18) := of_decide_eq_false c_31
            exact J_34 
  exact L_2 _ 1 (Nat.le_refl _) 
end
section
/-! weak contracts: members, the file, the class (laid by wip/p2/c43.py) -/
set_option maxHeartbeats 2000000 in
theorem tw_Me_has {g : xe_G} {M : mi_H} {Y : yT} {me da n : Nat} {x1 : Int32}  (hW : WF g Y M) (hY0 : Y.1 me = some (6, [da, n])) {d : Nat} (hd : 1 ≤ d) : mt (mT g) d 108 [.ref me, .int x1] M (pZ M) := by
  obtain ⟨d, rfl⟩ : ∃ e, d = e + 1 := ⟨d - 1, by omega⟩
  have hS : st g Y M M := st.rf hW
  refine mt_in (b := mb_108 g) rfl rfl ?_
  show ml (mT g) d (mb_108 g).2 (0, [(0, .ref me), (1, .int x1)], [], M) _
  refine ml_st (S' := (1, [(0, .ref me), (1, .int x1)], [.ref me], M)) rfl rfl rfl ?_
  refine tg_int rfl hS.1 hY0 (by decide) rfl (fun u1 g2 => ?_)
  show ml _ _ _ (4, [(0, .ref me), (1, .int x1)], [.int u1], M) _
  refine ml_blk 2 (S' := (6, [(0, .ref me), (1, .int x1)], [.int (u1 &&& x1)], M)) rfl ?_
  refine ml_if (S1 := (13, [(0, .ref me), (1, .int x1)], [], M)) (S2 := (9, [(0, .ref me), (1, .int x1)], [], M)) rfl rfl rfl (fun c_6 => ?_) (fun c_6 => ?_)
  · have c_6 : (u1 &&& x1) = 0 := of_decide_eq_true c_6
    refine ml_st (S' := (14, [], [.int 0], M)) rfl rfl rfl ?_
    exact ml_ret rfl (r_z (Or.inl rfl)) (⟨⟨_, rfl, Or.inl rfl⟩, rfl⟩)
  · have c_6 : ¬ ((u1 &&& x1) = 0) := of_decide_eq_false c_6
    refine ml_st (S' := (10, [(0, .ref me), (1, .int x1)], [.int 1], M)) rfl rfl rfl ?_
    refine ml_st (S' := (14, [], [.int 1], M)) rfl rfl rfl ?_
    exact ml_ret rfl (r_z (Or.inr rfl)) (⟨⟨_, rfl, Or.inr rfl⟩, rfl⟩)
set_option maxHeartbeats 2000000 in
theorem tw_Me_codeNumber {g : xe_G} {M : mi_H} {Y : yT} {me da n : Nat} {x1 : Int32}  (hW : WF g Y M) (hY0 : Y.1 me = some (6, [da, n])) {d : Nat} (hd : 1 ≤ d) : mt (mT g) d 107 [.ref me, .int x1] M (pI M) := by
  obtain ⟨d, rfl⟩ : ∃ e, d = e + 1 := ⟨d - 1, by omega⟩
  have hS : st g Y M M := st.rf hW
  refine mt_in (b := mb_107 g) rfl rfl ?_
  show ml (mT g) d (mb_107 g).2 (0, [(0, .ref me), (1, .int x1)], [], M) _
  refine ml_st (S' := (1, [(0, .ref me), (1, .int x1)], [.ref me], M)) rfl rfl rfl ?_
  refine tg_vn rfl hS.1 hY0 (by decide) rfl (fun g3 => ?_) (fun b1 g3 h2 => ?_)
  · show ml _ _ _ (4, [(0, .ref me), (1, .int x1)], [.null], M) _
    refine ml_st (S' := (7, [(0, .ref me), (1, .int x1)], [], M)) rfl rfl rfl ?_
    refine ml_st (S' := (8, [(0, .ref me), (1, .int x1)], [.int 0], M)) rfl rfl rfl ?_
    exact ml_ret rfl (rfl) (⟨⟨_, rfl⟩, rfl⟩)
  · skip
    obtain ⟨p4, o5, h2⟩ := h2
    obtain ⟨⟨pp6, h7⟩, b8, h9⟩ := hS.1.lnk h2 (by decide)
    obtain ⟨da10, n11, h12⟩ := hS.1.lnk h9 (by decide)
    show ml _ _ _ (4, [(0, .ref me), (1, .int x1)], [.ref b1], M) _
    refine ml_st (S' := (9, [(0, .ref me), (1, .int x1)], [], M)) rfl rfl rfl ?_
    refine ml_st (S' := (10, [(0, .ref me), (1, .int x1)], [.int x1], M)) rfl rfl rfl ?_
    refine ml_sw rfl (fun t_10 ht_10 => ?_)
    have kt_10 := ht_10
    have ht_10 : t_10 ∈ [36, 44, 52, 60] := mi_sw_sub ht_10 (by decide)
    simp only [List.mem_cons, List.not_mem_nil, or_false] at ht_10
    rcases ht_10 with rfl | rfl | rfl | rfl
    · show ml _ _ _ (36, [(0, .ref me), (1, .int x1)], [], M) _
      refine ml_st (S' := (37, [(0, .ref me), (1, .int x1)], [.ref me], M)) rfl rfl rfl ?_
      refine ml_get (S' := (40, [(0, .ref me), (1, .int x1)], [.ref b1], M)) rfl g3 rfl ?_
      refine tg_int rfl hS.1 h2 (by decide) rfl (fun u13 g14 => ?_)
      show ml _ _ _ (43, [(0, .ref me), (1, .int x1)], [.int u13], M) _
      exact ml_ret rfl (rfl) (⟨⟨_, rfl⟩, rfl⟩)
    · show ml _ _ _ (44, [(0, .ref me), (1, .int x1)], [], M) _
      refine ml_st (S' := (45, [(0, .ref me), (1, .int x1)], [.ref me], M)) rfl rfl rfl ?_
      refine ml_get (S' := (48, [(0, .ref me), (1, .int x1)], [.ref b1], M)) rfl g3 rfl ?_
      refine tg_int rfl hS.1 h2 (by decide) rfl (fun u15 g16 => ?_)
      show ml _ _ _ (51, [(0, .ref me), (1, .int x1)], [.int u15], M) _
      exact ml_ret rfl (rfl) (⟨⟨_, rfl⟩, rfl⟩)
    · show ml _ _ _ (52, [(0, .ref me), (1, .int x1)], [], M) _
      refine ml_st (S' := (53, [(0, .ref me), (1, .int x1)], [.ref me], M)) rfl rfl rfl ?_
      refine ml_get (S' := (56, [(0, .ref me), (1, .int x1)], [.ref b1], M)) rfl g3 rfl ?_
      refine tg_int rfl hS.1 h2 (by decide) rfl (fun u17 g18 => ?_)
      show ml _ _ _ (59, [(0, .ref me), (1, .int x1)], [.int u17], M) _
      exact ml_ret rfl (rfl) (⟨⟨_, rfl⟩, rfl⟩)
    · show ml _ _ _ (60, [(0, .ref me), (1, .int x1)], [], M) _
      refine ml_st (S' := (61, [(0, .ref me), (1, .int x1)], [.ref me], M)) rfl rfl rfl ?_
      refine ml_get (S' := (64, [(0, .ref me), (1, .int x1)], [.ref b1], M)) rfl g3 rfl ?_
      refine tg_int rfl hS.1 h2 (by decide) rfl (fun u19 g20 => ?_)
      show ml _ _ _ (67, [(0, .ref me), (1, .int x1)], [.int u19], M) _
      exact ml_ret rfl (rfl) (⟨⟨_, rfl⟩, rfl⟩)
set_option maxHeartbeats 2000000 in
theorem tw_Me_number {g : xe_G} {M : mi_H} {Y : yT} {me da n : Nat} {x1 x2 : Int32}  (hW : WF g Y M) (hY0 : Y.1 me = some (6, [da, n])) {d : Nat} (hd : 2 ≤ d) : mt (mT g) d 109 [.ref me, .int x1, .int x2] M (pI M) := by
  obtain ⟨d, rfl⟩ : ∃ e, d = e + 1 := ⟨d - 1, by omega⟩
  have hS : st g Y M M := st.rf hW
  refine mt_in (b := mb_109 g) rfl rfl ?_
  show ml (mT g) d (mb_109 g).2 (0, [(0, .ref me), (1, .int x1), (2, .int x2)], [], M) _
  refine ml_st (S' := (1, [(0, .ref me), (1, .int x1), (2, .int x2)], [.int x2], M)) rfl rfl rfl ?_
  refine ml_sw rfl (fun t_1 ht_1 => ?_)
  have kt_1 := ht_1
  have ht_1 : t_1 ∈ [56, 61, 66, 71, 76, 81, 86] := mi_sw_sub ht_1 (by decide)
  simp only [List.mem_cons, List.not_mem_nil, or_false] at ht_1
  rcases ht_1 with rfl | rfl | rfl | rfl | rfl | rfl | rfl
  · show ml _ _ _ (56, [(0, .ref me), (1, .int x1), (2, .int x2)], [], M) _
    refine ml_st (S' := (57, [(0, .ref me), (1, .int x1), (2, .int x2)], [.ref me], M)) rfl rfl rfl ?_
    refine tg_int rfl hS.1 hY0 (by decide) rfl (fun u1 g2 => ?_)
    show ml _ _ _ (60, [(0, .ref me), (1, .int x1), (2, .int x2)], [.int u1], M) _
    exact ml_ret rfl (rfl) (⟨⟨_, rfl⟩, rfl⟩)
  · show ml _ _ _ (61, [(0, .ref me), (1, .int x1), (2, .int x2)], [], M) _
    refine ml_st (S' := (62, [(0, .ref me), (1, .int x1), (2, .int x2)], [.ref me], M)) rfl rfl rfl ?_
    refine tg_int rfl hS.1 hY0 (by decide) rfl (fun u3 g4 => ?_)
    show ml _ _ _ (65, [(0, .ref me), (1, .int x1), (2, .int x2)], [.int u3], M) _
    exact ml_ret rfl (rfl) (⟨⟨_, rfl⟩, rfl⟩)
  · show ml _ _ _ (66, [(0, .ref me), (1, .int x1), (2, .int x2)], [], M) _
    refine ml_st (S' := (67, [(0, .ref me), (1, .int x1), (2, .int x2)], [.ref me], M)) rfl rfl rfl ?_
    refine tg_int rfl hS.1 hY0 (by decide) rfl (fun u5 g6 => ?_)
    show ml _ _ _ (70, [(0, .ref me), (1, .int x1), (2, .int x2)], [.int u5], M) _
    exact ml_ret rfl (rfl) (⟨⟨_, rfl⟩, rfl⟩)
  · show ml _ _ _ (71, [(0, .ref me), (1, .int x1), (2, .int x2)], [], M) _
    refine ml_st (S' := (72, [(0, .ref me), (1, .int x1), (2, .int x2)], [.ref me], M)) rfl rfl rfl ?_
    refine tg_int rfl hS.1 hY0 (by decide) rfl (fun u7 g8 => ?_)
    show ml _ _ _ (75, [(0, .ref me), (1, .int x1), (2, .int x2)], [.int u7], M) _
    exact ml_ret rfl (rfl) (⟨⟨_, rfl⟩, rfl⟩)
  · show ml _ _ _ (76, [(0, .ref me), (1, .int x1), (2, .int x2)], [], M) _
    refine ml_st (S' := (77, [(0, .ref me), (1, .int x1), (2, .int x2)], [.ref me], M)) rfl rfl rfl ?_
    refine tg_int rfl hS.1 hY0 (by decide) rfl (fun u9 g10 => ?_)
    show ml _ _ _ (80, [(0, .ref me), (1, .int x1), (2, .int x2)], [.int u9], M) _
    exact ml_ret rfl (rfl) (⟨⟨_, rfl⟩, rfl⟩)
  · show ml _ _ _ (81, [(0, .ref me), (1, .int x1), (2, .int x2)], [], M) _
    refine ml_st (S' := (82, [(0, .ref me), (1, .int x1), (2, .int x2)], [.ref me], M)) rfl rfl rfl ?_
    refine tg_int rfl hS.1 hY0 (by decide) rfl (fun u11 g12 => ?_)
    show ml _ _ _ (85, [(0, .ref me), (1, .int x1), (2, .int x2)], [.int u11], M) _
    exact ml_ret rfl (rfl) (⟨⟨_, rfl⟩, rfl⟩)
  · show ml _ _ _ (86, [(0, .ref me), (1, .int x1), (2, .int x2)], [], M) _
    refine ml_st (S' := (87, [(0, .ref me), (1, .int x1), (2, .int x2)], [.int x1], M)) rfl rfl rfl ?_
    refine ml_if (S1 := (98, [(0, .ref me), (1, .int x1), (2, .int x2)], [], M)) (S2 := (90, [(0, .ref me), (1, .int x1), (2, .int x2)], [], M)) rfl rfl rfl (fun c_87 => ?_) (fun c_87 => ?_)
    · have c_87 : x1 = 0 := of_decide_eq_true c_87
      refine ml_blk 2 (S' := (100, [(0, .ref me), (1, .int x1), (2, .int x2)], [.int 4, .int x2], M)) rfl ?_
      refine ml_if2 (S1 := (110, [(0, .ref me), (1, .int x1), (2, .int x2)], [], M)) (S2 := (103, [(0, .ref me), (1, .int x1), (2, .int x2)], [], M)) rfl rfl rfl (fun c_100 => ?_) (fun c_100 => ?_)
      · have c_100 : ¬ x2 = 4 := of_decide_eq_true c_100
        refine ml_st (S' := (111, [], [.int 0], M)) rfl rfl rfl ?_
        exact ml_ret rfl (rfl) (⟨⟨_, rfl⟩, rfl⟩)
      · have c_100 : ¬ (¬ x2 = 4) := of_decide_eq_false c_100
        refine ml_st (S' := (104, [(0, .ref me), (1, .int x1), (2, .int x2)], [.ref me], M)) rfl rfl rfl ?_
        refine tg_int rfl hS.1 hY0 (by decide) rfl (fun u13 g14 => ?_)
        show ml _ _ _ (107, [(0, .ref me), (1, .int x1), (2, .int x2)], [.int u13], M) _
        refine ml_st (S' := (111, [], [.int u13], M)) rfl rfl rfl ?_
        exact ml_ret rfl (rfl) (⟨⟨_, rfl⟩, rfl⟩)
    · have c_87 : ¬ (x1 = 0) := of_decide_eq_false c_87
      refine ml_blk 2 (S' := (92, [(0, .ref me), (1, .int x1), (2, .int x2)], [.int x2, .ref me], M)) rfl ?_
      refine ml_call (a := [.ref me, .int x2]) (rest := []) rfl (okc_t rfl rfl rfl hS.1 hY0 (by decide)) rfl rfl (tw_Me_codeNumber hS.1 hY0 (by omega)) (fun v15 M16 h17 => ?_)
      obtain ⟨⟨u18, rfl⟩, h17⟩ := h17
      rw [h17]
      show ml _ _ _ (95, [(0, .ref me), (1, .int x1), (2, .int x2)], [.int u18], M) _
      refine ml_st (S' := (111, [], [.int u18], M)) rfl rfl rfl ?_
      exact ml_ret rfl (rfl) (⟨⟨_, rfl⟩, rfl⟩)
end
section
set_option maxHeartbeats 2000000 in
theorem tw_Cl_has {g : xe_G} {M : mi_H} {Y : yT} {c b da n : Nat} {x1 : Int32}  (hW : WF g Y M) (hY0 : Y.1 c = some (3, [b, da, n])) (hY1 : Y.1 b = some (1, [da, n])) {d : Nat} (hd : 2 ≤ d) : mt (mT g) d 71 [.ref c, .int x1] M (pZ M) := by
  obtain ⟨d, rfl⟩ : ∃ e, d = e + 1 := ⟨d - 1, by omega⟩
  have hS : st g Y M M := st.rf hW
  refine mt_in (b := mb_71 g) rfl rfl ?_
  show ml (mT g) d (mb_71 g).2 (0, [(0, .ref c), (1, .int x1)], [], M) _
  refine ml_st (S' := (1, [(0, .ref c), (1, .int x1)], [.ref c], M)) rfl rfl rfl ?_
  refine tg_ref (S' := (4, [(0, .ref c), (1, .int x1)], [.ref b], M)) rfl hS.1 hY0 (by decide) rfl rfl ?_
  refine ml_st (S' := (5, [(0, .ref c), (1, .int x1)], [.ref c, .ref b], M)) rfl rfl rfl ?_
  refine tg_int rfl hS.1 hY0 (by decide) rfl (fun u1 g2 => ?_)
  show ml _ _ _ (8, [(0, .ref c), (1, .int x1)], [.int u1, .ref b], M) _
  refine ml_call (a := [.ref b, .int u1]) (rest := []) rfl (okc_t rfl rfl rfl hS.1 hY1 (by decide)) rfl rfl (tq_u2 hS.1 hY1 (by omega)) (fun v3 M4 h5 => ?_)
  obtain ⟨⟨u6, rfl⟩, h5⟩ := h5
  rw [h5]
  show ml _ _ _ (11, [(0, .ref c), (1, .int x1)], [.int u6], M) _
  refine ml_blk 2 (S' := (13, [(0, .ref c), (1, .int x1)], [.int (u6 &&& x1)], M)) rfl ?_
  refine ml_if (S1 := (20, [(0, .ref c), (1, .int x1)], [], M)) (S2 := (16, [(0, .ref c), (1, .int x1)], [], M)) rfl rfl rfl (fun c_13 => ?_) (fun c_13 => ?_)
  · have c_13 : (u6 &&& x1) = 0 := of_decide_eq_true c_13
    refine ml_st (S' := (21, [], [.int 0], M)) rfl rfl rfl ?_
    exact ml_ret rfl (r_z (Or.inl rfl)) (⟨⟨_, rfl, Or.inl rfl⟩, rfl⟩)
  · have c_13 : ¬ ((u6 &&& x1) = 0) := of_decide_eq_false c_13
    refine ml_st (S' := (17, [(0, .ref c), (1, .int x1)], [.int 1], M)) rfl rfl rfl ?_
    refine ml_st (S' := (21, [], [.int 1], M)) rfl rfl rfl ?_
    exact ml_ret rfl (r_z (Or.inr rfl)) (⟨⟨_, rfl, Or.inr rfl⟩, rfl⟩)
set_option maxHeartbeats 2000000 in
theorem tw_Cl_attributeNumber {g : xe_G} {M : mi_H} {Y : yT} {c b da n : Nat} {x1 : Int32}  (hW : WF g Y M) (hY0 : Y.1 c = some (3, [b, da, n])) (hY1 : Y.1 b = some (1, [da, n])) {d : Nat} (hd : 1 ≤ d) : mt (mT g) d 69 [.ref c, .int x1] M (pI M) := by
  obtain ⟨d, rfl⟩ : ∃ e, d = e + 1 := ⟨d - 1, by omega⟩
  have hS : st g Y M M := st.rf hW
  refine mt_in (b := mb_69 g) rfl rfl ?_
  show ml (mT g) d (mb_69 g).2 (0, [(0, .ref c), (1, .int x1)], [], M) _
  refine ml_st (S' := (1, [(0, .ref c), (1, .int x1)], [.int x1], M)) rfl rfl rfl ?_
  refine ml_sw rfl (fun t_1 ht_1 => ?_)
  have kt_1 := ht_1
  have ht_1 : t_1 ∈ [60, 65, 70, 75, 80, 85] := mi_sw_sub ht_1 (by decide)
  simp only [List.mem_cons, List.not_mem_nil, or_false] at ht_1
  rcases ht_1 with rfl | rfl | rfl | rfl | rfl | rfl
  · show ml _ _ _ (60, [(0, .ref c), (1, .int x1)], [], M) _
    refine ml_st (S' := (61, [(0, .ref c), (1, .int x1)], [.ref c], M)) rfl rfl rfl ?_
    refine tg_int rfl hS.1 hY0 (by decide) rfl (fun u1 g2 => ?_)
    show ml _ _ _ (64, [(0, .ref c), (1, .int x1)], [.int u1], M) _
    exact ml_ret rfl (rfl) (⟨⟨_, rfl⟩, rfl⟩)
  · show ml _ _ _ (65, [(0, .ref c), (1, .int x1)], [], M) _
    refine ml_st (S' := (66, [(0, .ref c), (1, .int x1)], [.ref c], M)) rfl rfl rfl ?_
    refine tg_int rfl hS.1 hY0 (by decide) rfl (fun u3 g4 => ?_)
    show ml _ _ _ (69, [(0, .ref c), (1, .int x1)], [.int u3], M) _
    exact ml_ret rfl (rfl) (⟨⟨_, rfl⟩, rfl⟩)
  · show ml _ _ _ (70, [(0, .ref c), (1, .int x1)], [], M) _
    refine ml_st (S' := (71, [(0, .ref c), (1, .int x1)], [.ref c], M)) rfl rfl rfl ?_
    refine tg_int rfl hS.1 hY0 (by decide) rfl (fun u5 g6 => ?_)
    show ml _ _ _ (74, [(0, .ref c), (1, .int x1)], [.int u5], M) _
    exact ml_ret rfl (rfl) (⟨⟨_, rfl⟩, rfl⟩)
  · show ml _ _ _ (75, [(0, .ref c), (1, .int x1)], [], M) _
    refine ml_st (S' := (76, [(0, .ref c), (1, .int x1)], [.ref c], M)) rfl rfl rfl ?_
    refine tg_int rfl hS.1 hY0 (by decide) rfl (fun u7 g8 => ?_)
    show ml _ _ _ (79, [(0, .ref c), (1, .int x1)], [.int u7], M) _
    exact ml_ret rfl (rfl) (⟨⟨_, rfl⟩, rfl⟩)
  · show ml _ _ _ (80, [(0, .ref c), (1, .int x1)], [], M) _
    refine ml_st (S' := (81, [(0, .ref c), (1, .int x1)], [.ref c], M)) rfl rfl rfl ?_
    refine tg_int rfl hS.1 hY0 (by decide) rfl (fun u9 g10 => ?_)
    show ml _ _ _ (84, [(0, .ref c), (1, .int x1)], [.int u9], M) _
    exact ml_ret rfl (rfl) (⟨⟨_, rfl⟩, rfl⟩)
  · show ml _ _ _ (85, [(0, .ref c), (1, .int x1)], [], M) _
    refine ml_st (S' := (86, [(0, .ref c), (1, .int x1)], [.ref c], M)) rfl rfl rfl ?_
    refine tg_int rfl hS.1 hY0 (by decide) rfl (fun u11 g12 => ?_)
    show ml _ _ _ (89, [(0, .ref c), (1, .int x1)], [.int u11], M) _
    exact ml_ret rfl (rfl) (⟨⟨_, rfl⟩, rfl⟩)
set_option maxHeartbeats 2000000 in
theorem tw_Cl_number {g : xe_G} {M : mi_H} {Y : yT} {c b da n : Nat} {x1 : Int32}  (hW : WF g Y M) (hY0 : Y.1 c = some (3, [b, da, n])) (hY1 : Y.1 b = some (1, [da, n])) {d : Nat} (hd : 2 ≤ d) : mt (mT g) d 73 [.ref c, .int x1] M (pI M) := by
  obtain ⟨d, rfl⟩ : ∃ e, d = e + 1 := ⟨d - 1, by omega⟩
  have hS : st g Y M M := st.rf hW
  refine mt_in (b := mb_73 g) rfl rfl ?_
  show ml (mT g) d (mb_73 g).2 (0, [(0, .ref c), (1, .int x1)], [], M) _
  refine ml_st (S' := (1, [(0, .ref c), (1, .int x1)], [.int x1], M)) rfl rfl rfl ?_
  refine ml_sw rfl (fun t_1 ht_1 => ?_)
  have kt_1 := ht_1
  have ht_1 : t_1 ∈ [64, 72, 78, 84, 89, 101, 106, 111, 125, 139, 147] := mi_sw_sub ht_1 (by decide)
  simp only [List.mem_cons, List.not_mem_nil, or_false] at ht_1
  rcases ht_1 with rfl | rfl | rfl | rfl | rfl | rfl | rfl | rfl | rfl | rfl | rfl
  · show ml _ _ _ (64, [(0, .ref c), (1, .int x1)], [], M) _
    refine ml_st (S' := (65, [(0, .ref c), (1, .int x1)], [.ref c], M)) rfl rfl rfl ?_
    refine tg_vo rfl hS.1 hY0 (by decide) rfl (fun b1 g3 h2 => ?_)
    obtain ⟨s4, h2⟩ := h2
    show ml _ _ _ (68, [(0, .ref c), (1, .int x1)], [.ref b1], M) _
    refine tg_pint rfl hS.1 h2 rfl (fun u5 g6 => ?_)
    show ml _ _ _ (71, [(0, .ref c), (1, .int x1)], [.int u5], M) _
    exact ml_ret rfl (rfl) (⟨⟨_, rfl⟩, rfl⟩)
  · show ml _ _ _ (72, [(0, .ref c), (1, .int x1)], [], M) _
    refine ml_st (S' := (73, [(0, .ref c), (1, .int x1)], [.ref c], M)) rfl rfl rfl ?_
    refine tg_vo rfl hS.1 hY0 (by decide) rfl (fun b7 g9 h8 => ?_)
    obtain ⟨k10, h8⟩ := h8
    show ml _ _ _ (76, [(0, .ref c), (1, .int x1)], [.ref b7], M) _
    refine tl_mem (S' := (77, [(0, .ref c), (1, .int x1)], [.int (nI k10)], M)) rfl hS.1 h8 rfl ?_
    exact ml_ret rfl (rfl) (⟨⟨_, rfl⟩, rfl⟩)
  · show ml _ _ _ (78, [(0, .ref c), (1, .int x1)], [], M) _
    refine ml_st (S' := (79, [(0, .ref c), (1, .int x1)], [.ref c], M)) rfl rfl rfl ?_
    refine tg_vo rfl hS.1 hY0 (by decide) rfl (fun b11 g13 h12 => ?_)
    obtain ⟨k14, h12⟩ := h12
    show ml _ _ _ (82, [(0, .ref c), (1, .int x1)], [.ref b11], M) _
    refine tl_mem (S' := (83, [(0, .ref c), (1, .int x1)], [.int (nI k14)], M)) rfl hS.1 h12 rfl ?_
    exact ml_ret rfl (rfl) (⟨⟨_, rfl⟩, rfl⟩)
  · show ml _ _ _ (84, [(0, .ref c), (1, .int x1)], [], M) _
    refine ml_st (S' := (85, [(0, .ref c), (1, .int x1)], [.ref c], M)) rfl rfl rfl ?_
    refine tg_int rfl hS.1 hY0 (by decide) rfl (fun u15 g16 => ?_)
    show ml _ _ _ (88, [(0, .ref c), (1, .int x1)], [.int u15], M) _
    exact ml_ret rfl (rfl) (⟨⟨_, rfl⟩, rfl⟩)
  · show ml _ _ _ (89, [(0, .ref c), (1, .int x1)], [], M) _
    refine ml_st (S' := (90, [(0, .ref c), (1, .int x1)], [.ref c], M)) rfl rfl rfl ?_
    refine tg_ref (S' := (93, [(0, .ref c), (1, .int x1)], [.ref b], M)) rfl hS.1 hY0 (by decide) rfl rfl ?_
    refine ml_st (S' := (94, [(0, .ref c), (1, .int x1)], [.ref c, .ref b], M)) rfl rfl rfl ?_
    refine tg_int rfl hS.1 hY0 (by decide) rfl (fun u17 g18 => ?_)
    show ml _ _ _ (97, [(0, .ref c), (1, .int x1)], [.int u17, .ref b], M) _
    refine ml_call (a := [.ref b, .int u17]) (rest := []) rfl (okc_t rfl rfl rfl hS.1 hY1 (by decide)) rfl rfl (tq_u2 hS.1 hY1 (by omega)) (fun v19 M20 h21 => ?_)
    obtain ⟨⟨u22, rfl⟩, h21⟩ := h21
    rw [h21]
    show ml _ _ _ (100, [(0, .ref c), (1, .int x1)], [.int u22], M) _
    exact ml_ret rfl (rfl) (⟨⟨_, rfl⟩, rfl⟩)
  · show ml _ _ _ (101, [(0, .ref c), (1, .int x1)], [], M) _
    refine ml_st (S' := (102, [(0, .ref c), (1, .int x1)], [.ref c], M)) rfl rfl rfl ?_
    refine tg_int rfl hS.1 hY0 (by decide) rfl (fun u23 g24 => ?_)
    show ml _ _ _ (105, [(0, .ref c), (1, .int x1)], [.int u23], M) _
    exact ml_ret rfl (rfl) (⟨⟨_, rfl⟩, rfl⟩)
  · show ml _ _ _ (106, [(0, .ref c), (1, .int x1)], [], M) _
    refine ml_st (S' := (107, [(0, .ref c), (1, .int x1)], [.ref c], M)) rfl rfl rfl ?_
    refine tg_int rfl hS.1 hY0 (by decide) rfl (fun u25 g26 => ?_)
    show ml _ _ _ (110, [(0, .ref c), (1, .int x1)], [.int u25], M) _
    exact ml_ret rfl (rfl) (⟨⟨_, rfl⟩, rfl⟩)
  · show ml _ _ _ (111, [(0, .ref c), (1, .int x1)], [], M) _
    refine ml_st (S' := (112, [(0, .ref c), (1, .int x1)], [.ref c], M)) rfl rfl rfl ?_
    refine tg_ref (S' := (115, [(0, .ref c), (1, .int x1)], [.ref b], M)) rfl hS.1 hY0 (by decide) rfl rfl ?_
    refine ml_st (S' := (116, [(0, .ref c), (1, .int x1)], [.ref c, .ref b], M)) rfl rfl rfl ?_
    refine tg_int rfl hS.1 hY0 (by decide) rfl (fun u27 g28 => ?_)
    show ml _ _ _ (119, [(0, .ref c), (1, .int x1)], [.int u27, .ref b], M) _
    refine ml_blk 2 (S' := (121, [(0, .ref c), (1, .int x1)], [.int (u27 + 2), .ref b], M)) rfl ?_
    refine ml_call (a := [.ref b, .int (u27 + 2)]) (rest := []) rfl (okc_t rfl rfl rfl hS.1 hY1 (by decide)) rfl rfl (tq_u2 hS.1 hY1 (by omega)) (fun v29 M30 h31 => ?_)
    obtain ⟨⟨u32, rfl⟩, h31⟩ := h31
    rw [h31]
    show ml _ _ _ (124, [(0, .ref c), (1, .int x1)], [.int u32], M) _
    exact ml_ret rfl (rfl) (⟨⟨_, rfl⟩, rfl⟩)
  · show ml _ _ _ (125, [(0, .ref c), (1, .int x1)], [], M) _
    refine ml_st (S' := (126, [(0, .ref c), (1, .int x1)], [.ref c], M)) rfl rfl rfl ?_
    refine tg_ref (S' := (129, [(0, .ref c), (1, .int x1)], [.ref b], M)) rfl hS.1 hY0 (by decide) rfl rfl ?_
    refine ml_st (S' := (130, [(0, .ref c), (1, .int x1)], [.ref c, .ref b], M)) rfl rfl rfl ?_
    refine tg_int rfl hS.1 hY0 (by decide) rfl (fun u33 g34 => ?_)
    show ml _ _ _ (133, [(0, .ref c), (1, .int x1)], [.int u33, .ref b], M) _
    refine ml_blk 2 (S' := (135, [(0, .ref c), (1, .int x1)], [.int (u33 + 4), .ref b], M)) rfl ?_
    refine ml_call (a := [.ref b, .int (u33 + 4)]) (rest := []) rfl (okc_t rfl rfl rfl hS.1 hY1 (by decide)) rfl rfl (tq_u2 hS.1 hY1 (by omega)) (fun v35 M36 h37 => ?_)
    obtain ⟨⟨u38, rfl⟩, h37⟩ := h37
    rw [h37]
    show ml _ _ _ (138, [(0, .ref c), (1, .int x1)], [.int u38], M) _
    exact ml_ret rfl (rfl) (⟨⟨_, rfl⟩, rfl⟩)
  · show ml _ _ _ (139, [(0, .ref c), (1, .int x1)], [], M) _
    refine ml_st (S' := (140, [(0, .ref c), (1, .int x1)], [.ref c], M)) rfl rfl rfl ?_
    refine tg_vo rfl hS.1 hY0 (by decide) rfl (fun b39 g41 h40 => ?_)
    obtain ⟨s42, h40⟩ := h40
    show ml _ _ _ (143, [(0, .ref c), (1, .int x1)], [.ref b39], M) _
    refine tg_pint rfl hS.1 h40 rfl (fun u43 g44 => ?_)
    show ml _ _ _ (146, [(0, .ref c), (1, .int x1)], [.int u43], M) _
    exact ml_ret rfl (rfl) (⟨⟨_, rfl⟩, rfl⟩)
  · show ml _ _ _ (147, [(0, .ref c), (1, .int x1)], [], M) _
    refine ml_blk 2 (S' := (149, [(0, .ref c), (1, .int x1)], [.int x1, .ref c], M)) rfl ?_
    refine ml_call (a := [.ref c, .int x1]) (rest := []) rfl (okc_t rfl rfl rfl hS.1 hY0 (by decide)) rfl rfl (tw_Cl_attributeNumber hS.1 hY0 hY1 (by omega)) (fun v45 M46 h47 => ?_)
    obtain ⟨⟨u48, rfl⟩, h47⟩ := h47
    rw [h47]
    show ml _ _ _ (152, [(0, .ref c), (1, .int x1)], [.int u48], M) _
    exact ml_ret rfl (rfl) (⟨⟨_, rfl⟩, rfl⟩)
set_option maxHeartbeats 2000000 in
theorem tw_Cl_bootstrapPart {g : xe_G} {M : mi_H} {Y : yT} {c b da n : Nat} {x1 x2 : Int32}  (hW : WF g Y M) (hY0 : Y.1 c = some (3, [b, da, n])) (hY1 : Y.1 b = some (1, [da, n])) {d : Nat} (hd : 2 ≤ d) : mt (mT g) d 70 [.ref c, .int x1, .int x2] M (pI M) := by
  obtain ⟨d, rfl⟩ : ∃ e, d = e + 1 := ⟨d - 1, by omega⟩
  have hS : st g Y M M := st.rf hW
  refine mt_in (b := mb_70 g) rfl rfl ?_
  show ml (mT g) d (mb_70 g).2 (0, [(0, .ref c), (1, .int x1), (2, .int x2)], [], M) _
  refine ml_st (S' := (1, [(0, .ref c), (1, .int x1), (2, .int x2)], [.int x1], M)) rfl rfl rfl ?_
  refine ml_if (S1 := (12, [], [], M)) (S2 := (4, [(0, .ref c), (1, .int x1), (2, .int x2)], [], M)) rfl rfl rfl (fun c_1 => ?_) (fun c_1 => ?_)
  · have c_1 : x1 < 0 := of_decide_eq_true c_1
    refine ml_st (S' := (13, [], [.int (-1)], M)) rfl rfl rfl ?_
    exact ml_ret rfl (rfl) (⟨⟨_, rfl⟩, rfl⟩)
  · have c_1 : ¬ (x1 < 0) := of_decide_eq_false c_1
    refine ml_blk 2 (S' := (6, [(0, .ref c), (1, .int x1), (2, .int x2)], [.ref c, .int x1], M)) rfl ?_
    refine tg_int rfl hS.1 hY0 (by decide) rfl (fun u1 g2 => ?_)
    show ml _ _ _ (9, [(0, .ref c), (1, .int x1), (2, .int x2)], [.int u1, .int x1], M) _
    refine ml_if2 (S1 := (14, [(0, .ref c), (1, .int x1), (2, .int x2)], [], M)) (S2 := (12, [], [], M)) rfl rfl rfl (fun c_9 => ?_) (fun c_9 => ?_)
    · have c_9 : x1 < u1 := of_decide_eq_true c_9
      refine ml_st (S' := (15, [(0, .ref c), (1, .int x1), (2, .int x2)], [.ref c], M)) rfl rfl rfl ?_
      refine tg_int rfl hS.1 hY0 (by decide) rfl (fun u3 g4 => ?_)
      show ml _ _ _ (18, [(0, .ref c), (1, .int x1), (2, .int x2)], [.int u3], M) _
      refine ml_st (S' := (19, [(3, .int u3), (0, .ref c), (1, .int x1), (2, .int x2)], [], M)) rfl rfl rfl ?_
      refine ml_st (S' := (20, [(3, .int u3), (0, .ref c), (1, .int x1), (2, .int x2)], [.int 0], M)) rfl rfl rfl ?_
      refine ml_st (S' := (22, [(0, .ref c), (1, .int x1), (2, .int x2), (3, .int u3), (4, .int 0)], [], M)) rfl rfl rfl ?_
      have L_22 : ∀ (n_22 : Nat) (i22_3 : Int32) (i22_4 : Int32), (2147483648 - i22_4.toInt).toNat ≤ n_22 → ml (mT g) d (mb_70 g).2 (22, [(0, .ref c), (1, .int x1), (2, .int x2), (3, .int i22_3), (4, .int i22_4)], [], M) (pI M) := by
        intro n_22
        induction n_22 with
        | zero => intro i22_3 i22_4 hn; exact (loop_zero hn).elim
        | succ n_22 ih_22 =>
          intro i22_3 i22_4 hn_22
          refine ml_blk 2 (S' := (25, [(0, .ref c), (1, .int x1), (2, .int x2), (3, .int i22_3), (4, .int i22_4)], [.int x1, .int i22_4], M)) rfl ?_
          refine ml_if2 (S1 := (51, [(0, .ref c), (1, .int x1), (2, .int x2), (3, .int i22_3), (4, .int i22_4)], [], M)) (S2 := (28, [(0, .ref c), (1, .int x1), (2, .int x2), (3, .int i22_3), (4, .int i22_4)], [], M)) rfl rfl rfl (fun c_25 => ?_) (fun c_25 => ?_)
          · have c_25 : x1 ≤ i22_4 := of_decide_eq_true c_25
            refine ml_st (S' := (52, [(0, .ref c), (1, .int x1), (2, .int x2), (3, .int i22_3), (4, .int i22_4)], [.int x2], M)) rfl rfl rfl ?_
            refine ml_if (S1 := (69, [], [], M)) (S2 := (55, [(0, .ref c), (1, .int x1), (2, .int x2), (3, .int i22_3), (4, .int i22_4)], [], M)) rfl rfl rfl (fun c_52 => ?_) (fun c_52 => ?_)
            · have c_52 : x2 < 0 := of_decide_eq_true c_52
              refine ml_st (S' := (70, [], [.int (-1)], M)) rfl rfl rfl ?_
              exact ml_ret rfl (rfl) (⟨⟨_, rfl⟩, rfl⟩)
            · have c_52 : ¬ (x2 < 0) := of_decide_eq_false c_52
              refine ml_blk 2 (S' := (57, [(0, .ref c), (1, .int x1), (2, .int x2), (3, .int i22_3), (4, .int i22_4)], [.ref c, .int x2], M)) rfl ?_
              refine tg_ref (S' := (60, [(0, .ref c), (1, .int x1), (2, .int x2), (3, .int i22_3), (4, .int i22_4)], [.ref b, .int x2], M)) rfl hS.1 hY0 (by decide) rfl rfl ?_
              refine ml_blk 3 (S' := (63, [(0, .ref c), (1, .int x1), (2, .int x2), (3, .int i22_3), (4, .int i22_4)], [.int (i22_3 + 2), .ref b, .int x2], M)) rfl ?_
              refine ml_call (a := [.ref b, .int (i22_3 + 2)]) (rest := [.int x2]) rfl (okc_t rfl rfl rfl hS.1 hY1 (by decide)) rfl rfl (tq_u2 hS.1 hY1 (by omega)) (fun v5 M6 h7 => ?_)
              obtain ⟨⟨u8, rfl⟩, h7⟩ := h7
              rw [h7]
              show ml _ _ _ (66, [(0, .ref c), (1, .int x1), (2, .int x2), (3, .int i22_3), (4, .int i22_4)], [.int u8, .int x2], M) _
              refine ml_if2 (S1 := (71, [(0, .ref c), (1, .int x1), (2, .int x2), (3, .int i22_3), (4, .int i22_4)], [], M)) (S2 := (69, [], [], M)) rfl rfl rfl (fun c_66 => ?_) (fun c_66 => ?_)
              · have c_66 : x2 ≤ u8 := of_decide_eq_true c_66
                refine ml_st (S' := (72, [(0, .ref c), (1, .int x1), (2, .int x2), (3, .int i22_3), (4, .int i22_4)], [.ref c], M)) rfl rfl rfl ?_
                refine tg_ref (S' := (75, [(0, .ref c), (1, .int x1), (2, .int x2), (3, .int i22_3), (4, .int i22_4)], [.ref b], M)) rfl hS.1 hY0 (by decide) rfl rfl ?_
                refine ml_st (S' := (76, [(0, .ref c), (1, .int x1), (2, .int x2), (3, .int i22_3), (4, .int i22_4)], [.int x2, .ref b], M)) rfl rfl rfl ?_
                refine ml_if (S1 := (83, [(0, .ref c), (1, .int x1), (2, .int x2), (3, .int i22_3), (4, .int i22_4)], [.ref b], M)) (S2 := (79, [(0, .ref c), (1, .int x1), (2, .int x2), (3, .int i22_3), (4, .int i22_4)], [.ref b], M)) rfl rfl rfl (fun c_76 => ?_) (fun c_76 => ?_)
                · have c_76 : ¬ x2 = 0 := of_decide_eq_true c_76
                  refine ml_blk 3 (S' := (86, [(0, .ref c), (1, .int x1), (2, .int x2), (3, .int i22_3), (4, .int i22_4)], [.int (i22_3 + 2), .ref b], M)) rfl ?_
                  refine ml_blk 3 (S' := (89, [(0, .ref c), (1, .int x1), (2, .int x2), (3, .int i22_3), (4, .int i22_4)], [.int (2 * x2), .int (i22_3 + 2), .ref b], M)) rfl ?_
                  refine ml_st (S' := (90, [], [.int ((i22_3 + 2) + (2 * x2)), .ref b], M)) rfl rfl rfl ?_
                  refine ml_call (a := [.ref b, .int ((i22_3 + 2) + (2 * x2))]) (rest := []) rfl (okc_t rfl rfl rfl hS.1 hY1 (by decide)) rfl rfl (tq_u2 hS.1 hY1 (by omega)) (fun v9 M10 h11 => ?_)
                  obtain ⟨⟨u12, rfl⟩, h11⟩ := h11
                  rw [h11]
                  show ml _ _ _ (93, [], [.int u12], M) _
                  exact ml_ret rfl (rfl) (⟨⟨_, rfl⟩, rfl⟩)
                · have c_76 : ¬ (¬ x2 = 0) := of_decide_eq_false c_76
                  refine ml_st (S' := (80, [(0, .ref c), (1, .int x1), (2, .int x2), (3, .int i22_3), (4, .int i22_4)], [.int i22_3, .ref b], M)) rfl rfl rfl ?_
                  refine ml_st (S' := (90, [], [.int i22_3, .ref b], M)) rfl rfl rfl ?_
                  refine ml_call (a := [.ref b, .int i22_3]) (rest := []) rfl (okc_t rfl rfl rfl hS.1 hY1 (by decide)) rfl rfl (tq_u2 hS.1 hY1 (by omega)) (fun v13 M14 h15 => ?_)
                  obtain ⟨⟨u16, rfl⟩, h15⟩ := h15
                  rw [h15]
                  show ml _ _ _ (93, [], [.int u16], M) _
                  exact ml_ret rfl (rfl) (⟨⟨_, rfl⟩, rfl⟩)
              · have c_66 : ¬ (x2 ≤ u8) := of_decide_eq_false c_66
                refine ml_st (S' := (70, [], [.int (-1)], M)) rfl rfl rfl ?_
                exact ml_ret rfl (rfl) (⟨⟨_, rfl⟩, rfl⟩)
          · have c_25 : ¬ (x1 ≤ i22_4) := of_decide_eq_false c_25
            refine ml_blk 3 (S' := (31, [(0, .ref c), (1, .int x1), (2, .int x2), (3, .int i22_3), (4, .int i22_4)], [.int 2, .int 4, .int i22_3], M)) rfl ?_
            refine ml_st (S' := (32, [(0, .ref c), (1, .int x1), (2, .int x2), (3, .int i22_3), (4, .int i22_4)], [.ref c, .int 2, .int 4, .int i22_3], M)) rfl rfl rfl ?_
            refine tg_ref (S' := (35, [(0, .ref c), (1, .int x1), (2, .int x2), (3, .int i22_3), (4, .int i22_4)], [.ref b, .int 2, .int 4, .int i22_3], M)) rfl hS.1 hY0 (by decide) rfl rfl ?_
            refine ml_blk 3 (S' := (38, [(0, .ref c), (1, .int x1), (2, .int x2), (3, .int i22_3), (4, .int i22_4)], [.int (i22_3 + 2), .ref b, .int 2, .int 4, .int i22_3], M)) rfl ?_
            refine ml_call (a := [.ref b, .int (i22_3 + 2)]) (rest := [.int 2, .int 4, .int i22_3]) rfl (okc_t rfl rfl rfl hS.1 hY1 (by decide)) rfl rfl (tq_u2 hS.1 hY1 (by omega)) (fun v17 M18 h19 => ?_)
            obtain ⟨⟨u20, rfl⟩, h19⟩ := h19
            rw [h19]
            show ml _ _ _ (41, [(0, .ref c), (1, .int x1), (2, .int x2), (3, .int i22_3), (4, .int i22_4)], [.int u20, .int 2, .int 4, .int i22_3], M) _
            refine ml_blk 3 (S' := (44, [(0, .ref c), (1, .int x1), (2, .int x2), (3, .int i22_3), (4, .int i22_4)], [.int (i22_3 + (4 + (2 * u20)))], M)) rfl ?_
            refine ml_st (S' := (45, [(3, .int (i22_3 + (4 + (2 * u20)))), (0, .ref c), (1, .int x1), (2, .int x2), (4, .int i22_4)], [], M)) rfl rfl rfl ?_
            refine ml_st (S' := (48, [(4, .int (i22_4 + 1)), (3, .int (i22_3 + (4 + (2 * u20)))), (0, .ref c), (1, .int x1), (2, .int x2)], [], M)) rfl rfl rfl ?_
            refine ml_st (S' := (22, [(0, .ref c), (1, .int x1), (2, .int x2), (3, .int (i22_3 + (4 + (2 * u20)))), (4, .int (i22_4 + 1))], [], M)) rfl rfl rfl ?_
            exact ih_22 (i22_3 + (4 + (2 * u20))) (i22_4 + 1) (loop_inc (Int32.not_le.mp c_25) hn_22) 
      exact L_22 _ u3 0 (Nat.le_refl _) 
    · have c_9 : ¬ (x1 < u1) := of_decide_eq_false c_9
      refine ml_st (S' := (13, [], [.int (-1)], M)) rfl rfl rfl ?_
      exact ml_ret rfl (rfl) (⟨⟨_, rfl⟩, rfl⟩)
end
section
set_option maxHeartbeats 2000000 in
theorem tw_Cl_hasAll {g : xe_G} {M : mi_H} {Y : yT} {x1 x2 : Int32}  (hW : WF g Y M) {d : Nat} (hd : 1 ≤ d) : mt (mT g) d 58 [.int x1, .int x2] M (pZ M) := by
  obtain ⟨d, rfl⟩ : ∃ e, d = e + 1 := ⟨d - 1, by omega⟩
  have hS : st g Y M M := st.rf hW
  refine mt_in (b := mb_58 g) rfl rfl ?_
  show ml (mT g) d (mb_58 g).2 (0, [(0, .int x1), (1, .int x2)], [], M) _
  refine ml_blk 3 (S' := (3, [(0, .int x1), (1, .int x2)], [.int (x1 &&& x2)], M)) rfl ?_
  refine ml_st (S' := (4, [(0, .int x1), (1, .int x2)], [.int x2, .int (x1 &&& x2)], M)) rfl rfl rfl ?_
  refine ml_if2 (S1 := (11, [(0, .int x1), (1, .int x2)], [], M)) (S2 := (7, [(0, .int x1), (1, .int x2)], [], M)) rfl rfl rfl (fun c_4 => ?_) (fun c_4 => ?_)
  · have c_4 : ¬ (x1 &&& x2) = x2 := of_decide_eq_true c_4
    refine ml_st (S' := (12, [], [.int 0], M)) rfl rfl rfl ?_
    exact ml_ret rfl (r_z (Or.inl rfl)) (⟨⟨_, rfl, Or.inl rfl⟩, rfl⟩)
  · have c_4 : ¬ (¬ (x1 &&& x2) = x2) := of_decide_eq_false c_4
    refine ml_st (S' := (8, [(0, .int x1), (1, .int x2)], [.int 1], M)) rfl rfl rfl ?_
    refine ml_st (S' := (12, [], [.int 1], M)) rfl rfl rfl ?_
    exact ml_ret rfl (r_z (Or.inr rfl)) (⟨⟨_, rfl, Or.inr rfl⟩, rfl⟩)
set_option maxHeartbeats 2000000 in
theorem tw_Cl_hasOneAccessAtMost {g : xe_G} {M : mi_H} {Y : yT} {x1 : Int32}  (hW : WF g Y M) {d : Nat} (hd : 2 ≤ d) : mt (mT g) d 59 [.int x1] M (pZ M) := by
  obtain ⟨d, rfl⟩ : ∃ e, d = e + 1 := ⟨d - 1, by omega⟩
  have hS : st g Y M M := st.rf hW
  refine mt_in (b := mb_59 g) rfl rfl ?_
  show ml (mT g) d (mb_59 g).2 (0, [(0, .int x1)], [], M) _
  refine ml_blk 3 (S' := (4, [(0, .int x1)], [.int (x1 &&& 7)], M)) rfl ?_
  refine ml_call (a := [.int (x1 &&& 7)]) (rest := []) rfl (rfl) rfl rfl (tw_J_bitCount hS.1  (by omega)) (fun v1 M2 h3 => ?_)
  obtain ⟨⟨u4, rfl⟩, h3⟩ := h3
  rw [h3]
  show ml _ _ _ (7, [(0, .int x1)], [.int u4], M) _
  refine ml_st (S' := (8, [(0, .int x1)], [.int 1, .int u4], M)) rfl rfl rfl ?_
  refine ml_if2 (S1 := (15, [(0, .int x1)], [], M)) (S2 := (11, [(0, .int x1)], [], M)) rfl rfl rfl (fun c_8 => ?_) (fun c_8 => ?_)
  · have c_8 : 1 < u4 := of_decide_eq_true c_8
    refine ml_st (S' := (16, [], [.int 0], M)) rfl rfl rfl ?_
    exact ml_ret rfl (r_z (Or.inl rfl)) (⟨⟨_, rfl, Or.inl rfl⟩, rfl⟩)
  · have c_8 : ¬ (1 < u4) := of_decide_eq_false c_8
    refine ml_st (S' := (12, [(0, .int x1)], [.int 1], M)) rfl rfl rfl ?_
    refine ml_st (S' := (16, [], [.int 1], M)) rfl rfl rfl ?_
    exact ml_ret rfl (r_z (Or.inr rfl)) (⟨⟨_, rfl, Or.inr rfl⟩, rfl⟩)
set_option maxHeartbeats 2000000 in
theorem tw_Cl_classFlagsHold {g : xe_G} {M : mi_H} {Y : yT} {x1 : Int32}  (hW : WF g Y M) {d : Nat} (hd : 2 ≤ d) : mt (mT g) d 53 [.int x1] M (pZ M) := by
  obtain ⟨d, rfl⟩ : ∃ e, d = e + 1 := ⟨d - 1, by omega⟩
  have hS : st g Y M M := st.rf hW
  refine mt_in (b := mb_53 g) rfl rfl ?_
  show ml (mT g) d (mb_53 g).2 (0, [(0, .int x1)], [], M) _
  refine ml_blk 3 (S' := (4, [(0, .int x1)], [.int (x1 &&& 32768)], M)) rfl ?_
  refine ml_if (S1 := (9, [(0, .int x1)], [], M)) (S2 := (7, [(0, .int x1)], [], M)) rfl rfl rfl (fun c_4 => ?_) (fun c_4 => ?_)
  · have c_4 : (x1 &&& 32768) = 0 := of_decide_eq_true c_4
    refine ml_blk 3 (S' := (14, [(0, .int x1)], [.int (x1 &&& 512)], M)) rfl ?_
    refine ml_if (S1 := (39, [(0, .int x1)], [], M)) (S2 := (17, [(0, .int x1)], [], M)) rfl rfl rfl (fun c_14 => ?_) (fun c_14 => ?_)
    · have c_14 : (x1 &&& 512) = 0 := of_decide_eq_true c_14
      refine ml_blk 3 (S' := (44, [(0, .int x1)], [.int (x1 &&& 8192)], M)) rfl ?_
      refine ml_if (S1 := (61, [], [], M)) (S2 := (47, [(0, .int x1)], [], M)) rfl rfl rfl (fun c_44 => ?_) (fun c_44 => ?_)
      · have c_44 : ¬ (x1 &&& 8192) = 0 := of_decide_eq_true c_44
        refine ml_st (S' := (62, [], [.int 0], M)) rfl rfl rfl ?_
        exact ml_ret rfl (r_z (Or.inl rfl)) (⟨⟨_, rfl, Or.inl rfl⟩, rfl⟩)
      · have c_44 : ¬ (¬ (x1 &&& 8192) = 0) := of_decide_eq_false c_44
        refine ml_blk 2 (S' := (51, [(0, .int x1)], [.int 1040, .int x1], M)) rfl ?_
        refine ml_call (a := [.int x1, .int 1040]) (rest := []) rfl (rfl) rfl rfl (tw_Cl_hasAll hS.1  (by omega)) (fun v1 M2 h3 => ?_)
        obtain ⟨⟨u4, rfl, z5⟩, h3⟩ := h3
        rw [h3]
        show ml _ _ _ (54, [(0, .int x1)], [.int u4], M) _
        refine ml_if (S1 := (61, [], [], M)) (S2 := (57, [(0, .int x1)], [], M)) rfl rfl rfl (fun c_54 => ?_) (fun c_54 => ?_)
        · have c_54 : ¬ u4 = 0 := of_decide_eq_true c_54
          refine ml_st (S' := (62, [], [.int 0], M)) rfl rfl rfl ?_
          exact ml_ret rfl (r_z (Or.inl rfl)) (⟨⟨_, rfl, Or.inl rfl⟩, rfl⟩)
        · have c_54 : ¬ (¬ u4 = 0) := of_decide_eq_false c_54
          refine ml_st (S' := (58, [(0, .int x1)], [.int 1], M)) rfl rfl rfl ?_
          refine ml_st (S' := (62, [], [.int 1], M)) rfl rfl rfl ?_
          exact ml_ret rfl (r_z (Or.inr rfl)) (⟨⟨_, rfl, Or.inr rfl⟩, rfl⟩)
    · have c_14 : ¬ ((x1 &&& 512) = 0) := of_decide_eq_false c_14
      refine ml_blk 3 (S' := (22, [(0, .int x1)], [.int (x1 &&& 1024)], M)) rfl ?_
      refine ml_if (S1 := (37, [], [], M)) (S2 := (25, [(0, .int x1)], [], M)) rfl rfl rfl (fun c_22 => ?_) (fun c_22 => ?_)
      · have c_22 : (x1 &&& 1024) = 0 := of_decide_eq_true c_22
        refine ml_st (S' := (38, [], [.int 0], M)) rfl rfl rfl ?_
        exact ml_ret rfl (r_z (Or.inl rfl)) (⟨⟨_, rfl, Or.inl rfl⟩, rfl⟩)
      · have c_22 : ¬ ((x1 &&& 1024) = 0) := of_decide_eq_false c_22
        refine ml_blk 3 (S' := (30, [(0, .int x1)], [.int (x1 &&& 16432)], M)) rfl ?_
        refine ml_if (S1 := (37, [], [], M)) (S2 := (33, [(0, .int x1)], [], M)) rfl rfl rfl (fun c_30 => ?_) (fun c_30 => ?_)
        · have c_30 : ¬ (x1 &&& 16432) = 0 := of_decide_eq_true c_30
          refine ml_st (S' := (38, [], [.int 0], M)) rfl rfl rfl ?_
          exact ml_ret rfl (r_z (Or.inl rfl)) (⟨⟨_, rfl, Or.inl rfl⟩, rfl⟩)
        · have c_30 : ¬ (¬ (x1 &&& 16432) = 0) := of_decide_eq_false c_30
          refine ml_st (S' := (34, [(0, .int x1)], [.int 1], M)) rfl rfl rfl ?_
          refine ml_st (S' := (38, [], [.int 1], M)) rfl rfl rfl ?_
          exact ml_ret rfl (r_z (Or.inr rfl)) (⟨⟨_, rfl, Or.inr rfl⟩, rfl⟩)
  · have c_4 : ¬ ((x1 &&& 32768) = 0) := of_decide_eq_false c_4
    refine ml_st (S' := (8, [(0, .int x1)], [.int 0], M)) rfl rfl rfl ?_
    exact ml_ret rfl (r_z (Or.inl rfl)) (⟨⟨_, rfl, Or.inl rfl⟩, rfl⟩)
set_option maxHeartbeats 2000000 in
theorem tw_Po_sameMember {g : xe_G} {M : mi_H} {Y : yT} {p mm km da n : Nat} {pp : List Nat} {x2 x3 x4 : Int32}  (hW : WF g Y M) (hY0 : Y.1 p = some (7, pp)) (hY1 : Y.1 mm = some (23, [km, da, n])) {d : Nat} (hd : 3 ≤ d) : mt (mT g) d 132 [.ref p, .ref mm, .int x2, .int x3, .int x4] M (pI M) := by
  obtain ⟨d, rfl⟩ : ∃ e, d = e + 1 := ⟨d - 1, by omega⟩
  have hS : st g Y M M := st.rf hW
  refine mt_in (b := mb_132 g) rfl rfl ?_
  show ml (mT g) d (mb_132 g).2 (0, [(0, .ref p), (1, .ref mm), (2, .int x2), (3, .int x3), (4, .int x4)], [], M) _
  refine ml_st (S' := (1, [(0, .ref p), (1, .ref mm), (2, .int x2), (3, .int x3), (4, .int x4)], [.int 0], M)) rfl rfl rfl ?_
  refine ml_st (S' := (3, [(0, .ref p), (1, .ref mm), (2, .int x2), (3, .int x3), (4, .int x4), (5, .int 0)], [], M)) rfl rfl rfl ?_
  have L_3 : ∀ (n_3 : Nat) (i3_5 : Int32), (2147483648 - i3_5.toInt).toNat ≤ n_3 → 0 ≤ i3_5.toInt → ml (mT g) d (mb_132 g).2 (3, [(0, .ref p), (1, .ref mm), (2, .int x2), (3, .int x3), (4, .int x4), (5, .int i3_5)], [], M) (pI M) := by
    intro n_3
    induction n_3 with
    | zero => intro i3_5 hn; exact (loop_zero hn).elim
    | succ n_3 ih_3 =>
      intro i3_5 hn_3 hi_3
      refine ml_blk 2 (S' := (6, [(0, .ref p), (1, .ref mm), (2, .int x2), (3, .int x3), (4, .int x4), (5, .int i3_5)], [.int x2, .int i3_5], M)) rfl ?_
      refine ml_if2 (S1 := (63, [], [], M)) (S2 := (9, [(0, .ref p), (1, .ref mm), (2, .int x2), (3, .int x3), (4, .int x4), (5, .int i3_5)], [], M)) rfl rfl rfl (fun c_6 => ?_) (fun c_6 => ?_)
      · have c_6 : x2 ≤ i3_5 := of_decide_eq_true c_6
        refine ml_st (S' := (64, [], [.int (-1)], M)) rfl rfl rfl ?_
        exact ml_ret rfl (rfl) (⟨⟨_, rfl⟩, rfl⟩)
      · have c_6 : ¬ (x2 ≤ i3_5) := of_decide_eq_false c_6
        refine ml_blk 2 (S' := (12, [(0, .ref p), (1, .ref mm), (2, .int x2), (3, .int x3), (4, .int x4), (5, .int i3_5)], [.ref mm, .int i3_5], M)) rfl ?_
        refine tl_mem (S' := (13, [(0, .ref p), (1, .ref mm), (2, .int x2), (3, .int x3), (4, .int x4), (5, .int i3_5)], [.int (nI km), .int i3_5], M)) rfl hS.1 hY1 rfl ?_
        refine ml_if2 (S1 := (63, [], [], M)) (S2 := (16, [(0, .ref p), (1, .ref mm), (2, .int x2), (3, .int x3), (4, .int x4), (5, .int i3_5)], [], M)) rfl rfl rfl (fun c_13 => ?_) (fun c_13 => ?_)
        · have c_13 : (nI km) ≤ i3_5 := of_decide_eq_true c_13
          refine ml_st (S' := (64, [], [.int (-1)], M)) rfl rfl rfl ?_
          exact ml_ret rfl (rfl) (⟨⟨_, rfl⟩, rfl⟩)
        · have c_13 : ¬ ((nI km) ≤ i3_5) := of_decide_eq_false c_13
          refine ml_blk 2 (S' := (19, [(0, .ref p), (1, .ref mm), (2, .int x2), (3, .int x3), (4, .int x4), (5, .int i3_5)], [.int i3_5, .ref mm], M)) rfl ?_
          refine ta_mem rfl hS.1 hY1 (vin_nI hi_3 c_13) ?_ (fun b1 h2 => ?_)
          · show ml _ _ _ (20, [(0, .ref p), (1, .ref mm), (2, .int x2), (3, .int x3), (4, .int x4), (5, .int i3_5)], [.null], M) _
            refine ml_st (S' := (22, [(6, .null), (0, .ref p), (1, .ref mm), (2, .int x2), (3, .int x3), (4, .int x4), (5, .int i3_5)], [], M)) rfl rfl rfl ?_
            refine ml_blk 2 (S' := (57, [(0, .ref p), (1, .ref mm), (2, .int x2), (3, .int x3), (4, .int x4), (5, .int i3_5)], [], M)) rfl ?_
            refine ml_st (S' := (60, [(5, .int (i3_5 + 1)), (0, .ref p), (1, .ref mm), (2, .int x2), (3, .int x3), (4, .int x4)], [], M)) rfl rfl rfl ?_
            refine ml_st (S' := (3, [(0, .ref p), (1, .ref mm), (2, .int x2), (3, .int x3), (4, .int x4), (5, .int (i3_5 + 1))], [], M)) rfl rfl rfl ?_
            exact ih_3 (i3_5 + 1) (loop_inc (Int32.not_le.mp c_6) hn_3) (by rw [inc_lt (Int32.not_le.mp c_6)]; omega) 
          · skip
            show ml _ _ _ (20, [(0, .ref p), (1, .ref mm), (2, .int x2), (3, .int x3), (4, .int x4), (5, .int i3_5)], [.ref b1], M) _
            refine ml_st (S' := (22, [(6, .ref b1), (0, .ref p), (1, .ref mm), (2, .int x2), (3, .int x3), (4, .int x4), (5, .int i3_5)], [], M)) rfl rfl rfl ?_
            refine ml_blk 2 (S' := (27, [(6, .ref b1), (0, .ref p), (1, .ref mm), (2, .int x2), (3, .int x3), (4, .int x4), (5, .int i3_5)], [], M)) rfl ?_
            refine ml_blk 2 (S' := (30, [(6, .ref b1), (0, .ref p), (1, .ref mm), (2, .int x2), (3, .int x3), (4, .int x4), (5, .int i3_5)], [.ref b1, .ref p], M)) rfl ?_
            refine tg_int rfl hS.1 h2 (by decide) rfl (fun u3 g4 => ?_)
            show ml _ _ _ (33, [(6, .ref b1), (0, .ref p), (1, .ref mm), (2, .int x2), (3, .int x3), (4, .int x4), (5, .int i3_5)], [.int u3, .ref p], M) _
            refine ml_st (S' := (34, [(6, .ref b1), (0, .ref p), (1, .ref mm), (2, .int x2), (3, .int x3), (4, .int x4), (5, .int i3_5)], [.int x3, .int u3, .ref p], M)) rfl rfl rfl ?_
            refine ml_call (a := [.ref p, .int u3, .int x3]) (rest := []) rfl (okc_t rfl rfl rfl hS.1 hY0 (by decide)) rfl rfl (tq_sameText hS.1 hY0 (by omega)) (fun v5 M6 h7 => ?_)
            obtain ⟨⟨u8, rfl, z9⟩, h7⟩ := h7
            rw [h7]
            show ml _ _ _ (37, [(6, .ref b1), (0, .ref p), (1, .ref mm), (2, .int x2), (3, .int x3), (4, .int x4), (5, .int i3_5)], [.int u8], M) _
            refine ml_if (S1 := (57, [(0, .ref p), (1, .ref mm), (2, .int x2), (3, .int x3), (4, .int x4), (5, .int i3_5)], [], M)) (S2 := (40, [(6, .ref b1), (0, .ref p), (1, .ref mm), (2, .int x2), (3, .int x3), (4, .int x4), (5, .int i3_5)], [], M)) rfl rfl rfl (fun c_37 => ?_) (fun c_37 => ?_)
            · have c_37 : u8 = 0 := of_decide_eq_true c_37
              refine ml_st (S' := (60, [(5, .int (i3_5 + 1)), (0, .ref p), (1, .ref mm), (2, .int x2), (3, .int x3), (4, .int x4)], [], M)) rfl rfl rfl ?_
              refine ml_st (S' := (3, [(0, .ref p), (1, .ref mm), (2, .int x2), (3, .int x3), (4, .int x4), (5, .int (i3_5 + 1))], [], M)) rfl rfl rfl ?_
              exact ih_3 (i3_5 + 1) (loop_inc (Int32.not_le.mp c_6) hn_3) (by rw [inc_lt (Int32.not_le.mp c_6)]; omega) 
            · have c_37 : ¬ (u8 = 0) := of_decide_eq_false c_37
              refine ml_blk 2 (S' := (43, [(6, .ref b1), (0, .ref p), (1, .ref mm), (2, .int x2), (3, .int x3), (4, .int x4), (5, .int i3_5)], [.ref b1, .ref p], M)) rfl ?_
              refine tg_int rfl hS.1 h2 (by decide) rfl (fun u10 g11 => ?_)
              show ml _ _ _ (46, [(6, .ref b1), (0, .ref p), (1, .ref mm), (2, .int x2), (3, .int x3), (4, .int x4), (5, .int i3_5)], [.int u10, .ref p], M) _
              refine ml_st (S' := (48, [(6, .ref b1), (0, .ref p), (1, .ref mm), (2, .int x2), (3, .int x3), (4, .int x4), (5, .int i3_5)], [.int x4, .int u10, .ref p], M)) rfl rfl rfl ?_
              refine ml_call (a := [.ref p, .int u10, .int x4]) (rest := []) rfl (okc_t rfl rfl rfl hS.1 hY0 (by decide)) rfl rfl (tq_sameText hS.1 hY0 (by omega)) (fun v12 M13 h14 => ?_)
              obtain ⟨⟨u15, rfl, z16⟩, h14⟩ := h14
              rw [h14]
              show ml _ _ _ (51, [(6, .ref b1), (0, .ref p), (1, .ref mm), (2, .int x2), (3, .int x3), (4, .int x4), (5, .int i3_5)], [.int u15], M) _
              refine ml_if (S1 := (57, [(0, .ref p), (1, .ref mm), (2, .int x2), (3, .int x3), (4, .int x4), (5, .int i3_5)], [], M)) (S2 := (54, [(6, .ref b1), (0, .ref p), (1, .ref mm), (2, .int x2), (3, .int x3), (4, .int x4), (5, .int i3_5)], [], M)) rfl rfl rfl (fun c_51 => ?_) (fun c_51 => ?_)
              · have c_51 : u15 = 0 := of_decide_eq_true c_51
                refine ml_st (S' := (60, [(5, .int (i3_5 + 1)), (0, .ref p), (1, .ref mm), (2, .int x2), (3, .int x3), (4, .int x4)], [], M)) rfl rfl rfl ?_
                refine ml_st (S' := (3, [(0, .ref p), (1, .ref mm), (2, .int x2), (3, .int x3), (4, .int x4), (5, .int (i3_5 + 1))], [], M)) rfl rfl rfl ?_
                exact ih_3 (i3_5 + 1) (loop_inc (Int32.not_le.mp c_6) hn_3) (by rw [inc_lt (Int32.not_le.mp c_6)]; omega) 
              · have c_51 : ¬ (u15 = 0) := of_decide_eq_false c_51
                refine ml_st (S' := (56, [(6, .ref b1), (0, .ref p), (1, .ref mm), (2, .int x2), (3, .int x3), (4, .int x4), (5, .int i3_5)], [.int i3_5], M)) rfl rfl rfl ?_
                exact ml_ret rfl (rfl) (⟨⟨_, rfl⟩, rfl⟩)
  exact L_3 _ 0 (Nat.le_refl _) (by decide) 
end
section
set_option maxHeartbeats 2000000 in
theorem tw_Cl_fieldFlagsHold {g : xe_G} {M : mi_H} {Y : yT} {a c b p vd ac da n : Nat} {pp : List Nat} {x1 : Int32}  (hW : WF g Y M) (hY0 : Y.1 a = some (2, [c, b, p, vd, ac])) (hY1 : Y.1 c = some (3, [b, da, n])) (hY2 : Y.1 b = some (1, [da, n])) (hY3 : Y.1 p = some (7, pp)) (hY4 : Y.1 vd = some (10, [])) (hY5 : Y.1 ac = some (0, [c, b, p, vd])) {d : Nat} (hd : 3 ≤ d) : mt (mT g) d 55 [.ref a, .int x1] M (pZ M) := by
  obtain ⟨d, rfl⟩ : ∃ e, d = e + 1 := ⟨d - 1, by omega⟩
  have hS : st g Y M M := st.rf hW
  refine mt_in (b := mb_55 g) rfl rfl ?_
  show ml (mT g) d (mb_55 g).2 (0, [(0, .ref a), (1, .int x1)], [], M) _
  refine ml_st (S' := (1, [(0, .ref a), (1, .int x1)], [.ref a], M)) rfl rfl rfl ?_
  refine tg_ref (S' := (4, [(0, .ref a), (1, .int x1)], [.ref c], M)) rfl hS.1 hY0 (by decide) rfl rfl ?_
  refine ml_st (S' := (7, [(0, .ref a), (1, .int x1)], [.int 512, .ref c], M)) rfl rfl rfl ?_
  refine ml_call (a := [.ref c, .int 512]) (rest := []) rfl (okc_t rfl rfl rfl hS.1 hY1 (by decide)) rfl rfl (tw_Cl_has hS.1 hY1 hY2 (by omega)) (fun v1 M2 h3 => ?_)
  obtain ⟨⟨u4, rfl, z5⟩, h3⟩ := h3
  rw [h3]
  show ml _ _ _ (10, [(0, .ref a), (1, .int x1)], [.int u4], M) _
  refine ml_if (S1 := (31, [(0, .ref a), (1, .int x1)], [], M)) (S2 := (13, [(0, .ref a), (1, .int x1)], [], M)) rfl rfl rfl (fun c_10 => ?_) (fun c_10 => ?_)
  · have c_10 : u4 = 0 := of_decide_eq_true c_10
    refine ml_st (S' := (32, [(0, .ref a), (1, .int x1)], [.int x1], M)) rfl rfl rfl ?_
    refine ml_call (a := [.int x1]) (rest := []) rfl (rfl) rfl rfl (tw_Cl_hasOneAccessAtMost hS.1  (by omega)) (fun v6 M7 h8 => ?_)
    obtain ⟨⟨u9, rfl, z10⟩, h8⟩ := h8
    rw [h8]
    show ml _ _ _ (35, [(0, .ref a), (1, .int x1)], [.int u9], M) _
    refine ml_if (S1 := (51, [], [], M)) (S2 := (38, [(0, .ref a), (1, .int x1)], [], M)) rfl rfl rfl (fun c_35 => ?_) (fun c_35 => ?_)
    · have c_35 : u9 = 0 := of_decide_eq_true c_35
      refine ml_st (S' := (52, [], [.int 0], M)) rfl rfl rfl ?_
      exact ml_ret rfl (r_z (Or.inl rfl)) (⟨⟨_, rfl, Or.inl rfl⟩, rfl⟩)
    · have c_35 : ¬ (u9 = 0) := of_decide_eq_false c_35
      refine ml_blk 2 (S' := (41, [(0, .ref a), (1, .int x1)], [.int 80, .int x1], M)) rfl ?_
      refine ml_call (a := [.int x1, .int 80]) (rest := []) rfl (rfl) rfl rfl (tw_Cl_hasAll hS.1  (by omega)) (fun v11 M12 h13 => ?_)
      obtain ⟨⟨u14, rfl, z15⟩, h13⟩ := h13
      rw [h13]
      show ml _ _ _ (44, [(0, .ref a), (1, .int x1)], [.int u14], M) _
      refine ml_if (S1 := (51, [], [], M)) (S2 := (47, [(0, .ref a), (1, .int x1)], [], M)) rfl rfl rfl (fun c_44 => ?_) (fun c_44 => ?_)
      · have c_44 : ¬ u14 = 0 := of_decide_eq_true c_44
        refine ml_st (S' := (52, [], [.int 0], M)) rfl rfl rfl ?_
        exact ml_ret rfl (r_z (Or.inl rfl)) (⟨⟨_, rfl, Or.inl rfl⟩, rfl⟩)
      · have c_44 : ¬ (¬ u14 = 0) := of_decide_eq_false c_44
        refine ml_st (S' := (48, [(0, .ref a), (1, .int x1)], [.int 1], M)) rfl rfl rfl ?_
        refine ml_st (S' := (52, [], [.int 1], M)) rfl rfl rfl ?_
        exact ml_ret rfl (r_z (Or.inr rfl)) (⟨⟨_, rfl, Or.inr rfl⟩, rfl⟩)
  · have c_10 : ¬ (u4 = 0) := of_decide_eq_false c_10
    refine ml_st (S' := (16, [(0, .ref a), (1, .int x1)], [.int 16607], M)) rfl rfl rfl ?_
    refine ml_st (S' := (17, [(2, .int 16607), (0, .ref a), (1, .int x1)], [], M)) rfl rfl rfl ?_
    refine ml_blk 3 (S' := (20, [(2, .int 16607), (0, .ref a), (1, .int x1)], [.int (x1 &&& 16607)], M)) rfl ?_
    refine ml_st (S' := (22, [(2, .int 16607), (0, .ref a), (1, .int x1)], [.int 25, .int (x1 &&& 16607)], M)) rfl rfl rfl ?_
    refine ml_if2 (S1 := (29, [(2, .int 16607), (0, .ref a), (1, .int x1)], [], M)) (S2 := (25, [(2, .int 16607), (0, .ref a), (1, .int x1)], [], M)) rfl rfl rfl (fun c_22 => ?_) (fun c_22 => ?_)
    · have c_22 : ¬ (x1 &&& 16607) = 25 := of_decide_eq_true c_22
      refine ml_st (S' := (30, [], [.int 0], M)) rfl rfl rfl ?_
      exact ml_ret rfl (r_z (Or.inl rfl)) (⟨⟨_, rfl, Or.inl rfl⟩, rfl⟩)
    · have c_22 : ¬ (¬ (x1 &&& 16607) = 25) := of_decide_eq_false c_22
      refine ml_st (S' := (26, [(2, .int 16607), (0, .ref a), (1, .int x1)], [.int 1], M)) rfl rfl rfl ?_
      refine ml_st (S' := (30, [], [.int 1], M)) rfl rfl rfl ?_
      exact ml_ret rfl (r_z (Or.inr rfl)) (⟨⟨_, rfl, Or.inr rfl⟩, rfl⟩)
set_option maxHeartbeats 2000000 in
theorem tw_Cl_abstractHolds {g : xe_G} {M : mi_H} {Y : yT} {a c b p vd ac da n me : Nat} {pp : List Nat}  (hW : WF g Y M) (hY0 : Y.1 a = some (2, [c, b, p, vd, ac])) (hY1 : Y.1 c = some (3, [b, da, n])) (hY2 : Y.1 b = some (1, [da, n])) (hY3 : Y.1 p = some (7, pp)) (hY4 : Y.1 vd = some (10, [])) (hY5 : Y.1 ac = some (0, [c, b, p, vd])) (hY6 : Y.1 me = some (6, [da, n])) {d : Nat} (hd : 2 ≤ d) : mt (mT g) d 52 [.ref a, .ref me] M (pZ M) := by
  obtain ⟨d, rfl⟩ : ∃ e, d = e + 1 := ⟨d - 1, by omega⟩
  have hS : st g Y M M := st.rf hW
  refine mt_in (b := mb_52 g) rfl rfl ?_
  show ml (mT g) d (mb_52 g).2 (0, [(0, .ref a), (1, .ref me)], [], M) _
  refine ml_blk 2 (S' := (4, [(0, .ref a), (1, .ref me)], [.int 314, .ref me], M)) rfl ?_
  refine ml_call (a := [.ref me, .int 314]) (rest := []) rfl (okc_t rfl rfl rfl hS.1 hY6 (by decide)) rfl rfl (tw_Me_has hS.1 hY6 (by omega)) (fun v1 M2 h3 => ?_)
  obtain ⟨⟨u4, rfl, z5⟩, h3⟩ := h3
  rw [h3]
  show ml _ _ _ (7, [(0, .ref a), (1, .ref me)], [.int u4], M) _
  refine ml_if (S1 := (12, [(0, .ref a), (1, .ref me)], [], M)) (S2 := (10, [(0, .ref a), (1, .ref me)], [], M)) rfl rfl rfl (fun c_7 => ?_) (fun c_7 => ?_)
  · have c_7 : u4 = 0 := of_decide_eq_true c_7
    refine ml_st (S' := (13, [(0, .ref a), (1, .ref me)], [.ref a], M)) rfl rfl rfl ?_
    refine tg_ref (S' := (16, [(0, .ref a), (1, .ref me)], [.ref c], M)) rfl hS.1 hY0 (by decide) rfl rfl ?_
    refine tg_int rfl hS.1 hY1 (by decide) rfl (fun u6 g7 => ?_)
    show ml _ _ _ (19, [(0, .ref a), (1, .ref me)], [.int u6], M) _
    refine ml_st (S' := (21, [(0, .ref a), (1, .ref me)], [.int 46, .int u6], M)) rfl rfl rfl ?_
    refine ml_if2 (S1 := (46, [], [], M)) (S2 := (24, [(0, .ref a), (1, .ref me)], [], M)) rfl rfl rfl (fun c_21 => ?_) (fun c_21 => ?_)
    · have c_21 : u6 < 46 := of_decide_eq_true c_21
      refine ml_st (S' := (47, [], [.int 1], M)) rfl rfl rfl ?_
      refine ml_st (S' := (51, [], [.int 1], M)) rfl rfl rfl ?_
      exact ml_ret rfl (r_z (Or.inr rfl)) (⟨⟨_, rfl, Or.inr rfl⟩, rfl⟩)
    · have c_21 : ¬ (u6 < 46) := of_decide_eq_false c_21
      refine ml_st (S' := (25, [(0, .ref a), (1, .ref me)], [.ref a], M)) rfl rfl rfl ?_
      refine tg_ref (S' := (28, [(0, .ref a), (1, .ref me)], [.ref c], M)) rfl hS.1 hY0 (by decide) rfl rfl ?_
      refine ml_get (S' := (31, [(0, .ref a), (1, .ref me)], [.int u6], M)) rfl g7 rfl ?_
      refine ml_st (S' := (33, [(0, .ref a), (1, .ref me)], [.int 60, .int u6], M)) rfl rfl rfl ?_
      refine ml_if2 (S1 := (46, [], [], M)) (S2 := (36, [(0, .ref a), (1, .ref me)], [], M)) rfl rfl rfl (fun c_33 => ?_) (fun c_33 => ?_)
      · have c_33 : 60 < u6 := of_decide_eq_true c_33
        refine ml_st (S' := (47, [], [.int 1], M)) rfl rfl rfl ?_
        refine ml_st (S' := (51, [], [.int 1], M)) rfl rfl rfl ?_
        exact ml_ret rfl (r_z (Or.inr rfl)) (⟨⟨_, rfl, Or.inr rfl⟩, rfl⟩)
      · have c_33 : ¬ (60 < u6) := of_decide_eq_false c_33
        refine ml_blk 2 (S' := (40, [(0, .ref a), (1, .ref me)], [.int 2048, .ref me], M)) rfl ?_
        refine ml_call (a := [.ref me, .int 2048]) (rest := []) rfl (okc_t rfl rfl rfl hS.1 hY6 (by decide)) rfl rfl (tw_Me_has hS.1 hY6 (by omega)) (fun v8 M9 h10 => ?_)
        obtain ⟨⟨u11, rfl, z12⟩, h10⟩ := h10
        rw [h10]
        show ml _ _ _ (43, [(0, .ref a), (1, .ref me)], [.int u11], M) _
        refine ml_if (S1 := (50, [(0, .ref a), (1, .ref me)], [], M)) (S2 := (46, [], [], M)) rfl rfl rfl (fun c_43 => ?_) (fun c_43 => ?_)
        · have c_43 : ¬ u11 = 0 := of_decide_eq_true c_43
          refine ml_st (S' := (51, [], [.int 0], M)) rfl rfl rfl ?_
          exact ml_ret rfl (r_z (Or.inl rfl)) (⟨⟨_, rfl, Or.inl rfl⟩, rfl⟩)
        · have c_43 : ¬ (¬ u11 = 0) := of_decide_eq_false c_43
          refine ml_st (S' := (47, [], [.int 1], M)) rfl rfl rfl ?_
          refine ml_st (S' := (51, [], [.int 1], M)) rfl rfl rfl ?_
          exact ml_ret rfl (r_z (Or.inr rfl)) (⟨⟨_, rfl, Or.inr rfl⟩, rfl⟩)
  · have c_7 : ¬ (u4 = 0) := of_decide_eq_false c_7
    refine ml_st (S' := (11, [(0, .ref a), (1, .ref me)], [.int 0], M)) rfl rfl rfl ?_
    exact ml_ret rfl (r_z (Or.inl rfl)) (⟨⟨_, rfl, Or.inl rfl⟩, rfl⟩)
set_option maxHeartbeats 2000000 in
theorem tw_Cl_interfaceMethodHolds {g : xe_G} {M : mi_H} {Y : yT} {a c b p vd ac da n me : Nat} {pp : List Nat}  (hW : WF g Y M) (hY0 : Y.1 a = some (2, [c, b, p, vd, ac])) (hY1 : Y.1 c = some (3, [b, da, n])) (hY2 : Y.1 b = some (1, [da, n])) (hY3 : Y.1 p = some (7, pp)) (hY4 : Y.1 vd = some (10, [])) (hY5 : Y.1 ac = some (0, [c, b, p, vd])) (hY6 : Y.1 me = some (6, [da, n])) {d : Nat} (hd : 2 ≤ d) : mt (mT g) d 61 [.ref a, .ref me] M (pZ M) := by
  obtain ⟨d, rfl⟩ : ∃ e, d = e + 1 := ⟨d - 1, by omega⟩
  have hS : st g Y M M := st.rf hW
  refine mt_in (b := mb_61 g) rfl rfl ?_
  show ml (mT g) d (mb_61 g).2 (0, [(0, .ref a), (1, .ref me)], [], M) _
  refine ml_blk 2 (S' := (4, [(0, .ref a), (1, .ref me)], [.int 308, .ref me], M)) rfl ?_
  refine ml_call (a := [.ref me, .int 308]) (rest := []) rfl (okc_t rfl rfl rfl hS.1 hY6 (by decide)) rfl rfl (tw_Me_has hS.1 hY6 (by omega)) (fun v1 M2 h3 => ?_)
  obtain ⟨⟨u4, rfl, z5⟩, h3⟩ := h3
  rw [h3]
  show ml _ _ _ (7, [(0, .ref a), (1, .ref me)], [.int u4], M) _
  refine ml_if (S1 := (12, [(0, .ref a), (1, .ref me)], [], M)) (S2 := (10, [(0, .ref a), (1, .ref me)], [], M)) rfl rfl rfl (fun c_7 => ?_) (fun c_7 => ?_)
  · have c_7 : u4 = 0 := of_decide_eq_true c_7
    refine ml_st (S' := (13, [(0, .ref a), (1, .ref me)], [.ref a], M)) rfl rfl rfl ?_
    refine tg_ref (S' := (16, [(0, .ref a), (1, .ref me)], [.ref c], M)) rfl hS.1 hY0 (by decide) rfl rfl ?_
    refine tg_int rfl hS.1 hY1 (by decide) rfl (fun u6 g7 => ?_)
    show ml _ _ _ (19, [(0, .ref a), (1, .ref me)], [.int u6], M) _
    refine ml_st (S' := (21, [(0, .ref a), (1, .ref me)], [.int 52, .int u6], M)) rfl rfl rfl ?_
    refine ml_if2 (S1 := (52, [(0, .ref a), (1, .ref me)], [], M)) (S2 := (24, [(0, .ref a), (1, .ref me)], [], M)) rfl rfl rfl (fun c_21 => ?_) (fun c_21 => ?_)
    · have c_21 : 52 ≤ u6 := of_decide_eq_true c_21
      refine ml_blk 2 (S' := (54, [(0, .ref a), (1, .ref me)], [.int 1, .ref me], M)) rfl ?_
      refine ml_call (a := [.ref me, .int 1]) (rest := []) rfl (okc_t rfl rfl rfl hS.1 hY6 (by decide)) rfl rfl (tw_Me_has hS.1 hY6 (by omega)) (fun v8 M9 h10 => ?_)
      obtain ⟨⟨u11, rfl, z12⟩, h10⟩ := h10
      rw [h10]
      show ml _ _ _ (57, [(0, .ref a), (1, .ref me)], [.int u11], M) _
      refine ml_blk 2 (S' := (59, [(0, .ref a), (1, .ref me)], [.int 2, .ref me, .int u11], M)) rfl ?_
      refine ml_call (a := [.ref me, .int 2]) (rest := [.int u11]) rfl (okc_t rfl rfl rfl hS.1 hY6 (by decide)) rfl rfl (tw_Me_has hS.1 hY6 (by omega)) (fun v13 M14 h15 => ?_)
      obtain ⟨⟨u16, rfl, z17⟩, h15⟩ := h15
      rw [h15]
      show ml _ _ _ (62, [(0, .ref a), (1, .ref me)], [.int u16, .int u11], M) _
      refine ml_if2 (S1 := (69, [(0, .ref a), (1, .ref me)], [], M)) (S2 := (65, [(0, .ref a), (1, .ref me)], [], M)) rfl rfl rfl (fun c_62 => ?_) (fun c_62 => ?_)
      · have c_62 : u11 = u16 := of_decide_eq_true c_62
        refine ml_st (S' := (70, [], [.int 0], M)) rfl rfl rfl ?_
        exact ml_ret rfl (r_z (Or.inl rfl)) (⟨⟨_, rfl, Or.inl rfl⟩, rfl⟩)
      · have c_62 : ¬ (u11 = u16) := of_decide_eq_false c_62
        refine ml_st (S' := (66, [(0, .ref a), (1, .ref me)], [.int 1], M)) rfl rfl rfl ?_
        refine ml_st (S' := (70, [], [.int 1], M)) rfl rfl rfl ?_
        exact ml_ret rfl (r_z (Or.inr rfl)) (⟨⟨_, rfl, Or.inr rfl⟩, rfl⟩)
    · have c_21 : ¬ (52 ≤ u6) := of_decide_eq_false c_21
      refine ml_st (S' := (25, [(0, .ref a), (1, .ref me)], [.ref me], M)) rfl rfl rfl ?_
      refine tg_int rfl hS.1 hY6 (by decide) rfl (fun u18 g19 => ?_)
      show ml _ _ _ (28, [(0, .ref a), (1, .ref me)], [.int u18], M) _
      refine ml_st (S' := (31, [(0, .ref a), (1, .ref me)], [.int 1025, .int u18], M)) rfl rfl rfl ?_
      refine ml_call (a := [.int u18, .int 1025]) (rest := []) rfl (rfl) rfl rfl (tw_Cl_hasAll hS.1  (by omega)) (fun v20 M21 h22 => ?_)
      obtain ⟨⟨u23, rfl, z24⟩, h22⟩ := h22
      rw [h22]
      show ml _ _ _ (34, [(0, .ref a), (1, .ref me)], [.int u23], M) _
      refine ml_if (S1 := (50, [], [], M)) (S2 := (37, [(0, .ref a), (1, .ref me)], [], M)) rfl rfl rfl (fun c_34 => ?_) (fun c_34 => ?_)
      · have c_34 : u23 = 0 := of_decide_eq_true c_34
        refine ml_st (S' := (51, [], [.int 0], M)) rfl rfl rfl ?_
        exact ml_ret rfl (r_z (Or.inl rfl)) (⟨⟨_, rfl, Or.inl rfl⟩, rfl⟩)
      · have c_34 : ¬ (u23 = 0) := of_decide_eq_false c_34
        refine ml_blk 2 (S' := (40, [(0, .ref a), (1, .ref me)], [.int 8, .ref me], M)) rfl ?_
        refine ml_call (a := [.ref me, .int 8]) (rest := []) rfl (okc_t rfl rfl rfl hS.1 hY6 (by decide)) rfl rfl (tw_Me_has hS.1 hY6 (by omega)) (fun v25 M26 h27 => ?_)
        obtain ⟨⟨u28, rfl, z29⟩, h27⟩ := h27
        rw [h27]
        show ml _ _ _ (43, [(0, .ref a), (1, .ref me)], [.int u28], M) _
        refine ml_if (S1 := (50, [], [], M)) (S2 := (46, [(0, .ref a), (1, .ref me)], [], M)) rfl rfl rfl (fun c_43 => ?_) (fun c_43 => ?_)
        · have c_43 : ¬ u28 = 0 := of_decide_eq_true c_43
          refine ml_st (S' := (51, [], [.int 0], M)) rfl rfl rfl ?_
          exact ml_ret rfl (r_z (Or.inl rfl)) (⟨⟨_, rfl, Or.inl rfl⟩, rfl⟩)
        · have c_43 : ¬ (¬ u28 = 0) := of_decide_eq_false c_43
          refine ml_st (S' := (47, [(0, .ref a), (1, .ref me)], [.int 1], M)) rfl rfl rfl ?_
          refine ml_st (S' := (51, [], [.int 1], M)) rfl rfl rfl ?_
          exact ml_ret rfl (r_z (Or.inr rfl)) (⟨⟨_, rfl, Or.inr rfl⟩, rfl⟩)
  · have c_7 : ¬ (u4 = 0) := of_decide_eq_false c_7
    refine ml_st (S' := (11, [(0, .ref a), (1, .ref me)], [.int 0], M)) rfl rfl rfl ?_
    exact ml_ret rfl (r_z (Or.inl rfl)) (⟨⟨_, rfl, Or.inl rfl⟩, rfl⟩)
set_option maxHeartbeats 2000000 in
theorem tw_Cl_methodDescriptorHolds {g : xe_G} {M : mi_H} {Y : yT} {a c b p vd ac da n me : Nat} {pp : List Nat}  (hW : WF g Y M) (hY0 : Y.1 a = some (2, [c, b, p, vd, ac])) (hY1 : Y.1 c = some (3, [b, da, n])) (hY2 : Y.1 b = some (1, [da, n])) (hY3 : Y.1 p = some (7, pp)) (hY4 : Y.1 vd = some (10, [])) (hY5 : Y.1 ac = some (0, [c, b, p, vd])) (hY6 : Y.1 me = some (6, [da, n])) {d : Nat} (hd : 4 ≤ d) : mt (mT g) d 63 [.ref a, .ref me] M (pZ M) := by
  obtain ⟨d, rfl⟩ : ∃ e, d = e + 1 := ⟨d - 1, by omega⟩
  have hS : st g Y M M := st.rf hW
  refine mt_in (b := mb_63 g) rfl rfl ?_
  show ml (mT g) d (mb_63 g).2 (0, [(0, .ref a), (1, .ref me)], [], M) _
  refine ml_st (S' := (1, [(0, .ref a), (1, .ref me)], [.ref a], M)) rfl rfl rfl ?_
  refine tg_ref (S' := (4, [(0, .ref a), (1, .ref me)], [.ref p], M)) rfl hS.1 hY0 (by decide) rfl rfl ?_
  refine ml_st (S' := (5, [(0, .ref a), (1, .ref me)], [.ref me, .ref p], M)) rfl rfl rfl ?_
  refine tg_int rfl hS.1 hY6 (by decide) rfl (fun u1 g2 => ?_)
  show ml _ _ _ (8, [(0, .ref a), (1, .ref me)], [.int u1, .ref p], M) _
  refine ml_call (a := [.ref p, .int u1]) (rest := []) rfl (okc_t rfl rfl rfl hS.1 hY3 (by decide)) rfl rfl (tq_isMethodDescriptor hS.1 hY3 (by omega)) (fun v3 M4 h5 => ?_)
  obtain ⟨⟨u6, rfl, z7⟩, h5⟩ := h5
  rw [h5]
  show ml _ _ _ (11, [(0, .ref a), (1, .ref me)], [.int u6], M) _
  refine ml_if (S1 := (24, [], [], M)) (S2 := (14, [(0, .ref a), (1, .ref me)], [], M)) rfl rfl rfl (fun c_11 => ?_) (fun c_11 => ?_)
  · have c_11 : u6 = 0 := of_decide_eq_true c_11
    refine ml_st (S' := (25, [], [.int 0], M)) rfl rfl rfl ?_
    exact ml_ret rfl (r_z (Or.inl rfl)) (⟨⟨_, rfl, Or.inl rfl⟩, rfl⟩)
  · have c_11 : ¬ (u6 = 0) := of_decide_eq_false c_11
    refine ml_st (S' := (15, [(0, .ref a), (1, .ref me)], [.ref me], M)) rfl rfl rfl ?_
    refine tg_int rfl hS.1 hY6 (by decide) rfl (fun u8 g9 => ?_)
    show ml _ _ _ (18, [(0, .ref a), (1, .ref me)], [.int u8], M) _
    refine ml_st (S' := (21, [(0, .ref a), (1, .ref me)], [.int 255, .int u8], M)) rfl rfl rfl ?_
    refine ml_if2 (S1 := (26, [(0, .ref a), (1, .ref me)], [], M)) (S2 := (24, [], [], M)) rfl rfl rfl (fun c_21 => ?_) (fun c_21 => ?_)
    · have c_21 : u8 ≤ 255 := of_decide_eq_true c_21
      refine ml_st (S' := (27, [(0, .ref a), (1, .ref me)], [.ref a], M)) rfl rfl rfl ?_
      refine tg_ref (S' := (30, [(0, .ref a), (1, .ref me)], [.ref p], M)) rfl hS.1 hY0 (by decide) rfl rfl ?_
      refine ml_st (S' := (31, [(0, .ref a), (1, .ref me)], [.ref me, .ref p], M)) rfl rfl rfl ?_
      refine tg_int rfl hS.1 hY6 (by decide) rfl (fun u10 g11 => ?_)
      show ml _ _ _ (34, [(0, .ref a), (1, .ref me)], [.int u10, .ref p], M) _
      refine ml_st (S' := (36, [(0, .ref a), (1, .ref me)], [.ref (g.2.1 12), .int u10, .ref p], M)) rfl rfl rfl ?_
      refine ml_call (a := [.ref p, .int u10, .ref (g.2.1 12)]) (rest := []) rfl (okc_t rfl rfl rfl hS.1 hY3 (by decide)) rfl rfl (tq_textIs (lk := 12) hS.1 hY3 (by decide) (by omega)) (fun v12 M13 h14 => ?_)
      obtain ⟨⟨x15, rfl, z16⟩, h14⟩ := h14
      rw [h14]
      show ml _ _ _ (39, [(0, .ref a), (1, .ref me)], [.int x15], M) _
      refine ml_if (S1 := (56, [], [], M)) (S2 := (42, [(0, .ref a), (1, .ref me)], [], M)) rfl rfl rfl (fun c_39 => ?_) (fun c_39 => ?_)
      · have c_39 : x15 = 0 := of_decide_eq_true c_39
        refine ml_st (S' := (57, [], [.int 1], M)) rfl rfl rfl ?_
        refine ml_st (S' := (61, [], [.int 1], M)) rfl rfl rfl ?_
        exact ml_ret rfl (r_z (Or.inr rfl)) (⟨⟨_, rfl, Or.inr rfl⟩, rfl⟩)
      · have c_39 : ¬ (x15 = 0) := of_decide_eq_false c_39
        refine ml_st (S' := (43, [(0, .ref a), (1, .ref me)], [.ref a], M)) rfl rfl rfl ?_
        refine tg_ref (S' := (46, [(0, .ref a), (1, .ref me)], [.ref p], M)) rfl hS.1 hY0 (by decide) rfl rfl ?_
        refine ml_st (S' := (47, [(0, .ref a), (1, .ref me)], [.ref me, .ref p], M)) rfl rfl rfl ?_
        refine ml_get (S' := (50, [(0, .ref a), (1, .ref me)], [.int u1, .ref p], M)) rfl g2 rfl ?_
        refine ml_call (a := [.ref p, .int u1]) (rest := []) rfl (okc_t rfl rfl rfl hS.1 hY3 (by decide)) rfl rfl (tq_hasNoResult hS.1 hY3 (by omega)) (fun v17 M18 h19 => ?_)
        obtain ⟨⟨u20, rfl, z21⟩, h19⟩ := h19
        rw [h19]
        show ml _ _ _ (53, [(0, .ref a), (1, .ref me)], [.int u20], M) _
        refine ml_if (S1 := (60, [(0, .ref a), (1, .ref me)], [], M)) (S2 := (56, [], [], M)) rfl rfl rfl (fun c_53 => ?_) (fun c_53 => ?_)
        · have c_53 : u20 = 0 := of_decide_eq_true c_53
          refine ml_st (S' := (61, [], [.int 0], M)) rfl rfl rfl ?_
          exact ml_ret rfl (r_z (Or.inl rfl)) (⟨⟨_, rfl, Or.inl rfl⟩, rfl⟩)
        · have c_53 : ¬ (u20 = 0) := of_decide_eq_false c_53
          refine ml_st (S' := (57, [], [.int 1], M)) rfl rfl rfl ?_
          refine ml_st (S' := (61, [], [.int 1], M)) rfl rfl rfl ?_
          exact ml_ret rfl (r_z (Or.inr rfl)) (⟨⟨_, rfl, Or.inr rfl⟩, rfl⟩)
    · have c_21 : ¬ (u8 ≤ 255) := of_decide_eq_false c_21
      refine ml_st (S' := (25, [], [.int 0], M)) rfl rfl rfl ?_
      exact ml_ret rfl (r_z (Or.inl rfl)) (⟨⟨_, rfl, Or.inl rfl⟩, rfl⟩)
end
section
set_option maxHeartbeats 2000000 in
theorem tw_Cl_methodNameHolds {g : xe_G} {M : mi_H} {Y : yT} {a c b p vd ac da n : Nat} {pp : List Nat} {x1 : Int32}  (hW : WF g Y M) (hY0 : Y.1 a = some (2, [c, b, p, vd, ac])) (hY1 : Y.1 c = some (3, [b, da, n])) (hY2 : Y.1 b = some (1, [da, n])) (hY3 : Y.1 p = some (7, pp)) (hY4 : Y.1 vd = some (10, [])) (hY5 : Y.1 ac = some (0, [c, b, p, vd])) {d : Nat} (hd : 4 ≤ d) : mt (mT g) d 66 [.ref a, .int x1] M (pZ M) := by
  obtain ⟨d, rfl⟩ : ∃ e, d = e + 1 := ⟨d - 1, by omega⟩
  have hS : st g Y M M := st.rf hW
  refine mt_in (b := mb_66 g) rfl rfl ?_
  show ml (mT g) d (mb_66 g).2 (0, [(0, .ref a), (1, .int x1)], [], M) _
  refine ml_st (S' := (1, [(0, .ref a), (1, .int x1)], [.ref a], M)) rfl rfl rfl ?_
  refine tg_ref (S' := (4, [(0, .ref a), (1, .int x1)], [.ref p], M)) rfl hS.1 hY0 (by decide) rfl rfl ?_
  refine ml_blk 2 (S' := (7, [(0, .ref a), (1, .int x1)], [.ref (g.2.1 12), .int x1, .ref p], M)) rfl ?_
  refine ml_call (a := [.ref p, .int x1, .ref (g.2.1 12)]) (rest := []) rfl (okc_t rfl rfl rfl hS.1 hY3 (by decide)) rfl rfl (tq_textIs (lk := 12) hS.1 hY3 (by decide) (by omega)) (fun v1 M2 h3 => ?_)
  obtain ⟨⟨x4, rfl, z5⟩, h3⟩ := h3
  rw [h3]
  show ml _ _ _ (10, [(0, .ref a), (1, .int x1)], [.int x4], M) _
  refine ml_if (S1 := (32, [(0, .ref a), (1, .int x1)], [], M)) (S2 := (13, [(0, .ref a), (1, .int x1)], [], M)) rfl rfl rfl (fun c_10 => ?_) (fun c_10 => ?_)
  · have c_10 : x4 = 0 := of_decide_eq_true c_10
    refine ml_st (S' := (33, [(0, .ref a), (1, .int x1)], [.ref a], M)) rfl rfl rfl ?_
    refine tg_ref (S' := (36, [(0, .ref a), (1, .int x1)], [.ref p], M)) rfl hS.1 hY0 (by decide) rfl rfl ?_
    refine ml_blk 2 (S' := (39, [(0, .ref a), (1, .int x1)], [.ref (g.2.1 13), .int x1, .ref p], M)) rfl ?_
    refine ml_call (a := [.ref p, .int x1, .ref (g.2.1 13)]) (rest := []) rfl (okc_t rfl rfl rfl hS.1 hY3 (by decide)) rfl rfl (tq_textIs (lk := 13) hS.1 hY3 (by decide) (by omega)) (fun v6 M7 h8 => ?_)
    obtain ⟨⟨x9, rfl, z10⟩, h8⟩ := h8
    rw [h8]
    show ml _ _ _ (42, [(0, .ref a), (1, .int x1)], [.int x9], M) _
    refine ml_if (S1 := (67, [], [], M)) (S2 := (45, [(0, .ref a), (1, .int x1)], [], M)) rfl rfl rfl (fun c_42 => ?_) (fun c_42 => ?_)
    · have c_42 : ¬ x9 = 0 := of_decide_eq_true c_42
      refine ml_st (S' := (68, [], [.int 1], M)) rfl rfl rfl ?_
      refine ml_st (S' := (72, [], [.int 1], M)) rfl rfl rfl ?_
      exact ml_ret rfl (r_z (Or.inr rfl)) (⟨⟨_, rfl, Or.inr rfl⟩, rfl⟩)
    · have c_42 : ¬ (¬ x9 = 0) := of_decide_eq_false c_42
      refine ml_st (S' := (46, [(0, .ref a), (1, .int x1)], [.ref a], M)) rfl rfl rfl ?_
      refine tg_ref (S' := (49, [(0, .ref a), (1, .int x1)], [.ref p], M)) rfl hS.1 hY0 (by decide) rfl rfl ?_
      refine ml_st (S' := (50, [(0, .ref a), (1, .int x1)], [.int x1, .ref p], M)) rfl rfl rfl ?_
      refine ml_call (a := [.ref p, .int x1]) (rest := []) rfl (okc_t rfl rfl rfl hS.1 hY3 (by decide)) rfl rfl (tq_isUnqualifiedName hS.1 hY3 (by omega)) (fun v11 M12 h13 => ?_)
      obtain ⟨⟨u14, rfl, z15⟩, h13⟩ := h13
      rw [h13]
      show ml _ _ _ (53, [(0, .ref a), (1, .int x1)], [.int u14], M) _
      refine ml_if (S1 := (71, [], [], M)) (S2 := (56, [(0, .ref a), (1, .int x1)], [], M)) rfl rfl rfl (fun c_53 => ?_) (fun c_53 => ?_)
      · have c_53 : u14 = 0 := of_decide_eq_true c_53
        refine ml_st (S' := (72, [], [.int 0], M)) rfl rfl rfl ?_
        exact ml_ret rfl (r_z (Or.inl rfl)) (⟨⟨_, rfl, Or.inl rfl⟩, rfl⟩)
      · have c_53 : ¬ (u14 = 0) := of_decide_eq_false c_53
        refine ml_st (S' := (57, [(0, .ref a), (1, .int x1)], [.ref a], M)) rfl rfl rfl ?_
        refine tg_ref (S' := (60, [(0, .ref a), (1, .int x1)], [.ref p], M)) rfl hS.1 hY0 (by decide) rfl rfl ?_
        refine ml_st (S' := (61, [(0, .ref a), (1, .int x1)], [.int x1, .ref p], M)) rfl rfl rfl ?_
        refine ml_call (a := [.ref p, .int x1]) (rest := []) rfl (okc_t rfl rfl rfl hS.1 hY3 (by decide)) rfl rfl (tq_hasAngle hS.1 hY3 (by omega)) (fun v16 M17 h18 => ?_)
        obtain ⟨⟨u19, rfl, z20⟩, h18⟩ := h18
        rw [h18]
        show ml _ _ _ (64, [(0, .ref a), (1, .int x1)], [.int u19], M) _
        refine ml_if (S1 := (71, [], [], M)) (S2 := (67, [], [], M)) rfl rfl rfl (fun c_64 => ?_) (fun c_64 => ?_)
        · have c_64 : ¬ u19 = 0 := of_decide_eq_true c_64
          refine ml_st (S' := (72, [], [.int 0], M)) rfl rfl rfl ?_
          exact ml_ret rfl (r_z (Or.inl rfl)) (⟨⟨_, rfl, Or.inl rfl⟩, rfl⟩)
        · have c_64 : ¬ (¬ u19 = 0) := of_decide_eq_false c_64
          refine ml_st (S' := (68, [], [.int 1], M)) rfl rfl rfl ?_
          refine ml_st (S' := (72, [], [.int 1], M)) rfl rfl rfl ?_
          exact ml_ret rfl (r_z (Or.inr rfl)) (⟨⟨_, rfl, Or.inr rfl⟩, rfl⟩)
  · have c_10 : ¬ (x4 = 0) := of_decide_eq_false c_10
    refine ml_st (S' := (14, [(0, .ref a), (1, .int x1)], [.ref a], M)) rfl rfl rfl ?_
    refine tg_ref (S' := (17, [(0, .ref a), (1, .int x1)], [.ref c], M)) rfl hS.1 hY0 (by decide) rfl rfl ?_
    refine ml_st (S' := (20, [(0, .ref a), (1, .int x1)], [.int 512, .ref c], M)) rfl rfl rfl ?_
    refine ml_call (a := [.ref c, .int 512]) (rest := []) rfl (okc_t rfl rfl rfl hS.1 hY1 (by decide)) rfl rfl (tw_Cl_has hS.1 hY1 hY2 (by omega)) (fun v21 M22 h23 => ?_)
    obtain ⟨⟨u24, rfl, z25⟩, h23⟩ := h23
    rw [h23]
    show ml _ _ _ (23, [(0, .ref a), (1, .int x1)], [.int u24], M) _
    refine ml_if (S1 := (30, [(0, .ref a), (1, .int x1)], [], M)) (S2 := (26, [(0, .ref a), (1, .int x1)], [], M)) rfl rfl rfl (fun c_23 => ?_) (fun c_23 => ?_)
    · have c_23 : ¬ u24 = 0 := of_decide_eq_true c_23
      refine ml_st (S' := (31, [], [.int 0], M)) rfl rfl rfl ?_
      exact ml_ret rfl (r_z (Or.inl rfl)) (⟨⟨_, rfl, Or.inl rfl⟩, rfl⟩)
    · have c_23 : ¬ (¬ u24 = 0) := of_decide_eq_false c_23
      refine ml_st (S' := (27, [(0, .ref a), (1, .int x1)], [.int 1], M)) rfl rfl rfl ?_
      refine ml_st (S' := (31, [], [.int 1], M)) rfl rfl rfl ?_
      exact ml_ret rfl (r_z (Or.inr rfl)) (⟨⟨_, rfl, Or.inr rfl⟩, rfl⟩)
set_option maxHeartbeats 2000000 in
theorem tw_Cl_methodFlagsHold {g : xe_G} {M : mi_H} {Y : yT} {a c b p vd ac da n me : Nat} {pp : List Nat}  (hW : WF g Y M) (hY0 : Y.1 a = some (2, [c, b, p, vd, ac])) (hY1 : Y.1 c = some (3, [b, da, n])) (hY2 : Y.1 b = some (1, [da, n])) (hY3 : Y.1 p = some (7, pp)) (hY4 : Y.1 vd = some (10, [])) (hY5 : Y.1 ac = some (0, [c, b, p, vd])) (hY6 : Y.1 me = some (6, [da, n])) {d : Nat} (hd : 3 ≤ d) : mt (mT g) d 64 [.ref a, .ref me] M (pZ M) := by
  obtain ⟨d, rfl⟩ : ∃ e, d = e + 1 := ⟨d - 1, by omega⟩
  have hS : st g Y M M := st.rf hW
  refine mt_in (b := mb_64 g) rfl rfl ?_
  show ml (mT g) d (mb_64 g).2 (0, [(0, .ref a), (1, .ref me)], [], M) _
  refine ml_st (S' := (1, [(0, .ref a), (1, .ref me)], [.ref a], M)) rfl rfl rfl ?_
  refine tg_ref (S' := (4, [(0, .ref a), (1, .ref me)], [.ref p], M)) rfl hS.1 hY0 (by decide) rfl rfl ?_
  refine ml_st (S' := (5, [(0, .ref a), (1, .ref me)], [.ref me, .ref p], M)) rfl rfl rfl ?_
  refine tg_int rfl hS.1 hY6 (by decide) rfl (fun u1 g2 => ?_)
  show ml _ _ _ (8, [(0, .ref a), (1, .ref me)], [.int u1, .ref p], M) _
  refine ml_st (S' := (10, [(0, .ref a), (1, .ref me)], [.ref (g.2.1 13), .int u1, .ref p], M)) rfl rfl rfl ?_
  refine ml_call (a := [.ref p, .int u1, .ref (g.2.1 13)]) (rest := []) rfl (okc_t rfl rfl rfl hS.1 hY3 (by decide)) rfl rfl (tq_textIs (lk := 13) hS.1 hY3 (by decide) (by omega)) (fun v3 M4 h5 => ?_)
  obtain ⟨⟨x6, rfl, z7⟩, h5⟩ := h5
  rw [h5]
  show ml _ _ _ (13, [(0, .ref a), (1, .ref me)], [.int x6], M) _
  refine ml_if (S1 := (18, [(0, .ref a), (1, .ref me)], [], M)) (S2 := (16, [(0, .ref a), (1, .ref me)], [], M)) rfl rfl rfl (fun c_13 => ?_) (fun c_13 => ?_)
  · have c_13 : x6 = 0 := of_decide_eq_true c_13
    refine ml_st (S' := (19, [(0, .ref a), (1, .ref me)], [.ref a], M)) rfl rfl rfl ?_
    refine tg_ref (S' := (22, [(0, .ref a), (1, .ref me)], [.ref p], M)) rfl hS.1 hY0 (by decide) rfl rfl ?_
    refine ml_st (S' := (23, [(0, .ref a), (1, .ref me)], [.ref me, .ref p], M)) rfl rfl rfl ?_
    refine ml_get (S' := (26, [(0, .ref a), (1, .ref me)], [.int u1, .ref p], M)) rfl g2 rfl ?_
    refine ml_st (S' := (28, [(0, .ref a), (1, .ref me)], [.ref (g.2.1 12), .int u1, .ref p], M)) rfl rfl rfl ?_
    refine ml_call (a := [.ref p, .int u1, .ref (g.2.1 12)]) (rest := []) rfl (okc_t rfl rfl rfl hS.1 hY3 (by decide)) rfl rfl (tq_textIs (lk := 12) hS.1 hY3 (by decide) (by omega)) (fun v8 M9 h10 => ?_)
    obtain ⟨⟨x11, rfl, z12⟩, h10⟩ := h10
    rw [h10]
    show ml _ _ _ (31, [(0, .ref a), (1, .ref me)], [.int x11], M) _
    refine ml_if (S1 := (62, [(0, .ref a), (1, .ref me)], [], M)) (S2 := (34, [(0, .ref a), (1, .ref me)], [], M)) rfl rfl rfl (fun c_31 => ?_) (fun c_31 => ?_)
    · have c_31 : x11 = 0 := of_decide_eq_true c_31
      refine ml_blk 2 (S' := (66, [(0, .ref a), (1, .ref me)], [.int 1024, .ref me], M)) rfl ?_
      refine ml_call (a := [.ref me, .int 1024]) (rest := []) rfl (okc_t rfl rfl rfl hS.1 hY6 (by decide)) rfl rfl (tw_Me_has hS.1 hY6 (by omega)) (fun v13 M14 h15 => ?_)
      obtain ⟨⟨u16, rfl, z17⟩, h15⟩ := h15
      rw [h15]
      show ml _ _ _ (69, [(0, .ref a), (1, .ref me)], [.int u16], M) _
      refine ml_if (S1 := (82, [(0, .ref a), (1, .ref me)], [], M)) (S2 := (72, [(0, .ref a), (1, .ref me)], [], M)) rfl rfl rfl (fun c_69 => ?_) (fun c_69 => ?_)
      · have c_69 : u16 = 0 := of_decide_eq_true c_69
        refine ml_st (S' := (83, [(0, .ref a), (1, .ref me)], [.ref a], M)) rfl rfl rfl ?_
        refine tg_ref (S' := (86, [(0, .ref a), (1, .ref me)], [.ref c], M)) rfl hS.1 hY0 (by decide) rfl rfl ?_
        refine ml_st (S' := (89, [(0, .ref a), (1, .ref me)], [.int 512, .ref c], M)) rfl rfl rfl ?_
        refine ml_call (a := [.ref c, .int 512]) (rest := []) rfl (okc_t rfl rfl rfl hS.1 hY1 (by decide)) rfl rfl (tw_Cl_has hS.1 hY1 hY2 (by omega)) (fun v18 M19 h20 => ?_)
        obtain ⟨⟨u21, rfl, z22⟩, h20⟩ := h20
        rw [h20]
        show ml _ _ _ (92, [(0, .ref a), (1, .ref me)], [.int u21], M) _
        refine ml_if (S1 := (103, [(0, .ref a), (1, .ref me)], [], M)) (S2 := (95, [(0, .ref a), (1, .ref me)], [], M)) rfl rfl rfl (fun c_92 => ?_) (fun c_92 => ?_)
        · have c_92 : u21 = 0 := of_decide_eq_true c_92
          refine ml_st (S' := (104, [(0, .ref a), (1, .ref me)], [.ref me], M)) rfl rfl rfl ?_
          refine tg_int rfl hS.1 hY6 (by decide) rfl (fun u23 g24 => ?_)
          show ml _ _ _ (107, [(0, .ref a), (1, .ref me)], [.int u23], M) _
          refine ml_call (a := [.int u23]) (rest := []) rfl (rfl) rfl rfl (tw_Cl_hasOneAccessAtMost hS.1  (by omega)) (fun v25 M26 h27 => ?_)
          obtain ⟨⟨u28, rfl, z29⟩, h27⟩ := h27
          rw [h27]
          show ml _ _ _ (110, [], [.int u28], M) _
          exact ml_ret rfl (r_z (z29)) (⟨⟨_, rfl, z29⟩, rfl⟩)
        · have c_92 : ¬ (u21 = 0) := of_decide_eq_false c_92
          refine ml_blk 2 (S' := (97, [(0, .ref a), (1, .ref me)], [.ref me, .ref a], M)) rfl ?_
          refine ml_call (a := [.ref a, .ref me]) (rest := []) rfl (okc_t rfl rfl rfl hS.1 hY0 (by decide)) rfl rfl (tw_Cl_interfaceMethodHolds hS.1 hY0 hY1 hY2 hY3 hY4 hY5 hY6 (by omega)) (fun v30 M31 h32 => ?_)
          obtain ⟨⟨u33, rfl, z34⟩, h32⟩ := h32
          rw [h32]
          show ml _ _ _ (100, [(0, .ref a), (1, .ref me)], [.int u33], M) _
          refine ml_st (S' := (110, [], [.int u33], M)) rfl rfl rfl ?_
          exact ml_ret rfl (r_z (z34)) (⟨⟨_, rfl, z34⟩, rfl⟩)
      · have c_69 : ¬ (u16 = 0) := of_decide_eq_false c_69
        refine ml_blk 2 (S' := (74, [(0, .ref a), (1, .ref me)], [.ref me, .ref a], M)) rfl ?_
        refine ml_call (a := [.ref a, .ref me]) (rest := []) rfl (okc_t rfl rfl rfl hS.1 hY0 (by decide)) rfl rfl (tw_Cl_abstractHolds hS.1 hY0 hY1 hY2 hY3 hY4 hY5 hY6 (by omega)) (fun v35 M36 h37 => ?_)
        obtain ⟨⟨u38, rfl, z39⟩, h37⟩ := h37
        rw [h37]
        show ml _ _ _ (77, [(0, .ref a), (1, .ref me)], [.int u38], M) _
        refine ml_if (S1 := (82, [(0, .ref a), (1, .ref me)], [], M)) (S2 := (80, [(0, .ref a), (1, .ref me)], [], M)) rfl rfl rfl (fun c_77 => ?_) (fun c_77 => ?_)
        · have c_77 : ¬ u38 = 0 := of_decide_eq_true c_77
          refine ml_st (S' := (83, [(0, .ref a), (1, .ref me)], [.ref a], M)) rfl rfl rfl ?_
          refine tg_ref (S' := (86, [(0, .ref a), (1, .ref me)], [.ref c], M)) rfl hS.1 hY0 (by decide) rfl rfl ?_
          refine ml_st (S' := (89, [(0, .ref a), (1, .ref me)], [.int 512, .ref c], M)) rfl rfl rfl ?_
          refine ml_call (a := [.ref c, .int 512]) (rest := []) rfl (okc_t rfl rfl rfl hS.1 hY1 (by decide)) rfl rfl (tw_Cl_has hS.1 hY1 hY2 (by omega)) (fun v40 M41 h42 => ?_)
          obtain ⟨⟨u43, rfl, z44⟩, h42⟩ := h42
          rw [h42]
          show ml _ _ _ (92, [(0, .ref a), (1, .ref me)], [.int u43], M) _
          refine ml_if (S1 := (103, [(0, .ref a), (1, .ref me)], [], M)) (S2 := (95, [(0, .ref a), (1, .ref me)], [], M)) rfl rfl rfl (fun c_92 => ?_) (fun c_92 => ?_)
          · have c_92 : u43 = 0 := of_decide_eq_true c_92
            refine ml_st (S' := (104, [(0, .ref a), (1, .ref me)], [.ref me], M)) rfl rfl rfl ?_
            refine tg_int rfl hS.1 hY6 (by decide) rfl (fun u45 g46 => ?_)
            show ml _ _ _ (107, [(0, .ref a), (1, .ref me)], [.int u45], M) _
            refine ml_call (a := [.int u45]) (rest := []) rfl (rfl) rfl rfl (tw_Cl_hasOneAccessAtMost hS.1  (by omega)) (fun v47 M48 h49 => ?_)
            obtain ⟨⟨u50, rfl, z51⟩, h49⟩ := h49
            rw [h49]
            show ml _ _ _ (110, [], [.int u50], M) _
            exact ml_ret rfl (r_z (z51)) (⟨⟨_, rfl, z51⟩, rfl⟩)
          · have c_92 : ¬ (u43 = 0) := of_decide_eq_false c_92
            refine ml_blk 2 (S' := (97, [(0, .ref a), (1, .ref me)], [.ref me, .ref a], M)) rfl ?_
            refine ml_call (a := [.ref a, .ref me]) (rest := []) rfl (okc_t rfl rfl rfl hS.1 hY0 (by decide)) rfl rfl (tw_Cl_interfaceMethodHolds hS.1 hY0 hY1 hY2 hY3 hY4 hY5 hY6 (by omega)) (fun v52 M53 h54 => ?_)
            obtain ⟨⟨u55, rfl, z56⟩, h54⟩ := h54
            rw [h54]
            show ml _ _ _ (100, [(0, .ref a), (1, .ref me)], [.int u55], M) _
            refine ml_st (S' := (110, [], [.int u55], M)) rfl rfl rfl ?_
            exact ml_ret rfl (r_z (z56)) (⟨⟨_, rfl, z56⟩, rfl⟩)
        · have c_77 : ¬ (¬ u38 = 0) := of_decide_eq_false c_77
          refine ml_st (S' := (81, [(0, .ref a), (1, .ref me)], [.int 0], M)) rfl rfl rfl ?_
          exact ml_ret rfl (r_z (Or.inl rfl)) (⟨⟨_, rfl, Or.inl rfl⟩, rfl⟩)
    · have c_31 : ¬ (x11 = 0) := of_decide_eq_false c_31
      refine ml_st (S' := (37, [(0, .ref a), (1, .ref me)], [.int 1400], M)) rfl rfl rfl ?_
      refine ml_st (S' := (38, [(2, .int 1400), (0, .ref a), (1, .ref me)], [], M)) rfl rfl rfl ?_
      refine ml_st (S' := (39, [(2, .int 1400), (0, .ref a), (1, .ref me)], [.ref me], M)) rfl rfl rfl ?_
      refine tg_int rfl hS.1 hY6 (by decide) rfl (fun u57 g58 => ?_)
      show ml _ _ _ (42, [(2, .int 1400), (0, .ref a), (1, .ref me)], [.int u57], M) _
      refine ml_call (a := [.int u57]) (rest := []) rfl (rfl) rfl rfl (tw_Cl_hasOneAccessAtMost hS.1  (by omega)) (fun v59 M60 h61 => ?_)
      obtain ⟨⟨u62, rfl, z63⟩, h61⟩ := h61
      rw [h61]
      show ml _ _ _ (45, [(2, .int 1400), (0, .ref a), (1, .ref me)], [.int u62], M) _
      refine ml_if (S1 := (60, [], [], M)) (S2 := (48, [(2, .int 1400), (0, .ref a), (1, .ref me)], [], M)) rfl rfl rfl (fun c_45 => ?_) (fun c_45 => ?_)
      · have c_45 : u62 = 0 := of_decide_eq_true c_45
        refine ml_st (S' := (61, [], [.int 0], M)) rfl rfl rfl ?_
        exact ml_ret rfl (r_z (Or.inl rfl)) (⟨⟨_, rfl, Or.inl rfl⟩, rfl⟩)
      · have c_45 : ¬ (u62 = 0) := of_decide_eq_false c_45
        refine ml_blk 2 (S' := (50, [(2, .int 1400), (0, .ref a), (1, .ref me)], [.int 1400, .ref me], M)) rfl ?_
        refine ml_call (a := [.ref me, .int 1400]) (rest := []) rfl (okc_t rfl rfl rfl hS.1 hY6 (by decide)) rfl rfl (tw_Me_has hS.1 hY6 (by omega)) (fun v64 M65 h66 => ?_)
        obtain ⟨⟨u67, rfl, z68⟩, h66⟩ := h66
        rw [h66]
        show ml _ _ _ (53, [(2, .int 1400), (0, .ref a), (1, .ref me)], [.int u67], M) _
        refine ml_if (S1 := (60, [], [], M)) (S2 := (56, [(2, .int 1400), (0, .ref a), (1, .ref me)], [], M)) rfl rfl rfl (fun c_53 => ?_) (fun c_53 => ?_)
        · have c_53 : ¬ u67 = 0 := of_decide_eq_true c_53
          refine ml_st (S' := (61, [], [.int 0], M)) rfl rfl rfl ?_
          exact ml_ret rfl (r_z (Or.inl rfl)) (⟨⟨_, rfl, Or.inl rfl⟩, rfl⟩)
        · have c_53 : ¬ (¬ u67 = 0) := of_decide_eq_false c_53
          refine ml_st (S' := (57, [(2, .int 1400), (0, .ref a), (1, .ref me)], [.int 1], M)) rfl rfl rfl ?_
          refine ml_st (S' := (61, [], [.int 1], M)) rfl rfl rfl ?_
          exact ml_ret rfl (r_z (Or.inr rfl)) (⟨⟨_, rfl, Or.inr rfl⟩, rfl⟩)
  · have c_13 : ¬ (x6 = 0) := of_decide_eq_false c_13
    refine ml_st (S' := (17, [(0, .ref a), (1, .ref me)], [.int 1], M)) rfl rfl rfl ?_
    exact ml_ret rfl (r_z (Or.inr rfl)) (⟨⟨_, rfl, Or.inr rfl⟩, rfl⟩)
set_option maxHeartbeats 2000000 in
theorem tw_Cl_headHolds {g : xe_G} {M : mi_H} {Y : yT} {a c b p vd ac da n : Nat} {pp : List Nat}  (hW : WF g Y M) (hY0 : Y.1 a = some (2, [c, b, p, vd, ac])) (hY1 : Y.1 c = some (3, [b, da, n])) (hY2 : Y.1 b = some (1, [da, n])) (hY3 : Y.1 p = some (7, pp)) (hY4 : Y.1 vd = some (10, [])) (hY5 : Y.1 ac = some (0, [c, b, p, vd])) {d : Nat} (hd : 4 ≤ d) : mt (mT g) d 60 [.ref a] M (qZ g Y M) := by
  obtain ⟨d, rfl⟩ : ∃ e, d = e + 1 := ⟨d - 1, by omega⟩
  have hS : st g Y M M := st.rf hW
  refine mt_in (b := mb_60 g) rfl rfl ?_
  show ml (mT g) d (mb_60 g).2 (0, [(0, .ref a)], [], M) _
  refine ml_st (S' := (1, [(0, .ref a)], [.ref a], M)) rfl rfl rfl ?_
  refine tg_ref (S' := (4, [(0, .ref a)], [.ref c], M)) rfl hS.1 hY0 (by decide) rfl rfl ?_
  refine tg_int rfl hS.1 hY1 (by decide) rfl (fun u1 g2 => ?_)
  show ml _ _ _ (7, [(0, .ref a)], [.int u1], M) _
  refine ml_st (S' := (8, [(1, .int u1), (0, .ref a)], [], M)) rfl rfl rfl ?_
  refine ml_st (S' := (9, [(1, .int u1), (0, .ref a)], [.ref a], M)) rfl rfl rfl ?_
  refine tg_ref (S' := (12, [(1, .int u1), (0, .ref a)], [.ref b], M)) rfl hS.1 hY0 (by decide) rfl rfl ?_
  refine ml_st (S' := (13, [(1, .int u1), (0, .ref a)], [.int u1, .ref b], M)) rfl rfl rfl ?_
  refine ml_call (a := [.ref b, .int u1]) (rest := []) rfl (okc_t rfl rfl rfl hS.1 hY2 (by decide)) rfl rfl (tq_u2 hS.1 hY2 (by omega)) (fun v3 M4 h5 => ?_)
  obtain ⟨⟨u6, rfl⟩, h5⟩ := h5
  rw [h5]
  show ml _ _ _ (16, [(1, .int u1), (0, .ref a)], [.int u6], M) _
  refine ml_call (a := [.int u6]) (rest := []) rfl (rfl) rfl rfl (tw_Cl_classFlagsHold hS.1  (by omega)) (fun v7 M8 h9 => ?_)
  obtain ⟨⟨u10, rfl, z11⟩, h9⟩ := h9
  rw [h9]
  show ml _ _ _ (19, [(1, .int u1), (0, .ref a)], [.int u10], M) _
  refine ml_if (S1 := (33, [(1, .int u1), (0, .ref a)], [], M)) (S2 := (22, [(1, .int u1), (0, .ref a)], [], M)) rfl rfl rfl (fun c_19 => ?_) (fun c_19 => ?_)
  · have c_19 : ¬ u10 = 0 := of_decide_eq_true c_19
    refine ml_st (S' := (34, [(1, .int u1), (0, .ref a)], [.ref a], M)) rfl rfl rfl ?_
    refine tg_ref (S' := (37, [(1, .int u1), (0, .ref a)], [.ref p], M)) rfl hS.1 hY0 (by decide) rfl rfl ?_
    refine ml_st (S' := (38, [(1, .int u1), (0, .ref a)], [.ref a, .ref p], M)) rfl rfl rfl ?_
    refine tg_ref (S' := (41, [(1, .int u1), (0, .ref a)], [.ref b, .ref p], M)) rfl hS.1 hY0 (by decide) rfl rfl ?_
    refine ml_blk 3 (S' := (44, [(1, .int u1), (0, .ref a)], [.int (u1 + 2), .ref b, .ref p], M)) rfl ?_
    refine ml_call (a := [.ref b, .int (u1 + 2)]) (rest := [.ref p]) rfl (okc_t rfl rfl rfl hS.1 hY2 (by decide)) rfl rfl (tq_u2 hS.1 hY2 (by omega)) (fun v12 M13 h14 => ?_)
    obtain ⟨⟨u15, rfl⟩, h14⟩ := h14
    rw [h14]
    show ml _ _ _ (47, [(1, .int u1), (0, .ref a)], [.int u15, .ref p], M) _
    refine ml_call (a := [.ref p, .int u15]) (rest := []) rfl (okc_t rfl rfl rfl hS.1 hY3 (by decide)) rfl rfl (tq_isPlainClass hS.1 hY3 (by omega)) (fun v16 M17 h18 => ?_)
    obtain ⟨⟨u19, rfl, z20⟩, h18⟩ := h18
    rw [h18]
    show ml _ _ _ (50, [(1, .int u1), (0, .ref a)], [.int u19], M) _
    refine ml_if (S1 := (66, [(1, .int u1), (0, .ref a)], [], M)) (S2 := (53, [(1, .int u1), (0, .ref a)], [], M)) rfl rfl rfl (fun c_50 => ?_) (fun c_50 => ?_)
    · have c_50 : ¬ u19 = 0 := of_decide_eq_true c_50
      refine ml_st (S' := (67, [(1, .int u1), (0, .ref a)], [.ref a], M)) rfl rfl rfl ?_
      refine tg_ref (S' := (70, [(1, .int u1), (0, .ref a)], [.ref b], M)) rfl hS.1 hY0 (by decide) rfl rfl ?_
      refine ml_blk 3 (S' := (73, [(1, .int u1), (0, .ref a)], [.int (u1 + 4), .ref b], M)) rfl ?_
      refine ml_call (a := [.ref b, .int (u1 + 4)]) (rest := []) rfl (okc_t rfl rfl rfl hS.1 hY2 (by decide)) rfl rfl (tq_u2 hS.1 hY2 (by omega)) (fun v21 M22 h23 => ?_)
      obtain ⟨⟨u24, rfl⟩, h23⟩ := h23
      rw [h23]
      show ml _ _ _ (76, [(1, .int u1), (0, .ref a)], [.int u24], M) _
      refine ml_st (S' := (77, [(2, .int u24), (1, .int u1), (0, .ref a)], [], M)) rfl rfl rfl ?_
      refine ml_st (S' := (78, [(2, .int u24), (1, .int u1), (0, .ref a)], [.ref a], M)) rfl rfl rfl ?_
      refine tg_ref (S' := (81, [(2, .int u24), (1, .int u1), (0, .ref a)], [.ref p], M)) rfl hS.1 hY0 (by decide) rfl rfl ?_
      refine ml_st (S' := (82, [(2, .int u24), (1, .int u1), (0, .ref a)], [.int u24, .ref p], M)) rfl rfl rfl ?_
      refine ml_call (a := [.ref p, .int u24]) (rest := []) rfl (okc_t rfl rfl rfl hS.1 hY3 (by decide)) rfl rfl (tq_isPlainClass hS.1 hY3 (by omega)) (fun v25 M26 h27 => ?_)
      obtain ⟨⟨u28, rfl, z29⟩, h27⟩ := h27
      rw [h27]
      show ml _ _ _ (85, [(2, .int u24), (1, .int u1), (0, .ref a)], [.int u28], M) _
      refine ml_if (S1 := (101, [(2, .int u24), (1, .int u1), (0, .ref a)], [], M)) (S2 := (88, [(2, .int u24), (1, .int u1), (0, .ref a)], [], M)) rfl rfl rfl (fun c_85 => ?_) (fun c_85 => ?_)
      · have c_85 : ¬ u28 = 0 := of_decide_eq_true c_85
        refine ml_st (S' := (102, [(2, .int u24), (1, .int u1), (0, .ref a)], [.ref a], M)) rfl rfl rfl ?_
        refine tg_ref (S' := (105, [(2, .int u24), (1, .int u1), (0, .ref a)], [.ref c], M)) rfl hS.1 hY0 (by decide) rfl rfl ?_
        refine ml_st (S' := (108, [(2, .int u24), (1, .int u1), (0, .ref a)], [.int 512, .ref c], M)) rfl rfl rfl ?_
        refine ml_call (a := [.ref c, .int 512]) (rest := []) rfl (okc_t rfl rfl rfl hS.1 hY1 (by decide)) rfl rfl (tw_Cl_has hS.1 hY1 hY2 (by omega)) (fun v30 M31 h32 => ?_)
        obtain ⟨⟨u33, rfl, z34⟩, h32⟩ := h32
        rw [h32]
        show ml _ _ _ (111, [(2, .int u24), (1, .int u1), (0, .ref a)], [.int u33], M) _
        refine ml_if (S1 := (147, [], [], M)) (S2 := (114, [(2, .int u24), (1, .int u1), (0, .ref a)], [], M)) rfl rfl rfl (fun c_111 => ?_) (fun c_111 => ?_)
        · have c_111 : u33 = 0 := of_decide_eq_true c_111
          refine ml_st (S' := (148, [], [.int 1], M)) rfl rfl rfl ?_
          exact ml_ret rfl (r_z (Or.inr rfl)) (⟨⟨_, rfl, Or.inr rfl⟩, hS⟩)
        · have c_111 : ¬ (u33 = 0) := of_decide_eq_false c_111
          refine ml_st (S' := (115, [(2, .int u24), (1, .int u1), (0, .ref a)], [.ref a], M)) rfl rfl rfl ?_
          refine tg_ref (S' := (118, [(2, .int u24), (1, .int u1), (0, .ref a)], [.ref p], M)) rfl hS.1 hY0 (by decide) rfl rfl ?_
          refine ml_st (S' := (119, [(2, .int u24), (1, .int u1), (0, .ref a)], [.ref a, .ref p], M)) rfl rfl rfl ?_
          refine tg_ref (S' := (122, [(2, .int u24), (1, .int u1), (0, .ref a)], [.ref p, .ref p], M)) rfl hS.1 hY0 (by decide) rfl rfl ?_
          refine ml_st (S' := (123, [(2, .int u24), (1, .int u1), (0, .ref a)], [.int u24, .ref p, .ref p], M)) rfl rfl rfl ?_
          refine ml_call (a := [.ref p, .int u24]) (rest := [.ref p]) rfl (okc_t rfl rfl rfl hS.1 hY3 (by decide)) rfl rfl (tq_firstIndex hS.1 hY3 (by omega)) (fun v35 M36 h37 => ?_)
          obtain ⟨⟨u38, rfl⟩, h37⟩ := h37
          rw [h37]
          show ml _ _ _ (126, [(2, .int u24), (1, .int u1), (0, .ref a)], [.int u38, .ref p], M) _
          refine ml_st (S' := (128, [(2, .int u24), (1, .int u1), (0, .ref a)], [.ref (g.2.1 11), .int u38, .ref p], M)) rfl rfl rfl ?_
          refine ml_call (a := [.ref p, .int u38, .ref (g.2.1 11)]) (rest := []) rfl (okc_t rfl rfl rfl hS.1 hY3 (by decide)) rfl rfl (tq_textIs (lk := 11) hS.1 hY3 (by decide) (by omega)) (fun v39 M40 h41 => ?_)
          obtain ⟨⟨x42, rfl, z43⟩, h41⟩ := h41
          rw [h41]
          show ml _ _ _ (131, [(2, .int u24), (1, .int u1), (0, .ref a)], [.int x42], M) _
          refine ml_if (S1 := (147, [], [], M)) (S2 := (134, [(2, .int u24), (1, .int u1), (0, .ref a)], [], M)) rfl rfl rfl (fun c_131 => ?_) (fun c_131 => ?_)
          · have c_131 : ¬ x42 = 0 := of_decide_eq_true c_131
            refine ml_st (S' := (148, [], [.int 1], M)) rfl rfl rfl ?_
            exact ml_ret rfl (r_z (Or.inr rfl)) (⟨⟨_, rfl, Or.inr rfl⟩, hS⟩)
          · have c_131 : ¬ (¬ x42 = 0) := of_decide_eq_false c_131
            refine ml_st (S' := (135, [(2, .int u24), (1, .int u1), (0, .ref a)], [.ref a], M)) rfl rfl rfl ?_
            refine tg_ref (S' := (138, [(2, .int u24), (1, .int u1), (0, .ref a)], [.ref vd], M)) rfl hS.1 hY0 (by decide) rfl rfl ?_
            refine ml_blk 3 (S' := (142, [(2, .int u24), (1, .int u1), (0, .ref a)], [.int 4, .int u1, .int 17, .ref vd], M)) rfl ?_
            refine ml_st (S' := (143, [(2, .int u24), (1, .int u1), (0, .ref a)], [.int (u1 + 4), .int 17, .ref vd], M)) rfl rfl rfl ?_
            refine ml_call (a := [.ref vd, .int 17, .int (u1 + 4)]) (rest := []) rfl (okc_t rfl rfl rfl hS.1 hY4 (by decide)) rfl rfl (tw_Ve_wrong hS.1 hY4 (by omega)) (fun v44 M45 h46 => ?_)
            obtain ⟨rfl, h46⟩ := h46
            have hS48 := hS.tr h46.1
            show ml _ _ _ (146, [(2, .int u24), (1, .int u1), (0, .ref a)], [.int 0], M45) _
            exact ml_ret rfl (r_z (Or.inl rfl)) (⟨⟨_, rfl, Or.inl rfl⟩, hS48⟩)
      · have c_85 : ¬ (¬ u28 = 0) := of_decide_eq_false c_85
        refine ml_st (S' := (89, [(2, .int u24), (1, .int u1), (0, .ref a)], [.ref a], M)) rfl rfl rfl ?_
        refine tg_ref (S' := (92, [(2, .int u24), (1, .int u1), (0, .ref a)], [.ref vd], M)) rfl hS.1 hY0 (by decide) rfl rfl ?_
        refine ml_blk 3 (S' := (96, [(2, .int u24), (1, .int u1), (0, .ref a)], [.int 4, .int u1, .int 17, .ref vd], M)) rfl ?_
        refine ml_st (S' := (97, [(2, .int u24), (1, .int u1), (0, .ref a)], [.int (u1 + 4), .int 17, .ref vd], M)) rfl rfl rfl ?_
        refine ml_call (a := [.ref vd, .int 17, .int (u1 + 4)]) (rest := []) rfl (okc_t rfl rfl rfl hS.1 hY4 (by decide)) rfl rfl (tw_Ve_wrong hS.1 hY4 (by omega)) (fun v49 M50 h51 => ?_)
        obtain ⟨rfl, h51⟩ := h51
        have hS53 := hS.tr h51.1
        show ml _ _ _ (100, [(2, .int u24), (1, .int u1), (0, .ref a)], [.int 0], M50) _
        exact ml_ret rfl (r_z (Or.inl rfl)) (⟨⟨_, rfl, Or.inl rfl⟩, hS53⟩)
    · have c_50 : ¬ (¬ u19 = 0) := of_decide_eq_false c_50
      refine ml_st (S' := (54, [(1, .int u1), (0, .ref a)], [.ref a], M)) rfl rfl rfl ?_
      refine tg_ref (S' := (57, [(1, .int u1), (0, .ref a)], [.ref vd], M)) rfl hS.1 hY0 (by decide) rfl rfl ?_
      refine ml_blk 3 (S' := (61, [(1, .int u1), (0, .ref a)], [.int 2, .int u1, .int 16, .ref vd], M)) rfl ?_
      refine ml_st (S' := (62, [(1, .int u1), (0, .ref a)], [.int (u1 + 2), .int 16, .ref vd], M)) rfl rfl rfl ?_
      refine ml_call (a := [.ref vd, .int 16, .int (u1 + 2)]) (rest := []) rfl (okc_t rfl rfl rfl hS.1 hY4 (by decide)) rfl rfl (tw_Ve_wrong hS.1 hY4 (by omega)) (fun v54 M55 h56 => ?_)
      obtain ⟨rfl, h56⟩ := h56
      have hS58 := hS.tr h56.1
      show ml _ _ _ (65, [(1, .int u1), (0, .ref a)], [.int 0], M55) _
      exact ml_ret rfl (r_z (Or.inl rfl)) (⟨⟨_, rfl, Or.inl rfl⟩, hS58⟩)
  · have c_19 : ¬ (¬ u10 = 0) := of_decide_eq_false c_19
    refine ml_st (S' := (23, [(1, .int u1), (0, .ref a)], [.ref a], M)) rfl rfl rfl ?_
    refine tg_ref (S' := (26, [(1, .int u1), (0, .ref a)], [.ref vd], M)) rfl hS.1 hY0 (by decide) rfl rfl ?_
    refine ml_blk 2 (S' := (29, [(1, .int u1), (0, .ref a)], [.int u1, .int 15, .ref vd], M)) rfl ?_
    refine ml_call (a := [.ref vd, .int 15, .int u1]) (rest := []) rfl (okc_t rfl rfl rfl hS.1 hY4 (by decide)) rfl rfl (tw_Ve_wrong hS.1 hY4 (by omega)) (fun v59 M60 h61 => ?_)
    obtain ⟨rfl, h61⟩ := h61
    have hS63 := hS.tr h61.1
    show ml _ _ _ (32, [(1, .int u1), (0, .ref a)], [.int 0], M60) _
    exact ml_ret rfl (r_z (Or.inl rfl)) (⟨⟨_, rfl, Or.inl rfl⟩, hS63⟩)
set_option maxHeartbeats 2000000 in
theorem tw_Cl_interfacesHold {g : xe_G} {M : mi_H} {Y : yT} {a c b p vd ac da n : Nat} {pp : List Nat}  (hW : WF g Y M) (hY0 : Y.1 a = some (2, [c, b, p, vd, ac])) (hY1 : Y.1 c = some (3, [b, da, n])) (hY2 : Y.1 b = some (1, [da, n])) (hY3 : Y.1 p = some (7, pp)) (hY4 : Y.1 vd = some (10, [])) (hY5 : Y.1 ac = some (0, [c, b, p, vd])) {d : Nat} (hd : 4 ≤ d) : mt (mT g) d 62 [.ref a] M (qZ g Y M) := by
  obtain ⟨d, rfl⟩ : ∃ e, d = e + 1 := ⟨d - 1, by omega⟩
  have hS : st g Y M M := st.rf hW
  refine mt_in (b := mb_62 g) rfl rfl ?_
  show ml (mT g) d (mb_62 g).2 (0, [(0, .ref a)], [], M) _
  refine ml_st (S' := (1, [(0, .ref a)], [.ref a], M)) rfl rfl rfl ?_
  refine tg_ref (S' := (4, [(0, .ref a)], [.ref c], M)) rfl hS.1 hY0 (by decide) rfl rfl ?_
  refine tg_int rfl hS.1 hY1 (by decide) rfl (fun u1 g2 => ?_)
  show ml _ _ _ (7, [(0, .ref a)], [.int u1], M) _
  refine ml_blk 2 (S' := (10, [(0, .ref a)], [.int (u1 + 8)], M)) rfl ?_
  refine ml_st (S' := (11, [(1, .int (u1 + 8)), (0, .ref a)], [], M)) rfl rfl rfl ?_
  refine ml_st (S' := (12, [(1, .int (u1 + 8)), (0, .ref a)], [.int 0], M)) rfl rfl rfl ?_
  refine ml_st (S' := (13, [(0, .ref a), (1, .int (u1 + 8)), (2, .int 0)], [], M)) rfl rfl rfl ?_
  have L_13 : ∀ (n_13 : Nat) (i13_2 : Int32), (2147483648 - i13_2.toInt).toNat ≤ n_13 → ml (mT g) d (mb_62 g).2 (13, [(0, .ref a), (1, .int (u1 + 8)), (2, .int i13_2)], [], M) (qZ g Y M) := by
    intro n_13
    induction n_13 with
    | zero => intro i13_2 hn; exact (loop_zero hn).elim
    | succ n_13 ih_13 =>
      intro i13_2 hn_13
      refine ml_blk 2 (S' := (15, [(0, .ref a), (1, .int (u1 + 8)), (2, .int i13_2)], [.ref a, .int i13_2], M)) rfl ?_
      refine tg_ref (S' := (18, [(0, .ref a), (1, .int (u1 + 8)), (2, .int i13_2)], [.ref c, .int i13_2], M)) rfl hS.1 hY0 (by decide) rfl rfl ?_
      refine tg_int rfl hS.1 hY1 (by decide) rfl (fun u3 g4 => ?_)
      show ml _ _ _ (21, [(0, .ref a), (1, .int (u1 + 8)), (2, .int i13_2)], [.int u3, .int i13_2], M) _
      refine ml_if2 (S1 := (141, [(0, .ref a), (1, .int (u1 + 8)), (2, .int i13_2)], [], M)) (S2 := (24, [(0, .ref a), (1, .int (u1 + 8)), (2, .int i13_2)], [], M)) rfl rfl rfl (fun c_21 => ?_) (fun c_21 => ?_)
      · have c_21 : u3 ≤ i13_2 := of_decide_eq_true c_21
        refine ml_st (S' := (142, [(0, .ref a), (1, .int (u1 + 8)), (2, .int i13_2)], [.int 1], M)) rfl rfl rfl ?_
        exact ml_ret rfl (r_z (Or.inr rfl)) (⟨⟨_, rfl, Or.inr rfl⟩, hS⟩)
      · have c_21 : ¬ (u3 ≤ i13_2) := of_decide_eq_false c_21
        refine ml_st (S' := (25, [(0, .ref a), (1, .int (u1 + 8)), (2, .int i13_2)], [.ref a], M)) rfl rfl rfl ?_
        refine tg_ref (S' := (28, [(0, .ref a), (1, .int (u1 + 8)), (2, .int i13_2)], [.ref b], M)) rfl hS.1 hY0 (by decide) rfl rfl ?_
        refine ml_blk 3 (S' := (31, [(0, .ref a), (1, .int (u1 + 8)), (2, .int i13_2)], [.int i13_2, .int 2, .int (u1 + 8), .ref b], M)) rfl ?_
        refine ml_blk 2 (S' := (33, [(0, .ref a), (1, .int (u1 + 8)), (2, .int i13_2)], [.int ((u1 + 8) + (2 * i13_2)), .ref b], M)) rfl ?_
        refine ml_call (a := [.ref b, .int ((u1 + 8) + (2 * i13_2))]) (rest := []) rfl (okc_t rfl rfl rfl hS.1 hY2 (by decide)) rfl rfl (tq_u2 hS.1 hY2 (by omega)) (fun v5 M6 h7 => ?_)
        obtain ⟨⟨u8, rfl⟩, h7⟩ := h7
        rw [h7]
        show ml _ _ _ (36, [(0, .ref a), (1, .int (u1 + 8)), (2, .int i13_2)], [.int u8], M) _
        refine ml_st (S' := (37, [(3, .int u8), (0, .ref a), (1, .int (u1 + 8)), (2, .int i13_2)], [], M)) rfl rfl rfl ?_
        refine ml_st (S' := (38, [(3, .int u8), (0, .ref a), (1, .int (u1 + 8)), (2, .int i13_2)], [.ref a], M)) rfl rfl rfl ?_
        refine tg_ref (S' := (41, [(3, .int u8), (0, .ref a), (1, .int (u1 + 8)), (2, .int i13_2)], [.ref p], M)) rfl hS.1 hY0 (by decide) rfl rfl ?_
        refine ml_st (S' := (42, [(3, .int u8), (0, .ref a), (1, .int (u1 + 8)), (2, .int i13_2)], [.int u8, .ref p], M)) rfl rfl rfl ?_
        refine ml_call (a := [.ref p, .int u8]) (rest := []) rfl (okc_t rfl rfl rfl hS.1 hY3 (by decide)) rfl rfl (tq_isPlainClass hS.1 hY3 (by omega)) (fun v9 M10 h11 => ?_)
        obtain ⟨⟨u12, rfl, z13⟩, h11⟩ := h11
        rw [h11]
        show ml _ _ _ (45, [(3, .int u8), (0, .ref a), (1, .int (u1 + 8)), (2, .int i13_2)], [.int u12], M) _
        refine ml_if (S1 := (63, [(3, .int u8), (0, .ref a), (1, .int (u1 + 8)), (2, .int i13_2)], [], M)) (S2 := (48, [(3, .int u8), (0, .ref a), (1, .int (u1 + 8)), (2, .int i13_2)], [], M)) rfl rfl rfl (fun c_45 => ?_) (fun c_45 => ?_)
        · have c_45 : ¬ u12 = 0 := of_decide_eq_true c_45
          refine ml_st (S' := (64, [(3, .int u8), (0, .ref a), (1, .int (u1 + 8)), (2, .int i13_2)], [.int 0], M)) rfl rfl rfl ?_
          refine ml_st (S' := (66, [(0, .ref a), (1, .int (u1 + 8)), (2, .int i13_2), (3, .int u8), (4, .int 0)], [], M)) rfl rfl rfl ?_
          have L_66 : ∀ (n_66 : Nat) (i66_4 : Int32), (2147483648 - i66_4.toInt).toNat ≤ n_66 → ml (mT g) d (mb_62 g).2 (66, [(0, .ref a), (1, .int (u1 + 8)), (2, .int i13_2), (3, .int u8), (4, .int i66_4)], [], M) (qZ g Y M) := by
            intro n_66
            induction n_66 with
            | zero => intro i66_4 hn; exact (loop_zero hn).elim
            | succ n_66 ih_66 =>
              intro i66_4 hn_66
              refine ml_blk 2 (S' := (69, [(0, .ref a), (1, .int (u1 + 8)), (2, .int i13_2), (3, .int u8), (4, .int i66_4)], [.int i13_2, .int i66_4], M)) rfl ?_
              refine ml_if2 (S1 := (135, [(0, .ref a), (1, .int (u1 + 8)), (2, .int i13_2), (3, .int u8), (4, .int i66_4)], [], M)) (S2 := (72, [(0, .ref a), (1, .int (u1 + 8)), (2, .int i13_2), (3, .int u8), (4, .int i66_4)], [], M)) rfl rfl rfl (fun c_69 => ?_) (fun c_69 => ?_)
              · have c_69 : i13_2 ≤ i66_4 := of_decide_eq_true c_69
                refine ml_st (S' := (138, [(2, .int (i13_2 + 1)), (0, .ref a), (1, .int (u1 + 8)), (3, .int u8), (4, .int i66_4)], [], M)) rfl rfl rfl ?_
                refine ml_st (S' := (13, [(0, .ref a), (1, .int (u1 + 8)), (2, .int (i13_2 + 1))], [], M)) rfl rfl rfl ?_
                exact ih_13 (i13_2 + 1) (loop_inc (Int32.not_le.mp c_21) hn_13) 
              · have c_69 : ¬ (i13_2 ≤ i66_4) := of_decide_eq_false c_69
                refine ml_st (S' := (73, [(0, .ref a), (1, .int (u1 + 8)), (2, .int i13_2), (3, .int u8), (4, .int i66_4)], [.ref a], M)) rfl rfl rfl ?_
                refine tg_ref (S' := (76, [(0, .ref a), (1, .int (u1 + 8)), (2, .int i13_2), (3, .int u8), (4, .int i66_4)], [.ref b], M)) rfl hS.1 hY0 (by decide) rfl rfl ?_
                refine ml_blk 3 (S' := (80, [(0, .ref a), (1, .int (u1 + 8)), (2, .int i13_2), (3, .int u8), (4, .int i66_4)], [.int i66_4, .int 2, .int (u1 + 8), .ref b], M)) rfl ?_
                refine ml_blk 2 (S' := (82, [(0, .ref a), (1, .int (u1 + 8)), (2, .int i13_2), (3, .int u8), (4, .int i66_4)], [.int ((u1 + 8) + (2 * i66_4)), .ref b], M)) rfl ?_
                refine ml_call (a := [.ref b, .int ((u1 + 8) + (2 * i66_4))]) (rest := []) rfl (okc_t rfl rfl rfl hS.1 hY2 (by decide)) rfl rfl (tq_u2 hS.1 hY2 (by omega)) (fun v14 M15 h16 => ?_)
                obtain ⟨⟨u17, rfl⟩, h16⟩ := h16
                rw [h16]
                show ml _ _ _ (85, [(0, .ref a), (1, .int (u1 + 8)), (2, .int i13_2), (3, .int u8), (4, .int i66_4)], [.int u17], M) _
                refine ml_st (S' := (87, [(5, .int u17), (0, .ref a), (1, .int (u1 + 8)), (2, .int i13_2), (3, .int u8), (4, .int i66_4)], [], M)) rfl rfl rfl ?_
                refine ml_st (S' := (88, [(5, .int u17), (0, .ref a), (1, .int (u1 + 8)), (2, .int i13_2), (3, .int u8), (4, .int i66_4)], [.ref a], M)) rfl rfl rfl ?_
                refine tg_ref (S' := (91, [(5, .int u17), (0, .ref a), (1, .int (u1 + 8)), (2, .int i13_2), (3, .int u8), (4, .int i66_4)], [.ref p], M)) rfl hS.1 hY0 (by decide) rfl rfl ?_
                refine ml_st (S' := (92, [(5, .int u17), (0, .ref a), (1, .int (u1 + 8)), (2, .int i13_2), (3, .int u8), (4, .int i66_4)], [.ref a, .ref p], M)) rfl rfl rfl ?_
                refine tg_ref (S' := (95, [(5, .int u17), (0, .ref a), (1, .int (u1 + 8)), (2, .int i13_2), (3, .int u8), (4, .int i66_4)], [.ref p, .ref p], M)) rfl hS.1 hY0 (by decide) rfl rfl ?_
                refine ml_st (S' := (97, [(5, .int u17), (0, .ref a), (1, .int (u1 + 8)), (2, .int i13_2), (3, .int u8), (4, .int i66_4)], [.int u17, .ref p, .ref p], M)) rfl rfl rfl ?_
                refine ml_call (a := [.ref p, .int u17]) (rest := [.ref p]) rfl (okc_t rfl rfl rfl hS.1 hY3 (by decide)) rfl rfl (tq_firstIndex hS.1 hY3 (by omega)) (fun v18 M19 h20 => ?_)
                obtain ⟨⟨u21, rfl⟩, h20⟩ := h20
                rw [h20]
                show ml _ _ _ (100, [(5, .int u17), (0, .ref a), (1, .int (u1 + 8)), (2, .int i13_2), (3, .int u8), (4, .int i66_4)], [.int u21, .ref p], M) _
                refine ml_st (S' := (101, [(5, .int u17), (0, .ref a), (1, .int (u1 + 8)), (2, .int i13_2), (3, .int u8), (4, .int i66_4)], [.ref a, .int u21, .ref p], M)) rfl rfl rfl ?_
                refine tg_ref (S' := (104, [(5, .int u17), (0, .ref a), (1, .int (u1 + 8)), (2, .int i13_2), (3, .int u8), (4, .int i66_4)], [.ref p, .int u21, .ref p], M)) rfl hS.1 hY0 (by decide) rfl rfl ?_
                refine ml_st (S' := (105, [(5, .int u17), (0, .ref a), (1, .int (u1 + 8)), (2, .int i13_2), (3, .int u8), (4, .int i66_4)], [.int u8, .ref p, .int u21, .ref p], M)) rfl rfl rfl ?_
                refine ml_call (a := [.ref p, .int u8]) (rest := [.int u21, .ref p]) rfl (okc_t rfl rfl rfl hS.1 hY3 (by decide)) rfl rfl (tq_firstIndex hS.1 hY3 (by omega)) (fun v22 M23 h24 => ?_)
                obtain ⟨⟨u25, rfl⟩, h24⟩ := h24
                rw [h24]
                show ml _ _ _ (108, [(5, .int u17), (0, .ref a), (1, .int (u1 + 8)), (2, .int i13_2), (3, .int u8), (4, .int i66_4)], [.int u25, .int u21, .ref p], M) _
                refine ml_call (a := [.ref p, .int u21, .int u25]) (rest := []) rfl (okc_t rfl rfl rfl hS.1 hY3 (by decide)) rfl rfl (tq_sameText hS.1 hY3 (by omega)) (fun v26 M27 h28 => ?_)
                obtain ⟨⟨u29, rfl, z30⟩, h28⟩ := h28
                rw [h28]
                show ml _ _ _ (111, [(5, .int u17), (0, .ref a), (1, .int (u1 + 8)), (2, .int i13_2), (3, .int u8), (4, .int i66_4)], [.int u29], M) _
                refine ml_if (S1 := (129, [(5, .int u17), (0, .ref a), (1, .int (u1 + 8)), (2, .int i13_2), (3, .int u8), (4, .int i66_4)], [], M)) (S2 := (114, [(5, .int u17), (0, .ref a), (1, .int (u1 + 8)), (2, .int i13_2), (3, .int u8), (4, .int i66_4)], [], M)) rfl rfl rfl (fun c_111 => ?_) (fun c_111 => ?_)
                · have c_111 : u29 = 0 := of_decide_eq_true c_111
                  refine ml_st (S' := (132, [(4, .int (i66_4 + 1)), (5, .int u17), (0, .ref a), (1, .int (u1 + 8)), (2, .int i13_2), (3, .int u8)], [], M)) rfl rfl rfl ?_
                  refine ml_st (S' := (66, [(0, .ref a), (1, .int (u1 + 8)), (2, .int i13_2), (3, .int u8), (4, .int (i66_4 + 1))], [], M)) rfl rfl rfl ?_
                  exact ih_66 (i66_4 + 1) (loop_inc (Int32.not_le.mp c_69) hn_66) 
                · have c_111 : ¬ (u29 = 0) := of_decide_eq_false c_111
                  refine ml_st (S' := (115, [(5, .int u17), (0, .ref a), (1, .int (u1 + 8)), (2, .int i13_2), (3, .int u8), (4, .int i66_4)], [.ref a], M)) rfl rfl rfl ?_
                  refine tg_ref (S' := (118, [(5, .int u17), (0, .ref a), (1, .int (u1 + 8)), (2, .int i13_2), (3, .int u8), (4, .int i66_4)], [.ref vd], M)) rfl hS.1 hY0 (by decide) rfl rfl ?_
                  refine ml_blk 3 (S' := (122, [(5, .int u17), (0, .ref a), (1, .int (u1 + 8)), (2, .int i13_2), (3, .int u8), (4, .int i66_4)], [.int 2, .int (u1 + 8), .int 18, .ref vd], M)) rfl ?_
                  refine ml_blk 3 (S' := (125, [(5, .int u17), (0, .ref a), (1, .int (u1 + 8)), (2, .int i13_2), (3, .int u8), (4, .int i66_4)], [.int ((u1 + 8) + (2 * i13_2)), .int 18, .ref vd], M)) rfl ?_
                  refine ml_call (a := [.ref vd, .int 18, .int ((u1 + 8) + (2 * i13_2))]) (rest := []) rfl (okc_t rfl rfl rfl hS.1 hY4 (by decide)) rfl rfl (tw_Ve_wrong hS.1 hY4 (by omega)) (fun v31 M32 h33 => ?_)
                  obtain ⟨rfl, h33⟩ := h33
                  have hS35 := hS.tr h33.1
                  show ml _ _ _ (128, [(5, .int u17), (0, .ref a), (1, .int (u1 + 8)), (2, .int i13_2), (3, .int u8), (4, .int i66_4)], [.int 0], M32) _
                  exact ml_ret rfl (r_z (Or.inl rfl)) (⟨⟨_, rfl, Or.inl rfl⟩, hS35⟩)
          exact L_66 _ 0 (Nat.le_refl _) 
        · have c_45 : ¬ (¬ u12 = 0) := of_decide_eq_false c_45
          refine ml_st (S' := (49, [(3, .int u8), (0, .ref a), (1, .int (u1 + 8)), (2, .int i13_2)], [.ref a], M)) rfl rfl rfl ?_
          refine tg_ref (S' := (52, [(3, .int u8), (0, .ref a), (1, .int (u1 + 8)), (2, .int i13_2)], [.ref vd], M)) rfl hS.1 hY0 (by decide) rfl rfl ?_
          refine ml_blk 3 (S' := (56, [(3, .int u8), (0, .ref a), (1, .int (u1 + 8)), (2, .int i13_2)], [.int 2, .int (u1 + 8), .int 18, .ref vd], M)) rfl ?_
          refine ml_blk 3 (S' := (59, [(3, .int u8), (0, .ref a), (1, .int (u1 + 8)), (2, .int i13_2)], [.int ((u1 + 8) + (2 * i13_2)), .int 18, .ref vd], M)) rfl ?_
          refine ml_call (a := [.ref vd, .int 18, .int ((u1 + 8) + (2 * i13_2))]) (rest := []) rfl (okc_t rfl rfl rfl hS.1 hY4 (by decide)) rfl rfl (tw_Ve_wrong hS.1 hY4 (by omega)) (fun v36 M37 h38 => ?_)
          obtain ⟨rfl, h38⟩ := h38
          have hS40 := hS.tr h38.1
          show ml _ _ _ (62, [(3, .int u8), (0, .ref a), (1, .int (u1 + 8)), (2, .int i13_2)], [.int 0], M37) _
          exact ml_ret rfl (r_z (Or.inl rfl)) (⟨⟨_, rfl, Or.inl rfl⟩, hS40⟩)
  exact L_13 _ 0 (Nat.le_refl _) 
end
section
set_option maxHeartbeats 2000000 in
theorem tw_Cl_fieldHolds {g : xe_G} {M : mi_H} {Y : yT} {a c b p vd ac da n me : Nat} {pp : List Nat} {x2 : Int32}  (hW : WF g Y M) (hY0 : Y.1 a = some (2, [c, b, p, vd, ac])) (hY1 : Y.1 c = some (3, [b, da, n])) (hY2 : Y.1 b = some (1, [da, n])) (hY3 : Y.1 p = some (7, pp)) (hY4 : Y.1 vd = some (10, [])) (hY5 : Y.1 ac = some (0, [c, b, p, vd])) (hY6 : Y.1 me = some (6, [da, n])) {d : Nat} (hd : 4 ≤ d) : mt (mT g) d 56 [.ref a, .ref me, .int x2] M (qZ g Y M) := by
  obtain ⟨d, rfl⟩ : ∃ e, d = e + 1 := ⟨d - 1, by omega⟩
  have hS : st g Y M M := st.rf hW
  refine mt_in (b := mb_56 g) rfl rfl ?_
  show ml (mT g) d (mb_56 g).2 (0, [(0, .ref a), (1, .ref me), (2, .int x2)], [], M) _
  refine ml_blk 2 (S' := (2, [(0, .ref a), (1, .ref me), (2, .int x2)], [.ref me, .ref a], M)) rfl ?_
  refine tg_int rfl hS.1 hY6 (by decide) rfl (fun u1 g2 => ?_)
  show ml _ _ _ (5, [(0, .ref a), (1, .ref me), (2, .int x2)], [.int u1, .ref a], M) _
  refine ml_call (a := [.ref a, .int u1]) (rest := []) rfl (okc_t rfl rfl rfl hS.1 hY0 (by decide)) rfl rfl (tw_Cl_fieldFlagsHold hS.1 hY0 hY1 hY2 hY3 hY4 hY5 (by omega)) (fun v3 M4 h5 => ?_)
  obtain ⟨⟨u6, rfl, z7⟩, h5⟩ := h5
  rw [h5]
  show ml _ _ _ (8, [(0, .ref a), (1, .ref me), (2, .int x2)], [.int u6], M) _
  refine ml_if (S1 := (25, [(0, .ref a), (1, .ref me), (2, .int x2)], [], M)) (S2 := (11, [(0, .ref a), (1, .ref me), (2, .int x2)], [], M)) rfl rfl rfl (fun c_8 => ?_) (fun c_8 => ?_)
  · have c_8 : ¬ u6 = 0 := of_decide_eq_true c_8
    refine ml_st (S' := (26, [(0, .ref a), (1, .ref me), (2, .int x2)], [.ref a], M)) rfl rfl rfl ?_
    refine tg_ref (S' := (29, [(0, .ref a), (1, .ref me), (2, .int x2)], [.ref p], M)) rfl hS.1 hY0 (by decide) rfl rfl ?_
    refine ml_st (S' := (30, [(0, .ref a), (1, .ref me), (2, .int x2)], [.ref me, .ref p], M)) rfl rfl rfl ?_
    refine tg_int rfl hS.1 hY6 (by decide) rfl (fun u8 g9 => ?_)
    show ml _ _ _ (33, [(0, .ref a), (1, .ref me), (2, .int x2)], [.int u8, .ref p], M) _
    refine ml_call (a := [.ref p, .int u8]) (rest := []) rfl (okc_t rfl rfl rfl hS.1 hY3 (by decide)) rfl rfl (tq_isUnqualifiedName hS.1 hY3 (by omega)) (fun v10 M11 h12 => ?_)
    obtain ⟨⟨u13, rfl, z14⟩, h12⟩ := h12
    rw [h12]
    show ml _ _ _ (36, [(0, .ref a), (1, .ref me), (2, .int x2)], [.int u13], M) _
    refine ml_if (S1 := (55, [(0, .ref a), (1, .ref me), (2, .int x2)], [], M)) (S2 := (39, [(0, .ref a), (1, .ref me), (2, .int x2)], [], M)) rfl rfl rfl (fun c_36 => ?_) (fun c_36 => ?_)
    · have c_36 : ¬ u13 = 0 := of_decide_eq_true c_36
      refine ml_st (S' := (56, [(0, .ref a), (1, .ref me), (2, .int x2)], [.ref a], M)) rfl rfl rfl ?_
      refine tg_ref (S' := (59, [(0, .ref a), (1, .ref me), (2, .int x2)], [.ref p], M)) rfl hS.1 hY0 (by decide) rfl rfl ?_
      refine ml_st (S' := (60, [(0, .ref a), (1, .ref me), (2, .int x2)], [.ref me, .ref p], M)) rfl rfl rfl ?_
      refine tg_int rfl hS.1 hY6 (by decide) rfl (fun u15 g16 => ?_)
      show ml _ _ _ (63, [(0, .ref a), (1, .ref me), (2, .int x2)], [.int u15, .ref p], M) _
      refine ml_call (a := [.ref p, .int u15]) (rest := []) rfl (okc_t rfl rfl rfl hS.1 hY3 (by decide)) rfl rfl (tq_isFieldDescriptor hS.1 hY3 (by omega)) (fun v17 M18 h19 => ?_)
      obtain ⟨⟨u20, rfl, z21⟩, h19⟩ := h19
      rw [h19]
      show ml _ _ _ (66, [(0, .ref a), (1, .ref me), (2, .int x2)], [.int u20], M) _
      refine ml_if (S1 := (85, [(0, .ref a), (1, .ref me), (2, .int x2)], [], M)) (S2 := (69, [(0, .ref a), (1, .ref me), (2, .int x2)], [], M)) rfl rfl rfl (fun c_66 => ?_) (fun c_66 => ?_)
      · have c_66 : ¬ u20 = 0 := of_decide_eq_true c_66
        refine ml_st (S' := (86, [(0, .ref a), (1, .ref me), (2, .int x2)], [.ref a], M)) rfl rfl rfl ?_
        refine tg_ref (S' := (89, [(0, .ref a), (1, .ref me), (2, .int x2)], [.ref p], M)) rfl hS.1 hY0 (by decide) rfl rfl ?_
        refine ml_st (S' := (90, [(0, .ref a), (1, .ref me), (2, .int x2)], [.ref a, .ref p], M)) rfl rfl rfl ?_
        refine tg_ref (S' := (93, [(0, .ref a), (1, .ref me), (2, .int x2)], [.ref c, .ref p], M)) rfl hS.1 hY0 (by decide) rfl rfl ?_
        refine tg_vo rfl hS.1 hY1 (by decide) rfl (fun b22 g24 h23 => ?_)
        obtain ⟨k25, h23⟩ := h23
        show ml _ _ _ (96, [(0, .ref a), (1, .ref me), (2, .int x2)], [.ref b22, .ref p], M) _
        refine ml_blk 2 (S' := (98, [(0, .ref a), (1, .ref me), (2, .int x2)], [.ref me, .int x2, .ref b22, .ref p], M)) rfl ?_
        refine ml_get (S' := (101, [(0, .ref a), (1, .ref me), (2, .int x2)], [.int u8, .int x2, .ref b22, .ref p], M)) rfl g9 rfl ?_
        refine ml_st (S' := (102, [(0, .ref a), (1, .ref me), (2, .int x2)], [.ref me, .int u8, .int x2, .ref b22, .ref p], M)) rfl rfl rfl ?_
        refine ml_get (S' := (105, [(0, .ref a), (1, .ref me), (2, .int x2)], [.int u15, .int u8, .int x2, .ref b22, .ref p], M)) rfl g16 rfl ?_
        refine ml_call (a := [.ref p, .ref b22, .int x2, .int u8, .int u15]) (rest := []) rfl (okc_t rfl rfl rfl hS.1 hY3 (by decide)) rfl rfl (tw_Po_sameMember hS.1 hY3 h23 (by omega)) (fun v26 M27 h28 => ?_)
        obtain ⟨⟨u29, rfl⟩, h28⟩ := h28
        rw [h28]
        show ml _ _ _ (108, [(0, .ref a), (1, .ref me), (2, .int x2)], [.int u29], M) _
        refine ml_if (S1 := (125, [(0, .ref a), (1, .ref me), (2, .int x2)], [], M)) (S2 := (111, [(0, .ref a), (1, .ref me), (2, .int x2)], [], M)) rfl rfl rfl (fun c_108 => ?_) (fun c_108 => ?_)
        · have c_108 : u29 < 0 := of_decide_eq_true c_108
          refine ml_st (S' := (126, [(0, .ref a), (1, .ref me), (2, .int x2)], [.int 1], M)) rfl rfl rfl ?_
          exact ml_ret rfl (r_z (Or.inr rfl)) (⟨⟨_, rfl, Or.inr rfl⟩, hS⟩)
        · have c_108 : ¬ (u29 < 0) := of_decide_eq_false c_108
          refine ml_st (S' := (112, [(0, .ref a), (1, .ref me), (2, .int x2)], [.ref a], M)) rfl rfl rfl ?_
          refine tg_ref (S' := (115, [(0, .ref a), (1, .ref me), (2, .int x2)], [.ref vd], M)) rfl hS.1 hY0 (by decide) rfl rfl ?_
          refine ml_blk 2 (S' := (118, [(0, .ref a), (1, .ref me), (2, .int x2)], [.ref me, .int 22, .ref vd], M)) rfl ?_
          refine tg_int rfl hS.1 hY6 (by decide) rfl (fun u30 g31 => ?_)
          show ml _ _ _ (121, [(0, .ref a), (1, .ref me), (2, .int x2)], [.int u30, .int 22, .ref vd], M) _
          refine ml_call (a := [.ref vd, .int 22, .int u30]) (rest := []) rfl (okc_t rfl rfl rfl hS.1 hY4 (by decide)) rfl rfl (tw_Ve_wrong hS.1 hY4 (by omega)) (fun v32 M33 h34 => ?_)
          obtain ⟨rfl, h34⟩ := h34
          have hS36 := hS.tr h34.1
          show ml _ _ _ (124, [(0, .ref a), (1, .ref me), (2, .int x2)], [.int 0], M33) _
          exact ml_ret rfl (r_z (Or.inl rfl)) (⟨⟨_, rfl, Or.inl rfl⟩, hS36⟩)
      · have c_66 : ¬ (¬ u20 = 0) := of_decide_eq_false c_66
        refine ml_st (S' := (70, [(0, .ref a), (1, .ref me), (2, .int x2)], [.ref a], M)) rfl rfl rfl ?_
        refine tg_ref (S' := (73, [(0, .ref a), (1, .ref me), (2, .int x2)], [.ref vd], M)) rfl hS.1 hY0 (by decide) rfl rfl ?_
        refine ml_blk 2 (S' := (76, [(0, .ref a), (1, .ref me), (2, .int x2)], [.ref me, .int 21, .ref vd], M)) rfl ?_
        refine tg_int rfl hS.1 hY6 (by decide) rfl (fun u37 g38 => ?_)
        show ml _ _ _ (79, [(0, .ref a), (1, .ref me), (2, .int x2)], [.int u37, .int 21, .ref vd], M) _
        refine ml_blk 2 (S' := (81, [(0, .ref a), (1, .ref me), (2, .int x2)], [.int (u37 + 4), .int 21, .ref vd], M)) rfl ?_
        refine ml_call (a := [.ref vd, .int 21, .int (u37 + 4)]) (rest := []) rfl (okc_t rfl rfl rfl hS.1 hY4 (by decide)) rfl rfl (tw_Ve_wrong hS.1 hY4 (by omega)) (fun v39 M40 h41 => ?_)
        obtain ⟨rfl, h41⟩ := h41
        have hS43 := hS.tr h41.1
        show ml _ _ _ (84, [(0, .ref a), (1, .ref me), (2, .int x2)], [.int 0], M40) _
        exact ml_ret rfl (r_z (Or.inl rfl)) (⟨⟨_, rfl, Or.inl rfl⟩, hS43⟩)
    · have c_36 : ¬ (¬ u13 = 0) := of_decide_eq_false c_36
      refine ml_st (S' := (40, [(0, .ref a), (1, .ref me), (2, .int x2)], [.ref a], M)) rfl rfl rfl ?_
      refine tg_ref (S' := (43, [(0, .ref a), (1, .ref me), (2, .int x2)], [.ref vd], M)) rfl hS.1 hY0 (by decide) rfl rfl ?_
      refine ml_blk 2 (S' := (46, [(0, .ref a), (1, .ref me), (2, .int x2)], [.ref me, .int 20, .ref vd], M)) rfl ?_
      refine tg_int rfl hS.1 hY6 (by decide) rfl (fun u44 g45 => ?_)
      show ml _ _ _ (49, [(0, .ref a), (1, .ref me), (2, .int x2)], [.int u44, .int 20, .ref vd], M) _
      refine ml_blk 2 (S' := (51, [(0, .ref a), (1, .ref me), (2, .int x2)], [.int (u44 + 2), .int 20, .ref vd], M)) rfl ?_
      refine ml_call (a := [.ref vd, .int 20, .int (u44 + 2)]) (rest := []) rfl (okc_t rfl rfl rfl hS.1 hY4 (by decide)) rfl rfl (tw_Ve_wrong hS.1 hY4 (by omega)) (fun v46 M47 h48 => ?_)
      obtain ⟨rfl, h48⟩ := h48
      have hS50 := hS.tr h48.1
      show ml _ _ _ (54, [(0, .ref a), (1, .ref me), (2, .int x2)], [.int 0], M47) _
      exact ml_ret rfl (r_z (Or.inl rfl)) (⟨⟨_, rfl, Or.inl rfl⟩, hS50⟩)
  · have c_8 : ¬ (¬ u6 = 0) := of_decide_eq_false c_8
    refine ml_st (S' := (12, [(0, .ref a), (1, .ref me), (2, .int x2)], [.ref a], M)) rfl rfl rfl ?_
    refine tg_ref (S' := (15, [(0, .ref a), (1, .ref me), (2, .int x2)], [.ref vd], M)) rfl hS.1 hY0 (by decide) rfl rfl ?_
    refine ml_blk 2 (S' := (18, [(0, .ref a), (1, .ref me), (2, .int x2)], [.ref me, .int 19, .ref vd], M)) rfl ?_
    refine tg_int rfl hS.1 hY6 (by decide) rfl (fun u51 g52 => ?_)
    show ml _ _ _ (21, [(0, .ref a), (1, .ref me), (2, .int x2)], [.int u51, .int 19, .ref vd], M) _
    refine ml_call (a := [.ref vd, .int 19, .int u51]) (rest := []) rfl (okc_t rfl rfl rfl hS.1 hY4 (by decide)) rfl rfl (tw_Ve_wrong hS.1 hY4 (by omega)) (fun v53 M54 h55 => ?_)
    obtain ⟨rfl, h55⟩ := h55
    have hS57 := hS.tr h55.1
    show ml _ _ _ (24, [(0, .ref a), (1, .ref me), (2, .int x2)], [.int 0], M54) _
    exact ml_ret rfl (r_z (Or.inl rfl)) (⟨⟨_, rfl, Or.inl rfl⟩, hS57⟩)
set_option maxHeartbeats 2000000 in
theorem tw_Cl_methodHolds {g : xe_G} {M : mi_H} {Y : yT} {a c b p vd ac da n me : Nat} {pp : List Nat} {x2 : Int32}  (hW : WF g Y M) (hY0 : Y.1 a = some (2, [c, b, p, vd, ac])) (hY1 : Y.1 c = some (3, [b, da, n])) (hY2 : Y.1 b = some (1, [da, n])) (hY3 : Y.1 p = some (7, pp)) (hY4 : Y.1 vd = some (10, [])) (hY5 : Y.1 ac = some (0, [c, b, p, vd])) (hY6 : Y.1 me = some (6, [da, n])) {d : Nat} (hd : 5 ≤ d) : mt (mT g) d 65 [.ref a, .ref me, .int x2] M (fZ g Y [me, vd] M) := by
  obtain ⟨d, rfl⟩ : ∃ e, d = e + 1 := ⟨d - 1, by omega⟩
  have hS : sf g Y [me, vd] M M := sf.rf hW
  refine mt_in (b := mb_65 g) rfl rfl ?_
  show ml (mT g) d (mb_65 g).2 (0, [(0, .ref a), (1, .ref me), (2, .int x2)], [], M) _
  refine ml_blk 2 (S' := (2, [(0, .ref a), (1, .ref me), (2, .int x2)], [.ref me, .ref a], M)) rfl ?_
  refine tg_int rfl hS.1.1 hY6 (by decide) rfl (fun u1 g2 => ?_)
  show ml _ _ _ (5, [(0, .ref a), (1, .ref me), (2, .int x2)], [.int u1, .ref a], M) _
  refine ml_call (a := [.ref a, .int u1]) (rest := []) rfl (okc_t rfl rfl rfl hS.1.1 hY0 (by decide)) rfl rfl (tw_Cl_methodNameHolds hS.1.1 hY0 hY1 hY2 hY3 hY4 hY5 (by omega)) (fun v3 M4 h5 => ?_)
  obtain ⟨⟨u6, rfl, z7⟩, h5⟩ := h5
  rw [h5]
  show ml _ _ _ (8, [(0, .ref a), (1, .ref me), (2, .int x2)], [.int u6], M) _
  refine ml_if (S1 := (27, [(0, .ref a), (1, .ref me), (2, .int x2)], [], M)) (S2 := (11, [(0, .ref a), (1, .ref me), (2, .int x2)], [], M)) rfl rfl rfl (fun c_8 => ?_) (fun c_8 => ?_)
  · have c_8 : ¬ u6 = 0 := of_decide_eq_true c_8
    refine ml_blk 2 (S' := (29, [(0, .ref a), (1, .ref me), (2, .int x2)], [.ref me, .ref a], M)) rfl ?_
    refine ml_call (a := [.ref a, .ref me]) (rest := []) rfl (okc_t rfl rfl rfl hS.1.1 hY0 (by decide)) rfl rfl (tw_Cl_methodFlagsHold hS.1.1 hY0 hY1 hY2 hY3 hY4 hY5 hY6 (by omega)) (fun v8 M9 h10 => ?_)
    obtain ⟨⟨u11, rfl, z12⟩, h10⟩ := h10
    rw [h10]
    show ml _ _ _ (32, [(0, .ref a), (1, .ref me), (2, .int x2)], [.int u11], M) _
    refine ml_if (S1 := (49, [(0, .ref a), (1, .ref me), (2, .int x2)], [], M)) (S2 := (35, [(0, .ref a), (1, .ref me), (2, .int x2)], [], M)) rfl rfl rfl (fun c_32 => ?_) (fun c_32 => ?_)
    · have c_32 : ¬ u11 = 0 := of_decide_eq_true c_32
      refine ml_blk 2 (S' := (51, [(0, .ref a), (1, .ref me), (2, .int x2)], [.ref a, .ref me], M)) rfl ?_
      refine tg_ref (S' := (54, [(0, .ref a), (1, .ref me), (2, .int x2)], [.ref p, .ref me], M)) rfl hS.1.1 hY0 (by decide) rfl rfl ?_
      refine ml_st (S' := (55, [(0, .ref a), (1, .ref me), (2, .int x2)], [.ref me, .ref p, .ref me], M)) rfl rfl rfl ?_
      refine tg_int rfl hS.1.1 hY6 (by decide) rfl (fun u13 g14 => ?_)
      show ml _ _ _ (58, [(0, .ref a), (1, .ref me), (2, .int x2)], [.int u13, .ref p, .ref me], M) _
      refine ml_call (a := [.ref p, .int u13]) (rest := [.ref me]) rfl (okc_t rfl rfl rfl hS.1.1 hY3 (by decide)) rfl rfl (tq_argumentPlaces hS.1.1 hY3 (by omega)) (fun v15 M16 h17 => ?_)
      obtain ⟨⟨u18, rfl⟩, h17⟩ := h17
      rw [h17]
      show ml _ _ _ (61, [(0, .ref a), (1, .ref me), (2, .int x2)], [.int u18, .ref me], M) _
      refine ml_blk 2 (S' := (64, [(0, .ref a), (1, .ref me), (2, .int x2)], [.int 8, .ref me, .int u18, .ref me], M)) rfl ?_
      refine ml_call (a := [.ref me, .int 8]) (rest := [.int u18, .ref me]) rfl (okc_t rfl rfl rfl hS.1.1 hY6 (by decide)) rfl rfl (tw_Me_has hS.1.1 hY6 (by omega)) (fun v19 M20 h21 => ?_)
      obtain ⟨⟨u22, rfl, z23⟩, h21⟩ := h21
      rw [h21]
      show ml _ _ _ (67, [(0, .ref a), (1, .ref me), (2, .int x2)], [.int u22, .int u18, .ref me], M) _
      have J_75 : ∀ (s75_0 : Int32), ml (mT g) d (mb_65 g).2 (75, [(0, .ref a), (1, .ref me), (2, .int x2)], [.int s75_0, .int u18, .ref me], M) (fZ g Y [me, vd] M) := by
        intro s75_0
        refine ml_st (S' := (76, [(0, .ref a), (1, .ref me), (2, .int x2)], [.int (u18 + s75_0), .ref me], M)) rfl rfl rfl ?_
        refine tp_put rfl hS.1 hY6 (by decide) rfl (⟨_, rfl⟩) rfl rfl (fun M24 hS25 f26 => ?_)
        have hS27 := hS.put hS25 f26 (by simp)
        show ml _ _ _ (79, [(0, .ref a), (1, .ref me), (2, .int x2)], [], M24) _
        refine ml_blk 2 (S' := (81, [(0, .ref a), (1, .ref me), (2, .int x2)], [.ref me, .ref a], M24)) rfl ?_
        refine ml_call (a := [.ref a, .ref me]) (rest := []) rfl (okc_t rfl rfl rfl hS27.1.1 hY0 (by decide)) rfl rfl (tw_Cl_methodDescriptorHolds hS27.1.1 hY0 hY1 hY2 hY3 hY4 hY5 hY6 (by omega)) (fun v28 M29 h30 => ?_)
        obtain ⟨⟨u31, rfl, z32⟩, h30⟩ := h30
        rw [h30]
        show ml _ _ _ (84, [(0, .ref a), (1, .ref me), (2, .int x2)], [.int u31], M24) _
        refine ml_if (S1 := (103, [(0, .ref a), (1, .ref me), (2, .int x2)], [], M24)) (S2 := (87, [(0, .ref a), (1, .ref me), (2, .int x2)], [], M24)) rfl rfl rfl (fun c_84 => ?_) (fun c_84 => ?_)
        · have c_84 : ¬ u31 = 0 := of_decide_eq_true c_84
          refine ml_st (S' := (104, [(0, .ref a), (1, .ref me), (2, .int x2)], [.ref a], M24)) rfl rfl rfl ?_
          refine tg_ref (S' := (107, [(0, .ref a), (1, .ref me), (2, .int x2)], [.ref p], M24)) rfl hS27.1.1 hY0 (by decide) rfl rfl ?_
          refine ml_st (S' := (108, [(0, .ref a), (1, .ref me), (2, .int x2)], [.ref a, .ref p], M24)) rfl rfl rfl ?_
          refine tg_ref (S' := (111, [(0, .ref a), (1, .ref me), (2, .int x2)], [.ref c, .ref p], M24)) rfl hS27.1.1 hY0 (by decide) rfl rfl ?_
          refine tg_vo rfl hS27.1.1 hY1 (by decide) rfl (fun b33 g35 h34 => ?_)
          obtain ⟨k36, h34⟩ := h34
          show ml _ _ _ (114, [(0, .ref a), (1, .ref me), (2, .int x2)], [.ref b33, .ref p], M24) _
          refine ml_blk 2 (S' := (116, [(0, .ref a), (1, .ref me), (2, .int x2)], [.ref me, .int x2, .ref b33, .ref p], M24)) rfl ?_
          refine tg_int rfl hS27.1.1 hY6 (by decide) rfl (fun u37 g38 => ?_)
          show ml _ _ _ (119, [(0, .ref a), (1, .ref me), (2, .int x2)], [.int u37, .int x2, .ref b33, .ref p], M24) _
          refine ml_st (S' := (120, [(0, .ref a), (1, .ref me), (2, .int x2)], [.ref me, .int u37, .int x2, .ref b33, .ref p], M24)) rfl rfl rfl ?_
          refine tg_int rfl hS27.1.1 hY6 (by decide) rfl (fun u39 g40 => ?_)
          show ml _ _ _ (123, [(0, .ref a), (1, .ref me), (2, .int x2)], [.int u39, .int u37, .int x2, .ref b33, .ref p], M24) _
          refine ml_call (a := [.ref p, .ref b33, .int x2, .int u37, .int u39]) (rest := []) rfl (okc_t rfl rfl rfl hS27.1.1 hY3 (by decide)) rfl rfl (tw_Po_sameMember hS27.1.1 hY3 h34 (by omega)) (fun v41 M42 h43 => ?_)
          obtain ⟨⟨u44, rfl⟩, h43⟩ := h43
          rw [h43]
          show ml _ _ _ (126, [(0, .ref a), (1, .ref me), (2, .int x2)], [.int u44], M24) _
          refine ml_if (S1 := (143, [(0, .ref a), (1, .ref me), (2, .int x2)], [], M24)) (S2 := (129, [(0, .ref a), (1, .ref me), (2, .int x2)], [], M24)) rfl rfl rfl (fun c_126 => ?_) (fun c_126 => ?_)
          · have c_126 : u44 < 0 := of_decide_eq_true c_126
            refine ml_st (S' := (144, [(0, .ref a), (1, .ref me), (2, .int x2)], [.int 1], M24)) rfl rfl rfl ?_
            exact ml_ret rfl (r_z (Or.inr rfl)) (⟨⟨_, rfl, Or.inr rfl⟩, hS27⟩)
          · have c_126 : ¬ (u44 < 0) := of_decide_eq_false c_126
            refine ml_st (S' := (130, [(0, .ref a), (1, .ref me), (2, .int x2)], [.ref a], M24)) rfl rfl rfl ?_
            refine tg_ref (S' := (133, [(0, .ref a), (1, .ref me), (2, .int x2)], [.ref vd], M24)) rfl hS27.1.1 hY0 (by decide) rfl rfl ?_
            refine ml_blk 2 (S' := (136, [(0, .ref a), (1, .ref me), (2, .int x2)], [.ref me, .int 26, .ref vd], M24)) rfl ?_
            refine tg_int rfl hS27.1.1 hY6 (by decide) rfl (fun u45 g46 => ?_)
            show ml _ _ _ (139, [(0, .ref a), (1, .ref me), (2, .int x2)], [.int u45, .int 26, .ref vd], M24) _
            refine ml_call (a := [.ref vd, .int 26, .int u45]) (rest := []) rfl (okc_t rfl rfl rfl hS27.1.1 hY4 (by decide)) rfl rfl (tw_Ve_wrong hS27.1.1 hY4 (by omega)) (fun v47 M48 h49 => ?_)
            obtain ⟨rfl, h49⟩ := h49
            have hS51 := hS27.tr h49 (by simp)
            show ml _ _ _ (142, [(0, .ref a), (1, .ref me), (2, .int x2)], [.int 0], M48) _
            exact ml_ret rfl (r_z (Or.inl rfl)) (⟨⟨_, rfl, Or.inl rfl⟩, hS51⟩)
        · have c_84 : ¬ (¬ u31 = 0) := of_decide_eq_false c_84
          refine ml_st (S' := (88, [(0, .ref a), (1, .ref me), (2, .int x2)], [.ref a], M24)) rfl rfl rfl ?_
          refine tg_ref (S' := (91, [(0, .ref a), (1, .ref me), (2, .int x2)], [.ref vd], M24)) rfl hS27.1.1 hY0 (by decide) rfl rfl ?_
          refine ml_blk 2 (S' := (94, [(0, .ref a), (1, .ref me), (2, .int x2)], [.ref me, .int 25, .ref vd], M24)) rfl ?_
          refine tg_int rfl hS27.1.1 hY6 (by decide) rfl (fun u52 g53 => ?_)
          show ml _ _ _ (97, [(0, .ref a), (1, .ref me), (2, .int x2)], [.int u52, .int 25, .ref vd], M24) _
          refine ml_blk 2 (S' := (99, [(0, .ref a), (1, .ref me), (2, .int x2)], [.int (u52 + 4), .int 25, .ref vd], M24)) rfl ?_
          refine ml_call (a := [.ref vd, .int 25, .int (u52 + 4)]) (rest := []) rfl (okc_t rfl rfl rfl hS27.1.1 hY4 (by decide)) rfl rfl (tw_Ve_wrong hS27.1.1 hY4 (by omega)) (fun v54 M55 h56 => ?_)
          obtain ⟨rfl, h56⟩ := h56
          have hS58 := hS27.tr h56 (by simp)
          show ml _ _ _ (102, [(0, .ref a), (1, .ref me), (2, .int x2)], [.int 0], M55) _
          exact ml_ret rfl (r_z (Or.inl rfl)) (⟨⟨_, rfl, Or.inl rfl⟩, hS58⟩)
      refine ml_if (S1 := (74, [(0, .ref a), (1, .ref me), (2, .int x2)], [.int u18, .ref me], M)) (S2 := (70, [(0, .ref a), (1, .ref me), (2, .int x2)], [.int u18, .ref me], M)) rfl rfl rfl (fun c_67 => ?_) (fun c_67 => ?_)
      · have c_67 : u22 = 0 := of_decide_eq_true c_67
        refine ml_st (S' := (75, [(0, .ref a), (1, .ref me), (2, .int x2)], [.int 1, .int u18, .ref me], M)) rfl rfl rfl ?_
        exact J_75 1
      · have c_67 : ¬ (u22 = 0) := of_decide_eq_false c_67
        refine ml_st (S' := (71, [(0, .ref a), (1, .ref me), (2, .int x2)], [.int 0, .int u18, .ref me], M)) rfl rfl rfl ?_
        refine ml_st (S' := (75, [(0, .ref a), (1, .ref me), (2, .int x2)], [.int 0, .int u18, .ref me], M)) rfl rfl rfl ?_
        exact J_75 0
    · have c_32 : ¬ (¬ u11 = 0) := of_decide_eq_false c_32
      refine ml_st (S' := (36, [(0, .ref a), (1, .ref me), (2, .int x2)], [.ref a], M)) rfl rfl rfl ?_
      refine tg_ref (S' := (39, [(0, .ref a), (1, .ref me), (2, .int x2)], [.ref vd], M)) rfl hS.1.1 hY0 (by decide) rfl rfl ?_
      refine ml_blk 2 (S' := (42, [(0, .ref a), (1, .ref me), (2, .int x2)], [.ref me, .int 23, .ref vd], M)) rfl ?_
      refine tg_int rfl hS.1.1 hY6 (by decide) rfl (fun u59 g60 => ?_)
      show ml _ _ _ (45, [(0, .ref a), (1, .ref me), (2, .int x2)], [.int u59, .int 23, .ref vd], M) _
      refine ml_call (a := [.ref vd, .int 23, .int u59]) (rest := []) rfl (okc_t rfl rfl rfl hS.1.1 hY4 (by decide)) rfl rfl (tw_Ve_wrong hS.1.1 hY4 (by omega)) (fun v61 M62 h63 => ?_)
      obtain ⟨rfl, h63⟩ := h63
      have hS65 := hS.tr h63 (by simp)
      show ml _ _ _ (48, [(0, .ref a), (1, .ref me), (2, .int x2)], [.int 0], M62) _
      exact ml_ret rfl (r_z (Or.inl rfl)) (⟨⟨_, rfl, Or.inl rfl⟩, hS65⟩)
  · have c_8 : ¬ (¬ u6 = 0) := of_decide_eq_false c_8
    refine ml_st (S' := (12, [(0, .ref a), (1, .ref me), (2, .int x2)], [.ref a], M)) rfl rfl rfl ?_
    refine tg_ref (S' := (15, [(0, .ref a), (1, .ref me), (2, .int x2)], [.ref vd], M)) rfl hS.1.1 hY0 (by decide) rfl rfl ?_
    refine ml_blk 2 (S' := (18, [(0, .ref a), (1, .ref me), (2, .int x2)], [.ref me, .int 24, .ref vd], M)) rfl ?_
    refine tg_int rfl hS.1.1 hY6 (by decide) rfl (fun u66 g67 => ?_)
    show ml _ _ _ (21, [(0, .ref a), (1, .ref me), (2, .int x2)], [.int u66, .int 24, .ref vd], M) _
    refine ml_blk 2 (S' := (23, [(0, .ref a), (1, .ref me), (2, .int x2)], [.int (u66 + 2), .int 24, .ref vd], M)) rfl ?_
    refine ml_call (a := [.ref vd, .int 24, .int (u66 + 2)]) (rest := []) rfl (okc_t rfl rfl rfl hS.1.1 hY4 (by decide)) rfl rfl (tw_Ve_wrong hS.1.1 hY4 (by omega)) (fun v68 M69 h70 => ?_)
    obtain ⟨rfl, h70⟩ := h70
    have hS72 := hS.tr h70 (by simp)
    show ml _ _ _ (26, [(0, .ref a), (1, .ref me), (2, .int x2)], [.int 0], M69) _
    exact ml_ret rfl (r_z (Or.inl rfl)) (⟨⟨_, rfl, Or.inl rfl⟩, hS72⟩)
set_option maxHeartbeats 2000000 in
theorem tw_Cl_codeIsDue {g : xe_G} {M : mi_H} {Y : yT} {a c b p vd ac da n me : Nat} {pp : List Nat}  (hW : WF g Y M) (hY0 : Y.1 a = some (2, [c, b, p, vd, ac])) (hY1 : Y.1 c = some (3, [b, da, n])) (hY2 : Y.1 b = some (1, [da, n])) (hY3 : Y.1 p = some (7, pp)) (hY4 : Y.1 vd = some (10, [])) (hY5 : Y.1 ac = some (0, [c, b, p, vd])) (hY6 : Y.1 me = some (6, [da, n])) {d : Nat} (hd : 3 ≤ d) : mt (mT g) d 54 [.ref a, .ref me] M (fZ g Y [vd] M) := by
  obtain ⟨d, rfl⟩ : ∃ e, d = e + 1 := ⟨d - 1, by omega⟩
  have hS : sf g Y [vd] M M := sf.rf hW
  refine mt_in (b := mb_54 g) rfl rfl ?_
  show ml (mT g) d (mb_54 g).2 (0, [(0, .ref a), (1, .ref me)], [], M) _
  refine ml_st (S' := (1, [(0, .ref a), (1, .ref me)], [.ref a], M)) rfl rfl rfl ?_
  refine tg_ref (S' := (4, [(0, .ref a), (1, .ref me)], [.ref p], M)) rfl hS.1.1 hY0 (by decide) rfl rfl ?_
  refine ml_st (S' := (5, [(0, .ref a), (1, .ref me)], [.ref me, .ref p], M)) rfl rfl rfl ?_
  refine tg_int rfl hS.1.1 hY6 (by decide) rfl (fun u1 g2 => ?_)
  show ml _ _ _ (8, [(0, .ref a), (1, .ref me)], [.int u1, .ref p], M) _
  refine ml_st (S' := (10, [(0, .ref a), (1, .ref me)], [.ref (g.2.1 13), .int u1, .ref p], M)) rfl rfl rfl ?_
  refine ml_call (a := [.ref p, .int u1, .ref (g.2.1 13)]) (rest := []) rfl (okc_t rfl rfl rfl hS.1.1 hY3 (by decide)) rfl rfl (tq_textIs (lk := 13) hS.1.1 hY3 (by decide) (by omega)) (fun v3 M4 h5 => ?_)
  obtain ⟨⟨x6, rfl, z7⟩, h5⟩ := h5
  rw [h5]
  show ml _ _ _ (13, [(0, .ref a), (1, .ref me)], [.int x6], M) _
  have J_31 : ∀ (s31_0 : Int32), ml (mT g) d (mb_54 g).2 (31, [(0, .ref a), (1, .ref me)], [.int s31_0], M) (fZ g Y [vd] M) := by
    intro s31_0
    refine ml_st (S' := (32, [(2, .int s31_0), (0, .ref a), (1, .ref me)], [], M)) rfl rfl rfl ?_
    refine ml_blk 2 (S' := (34, [(2, .int s31_0), (0, .ref a), (1, .ref me)], [.ref me, .int s31_0], M)) rfl ?_
    refine tg_vn rfl hS.1.1 hY6 (by decide) rfl (fun g10 => ?_) (fun b8 g10 h9 => ?_)
    · show ml _ _ _ (37, [(2, .int s31_0), (0, .ref a), (1, .ref me)], [.null, .int s31_0], M) _
      refine ml_st (S' := (44, [(2, .int s31_0), (0, .ref a), (1, .ref me)], [.int s31_0], M)) rfl rfl rfl ?_
      refine ml_st (S' := (45, [(0, .ref a), (1, .ref me)], [.int 0, .int s31_0], M)) rfl rfl rfl ?_
      refine ml_if2 (S1 := (64, [], [], M)) (S2 := (48, [(0, .ref a), (1, .ref me)], [], M)) rfl rfl rfl (fun c_45 => ?_) (fun c_45 => ?_)
      · have c_45 : s31_0 = 0 := of_decide_eq_true c_45
        refine ml_st (S' := (65, [], [.int 1], M)) rfl rfl rfl ?_
        refine ml_st (S' := (69, [], [.int 1], M)) rfl rfl rfl ?_
        exact ml_ret rfl (r_z (Or.inr rfl)) (⟨⟨_, rfl, Or.inr rfl⟩, hS⟩)
      · have c_45 : ¬ (s31_0 = 0) := of_decide_eq_false c_45
        refine ml_st (S' := (49, [(0, .ref a), (1, .ref me)], [.ref a], M)) rfl rfl rfl ?_
        refine tg_ref (S' := (52, [(0, .ref a), (1, .ref me)], [.ref vd], M)) rfl hS.1.1 hY0 (by decide) rfl rfl ?_
        refine ml_blk 2 (S' := (55, [(0, .ref a), (1, .ref me)], [.ref me, .int 27, .ref vd], M)) rfl ?_
        refine tg_int rfl hS.1.1 hY6 (by decide) rfl (fun u11 g12 => ?_)
        show ml _ _ _ (58, [(0, .ref a), (1, .ref me)], [.int u11, .int 27, .ref vd], M) _
        refine ml_call (a := [.ref vd, .int 27, .int u11]) (rest := []) rfl (okc_t rfl rfl rfl hS.1.1 hY4 (by decide)) rfl rfl (tw_Ve_wrong hS.1.1 hY4 (by omega)) (fun v13 M14 h15 => ?_)
        obtain ⟨rfl, h15⟩ := h15
        have hS17 := hS.tr h15 (by simp)
        show ml _ _ _ (61, [(0, .ref a), (1, .ref me)], [.int 0], M14) _
        refine ml_if (S1 := (68, [(0, .ref a), (1, .ref me)], [], M14)) (S2 := (64, [], [], M14)) rfl rfl rfl (fun c_61 => ?_) (fun c_61 => ?_)
        · have c_61 : 0 = 0 := of_decide_eq_true c_61
          refine ml_st (S' := (69, [], [.int 0], M14)) rfl rfl rfl ?_
          exact ml_ret rfl (r_z (Or.inl rfl)) (⟨⟨_, rfl, Or.inl rfl⟩, hS17⟩)
        · have c_61 : ¬ (0 = 0) := of_decide_eq_false c_61
          refine ml_st (S' := (65, [], [.int 1], M14)) rfl rfl rfl ?_
          refine ml_st (S' := (69, [], [.int 1], M14)) rfl rfl rfl ?_
          exact ml_ret rfl (r_z (Or.inr rfl)) (⟨⟨_, rfl, Or.inr rfl⟩, hS17⟩)
    · skip
      obtain ⟨p18, o19, h9⟩ := h9
      obtain ⟨⟨pp20, h21⟩, b22, h23⟩ := hS.1.1.lnk h9 (by decide)
      obtain ⟨da24, n25, h26⟩ := hS.1.1.lnk h23 (by decide)
      show ml _ _ _ (37, [(2, .int s31_0), (0, .ref a), (1, .ref me)], [.ref b8, .int s31_0], M) _
      refine ml_st (S' := (40, [(2, .int s31_0), (0, .ref a), (1, .ref me)], [.int s31_0], M)) rfl rfl rfl ?_
      refine ml_st (S' := (41, [(2, .int s31_0), (0, .ref a), (1, .ref me)], [.int 1, .int s31_0], M)) rfl rfl rfl ?_
      refine ml_st (S' := (45, [(0, .ref a), (1, .ref me)], [.int 1, .int s31_0], M)) rfl rfl rfl ?_
      refine ml_if2 (S1 := (64, [], [], M)) (S2 := (48, [(0, .ref a), (1, .ref me)], [], M)) rfl rfl rfl (fun c_45 => ?_) (fun c_45 => ?_)
      · have c_45 : s31_0 = 1 := of_decide_eq_true c_45
        refine ml_st (S' := (65, [], [.int 1], M)) rfl rfl rfl ?_
        refine ml_st (S' := (69, [], [.int 1], M)) rfl rfl rfl ?_
        exact ml_ret rfl (r_z (Or.inr rfl)) (⟨⟨_, rfl, Or.inr rfl⟩, hS⟩)
      · have c_45 : ¬ (s31_0 = 1) := of_decide_eq_false c_45
        refine ml_st (S' := (49, [(0, .ref a), (1, .ref me)], [.ref a], M)) rfl rfl rfl ?_
        refine tg_ref (S' := (52, [(0, .ref a), (1, .ref me)], [.ref vd], M)) rfl hS.1.1 hY0 (by decide) rfl rfl ?_
        refine ml_blk 2 (S' := (55, [(0, .ref a), (1, .ref me)], [.ref me, .int 27, .ref vd], M)) rfl ?_
        refine tg_int rfl hS.1.1 hY6 (by decide) rfl (fun u27 g28 => ?_)
        show ml _ _ _ (58, [(0, .ref a), (1, .ref me)], [.int u27, .int 27, .ref vd], M) _
        refine ml_call (a := [.ref vd, .int 27, .int u27]) (rest := []) rfl (okc_t rfl rfl rfl hS.1.1 hY4 (by decide)) rfl rfl (tw_Ve_wrong hS.1.1 hY4 (by omega)) (fun v29 M30 h31 => ?_)
        obtain ⟨rfl, h31⟩ := h31
        have hS33 := hS.tr h31 (by simp)
        show ml _ _ _ (61, [(0, .ref a), (1, .ref me)], [.int 0], M30) _
        refine ml_if (S1 := (68, [(0, .ref a), (1, .ref me)], [], M30)) (S2 := (64, [], [], M30)) rfl rfl rfl (fun c_61 => ?_) (fun c_61 => ?_)
        · have c_61 : 0 = 0 := of_decide_eq_true c_61
          refine ml_st (S' := (69, [], [.int 0], M30)) rfl rfl rfl ?_
          exact ml_ret rfl (r_z (Or.inl rfl)) (⟨⟨_, rfl, Or.inl rfl⟩, hS33⟩)
        · have c_61 : ¬ (0 = 0) := of_decide_eq_false c_61
          refine ml_st (S' := (65, [], [.int 1], M30)) rfl rfl rfl ?_
          refine ml_st (S' := (69, [], [.int 1], M30)) rfl rfl rfl ?_
          exact ml_ret rfl (r_z (Or.inr rfl)) (⟨⟨_, rfl, Or.inr rfl⟩, hS33⟩)
  have J_26 : ml (mT g) d (mb_54 g).2 (26, [(0, .ref a), (1, .ref me)], [], M) (fZ g Y [vd] M) := by
    refine ml_st (S' := (27, [(0, .ref a), (1, .ref me)], [.int 1], M)) rfl rfl rfl ?_
    refine ml_st (S' := (31, [(0, .ref a), (1, .ref me)], [.int 1], M)) rfl rfl rfl ?_
    exact J_31 1
  refine ml_if (S1 := (26, [(0, .ref a), (1, .ref me)], [], M)) (S2 := (16, [(0, .ref a), (1, .ref me)], [], M)) rfl rfl rfl (fun c_13 => ?_) (fun c_13 => ?_)
  · have c_13 : ¬ x6 = 0 := of_decide_eq_true c_13
    exact J_26 
  · have c_13 : ¬ (¬ x6 = 0) := of_decide_eq_false c_13
    refine ml_blk 2 (S' := (20, [(0, .ref a), (1, .ref me)], [.int 1280, .ref me], M)) rfl ?_
    refine ml_call (a := [.ref me, .int 1280]) (rest := []) rfl (okc_t rfl rfl rfl hS.1.1 hY6 (by decide)) rfl rfl (tw_Me_has hS.1.1 hY6 (by omega)) (fun v34 M35 h36 => ?_)
    obtain ⟨⟨u37, rfl, z38⟩, h36⟩ := h36
    rw [h36]
    show ml _ _ _ (23, [(0, .ref a), (1, .ref me)], [.int u37], M) _
    refine ml_if (S1 := (30, [(0, .ref a), (1, .ref me)], [], M)) (S2 := (26, [(0, .ref a), (1, .ref me)], [], M)) rfl rfl rfl (fun c_23 => ?_) (fun c_23 => ?_)
    · have c_23 : ¬ u37 = 0 := of_decide_eq_true c_23
      refine ml_st (S' := (31, [(0, .ref a), (1, .ref me)], [.int 0], M)) rfl rfl rfl ?_
      exact J_31 0
    · have c_23 : ¬ (¬ u37 = 0) := of_decide_eq_false c_23
      exact J_26 
end
section
/-! weak contracts: attributes (laid by wip/p2/c43.py) -/
set_option maxHeartbeats 2000000 in
theorem tw_At_behind {g : xe_G} {M : mi_H} {Y : yT} {a c b p vd da n : Nat} {pp : List Nat} {x1 : Int32}  (hW : WF g Y M) (hY0 : Y.1 a = some (0, [c, b, p, vd])) (hY1 : Y.1 c = some (3, [b, da, n])) (hY2 : Y.1 b = some (1, [da, n])) (hY3 : Y.1 p = some (7, pp)) (hY4 : Y.1 vd = some (10, [])) {d : Nat} (hd : 2 ≤ d) : mt (mT g) d 23 [.ref a, .int x1] M (pI M) := by
  obtain ⟨d, rfl⟩ : ∃ e, d = e + 1 := ⟨d - 1, by omega⟩
  have hS : st g Y M M := st.rf hW
  refine mt_in (b := mb_23 g) rfl rfl ?_
  show ml (mT g) d (mb_23 g).2 (0, [(0, .ref a), (1, .int x1)], [], M) _
  refine ml_blk 3 (S' := (4, [(0, .ref a), (1, .int x1)], [.int (x1 + 6)], M)) rfl ?_
  refine ml_st (S' := (5, [(0, .ref a), (1, .int x1)], [.ref a, .int (x1 + 6)], M)) rfl rfl rfl ?_
  refine tg_ref (S' := (8, [(0, .ref a), (1, .int x1)], [.ref b, .int (x1 + 6)], M)) rfl hS.1 hY0 (by decide) rfl rfl ?_
  refine ml_blk 3 (S' := (11, [(0, .ref a), (1, .int x1)], [.int (x1 + 2), .ref b, .int (x1 + 6)], M)) rfl ?_
  refine ml_call (a := [.ref b, .int (x1 + 2)]) (rest := [.int (x1 + 6)]) rfl (okc_t rfl rfl rfl hS.1 hY2 (by decide)) rfl rfl (tq_u4 hS.1 hY2 (by omega)) (fun v1 M2 h3 => ?_)
  obtain ⟨⟨u4, rfl⟩, h3⟩ := h3
  rw [h3]
  show ml _ _ _ (14, [(0, .ref a), (1, .int x1)], [.int u4, .int (x1 + 6)], M) _
  refine ml_st (S' := (15, [(0, .ref a), (1, .int x1)], [.int ((x1 + 6) + u4)], M)) rfl rfl rfl ?_
  exact ml_ret rfl (rfl) (⟨⟨_, rfl⟩, rfl⟩)
set_option maxHeartbeats 2000000 in
theorem tw_At_methodKind {g : xe_G} {M : mi_H} {Y : yT} {a c b p vd da n : Nat} {pp : List Nat} {x1 : Int32}  (hW : WF g Y M) (hY0 : Y.1 a = some (0, [c, b, p, vd])) (hY1 : Y.1 c = some (3, [b, da, n])) (hY2 : Y.1 b = some (1, [da, n])) (hY3 : Y.1 p = some (7, pp)) (hY4 : Y.1 vd = some (10, [])) {d : Nat} (hd : 3 ≤ d) : mt (mT g) d 37 [.ref a, .int x1] M (pI M) := by
  obtain ⟨d, rfl⟩ : ∃ e, d = e + 1 := ⟨d - 1, by omega⟩
  have hS : st g Y M M := st.rf hW
  refine mt_in (b := mb_37 g) rfl rfl ?_
  show ml (mT g) d (mb_37 g).2 (0, [(0, .ref a), (1, .int x1)], [], M) _
  refine ml_st (S' := (1, [(0, .ref a), (1, .int x1)], [.ref a], M)) rfl rfl rfl ?_
  refine tg_ref (S' := (4, [(0, .ref a), (1, .int x1)], [.ref p], M)) rfl hS.1 hY0 (by decide) rfl rfl ?_
  refine ml_blk 2 (S' := (7, [(0, .ref a), (1, .int x1)], [.ref (g.2.1 1), .int x1, .ref p], M)) rfl ?_
  refine ml_call (a := [.ref p, .int x1, .ref (g.2.1 1)]) (rest := []) rfl (okc_t rfl rfl rfl hS.1 hY3 (by decide)) rfl rfl (tq_textIs (lk := 1) hS.1 hY3 (by decide) (by omega)) (fun v1 M2 h3 => ?_)
  obtain ⟨⟨x4, rfl, z5⟩, h3⟩ := h3
  rw [h3]
  show ml _ _ _ (10, [(0, .ref a), (1, .int x1)], [.int x4], M) _
  refine ml_if (S1 := (15, [(0, .ref a), (1, .int x1)], [], M)) (S2 := (13, [(0, .ref a), (1, .int x1)], [], M)) rfl rfl rfl (fun c_10 => ?_) (fun c_10 => ?_)
  · have c_10 : x4 = 0 := of_decide_eq_true c_10
    refine ml_st (S' := (16, [(0, .ref a), (1, .int x1)], [.ref a], M)) rfl rfl rfl ?_
    refine tg_ref (S' := (19, [(0, .ref a), (1, .int x1)], [.ref p], M)) rfl hS.1 hY0 (by decide) rfl rfl ?_
    refine ml_blk 2 (S' := (22, [(0, .ref a), (1, .int x1)], [.ref (g.2.1 2), .int x1, .ref p], M)) rfl ?_
    refine ml_call (a := [.ref p, .int x1, .ref (g.2.1 2)]) (rest := []) rfl (okc_t rfl rfl rfl hS.1 hY3 (by decide)) rfl rfl (tq_textIs (lk := 2) hS.1 hY3 (by decide) (by omega)) (fun v6 M7 h8 => ?_)
    obtain ⟨⟨x9, rfl, z10⟩, h8⟩ := h8
    rw [h8]
    show ml _ _ _ (25, [(0, .ref a), (1, .int x1)], [.int x9], M) _
    refine ml_if (S1 := (32, [(0, .ref a), (1, .int x1)], [], M)) (S2 := (28, [(0, .ref a), (1, .int x1)], [], M)) rfl rfl rfl (fun c_25 => ?_) (fun c_25 => ?_)
    · have c_25 : x9 = 0 := of_decide_eq_true c_25
      refine ml_st (S' := (33, [], [.int 0], M)) rfl rfl rfl ?_
      exact ml_ret rfl (rfl) (⟨⟨_, rfl⟩, rfl⟩)
    · have c_25 : ¬ (x9 = 0) := of_decide_eq_false c_25
      refine ml_st (S' := (29, [(0, .ref a), (1, .int x1)], [.int 3], M)) rfl rfl rfl ?_
      refine ml_st (S' := (33, [], [.int 3], M)) rfl rfl rfl ?_
      exact ml_ret rfl (rfl) (⟨⟨_, rfl⟩, rfl⟩)
  · have c_10 : ¬ (x4 = 0) := of_decide_eq_false c_10
    refine ml_st (S' := (14, [(0, .ref a), (1, .int x1)], [.int 2], M)) rfl rfl rfl ?_
    exact ml_ret rfl (rfl) (⟨⟨_, rfl⟩, rfl⟩)
set_option maxHeartbeats 2000000 in
theorem tw_At_classKind {g : xe_G} {M : mi_H} {Y : yT} {a c b p vd da n : Nat} {pp : List Nat} {x1 : Int32}  (hW : WF g Y M) (hY0 : Y.1 a = some (0, [c, b, p, vd])) (hY1 : Y.1 c = some (3, [b, da, n])) (hY2 : Y.1 b = some (1, [da, n])) (hY3 : Y.1 p = some (7, pp)) (hY4 : Y.1 vd = some (10, [])) {d : Nat} (hd : 3 ≤ d) : mt (mT g) d 27 [.ref a, .int x1] M (pI M) := by
  obtain ⟨d, rfl⟩ : ∃ e, d = e + 1 := ⟨d - 1, by omega⟩
  have hS : st g Y M M := st.rf hW
  refine mt_in (b := mb_27 g) rfl rfl ?_
  show ml (mT g) d (mb_27 g).2 (0, [(0, .ref a), (1, .int x1)], [], M) _
  refine ml_st (S' := (1, [(0, .ref a), (1, .int x1)], [.ref a], M)) rfl rfl rfl ?_
  refine tg_ref (S' := (4, [(0, .ref a), (1, .int x1)], [.ref p], M)) rfl hS.1 hY0 (by decide) rfl rfl ?_
  refine ml_blk 2 (S' := (7, [(0, .ref a), (1, .int x1)], [.ref (g.2.1 3), .int x1, .ref p], M)) rfl ?_
  refine ml_call (a := [.ref p, .int x1, .ref (g.2.1 3)]) (rest := []) rfl (okc_t rfl rfl rfl hS.1 hY3 (by decide)) rfl rfl (tq_textIs (lk := 3) hS.1 hY3 (by decide) (by omega)) (fun v1 M2 h3 => ?_)
  obtain ⟨⟨x4, rfl, z5⟩, h3⟩ := h3
  rw [h3]
  show ml _ _ _ (10, [(0, .ref a), (1, .int x1)], [.int x4], M) _
  refine ml_if (S1 := (15, [(0, .ref a), (1, .int x1)], [], M)) (S2 := (13, [(0, .ref a), (1, .int x1)], [], M)) rfl rfl rfl (fun c_10 => ?_) (fun c_10 => ?_)
  · have c_10 : x4 = 0 := of_decide_eq_true c_10
    refine ml_st (S' := (16, [(0, .ref a), (1, .int x1)], [.ref a], M)) rfl rfl rfl ?_
    refine tg_ref (S' := (19, [(0, .ref a), (1, .int x1)], [.ref c], M)) rfl hS.1 hY0 (by decide) rfl rfl ?_
    refine tg_int rfl hS.1 hY1 (by decide) rfl (fun u6 g7 => ?_)
    show ml _ _ _ (22, [(0, .ref a), (1, .int x1)], [.int u6], M) _
    refine ml_st (S' := (24, [(0, .ref a), (1, .int x1)], [.int 51, .int u6], M)) rfl rfl rfl ?_
    have J_43 : ml (mT g) d (mb_27 g).2 (43, [(0, .ref a), (1, .int x1)], [], M) (pI M) := by
      refine ml_st (S' := (44, [(0, .ref a), (1, .int x1)], [.ref a], M)) rfl rfl rfl ?_
      refine tg_ref (S' := (47, [(0, .ref a), (1, .int x1)], [.ref c], M)) rfl hS.1 hY0 (by decide) rfl rfl ?_
      refine ml_get (S' := (50, [(0, .ref a), (1, .int x1)], [.int u6], M)) rfl g7 rfl ?_
      refine ml_st (S' := (52, [(0, .ref a), (1, .int x1)], [.int 55, .int u6], M)) rfl rfl rfl ?_
      have J_71 : ml (mT g) d (mb_27 g).2 (71, [(0, .ref a), (1, .int x1)], [], M) (pI M) := by
        refine ml_st (S' := (72, [(0, .ref a), (1, .int x1)], [.ref a], M)) rfl rfl rfl ?_
        refine tg_ref (S' := (75, [(0, .ref a), (1, .int x1)], [.ref c], M)) rfl hS.1 hY0 (by decide) rfl rfl ?_
        refine ml_get (S' := (78, [(0, .ref a), (1, .int x1)], [.int u6], M)) rfl g7 rfl ?_
        refine ml_st (S' := (80, [(0, .ref a), (1, .int x1)], [.int 55, .int u6], M)) rfl rfl rfl ?_
        have J_99 : ml (mT g) d (mb_27 g).2 (99, [(0, .ref a), (1, .int x1)], [], M) (pI M) := by
          refine ml_st (S' := (100, [(0, .ref a), (1, .int x1)], [.ref a], M)) rfl rfl rfl ?_
          refine tg_ref (S' := (103, [(0, .ref a), (1, .int x1)], [.ref c], M)) rfl hS.1 hY0 (by decide) rfl rfl ?_
          refine ml_get (S' := (106, [(0, .ref a), (1, .int x1)], [.int u6], M)) rfl g7 rfl ?_
          refine ml_st (S' := (108, [(0, .ref a), (1, .int x1)], [.int 60, .int u6], M)) rfl rfl rfl ?_
          have J_127 : ml (mT g) d (mb_27 g).2 (127, [(0, .ref a), (1, .int x1)], [], M) (pI M) := by
            refine ml_st (S' := (128, [(0, .ref a), (1, .int x1)], [.ref a], M)) rfl rfl rfl ?_
            refine tg_ref (S' := (131, [(0, .ref a), (1, .int x1)], [.ref c], M)) rfl hS.1 hY0 (by decide) rfl rfl ?_
            refine ml_get (S' := (134, [(0, .ref a), (1, .int x1)], [.int u6], M)) rfl g7 rfl ?_
            refine ml_st (S' := (136, [(0, .ref a), (1, .int x1)], [.int 61, .int u6], M)) rfl rfl rfl ?_
            refine ml_if2 (S1 := (155, [], [], M)) (S2 := (139, [(0, .ref a), (1, .int x1)], [], M)) rfl rfl rfl (fun c_136 => ?_) (fun c_136 => ?_)
            · have c_136 : u6 < 61 := of_decide_eq_true c_136
              refine ml_st (S' := (156, [], [.int 0], M)) rfl rfl rfl ?_
              exact ml_ret rfl (rfl) (⟨⟨_, rfl⟩, rfl⟩)
            · have c_136 : ¬ (u6 < 61) := of_decide_eq_false c_136
              refine ml_st (S' := (140, [(0, .ref a), (1, .int x1)], [.ref a], M)) rfl rfl rfl ?_
              refine tg_ref (S' := (143, [(0, .ref a), (1, .int x1)], [.ref p], M)) rfl hS.1 hY0 (by decide) rfl rfl ?_
              refine ml_blk 2 (S' := (146, [(0, .ref a), (1, .int x1)], [.ref (g.2.1 8), .int x1, .ref p], M)) rfl ?_
              refine ml_call (a := [.ref p, .int x1, .ref (g.2.1 8)]) (rest := []) rfl (okc_t rfl rfl rfl hS.1 hY3 (by decide)) rfl rfl (tq_textIs (lk := 8) hS.1 hY3 (by decide) (by omega)) (fun v8 M9 h10 => ?_)
              obtain ⟨⟨x11, rfl, z12⟩, h10⟩ := h10
              rw [h10]
              show ml _ _ _ (149, [(0, .ref a), (1, .int x1)], [.int x11], M) _
              refine ml_if (S1 := (155, [], [], M)) (S2 := (152, [(0, .ref a), (1, .int x1)], [], M)) rfl rfl rfl (fun c_149 => ?_) (fun c_149 => ?_)
              · have c_149 : x11 = 0 := of_decide_eq_true c_149
                refine ml_st (S' := (156, [], [.int 0], M)) rfl rfl rfl ?_
                exact ml_ret rfl (rfl) (⟨⟨_, rfl⟩, rfl⟩)
              · have c_149 : ¬ (x11 = 0) := of_decide_eq_false c_149
                refine ml_st (S' := (154, [(0, .ref a), (1, .int x1)], [.int 10], M)) rfl rfl rfl ?_
                exact ml_ret rfl (rfl) (⟨⟨_, rfl⟩, rfl⟩)
          refine ml_if2 (S1 := (127, [(0, .ref a), (1, .int x1)], [], M)) (S2 := (111, [(0, .ref a), (1, .int x1)], [], M)) rfl rfl rfl (fun c_108 => ?_) (fun c_108 => ?_)
          · have c_108 : u6 < 60 := of_decide_eq_true c_108
            exact J_127 
          · have c_108 : ¬ (u6 < 60) := of_decide_eq_false c_108
            refine ml_st (S' := (112, [(0, .ref a), (1, .int x1)], [.ref a], M)) rfl rfl rfl ?_
            refine tg_ref (S' := (115, [(0, .ref a), (1, .int x1)], [.ref p], M)) rfl hS.1 hY0 (by decide) rfl rfl ?_
            refine ml_blk 2 (S' := (118, [(0, .ref a), (1, .int x1)], [.ref (g.2.1 7), .int x1, .ref p], M)) rfl ?_
            refine ml_call (a := [.ref p, .int x1, .ref (g.2.1 7)]) (rest := []) rfl (okc_t rfl rfl rfl hS.1 hY3 (by decide)) rfl rfl (tq_textIs (lk := 7) hS.1 hY3 (by decide) (by omega)) (fun v13 M14 h15 => ?_)
            obtain ⟨⟨x16, rfl, z17⟩, h15⟩ := h15
            rw [h15]
            show ml _ _ _ (121, [(0, .ref a), (1, .int x1)], [.int x16], M) _
            refine ml_if (S1 := (127, [(0, .ref a), (1, .int x1)], [], M)) (S2 := (124, [(0, .ref a), (1, .int x1)], [], M)) rfl rfl rfl (fun c_121 => ?_) (fun c_121 => ?_)
            · have c_121 : x16 = 0 := of_decide_eq_true c_121
              exact J_127 
            · have c_121 : ¬ (x16 = 0) := of_decide_eq_false c_121
              refine ml_st (S' := (126, [(0, .ref a), (1, .int x1)], [.int 9], M)) rfl rfl rfl ?_
              exact ml_ret rfl (rfl) (⟨⟨_, rfl⟩, rfl⟩)
        refine ml_if2 (S1 := (99, [(0, .ref a), (1, .int x1)], [], M)) (S2 := (83, [(0, .ref a), (1, .int x1)], [], M)) rfl rfl rfl (fun c_80 => ?_) (fun c_80 => ?_)
        · have c_80 : u6 < 55 := of_decide_eq_true c_80
          exact J_99 
        · have c_80 : ¬ (u6 < 55) := of_decide_eq_false c_80
          refine ml_st (S' := (84, [(0, .ref a), (1, .int x1)], [.ref a], M)) rfl rfl rfl ?_
          refine tg_ref (S' := (87, [(0, .ref a), (1, .int x1)], [.ref p], M)) rfl hS.1 hY0 (by decide) rfl rfl ?_
          refine ml_blk 2 (S' := (90, [(0, .ref a), (1, .int x1)], [.ref (g.2.1 6), .int x1, .ref p], M)) rfl ?_
          refine ml_call (a := [.ref p, .int x1, .ref (g.2.1 6)]) (rest := []) rfl (okc_t rfl rfl rfl hS.1 hY3 (by decide)) rfl rfl (tq_textIs (lk := 6) hS.1 hY3 (by decide) (by omega)) (fun v18 M19 h20 => ?_)
          obtain ⟨⟨x21, rfl, z22⟩, h20⟩ := h20
          rw [h20]
          show ml _ _ _ (93, [(0, .ref a), (1, .int x1)], [.int x21], M) _
          refine ml_if (S1 := (99, [(0, .ref a), (1, .int x1)], [], M)) (S2 := (96, [(0, .ref a), (1, .int x1)], [], M)) rfl rfl rfl (fun c_93 => ?_) (fun c_93 => ?_)
          · have c_93 : x21 = 0 := of_decide_eq_true c_93
            exact J_99 
          · have c_93 : ¬ (x21 = 0) := of_decide_eq_false c_93
            refine ml_st (S' := (98, [(0, .ref a), (1, .int x1)], [.int 8], M)) rfl rfl rfl ?_
            exact ml_ret rfl (rfl) (⟨⟨_, rfl⟩, rfl⟩)
      refine ml_if2 (S1 := (71, [(0, .ref a), (1, .int x1)], [], M)) (S2 := (55, [(0, .ref a), (1, .int x1)], [], M)) rfl rfl rfl (fun c_52 => ?_) (fun c_52 => ?_)
      · have c_52 : u6 < 55 := of_decide_eq_true c_52
        exact J_71 
      · have c_52 : ¬ (u6 < 55) := of_decide_eq_false c_52
        refine ml_st (S' := (56, [(0, .ref a), (1, .int x1)], [.ref a], M)) rfl rfl rfl ?_
        refine tg_ref (S' := (59, [(0, .ref a), (1, .int x1)], [.ref p], M)) rfl hS.1 hY0 (by decide) rfl rfl ?_
        refine ml_blk 2 (S' := (62, [(0, .ref a), (1, .int x1)], [.ref (g.2.1 5), .int x1, .ref p], M)) rfl ?_
        refine ml_call (a := [.ref p, .int x1, .ref (g.2.1 5)]) (rest := []) rfl (okc_t rfl rfl rfl hS.1 hY3 (by decide)) rfl rfl (tq_textIs (lk := 5) hS.1 hY3 (by decide) (by omega)) (fun v23 M24 h25 => ?_)
        obtain ⟨⟨x26, rfl, z27⟩, h25⟩ := h25
        rw [h25]
        show ml _ _ _ (65, [(0, .ref a), (1, .int x1)], [.int x26], M) _
        refine ml_if (S1 := (71, [(0, .ref a), (1, .int x1)], [], M)) (S2 := (68, [(0, .ref a), (1, .int x1)], [], M)) rfl rfl rfl (fun c_65 => ?_) (fun c_65 => ?_)
        · have c_65 : x26 = 0 := of_decide_eq_true c_65
          exact J_71 
        · have c_65 : ¬ (x26 = 0) := of_decide_eq_false c_65
          refine ml_st (S' := (70, [(0, .ref a), (1, .int x1)], [.int 7], M)) rfl rfl rfl ?_
          exact ml_ret rfl (rfl) (⟨⟨_, rfl⟩, rfl⟩)
    refine ml_if2 (S1 := (43, [(0, .ref a), (1, .int x1)], [], M)) (S2 := (27, [(0, .ref a), (1, .int x1)], [], M)) rfl rfl rfl (fun c_24 => ?_) (fun c_24 => ?_)
    · have c_24 : u6 < 51 := of_decide_eq_true c_24
      exact J_43 
    · have c_24 : ¬ (u6 < 51) := of_decide_eq_false c_24
      refine ml_st (S' := (28, [(0, .ref a), (1, .int x1)], [.ref a], M)) rfl rfl rfl ?_
      refine tg_ref (S' := (31, [(0, .ref a), (1, .int x1)], [.ref p], M)) rfl hS.1 hY0 (by decide) rfl rfl ?_
      refine ml_blk 2 (S' := (34, [(0, .ref a), (1, .int x1)], [.ref (g.2.1 4), .int x1, .ref p], M)) rfl ?_
      refine ml_call (a := [.ref p, .int x1, .ref (g.2.1 4)]) (rest := []) rfl (okc_t rfl rfl rfl hS.1 hY3 (by decide)) rfl rfl (tq_textIs (lk := 4) hS.1 hY3 (by decide) (by omega)) (fun v28 M29 h30 => ?_)
      obtain ⟨⟨x31, rfl, z32⟩, h30⟩ := h30
      rw [h30]
      show ml _ _ _ (37, [(0, .ref a), (1, .int x1)], [.int x31], M) _
      refine ml_if (S1 := (43, [(0, .ref a), (1, .int x1)], [], M)) (S2 := (40, [(0, .ref a), (1, .int x1)], [], M)) rfl rfl rfl (fun c_37 => ?_) (fun c_37 => ?_)
      · have c_37 : x31 = 0 := of_decide_eq_true c_37
        exact J_43 
      · have c_37 : ¬ (x31 = 0) := of_decide_eq_false c_37
        refine ml_st (S' := (42, [(0, .ref a), (1, .int x1)], [.int 6], M)) rfl rfl rfl ?_
        exact ml_ret rfl (rfl) (⟨⟨_, rfl⟩, rfl⟩)
  · have c_10 : ¬ (x4 = 0) := of_decide_eq_false c_10
    refine ml_st (S' := (14, [(0, .ref a), (1, .int x1)], [.int 5], M)) rfl rfl rfl ?_
    exact ml_ret rfl (rfl) (⟨⟨_, rfl⟩, rfl⟩)
set_option maxHeartbeats 2000000 in
theorem tw_At_hasSeen {g : xe_G} {M : mi_H} {Y : yT} {a c b p vd da n : Nat} {pp : List Nat} {x1 : Int32}  (hW : WF g Y M) (hY0 : Y.1 a = some (0, [c, b, p, vd])) (hY1 : Y.1 c = some (3, [b, da, n])) (hY2 : Y.1 b = some (1, [da, n])) (hY3 : Y.1 p = some (7, pp)) (hY4 : Y.1 vd = some (10, [])) {d : Nat} (hd : 1 ≤ d) : mt (mT g) d 33 [.ref a, .int x1] M (pZ M) := by
  obtain ⟨d, rfl⟩ : ∃ e, d = e + 1 := ⟨d - 1, by omega⟩
  have hS : st g Y M M := st.rf hW
  refine mt_in (b := mb_33 g) rfl rfl ?_
  show ml (mT g) d (mb_33 g).2 (0, [(0, .ref a), (1, .int x1)], [], M) _
  refine ml_st (S' := (1, [(0, .ref a), (1, .int x1)], [.ref a], M)) rfl rfl rfl ?_
  refine tg_int rfl hS.1 hY0 (by decide) rfl (fun u1 g2 => ?_)
  show ml _ _ _ (4, [(0, .ref a), (1, .int x1)], [.int u1], M) _
  refine ml_blk 3 (S' := (7, [(0, .ref a), (1, .int x1)], [.int 1, .int (u1 >>> (x1 &&& 31))], M)) rfl ?_
  refine ml_st (S' := (8, [(0, .ref a), (1, .int x1)], [.int ((u1 >>> (x1 &&& 31)) &&& 1)], M)) rfl rfl rfl ?_
  refine ml_if (S1 := (15, [(0, .ref a), (1, .int x1)], [], M)) (S2 := (11, [(0, .ref a), (1, .int x1)], [], M)) rfl rfl rfl (fun c_8 => ?_) (fun c_8 => ?_)
  · have c_8 : ((u1 >>> (x1 &&& 31)) &&& 1) = 0 := of_decide_eq_true c_8
    refine ml_st (S' := (16, [], [.int 0], M)) rfl rfl rfl ?_
    exact ml_ret rfl (r_z (Or.inl rfl)) (⟨⟨_, rfl, Or.inl rfl⟩, rfl⟩)
  · have c_8 : ¬ (((u1 >>> (x1 &&& 31)) &&& 1) = 0) := of_decide_eq_false c_8
    refine ml_st (S' := (12, [(0, .ref a), (1, .int x1)], [.int 1], M)) rfl rfl rfl ?_
    refine ml_st (S' := (16, [], [.int 1], M)) rfl rfl rfl ?_
    exact ml_ret rfl (r_z (Or.inr rfl)) (⟨⟨_, rfl, Or.inr rfl⟩, rfl⟩)
set_option maxHeartbeats 2000000 in
theorem tw_At_bootstrapsEnd {g : xe_G} {M : mi_H} {Y : yT} {a c b p vd da n : Nat} {pp : List Nat} {x1 x2 : Int32}  (hW : WF g Y M) (hY0 : Y.1 a = some (0, [c, b, p, vd])) (hY1 : Y.1 c = some (3, [b, da, n])) (hY2 : Y.1 b = some (1, [da, n])) (hY3 : Y.1 p = some (7, pp)) (hY4 : Y.1 vd = some (10, [])) {d : Nat} (hd : 2 ≤ d) : mt (mT g) d 24 [.ref a, .int x1, .int x2] M (pI M) := by
  obtain ⟨d, rfl⟩ : ∃ e, d = e + 1 := ⟨d - 1, by omega⟩
  have hS : st g Y M M := st.rf hW
  refine mt_in (b := mb_24 g) rfl rfl ?_
  show ml (mT g) d (mb_24 g).2 (0, [(0, .ref a), (1, .int x1), (2, .int x2)], [], M) _
  refine ml_st (S' := (1, [(0, .ref a), (1, .int x1), (2, .int x2)], [.ref a], M)) rfl rfl rfl ?_
  refine tg_ref (S' := (4, [(0, .ref a), (1, .int x1), (2, .int x2)], [.ref b], M)) rfl hS.1 hY0 (by decide) rfl rfl ?_
  refine ml_st (S' := (5, [(0, .ref a), (1, .int x1), (2, .int x2)], [.int x1, .ref b], M)) rfl rfl rfl ?_
  refine ml_call (a := [.ref b, .int x1]) (rest := []) rfl (okc_t rfl rfl rfl hS.1 hY2 (by decide)) rfl rfl (tq_u2 hS.1 hY2 (by omega)) (fun v1 M2 h3 => ?_)
  obtain ⟨⟨u4, rfl⟩, h3⟩ := h3
  rw [h3]
  show ml _ _ _ (8, [(0, .ref a), (1, .int x1), (2, .int x2)], [.int u4], M) _
  refine ml_st (S' := (9, [(3, .int u4), (0, .ref a), (1, .int x1), (2, .int x2)], [], M)) rfl rfl rfl ?_
  refine ml_blk 3 (S' := (12, [(3, .int u4), (0, .ref a), (1, .int x1), (2, .int x2)], [.int (x1 + 2)], M)) rfl ?_
  refine ml_st (S' := (14, [(4, .int (x1 + 2)), (3, .int u4), (0, .ref a), (1, .int x1), (2, .int x2)], [], M)) rfl rfl rfl ?_
  refine ml_st (S' := (15, [(4, .int (x1 + 2)), (3, .int u4), (0, .ref a), (1, .int x1), (2, .int x2)], [.int 0], M)) rfl rfl rfl ?_
  refine ml_st (S' := (17, [(0, .ref a), (2, .int x2), (3, .int u4), (4, .int (x1 + 2)), (5, .int 0)], [], M)) rfl rfl rfl ?_
  have L_17 : ∀ (n_17 : Nat) (i17_4 : Int32) (i17_5 : Int32), (2147483648 - i17_5.toInt).toNat ≤ n_17 → ml (mT g) d (mb_24 g).2 (17, [(0, .ref a), (2, .int x2), (3, .int u4), (4, .int i17_4), (5, .int i17_5)], [], M) (pI M) := by
    intro n_17
    induction n_17 with
    | zero => intro i17_4 i17_5 hn; exact (loop_zero hn).elim
    | succ n_17 ih_17 =>
      intro i17_4 i17_5 hn_17
      refine ml_blk 2 (S' := (20, [(0, .ref a), (2, .int x2), (3, .int u4), (4, .int i17_4), (5, .int i17_5)], [.int u4, .int i17_5], M)) rfl ?_
      refine ml_if2 (S1 := (59, [(0, .ref a), (2, .int x2), (3, .int u4), (4, .int i17_4), (5, .int i17_5)], [], M)) (S2 := (23, [(0, .ref a), (2, .int x2), (3, .int u4), (4, .int i17_4), (5, .int i17_5)], [], M)) rfl rfl rfl (fun c_20 => ?_) (fun c_20 => ?_)
      · have c_20 : u4 ≤ i17_5 := of_decide_eq_true c_20
        refine ml_st (S' := (61, [(0, .ref a), (2, .int x2), (3, .int u4), (4, .int i17_4), (5, .int i17_5)], [.int i17_4], M)) rfl rfl rfl ?_
        exact ml_ret rfl (rfl) (⟨⟨_, rfl⟩, rfl⟩)
      · have c_20 : ¬ (u4 ≤ i17_5) := of_decide_eq_false c_20
        refine ml_blk 3 (S' := (27, [(0, .ref a), (2, .int x2), (3, .int u4), (4, .int i17_4), (5, .int i17_5)], [.int (x2 - i17_4)], M)) rfl ?_
        refine ml_st (S' := (28, [(0, .ref a), (2, .int x2), (3, .int u4), (4, .int i17_4), (5, .int i17_5)], [.int 4, .int (x2 - i17_4)], M)) rfl rfl rfl ?_
        refine ml_if2 (S1 := (33, [(0, .ref a), (2, .int x2), (3, .int u4), (4, .int i17_4), (5, .int i17_5)], [], M)) (S2 := (31, [(0, .ref a), (2, .int x2), (3, .int u4), (4, .int i17_4), (5, .int i17_5)], [], M)) rfl rfl rfl (fun c_28 => ?_) (fun c_28 => ?_)
        · have c_28 : 4 ≤ (x2 - i17_4) := of_decide_eq_true c_28
          refine ml_blk 3 (S' := (37, [(0, .ref a), (2, .int x2), (3, .int u4), (4, .int i17_4), (5, .int i17_5)], [.int 2, .int 4, .int i17_4], M)) rfl ?_
          refine ml_st (S' := (38, [(0, .ref a), (2, .int x2), (3, .int u4), (4, .int i17_4), (5, .int i17_5)], [.ref a, .int 2, .int 4, .int i17_4], M)) rfl rfl rfl ?_
          refine tg_ref (S' := (41, [(0, .ref a), (2, .int x2), (3, .int u4), (4, .int i17_4), (5, .int i17_5)], [.ref b, .int 2, .int 4, .int i17_4], M)) rfl hS.1 hY0 (by decide) rfl rfl ?_
          refine ml_blk 3 (S' := (45, [(0, .ref a), (2, .int x2), (3, .int u4), (4, .int i17_4), (5, .int i17_5)], [.int (i17_4 + 2), .ref b, .int 2, .int 4, .int i17_4], M)) rfl ?_
          refine ml_call (a := [.ref b, .int (i17_4 + 2)]) (rest := [.int 2, .int 4, .int i17_4]) rfl (okc_t rfl rfl rfl hS.1 hY2 (by decide)) rfl rfl (tq_u2 hS.1 hY2 (by omega)) (fun v5 M6 h7 => ?_)
          obtain ⟨⟨u8, rfl⟩, h7⟩ := h7
          rw [h7]
          show ml _ _ _ (48, [(0, .ref a), (2, .int x2), (3, .int u4), (4, .int i17_4), (5, .int i17_5)], [.int u8, .int 2, .int 4, .int i17_4], M) _
          refine ml_blk 3 (S' := (51, [(0, .ref a), (2, .int x2), (3, .int u4), (4, .int i17_4), (5, .int i17_5)], [.int (i17_4 + (4 + (2 * u8)))], M)) rfl ?_
          refine ml_st (S' := (53, [(4, .int (i17_4 + (4 + (2 * u8)))), (0, .ref a), (2, .int x2), (3, .int u4), (5, .int i17_5)], [], M)) rfl rfl rfl ?_
          refine ml_st (S' := (56, [(5, .int (i17_5 + 1)), (4, .int (i17_4 + (4 + (2 * u8)))), (0, .ref a), (2, .int x2), (3, .int u4)], [], M)) rfl rfl rfl ?_
          refine ml_st (S' := (17, [(0, .ref a), (2, .int x2), (3, .int u4), (4, .int (i17_4 + (4 + (2 * u8)))), (5, .int (i17_5 + 1))], [], M)) rfl rfl rfl ?_
          exact ih_17 (i17_4 + (4 + (2 * u8))) (i17_5 + 1) (loop_inc (Int32.not_le.mp c_20) hn_17) 
        · have c_28 : ¬ (4 ≤ (x2 - i17_4)) := of_decide_eq_false c_28
          refine ml_st (S' := (32, [(0, .ref a), (2, .int x2), (3, .int u4), (4, .int i17_4), (5, .int i17_5)], [.int (-1)], M)) rfl rfl rfl ?_
          exact ml_ret rfl (rfl) (⟨⟨_, rfl⟩, rfl⟩)
  exact L_17 _ (x1 + 2) 0 (Nat.le_refl _) 
set_option maxHeartbeats 2000000 in
theorem tw_At_recordEnd {g : xe_G} {M : mi_H} {Y : yT} {a c b p vd da n : Nat} {pp : List Nat} {x1 x2 : Int32}  (hW : WF g Y M) (hY0 : Y.1 a = some (0, [c, b, p, vd])) (hY1 : Y.1 c = some (3, [b, da, n])) (hY2 : Y.1 b = some (1, [da, n])) (hY3 : Y.1 p = some (7, pp)) (hY4 : Y.1 vd = some (10, [])) {d : Nat} (hd : 3 ≤ d) : mt (mT g) d 41 [.ref a, .int x1, .int x2] M (pI M) := by
  obtain ⟨d, rfl⟩ : ∃ e, d = e + 1 := ⟨d - 1, by omega⟩
  have hS : st g Y M M := st.rf hW
  refine mt_in (b := mb_41 g) rfl rfl ?_
  show ml (mT g) d (mb_41 g).2 (0, [(0, .ref a), (1, .int x1), (2, .int x2)], [], M) _
  refine ml_st (S' := (1, [(0, .ref a), (1, .int x1), (2, .int x2)], [.ref a], M)) rfl rfl rfl ?_
  refine tg_ref (S' := (4, [(0, .ref a), (1, .int x1), (2, .int x2)], [.ref b], M)) rfl hS.1 hY0 (by decide) rfl rfl ?_
  refine ml_st (S' := (5, [(0, .ref a), (1, .int x1), (2, .int x2)], [.int x1, .ref b], M)) rfl rfl rfl ?_
  refine ml_call (a := [.ref b, .int x1]) (rest := []) rfl (okc_t rfl rfl rfl hS.1 hY2 (by decide)) rfl rfl (tq_u2 hS.1 hY2 (by omega)) (fun v1 M2 h3 => ?_)
  obtain ⟨⟨u4, rfl⟩, h3⟩ := h3
  rw [h3]
  show ml _ _ _ (8, [(0, .ref a), (1, .int x1), (2, .int x2)], [.int u4], M) _
  refine ml_st (S' := (9, [(3, .int u4), (0, .ref a), (1, .int x1), (2, .int x2)], [], M)) rfl rfl rfl ?_
  refine ml_blk 3 (S' := (12, [(3, .int u4), (0, .ref a), (1, .int x1), (2, .int x2)], [.int (x1 + 2)], M)) rfl ?_
  refine ml_st (S' := (14, [(4, .int (x1 + 2)), (3, .int u4), (0, .ref a), (1, .int x1), (2, .int x2)], [], M)) rfl rfl rfl ?_
  refine ml_st (S' := (15, [(4, .int (x1 + 2)), (3, .int u4), (0, .ref a), (1, .int x1), (2, .int x2)], [.int 0], M)) rfl rfl rfl ?_
  refine ml_st (S' := (17, [(0, .ref a), (2, .int x2), (3, .int u4), (4, .int (x1 + 2)), (5, .int 0)], [], M)) rfl rfl rfl ?_
  have L_17 : ∀ (n_17 : Nat) (i17_4 : Int32) (i17_5 : Int32), (2147483648 - i17_5.toInt).toNat ≤ n_17 → ml (mT g) d (mb_41 g).2 (17, [(0, .ref a), (2, .int x2), (3, .int u4), (4, .int i17_4), (5, .int i17_5)], [], M) (pI M) := by
    intro n_17
    induction n_17 with
    | zero => intro i17_4 i17_5 hn; exact (loop_zero hn).elim
    | succ n_17 ih_17 =>
      intro i17_4 i17_5 hn_17
      refine ml_blk 2 (S' := (20, [(0, .ref a), (2, .int x2), (3, .int u4), (4, .int i17_4), (5, .int i17_5)], [.int u4, .int i17_5], M)) rfl ?_
      refine ml_if2 (S1 := (73, [(0, .ref a), (2, .int x2), (3, .int u4), (4, .int i17_4), (5, .int i17_5)], [], M)) (S2 := (23, [(0, .ref a), (2, .int x2), (3, .int u4), (4, .int i17_4), (5, .int i17_5)], [], M)) rfl rfl rfl (fun c_20 => ?_) (fun c_20 => ?_)
      · have c_20 : u4 ≤ i17_5 := of_decide_eq_true c_20
        refine ml_st (S' := (75, [(0, .ref a), (2, .int x2), (3, .int u4), (4, .int i17_4), (5, .int i17_5)], [.int i17_4], M)) rfl rfl rfl ?_
        exact ml_ret rfl (rfl) (⟨⟨_, rfl⟩, rfl⟩)
      · have c_20 : ¬ (u4 ≤ i17_5) := of_decide_eq_false c_20
        refine ml_blk 3 (S' := (27, [(0, .ref a), (2, .int x2), (3, .int u4), (4, .int i17_4), (5, .int i17_5)], [.int (x2 - i17_4)], M)) rfl ?_
        refine ml_st (S' := (29, [(0, .ref a), (2, .int x2), (3, .int u4), (4, .int i17_4), (5, .int i17_5)], [.int 6, .int (x2 - i17_4)], M)) rfl rfl rfl ?_
        refine ml_if2 (S1 := (34, [(0, .ref a), (2, .int x2), (3, .int u4), (4, .int i17_4), (5, .int i17_5)], [], M)) (S2 := (32, [(0, .ref a), (2, .int x2), (3, .int u4), (4, .int i17_4), (5, .int i17_5)], [], M)) rfl rfl rfl (fun c_29 => ?_) (fun c_29 => ?_)
        · have c_29 : 6 ≤ (x2 - i17_4) := of_decide_eq_true c_29
          refine ml_st (S' := (35, [(0, .ref a), (2, .int x2), (3, .int u4), (4, .int i17_4), (5, .int i17_5)], [.ref a], M)) rfl rfl rfl ?_
          refine tg_ref (S' := (38, [(0, .ref a), (2, .int x2), (3, .int u4), (4, .int i17_4), (5, .int i17_5)], [.ref b], M)) rfl hS.1 hY0 (by decide) rfl rfl ?_
          refine ml_blk 3 (S' := (43, [(0, .ref a), (2, .int x2), (3, .int u4), (4, .int i17_4), (5, .int i17_5)], [.int (i17_4 + 6), .ref b], M)) rfl ?_
          refine ml_st (S' := (44, [(0, .ref a), (2, .int x2), (3, .int u4), (4, .int i17_4), (5, .int i17_5)], [.ref a, .int (i17_4 + 6), .ref b], M)) rfl rfl rfl ?_
          refine tg_ref (S' := (47, [(0, .ref a), (2, .int x2), (3, .int u4), (4, .int i17_4), (5, .int i17_5)], [.ref b, .int (i17_4 + 6), .ref b], M)) rfl hS.1 hY0 (by decide) rfl rfl ?_
          refine ml_blk 3 (S' := (51, [(0, .ref a), (2, .int x2), (3, .int u4), (4, .int i17_4), (5, .int i17_5)], [.int (i17_4 + 4), .ref b, .int (i17_4 + 6), .ref b], M)) rfl ?_
          refine ml_call (a := [.ref b, .int (i17_4 + 4)]) (rest := [.int (i17_4 + 6), .ref b]) rfl (okc_t rfl rfl rfl hS.1 hY2 (by decide)) rfl rfl (tq_u2 hS.1 hY2 (by omega)) (fun v5 M6 h7 => ?_)
          obtain ⟨⟨u8, rfl⟩, h7⟩ := h7
          rw [h7]
          show ml _ _ _ (54, [(0, .ref a), (2, .int x2), (3, .int u4), (4, .int i17_4), (5, .int i17_5)], [.int u8, .int (i17_4 + 6), .ref b], M) _
          refine ml_st (S' := (55, [(0, .ref a), (2, .int x2), (3, .int u4), (4, .int i17_4), (5, .int i17_5)], [.int x2, .int u8, .int (i17_4 + 6), .ref b], M)) rfl rfl rfl ?_
          refine ml_call (a := [.ref b, .int (i17_4 + 6), .int u8, .int x2]) (rest := []) rfl (okc_t rfl rfl rfl hS.1 hY2 (by decide)) rfl rfl (tq_attributesEnd hS.1 hY2 (by omega)) (fun v9 M10 h11 => ?_)
          obtain ⟨⟨u12, rfl⟩, h11⟩ := h11
          rw [h11]
          show ml _ _ _ (58, [(0, .ref a), (2, .int x2), (3, .int u4), (4, .int i17_4), (5, .int i17_5)], [.int u12], M) _
          refine ml_st (S' := (60, [(4, .int u12), (0, .ref a), (2, .int x2), (3, .int u4), (5, .int i17_5)], [], M)) rfl rfl rfl ?_
          refine ml_st (S' := (62, [(4, .int u12), (0, .ref a), (2, .int x2), (3, .int u4), (5, .int i17_5)], [.int u12], M)) rfl rfl rfl ?_
          refine ml_if (S1 := (67, [(4, .int u12), (0, .ref a), (2, .int x2), (3, .int u4), (5, .int i17_5)], [], M)) (S2 := (65, [(4, .int u12), (0, .ref a), (2, .int x2), (3, .int u4), (5, .int i17_5)], [], M)) rfl rfl rfl (fun c_62 => ?_) (fun c_62 => ?_)
          · have c_62 : 0 ≤ u12 := of_decide_eq_true c_62
            refine ml_st (S' := (70, [(5, .int (i17_5 + 1)), (4, .int u12), (0, .ref a), (2, .int x2), (3, .int u4)], [], M)) rfl rfl rfl ?_
            refine ml_st (S' := (17, [(0, .ref a), (2, .int x2), (3, .int u4), (4, .int u12), (5, .int (i17_5 + 1))], [], M)) rfl rfl rfl ?_
            exact ih_17 u12 (i17_5 + 1) (loop_inc (Int32.not_le.mp c_20) hn_17) 
          · have c_62 : ¬ (0 ≤ u12) := of_decide_eq_false c_62
            refine ml_st (S' := (66, [(4, .int u12), (0, .ref a), (2, .int x2), (3, .int u4), (5, .int i17_5)], [.int (-1)], M)) rfl rfl rfl ?_
            exact ml_ret rfl (rfl) (⟨⟨_, rfl⟩, rfl⟩)
        · have c_29 : ¬ (6 ≤ (x2 - i17_4)) := of_decide_eq_false c_29
          refine ml_st (S' := (33, [(0, .ref a), (2, .int x2), (3, .int u4), (4, .int i17_4), (5, .int i17_5)], [.int (-1)], M)) rfl rfl rfl ?_
          exact ml_ret rfl (rfl) (⟨⟨_, rfl⟩, rfl⟩)
  exact L_17 _ (x1 + 2) 0 (Nat.le_refl _) 
set_option maxHeartbeats 2000000 in
theorem tw_At_codeEnd {g : xe_G} {M : mi_H} {Y : yT} {a c b p vd da n : Nat} {pp : List Nat} {x1 x2 : Int32}  (hW : WF g Y M) (hY0 : Y.1 a = some (0, [c, b, p, vd])) (hY1 : Y.1 c = some (3, [b, da, n])) (hY2 : Y.1 b = some (1, [da, n])) (hY3 : Y.1 p = some (7, pp)) (hY4 : Y.1 vd = some (10, [])) {d : Nat} (hd : 3 ≤ d) : mt (mT g) d 29 [.ref a, .int x1, .int x2] M (pI M) := by
  obtain ⟨d, rfl⟩ : ∃ e, d = e + 1 := ⟨d - 1, by omega⟩
  have hS : st g Y M M := st.rf hW
  refine mt_in (b := mb_29 g) rfl rfl ?_
  show ml (mT g) d (mb_29 g).2 (0, [(0, .ref a), (1, .int x1), (2, .int x2)], [], M) _
  refine ml_blk 3 (S' := (3, [(0, .ref a), (1, .int x1), (2, .int x2)], [.int (x2 - x1)], M)) rfl ?_
  refine ml_st (S' := (5, [(0, .ref a), (1, .int x1), (2, .int x2)], [.int 8, .int (x2 - x1)], M)) rfl rfl rfl ?_
  refine ml_if2 (S1 := (10, [(0, .ref a), (1, .int x1), (2, .int x2)], [], M)) (S2 := (8, [(0, .ref a), (1, .int x1), (2, .int x2)], [], M)) rfl rfl rfl (fun c_5 => ?_) (fun c_5 => ?_)
  · have c_5 : 8 ≤ (x2 - x1) := of_decide_eq_true c_5
    refine ml_st (S' := (11, [(0, .ref a), (1, .int x1), (2, .int x2)], [.ref a], M)) rfl rfl rfl ?_
    refine tg_ref (S' := (14, [(0, .ref a), (1, .int x1), (2, .int x2)], [.ref b], M)) rfl hS.1 hY0 (by decide) rfl rfl ?_
    refine ml_blk 3 (S' := (17, [(0, .ref a), (1, .int x1), (2, .int x2)], [.int (x1 + 4), .ref b], M)) rfl ?_
    refine ml_call (a := [.ref b, .int (x1 + 4)]) (rest := []) rfl (okc_t rfl rfl rfl hS.1 hY2 (by decide)) rfl rfl (tq_u4 hS.1 hY2 (by omega)) (fun v1 M2 h3 => ?_)
    obtain ⟨⟨u4, rfl⟩, h3⟩ := h3
    rw [h3]
    show ml _ _ _ (20, [(0, .ref a), (1, .int x1), (2, .int x2)], [.int u4], M) _
    refine ml_st (S' := (21, [(3, .int u4), (0, .ref a), (1, .int x1), (2, .int x2)], [], M)) rfl rfl rfl ?_
    refine ml_st (S' := (22, [(3, .int u4), (0, .ref a), (1, .int x1), (2, .int x2)], [.int u4], M)) rfl rfl rfl ?_
    refine ml_if (S1 := (35, [], [], M)) (S2 := (25, [(3, .int u4), (0, .ref a), (1, .int x1), (2, .int x2)], [], M)) rfl rfl rfl (fun c_22 => ?_) (fun c_22 => ?_)
    · have c_22 : u4 < 0 := of_decide_eq_true c_22
      refine ml_st (S' := (36, [], [.int (-1)], M)) rfl rfl rfl ?_
      exact ml_ret rfl (rfl) (⟨⟨_, rfl⟩, rfl⟩)
    · have c_22 : ¬ (u4 < 0) := of_decide_eq_false c_22
      refine ml_blk 3 (S' := (28, [(3, .int u4), (0, .ref a), (1, .int x1), (2, .int x2)], [.int x1, .int x2, .int u4], M)) rfl ?_
      refine ml_blk 3 (S' := (32, [(3, .int u4), (0, .ref a), (1, .int x1), (2, .int x2)], [.int ((x2 - x1) - 8), .int u4], M)) rfl ?_
      refine ml_if2 (S1 := (37, [(3, .int u4), (0, .ref a), (1, .int x1), (2, .int x2)], [], M)) (S2 := (35, [], [], M)) rfl rfl rfl (fun c_32 => ?_) (fun c_32 => ?_)
      · have c_32 : u4 ≤ ((x2 - x1) - 8) := of_decide_eq_true c_32
        refine ml_blk 3 (S' := (41, [(3, .int u4), (0, .ref a), (1, .int x1), (2, .int x2)], [.int (x1 + 8)], M)) rfl ?_
        refine ml_blk 2 (S' := (43, [(3, .int u4), (0, .ref a), (1, .int x1), (2, .int x2)], [.int ((x1 + 8) + u4)], M)) rfl ?_
        refine ml_st (S' := (45, [(4, .int ((x1 + 8) + u4)), (3, .int u4), (0, .ref a), (1, .int x1), (2, .int x2)], [], M)) rfl rfl rfl ?_
        refine ml_blk 3 (S' := (49, [(4, .int ((x1 + 8) + u4)), (3, .int u4), (0, .ref a), (1, .int x1), (2, .int x2)], [.int (x2 - ((x1 + 8) + u4))], M)) rfl ?_
        refine ml_st (S' := (50, [(4, .int ((x1 + 8) + u4)), (3, .int u4), (0, .ref a), (1, .int x1), (2, .int x2)], [.int 2, .int (x2 - ((x1 + 8) + u4))], M)) rfl rfl rfl ?_
        refine ml_if2 (S1 := (74, [], [], M)) (S2 := (53, [(4, .int ((x1 + 8) + u4)), (3, .int u4), (0, .ref a), (1, .int x1), (2, .int x2)], [], M)) rfl rfl rfl (fun c_50 => ?_) (fun c_50 => ?_)
        · have c_50 : (x2 - ((x1 + 8) + u4)) < 2 := of_decide_eq_true c_50
          refine ml_st (S' := (75, [], [.int (-1)], M)) rfl rfl rfl ?_
          exact ml_ret rfl (rfl) (⟨⟨_, rfl⟩, rfl⟩)
        · have c_50 : ¬ ((x2 - ((x1 + 8) + u4)) < 2) := of_decide_eq_false c_50
          refine ml_blk 3 (S' := (57, [(4, .int ((x1 + 8) + u4)), (3, .int u4), (0, .ref a), (1, .int x1), (2, .int x2)], [.int (x2 - ((x1 + 8) + u4))], M)) rfl ?_
          refine ml_blk 3 (S' := (61, [(4, .int ((x1 + 8) + u4)), (3, .int u4), (0, .ref a), (1, .int x1), (2, .int x2)], [.int 8, .int ((x2 - ((x1 + 8) + u4)) - 2)], M)) rfl ?_
          refine ml_st (S' := (62, [(4, .int ((x1 + 8) + u4)), (3, .int u4), (0, .ref a), (1, .int x1), (2, .int x2)], [.ref a, .int 8, .int ((x2 - ((x1 + 8) + u4)) - 2)], M)) rfl rfl rfl ?_
          refine tg_ref (S' := (65, [(4, .int ((x1 + 8) + u4)), (3, .int u4), (0, .ref a), (1, .int x1), (2, .int x2)], [.ref b, .int 8, .int ((x2 - ((x1 + 8) + u4)) - 2)], M)) rfl hS.1 hY0 (by decide) rfl rfl ?_
          refine ml_st (S' := (67, [(4, .int ((x1 + 8) + u4)), (3, .int u4), (0, .ref a), (1, .int x1), (2, .int x2)], [.int ((x1 + 8) + u4), .ref b, .int 8, .int ((x2 - ((x1 + 8) + u4)) - 2)], M)) rfl rfl rfl ?_
          refine ml_call (a := [.ref b, .int ((x1 + 8) + u4)]) (rest := [.int 8, .int ((x2 - ((x1 + 8) + u4)) - 2)]) rfl (okc_t rfl rfl rfl hS.1 hY2 (by decide)) rfl rfl (tq_u2 hS.1 hY2 (by omega)) (fun v5 M6 h7 => ?_)
          obtain ⟨⟨u8, rfl⟩, h7⟩ := h7
          rw [h7]
          show ml _ _ _ (70, [(4, .int ((x1 + 8) + u4)), (3, .int u4), (0, .ref a), (1, .int x1), (2, .int x2)], [.int u8, .int 8, .int ((x2 - ((x1 + 8) + u4)) - 2)], M) _
          refine ml_st (S' := (71, [(4, .int ((x1 + 8) + u4)), (3, .int u4), (0, .ref a), (1, .int x1), (2, .int x2)], [.int (8 * u8), .int ((x2 - ((x1 + 8) + u4)) - 2)], M)) rfl rfl rfl ?_
          refine ml_if2 (S1 := (76, [(4, .int ((x1 + 8) + u4)), (3, .int u4), (0, .ref a), (1, .int x1), (2, .int x2)], [], M)) (S2 := (74, [], [], M)) rfl rfl rfl (fun c_71 => ?_) (fun c_71 => ?_)
          · have c_71 : (8 * u8) ≤ ((x2 - ((x1 + 8) + u4)) - 2) := of_decide_eq_true c_71
            refine ml_blk 3 (S' := (80, [(4, .int ((x1 + 8) + u4)), (3, .int u4), (0, .ref a), (1, .int x1), (2, .int x2)], [.int (((x1 + 8) + u4) + 2)], M)) rfl ?_
            refine ml_blk 2 (S' := (83, [(4, .int ((x1 + 8) + u4)), (3, .int u4), (0, .ref a), (1, .int x1), (2, .int x2)], [.ref a, .int 8, .int (((x1 + 8) + u4) + 2)], M)) rfl ?_
            refine tg_ref (S' := (86, [(4, .int ((x1 + 8) + u4)), (3, .int u4), (0, .ref a), (1, .int x1), (2, .int x2)], [.ref b, .int 8, .int (((x1 + 8) + u4) + 2)], M)) rfl hS.1 hY0 (by decide) rfl rfl ?_
            refine ml_st (S' := (88, [(4, .int ((x1 + 8) + u4)), (3, .int u4), (0, .ref a), (1, .int x1), (2, .int x2)], [.int ((x1 + 8) + u4), .ref b, .int 8, .int (((x1 + 8) + u4) + 2)], M)) rfl rfl rfl ?_
            refine ml_call (a := [.ref b, .int ((x1 + 8) + u4)]) (rest := [.int 8, .int (((x1 + 8) + u4) + 2)]) rfl (okc_t rfl rfl rfl hS.1 hY2 (by decide)) rfl rfl (tq_u2 hS.1 hY2 (by omega)) (fun v9 M10 h11 => ?_)
            obtain ⟨⟨u12, rfl⟩, h11⟩ := h11
            rw [h11]
            show ml _ _ _ (91, [(4, .int ((x1 + 8) + u4)), (3, .int u4), (0, .ref a), (1, .int x1), (2, .int x2)], [.int u12, .int 8, .int (((x1 + 8) + u4) + 2)], M) _
            refine ml_blk 2 (S' := (93, [(4, .int ((x1 + 8) + u4)), (3, .int u4), (0, .ref a), (1, .int x1), (2, .int x2)], [.int ((((x1 + 8) + u4) + 2) + (8 * u12))], M)) rfl ?_
            refine ml_st (S' := (95, [(5, .int ((((x1 + 8) + u4) + 2) + (8 * u12))), (4, .int ((x1 + 8) + u4)), (3, .int u4), (0, .ref a), (1, .int x1), (2, .int x2)], [], M)) rfl rfl rfl ?_
            refine ml_blk 3 (S' := (99, [(5, .int ((((x1 + 8) + u4) + 2) + (8 * u12))), (4, .int ((x1 + 8) + u4)), (3, .int u4), (0, .ref a), (1, .int x1), (2, .int x2)], [.int (x2 - ((((x1 + 8) + u4) + 2) + (8 * u12)))], M)) rfl ?_
            refine ml_st (S' := (100, [(5, .int ((((x1 + 8) + u4) + 2) + (8 * u12))), (4, .int ((x1 + 8) + u4)), (3, .int u4), (0, .ref a), (1, .int x1), (2, .int x2)], [.int 2, .int (x2 - ((((x1 + 8) + u4) + 2) + (8 * u12)))], M)) rfl rfl rfl ?_
            refine ml_if2 (S1 := (105, [(5, .int ((((x1 + 8) + u4) + 2) + (8 * u12))), (4, .int ((x1 + 8) + u4)), (3, .int u4), (0, .ref a), (1, .int x1), (2, .int x2)], [], M)) (S2 := (103, [(5, .int ((((x1 + 8) + u4) + 2) + (8 * u12))), (4, .int ((x1 + 8) + u4)), (3, .int u4), (0, .ref a), (1, .int x1), (2, .int x2)], [], M)) rfl rfl rfl (fun c_100 => ?_) (fun c_100 => ?_)
            · have c_100 : 2 ≤ (x2 - ((((x1 + 8) + u4) + 2) + (8 * u12))) := of_decide_eq_true c_100
              refine ml_st (S' := (106, [(5, .int ((((x1 + 8) + u4) + 2) + (8 * u12))), (4, .int ((x1 + 8) + u4)), (3, .int u4), (0, .ref a), (1, .int x1), (2, .int x2)], [.ref a], M)) rfl rfl rfl ?_
              refine tg_ref (S' := (109, [(5, .int ((((x1 + 8) + u4) + 2) + (8 * u12))), (4, .int ((x1 + 8) + u4)), (3, .int u4), (0, .ref a), (1, .int x1), (2, .int x2)], [.ref b], M)) rfl hS.1 hY0 (by decide) rfl rfl ?_
              refine ml_blk 3 (S' := (113, [(5, .int ((((x1 + 8) + u4) + 2) + (8 * u12))), (4, .int ((x1 + 8) + u4)), (3, .int u4), (0, .ref a), (1, .int x1), (2, .int x2)], [.int (((((x1 + 8) + u4) + 2) + (8 * u12)) + 2), .ref b], M)) rfl ?_
              refine ml_st (S' := (114, [(5, .int ((((x1 + 8) + u4) + 2) + (8 * u12))), (4, .int ((x1 + 8) + u4)), (3, .int u4), (0, .ref a), (1, .int x1), (2, .int x2)], [.ref a, .int (((((x1 + 8) + u4) + 2) + (8 * u12)) + 2), .ref b], M)) rfl rfl rfl ?_
              refine tg_ref (S' := (117, [(5, .int ((((x1 + 8) + u4) + 2) + (8 * u12))), (4, .int ((x1 + 8) + u4)), (3, .int u4), (0, .ref a), (1, .int x1), (2, .int x2)], [.ref b, .int (((((x1 + 8) + u4) + 2) + (8 * u12)) + 2), .ref b], M)) rfl hS.1 hY0 (by decide) rfl rfl ?_
              refine ml_st (S' := (119, [(5, .int ((((x1 + 8) + u4) + 2) + (8 * u12))), (4, .int ((x1 + 8) + u4)), (3, .int u4), (0, .ref a), (1, .int x1), (2, .int x2)], [.int ((((x1 + 8) + u4) + 2) + (8 * u12)), .ref b, .int (((((x1 + 8) + u4) + 2) + (8 * u12)) + 2), .ref b], M)) rfl rfl rfl ?_
              refine ml_call (a := [.ref b, .int ((((x1 + 8) + u4) + 2) + (8 * u12))]) (rest := [.int (((((x1 + 8) + u4) + 2) + (8 * u12)) + 2), .ref b]) rfl (okc_t rfl rfl rfl hS.1 hY2 (by decide)) rfl rfl (tq_u2 hS.1 hY2 (by omega)) (fun v13 M14 h15 => ?_)
              obtain ⟨⟨u16, rfl⟩, h15⟩ := h15
              rw [h15]
              show ml _ _ _ (122, [(5, .int ((((x1 + 8) + u4) + 2) + (8 * u12))), (4, .int ((x1 + 8) + u4)), (3, .int u4), (0, .ref a), (1, .int x1), (2, .int x2)], [.int u16, .int (((((x1 + 8) + u4) + 2) + (8 * u12)) + 2), .ref b], M) _
              refine ml_st (S' := (123, [(5, .int ((((x1 + 8) + u4) + 2) + (8 * u12))), (4, .int ((x1 + 8) + u4)), (3, .int u4), (0, .ref a), (1, .int x1), (2, .int x2)], [.int x2, .int u16, .int (((((x1 + 8) + u4) + 2) + (8 * u12)) + 2), .ref b], M)) rfl rfl rfl ?_
              refine ml_call (a := [.ref b, .int (((((x1 + 8) + u4) + 2) + (8 * u12)) + 2), .int u16, .int x2]) (rest := []) rfl (okc_t rfl rfl rfl hS.1 hY2 (by decide)) rfl rfl (tq_attributesEnd hS.1 hY2 (by omega)) (fun v17 M18 h19 => ?_)
              obtain ⟨⟨u20, rfl⟩, h19⟩ := h19
              rw [h19]
              show ml _ _ _ (126, [(5, .int ((((x1 + 8) + u4) + 2) + (8 * u12))), (4, .int ((x1 + 8) + u4)), (3, .int u4), (0, .ref a), (1, .int x1), (2, .int x2)], [.int u20], M) _
              exact ml_ret rfl (rfl) (⟨⟨_, rfl⟩, rfl⟩)
            · have c_100 : ¬ (2 ≤ (x2 - ((((x1 + 8) + u4) + 2) + (8 * u12)))) := of_decide_eq_false c_100
              refine ml_st (S' := (104, [(5, .int ((((x1 + 8) + u4) + 2) + (8 * u12))), (4, .int ((x1 + 8) + u4)), (3, .int u4), (0, .ref a), (1, .int x1), (2, .int x2)], [.int (-1)], M)) rfl rfl rfl ?_
              exact ml_ret rfl (rfl) (⟨⟨_, rfl⟩, rfl⟩)
          · have c_71 : ¬ ((8 * u8) ≤ ((x2 - ((x1 + 8) + u4)) - 2)) := of_decide_eq_false c_71
            refine ml_st (S' := (75, [], [.int (-1)], M)) rfl rfl rfl ?_
            exact ml_ret rfl (rfl) (⟨⟨_, rfl⟩, rfl⟩)
      · have c_32 : ¬ (u4 ≤ ((x2 - x1) - 8)) := of_decide_eq_false c_32
        refine ml_st (S' := (36, [], [.int (-1)], M)) rfl rfl rfl ?_
        exact ml_ret rfl (rfl) (⟨⟨_, rfl⟩, rfl⟩)
  · have c_5 : ¬ (8 ≤ (x2 - x1)) := of_decide_eq_false c_5
    refine ml_st (S' := (9, [(0, .ref a), (1, .int x1), (2, .int x2)], [.int (-1)], M)) rfl rfl rfl ?_
    exact ml_ret rfl (rfl) (⟨⟨_, rfl⟩, rfl⟩)
set_option maxHeartbeats 2000000 in
theorem tw_At_formEnd {g : xe_G} {M : mi_H} {Y : yT} {a c b p vd da n : Nat} {pp : List Nat} {x1 x2 x3 : Int32}  (hW : WF g Y M) (hY0 : Y.1 a = some (0, [c, b, p, vd])) (hY1 : Y.1 c = some (3, [b, da, n])) (hY2 : Y.1 b = some (1, [da, n])) (hY3 : Y.1 p = some (7, pp)) (hY4 : Y.1 vd = some (10, [])) {d : Nat} (hd : 4 ≤ d) : mt (mT g) d 32 [.ref a, .int x1, .int x2, .int x3] M (pI M) := by
  obtain ⟨d, rfl⟩ : ∃ e, d = e + 1 := ⟨d - 1, by omega⟩
  have hS : st g Y M M := st.rf hW
  refine mt_in (b := mb_32 g) rfl rfl ?_
  show ml (mT g) d (mb_32 g).2 (0, [(0, .ref a), (1, .int x1), (2, .int x2), (3, .int x3)], [], M) _
  refine ml_blk 3 (S' := (3, [(0, .ref a), (1, .int x1), (2, .int x2), (3, .int x3)], [.int (x3 - x2)], M)) rfl ?_
  refine ml_st (S' := (4, [(0, .ref a), (1, .int x1), (2, .int x2), (3, .int x3)], [.int 2, .int (x3 - x2)], M)) rfl rfl rfl ?_
  refine ml_if2 (S1 := (9, [(0, .ref a), (1, .int x1), (2, .int x2), (3, .int x3)], [], M)) (S2 := (7, [(0, .ref a), (1, .int x1), (2, .int x2), (3, .int x3)], [], M)) rfl rfl rfl (fun c_4 => ?_) (fun c_4 => ?_)
  · have c_4 : 2 ≤ (x3 - x2) := of_decide_eq_true c_4
    refine ml_st (S' := (10, [(0, .ref a), (1, .int x1), (2, .int x2), (3, .int x3)], [.int x1], M)) rfl rfl rfl ?_
    refine ml_sw rfl (fun t_10 ht_10 => ?_)
    have kt_10 := ht_10
    have ht_10 : t_10 ∈ [64, 68, 83, 99, 106, 113] := mi_sw_sub ht_10 (by decide)
    simp only [List.mem_cons, List.not_mem_nil, or_false] at ht_10
    rcases ht_10 with rfl | rfl | rfl | rfl | rfl | rfl
    · show ml _ _ _ (64, [(0, .ref a), (1, .int x1), (2, .int x2), (3, .int x3)], [], M) _
      refine ml_blk 3 (S' := (67, [(0, .ref a), (1, .int x1), (2, .int x2), (3, .int x3)], [.int (x2 + 2)], M)) rfl ?_
      exact ml_ret rfl (rfl) (⟨⟨_, rfl⟩, rfl⟩)
    · show ml _ _ _ (68, [(0, .ref a), (1, .int x1), (2, .int x2), (3, .int x3)], [], M) _
      refine ml_blk 3 (S' := (71, [(0, .ref a), (1, .int x1), (2, .int x2), (3, .int x3)], [.int (x2 + 2)], M)) rfl ?_
      refine ml_blk 2 (S' := (73, [(0, .ref a), (1, .int x1), (2, .int x2), (3, .int x3)], [.ref a, .int 2, .int (x2 + 2)], M)) rfl ?_
      refine tg_ref (S' := (76, [(0, .ref a), (1, .int x1), (2, .int x2), (3, .int x3)], [.ref b, .int 2, .int (x2 + 2)], M)) rfl hS.1 hY0 (by decide) rfl rfl ?_
      refine ml_st (S' := (77, [(0, .ref a), (1, .int x1), (2, .int x2), (3, .int x3)], [.int x2, .ref b, .int 2, .int (x2 + 2)], M)) rfl rfl rfl ?_
      refine ml_call (a := [.ref b, .int x2]) (rest := [.int 2, .int (x2 + 2)]) rfl (okc_t rfl rfl rfl hS.1 hY2 (by decide)) rfl rfl (tq_u2 hS.1 hY2 (by omega)) (fun v1 M2 h3 => ?_)
      obtain ⟨⟨u4, rfl⟩, h3⟩ := h3
      rw [h3]
      show ml _ _ _ (80, [(0, .ref a), (1, .int x1), (2, .int x2), (3, .int x3)], [.int u4, .int 2, .int (x2 + 2)], M) _
      refine ml_blk 2 (S' := (82, [(0, .ref a), (1, .int x1), (2, .int x2), (3, .int x3)], [.int ((x2 + 2) + (2 * u4))], M)) rfl ?_
      exact ml_ret rfl (rfl) (⟨⟨_, rfl⟩, rfl⟩)
    · show ml _ _ _ (83, [(0, .ref a), (1, .int x1), (2, .int x2), (3, .int x3)], [], M) _
      refine ml_blk 3 (S' := (86, [(0, .ref a), (1, .int x1), (2, .int x2), (3, .int x3)], [.int (x2 + 2)], M)) rfl ?_
      refine ml_blk 2 (S' := (89, [(0, .ref a), (1, .int x1), (2, .int x2), (3, .int x3)], [.ref a, .int 8, .int (x2 + 2)], M)) rfl ?_
      refine tg_ref (S' := (92, [(0, .ref a), (1, .int x1), (2, .int x2), (3, .int x3)], [.ref b, .int 8, .int (x2 + 2)], M)) rfl hS.1 hY0 (by decide) rfl rfl ?_
      refine ml_st (S' := (93, [(0, .ref a), (1, .int x1), (2, .int x2), (3, .int x3)], [.int x2, .ref b, .int 8, .int (x2 + 2)], M)) rfl rfl rfl ?_
      refine ml_call (a := [.ref b, .int x2]) (rest := [.int 8, .int (x2 + 2)]) rfl (okc_t rfl rfl rfl hS.1 hY2 (by decide)) rfl rfl (tq_u2 hS.1 hY2 (by omega)) (fun v5 M6 h7 => ?_)
      obtain ⟨⟨u8, rfl⟩, h7⟩ := h7
      rw [h7]
      show ml _ _ _ (96, [(0, .ref a), (1, .int x1), (2, .int x2), (3, .int x3)], [.int u8, .int 8, .int (x2 + 2)], M) _
      refine ml_blk 2 (S' := (98, [(0, .ref a), (1, .int x1), (2, .int x2), (3, .int x3)], [.int ((x2 + 2) + (8 * u8))], M)) rfl ?_
      exact ml_ret rfl (rfl) (⟨⟨_, rfl⟩, rfl⟩)
    · show ml _ _ _ (99, [(0, .ref a), (1, .int x1), (2, .int x2), (3, .int x3)], [], M) _
      refine ml_blk 3 (S' := (102, [(0, .ref a), (1, .int x1), (2, .int x2), (3, .int x3)], [.int x3, .int x2, .ref a], M)) rfl ?_
      refine ml_call (a := [.ref a, .int x2, .int x3]) (rest := []) rfl (okc_t rfl rfl rfl hS.1 hY0 (by decide)) rfl rfl (tw_At_bootstrapsEnd hS.1 hY0 hY1 hY2 hY3 hY4 (by omega)) (fun v9 M10 h11 => ?_)
      obtain ⟨⟨u12, rfl⟩, h11⟩ := h11
      rw [h11]
      show ml _ _ _ (105, [(0, .ref a), (1, .int x1), (2, .int x2), (3, .int x3)], [.int u12], M) _
      exact ml_ret rfl (rfl) (⟨⟨_, rfl⟩, rfl⟩)
    · show ml _ _ _ (106, [(0, .ref a), (1, .int x1), (2, .int x2), (3, .int x3)], [], M) _
      refine ml_blk 3 (S' := (109, [(0, .ref a), (1, .int x1), (2, .int x2), (3, .int x3)], [.int x3, .int x2, .ref a], M)) rfl ?_
      refine ml_call (a := [.ref a, .int x2, .int x3]) (rest := []) rfl (okc_t rfl rfl rfl hS.1 hY0 (by decide)) rfl rfl (tw_At_recordEnd hS.1 hY0 hY1 hY2 hY3 hY4 (by omega)) (fun v13 M14 h15 => ?_)
      obtain ⟨⟨u16, rfl⟩, h15⟩ := h15
      rw [h15]
      show ml _ _ _ (112, [(0, .ref a), (1, .int x1), (2, .int x2), (3, .int x3)], [.int u16], M) _
      exact ml_ret rfl (rfl) (⟨⟨_, rfl⟩, rfl⟩)
    · show ml _ _ _ (113, [(0, .ref a), (1, .int x1), (2, .int x2), (3, .int x3)], [], M) _
      refine ml_blk 3 (S' := (116, [(0, .ref a), (1, .int x1), (2, .int x2), (3, .int x3)], [.int x3, .int x2, .ref a], M)) rfl ?_
      refine ml_call (a := [.ref a, .int x2, .int x3]) (rest := []) rfl (okc_t rfl rfl rfl hS.1 hY0 (by decide)) rfl rfl (tw_At_codeEnd hS.1 hY0 hY1 hY2 hY3 hY4 (by omega)) (fun v17 M18 h19 => ?_)
      obtain ⟨⟨u20, rfl⟩, h19⟩ := h19
      rw [h19]
      show ml _ _ _ (119, [(0, .ref a), (1, .int x1), (2, .int x2), (3, .int x3)], [.int u20], M) _
      exact ml_ret rfl (rfl) (⟨⟨_, rfl⟩, rfl⟩)
  · have c_4 : ¬ (2 ≤ (x3 - x2)) := of_decide_eq_false c_4
    refine ml_st (S' := (8, [(0, .ref a), (1, .int x1), (2, .int x2), (3, .int x3)], [.int (-1)], M)) rfl rfl rfl ?_
    exact ml_ret rfl (rfl) (⟨⟨_, rfl⟩, rfl⟩)
set_option maxHeartbeats 2000000 in
theorem tw_At_constantTag {g : xe_G} {M : mi_H} {Y : yT} {a c b p vd da n : Nat} {pp : List Nat} {x1 : Int32}  (hW : WF g Y M) (hY0 : Y.1 a = some (0, [c, b, p, vd])) (hY1 : Y.1 c = some (3, [b, da, n])) (hY2 : Y.1 b = some (1, [da, n])) (hY3 : Y.1 p = some (7, pp)) (hY4 : Y.1 vd = some (10, [])) {d : Nat} (hd : 3 ≤ d) : mt (mT g) d 31 [.ref a, .int x1] M (pI M) := by
  obtain ⟨d, rfl⟩ : ∃ e, d = e + 1 := ⟨d - 1, by omega⟩
  have hS : st g Y M M := st.rf hW
  refine mt_in (b := mb_31 g) rfl rfl ?_
  show ml (mT g) d (mb_31 g).2 (0, [(0, .ref a), (1, .int x1)], [], M) _
  refine ml_st (S' := (1, [(0, .ref a), (1, .int x1)], [.ref a], M)) rfl rfl rfl ?_
  refine tg_ref (S' := (4, [(0, .ref a), (1, .int x1)], [.ref p], M)) rfl hS.1 hY0 (by decide) rfl rfl ?_
  refine ml_blk 2 (S' := (7, [(0, .ref a), (1, .int x1)], [.ref (g.2.1 9), .int x1, .ref p], M)) rfl ?_
  refine ml_call (a := [.ref p, .int x1, .ref (g.2.1 9)]) (rest := []) rfl (okc_t rfl rfl rfl hS.1 hY3 (by decide)) rfl rfl (tq_textIs (lk := 9) hS.1 hY3 (by decide) (by omega)) (fun v1 M2 h3 => ?_)
  obtain ⟨⟨x4, rfl, z5⟩, h3⟩ := h3
  rw [h3]
  show ml _ _ _ (10, [(0, .ref a), (1, .int x1)], [.int x4], M) _
  refine ml_if (S1 := (16, [(0, .ref a), (1, .int x1)], [], M)) (S2 := (13, [(0, .ref a), (1, .int x1)], [], M)) rfl rfl rfl (fun c_10 => ?_) (fun c_10 => ?_)
  · have c_10 : x4 = 0 := of_decide_eq_true c_10
    refine ml_st (S' := (17, [(0, .ref a), (1, .int x1)], [.ref a], M)) rfl rfl rfl ?_
    refine tg_ref (S' := (20, [(0, .ref a), (1, .int x1)], [.ref p], M)) rfl hS.1 hY0 (by decide) rfl rfl ?_
    refine ml_st (S' := (21, [(0, .ref a), (1, .int x1)], [.int x1, .ref p], M)) rfl rfl rfl ?_
    refine ml_call (a := [.ref p, .int x1]) (rest := []) rfl (okc_t rfl rfl rfl hS.1 hY3 (by decide)) rfl rfl (tq_textLength hS.1 hY3 (by omega)) (fun v6 M7 h8 => ?_)
    obtain ⟨⟨u9, rfl⟩, h8⟩ := h8
    rw [h8]
    show ml _ _ _ (24, [(0, .ref a), (1, .int x1)], [.int u9], M) _
    refine ml_st (S' := (25, [(0, .ref a), (1, .int x1)], [.int 1, .int u9], M)) rfl rfl rfl ?_
    refine ml_if2 (S1 := (30, [(0, .ref a), (1, .int x1)], [], M)) (S2 := (28, [(0, .ref a), (1, .int x1)], [], M)) rfl rfl rfl (fun c_25 => ?_) (fun c_25 => ?_)
    · have c_25 : u9 = 1 := of_decide_eq_true c_25
      refine ml_st (S' := (31, [(0, .ref a), (1, .int x1)], [.ref a], M)) rfl rfl rfl ?_
      refine tg_ref (S' := (34, [(0, .ref a), (1, .int x1)], [.ref p], M)) rfl hS.1 hY0 (by decide) rfl rfl ?_
      refine ml_blk 2 (S' := (36, [(0, .ref a), (1, .int x1)], [.int 0, .int x1, .ref p], M)) rfl ?_
      refine ml_call (a := [.ref p, .int x1, .int 0]) (rest := []) rfl (okc_t rfl rfl rfl hS.1 hY3 (by decide)) rfl rfl (tq_characterAt hS.1 hY3 (by omega)) (fun v10 M11 h12 => ?_)
      obtain ⟨⟨u13, rfl⟩, h12⟩ := h12
      rw [h12]
      show ml _ _ _ (39, [(0, .ref a), (1, .int x1)], [.int u13], M) _
      refine ml_sw rfl (fun t_39 ht_39 => ?_)
      have kt_39 := ht_39
      have ht_39 : t_39 ∈ [72, 74, 76, 79] := mi_sw_sub ht_39 (by decide)
      simp only [List.mem_cons, List.not_mem_nil, or_false] at ht_39
      rcases ht_39 with rfl | rfl | rfl | rfl
      · show ml _ _ _ (72, [(0, .ref a), (1, .int x1)], [], M) _
        refine ml_st (S' := (73, [(0, .ref a), (1, .int x1)], [.int 4], M)) rfl rfl rfl ?_
        exact ml_ret rfl (rfl) (⟨⟨_, rfl⟩, rfl⟩)
      · show ml _ _ _ (74, [(0, .ref a), (1, .int x1)], [], M) _
        refine ml_st (S' := (75, [(0, .ref a), (1, .int x1)], [.int 5], M)) rfl rfl rfl ?_
        exact ml_ret rfl (rfl) (⟨⟨_, rfl⟩, rfl⟩)
      · show ml _ _ _ (76, [(0, .ref a), (1, .int x1)], [], M) _
        refine ml_st (S' := (78, [(0, .ref a), (1, .int x1)], [.int 6], M)) rfl rfl rfl ?_
        exact ml_ret rfl (rfl) (⟨⟨_, rfl⟩, rfl⟩)
      · show ml _ _ _ (79, [(0, .ref a), (1, .int x1)], [], M) _
        refine ml_st (S' := (80, [(0, .ref a), (1, .int x1)], [.int 3], M)) rfl rfl rfl ?_
        exact ml_ret rfl (rfl) (⟨⟨_, rfl⟩, rfl⟩)
    · have c_25 : ¬ (u9 = 1) := of_decide_eq_false c_25
      refine ml_st (S' := (29, [(0, .ref a), (1, .int x1)], [.int (-1)], M)) rfl rfl rfl ?_
      exact ml_ret rfl (rfl) (⟨⟨_, rfl⟩, rfl⟩)
  · have c_10 : ¬ (x4 = 0) := of_decide_eq_false c_10
    refine ml_st (S' := (15, [(0, .ref a), (1, .int x1)], [.int 8], M)) rfl rfl rfl ?_
    exact ml_ret rfl (rfl) (⟨⟨_, rfl⟩, rfl⟩)
set_option maxHeartbeats 2000000 in
theorem tw_At_areClasses {g : xe_G} {M : mi_H} {Y : yT} {a c b p vd da n : Nat} {pp : List Nat} {x1 : Int32}  (hW : WF g Y M) (hY0 : Y.1 a = some (0, [c, b, p, vd])) (hY1 : Y.1 c = some (3, [b, da, n])) (hY2 : Y.1 b = some (1, [da, n])) (hY3 : Y.1 p = some (7, pp)) (hY4 : Y.1 vd = some (10, [])) {d : Nat} (hd : 2 ≤ d) : mt (mT g) d 22 [.ref a, .int x1] M (pZ M) := by
  obtain ⟨d, rfl⟩ : ∃ e, d = e + 1 := ⟨d - 1, by omega⟩
  have hS : st g Y M M := st.rf hW
  refine mt_in (b := mb_22 g) rfl rfl ?_
  show ml (mT g) d (mb_22 g).2 (0, [(0, .ref a), (1, .int x1)], [], M) _
  refine ml_st (S' := (1, [(0, .ref a), (1, .int x1)], [.ref a], M)) rfl rfl rfl ?_
  refine tg_ref (S' := (4, [(0, .ref a), (1, .int x1)], [.ref b], M)) rfl hS.1 hY0 (by decide) rfl rfl ?_
  refine ml_blk 3 (S' := (8, [(0, .ref a), (1, .int x1)], [.int (x1 + 6), .ref b], M)) rfl ?_
  refine ml_call (a := [.ref b, .int (x1 + 6)]) (rest := []) rfl (okc_t rfl rfl rfl hS.1 hY2 (by decide)) rfl rfl (tq_u2 hS.1 hY2 (by omega)) (fun v1 M2 h3 => ?_)
  obtain ⟨⟨u4, rfl⟩, h3⟩ := h3
  rw [h3]
  show ml _ _ _ (11, [(0, .ref a), (1, .int x1)], [.int u4], M) _
  refine ml_st (S' := (12, [(2, .int u4), (0, .ref a), (1, .int x1)], [], M)) rfl rfl rfl ?_
  refine ml_st (S' := (13, [(2, .int u4), (0, .ref a), (1, .int x1)], [.int 0], M)) rfl rfl rfl ?_
  refine ml_st (S' := (14, [(0, .ref a), (1, .int x1), (2, .int u4), (3, .int 0)], [], M)) rfl rfl rfl ?_
  have L_14 : ∀ (n_14 : Nat) (i14_3 : Int32), (2147483648 - i14_3.toInt).toNat ≤ n_14 → ml (mT g) d (mb_22 g).2 (14, [(0, .ref a), (1, .int x1), (2, .int u4), (3, .int i14_3)], [], M) (pZ M) := by
    intro n_14
    induction n_14 with
    | zero => intro i14_3 hn; exact (loop_zero hn).elim
    | succ n_14 ih_14 =>
      intro i14_3 hn_14
      refine ml_blk 2 (S' := (16, [(0, .ref a), (1, .int x1), (2, .int u4), (3, .int i14_3)], [.int u4, .int i14_3], M)) rfl ?_
      refine ml_if2 (S1 := (54, [(0, .ref a), (1, .int x1), (2, .int u4), (3, .int i14_3)], [], M)) (S2 := (19, [(0, .ref a), (1, .int x1), (2, .int u4), (3, .int i14_3)], [], M)) rfl rfl rfl (fun c_16 => ?_) (fun c_16 => ?_)
      · have c_16 : u4 ≤ i14_3 := of_decide_eq_true c_16
        refine ml_st (S' := (55, [(0, .ref a), (1, .int x1), (2, .int u4), (3, .int i14_3)], [.int 1], M)) rfl rfl rfl ?_
        exact ml_ret rfl (r_z (Or.inr rfl)) (⟨⟨_, rfl, Or.inr rfl⟩, rfl⟩)
      · have c_16 : ¬ (u4 ≤ i14_3) := of_decide_eq_false c_16
        refine ml_st (S' := (20, [(0, .ref a), (1, .int x1), (2, .int u4), (3, .int i14_3)], [.ref a], M)) rfl rfl rfl ?_
        refine tg_ref (S' := (23, [(0, .ref a), (1, .int x1), (2, .int u4), (3, .int i14_3)], [.ref p], M)) rfl hS.1 hY0 (by decide) rfl rfl ?_
        refine ml_st (S' := (24, [(0, .ref a), (1, .int x1), (2, .int u4), (3, .int i14_3)], [.ref a, .ref p], M)) rfl rfl rfl ?_
        refine tg_ref (S' := (27, [(0, .ref a), (1, .int x1), (2, .int u4), (3, .int i14_3)], [.ref b, .ref p], M)) rfl hS.1 hY0 (by decide) rfl rfl ?_
        refine ml_blk 3 (S' := (31, [(0, .ref a), (1, .int x1), (2, .int u4), (3, .int i14_3)], [.int (x1 + 8), .ref b, .ref p], M)) rfl ?_
        refine ml_blk 3 (S' := (34, [(0, .ref a), (1, .int x1), (2, .int u4), (3, .int i14_3)], [.int (2 * i14_3), .int (x1 + 8), .ref b, .ref p], M)) rfl ?_
        refine ml_st (S' := (35, [(0, .ref a), (1, .int x1), (2, .int u4), (3, .int i14_3)], [.int ((x1 + 8) + (2 * i14_3)), .ref b, .ref p], M)) rfl rfl rfl ?_
        refine ml_call (a := [.ref b, .int ((x1 + 8) + (2 * i14_3))]) (rest := [.ref p]) rfl (okc_t rfl rfl rfl hS.1 hY2 (by decide)) rfl rfl (tq_u2 hS.1 hY2 (by omega)) (fun v5 M6 h7 => ?_)
        obtain ⟨⟨u8, rfl⟩, h7⟩ := h7
        rw [h7]
        show ml _ _ _ (38, [(0, .ref a), (1, .int x1), (2, .int u4), (3, .int i14_3)], [.int u8, .ref p], M) _
        refine ml_call (a := [.ref p, .int u8]) (rest := []) rfl (okc_t rfl rfl rfl hS.1 hY3 (by decide)) rfl rfl (tq_tagOf hS.1 hY3 (by omega)) (fun v9 M10 h11 => ?_)
        obtain ⟨⟨u12, rfl⟩, h11⟩ := h11
        rw [h11]
        show ml _ _ _ (41, [(0, .ref a), (1, .int x1), (2, .int u4), (3, .int i14_3)], [.int u12], M) _
        refine ml_st (S' := (43, [(0, .ref a), (1, .int x1), (2, .int u4), (3, .int i14_3)], [.int 7, .int u12], M)) rfl rfl rfl ?_
        refine ml_if2 (S1 := (48, [(0, .ref a), (1, .int x1), (2, .int u4), (3, .int i14_3)], [], M)) (S2 := (46, [(0, .ref a), (1, .int x1), (2, .int u4), (3, .int i14_3)], [], M)) rfl rfl rfl (fun c_43 => ?_) (fun c_43 => ?_)
        · have c_43 : u12 = 7 := of_decide_eq_true c_43
          refine ml_st (S' := (51, [(3, .int (i14_3 + 1)), (0, .ref a), (1, .int x1), (2, .int u4)], [], M)) rfl rfl rfl ?_
          refine ml_st (S' := (14, [(0, .ref a), (1, .int x1), (2, .int u4), (3, .int (i14_3 + 1))], [], M)) rfl rfl rfl ?_
          exact ih_14 (i14_3 + 1) (loop_inc (Int32.not_le.mp c_16) hn_14) 
        · have c_43 : ¬ (u12 = 7) := of_decide_eq_false c_43
          refine ml_st (S' := (47, [(0, .ref a), (1, .int x1), (2, .int u4), (3, .int i14_3)], [.int 0], M)) rfl rfl rfl ?_
          exact ml_ret rfl (r_z (Or.inl rfl)) (⟨⟨_, rfl, Or.inl rfl⟩, rfl⟩)
  exact L_14 _ 0 (Nat.le_refl _) 
set_option maxHeartbeats 2000000 in
theorem tw_At_innerClassesHold {g : xe_G} {M : mi_H} {Y : yT} {a c b p vd da n : Nat} {pp : List Nat} {x1 : Int32}  (hW : WF g Y M) (hY0 : Y.1 a = some (0, [c, b, p, vd])) (hY1 : Y.1 c = some (3, [b, da, n])) (hY2 : Y.1 b = some (1, [da, n])) (hY3 : Y.1 p = some (7, pp)) (hY4 : Y.1 vd = some (10, [])) {d : Nat} (hd : 2 ≤ d) : mt (mT g) d 34 [.ref a, .int x1] M (pZ M) := by
  obtain ⟨d, rfl⟩ : ∃ e, d = e + 1 := ⟨d - 1, by omega⟩
  have hS : st g Y M M := st.rf hW
  refine mt_in (b := mb_34 g) rfl rfl ?_
  show ml (mT g) d (mb_34 g).2 (0, [(0, .ref a), (1, .int x1)], [], M) _
  refine ml_st (S' := (1, [(0, .ref a), (1, .int x1)], [.int 0], M)) rfl rfl rfl ?_
  refine ml_st (S' := (2, [(0, .ref a), (1, .int x1), (2, .int 0)], [], M)) rfl rfl rfl ?_
  have L_2 : ∀ (n_2 : Nat) (i2_2 : Int32), (2147483648 - i2_2.toInt).toNat ≤ n_2 → ml (mT g) d (mb_34 g).2 (2, [(0, .ref a), (1, .int x1), (2, .int i2_2)], [], M) (pZ M) := by
    intro n_2
    induction n_2 with
    | zero => intro i2_2 hn; exact (loop_zero hn).elim
    | succ n_2 ih_2 =>
      intro i2_2 hn_2
      refine ml_blk 2 (S' := (4, [(0, .ref a), (1, .int x1), (2, .int i2_2)], [.ref a, .int i2_2], M)) rfl ?_
      refine tg_ref (S' := (7, [(0, .ref a), (1, .int x1), (2, .int i2_2)], [.ref c, .int i2_2], M)) rfl hS.1 hY0 (by decide) rfl rfl ?_
      refine tg_int rfl hS.1 hY1 (by decide) rfl (fun u1 g2 => ?_)
      show ml _ _ _ (10, [(0, .ref a), (1, .int x1), (2, .int i2_2)], [.int u1, .int i2_2], M) _
      refine ml_if2 (S1 := (112, [(0, .ref a), (1, .int x1), (2, .int i2_2)], [], M)) (S2 := (13, [(0, .ref a), (1, .int x1), (2, .int i2_2)], [], M)) rfl rfl rfl (fun c_10 => ?_) (fun c_10 => ?_)
      · have c_10 : u1 ≤ i2_2 := of_decide_eq_true c_10
        refine ml_st (S' := (113, [(0, .ref a), (1, .int x1), (2, .int i2_2)], [.int 1], M)) rfl rfl rfl ?_
        exact ml_ret rfl (r_z (Or.inr rfl)) (⟨⟨_, rfl, Or.inr rfl⟩, rfl⟩)
      · have c_10 : ¬ (u1 ≤ i2_2) := of_decide_eq_false c_10
        refine ml_blk 3 (S' := (17, [(0, .ref a), (1, .int x1), (2, .int i2_2)], [.int (x1 + 8)], M)) rfl ?_
        refine ml_blk 3 (S' := (21, [(0, .ref a), (1, .int x1), (2, .int i2_2)], [.int (8 * i2_2), .int (x1 + 8)], M)) rfl ?_
        refine ml_st (S' := (22, [(0, .ref a), (1, .int x1), (2, .int i2_2)], [.int ((x1 + 8) + (8 * i2_2))], M)) rfl rfl rfl ?_
        refine ml_st (S' := (23, [(3, .int ((x1 + 8) + (8 * i2_2))), (0, .ref a), (1, .int x1), (2, .int i2_2)], [], M)) rfl rfl rfl ?_
        refine ml_st (S' := (24, [(3, .int ((x1 + 8) + (8 * i2_2))), (0, .ref a), (1, .int x1), (2, .int i2_2)], [.ref a], M)) rfl rfl rfl ?_
        refine tg_ref (S' := (27, [(3, .int ((x1 + 8) + (8 * i2_2))), (0, .ref a), (1, .int x1), (2, .int i2_2)], [.ref b], M)) rfl hS.1 hY0 (by decide) rfl rfl ?_
        refine ml_blk 3 (S' := (30, [(3, .int ((x1 + 8) + (8 * i2_2))), (0, .ref a), (1, .int x1), (2, .int i2_2)], [.int (((x1 + 8) + (8 * i2_2)) + 2), .ref b], M)) rfl ?_
        refine ml_call (a := [.ref b, .int (((x1 + 8) + (8 * i2_2)) + 2)]) (rest := []) rfl (okc_t rfl rfl rfl hS.1 hY2 (by decide)) rfl rfl (tq_u2 hS.1 hY2 (by omega)) (fun v3 M4 h5 => ?_)
        obtain ⟨⟨u6, rfl⟩, h5⟩ := h5
        rw [h5]
        show ml _ _ _ (33, [(3, .int ((x1 + 8) + (8 * i2_2))), (0, .ref a), (1, .int x1), (2, .int i2_2)], [.int u6], M) _
        refine ml_st (S' := (35, [(4, .int u6), (3, .int ((x1 + 8) + (8 * i2_2))), (0, .ref a), (1, .int x1), (2, .int i2_2)], [], M)) rfl rfl rfl ?_
        refine ml_st (S' := (36, [(4, .int u6), (3, .int ((x1 + 8) + (8 * i2_2))), (0, .ref a), (1, .int x1), (2, .int i2_2)], [.ref a], M)) rfl rfl rfl ?_
        refine tg_ref (S' := (39, [(4, .int u6), (3, .int ((x1 + 8) + (8 * i2_2))), (0, .ref a), (1, .int x1), (2, .int i2_2)], [.ref b], M)) rfl hS.1 hY0 (by decide) rfl rfl ?_
        refine ml_blk 3 (S' := (42, [(4, .int u6), (3, .int ((x1 + 8) + (8 * i2_2))), (0, .ref a), (1, .int x1), (2, .int i2_2)], [.int (((x1 + 8) + (8 * i2_2)) + 4), .ref b], M)) rfl ?_
        refine ml_call (a := [.ref b, .int (((x1 + 8) + (8 * i2_2)) + 4)]) (rest := []) rfl (okc_t rfl rfl rfl hS.1 hY2 (by decide)) rfl rfl (tq_u2 hS.1 hY2 (by omega)) (fun v7 M8 h9 => ?_)
        obtain ⟨⟨u10, rfl⟩, h9⟩ := h9
        rw [h9]
        show ml _ _ _ (45, [(4, .int u6), (3, .int ((x1 + 8) + (8 * i2_2))), (0, .ref a), (1, .int x1), (2, .int i2_2)], [.int u10], M) _
        refine ml_st (S' := (47, [(5, .int u10), (4, .int u6), (3, .int ((x1 + 8) + (8 * i2_2))), (0, .ref a), (1, .int x1), (2, .int i2_2)], [], M)) rfl rfl rfl ?_
        refine ml_st (S' := (48, [(5, .int u10), (4, .int u6), (3, .int ((x1 + 8) + (8 * i2_2))), (0, .ref a), (1, .int x1), (2, .int i2_2)], [.ref a], M)) rfl rfl rfl ?_
        refine tg_ref (S' := (51, [(5, .int u10), (4, .int u6), (3, .int ((x1 + 8) + (8 * i2_2))), (0, .ref a), (1, .int x1), (2, .int i2_2)], [.ref p], M)) rfl hS.1 hY0 (by decide) rfl rfl ?_
        refine ml_st (S' := (52, [(5, .int u10), (4, .int u6), (3, .int ((x1 + 8) + (8 * i2_2))), (0, .ref a), (1, .int x1), (2, .int i2_2)], [.ref a, .ref p], M)) rfl rfl rfl ?_
        refine tg_ref (S' := (55, [(5, .int u10), (4, .int u6), (3, .int ((x1 + 8) + (8 * i2_2))), (0, .ref a), (1, .int x1), (2, .int i2_2)], [.ref b, .ref p], M)) rfl hS.1 hY0 (by decide) rfl rfl ?_
        refine ml_st (S' := (56, [(5, .int u10), (4, .int u6), (3, .int ((x1 + 8) + (8 * i2_2))), (0, .ref a), (1, .int x1), (2, .int i2_2)], [.int ((x1 + 8) + (8 * i2_2)), .ref b, .ref p], M)) rfl rfl rfl ?_
        refine ml_call (a := [.ref b, .int ((x1 + 8) + (8 * i2_2))]) (rest := [.ref p]) rfl (okc_t rfl rfl rfl hS.1 hY2 (by decide)) rfl rfl (tq_u2 hS.1 hY2 (by omega)) (fun v11 M12 h13 => ?_)
        obtain ⟨⟨u14, rfl⟩, h13⟩ := h13
        rw [h13]
        show ml _ _ _ (59, [(5, .int u10), (4, .int u6), (3, .int ((x1 + 8) + (8 * i2_2))), (0, .ref a), (1, .int x1), (2, .int i2_2)], [.int u14, .ref p], M) _
        refine ml_call (a := [.ref p, .int u14]) (rest := []) rfl (okc_t rfl rfl rfl hS.1 hY3 (by decide)) rfl rfl (tq_tagOf hS.1 hY3 (by omega)) (fun v15 M16 h17 => ?_)
        obtain ⟨⟨u18, rfl⟩, h17⟩ := h17
        rw [h17]
        show ml _ _ _ (62, [(5, .int u10), (4, .int u6), (3, .int ((x1 + 8) + (8 * i2_2))), (0, .ref a), (1, .int x1), (2, .int i2_2)], [.int u18], M) _
        refine ml_st (S' := (64, [(5, .int u10), (4, .int u6), (3, .int ((x1 + 8) + (8 * i2_2))), (0, .ref a), (1, .int x1), (2, .int i2_2)], [.int 7, .int u18], M)) rfl rfl rfl ?_
        refine ml_if2 (S1 := (104, [], [], M)) (S2 := (67, [(5, .int u10), (4, .int u6), (3, .int ((x1 + 8) + (8 * i2_2))), (0, .ref a), (1, .int x1), (2, .int i2_2)], [], M)) rfl rfl rfl (fun c_64 => ?_) (fun c_64 => ?_)
        · have c_64 : ¬ u18 = 7 := of_decide_eq_true c_64
          refine ml_st (S' := (105, [], [.int 0], M)) rfl rfl rfl ?_
          exact ml_ret rfl (r_z (Or.inl rfl)) (⟨⟨_, rfl, Or.inl rfl⟩, rfl⟩)
        · have c_64 : ¬ (¬ u18 = 7) := of_decide_eq_false c_64
          refine ml_st (S' := (69, [(5, .int u10), (4, .int u6), (3, .int ((x1 + 8) + (8 * i2_2))), (0, .ref a), (1, .int x1), (2, .int i2_2)], [.int u6], M)) rfl rfl rfl ?_
          refine ml_if (S1 := (86, [(0, .ref a), (1, .int x1), (2, .int i2_2), (5, .int u10)], [], M)) (S2 := (72, [(5, .int u10), (4, .int u6), (3, .int ((x1 + 8) + (8 * i2_2))), (0, .ref a), (1, .int x1), (2, .int i2_2)], [], M)) rfl rfl rfl (fun c_69 => ?_) (fun c_69 => ?_)
          · have c_69 : u6 = 0 := of_decide_eq_true c_69
            refine ml_st (S' := (88, [(0, .ref a), (1, .int x1), (2, .int i2_2), (5, .int u10)], [.int u10], M)) rfl rfl rfl ?_
            refine ml_if (S1 := (106, [(0, .ref a), (1, .int x1), (2, .int i2_2)], [], M)) (S2 := (91, [(0, .ref a), (1, .int x1), (2, .int i2_2), (5, .int u10)], [], M)) rfl rfl rfl (fun c_88 => ?_) (fun c_88 => ?_)
            · have c_88 : u10 = 0 := of_decide_eq_true c_88
              refine ml_st (S' := (109, [(2, .int (i2_2 + 1)), (0, .ref a), (1, .int x1)], [], M)) rfl rfl rfl ?_
              refine ml_st (S' := (2, [(0, .ref a), (1, .int x1), (2, .int (i2_2 + 1))], [], M)) rfl rfl rfl ?_
              exact ih_2 (i2_2 + 1) (loop_inc (Int32.not_le.mp c_10) hn_2) 
            · have c_88 : ¬ (u10 = 0) := of_decide_eq_false c_88
              refine ml_st (S' := (92, [(0, .ref a), (1, .int x1), (2, .int i2_2), (5, .int u10)], [.ref a], M)) rfl rfl rfl ?_
              refine tg_ref (S' := (95, [(0, .ref a), (1, .int x1), (2, .int i2_2), (5, .int u10)], [.ref p], M)) rfl hS.1 hY0 (by decide) rfl rfl ?_
              refine ml_st (S' := (97, [(0, .ref a), (1, .int x1), (2, .int i2_2), (5, .int u10)], [.int u10, .ref p], M)) rfl rfl rfl ?_
              refine ml_call (a := [.ref p, .int u10]) (rest := []) rfl (okc_t rfl rfl rfl hS.1 hY3 (by decide)) rfl rfl (tq_tagOf hS.1 hY3 (by omega)) (fun v19 M20 h21 => ?_)
              obtain ⟨⟨u22, rfl⟩, h21⟩ := h21
              rw [h21]
              show ml _ _ _ (100, [(0, .ref a), (1, .int x1), (2, .int i2_2), (5, .int u10)], [.int u22], M) _
              refine ml_st (S' := (101, [(0, .ref a), (1, .int x1), (2, .int i2_2), (5, .int u10)], [.int 1, .int u22], M)) rfl rfl rfl ?_
              refine ml_if2 (S1 := (106, [(0, .ref a), (1, .int x1), (2, .int i2_2)], [], M)) (S2 := (104, [], [], M)) rfl rfl rfl (fun c_101 => ?_) (fun c_101 => ?_)
              · have c_101 : u22 = 1 := of_decide_eq_true c_101
                refine ml_st (S' := (109, [(2, .int (i2_2 + 1)), (0, .ref a), (1, .int x1)], [], M)) rfl rfl rfl ?_
                refine ml_st (S' := (2, [(0, .ref a), (1, .int x1), (2, .int (i2_2 + 1))], [], M)) rfl rfl rfl ?_
                exact ih_2 (i2_2 + 1) (loop_inc (Int32.not_le.mp c_10) hn_2) 
              · have c_101 : ¬ (u22 = 1) := of_decide_eq_false c_101
                refine ml_st (S' := (105, [], [.int 0], M)) rfl rfl rfl ?_
                exact ml_ret rfl (r_z (Or.inl rfl)) (⟨⟨_, rfl, Or.inl rfl⟩, rfl⟩)
          · have c_69 : ¬ (u6 = 0) := of_decide_eq_false c_69
            refine ml_st (S' := (73, [(5, .int u10), (4, .int u6), (3, .int ((x1 + 8) + (8 * i2_2))), (0, .ref a), (1, .int x1), (2, .int i2_2)], [.ref a], M)) rfl rfl rfl ?_
            refine tg_ref (S' := (76, [(5, .int u10), (4, .int u6), (3, .int ((x1 + 8) + (8 * i2_2))), (0, .ref a), (1, .int x1), (2, .int i2_2)], [.ref p], M)) rfl hS.1 hY0 (by decide) rfl rfl ?_
            refine ml_st (S' := (78, [(5, .int u10), (4, .int u6), (3, .int ((x1 + 8) + (8 * i2_2))), (0, .ref a), (1, .int x1), (2, .int i2_2)], [.int u6, .ref p], M)) rfl rfl rfl ?_
            refine ml_call (a := [.ref p, .int u6]) (rest := []) rfl (okc_t rfl rfl rfl hS.1 hY3 (by decide)) rfl rfl (tq_tagOf hS.1 hY3 (by omega)) (fun v23 M24 h25 => ?_)
            obtain ⟨⟨u26, rfl⟩, h25⟩ := h25
            rw [h25]
            show ml _ _ _ (81, [(5, .int u10), (4, .int u6), (3, .int ((x1 + 8) + (8 * i2_2))), (0, .ref a), (1, .int x1), (2, .int i2_2)], [.int u26], M) _
            refine ml_st (S' := (83, [(5, .int u10), (4, .int u6), (3, .int ((x1 + 8) + (8 * i2_2))), (0, .ref a), (1, .int x1), (2, .int i2_2)], [.int 7, .int u26], M)) rfl rfl rfl ?_
            refine ml_if2 (S1 := (104, [], [], M)) (S2 := (86, [(0, .ref a), (1, .int x1), (2, .int i2_2), (5, .int u10)], [], M)) rfl rfl rfl (fun c_83 => ?_) (fun c_83 => ?_)
            · have c_83 : ¬ u26 = 7 := of_decide_eq_true c_83
              refine ml_st (S' := (105, [], [.int 0], M)) rfl rfl rfl ?_
              exact ml_ret rfl (r_z (Or.inl rfl)) (⟨⟨_, rfl, Or.inl rfl⟩, rfl⟩)
            · have c_83 : ¬ (¬ u26 = 7) := of_decide_eq_false c_83
              refine ml_st (S' := (88, [(0, .ref a), (1, .int x1), (2, .int i2_2), (5, .int u10)], [.int u10], M)) rfl rfl rfl ?_
              refine ml_if (S1 := (106, [(0, .ref a), (1, .int x1), (2, .int i2_2)], [], M)) (S2 := (91, [(0, .ref a), (1, .int x1), (2, .int i2_2), (5, .int u10)], [], M)) rfl rfl rfl (fun c_88 => ?_) (fun c_88 => ?_)
              · have c_88 : u10 = 0 := of_decide_eq_true c_88
                refine ml_st (S' := (109, [(2, .int (i2_2 + 1)), (0, .ref a), (1, .int x1)], [], M)) rfl rfl rfl ?_
                refine ml_st (S' := (2, [(0, .ref a), (1, .int x1), (2, .int (i2_2 + 1))], [], M)) rfl rfl rfl ?_
                exact ih_2 (i2_2 + 1) (loop_inc (Int32.not_le.mp c_10) hn_2) 
              · have c_88 : ¬ (u10 = 0) := of_decide_eq_false c_88
                refine ml_st (S' := (92, [(0, .ref a), (1, .int x1), (2, .int i2_2), (5, .int u10)], [.ref a], M)) rfl rfl rfl ?_
                refine tg_ref (S' := (95, [(0, .ref a), (1, .int x1), (2, .int i2_2), (5, .int u10)], [.ref p], M)) rfl hS.1 hY0 (by decide) rfl rfl ?_
                refine ml_st (S' := (97, [(0, .ref a), (1, .int x1), (2, .int i2_2), (5, .int u10)], [.int u10, .ref p], M)) rfl rfl rfl ?_
                refine ml_call (a := [.ref p, .int u10]) (rest := []) rfl (okc_t rfl rfl rfl hS.1 hY3 (by decide)) rfl rfl (tq_tagOf hS.1 hY3 (by omega)) (fun v27 M28 h29 => ?_)
                obtain ⟨⟨u30, rfl⟩, h29⟩ := h29
                rw [h29]
                show ml _ _ _ (100, [(0, .ref a), (1, .int x1), (2, .int i2_2), (5, .int u10)], [.int u30], M) _
                refine ml_st (S' := (101, [(0, .ref a), (1, .int x1), (2, .int i2_2), (5, .int u10)], [.int 1, .int u30], M)) rfl rfl rfl ?_
                refine ml_if2 (S1 := (106, [(0, .ref a), (1, .int x1), (2, .int i2_2)], [], M)) (S2 := (104, [], [], M)) rfl rfl rfl (fun c_101 => ?_) (fun c_101 => ?_)
                · have c_101 : u30 = 1 := of_decide_eq_true c_101
                  refine ml_st (S' := (109, [(2, .int (i2_2 + 1)), (0, .ref a), (1, .int x1)], [], M)) rfl rfl rfl ?_
                  refine ml_st (S' := (2, [(0, .ref a), (1, .int x1), (2, .int (i2_2 + 1))], [], M)) rfl rfl rfl ?_
                  exact ih_2 (i2_2 + 1) (loop_inc (Int32.not_le.mp c_10) hn_2) 
                · have c_101 : ¬ (u30 = 1) := of_decide_eq_false c_101
                  refine ml_st (S' := (105, [], [.int 0], M)) rfl rfl rfl ?_
                  exact ml_ret rfl (r_z (Or.inl rfl)) (⟨⟨_, rfl, Or.inl rfl⟩, rfl⟩)
  exact L_2 _ 0 (Nat.le_refl _) 
set_option maxHeartbeats 2000000 in
theorem tw_At_isLoadable {g : xe_G} {M : mi_H} {Y : yT} {x1 : Int32}  (hW : WF g Y M) {d : Nat} (hd : 1 ≤ d) : mt (mT g) d 35 [.int x1] M (pZ M) := by
  obtain ⟨d, rfl⟩ : ∃ e, d = e + 1 := ⟨d - 1, by omega⟩
  have hS : st g Y M M := st.rf hW
  refine mt_in (b := mb_35 g) rfl rfl ?_
  show ml (mT g) d (mb_35 g).2 (0, [(0, .int x1)], [], M) _
  refine ml_blk 2 (S' := (2, [(0, .int x1)], [.int 3, .int x1], M)) rfl ?_
  refine ml_if2 (S1 := (11, [(0, .int x1)], [], M)) (S2 := (5, [(0, .int x1)], [], M)) rfl rfl rfl (fun c_2 => ?_) (fun c_2 => ?_)
  · have c_2 : x1 < 3 := of_decide_eq_true c_2
    refine ml_blk 2 (S' := (14, [(0, .int x1)], [.int 15, .int x1], M)) rfl ?_
    refine ml_if2 (S1 := (27, [], [], M)) (S2 := (17, [(0, .int x1)], [], M)) rfl rfl rfl (fun c_14 => ?_) (fun c_14 => ?_)
    · have c_14 : x1 < 15 := of_decide_eq_true c_14
      refine ml_st (S' := (28, [], [.int 0], M)) rfl rfl rfl ?_
      exact ml_ret rfl (r_z (Or.inl rfl)) (⟨⟨_, rfl, Or.inl rfl⟩, rfl⟩)
    · have c_14 : ¬ (x1 < 15) := of_decide_eq_false c_14
      refine ml_blk 2 (S' := (20, [(0, .int x1)], [.int 17, .int x1], M)) rfl ?_
      refine ml_if2 (S1 := (27, [], [], M)) (S2 := (23, [], [], M)) rfl rfl rfl (fun c_20 => ?_) (fun c_20 => ?_)
      · have c_20 : 17 < x1 := of_decide_eq_true c_20
        refine ml_st (S' := (28, [], [.int 0], M)) rfl rfl rfl ?_
        exact ml_ret rfl (r_z (Or.inl rfl)) (⟨⟨_, rfl, Or.inl rfl⟩, rfl⟩)
      · have c_20 : ¬ (17 < x1) := of_decide_eq_false c_20
        refine ml_st (S' := (24, [], [.int 1], M)) rfl rfl rfl ?_
        refine ml_st (S' := (28, [], [.int 1], M)) rfl rfl rfl ?_
        exact ml_ret rfl (r_z (Or.inr rfl)) (⟨⟨_, rfl, Or.inr rfl⟩, rfl⟩)
  · have c_2 : ¬ (x1 < 3) := of_decide_eq_false c_2
    refine ml_blk 2 (S' := (8, [(0, .int x1)], [.int 8, .int x1], M)) rfl ?_
    refine ml_if2 (S1 := (23, [], [], M)) (S2 := (11, [(0, .int x1)], [], M)) rfl rfl rfl (fun c_8 => ?_) (fun c_8 => ?_)
    · have c_8 : x1 ≤ 8 := of_decide_eq_true c_8
      refine ml_st (S' := (24, [], [.int 1], M)) rfl rfl rfl ?_
      refine ml_st (S' := (28, [], [.int 1], M)) rfl rfl rfl ?_
      exact ml_ret rfl (r_z (Or.inr rfl)) (⟨⟨_, rfl, Or.inr rfl⟩, rfl⟩)
    · have c_8 : ¬ (x1 ≤ 8) := of_decide_eq_false c_8
      refine ml_blk 2 (S' := (14, [(0, .int x1)], [.int 15, .int x1], M)) rfl ?_
      refine ml_if2 (S1 := (27, [], [], M)) (S2 := (17, [(0, .int x1)], [], M)) rfl rfl rfl (fun c_14 => ?_) (fun c_14 => ?_)
      · have c_14 : x1 < 15 := of_decide_eq_true c_14
        refine ml_st (S' := (28, [], [.int 0], M)) rfl rfl rfl ?_
        exact ml_ret rfl (r_z (Or.inl rfl)) (⟨⟨_, rfl, Or.inl rfl⟩, rfl⟩)
      · have c_14 : ¬ (x1 < 15) := of_decide_eq_false c_14
        refine ml_blk 2 (S' := (20, [(0, .int x1)], [.int 17, .int x1], M)) rfl ?_
        refine ml_if2 (S1 := (27, [], [], M)) (S2 := (23, [], [], M)) rfl rfl rfl (fun c_20 => ?_) (fun c_20 => ?_)
        · have c_20 : 17 < x1 := of_decide_eq_true c_20
          refine ml_st (S' := (28, [], [.int 0], M)) rfl rfl rfl ?_
          exact ml_ret rfl (r_z (Or.inl rfl)) (⟨⟨_, rfl, Or.inl rfl⟩, rfl⟩)
        · have c_20 : ¬ (17 < x1) := of_decide_eq_false c_20
          refine ml_st (S' := (24, [], [.int 1], M)) rfl rfl rfl ?_
          refine ml_st (S' := (28, [], [.int 1], M)) rfl rfl rfl ?_
          exact ml_ret rfl (r_z (Or.inr rfl)) (⟨⟨_, rfl, Or.inr rfl⟩, rfl⟩)
set_option maxHeartbeats 2000000 in
theorem tw_At_bootstrapsHold {g : xe_G} {M : mi_H} {Y : yT} {a c b p vd da n : Nat} {pp : List Nat}  (hW : WF g Y M) (hY0 : Y.1 a = some (0, [c, b, p, vd])) (hY1 : Y.1 c = some (3, [b, da, n])) (hY2 : Y.1 b = some (1, [da, n])) (hY3 : Y.1 p = some (7, pp)) (hY4 : Y.1 vd = some (10, [])) {d : Nat} (hd : 2 ≤ d) : mt (mT g) d 25 [.ref a] M (pZ M) := by
  obtain ⟨d, rfl⟩ : ∃ e, d = e + 1 := ⟨d - 1, by omega⟩
  have hS : st g Y M M := st.rf hW
  refine mt_in (b := mb_25 g) rfl rfl ?_
  show ml (mT g) d (mb_25 g).2 (0, [(0, .ref a)], [], M) _
  refine ml_st (S' := (1, [(0, .ref a)], [.ref a], M)) rfl rfl rfl ?_
  refine tg_ref (S' := (4, [(0, .ref a)], [.ref c], M)) rfl hS.1 hY0 (by decide) rfl rfl ?_
  refine tg_int rfl hS.1 hY1 (by decide) rfl (fun u1 g2 => ?_)
  show ml _ _ _ (7, [(0, .ref a)], [.int u1], M) _
  refine ml_st (S' := (8, [(1, .int u1), (0, .ref a)], [], M)) rfl rfl rfl ?_
  refine ml_st (S' := (9, [(1, .int u1), (0, .ref a)], [.int 0], M)) rfl rfl rfl ?_
  refine ml_st (S' := (10, [(0, .ref a), (1, .int u1), (2, .int 0)], [], M)) rfl rfl rfl ?_
  have L_10 : ∀ (n_10 : Nat) (i10_1 : Int32) (i10_2 : Int32), (2147483648 - i10_2.toInt).toNat ≤ n_10 → ml (mT g) d (mb_25 g).2 (10, [(0, .ref a), (1, .int i10_1), (2, .int i10_2)], [], M) (pZ M) := by
    intro n_10
    induction n_10 with
    | zero => intro i10_1 i10_2 hn; exact (loop_zero hn).elim
    | succ n_10 ih_10 =>
      intro i10_1 i10_2 hn_10
      refine ml_blk 2 (S' := (12, [(0, .ref a), (1, .int i10_1), (2, .int i10_2)], [.ref a, .int i10_2], M)) rfl ?_
      refine tg_ref (S' := (15, [(0, .ref a), (1, .int i10_1), (2, .int i10_2)], [.ref c, .int i10_2], M)) rfl hS.1 hY0 (by decide) rfl rfl ?_
      refine tg_int rfl hS.1 hY1 (by decide) rfl (fun u3 g4 => ?_)
      show ml _ _ _ (18, [(0, .ref a), (1, .int i10_1), (2, .int i10_2)], [.int u3, .int i10_2], M) _
      refine ml_if2 (S1 := (104, [(0, .ref a), (1, .int i10_1), (2, .int i10_2)], [], M)) (S2 := (21, [(0, .ref a), (1, .int i10_1), (2, .int i10_2)], [], M)) rfl rfl rfl (fun c_18 => ?_) (fun c_18 => ?_)
      · have c_18 : u3 ≤ i10_2 := of_decide_eq_true c_18
        refine ml_st (S' := (105, [(0, .ref a), (1, .int i10_1), (2, .int i10_2)], [.int 1], M)) rfl rfl rfl ?_
        exact ml_ret rfl (r_z (Or.inr rfl)) (⟨⟨_, rfl, Or.inr rfl⟩, rfl⟩)
      · have c_18 : ¬ (u3 ≤ i10_2) := of_decide_eq_false c_18
        refine ml_st (S' := (22, [(0, .ref a), (1, .int i10_1), (2, .int i10_2)], [.ref a], M)) rfl rfl rfl ?_
        refine tg_ref (S' := (25, [(0, .ref a), (1, .int i10_1), (2, .int i10_2)], [.ref p], M)) rfl hS.1 hY0 (by decide) rfl rfl ?_
        refine ml_st (S' := (26, [(0, .ref a), (1, .int i10_1), (2, .int i10_2)], [.ref a, .ref p], M)) rfl rfl rfl ?_
        refine tg_ref (S' := (29, [(0, .ref a), (1, .int i10_1), (2, .int i10_2)], [.ref b, .ref p], M)) rfl hS.1 hY0 (by decide) rfl rfl ?_
        refine ml_st (S' := (30, [(0, .ref a), (1, .int i10_1), (2, .int i10_2)], [.int i10_1, .ref b, .ref p], M)) rfl rfl rfl ?_
        refine ml_call (a := [.ref b, .int i10_1]) (rest := [.ref p]) rfl (okc_t rfl rfl rfl hS.1 hY2 (by decide)) rfl rfl (tq_u2 hS.1 hY2 (by omega)) (fun v5 M6 h7 => ?_)
        obtain ⟨⟨u8, rfl⟩, h7⟩ := h7
        rw [h7]
        show ml _ _ _ (33, [(0, .ref a), (1, .int i10_1), (2, .int i10_2)], [.int u8, .ref p], M) _
        refine ml_call (a := [.ref p, .int u8]) (rest := []) rfl (okc_t rfl rfl rfl hS.1 hY3 (by decide)) rfl rfl (tq_tagOf hS.1 hY3 (by omega)) (fun v9 M10 h11 => ?_)
        obtain ⟨⟨u12, rfl⟩, h11⟩ := h11
        rw [h11]
        show ml _ _ _ (36, [(0, .ref a), (1, .int i10_1), (2, .int i10_2)], [.int u12], M) _
        refine ml_st (S' := (38, [(0, .ref a), (1, .int i10_1), (2, .int i10_2)], [.int 15, .int u12], M)) rfl rfl rfl ?_
        refine ml_if2 (S1 := (43, [(0, .ref a), (1, .int i10_1), (2, .int i10_2)], [], M)) (S2 := (41, [(0, .ref a), (1, .int i10_1), (2, .int i10_2)], [], M)) rfl rfl rfl (fun c_38 => ?_) (fun c_38 => ?_)
        · have c_38 : u12 = 15 := of_decide_eq_true c_38
          refine ml_st (S' := (44, [(0, .ref a), (1, .int i10_1), (2, .int i10_2)], [.ref a], M)) rfl rfl rfl ?_
          refine tg_ref (S' := (47, [(0, .ref a), (1, .int i10_1), (2, .int i10_2)], [.ref b], M)) rfl hS.1 hY0 (by decide) rfl rfl ?_
          refine ml_blk 3 (S' := (50, [(0, .ref a), (1, .int i10_1), (2, .int i10_2)], [.int (i10_1 + 2), .ref b], M)) rfl ?_
          refine ml_call (a := [.ref b, .int (i10_1 + 2)]) (rest := []) rfl (okc_t rfl rfl rfl hS.1 hY2 (by decide)) rfl rfl (tq_u2 hS.1 hY2 (by omega)) (fun v13 M14 h15 => ?_)
          obtain ⟨⟨u16, rfl⟩, h15⟩ := h15
          rw [h15]
          show ml _ _ _ (53, [(0, .ref a), (1, .int i10_1), (2, .int i10_2)], [.int u16], M) _
          refine ml_st (S' := (54, [(3, .int u16), (0, .ref a), (1, .int i10_1), (2, .int i10_2)], [], M)) rfl rfl rfl ?_
          refine ml_st (S' := (57, [(1, .int (i10_1 + 4)), (3, .int u16), (0, .ref a), (2, .int i10_2)], [], M)) rfl rfl rfl ?_
          refine ml_st (S' := (58, [(1, .int (i10_1 + 4)), (3, .int u16), (0, .ref a), (2, .int i10_2)], [.int 0], M)) rfl rfl rfl ?_
          refine ml_st (S' := (60, [(0, .ref a), (1, .int (i10_1 + 4)), (2, .int i10_2), (3, .int u16), (4, .int 0)], [], M)) rfl rfl rfl ?_
          have L_60 : ∀ (n_60 : Nat) (i60_1 : Int32) (i60_4 : Int32), (2147483648 - i60_4.toInt).toNat ≤ n_60 → ml (mT g) d (mb_25 g).2 (60, [(0, .ref a), (1, .int i60_1), (2, .int i10_2), (3, .int u16), (4, .int i60_4)], [], M) (pZ M) := by
            intro n_60
            induction n_60 with
            | zero => intro i60_1 i60_4 hn; exact (loop_zero hn).elim
            | succ n_60 ih_60 =>
              intro i60_1 i60_4 hn_60
              refine ml_blk 2 (S' := (63, [(0, .ref a), (1, .int i60_1), (2, .int i10_2), (3, .int u16), (4, .int i60_4)], [.int u16, .int i60_4], M)) rfl ?_
              refine ml_if2 (S1 := (98, [(0, .ref a), (1, .int i60_1), (2, .int i10_2), (3, .int u16), (4, .int i60_4)], [], M)) (S2 := (66, [(0, .ref a), (1, .int i60_1), (2, .int i10_2), (3, .int u16), (4, .int i60_4)], [], M)) rfl rfl rfl (fun c_63 => ?_) (fun c_63 => ?_)
              · have c_63 : u16 ≤ i60_4 := of_decide_eq_true c_63
                refine ml_st (S' := (101, [(2, .int (i10_2 + 1)), (0, .ref a), (1, .int i60_1), (3, .int u16), (4, .int i60_4)], [], M)) rfl rfl rfl ?_
                refine ml_st (S' := (10, [(0, .ref a), (1, .int i60_1), (2, .int (i10_2 + 1))], [], M)) rfl rfl rfl ?_
                exact ih_10 i60_1 (i10_2 + 1) (loop_inc (Int32.not_le.mp c_18) hn_10) 
              · have c_63 : ¬ (u16 ≤ i60_4) := of_decide_eq_false c_63
                refine ml_st (S' := (67, [(0, .ref a), (1, .int i60_1), (2, .int i10_2), (3, .int u16), (4, .int i60_4)], [.ref a], M)) rfl rfl rfl ?_
                refine tg_ref (S' := (70, [(0, .ref a), (1, .int i60_1), (2, .int i10_2), (3, .int u16), (4, .int i60_4)], [.ref p], M)) rfl hS.1 hY0 (by decide) rfl rfl ?_
                refine ml_st (S' := (71, [(0, .ref a), (1, .int i60_1), (2, .int i10_2), (3, .int u16), (4, .int i60_4)], [.ref a, .ref p], M)) rfl rfl rfl ?_
                refine tg_ref (S' := (74, [(0, .ref a), (1, .int i60_1), (2, .int i10_2), (3, .int u16), (4, .int i60_4)], [.ref b, .ref p], M)) rfl hS.1 hY0 (by decide) rfl rfl ?_
                refine ml_st (S' := (75, [(0, .ref a), (1, .int i60_1), (2, .int i10_2), (3, .int u16), (4, .int i60_4)], [.int i60_1, .ref b, .ref p], M)) rfl rfl rfl ?_
                refine ml_call (a := [.ref b, .int i60_1]) (rest := [.ref p]) rfl (okc_t rfl rfl rfl hS.1 hY2 (by decide)) rfl rfl (tq_u2 hS.1 hY2 (by omega)) (fun v17 M18 h19 => ?_)
                obtain ⟨⟨u20, rfl⟩, h19⟩ := h19
                rw [h19]
                show ml _ _ _ (78, [(0, .ref a), (1, .int i60_1), (2, .int i10_2), (3, .int u16), (4, .int i60_4)], [.int u20, .ref p], M) _
                refine ml_call (a := [.ref p, .int u20]) (rest := []) rfl (okc_t rfl rfl rfl hS.1 hY3 (by decide)) rfl rfl (tq_tagOf hS.1 hY3 (by omega)) (fun v21 M22 h23 => ?_)
                obtain ⟨⟨u24, rfl⟩, h23⟩ := h23
                rw [h23]
                show ml _ _ _ (81, [(0, .ref a), (1, .int i60_1), (2, .int i10_2), (3, .int u16), (4, .int i60_4)], [.int u24], M) _
                refine ml_call (a := [.int u24]) (rest := []) rfl (rfl) rfl rfl (tw_At_isLoadable hS.1  (by omega)) (fun v25 M26 h27 => ?_)
                obtain ⟨⟨u28, rfl, z29⟩, h27⟩ := h27
                rw [h27]
                show ml _ _ _ (84, [(0, .ref a), (1, .int i60_1), (2, .int i10_2), (3, .int u16), (4, .int i60_4)], [.int u28], M) _
                refine ml_if (S1 := (89, [(0, .ref a), (1, .int i60_1), (2, .int i10_2), (3, .int u16), (4, .int i60_4)], [], M)) (S2 := (87, [(0, .ref a), (1, .int i60_1), (2, .int i10_2), (3, .int u16), (4, .int i60_4)], [], M)) rfl rfl rfl (fun c_84 => ?_) (fun c_84 => ?_)
                · have c_84 : ¬ u28 = 0 := of_decide_eq_true c_84
                  refine ml_st (S' := (92, [(1, .int (i60_1 + 2)), (0, .ref a), (2, .int i10_2), (3, .int u16), (4, .int i60_4)], [], M)) rfl rfl rfl ?_
                  refine ml_st (S' := (95, [(4, .int (i60_4 + 1)), (1, .int (i60_1 + 2)), (0, .ref a), (2, .int i10_2), (3, .int u16)], [], M)) rfl rfl rfl ?_
                  refine ml_st (S' := (60, [(0, .ref a), (1, .int (i60_1 + 2)), (2, .int i10_2), (3, .int u16), (4, .int (i60_4 + 1))], [], M)) rfl rfl rfl ?_
                  exact ih_60 (i60_1 + 2) (i60_4 + 1) (loop_inc (Int32.not_le.mp c_63) hn_60) 
                · have c_84 : ¬ (¬ u28 = 0) := of_decide_eq_false c_84
                  refine ml_st (S' := (88, [(0, .ref a), (1, .int i60_1), (2, .int i10_2), (3, .int u16), (4, .int i60_4)], [.int 0], M)) rfl rfl rfl ?_
                  exact ml_ret rfl (r_z (Or.inl rfl)) (⟨⟨_, rfl, Or.inl rfl⟩, rfl⟩)
          exact L_60 _ (i10_1 + 4) 0 (Nat.le_refl _) 
        · have c_38 : ¬ (u12 = 15) := of_decide_eq_false c_38
          refine ml_st (S' := (42, [(0, .ref a), (1, .int i10_1), (2, .int i10_2)], [.int 0], M)) rfl rfl rfl ?_
          exact ml_ret rfl (r_z (Or.inl rfl)) (⟨⟨_, rfl, Or.inl rfl⟩, rfl⟩)
  exact L_10 _ u1 0 (Nat.le_refl _) 
set_option maxHeartbeats 2000000 in
theorem tw_At_isNew {g : xe_G} {M : mi_H} {Y : yT} {a c b p vd da n : Nat} {pp : List Nat} {x1 x2 : Int32}  (hW : WF g Y M) (hY0 : Y.1 a = some (0, [c, b, p, vd])) (hY1 : Y.1 c = some (3, [b, da, n])) (hY2 : Y.1 b = some (1, [da, n])) (hY3 : Y.1 p = some (7, pp)) (hY4 : Y.1 vd = some (10, [])) {d : Nat} (hd : 2 ≤ d) : mt (mT g) d 36 [.ref a, .int x1, .int x2] M (qZ g Y M) := by
  obtain ⟨d, rfl⟩ : ∃ e, d = e + 1 := ⟨d - 1, by omega⟩
  have hS : st g Y M M := st.rf hW
  refine mt_in (b := mb_36 g) rfl rfl ?_
  show ml (mT g) d (mb_36 g).2 (0, [(0, .ref a), (1, .int x1), (2, .int x2)], [], M) _
  refine ml_st (S' := (1, [(0, .ref a), (1, .int x1), (2, .int x2)], [.ref a], M)) rfl rfl rfl ?_
  refine tg_ref (S' := (4, [(0, .ref a), (1, .int x1), (2, .int x2)], [.ref p], M)) rfl hS.1 hY0 (by decide) rfl rfl ?_
  refine ml_st (S' := (5, [(0, .ref a), (1, .int x1), (2, .int x2)], [.ref a, .ref p], M)) rfl rfl rfl ?_
  refine tg_ref (S' := (8, [(0, .ref a), (1, .int x1), (2, .int x2)], [.ref b, .ref p], M)) rfl hS.1 hY0 (by decide) rfl rfl ?_
  refine ml_st (S' := (9, [(0, .ref a), (1, .int x1), (2, .int x2)], [.int x1, .ref b, .ref p], M)) rfl rfl rfl ?_
  refine ml_call (a := [.ref b, .int x1]) (rest := [.ref p]) rfl (okc_t rfl rfl rfl hS.1 hY2 (by decide)) rfl rfl (tq_u2 hS.1 hY2 (by omega)) (fun v1 M2 h3 => ?_)
  obtain ⟨⟨u4, rfl⟩, h3⟩ := h3
  rw [h3]
  show ml _ _ _ (12, [(0, .ref a), (1, .int x1), (2, .int x2)], [.int u4, .ref p], M) _
  refine ml_call (a := [.ref p, .int u4]) (rest := []) rfl (okc_t rfl rfl rfl hS.1 hY3 (by decide)) rfl rfl (tq_tagOf hS.1 hY3 (by omega)) (fun v5 M6 h7 => ?_)
  obtain ⟨⟨u8, rfl⟩, h7⟩ := h7
  rw [h7]
  show ml _ _ _ (15, [(0, .ref a), (1, .int x1), (2, .int x2)], [.int u8], M) _
  refine ml_st (S' := (16, [(0, .ref a), (1, .int x1), (2, .int x2)], [.int 1, .int u8], M)) rfl rfl rfl ?_
  refine ml_if2 (S1 := (30, [(0, .ref a), (1, .int x1), (2, .int x2)], [], M)) (S2 := (19, [(0, .ref a), (1, .int x1), (2, .int x2)], [], M)) rfl rfl rfl (fun c_16 => ?_) (fun c_16 => ?_)
  · have c_16 : u8 = 1 := of_decide_eq_true c_16
    refine ml_st (S' := (31, [(0, .ref a), (1, .int x1), (2, .int x2)], [.int x2], M)) rfl rfl rfl ?_
    refine ml_if (S1 := (36, [(0, .ref a), (1, .int x1), (2, .int x2)], [], M)) (S2 := (34, [(0, .ref a), (1, .int x1), (2, .int x2)], [], M)) rfl rfl rfl (fun c_31 => ?_) (fun c_31 => ?_)
    · have c_31 : ¬ x2 = 0 := of_decide_eq_true c_31
      refine ml_blk 2 (S' := (38, [(0, .ref a), (1, .int x1), (2, .int x2)], [.int x2, .ref a], M)) rfl ?_
      refine ml_call (a := [.ref a, .int x2]) (rest := []) rfl (okc_t rfl rfl rfl hS.1 hY0 (by decide)) rfl rfl (tw_At_hasSeen hS.1 hY0 hY1 hY2 hY3 hY4 (by omega)) (fun v9 M10 h11 => ?_)
      obtain ⟨⟨u12, rfl, z13⟩, h11⟩ := h11
      rw [h11]
      show ml _ _ _ (41, [(0, .ref a), (1, .int x1), (2, .int x2)], [.int u12], M) _
      refine ml_if (S1 := (55, [(0, .ref a), (1, .int x1), (2, .int x2)], [], M)) (S2 := (44, [(0, .ref a), (1, .int x1), (2, .int x2)], [], M)) rfl rfl rfl (fun c_41 => ?_) (fun c_41 => ?_)
      · have c_41 : u12 = 0 := of_decide_eq_true c_41
        refine ml_blk 2 (S' := (57, [(0, .ref a), (1, .int x1), (2, .int x2)], [.ref a, .ref a], M)) rfl ?_
        refine tg_int rfl hS.1 hY0 (by decide) rfl (fun u14 g15 => ?_)
        show ml _ _ _ (60, [(0, .ref a), (1, .int x1), (2, .int x2)], [.int u14, .ref a], M) _
        refine ml_blk 3 (S' := (63, [(0, .ref a), (1, .int x1), (2, .int x2)], [.int (1 <<< (x2 &&& 31)), .int u14, .ref a], M)) rfl ?_
        refine ml_st (S' := (64, [(0, .ref a), (1, .int x1), (2, .int x2)], [.int (u14 ||| (1 <<< (x2 &&& 31))), .ref a], M)) rfl rfl rfl ?_
        refine tp_put rfl hS hY0 (by decide) rfl (⟨_, rfl⟩) rfl rfl (fun M16 hS17 f18 => ?_)
        show ml _ _ _ (67, [(0, .ref a), (1, .int x1), (2, .int x2)], [], M16) _
        refine ml_st (S' := (68, [(0, .ref a), (1, .int x1), (2, .int x2)], [.int 1], M16)) rfl rfl rfl ?_
        exact ml_ret rfl (r_z (Or.inr rfl)) (⟨⟨_, rfl, Or.inr rfl⟩, hS17⟩)
      · have c_41 : ¬ (u12 = 0) := of_decide_eq_false c_41
        refine ml_st (S' := (45, [(0, .ref a), (1, .int x1), (2, .int x2)], [.ref a], M)) rfl rfl rfl ?_
        refine tg_ref (S' := (48, [(0, .ref a), (1, .int x1), (2, .int x2)], [.ref vd], M)) rfl hS.1 hY0 (by decide) rfl rfl ?_
        refine ml_blk 2 (S' := (51, [(0, .ref a), (1, .int x1), (2, .int x2)], [.int x1, .int 29, .ref vd], M)) rfl ?_
        refine ml_call (a := [.ref vd, .int 29, .int x1]) (rest := []) rfl (okc_t rfl rfl rfl hS.1 hY4 (by decide)) rfl rfl (tw_Ve_wrong hS.1 hY4 (by omega)) (fun v19 M20 h21 => ?_)
        obtain ⟨rfl, h21⟩ := h21
        have hS23 := hS.tr h21.1
        show ml _ _ _ (54, [(0, .ref a), (1, .int x1), (2, .int x2)], [.int 0], M20) _
        exact ml_ret rfl (r_z (Or.inl rfl)) (⟨⟨_, rfl, Or.inl rfl⟩, hS23⟩)
    · have c_31 : ¬ (¬ x2 = 0) := of_decide_eq_false c_31
      refine ml_st (S' := (35, [(0, .ref a), (1, .int x1), (2, .int x2)], [.int 1], M)) rfl rfl rfl ?_
      exact ml_ret rfl (r_z (Or.inr rfl)) (⟨⟨_, rfl, Or.inr rfl⟩, hS⟩)
  · have c_16 : ¬ (u8 = 1) := of_decide_eq_false c_16
    refine ml_st (S' := (20, [(0, .ref a), (1, .int x1), (2, .int x2)], [.ref a], M)) rfl rfl rfl ?_
    refine tg_ref (S' := (23, [(0, .ref a), (1, .int x1), (2, .int x2)], [.ref vd], M)) rfl hS.1 hY0 (by decide) rfl rfl ?_
    refine ml_blk 2 (S' := (26, [(0, .ref a), (1, .int x1), (2, .int x2)], [.int x1, .int 28, .ref vd], M)) rfl ?_
    refine ml_call (a := [.ref vd, .int 28, .int x1]) (rest := []) rfl (okc_t rfl rfl rfl hS.1 hY4 (by decide)) rfl rfl (tw_Ve_wrong hS.1 hY4 (by omega)) (fun v24 M25 h26 => ?_)
    obtain ⟨rfl, h26⟩ := h26
    have hS28 := hS.tr h26.1
    show ml _ _ _ (29, [(0, .ref a), (1, .int x1), (2, .int x2)], [.int 0], M25) _
    exact ml_ret rfl (r_z (Or.inl rfl)) (⟨⟨_, rfl, Or.inl rfl⟩, hS28⟩)
set_option maxHeartbeats 2000000 in
theorem tw_At_recordHolds {g : xe_G} {M : mi_H} {Y : yT} {a c b p vd da n : Nat} {pp : List Nat} {x1 : Int32}  (hW : WF g Y M) (hY0 : Y.1 a = some (0, [c, b, p, vd])) (hY1 : Y.1 c = some (3, [b, da, n])) (hY2 : Y.1 b = some (1, [da, n])) (hY3 : Y.1 p = some (7, pp)) (hY4 : Y.1 vd = some (10, [])) {d : Nat} (hd : 4 ≤ d) : mt (mT g) d 42 [.ref a, .int x1] M (qZ g Y M) := by
  obtain ⟨d, rfl⟩ : ∃ e, d = e + 1 := ⟨d - 1, by omega⟩
  have hS : st g Y M M := st.rf hW
  refine mt_in (b := mb_42 g) rfl rfl ?_
  show ml (mT g) d (mb_42 g).2 (0, [(0, .ref a), (1, .int x1)], [], M) _
  refine ml_blk 3 (S' := (4, [(0, .ref a), (1, .int x1)], [.int (x1 + 8)], M)) rfl ?_
  refine ml_st (S' := (5, [(2, .int (x1 + 8)), (0, .ref a), (1, .int x1)], [], M)) rfl rfl rfl ?_
  refine ml_st (S' := (6, [(2, .int (x1 + 8)), (0, .ref a), (1, .int x1)], [.int 0], M)) rfl rfl rfl ?_
  refine ml_st (S' := (7, [(0, .ref a), (1, .int x1), (2, .int (x1 + 8)), (3, .int 0)], [], M)) rfl rfl rfl ?_
  have L_7 : ∀ (n_7 : Nat) (i7_2 : Int32) (i7_3 : Int32) (M_7 : mi_H), (2147483648 - i7_3.toInt).toNat ≤ n_7 → st g Y M M_7 → ml (mT g) d (mb_42 g).2 (7, [(0, .ref a), (1, .int x1), (2, .int i7_2), (3, .int i7_3)], [], M_7) (qZ g Y M) := by
    intro n_7
    induction n_7 with
    | zero => intro i7_2 i7_3 M_7 hn; exact (loop_zero hn).elim
    | succ n_7 ih_7 =>
      intro i7_2 i7_3 M_7 hn_7 hS_7
      refine ml_blk 2 (S' := (9, [(0, .ref a), (1, .int x1), (2, .int i7_2), (3, .int i7_3)], [.ref a, .int i7_3], M_7)) rfl ?_
      refine tg_ref (S' := (12, [(0, .ref a), (1, .int x1), (2, .int i7_2), (3, .int i7_3)], [.ref c, .int i7_3], M_7)) rfl hS_7.1 hY0 (by decide) rfl rfl ?_
      refine tg_int rfl hS_7.1 hY1 (by decide) rfl (fun u1 g2 => ?_)
      show ml _ _ _ (15, [(0, .ref a), (1, .int x1), (2, .int i7_2), (3, .int i7_3)], [.int u1, .int i7_3], M_7) _
      refine ml_if2 (S1 := (121, [(0, .ref a), (1, .int x1), (2, .int i7_2), (3, .int i7_3)], [], M_7)) (S2 := (18, [(0, .ref a), (1, .int x1), (2, .int i7_2), (3, .int i7_3)], [], M_7)) rfl rfl rfl (fun c_15 => ?_) (fun c_15 => ?_)
      · have c_15 : u1 ≤ i7_3 := of_decide_eq_true c_15
        refine ml_st (S' := (122, [(0, .ref a), (1, .int x1), (2, .int i7_2), (3, .int i7_3)], [.int 1], M_7)) rfl rfl rfl ?_
        exact ml_ret rfl (r_z (Or.inr rfl)) (⟨⟨_, rfl, Or.inr rfl⟩, hS_7⟩)
      · have c_15 : ¬ (u1 ≤ i7_3) := of_decide_eq_false c_15
        refine ml_st (S' := (19, [(0, .ref a), (1, .int x1), (2, .int i7_2), (3, .int i7_3)], [.ref a], M_7)) rfl rfl rfl ?_
        refine tg_ref (S' := (22, [(0, .ref a), (1, .int x1), (2, .int i7_2), (3, .int i7_3)], [.ref p], M_7)) rfl hS_7.1 hY0 (by decide) rfl rfl ?_
        refine ml_st (S' := (23, [(0, .ref a), (1, .int x1), (2, .int i7_2), (3, .int i7_3)], [.ref a, .ref p], M_7)) rfl rfl rfl ?_
        refine tg_ref (S' := (26, [(0, .ref a), (1, .int x1), (2, .int i7_2), (3, .int i7_3)], [.ref b, .ref p], M_7)) rfl hS_7.1 hY0 (by decide) rfl rfl ?_
        refine ml_st (S' := (27, [(0, .ref a), (1, .int x1), (2, .int i7_2), (3, .int i7_3)], [.int i7_2, .ref b, .ref p], M_7)) rfl rfl rfl ?_
        refine ml_call (a := [.ref b, .int i7_2]) (rest := [.ref p]) rfl (okc_t rfl rfl rfl hS_7.1 hY2 (by decide)) rfl rfl (tq_u2 hS_7.1 hY2 (by omega)) (fun v3 M4 h5 => ?_)
        obtain ⟨⟨u6, rfl⟩, h5⟩ := h5
        rw [h5]
        show ml _ _ _ (30, [(0, .ref a), (1, .int x1), (2, .int i7_2), (3, .int i7_3)], [.int u6, .ref p], M_7) _
        refine ml_call (a := [.ref p, .int u6]) (rest := []) rfl (okc_t rfl rfl rfl hS_7.1 hY3 (by decide)) rfl rfl (tq_isUnqualifiedName hS_7.1 hY3 (by omega)) (fun v7 M8 h9 => ?_)
        obtain ⟨⟨u10, rfl, z11⟩, h9⟩ := h9
        rw [h9]
        show ml _ _ _ (33, [(0, .ref a), (1, .int x1), (2, .int i7_2), (3, .int i7_3)], [.int u10], M_7) _
        refine ml_if (S1 := (56, [(0, .ref a), (1, .int x1)], [], M_7)) (S2 := (36, [(0, .ref a), (1, .int x1), (2, .int i7_2), (3, .int i7_3)], [], M_7)) rfl rfl rfl (fun c_33 => ?_) (fun c_33 => ?_)
        · have c_33 : u10 = 0 := of_decide_eq_true c_33
          refine ml_st (S' := (57, [(0, .ref a), (1, .int x1)], [.ref a], M_7)) rfl rfl rfl ?_
          refine tg_ref (S' := (60, [(0, .ref a), (1, .int x1)], [.ref vd], M_7)) rfl hS_7.1 hY0 (by decide) rfl rfl ?_
          refine ml_blk 2 (S' := (63, [(0, .ref a), (1, .int x1)], [.int x1, .int 37, .ref vd], M_7)) rfl ?_
          refine ml_call (a := [.ref vd, .int 37, .int x1]) (rest := []) rfl (okc_t rfl rfl rfl hS_7.1 hY4 (by decide)) rfl rfl (tw_Ve_wrong hS_7.1 hY4 (by omega)) (fun v12 M13 h14 => ?_)
          obtain ⟨rfl, h14⟩ := h14
          have hS16 := hS_7.tr h14.1
          show ml _ _ _ (66, [(0, .ref a), (1, .int x1)], [.int 0], M13) _
          exact ml_ret rfl (r_z (Or.inl rfl)) (⟨⟨_, rfl, Or.inl rfl⟩, hS16⟩)
        · have c_33 : ¬ (u10 = 0) := of_decide_eq_false c_33
          refine ml_st (S' := (37, [(0, .ref a), (1, .int x1), (2, .int i7_2), (3, .int i7_3)], [.ref a], M_7)) rfl rfl rfl ?_
          refine tg_ref (S' := (40, [(0, .ref a), (1, .int x1), (2, .int i7_2), (3, .int i7_3)], [.ref p], M_7)) rfl hS_7.1 hY0 (by decide) rfl rfl ?_
          refine ml_st (S' := (41, [(0, .ref a), (1, .int x1), (2, .int i7_2), (3, .int i7_3)], [.ref a, .ref p], M_7)) rfl rfl rfl ?_
          refine tg_ref (S' := (44, [(0, .ref a), (1, .int x1), (2, .int i7_2), (3, .int i7_3)], [.ref b, .ref p], M_7)) rfl hS_7.1 hY0 (by decide) rfl rfl ?_
          refine ml_blk 3 (S' := (47, [(0, .ref a), (1, .int x1), (2, .int i7_2), (3, .int i7_3)], [.int (i7_2 + 2), .ref b, .ref p], M_7)) rfl ?_
          refine ml_call (a := [.ref b, .int (i7_2 + 2)]) (rest := [.ref p]) rfl (okc_t rfl rfl rfl hS_7.1 hY2 (by decide)) rfl rfl (tq_u2 hS_7.1 hY2 (by omega)) (fun v17 M18 h19 => ?_)
          obtain ⟨⟨u20, rfl⟩, h19⟩ := h19
          rw [h19]
          show ml _ _ _ (50, [(0, .ref a), (1, .int x1), (2, .int i7_2), (3, .int i7_3)], [.int u20, .ref p], M_7) _
          refine ml_call (a := [.ref p, .int u20]) (rest := []) rfl (okc_t rfl rfl rfl hS_7.1 hY3 (by decide)) rfl rfl (tq_isFieldDescriptor hS_7.1 hY3 (by omega)) (fun v21 M22 h23 => ?_)
          obtain ⟨⟨u24, rfl, z25⟩, h23⟩ := h23
          rw [h23]
          show ml _ _ _ (53, [(0, .ref a), (1, .int x1), (2, .int i7_2), (3, .int i7_3)], [.int u24], M_7) _
          refine ml_if (S1 := (67, [(0, .ref a), (1, .int x1), (2, .int i7_2), (3, .int i7_3)], [], M_7)) (S2 := (56, [(0, .ref a), (1, .int x1)], [], M_7)) rfl rfl rfl (fun c_53 => ?_) (fun c_53 => ?_)
          · have c_53 : ¬ u24 = 0 := of_decide_eq_true c_53
            refine ml_st (S' := (68, [(0, .ref a), (1, .int x1), (2, .int i7_2), (3, .int i7_3)], [.ref a], M_7)) rfl rfl rfl ?_
            refine tg_ref (S' := (71, [(0, .ref a), (1, .int x1), (2, .int i7_2), (3, .int i7_3)], [.ref b], M_7)) rfl hS_7.1 hY0 (by decide) rfl rfl ?_
            refine ml_blk 3 (S' := (74, [(0, .ref a), (1, .int x1), (2, .int i7_2), (3, .int i7_3)], [.int (i7_2 + 4), .ref b], M_7)) rfl ?_
            refine ml_call (a := [.ref b, .int (i7_2 + 4)]) (rest := []) rfl (okc_t rfl rfl rfl hS_7.1 hY2 (by decide)) rfl rfl (tq_u2 hS_7.1 hY2 (by omega)) (fun v26 M27 h28 => ?_)
            obtain ⟨⟨u29, rfl⟩, h28⟩ := h28
            rw [h28]
            show ml _ _ _ (77, [(0, .ref a), (1, .int x1), (2, .int i7_2), (3, .int i7_3)], [.int u29], M_7) _
            refine ml_st (S' := (79, [(4, .int u29), (0, .ref a), (1, .int x1), (2, .int i7_2), (3, .int i7_3)], [], M_7)) rfl rfl rfl ?_
            refine ml_st (S' := (82, [(2, .int (i7_2 + 6)), (4, .int u29), (0, .ref a), (1, .int x1), (3, .int i7_3)], [], M_7)) rfl rfl rfl ?_
            refine ml_st (S' := (83, [(2, .int (i7_2 + 6)), (4, .int u29), (0, .ref a), (1, .int x1), (3, .int i7_3)], [.int 0], M_7)) rfl rfl rfl ?_
            refine ml_st (S' := (85, [(0, .ref a), (1, .int x1), (2, .int (i7_2 + 6)), (3, .int i7_3), (4, .int u29), (5, .int 0)], [], M_7)) rfl rfl rfl ?_
            have L_85 : ∀ (n_85 : Nat) (i85_2 : Int32) (i85_5 : Int32) (M_85 : mi_H), (2147483648 - i85_5.toInt).toNat ≤ n_85 → st g Y M M_85 → ml (mT g) d (mb_42 g).2 (85, [(0, .ref a), (1, .int x1), (2, .int i85_2), (3, .int i7_3), (4, .int u29), (5, .int i85_5)], [], M_85) (qZ g Y M) := by
              intro n_85
              induction n_85 with
              | zero => intro i85_2 i85_5 M_85 hn; exact (loop_zero hn).elim
              | succ n_85 ih_85 =>
                intro i85_2 i85_5 M_85 hn_85 hS_85
                refine ml_blk 2 (S' := (89, [(0, .ref a), (1, .int x1), (2, .int i85_2), (3, .int i7_3), (4, .int u29), (5, .int i85_5)], [.int u29, .int i85_5], M_85)) rfl ?_
                refine ml_if2 (S1 := (115, [(0, .ref a), (1, .int x1), (2, .int i85_2), (3, .int i7_3), (4, .int u29), (5, .int i85_5)], [], M_85)) (S2 := (92, [(0, .ref a), (1, .int x1), (2, .int i85_2), (3, .int i7_3), (4, .int u29), (5, .int i85_5)], [], M_85)) rfl rfl rfl (fun c_89 => ?_) (fun c_89 => ?_)
                · have c_89 : u29 ≤ i85_5 := of_decide_eq_true c_89
                  refine ml_st (S' := (118, [(3, .int (i7_3 + 1)), (0, .ref a), (1, .int x1), (2, .int i85_2), (4, .int u29), (5, .int i85_5)], [], M_85)) rfl rfl rfl ?_
                  refine ml_st (S' := (7, [(0, .ref a), (1, .int x1), (2, .int i85_2), (3, .int (i7_3 + 1))], [], M_85)) rfl rfl rfl ?_
                  exact ih_7 i85_2 (i7_3 + 1) _ (loop_inc (Int32.not_le.mp c_15) hn_7) hS_85
                · have c_89 : ¬ (u29 ≤ i85_5) := of_decide_eq_false c_89
                  refine ml_blk 3 (S' := (95, [(0, .ref a), (1, .int x1), (2, .int i85_2), (3, .int i7_3), (4, .int u29), (5, .int i85_5)], [.int 0, .int i85_2, .ref a], M_85)) rfl ?_
                  refine ml_call (a := [.ref a, .int i85_2, .int 0]) (rest := []) rfl (okc_t rfl rfl rfl hS_85.1 hY0 (by decide)) rfl rfl (tw_At_isNew hS_85.1 hY0 hY1 hY2 hY3 hY4 (by omega)) (fun v30 M31 h32 => ?_)
                  obtain ⟨⟨u33, rfl, z34⟩, h32⟩ := h32
                  have hS35 := hS_85.tr h32
                  show ml _ _ _ (98, [(0, .ref a), (1, .int x1), (2, .int i85_2), (3, .int i7_3), (4, .int u29), (5, .int i85_5)], [.int u33], M31) _
                  refine ml_if (S1 := (103, [(0, .ref a), (1, .int x1), (2, .int i85_2), (3, .int i7_3), (4, .int u29), (5, .int i85_5)], [], M31)) (S2 := (101, [(0, .ref a), (1, .int x1), (2, .int i85_2), (3, .int i7_3), (4, .int u29), (5, .int i85_5)], [], M31)) rfl rfl rfl (fun c_98 => ?_) (fun c_98 => ?_)
                  · have c_98 : ¬ u33 = 0 := of_decide_eq_true c_98
                    refine ml_blk 2 (S' := (105, [(0, .ref a), (1, .int x1), (2, .int i85_2), (3, .int i7_3), (4, .int u29), (5, .int i85_5)], [.int i85_2, .ref a], M31)) rfl ?_
                    refine ml_call (a := [.ref a, .int i85_2]) (rest := []) rfl (okc_t rfl rfl rfl hS35.1 hY0 (by decide)) rfl rfl (tw_At_behind hS35.1 hY0 hY1 hY2 hY3 hY4 (by omega)) (fun v36 M37 h38 => ?_)
                    obtain ⟨⟨u39, rfl⟩, h38⟩ := h38
                    rw [h38]
                    show ml _ _ _ (108, [(0, .ref a), (1, .int x1), (2, .int i85_2), (3, .int i7_3), (4, .int u29), (5, .int i85_5)], [.int u39], M31) _
                    refine ml_st (S' := (109, [(2, .int u39), (0, .ref a), (1, .int x1), (3, .int i7_3), (4, .int u29), (5, .int i85_5)], [], M31)) rfl rfl rfl ?_
                    refine ml_st (S' := (112, [(5, .int (i85_5 + 1)), (2, .int u39), (0, .ref a), (1, .int x1), (3, .int i7_3), (4, .int u29)], [], M31)) rfl rfl rfl ?_
                    refine ml_st (S' := (85, [(0, .ref a), (1, .int x1), (2, .int u39), (3, .int i7_3), (4, .int u29), (5, .int (i85_5 + 1))], [], M31)) rfl rfl rfl ?_
                    exact ih_85 u39 (i85_5 + 1) _ (loop_inc (Int32.not_le.mp c_89) hn_85) hS35
                  · have c_98 : ¬ (¬ u33 = 0) := of_decide_eq_false c_98
                    refine ml_st (S' := (102, [(0, .ref a), (1, .int x1), (2, .int i85_2), (3, .int i7_3), (4, .int u29), (5, .int i85_5)], [.int 0], M31)) rfl rfl rfl ?_
                    exact ml_ret rfl (r_z (Or.inl rfl)) (⟨⟨_, rfl, Or.inl rfl⟩, hS35⟩)
            exact L_85 _ (i7_2 + 6) 0 _ (Nat.le_refl _) hS_7
          · have c_53 : ¬ (¬ u24 = 0) := of_decide_eq_false c_53
            refine ml_st (S' := (57, [(0, .ref a), (1, .int x1)], [.ref a], M_7)) rfl rfl rfl ?_
            refine tg_ref (S' := (60, [(0, .ref a), (1, .int x1)], [.ref vd], M_7)) rfl hS_7.1 hY0 (by decide) rfl rfl ?_
            refine ml_blk 2 (S' := (63, [(0, .ref a), (1, .int x1)], [.int x1, .int 37, .ref vd], M_7)) rfl ?_
            refine ml_call (a := [.ref vd, .int 37, .int x1]) (rest := []) rfl (okc_t rfl rfl rfl hS_7.1 hY4 (by decide)) rfl rfl (tw_Ve_wrong hS_7.1 hY4 (by omega)) (fun v40 M41 h42 => ?_)
            obtain ⟨rfl, h42⟩ := h42
            have hS44 := hS_7.tr h42.1
            show ml _ _ _ (66, [(0, .ref a), (1, .int x1)], [.int 0], M41) _
            exact ml_ret rfl (r_z (Or.inl rfl)) (⟨⟨_, rfl, Or.inl rfl⟩, hS44⟩)
  exact L_7 _ (x1 + 8) 0 _ (Nat.le_refl _) hS
set_option maxHeartbeats 2000000 in
theorem tw_At_brokenRule {g : xe_G} {M : mi_H} {Y : yT} {a c b p vd da n : Nat} {pp : List Nat} {x1 x2 : Int32}  (hW : WF g Y M) (hY0 : Y.1 a = some (0, [c, b, p, vd])) (hY1 : Y.1 c = some (3, [b, da, n])) (hY2 : Y.1 b = some (1, [da, n])) (hY3 : Y.1 p = some (7, pp)) (hY4 : Y.1 vd = some (10, [])) {d : Nat} (hd : 5 ≤ d) : mt (mT g) d 26 [.ref a, .int x1, .int x2] M (qI g Y M) := by
  obtain ⟨d, rfl⟩ : ∃ e, d = e + 1 := ⟨d - 1, by omega⟩
  have hS : st g Y M M := st.rf hW
  refine mt_in (b := mb_26 g) rfl rfl ?_
  show ml (mT g) d (mb_26 g).2 (0, [(0, .ref a), (1, .int x1), (2, .int x2)], [], M) _
  refine ml_st (S' := (1, [(0, .ref a), (1, .int x1), (2, .int x2)], [.int x1], M)) rfl rfl rfl ?_
  refine ml_sw rfl (fun t_1 ht_1 => ?_)
  have kt_1 := ht_1
  have ht_1 : t_1 ∈ [40, 73, 112, 154, 199, 231, 274] := mi_sw_sub ht_1 (by decide)
  simp only [List.mem_cons, List.not_mem_nil, or_false] at ht_1
  rcases ht_1 with rfl | rfl | rfl | rfl | rfl | rfl | rfl
  · show ml _ _ _ (40, [(0, .ref a), (1, .int x1), (2, .int x2)], [], M) _
    refine ml_st (S' := (41, [(0, .ref a), (1, .int x1), (2, .int x2)], [.ref a], M)) rfl rfl rfl ?_
    refine tg_ref (S' := (44, [(0, .ref a), (1, .int x1), (2, .int x2)], [.ref c], M)) rfl hS.1 hY0 (by decide) rfl rfl ?_
    refine ml_st (S' := (45, [(0, .ref a), (1, .int x1), (2, .int x2)], [.ref a, .ref c], M)) rfl rfl rfl ?_
    refine tg_ref (S' := (48, [(0, .ref a), (1, .int x1), (2, .int x2)], [.ref b, .ref c], M)) rfl hS.1 hY0 (by decide) rfl rfl ?_
    refine ml_blk 3 (S' := (52, [(0, .ref a), (1, .int x1), (2, .int x2)], [.int (x2 + 6), .ref b, .ref c], M)) rfl ?_
    refine ml_call (a := [.ref b, .int (x2 + 6)]) (rest := [.ref c]) rfl (okc_t rfl rfl rfl hS.1 hY2 (by decide)) rfl rfl (tq_u2 hS.1 hY2 (by omega)) (fun v1 M2 h3 => ?_)
    obtain ⟨⟨u4, rfl⟩, h3⟩ := h3
    rw [h3]
    show ml _ _ _ (55, [(0, .ref a), (1, .int x1), (2, .int x2)], [.int u4, .ref c], M) _
    refine tp_put rfl hS hY1 (by decide) rfl (⟨_, rfl⟩) rfl rfl (fun M5 hS6 f7 => ?_)
    show ml _ _ _ (58, [(0, .ref a), (1, .int x1), (2, .int x2)], [], M5) _
    refine ml_blk 2 (S' := (60, [(0, .ref a), (1, .int x1), (2, .int x2)], [.int x2, .ref a], M5)) rfl ?_
    refine ml_call (a := [.ref a, .int x2]) (rest := []) rfl (okc_t rfl rfl rfl hS6.1 hY0 (by decide)) rfl rfl (tw_At_innerClassesHold hS6.1 hY0 hY1 hY2 hY3 hY4 (by omega)) (fun v8 M9 h10 => ?_)
    obtain ⟨⟨u11, rfl, z12⟩, h10⟩ := h10
    rw [h10]
    show ml _ _ _ (63, [(0, .ref a), (1, .int x1), (2, .int x2)], [.int u11], M5) _
    refine ml_if (S1 := (70, [(0, .ref a), (1, .int x1), (2, .int x2)], [], M5)) (S2 := (66, [(0, .ref a), (1, .int x1), (2, .int x2)], [], M5)) rfl rfl rfl (fun c_63 => ?_) (fun c_63 => ?_)
    · have c_63 : u11 = 0 := of_decide_eq_true c_63
      refine ml_st (S' := (72, [], [.int 33], M5)) rfl rfl rfl ?_
      exact ml_ret rfl (rfl) (⟨⟨_, rfl⟩, hS6⟩)
    · have c_63 : ¬ (u11 = 0) := of_decide_eq_false c_63
      refine ml_st (S' := (67, [(0, .ref a), (1, .int x1), (2, .int x2)], [.int 0], M5)) rfl rfl rfl ?_
      refine ml_st (S' := (72, [], [.int 0], M5)) rfl rfl rfl ?_
      exact ml_ret rfl (rfl) (⟨⟨_, rfl⟩, hS6⟩)
  · show ml _ _ _ (73, [(0, .ref a), (1, .int x1), (2, .int x2)], [], M) _
    refine ml_st (S' := (74, [(0, .ref a), (1, .int x1), (2, .int x2)], [.ref a], M)) rfl rfl rfl ?_
    refine tg_ref (S' := (77, [(0, .ref a), (1, .int x1), (2, .int x2)], [.ref p], M)) rfl hS.1 hY0 (by decide) rfl rfl ?_
    refine ml_st (S' := (78, [(0, .ref a), (1, .int x1), (2, .int x2)], [.ref a, .ref p], M)) rfl rfl rfl ?_
    refine tg_ref (S' := (81, [(0, .ref a), (1, .int x1), (2, .int x2)], [.ref b, .ref p], M)) rfl hS.1 hY0 (by decide) rfl rfl ?_
    refine ml_blk 3 (S' := (85, [(0, .ref a), (1, .int x1), (2, .int x2)], [.int (x2 + 6), .ref b, .ref p], M)) rfl ?_
    refine ml_call (a := [.ref b, .int (x2 + 6)]) (rest := [.ref p]) rfl (okc_t rfl rfl rfl hS.1 hY2 (by decide)) rfl rfl (tq_u2 hS.1 hY2 (by omega)) (fun v13 M14 h15 => ?_)
    obtain ⟨⟨u16, rfl⟩, h15⟩ := h15
    rw [h15]
    show ml _ _ _ (88, [(0, .ref a), (1, .int x1), (2, .int x2)], [.int u16, .ref p], M) _
    refine ml_call (a := [.ref p, .int u16]) (rest := []) rfl (okc_t rfl rfl rfl hS.1 hY3 (by decide)) rfl rfl (tq_tagOf hS.1 hY3 (by omega)) (fun v17 M18 h19 => ?_)
    obtain ⟨⟨u20, rfl⟩, h19⟩ := h19
    rw [h19]
    show ml _ _ _ (91, [(0, .ref a), (1, .int x1), (2, .int x2)], [.int u20], M) _
    refine ml_st (S' := (93, [(0, .ref a), (1, .int x1), (2, .int x2)], [.int 7, .int u20], M)) rfl rfl rfl ?_
    refine ml_if2 (S1 := (109, [], [], M)) (S2 := (96, [(0, .ref a), (1, .int x1), (2, .int x2)], [], M)) rfl rfl rfl (fun c_93 => ?_) (fun c_93 => ?_)
    · have c_93 : ¬ u20 = 7 := of_decide_eq_true c_93
      refine ml_st (S' := (111, [], [.int 34], M)) rfl rfl rfl ?_
      exact ml_ret rfl (rfl) (⟨⟨_, rfl⟩, hS⟩)
    · have c_93 : ¬ (¬ u20 = 7) := of_decide_eq_false c_93
      refine ml_blk 2 (S' := (99, [(0, .ref a), (1, .int x1), (2, .int x2)], [.int 8, .ref a], M)) rfl ?_
      refine ml_call (a := [.ref a, .int 8]) (rest := []) rfl (okc_t rfl rfl rfl hS.1 hY0 (by decide)) rfl rfl (tw_At_hasSeen hS.1 hY0 hY1 hY2 hY3 hY4 (by omega)) (fun v21 M22 h23 => ?_)
      obtain ⟨⟨u24, rfl, z25⟩, h23⟩ := h23
      rw [h23]
      show ml _ _ _ (102, [(0, .ref a), (1, .int x1), (2, .int x2)], [.int u24], M) _
      refine ml_if (S1 := (109, [], [], M)) (S2 := (105, [(0, .ref a), (1, .int x1), (2, .int x2)], [], M)) rfl rfl rfl (fun c_102 => ?_) (fun c_102 => ?_)
      · have c_102 : ¬ u24 = 0 := of_decide_eq_true c_102
        refine ml_st (S' := (111, [], [.int 34], M)) rfl rfl rfl ?_
        exact ml_ret rfl (rfl) (⟨⟨_, rfl⟩, hS⟩)
      · have c_102 : ¬ (¬ u24 = 0) := of_decide_eq_false c_102
        refine ml_st (S' := (106, [(0, .ref a), (1, .int x1), (2, .int x2)], [.int 0], M)) rfl rfl rfl ?_
        refine ml_st (S' := (111, [], [.int 0], M)) rfl rfl rfl ?_
        exact ml_ret rfl (rfl) (⟨⟨_, rfl⟩, hS⟩)
  · show ml _ _ _ (112, [(0, .ref a), (1, .int x1), (2, .int x2)], [], M) _
    refine ml_st (S' := (113, [(0, .ref a), (1, .int x1), (2, .int x2)], [.ref a], M)) rfl rfl rfl ?_
    refine tg_ref (S' := (116, [(0, .ref a), (1, .int x1), (2, .int x2)], [.ref c], M)) rfl hS.1 hY0 (by decide) rfl rfl ?_
    refine ml_st (S' := (117, [(0, .ref a), (1, .int x1), (2, .int x2)], [.ref a, .ref c], M)) rfl rfl rfl ?_
    refine tg_ref (S' := (120, [(0, .ref a), (1, .int x1), (2, .int x2)], [.ref b, .ref c], M)) rfl hS.1 hY0 (by decide) rfl rfl ?_
    refine ml_blk 3 (S' := (124, [(0, .ref a), (1, .int x1), (2, .int x2)], [.int (x2 + 6), .ref b, .ref c], M)) rfl ?_
    refine ml_call (a := [.ref b, .int (x2 + 6)]) (rest := [.ref c]) rfl (okc_t rfl rfl rfl hS.1 hY2 (by decide)) rfl rfl (tq_u2 hS.1 hY2 (by omega)) (fun v26 M27 h28 => ?_)
    obtain ⟨⟨u29, rfl⟩, h28⟩ := h28
    rw [h28]
    show ml _ _ _ (127, [(0, .ref a), (1, .int x1), (2, .int x2)], [.int u29, .ref c], M) _
    refine tp_put rfl hS hY1 (by decide) rfl (⟨_, rfl⟩) rfl rfl (fun M30 hS31 f32 => ?_)
    show ml _ _ _ (130, [(0, .ref a), (1, .int x1), (2, .int x2)], [], M30) _
    refine ml_blk 2 (S' := (132, [(0, .ref a), (1, .int x1), (2, .int x2)], [.int x2, .ref a], M30)) rfl ?_
    refine ml_call (a := [.ref a, .int x2]) (rest := []) rfl (okc_t rfl rfl rfl hS31.1 hY0 (by decide)) rfl rfl (tw_At_areClasses hS31.1 hY0 hY1 hY2 hY3 hY4 (by omega)) (fun v33 M34 h35 => ?_)
    obtain ⟨⟨u36, rfl, z37⟩, h35⟩ := h35
    rw [h35]
    show ml _ _ _ (135, [(0, .ref a), (1, .int x1), (2, .int x2)], [.int u36], M30) _
    refine ml_if (S1 := (151, [], [], M30)) (S2 := (138, [(0, .ref a), (1, .int x1), (2, .int x2)], [], M30)) rfl rfl rfl (fun c_135 => ?_) (fun c_135 => ?_)
    · have c_135 : u36 = 0 := of_decide_eq_true c_135
      refine ml_st (S' := (153, [], [.int 35], M30)) rfl rfl rfl ?_
      exact ml_ret rfl (rfl) (⟨⟨_, rfl⟩, hS31⟩)
    · have c_135 : ¬ (u36 = 0) := of_decide_eq_false c_135
      refine ml_blk 2 (S' := (141, [(0, .ref a), (1, .int x1), (2, .int x2)], [.int 7, .ref a], M30)) rfl ?_
      refine ml_call (a := [.ref a, .int 7]) (rest := []) rfl (okc_t rfl rfl rfl hS31.1 hY0 (by decide)) rfl rfl (tw_At_hasSeen hS31.1 hY0 hY1 hY2 hY3 hY4 (by omega)) (fun v38 M39 h40 => ?_)
      obtain ⟨⟨u41, rfl, z42⟩, h40⟩ := h40
      rw [h40]
      show ml _ _ _ (144, [(0, .ref a), (1, .int x1), (2, .int x2)], [.int u41], M30) _
      refine ml_if (S1 := (151, [], [], M30)) (S2 := (147, [(0, .ref a), (1, .int x1), (2, .int x2)], [], M30)) rfl rfl rfl (fun c_144 => ?_) (fun c_144 => ?_)
      · have c_144 : ¬ u41 = 0 := of_decide_eq_true c_144
        refine ml_st (S' := (153, [], [.int 35], M30)) rfl rfl rfl ?_
        exact ml_ret rfl (rfl) (⟨⟨_, rfl⟩, hS31⟩)
      · have c_144 : ¬ (¬ u41 = 0) := of_decide_eq_false c_144
        refine ml_st (S' := (148, [(0, .ref a), (1, .int x1), (2, .int x2)], [.int 0], M30)) rfl rfl rfl ?_
        refine ml_st (S' := (153, [], [.int 0], M30)) rfl rfl rfl ?_
        exact ml_ret rfl (rfl) (⟨⟨_, rfl⟩, hS31⟩)
  · show ml _ _ _ (154, [(0, .ref a), (1, .int x1), (2, .int x2)], [], M) _
    refine ml_st (S' := (155, [(0, .ref a), (1, .int x1), (2, .int x2)], [.ref a], M)) rfl rfl rfl ?_
    refine tg_ref (S' := (158, [(0, .ref a), (1, .int x1), (2, .int x2)], [.ref c], M)) rfl hS.1 hY0 (by decide) rfl rfl ?_
    refine ml_st (S' := (159, [(0, .ref a), (1, .int x1), (2, .int x2)], [.ref a, .ref c], M)) rfl rfl rfl ?_
    refine tg_ref (S' := (162, [(0, .ref a), (1, .int x1), (2, .int x2)], [.ref b, .ref c], M)) rfl hS.1 hY0 (by decide) rfl rfl ?_
    refine ml_blk 3 (S' := (166, [(0, .ref a), (1, .int x1), (2, .int x2)], [.int (x2 + 6), .ref b, .ref c], M)) rfl ?_
    refine ml_call (a := [.ref b, .int (x2 + 6)]) (rest := [.ref c]) rfl (okc_t rfl rfl rfl hS.1 hY2 (by decide)) rfl rfl (tq_u2 hS.1 hY2 (by omega)) (fun v43 M44 h45 => ?_)
    obtain ⟨⟨u46, rfl⟩, h45⟩ := h45
    rw [h45]
    show ml _ _ _ (169, [(0, .ref a), (1, .int x1), (2, .int x2)], [.int u46, .ref c], M) _
    refine tp_put rfl hS hY1 (by decide) rfl (⟨_, rfl⟩) rfl rfl (fun M47 hS48 f49 => ?_)
    show ml _ _ _ (172, [(0, .ref a), (1, .int x1), (2, .int x2)], [], M47) _
    refine ml_blk 2 (S' := (174, [(0, .ref a), (1, .int x1), (2, .int x2)], [.int x2, .ref a], M47)) rfl ?_
    refine ml_call (a := [.ref a, .int x2]) (rest := []) rfl (okc_t rfl rfl rfl hS48.1 hY0 (by decide)) rfl rfl (tw_At_areClasses hS48.1 hY0 hY1 hY2 hY3 hY4 (by omega)) (fun v50 M51 h52 => ?_)
    obtain ⟨⟨u53, rfl, z54⟩, h52⟩ := h52
    rw [h52]
    show ml _ _ _ (177, [(0, .ref a), (1, .int x1), (2, .int x2)], [.int u53], M47) _
    refine ml_if (S1 := (196, [], [], M47)) (S2 := (180, [(0, .ref a), (1, .int x1), (2, .int x2)], [], M47)) rfl rfl rfl (fun c_177 => ?_) (fun c_177 => ?_)
    · have c_177 : u53 = 0 := of_decide_eq_true c_177
      refine ml_st (S' := (198, [], [.int 36], M47)) rfl rfl rfl ?_
      exact ml_ret rfl (rfl) (⟨⟨_, rfl⟩, hS48⟩)
    · have c_177 : ¬ (u53 = 0) := of_decide_eq_false c_177
      refine ml_st (S' := (181, [(0, .ref a), (1, .int x1), (2, .int x2)], [.ref a], M47)) rfl rfl rfl ?_
      refine tg_ref (S' := (184, [(0, .ref a), (1, .int x1), (2, .int x2)], [.ref c], M47)) rfl hS48.1 hY0 (by decide) rfl rfl ?_
      refine ml_st (S' := (186, [(0, .ref a), (1, .int x1), (2, .int x2)], [.int 16, .ref c], M47)) rfl rfl rfl ?_
      refine ml_call (a := [.ref c, .int 16]) (rest := []) rfl (okc_t rfl rfl rfl hS48.1 hY1 (by decide)) rfl rfl (tw_Cl_has hS48.1 hY1 hY2 (by omega)) (fun v55 M56 h57 => ?_)
      obtain ⟨⟨u58, rfl, z59⟩, h57⟩ := h57
      rw [h57]
      show ml _ _ _ (189, [(0, .ref a), (1, .int x1), (2, .int x2)], [.int u58], M47) _
      refine ml_if (S1 := (196, [], [], M47)) (S2 := (192, [(0, .ref a), (1, .int x1), (2, .int x2)], [], M47)) rfl rfl rfl (fun c_189 => ?_) (fun c_189 => ?_)
      · have c_189 : ¬ u58 = 0 := of_decide_eq_true c_189
        refine ml_st (S' := (198, [], [.int 36], M47)) rfl rfl rfl ?_
        exact ml_ret rfl (rfl) (⟨⟨_, rfl⟩, hS48⟩)
      · have c_189 : ¬ (¬ u58 = 0) := of_decide_eq_false c_189
        refine ml_st (S' := (193, [(0, .ref a), (1, .int x1), (2, .int x2)], [.int 0], M47)) rfl rfl rfl ?_
        refine ml_st (S' := (198, [], [.int 0], M47)) rfl rfl rfl ?_
        exact ml_ret rfl (rfl) (⟨⟨_, rfl⟩, hS48⟩)
  · show ml _ _ _ (199, [(0, .ref a), (1, .int x1), (2, .int x2)], [], M) _
    refine ml_st (S' := (200, [(0, .ref a), (1, .int x1), (2, .int x2)], [.ref a], M)) rfl rfl rfl ?_
    refine tg_ref (S' := (203, [(0, .ref a), (1, .int x1), (2, .int x2)], [.ref c], M)) rfl hS.1 hY0 (by decide) rfl rfl ?_
    refine ml_st (S' := (204, [(0, .ref a), (1, .int x1), (2, .int x2)], [.ref a, .ref c], M)) rfl rfl rfl ?_
    refine tg_ref (S' := (207, [(0, .ref a), (1, .int x1), (2, .int x2)], [.ref b, .ref c], M)) rfl hS.1 hY0 (by decide) rfl rfl ?_
    refine ml_blk 3 (S' := (211, [(0, .ref a), (1, .int x1), (2, .int x2)], [.int (x2 + 6), .ref b, .ref c], M)) rfl ?_
    refine ml_call (a := [.ref b, .int (x2 + 6)]) (rest := [.ref c]) rfl (okc_t rfl rfl rfl hS.1 hY2 (by decide)) rfl rfl (tq_u2 hS.1 hY2 (by omega)) (fun v60 M61 h62 => ?_)
    obtain ⟨⟨u63, rfl⟩, h62⟩ := h62
    rw [h62]
    show ml _ _ _ (214, [(0, .ref a), (1, .int x1), (2, .int x2)], [.int u63, .ref c], M) _
    refine tp_put rfl hS hY1 (by decide) rfl (⟨_, rfl⟩) rfl rfl (fun M64 hS65 f66 => ?_)
    show ml _ _ _ (217, [(0, .ref a), (1, .int x1), (2, .int x2)], [], M64) _
    refine ml_blk 2 (S' := (219, [(0, .ref a), (1, .int x1), (2, .int x2)], [.int x2, .ref a], M64)) rfl ?_
    refine ml_call (a := [.ref a, .int x2]) (rest := []) rfl (okc_t rfl rfl rfl hS65.1 hY0 (by decide)) rfl rfl (tw_At_recordHolds hS65.1 hY0 hY1 hY2 hY3 hY4 (by omega)) (fun v67 M68 h69 => ?_)
    obtain ⟨⟨u70, rfl, z71⟩, h69⟩ := h69
    have hS72 := hS65.tr h69
    show ml _ _ _ (222, [(0, .ref a), (1, .int x1), (2, .int x2)], [.int u70], M68) _
    refine ml_if (S1 := (229, [(0, .ref a), (1, .int x1), (2, .int x2)], [], M68)) (S2 := (225, [(0, .ref a), (1, .int x1), (2, .int x2)], [], M68)) rfl rfl rfl (fun c_222 => ?_) (fun c_222 => ?_)
    · have c_222 : u70 = 0 := of_decide_eq_true c_222
      refine ml_st (S' := (230, [], [.int (-1)], M68)) rfl rfl rfl ?_
      exact ml_ret rfl (rfl) (⟨⟨_, rfl⟩, hS72⟩)
    · have c_222 : ¬ (u70 = 0) := of_decide_eq_false c_222
      refine ml_st (S' := (226, [(0, .ref a), (1, .int x1), (2, .int x2)], [.int 0], M68)) rfl rfl rfl ?_
      refine ml_st (S' := (230, [], [.int 0], M68)) rfl rfl rfl ?_
      exact ml_ret rfl (rfl) (⟨⟨_, rfl⟩, hS72⟩)
  · show ml _ _ _ (231, [(0, .ref a), (1, .int x1), (2, .int x2)], [], M) _
    refine ml_st (S' := (232, [(0, .ref a), (1, .int x1), (2, .int x2)], [.ref a], M)) rfl rfl rfl ?_
    refine tg_ref (S' := (235, [(0, .ref a), (1, .int x1), (2, .int x2)], [.ref c], M)) rfl hS.1 hY0 (by decide) rfl rfl ?_
    refine ml_st (S' := (236, [(0, .ref a), (1, .int x1), (2, .int x2)], [.ref a, .ref c], M)) rfl rfl rfl ?_
    refine tg_ref (S' := (239, [(0, .ref a), (1, .int x1), (2, .int x2)], [.ref b, .ref c], M)) rfl hS.1 hY0 (by decide) rfl rfl ?_
    refine ml_blk 3 (S' := (243, [(0, .ref a), (1, .int x1), (2, .int x2)], [.int (x2 + 6), .ref b, .ref c], M)) rfl ?_
    refine ml_call (a := [.ref b, .int (x2 + 6)]) (rest := [.ref c]) rfl (okc_t rfl rfl rfl hS.1 hY2 (by decide)) rfl rfl (tq_u2 hS.1 hY2 (by omega)) (fun v73 M74 h75 => ?_)
    obtain ⟨⟨u76, rfl⟩, h75⟩ := h75
    rw [h75]
    show ml _ _ _ (246, [(0, .ref a), (1, .int x1), (2, .int x2)], [.int u76, .ref c], M) _
    refine tp_put rfl hS hY1 (by decide) rfl (⟨_, rfl⟩) rfl rfl (fun M77 hS78 f79 => ?_)
    show ml _ _ _ (249, [(0, .ref a), (1, .int x1), (2, .int x2)], [], M77) _
    refine ml_st (S' := (250, [(0, .ref a), (1, .int x1), (2, .int x2)], [.ref a], M77)) rfl rfl rfl ?_
    refine tg_ref (S' := (253, [(0, .ref a), (1, .int x1), (2, .int x2)], [.ref c], M77)) rfl hS78.1 hY0 (by decide) rfl rfl ?_
    refine ml_blk 3 (S' := (257, [(0, .ref a), (1, .int x1), (2, .int x2)], [.int (x2 + 8), .ref c], M77)) rfl ?_
    refine tp_put rfl hS78 hY1 (by decide) rfl (⟨_, rfl⟩) rfl rfl (fun M80 hS81 f82 => ?_)
    show ml _ _ _ (260, [(0, .ref a), (1, .int x1), (2, .int x2)], [], M80) _
    refine ml_st (S' := (261, [(0, .ref a), (1, .int x1), (2, .int x2)], [.ref a], M80)) rfl rfl rfl ?_
    refine ml_call (a := [.ref a]) (rest := []) rfl (okc_t rfl rfl rfl hS81.1 hY0 (by decide)) rfl rfl (tw_At_bootstrapsHold hS81.1 hY0 hY1 hY2 hY3 hY4 (by omega)) (fun v83 M84 h85 => ?_)
    obtain ⟨⟨u86, rfl, z87⟩, h85⟩ := h85
    rw [h85]
    show ml _ _ _ (264, [(0, .ref a), (1, .int x1), (2, .int x2)], [.int u86], M80) _
    refine ml_if (S1 := (271, [(0, .ref a), (1, .int x1), (2, .int x2)], [], M80)) (S2 := (267, [(0, .ref a), (1, .int x1), (2, .int x2)], [], M80)) rfl rfl rfl (fun c_264 => ?_) (fun c_264 => ?_)
    · have c_264 : u86 = 0 := of_decide_eq_true c_264
      refine ml_st (S' := (273, [], [.int 38], M80)) rfl rfl rfl ?_
      exact ml_ret rfl (rfl) (⟨⟨_, rfl⟩, hS81⟩)
    · have c_264 : ¬ (u86 = 0) := of_decide_eq_false c_264
      refine ml_st (S' := (268, [(0, .ref a), (1, .int x1), (2, .int x2)], [.int 0], M80)) rfl rfl rfl ?_
      refine ml_st (S' := (273, [], [.int 0], M80)) rfl rfl rfl ?_
      exact ml_ret rfl (rfl) (⟨⟨_, rfl⟩, hS81⟩)
  · show ml _ _ _ (274, [(0, .ref a), (1, .int x1), (2, .int x2)], [], M) _
    refine ml_st (S' := (275, [(0, .ref a), (1, .int x1), (2, .int x2)], [.int 0], M)) rfl rfl rfl ?_
    exact ml_ret rfl (rfl) (⟨⟨_, rfl⟩, hS⟩)
set_option maxHeartbeats 2000000 in
theorem tw_At_codeAttributesHold {g : xe_G} {M : mi_H} {Y : yT} {a c b p vd da n : Nat} {pp : List Nat} {x1 : Int32}  (hW : WF g Y M) (hY0 : Y.1 a = some (0, [c, b, p, vd])) (hY1 : Y.1 c = some (3, [b, da, n])) (hY2 : Y.1 b = some (1, [da, n])) (hY3 : Y.1 p = some (7, pp)) (hY4 : Y.1 vd = some (10, [])) {d : Nat} (hd : 3 ≤ d) : mt (mT g) d 28 [.ref a, .int x1] M (qZ g Y M) := by
  obtain ⟨d, rfl⟩ : ∃ e, d = e + 1 := ⟨d - 1, by omega⟩
  have hS : st g Y M M := st.rf hW
  refine mt_in (b := mb_28 g) rfl rfl ?_
  show ml (mT g) d (mb_28 g).2 (0, [(0, .ref a), (1, .int x1)], [], M) _
  refine ml_st (S' := (1, [(0, .ref a), (1, .int x1)], [.ref a], M)) rfl rfl rfl ?_
  refine tg_ref (S' := (4, [(0, .ref a), (1, .int x1)], [.ref b], M)) rfl hS.1 hY0 (by decide) rfl rfl ?_
  refine ml_st (S' := (5, [(0, .ref a), (1, .int x1)], [.int x1, .ref b], M)) rfl rfl rfl ?_
  refine ml_call (a := [.ref b, .int x1]) (rest := []) rfl (okc_t rfl rfl rfl hS.1 hY2 (by decide)) rfl rfl (tq_u2 hS.1 hY2 (by omega)) (fun v1 M2 h3 => ?_)
  obtain ⟨⟨u4, rfl⟩, h3⟩ := h3
  rw [h3]
  show ml _ _ _ (8, [(0, .ref a), (1, .int x1)], [.int u4], M) _
  refine ml_st (S' := (9, [(2, .int u4), (0, .ref a), (1, .int x1)], [], M)) rfl rfl rfl ?_
  refine ml_blk 3 (S' := (12, [(2, .int u4), (0, .ref a), (1, .int x1)], [.int (x1 + 2)], M)) rfl ?_
  refine ml_st (S' := (13, [(3, .int (x1 + 2)), (2, .int u4), (0, .ref a), (1, .int x1)], [], M)) rfl rfl rfl ?_
  refine ml_st (S' := (14, [(3, .int (x1 + 2)), (2, .int u4), (0, .ref a), (1, .int x1)], [.int 0], M)) rfl rfl rfl ?_
  refine ml_st (S' := (16, [(0, .ref a), (2, .int u4), (3, .int (x1 + 2)), (4, .int 0)], [], M)) rfl rfl rfl ?_
  have L_16 : ∀ (n_16 : Nat) (i16_3 : Int32) (i16_4 : Int32) (M_16 : mi_H), (2147483648 - i16_4.toInt).toNat ≤ n_16 → st g Y M M_16 → ml (mT g) d (mb_28 g).2 (16, [(0, .ref a), (2, .int u4), (3, .int i16_3), (4, .int i16_4)], [], M_16) (qZ g Y M) := by
    intro n_16
    induction n_16 with
    | zero => intro i16_3 i16_4 M_16 hn; exact (loop_zero hn).elim
    | succ n_16 ih_16 =>
      intro i16_3 i16_4 M_16 hn_16 hS_16
      refine ml_blk 2 (S' := (19, [(0, .ref a), (2, .int u4), (3, .int i16_3), (4, .int i16_4)], [.int u4, .int i16_4], M_16)) rfl ?_
      refine ml_if2 (S1 := (93, [(0, .ref a), (2, .int u4), (3, .int i16_3), (4, .int i16_4)], [], M_16)) (S2 := (22, [(0, .ref a), (2, .int u4), (3, .int i16_3), (4, .int i16_4)], [], M_16)) rfl rfl rfl (fun c_19 => ?_) (fun c_19 => ?_)
      · have c_19 : u4 ≤ i16_4 := of_decide_eq_true c_19
        refine ml_st (S' := (94, [(0, .ref a), (2, .int u4), (3, .int i16_3), (4, .int i16_4)], [.int 1], M_16)) rfl rfl rfl ?_
        exact ml_ret rfl (r_z (Or.inr rfl)) (⟨⟨_, rfl, Or.inr rfl⟩, hS_16⟩)
      · have c_19 : ¬ (u4 ≤ i16_4) := of_decide_eq_false c_19
        refine ml_st (S' := (23, [(0, .ref a), (2, .int u4), (3, .int i16_3), (4, .int i16_4)], [.ref a], M_16)) rfl rfl rfl ?_
        refine tg_ref (S' := (26, [(0, .ref a), (2, .int u4), (3, .int i16_3), (4, .int i16_4)], [.ref c], M_16)) rfl hS_16.1 hY0 (by decide) rfl rfl ?_
        refine tg_int rfl hS_16.1 hY1 (by decide) rfl (fun u5 g6 => ?_)
        show ml _ _ _ (29, [(0, .ref a), (2, .int u4), (3, .int i16_3), (4, .int i16_4)], [.int u5], M_16) _
        refine ml_st (S' := (31, [(0, .ref a), (2, .int u4), (3, .int i16_3), (4, .int i16_4)], [.int 50, .int u5], M_16)) rfl rfl rfl ?_
        have J_59 : ∀ (s59_0 : Int32), ml (mT g) d (mb_28 g).2 (59, [(0, .ref a), (2, .int u4), (3, .int i16_3), (4, .int i16_4)], [.int s59_0], M_16) (qZ g Y M) := by
          intro s59_0
          refine ml_st (S' := (61, [(5, .int s59_0), (0, .ref a), (2, .int u4), (3, .int i16_3), (4, .int i16_4)], [], M_16)) rfl rfl rfl ?_
          refine ml_blk 3 (S' := (65, [(5, .int s59_0), (0, .ref a), (2, .int u4), (3, .int i16_3), (4, .int i16_4)], [.int s59_0, .int i16_3, .ref a], M_16)) rfl ?_
          refine ml_if (S1 := (72, [(5, .int s59_0), (0, .ref a), (2, .int u4), (3, .int i16_3), (4, .int i16_4)], [.int i16_3, .ref a], M_16)) (S2 := (68, [(5, .int s59_0), (0, .ref a), (2, .int u4), (3, .int i16_3), (4, .int i16_4)], [.int i16_3, .ref a], M_16)) rfl rfl rfl (fun c_65 => ?_) (fun c_65 => ?_)
          · have c_65 : s59_0 = 0 := of_decide_eq_true c_65
            refine ml_st (S' := (73, [(0, .ref a), (2, .int u4), (3, .int i16_3), (4, .int i16_4)], [.int 0, .int i16_3, .ref a], M_16)) rfl rfl rfl ?_
            refine ml_call (a := [.ref a, .int i16_3, .int 0]) (rest := []) rfl (okc_t rfl rfl rfl hS_16.1 hY0 (by decide)) rfl rfl (tw_At_isNew hS_16.1 hY0 hY1 hY2 hY3 hY4 (by omega)) (fun v7 M8 h9 => ?_)
            obtain ⟨⟨u10, rfl, z11⟩, h9⟩ := h9
            have hS12 := hS_16.tr h9
            show ml _ _ _ (76, [(0, .ref a), (2, .int u4), (3, .int i16_3), (4, .int i16_4)], [.int u10], M8) _
            refine ml_if (S1 := (81, [(0, .ref a), (2, .int u4), (3, .int i16_3), (4, .int i16_4)], [], M8)) (S2 := (79, [(0, .ref a), (2, .int u4), (3, .int i16_3), (4, .int i16_4)], [], M8)) rfl rfl rfl (fun c_76 => ?_) (fun c_76 => ?_)
            · have c_76 : ¬ u10 = 0 := of_decide_eq_true c_76
              refine ml_blk 2 (S' := (83, [(0, .ref a), (2, .int u4), (3, .int i16_3), (4, .int i16_4)], [.int i16_3, .ref a], M8)) rfl ?_
              refine ml_call (a := [.ref a, .int i16_3]) (rest := []) rfl (okc_t rfl rfl rfl hS12.1 hY0 (by decide)) rfl rfl (tw_At_behind hS12.1 hY0 hY1 hY2 hY3 hY4 (by omega)) (fun v13 M14 h15 => ?_)
              obtain ⟨⟨u16, rfl⟩, h15⟩ := h15
              rw [h15]
              show ml _ _ _ (86, [(0, .ref a), (2, .int u4), (3, .int i16_3), (4, .int i16_4)], [.int u16], M8) _
              refine ml_st (S' := (87, [(3, .int u16), (0, .ref a), (2, .int u4), (4, .int i16_4)], [], M8)) rfl rfl rfl ?_
              refine ml_st (S' := (90, [(4, .int (i16_4 + 1)), (3, .int u16), (0, .ref a), (2, .int u4)], [], M8)) rfl rfl rfl ?_
              refine ml_st (S' := (16, [(0, .ref a), (2, .int u4), (3, .int u16), (4, .int (i16_4 + 1))], [], M8)) rfl rfl rfl ?_
              exact ih_16 u16 (i16_4 + 1) _ (loop_inc (Int32.not_le.mp c_19) hn_16) hS12
            · have c_76 : ¬ (¬ u10 = 0) := of_decide_eq_false c_76
              refine ml_st (S' := (80, [(0, .ref a), (2, .int u4), (3, .int i16_3), (4, .int i16_4)], [.int 0], M8)) rfl rfl rfl ?_
              exact ml_ret rfl (r_z (Or.inl rfl)) (⟨⟨_, rfl, Or.inl rfl⟩, hS12⟩)
          · have c_65 : ¬ (s59_0 = 0) := of_decide_eq_false c_65
            refine ml_st (S' := (69, [(5, .int s59_0), (0, .ref a), (2, .int u4), (3, .int i16_3), (4, .int i16_4)], [.int 4, .int i16_3, .ref a], M_16)) rfl rfl rfl ?_
            refine ml_st (S' := (73, [(0, .ref a), (2, .int u4), (3, .int i16_3), (4, .int i16_4)], [.int 4, .int i16_3, .ref a], M_16)) rfl rfl rfl ?_
            refine ml_call (a := [.ref a, .int i16_3, .int 4]) (rest := []) rfl (okc_t rfl rfl rfl hS_16.1 hY0 (by decide)) rfl rfl (tw_At_isNew hS_16.1 hY0 hY1 hY2 hY3 hY4 (by omega)) (fun v17 M18 h19 => ?_)
            obtain ⟨⟨u20, rfl, z21⟩, h19⟩ := h19
            have hS22 := hS_16.tr h19
            show ml _ _ _ (76, [(0, .ref a), (2, .int u4), (3, .int i16_3), (4, .int i16_4)], [.int u20], M18) _
            refine ml_if (S1 := (81, [(0, .ref a), (2, .int u4), (3, .int i16_3), (4, .int i16_4)], [], M18)) (S2 := (79, [(0, .ref a), (2, .int u4), (3, .int i16_3), (4, .int i16_4)], [], M18)) rfl rfl rfl (fun c_76 => ?_) (fun c_76 => ?_)
            · have c_76 : ¬ u20 = 0 := of_decide_eq_true c_76
              refine ml_blk 2 (S' := (83, [(0, .ref a), (2, .int u4), (3, .int i16_3), (4, .int i16_4)], [.int i16_3, .ref a], M18)) rfl ?_
              refine ml_call (a := [.ref a, .int i16_3]) (rest := []) rfl (okc_t rfl rfl rfl hS22.1 hY0 (by decide)) rfl rfl (tw_At_behind hS22.1 hY0 hY1 hY2 hY3 hY4 (by omega)) (fun v23 M24 h25 => ?_)
              obtain ⟨⟨u26, rfl⟩, h25⟩ := h25
              rw [h25]
              show ml _ _ _ (86, [(0, .ref a), (2, .int u4), (3, .int i16_3), (4, .int i16_4)], [.int u26], M18) _
              refine ml_st (S' := (87, [(3, .int u26), (0, .ref a), (2, .int u4), (4, .int i16_4)], [], M18)) rfl rfl rfl ?_
              refine ml_st (S' := (90, [(4, .int (i16_4 + 1)), (3, .int u26), (0, .ref a), (2, .int u4)], [], M18)) rfl rfl rfl ?_
              refine ml_st (S' := (16, [(0, .ref a), (2, .int u4), (3, .int u26), (4, .int (i16_4 + 1))], [], M18)) rfl rfl rfl ?_
              exact ih_16 u26 (i16_4 + 1) _ (loop_inc (Int32.not_le.mp c_19) hn_16) hS22
            · have c_76 : ¬ (¬ u20 = 0) := of_decide_eq_false c_76
              refine ml_st (S' := (80, [(0, .ref a), (2, .int u4), (3, .int i16_3), (4, .int i16_4)], [.int 0], M18)) rfl rfl rfl ?_
              exact ml_ret rfl (r_z (Or.inl rfl)) (⟨⟨_, rfl, Or.inl rfl⟩, hS22⟩)
        have J_58 : ml (mT g) d (mb_28 g).2 (58, [(0, .ref a), (2, .int u4), (3, .int i16_3), (4, .int i16_4)], [], M_16) (qZ g Y M) := by
          refine ml_st (S' := (59, [(0, .ref a), (2, .int u4), (3, .int i16_3), (4, .int i16_4)], [.int 0], M_16)) rfl rfl rfl ?_
          exact J_59 0
        refine ml_if2 (S1 := (58, [(0, .ref a), (2, .int u4), (3, .int i16_3), (4, .int i16_4)], [], M_16)) (S2 := (34, [(0, .ref a), (2, .int u4), (3, .int i16_3), (4, .int i16_4)], [], M_16)) rfl rfl rfl (fun c_31 => ?_) (fun c_31 => ?_)
        · have c_31 : u5 < 50 := of_decide_eq_true c_31
          exact J_58 
        · have c_31 : ¬ (u5 < 50) := of_decide_eq_false c_31
          refine ml_st (S' := (35, [(0, .ref a), (2, .int u4), (3, .int i16_3), (4, .int i16_4)], [.ref a], M_16)) rfl rfl rfl ?_
          refine tg_ref (S' := (38, [(0, .ref a), (2, .int u4), (3, .int i16_3), (4, .int i16_4)], [.ref p], M_16)) rfl hS_16.1 hY0 (by decide) rfl rfl ?_
          refine ml_st (S' := (39, [(0, .ref a), (2, .int u4), (3, .int i16_3), (4, .int i16_4)], [.ref a, .ref p], M_16)) rfl rfl rfl ?_
          refine tg_ref (S' := (42, [(0, .ref a), (2, .int u4), (3, .int i16_3), (4, .int i16_4)], [.ref b, .ref p], M_16)) rfl hS_16.1 hY0 (by decide) rfl rfl ?_
          refine ml_st (S' := (43, [(0, .ref a), (2, .int u4), (3, .int i16_3), (4, .int i16_4)], [.int i16_3, .ref b, .ref p], M_16)) rfl rfl rfl ?_
          refine ml_call (a := [.ref b, .int i16_3]) (rest := [.ref p]) rfl (okc_t rfl rfl rfl hS_16.1 hY2 (by decide)) rfl rfl (tq_u2 hS_16.1 hY2 (by omega)) (fun v27 M28 h29 => ?_)
          obtain ⟨⟨u30, rfl⟩, h29⟩ := h29
          rw [h29]
          show ml _ _ _ (46, [(0, .ref a), (2, .int u4), (3, .int i16_3), (4, .int i16_4)], [.int u30, .ref p], M_16) _
          refine ml_st (S' := (48, [(0, .ref a), (2, .int u4), (3, .int i16_3), (4, .int i16_4)], [.ref (g.2.1 10), .int u30, .ref p], M_16)) rfl rfl rfl ?_
          refine ml_call (a := [.ref p, .int u30, .ref (g.2.1 10)]) (rest := []) rfl (okc_t rfl rfl rfl hS_16.1 hY3 (by decide)) rfl rfl (tq_textIs (lk := 10) hS_16.1 hY3 (by decide) (by omega)) (fun v31 M32 h33 => ?_)
          obtain ⟨⟨x34, rfl, z35⟩, h33⟩ := h33
          rw [h33]
          show ml _ _ _ (51, [(0, .ref a), (2, .int u4), (3, .int i16_3), (4, .int i16_4)], [.int x34], M_16) _
          refine ml_if (S1 := (58, [(0, .ref a), (2, .int u4), (3, .int i16_3), (4, .int i16_4)], [], M_16)) (S2 := (54, [(0, .ref a), (2, .int u4), (3, .int i16_3), (4, .int i16_4)], [], M_16)) rfl rfl rfl (fun c_51 => ?_) (fun c_51 => ?_)
          · have c_51 : x34 = 0 := of_decide_eq_true c_51
            exact J_58 
          · have c_51 : ¬ (x34 = 0) := of_decide_eq_false c_51
            refine ml_st (S' := (55, [(0, .ref a), (2, .int u4), (3, .int i16_3), (4, .int i16_4)], [.int 1], M_16)) rfl rfl rfl ?_
            refine ml_st (S' := (59, [(0, .ref a), (2, .int u4), (3, .int i16_3), (4, .int i16_4)], [.int 1], M_16)) rfl rfl rfl ?_
            exact J_59 1
  exact L_16 _ (x1 + 2) 0 _ (Nat.le_refl _) hS
set_option maxHeartbeats 2000000 in
theorem tw_At_ofClass {g : xe_G} {M : mi_H} {Y : yT} {a c b p vd da n : Nat} {pp : List Nat}  (hW : WF g Y M) (hY0 : Y.1 a = some (0, [c, b, p, vd])) (hY1 : Y.1 c = some (3, [b, da, n])) (hY2 : Y.1 b = some (1, [da, n])) (hY3 : Y.1 p = some (7, pp)) (hY4 : Y.1 vd = some (10, [])) {d : Nat} (hd : 6 ≤ d) : mt (mT g) d 38 [.ref a] M (qZ g Y M) := by
  obtain ⟨d, rfl⟩ : ∃ e, d = e + 1 := ⟨d - 1, by omega⟩
  have hS : st g Y M M := st.rf hW
  refine mt_in (b := mb_38 g) rfl rfl ?_
  show ml (mT g) d (mb_38 g).2 (0, [(0, .ref a)], [], M) _
  refine ml_blk 2 (S' := (2, [(0, .ref a)], [.int 0, .ref a], M)) rfl ?_
  refine tp_put rfl hS hY0 (by decide) rfl (⟨_, rfl⟩) rfl rfl (fun M1 hS2 f3 => ?_)
  show ml _ _ _ (5, [(0, .ref a)], [], M1) _
  refine ml_st (S' := (6, [(0, .ref a)], [.ref a], M1)) rfl rfl rfl ?_
  refine tg_ref (S' := (9, [(0, .ref a)], [.ref c], M1)) rfl hS2.1 hY0 (by decide) rfl rfl ?_
  refine tg_int rfl hS2.1 hY1 (by decide) rfl (fun u4 g5 => ?_)
  show ml _ _ _ (12, [(0, .ref a)], [.int u4], M1) _
  refine ml_st (S' := (13, [(1, .int u4), (0, .ref a)], [], M1)) rfl rfl rfl ?_
  refine ml_st (S' := (14, [(1, .int u4), (0, .ref a)], [.int 0], M1)) rfl rfl rfl ?_
  refine ml_st (S' := (15, [(0, .ref a), (1, .int u4), (2, .int 0)], [], M1)) rfl rfl rfl ?_
  have L_15 : ∀ (n_15 : Nat) (i15_1 : Int32) (i15_2 : Int32) (M_15 : mi_H), (2147483648 - i15_2.toInt).toNat ≤ n_15 → st g Y M M_15 → ml (mT g) d (mb_38 g).2 (15, [(0, .ref a), (1, .int i15_1), (2, .int i15_2)], [], M_15) (qZ g Y M) := by
    intro n_15
    induction n_15 with
    | zero => intro i15_1 i15_2 M_15 hn; exact (loop_zero hn).elim
    | succ n_15 ih_15 =>
      intro i15_1 i15_2 M_15 hn_15 hS_15
      refine ml_blk 2 (S' := (17, [(0, .ref a), (1, .int i15_1), (2, .int i15_2)], [.ref a, .int i15_2], M_15)) rfl ?_
      refine tg_ref (S' := (20, [(0, .ref a), (1, .int i15_1), (2, .int i15_2)], [.ref c, .int i15_2], M_15)) rfl hS_15.1 hY0 (by decide) rfl rfl ?_
      refine tg_int rfl hS_15.1 hY1 (by decide) rfl (fun u6 g7 => ?_)
      show ml _ _ _ (23, [(0, .ref a), (1, .int i15_1), (2, .int i15_2)], [.int u6, .int i15_2], M_15) _
      refine ml_if2 (S1 := (132, [(0, .ref a), (1, .int i15_1), (2, .int i15_2)], [], M_15)) (S2 := (26, [(0, .ref a), (1, .int i15_1), (2, .int i15_2)], [], M_15)) rfl rfl rfl (fun c_23 => ?_) (fun c_23 => ?_)
      · have c_23 : u6 ≤ i15_2 := of_decide_eq_true c_23
        refine ml_st (S' := (133, [(0, .ref a), (1, .int i15_1), (2, .int i15_2)], [.ref a], M_15)) rfl rfl rfl ?_
        refine tg_ref (S' := (136, [(0, .ref a), (1, .int i15_1), (2, .int i15_2)], [.ref c], M_15)) rfl hS_15.1 hY0 (by decide) rfl rfl ?_
        refine ml_st (S' := (137, [(0, .ref a), (1, .int i15_1), (2, .int i15_2)], [.ref a, .ref c], M_15)) rfl rfl rfl ?_
        refine tg_int rfl hS_15.1 hY0 (by decide) rfl (fun u8 g9 => ?_)
        show ml _ _ _ (140, [(0, .ref a), (1, .int i15_1), (2, .int i15_2)], [.int u8, .ref c], M_15) _
        refine ml_call (a := [.int u8]) (rest := [.ref c]) rfl (rfl) rfl rfl (tw_J_bitCount hS_15.1  (by omega)) (fun v10 M11 h12 => ?_)
        obtain ⟨⟨u13, rfl⟩, h12⟩ := h12
        rw [h12]
        show ml _ _ _ (143, [(0, .ref a), (1, .int i15_1), (2, .int i15_2)], [.int u13, .ref c], M_15) _
        refine tp_put rfl hS_15 hY1 (by decide) rfl (⟨_, rfl⟩) rfl rfl (fun M14 hS15 f16 => ?_)
        show ml _ _ _ (146, [(0, .ref a), (1, .int i15_1), (2, .int i15_2)], [], M14) _
        refine ml_st (S' := (147, [(0, .ref a), (1, .int i15_1), (2, .int i15_2)], [.int 1], M14)) rfl rfl rfl ?_
        exact ml_ret rfl (r_z (Or.inr rfl)) (⟨⟨_, rfl, Or.inr rfl⟩, hS15⟩)
      · have c_23 : ¬ (u6 ≤ i15_2) := of_decide_eq_false c_23
        refine ml_blk 2 (S' := (28, [(0, .ref a), (1, .int i15_1), (2, .int i15_2)], [.ref a, .ref a], M_15)) rfl ?_
        refine tg_ref (S' := (31, [(0, .ref a), (1, .int i15_1), (2, .int i15_2)], [.ref b, .ref a], M_15)) rfl hS_15.1 hY0 (by decide) rfl rfl ?_
        refine ml_st (S' := (32, [(0, .ref a), (1, .int i15_1), (2, .int i15_2)], [.int i15_1, .ref b, .ref a], M_15)) rfl rfl rfl ?_
        refine ml_call (a := [.ref b, .int i15_1]) (rest := [.ref a]) rfl (okc_t rfl rfl rfl hS_15.1 hY2 (by decide)) rfl rfl (tq_u2 hS_15.1 hY2 (by omega)) (fun v17 M18 h19 => ?_)
        obtain ⟨⟨u20, rfl⟩, h19⟩ := h19
        rw [h19]
        show ml _ _ _ (35, [(0, .ref a), (1, .int i15_1), (2, .int i15_2)], [.int u20, .ref a], M_15) _
        refine ml_call (a := [.ref a, .int u20]) (rest := []) rfl (okc_t rfl rfl rfl hS_15.1 hY0 (by decide)) rfl rfl (tw_At_classKind hS_15.1 hY0 hY1 hY2 hY3 hY4 (by omega)) (fun v21 M22 h23 => ?_)
        obtain ⟨⟨u24, rfl⟩, h23⟩ := h23
        rw [h23]
        show ml _ _ _ (38, [(0, .ref a), (1, .int i15_1), (2, .int i15_2)], [.int u24], M_15) _
        refine ml_st (S' := (39, [(3, .int u24), (0, .ref a), (1, .int i15_1), (2, .int i15_2)], [], M_15)) rfl rfl rfl ?_
        refine ml_blk 3 (S' := (42, [(3, .int u24), (0, .ref a), (1, .int i15_1), (2, .int i15_2)], [.int u24, .int i15_1, .ref a], M_15)) rfl ?_
        refine ml_call (a := [.ref a, .int i15_1, .int u24]) (rest := []) rfl (okc_t rfl rfl rfl hS_15.1 hY0 (by decide)) rfl rfl (tw_At_isNew hS_15.1 hY0 hY1 hY2 hY3 hY4 (by omega)) (fun v25 M26 h27 => ?_)
        obtain ⟨⟨u28, rfl, z29⟩, h27⟩ := h27
        have hS30 := hS_15.tr h27
        show ml _ _ _ (45, [(3, .int u24), (0, .ref a), (1, .int i15_1), (2, .int i15_2)], [.int u28], M26) _
        refine ml_if (S1 := (50, [(3, .int u24), (0, .ref a), (1, .int i15_1), (2, .int i15_2)], [], M26)) (S2 := (48, [(3, .int u24), (0, .ref a), (1, .int i15_1), (2, .int i15_2)], [], M26)) rfl rfl rfl (fun c_45 => ?_) (fun c_45 => ?_)
        · have c_45 : ¬ u28 = 0 := of_decide_eq_true c_45
          refine ml_st (S' := (51, [(3, .int u24), (0, .ref a), (1, .int i15_1), (2, .int i15_2)], [.int u24], M26)) rfl rfl rfl ?_
          have J_87 : ml (mT g) d (mb_38 g).2 (87, [(0, .ref a), (1, .int i15_1), (2, .int i15_2), (3, .int u24)], [], M26) (qZ g Y M) := by
            refine ml_blk 3 (S' := (90, [(0, .ref a), (1, .int i15_1), (2, .int i15_2), (3, .int u24)], [.int i15_1, .int u24, .ref a], M26)) rfl ?_
            refine ml_call (a := [.ref a, .int u24, .int i15_1]) (rest := []) rfl (okc_t rfl rfl rfl hS30.1 hY0 (by decide)) rfl rfl (tw_At_brokenRule hS30.1 hY0 hY1 hY2 hY3 hY4 (by omega)) (fun v31 M32 h33 => ?_)
            obtain ⟨⟨u34, rfl⟩, h33⟩ := h33
            have hS35 := hS30.tr h33
            show ml _ _ _ (93, [(0, .ref a), (1, .int i15_1), (2, .int i15_2), (3, .int u24)], [.int u34], M32) _
            refine ml_st (S' := (95, [(4, .int u34), (0, .ref a), (1, .int i15_1), (2, .int i15_2), (3, .int u24)], [], M32)) rfl rfl rfl ?_
            refine ml_st (S' := (97, [(4, .int u34), (0, .ref a), (1, .int i15_1), (2, .int i15_2), (3, .int u24)], [.int u34], M32)) rfl rfl rfl ?_
            refine ml_if (S1 := (120, [(4, .int u34), (0, .ref a), (1, .int i15_1), (2, .int i15_2), (3, .int u24)], [], M32)) (S2 := (100, [(4, .int u34), (0, .ref a), (1, .int i15_1), (2, .int i15_2), (3, .int u24)], [], M32)) rfl rfl rfl (fun c_97 => ?_) (fun c_97 => ?_)
            · have c_97 : u34 = 0 := of_decide_eq_true c_97
              refine ml_blk 2 (S' := (122, [(4, .int u34), (0, .ref a), (1, .int i15_1), (2, .int i15_2), (3, .int u24)], [.int i15_1, .ref a], M32)) rfl ?_
              refine ml_call (a := [.ref a, .int i15_1]) (rest := []) rfl (okc_t rfl rfl rfl hS35.1 hY0 (by decide)) rfl rfl (tw_At_behind hS35.1 hY0 hY1 hY2 hY3 hY4 (by omega)) (fun v36 M37 h38 => ?_)
              obtain ⟨⟨u39, rfl⟩, h38⟩ := h38
              rw [h38]
              show ml _ _ _ (125, [(4, .int u34), (0, .ref a), (1, .int i15_1), (2, .int i15_2), (3, .int u24)], [.int u39], M32) _
              refine ml_st (S' := (126, [(1, .int u39), (4, .int u34), (0, .ref a), (2, .int i15_2), (3, .int u24)], [], M32)) rfl rfl rfl ?_
              refine ml_st (S' := (129, [(2, .int (i15_2 + 1)), (1, .int u39), (4, .int u34), (0, .ref a), (3, .int u24)], [], M32)) rfl rfl rfl ?_
              refine ml_st (S' := (15, [(0, .ref a), (1, .int u39), (2, .int (i15_2 + 1))], [], M32)) rfl rfl rfl ?_
              exact ih_15 u39 (i15_2 + 1) _ (loop_inc (Int32.not_le.mp c_23) hn_15) hS35
            · have c_97 : ¬ (u34 = 0) := of_decide_eq_false c_97
              refine ml_st (S' := (102, [(4, .int u34), (0, .ref a), (1, .int i15_1), (2, .int i15_2), (3, .int u24)], [.int u34], M32)) rfl rfl rfl ?_
              refine ml_if (S1 := (109, [(4, .int u34), (0, .ref a), (1, .int i15_1), (2, .int i15_2), (3, .int u24)], [], M32)) (S2 := (105, [(4, .int u34), (0, .ref a), (1, .int i15_1), (2, .int i15_2), (3, .int u24)], [], M32)) rfl rfl rfl (fun c_102 => ?_) (fun c_102 => ?_)
              · have c_102 : 0 ≤ u34 := of_decide_eq_true c_102
                refine ml_st (S' := (110, [(4, .int u34), (0, .ref a), (1, .int i15_1), (2, .int i15_2), (3, .int u24)], [.ref a], M32)) rfl rfl rfl ?_
                refine tg_ref (S' := (113, [(4, .int u34), (0, .ref a), (1, .int i15_1), (2, .int i15_2), (3, .int u24)], [.ref vd], M32)) rfl hS35.1 hY0 (by decide) rfl rfl ?_
                refine ml_blk 2 (S' := (116, [(4, .int u34), (0, .ref a), (1, .int i15_1), (2, .int i15_2), (3, .int u24)], [.int i15_1, .int u34, .ref vd], M32)) rfl ?_
                refine ml_call (a := [.ref vd, .int u34, .int i15_1]) (rest := []) rfl (okc_t rfl rfl rfl hS35.1 hY4 (by decide)) rfl rfl (tw_Ve_wrong hS35.1 hY4 (by omega)) (fun v40 M41 h42 => ?_)
                obtain ⟨rfl, h42⟩ := h42
                have hS44 := hS35.tr h42.1
                show ml _ _ _ (119, [], [.int 0], M41) _
                exact ml_ret rfl (r_z (Or.inl rfl)) (⟨⟨_, rfl, Or.inl rfl⟩, hS44⟩)
              · have c_102 : ¬ (0 ≤ u34) := of_decide_eq_false c_102
                refine ml_st (S' := (106, [(4, .int u34), (0, .ref a), (1, .int i15_1), (2, .int i15_2), (3, .int u24)], [.int 0], M32)) rfl rfl rfl ?_
                refine ml_st (S' := (119, [], [.int 0], M32)) rfl rfl rfl ?_
                exact ml_ret rfl (r_z (Or.inl rfl)) (⟨⟨_, rfl, Or.inl rfl⟩, hS35⟩)
          refine ml_if (S1 := (87, [(0, .ref a), (1, .int i15_1), (2, .int i15_2), (3, .int u24)], [], M26)) (S2 := (54, [(3, .int u24), (0, .ref a), (1, .int i15_1), (2, .int i15_2)], [], M26)) rfl rfl rfl (fun c_51 => ?_) (fun c_51 => ?_)
          · have c_51 : u24 = 0 := of_decide_eq_true c_51
            exact J_87 
          · have c_51 : ¬ (u24 = 0) := of_decide_eq_false c_51
            refine ml_blk 3 (S' := (57, [(3, .int u24), (0, .ref a), (1, .int i15_1), (2, .int i15_2)], [.int i15_1, .int u24, .ref a], M26)) rfl ?_
            refine ml_blk 3 (S' := (61, [(3, .int u24), (0, .ref a), (1, .int i15_1), (2, .int i15_2)], [.ref a, .int (i15_1 + 6), .int u24, .ref a], M26)) rfl ?_
            refine ml_st (S' := (62, [(3, .int u24), (0, .ref a), (1, .int i15_1), (2, .int i15_2)], [.int i15_1, .ref a, .int (i15_1 + 6), .int u24, .ref a], M26)) rfl rfl rfl ?_
            refine ml_call (a := [.ref a, .int i15_1]) (rest := [.int (i15_1 + 6), .int u24, .ref a]) rfl (okc_t rfl rfl rfl hS30.1 hY0 (by decide)) rfl rfl (tw_At_behind hS30.1 hY0 hY1 hY2 hY3 hY4 (by omega)) (fun v45 M46 h47 => ?_)
            obtain ⟨⟨u48, rfl⟩, h47⟩ := h47
            rw [h47]
            show ml _ _ _ (65, [(3, .int u24), (0, .ref a), (1, .int i15_1), (2, .int i15_2)], [.int u48, .int (i15_1 + 6), .int u24, .ref a], M26) _
            refine ml_call (a := [.ref a, .int u24, .int (i15_1 + 6), .int u48]) (rest := []) rfl (okc_t rfl rfl rfl hS30.1 hY0 (by decide)) rfl rfl (tw_At_formEnd hS30.1 hY0 hY1 hY2 hY3 hY4 (by omega)) (fun v49 M50 h51 => ?_)
            obtain ⟨⟨u52, rfl⟩, h51⟩ := h51
            rw [h51]
            show ml _ _ _ (68, [(3, .int u24), (0, .ref a), (1, .int i15_1), (2, .int i15_2)], [.int u52], M26) _
            refine ml_blk 2 (S' := (70, [(3, .int u24), (0, .ref a), (1, .int i15_1), (2, .int i15_2)], [.int i15_1, .ref a, .int u52], M26)) rfl ?_
            refine ml_call (a := [.ref a, .int i15_1]) (rest := [.int u52]) rfl (okc_t rfl rfl rfl hS30.1 hY0 (by decide)) rfl rfl (tw_At_behind hS30.1 hY0 hY1 hY2 hY3 hY4 (by omega)) (fun v53 M54 h55 => ?_)
            obtain ⟨⟨u56, rfl⟩, h55⟩ := h55
            rw [h55]
            show ml _ _ _ (73, [(3, .int u24), (0, .ref a), (1, .int i15_1), (2, .int i15_2)], [.int u56, .int u52], M26) _
            refine ml_if2 (S1 := (87, [(0, .ref a), (1, .int i15_1), (2, .int i15_2), (3, .int u24)], [], M26)) (S2 := (76, [(3, .int u24), (0, .ref a), (1, .int i15_1), (2, .int i15_2)], [], M26)) rfl rfl rfl (fun c_73 => ?_) (fun c_73 => ?_)
            · have c_73 : u52 = u56 := of_decide_eq_true c_73
              exact J_87 
            · have c_73 : ¬ (u52 = u56) := of_decide_eq_false c_73
              refine ml_st (S' := (77, [(3, .int u24), (0, .ref a), (1, .int i15_1), (2, .int i15_2)], [.ref a], M26)) rfl rfl rfl ?_
              refine tg_ref (S' := (80, [(3, .int u24), (0, .ref a), (1, .int i15_1), (2, .int i15_2)], [.ref vd], M26)) rfl hS30.1 hY0 (by decide) rfl rfl ?_
              refine ml_blk 2 (S' := (83, [(3, .int u24), (0, .ref a), (1, .int i15_1), (2, .int i15_2)], [.int i15_1, .int 30, .ref vd], M26)) rfl ?_
              refine ml_call (a := [.ref vd, .int 30, .int i15_1]) (rest := []) rfl (okc_t rfl rfl rfl hS30.1 hY4 (by decide)) rfl rfl (tw_Ve_wrong hS30.1 hY4 (by omega)) (fun v57 M58 h59 => ?_)
              obtain ⟨rfl, h59⟩ := h59
              have hS61 := hS30.tr h59.1
              show ml _ _ _ (86, [(3, .int u24), (0, .ref a), (1, .int i15_1), (2, .int i15_2)], [.int 0], M58) _
              exact ml_ret rfl (r_z (Or.inl rfl)) (⟨⟨_, rfl, Or.inl rfl⟩, hS61⟩)
        · have c_45 : ¬ (¬ u28 = 0) := of_decide_eq_false c_45
          refine ml_st (S' := (49, [(3, .int u24), (0, .ref a), (1, .int i15_1), (2, .int i15_2)], [.int 0], M26)) rfl rfl rfl ?_
          exact ml_ret rfl (r_z (Or.inl rfl)) (⟨⟨_, rfl, Or.inl rfl⟩, hS30⟩)
  exact L_15 _ u4 0 _ (Nat.le_refl _) hS2
set_option maxHeartbeats 2000000 in
theorem tw_At_ofField {g : xe_G} {M : mi_H} {Y : yT} {a c b p vd da n me : Nat} {pp : List Nat}  (hW : WF g Y M) (hY0 : Y.1 a = some (0, [c, b, p, vd])) (hY1 : Y.1 c = some (3, [b, da, n])) (hY2 : Y.1 b = some (1, [da, n])) (hY3 : Y.1 p = some (7, pp)) (hY4 : Y.1 vd = some (10, [])) (hY5 : Y.1 me = some (6, [da, n])) {d : Nat} (hd : 5 ≤ d) : mt (mT g) d 39 [.ref a, .ref me] M (qZ g Y M) := by
  obtain ⟨d, rfl⟩ : ∃ e, d = e + 1 := ⟨d - 1, by omega⟩
  have hS : st g Y M M := st.rf hW
  refine mt_in (b := mb_39 g) rfl rfl ?_
  show ml (mT g) d (mb_39 g).2 (0, [(0, .ref a), (1, .ref me)], [], M) _
  refine ml_blk 2 (S' := (2, [(0, .ref a), (1, .ref me)], [.int 0, .ref a], M)) rfl ?_
  refine tp_put rfl hS hY0 (by decide) rfl (⟨_, rfl⟩) rfl rfl (fun M1 hS2 f3 => ?_)
  show ml _ _ _ (5, [(0, .ref a), (1, .ref me)], [], M1) _
  refine ml_st (S' := (6, [(0, .ref a), (1, .ref me)], [.ref me], M1)) rfl rfl rfl ?_
  refine tg_int rfl hS2.1 hY5 (by decide) rfl (fun u4 g5 => ?_)
  show ml _ _ _ (9, [(0, .ref a), (1, .ref me)], [.int u4], M1) _
  refine ml_st (S' := (10, [(2, .int u4), (0, .ref a), (1, .ref me)], [], M1)) rfl rfl rfl ?_
  refine ml_st (S' := (11, [(2, .int u4), (0, .ref a), (1, .ref me)], [.int 0], M1)) rfl rfl rfl ?_
  refine ml_st (S' := (12, [(0, .ref a), (1, .ref me), (2, .int u4), (3, .int 0)], [], M1)) rfl rfl rfl ?_
  have L_12 : ∀ (n_12 : Nat) (i12_2 : Int32) (i12_3 : Int32) (M_12 : mi_H), (2147483648 - i12_3.toInt).toNat ≤ n_12 → st g Y M M_12 → ml (mT g) d (mb_39 g).2 (12, [(0, .ref a), (1, .ref me), (2, .int i12_2), (3, .int i12_3)], [], M_12) (qZ g Y M) := by
    intro n_12
    induction n_12 with
    | zero => intro i12_2 i12_3 M_12 hn; exact (loop_zero hn).elim
    | succ n_12 ih_12 =>
      intro i12_2 i12_3 M_12 hn_12 hS_12
      refine ml_blk 2 (S' := (14, [(0, .ref a), (1, .ref me), (2, .int i12_2), (3, .int i12_3)], [.ref me, .int i12_3], M_12)) rfl ?_
      refine tg_int rfl hS_12.1 hY5 (by decide) rfl (fun u6 g7 => ?_)
      show ml _ _ _ (17, [(0, .ref a), (1, .ref me), (2, .int i12_2), (3, .int i12_3)], [.int u6, .int i12_3], M_12) _
      refine ml_if2 (S1 := (173, [(0, .ref a), (1, .ref me), (2, .int i12_2), (3, .int i12_3)], [], M_12)) (S2 := (20, [(0, .ref a), (1, .ref me), (2, .int i12_2), (3, .int i12_3)], [], M_12)) rfl rfl rfl (fun c_17 => ?_) (fun c_17 => ?_)
      · have c_17 : u6 ≤ i12_3 := of_decide_eq_true c_17
        refine ml_blk 2 (S' := (175, [(0, .ref a), (1, .ref me), (2, .int i12_2), (3, .int i12_3)], [.ref a, .ref me], M_12)) rfl ?_
        refine tg_int rfl hS_12.1 hY0 (by decide) rfl (fun u8 g9 => ?_)
        show ml _ _ _ (178, [(0, .ref a), (1, .ref me), (2, .int i12_2), (3, .int i12_3)], [.int u8, .ref me], M_12) _
        refine ml_call (a := [.int u8]) (rest := [.ref me]) rfl (rfl) rfl rfl (tw_J_bitCount hS_12.1  (by omega)) (fun v10 M11 h12 => ?_)
        obtain ⟨⟨u13, rfl⟩, h12⟩ := h12
        rw [h12]
        show ml _ _ _ (181, [(0, .ref a), (1, .ref me), (2, .int i12_2), (3, .int i12_3)], [.int u13, .ref me], M_12) _
        refine tp_put rfl hS_12 hY5 (by decide) rfl (⟨_, rfl⟩) rfl rfl (fun M14 hS15 f16 => ?_)
        show ml _ _ _ (184, [(0, .ref a), (1, .ref me), (2, .int i12_2), (3, .int i12_3)], [], M14) _
        refine ml_st (S' := (185, [(0, .ref a), (1, .ref me), (2, .int i12_2), (3, .int i12_3)], [.int 1], M14)) rfl rfl rfl ?_
        exact ml_ret rfl (r_z (Or.inr rfl)) (⟨⟨_, rfl, Or.inr rfl⟩, hS15⟩)
      · have c_17 : ¬ (u6 ≤ i12_3) := of_decide_eq_false c_17
        refine ml_st (S' := (21, [(0, .ref a), (1, .ref me), (2, .int i12_2), (3, .int i12_3)], [.ref a], M_12)) rfl rfl rfl ?_
        refine tg_ref (S' := (24, [(0, .ref a), (1, .ref me), (2, .int i12_2), (3, .int i12_3)], [.ref p], M_12)) rfl hS_12.1 hY0 (by decide) rfl rfl ?_
        refine ml_st (S' := (25, [(0, .ref a), (1, .ref me), (2, .int i12_2), (3, .int i12_3)], [.ref a, .ref p], M_12)) rfl rfl rfl ?_
        refine tg_ref (S' := (28, [(0, .ref a), (1, .ref me), (2, .int i12_2), (3, .int i12_3)], [.ref b, .ref p], M_12)) rfl hS_12.1 hY0 (by decide) rfl rfl ?_
        refine ml_st (S' := (29, [(0, .ref a), (1, .ref me), (2, .int i12_2), (3, .int i12_3)], [.int i12_2, .ref b, .ref p], M_12)) rfl rfl rfl ?_
        refine ml_call (a := [.ref b, .int i12_2]) (rest := [.ref p]) rfl (okc_t rfl rfl rfl hS_12.1 hY2 (by decide)) rfl rfl (tq_u2 hS_12.1 hY2 (by omega)) (fun v17 M18 h19 => ?_)
        obtain ⟨⟨u20, rfl⟩, h19⟩ := h19
        rw [h19]
        show ml _ _ _ (32, [(0, .ref a), (1, .ref me), (2, .int i12_2), (3, .int i12_3)], [.int u20, .ref p], M_12) _
        refine ml_st (S' := (34, [(0, .ref a), (1, .ref me), (2, .int i12_2), (3, .int i12_3)], [.ref (g.2.1 0), .int u20, .ref p], M_12)) rfl rfl rfl ?_
        refine ml_call (a := [.ref p, .int u20, .ref (g.2.1 0)]) (rest := []) rfl (okc_t rfl rfl rfl hS_12.1 hY3 (by decide)) rfl rfl (tq_textIs (lk := 0) hS_12.1 hY3 (by decide) (by omega)) (fun v21 M22 h23 => ?_)
        obtain ⟨⟨x24, rfl, z25⟩, h23⟩ := h23
        rw [h23]
        show ml _ _ _ (37, [(0, .ref a), (1, .ref me), (2, .int i12_2), (3, .int i12_3)], [.int x24], M_12) _
        have J_45 : ∀ (s45_0 : Int32), ml (mT g) d (mb_39 g).2 (45, [(0, .ref a), (1, .ref me), (2, .int i12_2), (3, .int i12_3)], [.int s45_0], M_12) (qZ g Y M) := by
          intro s45_0
          refine ml_st (S' := (47, [(4, .int s45_0), (0, .ref a), (1, .ref me), (2, .int i12_2), (3, .int i12_3)], [], M_12)) rfl rfl rfl ?_
          refine ml_blk 3 (S' := (51, [(4, .int s45_0), (0, .ref a), (1, .ref me), (2, .int i12_2), (3, .int i12_3)], [.int s45_0, .int i12_2, .ref a], M_12)) rfl ?_
          refine ml_call (a := [.ref a, .int i12_2, .int s45_0]) (rest := []) rfl (okc_t rfl rfl rfl hS_12.1 hY0 (by decide)) rfl rfl (tw_At_isNew hS_12.1 hY0 hY1 hY2 hY3 hY4 (by omega)) (fun v26 M27 h28 => ?_)
          obtain ⟨⟨u29, rfl, z30⟩, h28⟩ := h28
          have hS31 := hS_12.tr h28
          show ml _ _ _ (54, [(4, .int s45_0), (0, .ref a), (1, .ref me), (2, .int i12_2), (3, .int i12_3)], [.int u29], M27) _
          refine ml_if (S1 := (59, [(4, .int s45_0), (0, .ref a), (1, .ref me), (2, .int i12_2), (3, .int i12_3)], [], M27)) (S2 := (57, [(4, .int s45_0), (0, .ref a), (1, .ref me), (2, .int i12_2), (3, .int i12_3)], [], M27)) rfl rfl rfl (fun c_54 => ?_) (fun c_54 => ?_)
          · have c_54 : ¬ u29 = 0 := of_decide_eq_true c_54
            refine ml_st (S' := (61, [(4, .int s45_0), (0, .ref a), (1, .ref me), (2, .int i12_2), (3, .int i12_3)], [.int s45_0], M27)) rfl rfl rfl ?_
            have J_98 : ml (mT g) d (mb_39 g).2 (98, [(0, .ref a), (1, .ref me), (2, .int i12_2), (3, .int i12_3), (4, .int s45_0)], [], M27) (qZ g Y M) := by
              refine ml_blk 2 (S' := (101, [(0, .ref a), (1, .ref me), (2, .int i12_2), (3, .int i12_3), (4, .int s45_0)], [.int 1, .int s45_0], M27)) rfl ?_
              refine ml_if2 (S1 := (161, [(0, .ref a), (1, .ref me), (2, .int i12_2), (3, .int i12_3)], [], M27)) (S2 := (104, [(0, .ref a), (1, .ref me), (2, .int i12_2), (3, .int i12_3), (4, .int s45_0)], [], M27)) rfl rfl rfl (fun c_101 => ?_) (fun c_101 => ?_)
              · have c_101 : ¬ s45_0 = 1 := of_decide_eq_true c_101
                refine ml_blk 2 (S' := (163, [(0, .ref a), (1, .ref me), (2, .int i12_2), (3, .int i12_3)], [.int i12_2, .ref a], M27)) rfl ?_
                refine ml_call (a := [.ref a, .int i12_2]) (rest := []) rfl (okc_t rfl rfl rfl hS31.1 hY0 (by decide)) rfl rfl (tw_At_behind hS31.1 hY0 hY1 hY2 hY3 hY4 (by omega)) (fun v32 M33 h34 => ?_)
                obtain ⟨⟨u35, rfl⟩, h34⟩ := h34
                rw [h34]
                show ml _ _ _ (166, [(0, .ref a), (1, .ref me), (2, .int i12_2), (3, .int i12_3)], [.int u35], M27) _
                refine ml_st (S' := (167, [(2, .int u35), (0, .ref a), (1, .ref me), (3, .int i12_3)], [], M27)) rfl rfl rfl ?_
                refine ml_st (S' := (170, [(3, .int (i12_3 + 1)), (2, .int u35), (0, .ref a), (1, .ref me)], [], M27)) rfl rfl rfl ?_
                refine ml_st (S' := (12, [(0, .ref a), (1, .ref me), (2, .int u35), (3, .int (i12_3 + 1))], [], M27)) rfl rfl rfl ?_
                exact ih_12 u35 (i12_3 + 1) _ (loop_inc (Int32.not_le.mp c_17) hn_12) hS31
              · have c_101 : ¬ (¬ s45_0 = 1) := of_decide_eq_false c_101
                refine ml_blk 2 (S' := (107, [(0, .ref a), (1, .ref me), (2, .int i12_2), (3, .int i12_3), (4, .int s45_0)], [.int 8, .ref me], M27)) rfl ?_
                refine ml_call (a := [.ref me, .int 8]) (rest := []) rfl (okc_t rfl rfl rfl hS31.1 hY5 (by decide)) rfl rfl (tw_Me_has hS31.1 hY5 (by omega)) (fun v36 M37 h38 => ?_)
                obtain ⟨⟨u39, rfl, z40⟩, h38⟩ := h38
                rw [h38]
                show ml _ _ _ (110, [(0, .ref a), (1, .ref me), (2, .int i12_2), (3, .int i12_3), (4, .int s45_0)], [.int u39], M27) _
                refine ml_if (S1 := (161, [(0, .ref a), (1, .ref me), (2, .int i12_2), (3, .int i12_3)], [], M27)) (S2 := (113, [(0, .ref a), (1, .ref me), (2, .int i12_2), (3, .int i12_3), (4, .int s45_0)], [], M27)) rfl rfl rfl (fun c_110 => ?_) (fun c_110 => ?_)
                · have c_110 : u39 = 0 := of_decide_eq_true c_110
                  refine ml_blk 2 (S' := (163, [(0, .ref a), (1, .ref me), (2, .int i12_2), (3, .int i12_3)], [.int i12_2, .ref a], M27)) rfl ?_
                  refine ml_call (a := [.ref a, .int i12_2]) (rest := []) rfl (okc_t rfl rfl rfl hS31.1 hY0 (by decide)) rfl rfl (tw_At_behind hS31.1 hY0 hY1 hY2 hY3 hY4 (by omega)) (fun v41 M42 h43 => ?_)
                  obtain ⟨⟨u44, rfl⟩, h43⟩ := h43
                  rw [h43]
                  show ml _ _ _ (166, [(0, .ref a), (1, .ref me), (2, .int i12_2), (3, .int i12_3)], [.int u44], M27) _
                  refine ml_st (S' := (167, [(2, .int u44), (0, .ref a), (1, .ref me), (3, .int i12_3)], [], M27)) rfl rfl rfl ?_
                  refine ml_st (S' := (170, [(3, .int (i12_3 + 1)), (2, .int u44), (0, .ref a), (1, .ref me)], [], M27)) rfl rfl rfl ?_
                  refine ml_st (S' := (12, [(0, .ref a), (1, .ref me), (2, .int u44), (3, .int (i12_3 + 1))], [], M27)) rfl rfl rfl ?_
                  exact ih_12 u44 (i12_3 + 1) _ (loop_inc (Int32.not_le.mp c_17) hn_12) hS31
                · have c_110 : ¬ (u39 = 0) := of_decide_eq_false c_110
                  refine ml_blk 2 (S' := (115, [(0, .ref a), (1, .ref me), (2, .int i12_2), (3, .int i12_3), (4, .int s45_0)], [.ref a, .ref me], M27)) rfl ?_
                  refine tg_ref (S' := (118, [(0, .ref a), (1, .ref me), (2, .int i12_2), (3, .int i12_3), (4, .int s45_0)], [.ref b, .ref me], M27)) rfl hS31.1 hY0 (by decide) rfl rfl ?_
                  refine ml_blk 3 (S' := (122, [(0, .ref a), (1, .ref me), (2, .int i12_2), (3, .int i12_3), (4, .int s45_0)], [.int (i12_2 + 6), .ref b, .ref me], M27)) rfl ?_
                  refine ml_call (a := [.ref b, .int (i12_2 + 6)]) (rest := [.ref me]) rfl (okc_t rfl rfl rfl hS31.1 hY2 (by decide)) rfl rfl (tq_u2 hS31.1 hY2 (by omega)) (fun v45 M46 h47 => ?_)
                  obtain ⟨⟨u48, rfl⟩, h47⟩ := h47
                  rw [h47]
                  show ml _ _ _ (125, [(0, .ref a), (1, .ref me), (2, .int i12_2), (3, .int i12_3), (4, .int s45_0)], [.int u48, .ref me], M27) _
                  refine tp_put rfl hS31 hY5 (by decide) rfl (⟨_, rfl⟩) rfl rfl (fun M49 hS50 f51 => ?_)
                  show ml _ _ _ (128, [(0, .ref a), (1, .ref me), (2, .int i12_2), (3, .int i12_3), (4, .int s45_0)], [], M49) _
                  refine ml_st (S' := (129, [(0, .ref a), (1, .ref me), (2, .int i12_2), (3, .int i12_3), (4, .int s45_0)], [.ref a], M49)) rfl rfl rfl ?_
                  refine tg_ref (S' := (132, [(0, .ref a), (1, .ref me), (2, .int i12_2), (3, .int i12_3), (4, .int s45_0)], [.ref p], M49)) rfl hS50.1 hY0 (by decide) rfl rfl ?_
                  refine ml_st (S' := (133, [(0, .ref a), (1, .ref me), (2, .int i12_2), (3, .int i12_3), (4, .int s45_0)], [.ref me, .ref p], M49)) rfl rfl rfl ?_
                  refine ml_get (S' := (136, [(0, .ref a), (1, .ref me), (2, .int i12_2), (3, .int i12_3), (4, .int s45_0)], [.int u48, .ref p], M49)) rfl f51.2.2.1 rfl ?_
                  refine ml_call (a := [.ref p, .int u48]) (rest := []) rfl (okc_t rfl rfl rfl hS50.1 hY3 (by decide)) rfl rfl (tq_tagOf hS50.1 hY3 (by omega)) (fun v52 M53 h54 => ?_)
                  obtain ⟨⟨u55, rfl⟩, h54⟩ := h54
                  rw [h54]
                  show ml _ _ _ (139, [(0, .ref a), (1, .ref me), (2, .int i12_2), (3, .int i12_3), (4, .int s45_0)], [.int u55], M49) _
                  refine ml_blk 2 (S' := (141, [(0, .ref a), (1, .ref me), (2, .int i12_2), (3, .int i12_3), (4, .int s45_0)], [.ref me, .ref a, .int u55], M49)) rfl ?_
                  refine tg_int rfl hS50.1 hY5 (by decide) rfl (fun u56 g57 => ?_)
                  show ml _ _ _ (144, [(0, .ref a), (1, .ref me), (2, .int i12_2), (3, .int i12_3), (4, .int s45_0)], [.int u56, .ref a, .int u55], M49) _
                  refine ml_call (a := [.ref a, .int u56]) (rest := [.int u55]) rfl (okc_t rfl rfl rfl hS50.1 hY0 (by decide)) rfl rfl (tw_At_constantTag hS50.1 hY0 hY1 hY2 hY3 hY4 (by omega)) (fun v58 M59 h60 => ?_)
                  obtain ⟨⟨u61, rfl⟩, h60⟩ := h60
                  rw [h60]
                  show ml _ _ _ (147, [(0, .ref a), (1, .ref me), (2, .int i12_2), (3, .int i12_3), (4, .int s45_0)], [.int u61, .int u55], M49) _
                  refine ml_if2 (S1 := (161, [(0, .ref a), (1, .ref me), (2, .int i12_2), (3, .int i12_3)], [], M49)) (S2 := (150, [(0, .ref a), (1, .ref me), (2, .int i12_2), (3, .int i12_3), (4, .int s45_0)], [], M49)) rfl rfl rfl (fun c_147 => ?_) (fun c_147 => ?_)
                  · have c_147 : u55 = u61 := of_decide_eq_true c_147
                    refine ml_blk 2 (S' := (163, [(0, .ref a), (1, .ref me), (2, .int i12_2), (3, .int i12_3)], [.int i12_2, .ref a], M49)) rfl ?_
                    refine ml_call (a := [.ref a, .int i12_2]) (rest := []) rfl (okc_t rfl rfl rfl hS50.1 hY0 (by decide)) rfl rfl (tw_At_behind hS50.1 hY0 hY1 hY2 hY3 hY4 (by omega)) (fun v62 M63 h64 => ?_)
                    obtain ⟨⟨u65, rfl⟩, h64⟩ := h64
                    rw [h64]
                    show ml _ _ _ (166, [(0, .ref a), (1, .ref me), (2, .int i12_2), (3, .int i12_3)], [.int u65], M49) _
                    refine ml_st (S' := (167, [(2, .int u65), (0, .ref a), (1, .ref me), (3, .int i12_3)], [], M49)) rfl rfl rfl ?_
                    refine ml_st (S' := (170, [(3, .int (i12_3 + 1)), (2, .int u65), (0, .ref a), (1, .ref me)], [], M49)) rfl rfl rfl ?_
                    refine ml_st (S' := (12, [(0, .ref a), (1, .ref me), (2, .int u65), (3, .int (i12_3 + 1))], [], M49)) rfl rfl rfl ?_
                    exact ih_12 u65 (i12_3 + 1) _ (loop_inc (Int32.not_le.mp c_17) hn_12) hS50
                  · have c_147 : ¬ (u55 = u61) := of_decide_eq_false c_147
                    refine ml_st (S' := (151, [(0, .ref a), (1, .ref me), (2, .int i12_2), (3, .int i12_3), (4, .int s45_0)], [.ref a], M49)) rfl rfl rfl ?_
                    refine tg_ref (S' := (154, [(0, .ref a), (1, .ref me), (2, .int i12_2), (3, .int i12_3), (4, .int s45_0)], [.ref vd], M49)) rfl hS50.1 hY0 (by decide) rfl rfl ?_
                    refine ml_blk 2 (S' := (157, [(0, .ref a), (1, .ref me), (2, .int i12_2), (3, .int i12_3), (4, .int s45_0)], [.int i12_2, .int 31, .ref vd], M49)) rfl ?_
                    refine ml_call (a := [.ref vd, .int 31, .int i12_2]) (rest := []) rfl (okc_t rfl rfl rfl hS50.1 hY4 (by decide)) rfl rfl (tw_Ve_wrong hS50.1 hY4 (by omega)) (fun v66 M67 h68 => ?_)
                    obtain ⟨rfl, h68⟩ := h68
                    have hS70 := hS50.tr h68.1
                    show ml _ _ _ (160, [(0, .ref a), (1, .ref me), (2, .int i12_2), (3, .int i12_3), (4, .int s45_0)], [.int 0], M67) _
                    exact ml_ret rfl (r_z (Or.inl rfl)) (⟨⟨_, rfl, Or.inl rfl⟩, hS70⟩)
            refine ml_if (S1 := (98, [(0, .ref a), (1, .ref me), (2, .int i12_2), (3, .int i12_3), (4, .int s45_0)], [], M27)) (S2 := (64, [(4, .int s45_0), (0, .ref a), (1, .ref me), (2, .int i12_2), (3, .int i12_3)], [], M27)) rfl rfl rfl (fun c_61 => ?_) (fun c_61 => ?_)
            · have c_61 : s45_0 = 0 := of_decide_eq_true c_61
              exact J_98 
            · have c_61 : ¬ (s45_0 = 0) := of_decide_eq_false c_61
              refine ml_blk 3 (S' := (68, [(4, .int s45_0), (0, .ref a), (1, .ref me), (2, .int i12_2), (3, .int i12_3)], [.int i12_2, .int s45_0, .ref a], M27)) rfl ?_
              refine ml_blk 3 (S' := (72, [(4, .int s45_0), (0, .ref a), (1, .ref me), (2, .int i12_2), (3, .int i12_3)], [.ref a, .int (i12_2 + 6), .int s45_0, .ref a], M27)) rfl ?_
              refine ml_st (S' := (73, [(4, .int s45_0), (0, .ref a), (1, .ref me), (2, .int i12_2), (3, .int i12_3)], [.int i12_2, .ref a, .int (i12_2 + 6), .int s45_0, .ref a], M27)) rfl rfl rfl ?_
              refine ml_call (a := [.ref a, .int i12_2]) (rest := [.int (i12_2 + 6), .int s45_0, .ref a]) rfl (okc_t rfl rfl rfl hS31.1 hY0 (by decide)) rfl rfl (tw_At_behind hS31.1 hY0 hY1 hY2 hY3 hY4 (by omega)) (fun v71 M72 h73 => ?_)
              obtain ⟨⟨u74, rfl⟩, h73⟩ := h73
              rw [h73]
              show ml _ _ _ (76, [(4, .int s45_0), (0, .ref a), (1, .ref me), (2, .int i12_2), (3, .int i12_3)], [.int u74, .int (i12_2 + 6), .int s45_0, .ref a], M27) _
              refine ml_call (a := [.ref a, .int s45_0, .int (i12_2 + 6), .int u74]) (rest := []) rfl (okc_t rfl rfl rfl hS31.1 hY0 (by decide)) rfl rfl (tw_At_formEnd hS31.1 hY0 hY1 hY2 hY3 hY4 (by omega)) (fun v75 M76 h77 => ?_)
              obtain ⟨⟨u78, rfl⟩, h77⟩ := h77
              rw [h77]
              show ml _ _ _ (79, [(4, .int s45_0), (0, .ref a), (1, .ref me), (2, .int i12_2), (3, .int i12_3)], [.int u78], M27) _
              refine ml_blk 2 (S' := (81, [(4, .int s45_0), (0, .ref a), (1, .ref me), (2, .int i12_2), (3, .int i12_3)], [.int i12_2, .ref a, .int u78], M27)) rfl ?_
              refine ml_call (a := [.ref a, .int i12_2]) (rest := [.int u78]) rfl (okc_t rfl rfl rfl hS31.1 hY0 (by decide)) rfl rfl (tw_At_behind hS31.1 hY0 hY1 hY2 hY3 hY4 (by omega)) (fun v79 M80 h81 => ?_)
              obtain ⟨⟨u82, rfl⟩, h81⟩ := h81
              rw [h81]
              show ml _ _ _ (84, [(4, .int s45_0), (0, .ref a), (1, .ref me), (2, .int i12_2), (3, .int i12_3)], [.int u82, .int u78], M27) _
              refine ml_if2 (S1 := (98, [(0, .ref a), (1, .ref me), (2, .int i12_2), (3, .int i12_3), (4, .int s45_0)], [], M27)) (S2 := (87, [(4, .int s45_0), (0, .ref a), (1, .ref me), (2, .int i12_2), (3, .int i12_3)], [], M27)) rfl rfl rfl (fun c_84 => ?_) (fun c_84 => ?_)
              · have c_84 : u78 = u82 := of_decide_eq_true c_84
                exact J_98 
              · have c_84 : ¬ (u78 = u82) := of_decide_eq_false c_84
                refine ml_st (S' := (88, [(4, .int s45_0), (0, .ref a), (1, .ref me), (2, .int i12_2), (3, .int i12_3)], [.ref a], M27)) rfl rfl rfl ?_
                refine tg_ref (S' := (91, [(4, .int s45_0), (0, .ref a), (1, .ref me), (2, .int i12_2), (3, .int i12_3)], [.ref vd], M27)) rfl hS31.1 hY0 (by decide) rfl rfl ?_
                refine ml_blk 2 (S' := (94, [(4, .int s45_0), (0, .ref a), (1, .ref me), (2, .int i12_2), (3, .int i12_3)], [.int i12_2, .int 30, .ref vd], M27)) rfl ?_
                refine ml_call (a := [.ref vd, .int 30, .int i12_2]) (rest := []) rfl (okc_t rfl rfl rfl hS31.1 hY4 (by decide)) rfl rfl (tw_Ve_wrong hS31.1 hY4 (by omega)) (fun v83 M84 h85 => ?_)
                obtain ⟨rfl, h85⟩ := h85
                have hS87 := hS31.tr h85.1
                show ml _ _ _ (97, [(4, .int s45_0), (0, .ref a), (1, .ref me), (2, .int i12_2), (3, .int i12_3)], [.int 0], M84) _
                exact ml_ret rfl (r_z (Or.inl rfl)) (⟨⟨_, rfl, Or.inl rfl⟩, hS87⟩)
          · have c_54 : ¬ (¬ u29 = 0) := of_decide_eq_false c_54
            refine ml_st (S' := (58, [(4, .int s45_0), (0, .ref a), (1, .ref me), (2, .int i12_2), (3, .int i12_3)], [.int 0], M27)) rfl rfl rfl ?_
            exact ml_ret rfl (r_z (Or.inl rfl)) (⟨⟨_, rfl, Or.inl rfl⟩, hS31⟩)
        refine ml_if (S1 := (44, [(0, .ref a), (1, .ref me), (2, .int i12_2), (3, .int i12_3)], [], M_12)) (S2 := (40, [(0, .ref a), (1, .ref me), (2, .int i12_2), (3, .int i12_3)], [], M_12)) rfl rfl rfl (fun c_37 => ?_) (fun c_37 => ?_)
        · have c_37 : x24 = 0 := of_decide_eq_true c_37
          refine ml_st (S' := (45, [(0, .ref a), (1, .ref me), (2, .int i12_2), (3, .int i12_3)], [.int 0], M_12)) rfl rfl rfl ?_
          exact J_45 0
        · have c_37 : ¬ (x24 = 0) := of_decide_eq_false c_37
          refine ml_st (S' := (41, [(0, .ref a), (1, .ref me), (2, .int i12_2), (3, .int i12_3)], [.int 1], M_12)) rfl rfl rfl ?_
          refine ml_st (S' := (45, [(0, .ref a), (1, .ref me), (2, .int i12_2), (3, .int i12_3)], [.int 1], M_12)) rfl rfl rfl ?_
          exact J_45 1
  exact L_12 _ u4 0 _ (Nat.le_refl _) hS2
set_option maxHeartbeats 2000000 in
theorem tw_Cl_fieldsHold {g : xe_G} {M : mi_H} {Y : yT} {a c b p vd ac da n : Nat} {pp : List Nat}  (hW : WF g Y M) (hY0 : Y.1 a = some (2, [c, b, p, vd, ac])) (hY1 : Y.1 c = some (3, [b, da, n])) (hY2 : Y.1 b = some (1, [da, n])) (hY3 : Y.1 p = some (7, pp)) (hY4 : Y.1 vd = some (10, [])) (hY5 : Y.1 ac = some (0, [c, b, p, vd])) {d : Nat} (hd : 6 ≤ d) : mt (mT g) d 57 [.ref a] M (qZ g Y M) := by
  obtain ⟨d, rfl⟩ : ∃ e, d = e + 1 := ⟨d - 1, by omega⟩
  have hS : st g Y M M := st.rf hW
  refine mt_in (b := mb_57 g) rfl rfl ?_
  show ml (mT g) d (mb_57 g).2 (0, [(0, .ref a)], [], M) _
  refine ml_st (S' := (1, [(0, .ref a)], [.int 0], M)) rfl rfl rfl ?_
  refine ml_st (S' := (2, [(0, .ref a), (1, .int 0)], [], M)) rfl rfl rfl ?_
  have L_2 : ∀ (n_2 : Nat) (i2_1 : Int32) (M_2 : mi_H), (2147483648 - i2_1.toInt).toNat ≤ n_2 → 0 ≤ i2_1.toInt → st g Y M M_2 → ml (mT g) d (mb_57 g).2 (2, [(0, .ref a), (1, .int i2_1)], [], M_2) (qZ g Y M) := by
    intro n_2
    induction n_2 with
    | zero => intro i2_1 M_2 hn; exact (loop_zero hn).elim
    | succ n_2 ih_2 =>
      intro i2_1 M_2 hn_2 hi_2 hS_2
      refine ml_blk 2 (S' := (4, [(0, .ref a), (1, .int i2_1)], [.ref a, .int i2_1], M_2)) rfl ?_
      refine tg_ref (S' := (7, [(0, .ref a), (1, .int i2_1)], [.ref c, .int i2_1], M_2)) rfl hS_2.1 hY0 (by decide) rfl rfl ?_
      refine tg_vo rfl hS_2.1 hY1 (by decide) rfl (fun b1 g3 h2 => ?_)
      obtain ⟨k4, h2⟩ := h2
      show ml _ _ _ (10, [(0, .ref a), (1, .int i2_1)], [.ref b1, .int i2_1], M_2) _
      refine tl_mem (S' := (11, [(0, .ref a), (1, .int i2_1)], [.int (nI k4), .int i2_1], M_2)) rfl hS_2.1 h2 rfl ?_
      refine ml_if2 (S1 := (59, [(0, .ref a), (1, .int i2_1)], [], M_2)) (S2 := (14, [(0, .ref a), (1, .int i2_1)], [], M_2)) rfl rfl rfl (fun c_11 => ?_) (fun c_11 => ?_)
      · have c_11 : (nI k4) ≤ i2_1 := of_decide_eq_true c_11
        refine ml_st (S' := (60, [(0, .ref a), (1, .int i2_1)], [.int 1], M_2)) rfl rfl rfl ?_
        exact ml_ret rfl (r_z (Or.inr rfl)) (⟨⟨_, rfl, Or.inr rfl⟩, hS_2⟩)
      · have c_11 : ¬ ((nI k4) ≤ i2_1) := of_decide_eq_false c_11
        refine ml_st (S' := (15, [(0, .ref a), (1, .int i2_1)], [.ref a], M_2)) rfl rfl rfl ?_
        refine tg_ref (S' := (18, [(0, .ref a), (1, .int i2_1)], [.ref c], M_2)) rfl hS_2.1 hY0 (by decide) rfl rfl ?_
        refine ml_get (S' := (21, [(0, .ref a), (1, .int i2_1)], [.ref b1], M_2)) rfl g3 rfl ?_
        refine ml_st (S' := (22, [(0, .ref a), (1, .int i2_1)], [.int i2_1, .ref b1], M_2)) rfl rfl rfl ?_
        refine ta_mem rfl hS_2.1 h2 (vin_nI hi_2 c_11) ?_ (fun b5 h6 => ?_)
        · show ml _ _ _ (23, [(0, .ref a), (1, .int i2_1)], [.null], M_2) _
          refine ml_st (S' := (24, [(2, .null), (0, .ref a), (1, .int i2_1)], [], M_2)) rfl rfl rfl ?_
          refine ml_blk 2 (S' := (28, [(2, .null), (0, .ref a), (1, .int i2_1)], [], M_2)) rfl ?_
          refine ml_st (S' := (53, [(0, .ref a), (1, .int i2_1)], [], M_2)) rfl rfl rfl ?_
          refine ml_st (S' := (56, [(1, .int (i2_1 + 1)), (0, .ref a)], [], M_2)) rfl rfl rfl ?_
          refine ml_st (S' := (2, [(0, .ref a), (1, .int (i2_1 + 1))], [], M_2)) rfl rfl rfl ?_
          exact ih_2 (i2_1 + 1) _ (loop_inc (Int32.not_le.mp c_11) hn_2) (by rw [inc_lt (Int32.not_le.mp c_11)]; omega) hS_2
        · skip
          show ml _ _ _ (23, [(0, .ref a), (1, .int i2_1)], [.ref b5], M_2) _
          refine ml_st (S' := (24, [(2, .ref b5), (0, .ref a), (1, .int i2_1)], [], M_2)) rfl rfl rfl ?_
          refine ml_blk 2 (S' := (31, [(2, .ref b5), (0, .ref a), (1, .int i2_1)], [], M_2)) rfl ?_
          refine ml_blk 3 (S' := (34, [(2, .ref b5), (0, .ref a), (1, .int i2_1)], [.int i2_1, .ref b5, .ref a], M_2)) rfl ?_
          refine ml_call (a := [.ref a, .ref b5, .int i2_1]) (rest := []) rfl (okc_t rfl rfl rfl hS_2.1 hY0 (by decide)) rfl rfl (tw_Cl_fieldHolds hS_2.1 hY0 hY1 hY2 hY3 hY4 hY5 h6 (by omega)) (fun v7 M8 h9 => ?_)
          obtain ⟨⟨u10, rfl, z11⟩, h9⟩ := h9
          have hS12 := hS_2.tr h9
          show ml _ _ _ (37, [(2, .ref b5), (0, .ref a), (1, .int i2_1)], [.int u10], M8) _
          refine ml_if (S1 := (51, [], [], M8)) (S2 := (40, [(2, .ref b5), (0, .ref a), (1, .int i2_1)], [], M8)) rfl rfl rfl (fun c_37 => ?_) (fun c_37 => ?_)
          · have c_37 : u10 = 0 := of_decide_eq_true c_37
            refine ml_st (S' := (52, [], [.int 0], M8)) rfl rfl rfl ?_
            exact ml_ret rfl (r_z (Or.inl rfl)) (⟨⟨_, rfl, Or.inl rfl⟩, hS12⟩)
          · have c_37 : ¬ (u10 = 0) := of_decide_eq_false c_37
            refine ml_st (S' := (41, [(2, .ref b5), (0, .ref a), (1, .int i2_1)], [.ref a], M8)) rfl rfl rfl ?_
            refine tg_ref (S' := (44, [(2, .ref b5), (0, .ref a), (1, .int i2_1)], [.ref ac], M8)) rfl hS12.1 hY0 (by decide) rfl rfl ?_
            refine ml_st (S' := (45, [(2, .ref b5), (0, .ref a), (1, .int i2_1)], [.ref b5, .ref ac], M8)) rfl rfl rfl ?_
            refine ml_call (a := [.ref ac, .ref b5]) (rest := []) rfl (okc_t rfl rfl rfl hS12.1 hY5 (by decide)) rfl rfl (tw_At_ofField hS12.1 hY5 hY1 hY2 hY3 hY4 h6 (by omega)) (fun v13 M14 h15 => ?_)
            obtain ⟨⟨u16, rfl, z17⟩, h15⟩ := h15
            have hS18 := hS12.tr h15
            show ml _ _ _ (48, [(2, .ref b5), (0, .ref a), (1, .int i2_1)], [.int u16], M14) _
            refine ml_if (S1 := (53, [(0, .ref a), (1, .int i2_1)], [], M14)) (S2 := (51, [], [], M14)) rfl rfl rfl (fun c_48 => ?_) (fun c_48 => ?_)
            · have c_48 : ¬ u16 = 0 := of_decide_eq_true c_48
              refine ml_st (S' := (56, [(1, .int (i2_1 + 1)), (0, .ref a)], [], M14)) rfl rfl rfl ?_
              refine ml_st (S' := (2, [(0, .ref a), (1, .int (i2_1 + 1))], [], M14)) rfl rfl rfl ?_
              exact ih_2 (i2_1 + 1) _ (loop_inc (Int32.not_le.mp c_11) hn_2) (by rw [inc_lt (Int32.not_le.mp c_11)]; omega) hS18
            · have c_48 : ¬ (¬ u16 = 0) := of_decide_eq_false c_48
              refine ml_st (S' := (52, [], [.int 0], M14)) rfl rfl rfl ?_
              exact ml_ret rfl (r_z (Or.inl rfl)) (⟨⟨_, rfl, Or.inl rfl⟩, hS18⟩)
  exact L_2 _ 0 _ (Nat.le_refl _) (by decide) hS
def pM (Y : yT) (da n : Nat) (M : mi_H) : Option Value → mi_H → Prop := fun v M' => (v = some .null ∨ ∃ b, v = some (.ref b) ∧ Y.1 b = some (6, [da, n])) ∧ M' = M
set_option maxHeartbeats 2000000 in
theorem tw_Cl_memberAt {g : xe_G} {M : mi_H} {Y : yT} {c b da n : Nat} {x1 x2 : Int32}  (hW : WF g Y M) (hY0 : Y.1 c = some (3, [b, da, n])) (hY1 : Y.1 b = some (1, [da, n])) {d : Nat} (hd : 1 ≤ d) : mt (mT g) d 72 [.ref c, .int x1, .int x2] M (pM Y da n M) := by
  obtain ⟨d, rfl⟩ : ∃ e, d = e + 1 := ⟨d - 1, by omega⟩
  have hS : st g Y M M := st.rf hW
  refine mt_in (b := mb_72 g) rfl rfl ?_
  show ml (mT g) d (mb_72 g).2 (0, [(0, .ref c), (1, .int x1), (2, .int x2)], [], M) _
  refine ml_st (S' := (1, [(0, .ref c), (1, .int x1), (2, .int x2)], [.int x1], M)) rfl rfl rfl ?_
  refine ml_if (S1 := (11, [(0, .ref c), (1, .int x1), (2, .int x2)], [], M)) (S2 := (4, [(0, .ref c), (1, .int x1), (2, .int x2)], [], M)) rfl rfl rfl (fun c_1 => ?_) (fun c_1 => ?_)
  · have c_1 : x1 = 0 := of_decide_eq_true c_1
    refine ml_st (S' := (12, [(0, .ref c), (1, .int x1), (2, .int x2)], [.ref c], M)) rfl rfl rfl ?_
    refine tg_vo rfl hS.1 hY0 (by decide) rfl (fun b1 g3 h2 => ?_)
    obtain ⟨k4, h2⟩ := h2
    show ml _ _ _ (15, [(2, .int x2)], [.ref b1], M) _
    refine ml_st (S' := (16, [(3, .ref b1), (2, .int x2)], [], M)) rfl rfl rfl ?_
    refine ml_st (S' := (17, [(3, .ref b1), (2, .int x2)], [.int x2], M)) rfl rfl rfl ?_
    refine ml_if (S1 := (26, [], [], M)) (S2 := (20, [(3, .ref b1), (2, .int x2)], [], M)) rfl rfl rfl (fun c_17 => ?_) (fun c_17 => ?_)
    · have c_17 : x2 < 0 := of_decide_eq_true c_17
      refine ml_st (S' := (27, [], [.null], M)) rfl rfl rfl ?_
      refine ml_st (S' := (33, [], [.null], M)) rfl rfl rfl ?_
      exact ml_ret rfl (rfl) (⟨Or.inl rfl, rfl⟩)
    · have c_17 : ¬ (x2 < 0) := of_decide_eq_false c_17
      refine ml_blk 2 (S' := (22, [(3, .ref b1), (2, .int x2)], [.ref b1, .int x2], M)) rfl ?_
      refine tl_mem (S' := (23, [(3, .ref b1), (2, .int x2)], [.int (nI k4), .int x2], M)) rfl hS.1 h2 rfl ?_
      refine ml_if2 (S1 := (30, [(3, .ref b1), (2, .int x2)], [], M)) (S2 := (26, [], [], M)) rfl rfl rfl (fun c_23 => ?_) (fun c_23 => ?_)
      · have c_23 : x2 < (nI k4) := of_decide_eq_true c_23
        refine ml_blk 2 (S' := (32, [(3, .ref b1), (2, .int x2)], [.int x2, .ref b1], M)) rfl ?_
        refine ta_mem rfl hS.1 h2 (vin_of c_17 c_23) ?_ (fun b5 h6 => ?_)
        · show ml _ _ _ (33, [], [.null], M) _
          exact ml_ret rfl (rfl) (⟨Or.inl rfl, rfl⟩)
        · skip
          show ml _ _ _ (33, [], [.ref b5], M) _
          exact ml_ret rfl (rfl) (⟨Or.inr ⟨_, rfl, h6⟩, rfl⟩)
      · have c_23 : ¬ (x2 < (nI k4)) := of_decide_eq_false c_23
        refine ml_st (S' := (27, [], [.null], M)) rfl rfl rfl ?_
        refine ml_st (S' := (33, [], [.null], M)) rfl rfl rfl ?_
        exact ml_ret rfl (rfl) (⟨Or.inl rfl, rfl⟩)
  · have c_1 : ¬ (x1 = 0) := of_decide_eq_false c_1
    refine ml_st (S' := (5, [(0, .ref c), (1, .int x1), (2, .int x2)], [.ref c], M)) rfl rfl rfl ?_
    refine tg_vo rfl hS.1 hY0 (by decide) rfl (fun b7 g9 h8 => ?_)
    obtain ⟨k10, h8⟩ := h8
    show ml _ _ _ (8, [(0, .ref c), (1, .int x1), (2, .int x2)], [.ref b7], M) _
    refine ml_st (S' := (15, [(2, .int x2)], [.ref b7], M)) rfl rfl rfl ?_
    refine ml_st (S' := (16, [(3, .ref b7), (2, .int x2)], [], M)) rfl rfl rfl ?_
    refine ml_st (S' := (17, [(3, .ref b7), (2, .int x2)], [.int x2], M)) rfl rfl rfl ?_
    refine ml_if (S1 := (26, [], [], M)) (S2 := (20, [(3, .ref b7), (2, .int x2)], [], M)) rfl rfl rfl (fun c_17 => ?_) (fun c_17 => ?_)
    · have c_17 : x2 < 0 := of_decide_eq_true c_17
      refine ml_st (S' := (27, [], [.null], M)) rfl rfl rfl ?_
      refine ml_st (S' := (33, [], [.null], M)) rfl rfl rfl ?_
      exact ml_ret rfl (rfl) (⟨Or.inl rfl, rfl⟩)
    · have c_17 : ¬ (x2 < 0) := of_decide_eq_false c_17
      refine ml_blk 2 (S' := (22, [(3, .ref b7), (2, .int x2)], [.ref b7, .int x2], M)) rfl ?_
      refine tl_mem (S' := (23, [(3, .ref b7), (2, .int x2)], [.int (nI k10), .int x2], M)) rfl hS.1 h8 rfl ?_
      refine ml_if2 (S1 := (30, [(3, .ref b7), (2, .int x2)], [], M)) (S2 := (26, [], [], M)) rfl rfl rfl (fun c_23 => ?_) (fun c_23 => ?_)
      · have c_23 : x2 < (nI k10) := of_decide_eq_true c_23
        refine ml_blk 2 (S' := (32, [(3, .ref b7), (2, .int x2)], [.int x2, .ref b7], M)) rfl ?_
        refine ta_mem rfl hS.1 h8 (vin_of c_17 c_23) ?_ (fun b11 h12 => ?_)
        · show ml _ _ _ (33, [], [.null], M) _
          exact ml_ret rfl (rfl) (⟨Or.inl rfl, rfl⟩)
        · skip
          show ml _ _ _ (33, [], [.ref b11], M) _
          exact ml_ret rfl (rfl) (⟨Or.inr ⟨_, rfl, h12⟩, rfl⟩)
      · have c_23 : ¬ (x2 < (nI k10)) := of_decide_eq_false c_23
        refine ml_st (S' := (27, [], [.null], M)) rfl rfl rfl ?_
        refine ml_st (S' := (33, [], [.null], M)) rfl rfl rfl ?_
        exact ml_ret rfl (rfl) (⟨Or.inl rfl, rfl⟩)
end
section
/-! an instruction taken apart: fields that stay, sizes (my own text) -/
section MIN
def kj (j : Nat) : Bool := match j with
  | 2 => true
  | 4 => true
  | 9 => true
  | 11 => true
  | _ => false
variable {g : xe_G} {Y : yT} {M : mi_H} {o : Nat}
def sk (g : xe_G) (Y : yT) (o : Nat) (M M' : mi_H) : Prop := sf g Y [o] M M' ∧ ∀ j w, kj j = true → mi_gf M o 5 j = some w → mi_gf M' o 5 j = some w
theorem sk.rf (h : WF g Y M) : sk g Y o M M := ⟨sf.rf h, fun _ _ _ h => h⟩
theorem sk.tr {M1 M2 : mi_H} (h : sk g Y o M M1) (h' : sk g Y o M1 M2) : sk g Y o M M2 := ⟨h.1.tr h'.1 (fun _ q => q), fun j w hj hw => h'.2 j w hj (h.2 j w hj hw)⟩
theorem sk.put {M1 M2 : mi_H} {j : Nat} {v : Value} (h : sk g Y o M M1) (h' : st g Y M M2) (hp : pf M1 M2 o 5 j v) (hj : kj j = false) : sk g Y o M M2 := by
  refine ⟨h.1.put h' hp (by simp), fun i w hi hw => hp.2.1 i w ?_ (h.2 i w hi hw)⟩
  intro e
  subst e
  rw [hj] at hi
  cases hi
def kZ (g : xe_G) (Y : yT) (o : Nat) (M : mi_H) : Option Value → mi_H → Prop := fun v M' => (∃ x : Int32, v = some (.int x) ∧ (x = 0 ∨ x = 1)) ∧ sk g Y o M M'
/-- the size that is found lies within the code -/
def qS (g : xe_G) (Y : yT) (o k : Nat) (pc0 : Int32) (M : mi_H) : Option Value → mi_H → Prop := fun v M' => (∃ x : Int32, v = some (.int x) ∧ (x = 0 ∨ x = 1 ∧ ∃ sz : Int32, mi_gf M' o 5 4 = some (.int sz) ∧ 1 ≤ sz.toInt ∧ pc0.toInt + sz.toInt ≤ k)) ∧ sf g Y [o] M M'
theorem qS_z {x : Int32} {P : Prop} (h : x = 0 ∨ x = 1 ∧ P) : x = 0 ∨ x = 1 := h.imp id And.left
theorem WF.inst {b k : Nat} (h : WF g Y M) (hY : Y.1 o = some (5, [b, k])) : k < 1073741824 ∧ ∃ cl : Int32, mi_gf M o 5 2 = some (.int cl) ∧ 0 ≤ cl.toInt ∧ cl.toInt ≤ k := by
  obtain ⟨l, h1, -, -, -, h0, x, h2, h3⟩ := (h.1 o 5 _ hY).obj (by decide)
  exact ⟨h0, x, gf_ob h1 h2, h3⟩
theorem i_add {a b : Int32} (h : -2147483648 ≤ a.toInt + b.toInt) (h' : a.toInt + b.toInt < 2147483648) : (a + b).toInt = a.toInt + b.toInt := by
  rw [Int32.toInt_add]
  apply Int.bmod_eq_of_le <;> omega
theorem i_sub {a b : Int32} (h : -2147483648 ≤ a.toInt - b.toInt) (h' : a.toInt - b.toInt < 2147483648) : (a - b).toInt = a.toInt - b.toInt := by
  rw [Int32.toInt_sub]
  apply Int.bmod_eq_of_le <;> omega
theorem i_mul {a b : Int32} (h : -2147483648 ≤ a.toInt * b.toInt) (h' : a.toInt * b.toInt < 2147483648) : (a * b).toInt = a.toInt * b.toInt := by
  rw [Int32.toInt_mul]
  apply Int.bmod_eq_of_le <;> omega
theorem l_add {a b : Int64} (h : -9223372036854775808 ≤ a.toInt + b.toInt) (h' : a.toInt + b.toInt < 9223372036854775808) : (a + b).toInt = a.toInt + b.toInt := by
  rw [Int64.toInt_add]
  apply Int.bmod_eq_of_le <;> omega
theorem l_sub {a b : Int64} (h : -9223372036854775808 ≤ a.toInt - b.toInt) (h' : a.toInt - b.toInt < 9223372036854775808) : (a - b).toInt = a.toInt - b.toInt := by
  rw [Int64.toInt_sub]
  apply Int.bmod_eq_of_le <;> omega
theorem l_mul {a b : Int64} (h : -9223372036854775808 ≤ a.toInt * b.toInt) (h' : a.toInt * b.toInt < 9223372036854775808) : (a * b).toInt = a.toInt * b.toInt := by
  rw [Int64.toInt_mul]
  apply Int.bmod_eq_of_le <;> omega
theorem l_of {a : Int32} : (Int32.toInt64 a).toInt = a.toInt := Int32.toInt_toInt64 a
theorem i_of {a : Int64} (h : -2147483648 ≤ a.toInt) (h' : a.toInt < 2147483648) : (Int64.toInt32 a).toInt = a.toInt := by
  rw [Int64.toInt_toInt32]
  apply Int.bmod_eq_of_le <;> omega
theorem lc_ge {x y : Int64} (h : ¬ lg_cmp x y < 0) : y.toInt ≤ x.toInt := by
  unfold lg_cmp at h
  split at h
  · rename_i h1
    have := Int64.lt_iff_toInt_lt.mp h1
    omega
  · split at h
    · rename_i h2
      rw [h2]
      omega
    · exact absurd (by decide) h
theorem lc_le {x y : Int64} (h : lg_cmp x y ≤ 0) : x.toInt ≤ y.toInt := by
  unfold lg_cmp at h
  split at h
  · exact absurd h (by decide)
  · rename_i h1
    have := Int64.le_iff_toInt_le.mp (Int64.not_lt.mp h1)
    omega
theorem lc_lt {x y : Int64} (h : lg_cmp x y < 0) : x.toInt < y.toInt := by
  unfold lg_cmp at h
  split at h
  · exact absurd h (by decide)
  · split at h
    · exact absurd h (by decide)
    · rename_i h1 h2
      have h3 := Int64.le_iff_toInt_le.mp (Int64.not_lt.mp h1)
      have h4 : x.toInt ≠ y.toInt := fun e => h2 (Int64.toInt_inj.mp e)
      omega
theorem i_lt {a b : Int32} (h : a < b) : a.toInt < b.toInt := Int32.lt_iff_toInt_lt.mp h
theorem i_le {a b : Int32} (h : a ≤ b) : a.toInt ≤ b.toInt := Int32.le_iff_toInt_le.mp h
theorem i_nlt {a b : Int32} (h : ¬ a < b) : b.toInt ≤ a.toInt := Int32.le_iff_toInt_le.mp (Int32.not_lt.mp h)
theorem i_nle {a b : Int32} (h : ¬ a ≤ b) : b.toInt < a.toInt := Int32.lt_iff_toInt_lt.mp (Int32.not_le.mp h)
theorem lc_in {t : Int64} {n : Nat} (hn : n < 1073741824) (h0 : ¬ lg_cmp t 0 < 0) (h1 : lg_cmp t (Int32.toInt64 (nI n)) < 0) : vp_in (Int64.toInt32 t) n := by
  have a := lc_ge h0
  have b := lc_lt h1
  rw [l_of, nI_val hn] at b
  have z : (0 : Int64).toInt = 0 := rfl
  rw [z] at a
  have e := i_of (a := t) (by omega) (by omega)
  exact vin_iff (by omega) (by omega)
theorem pad4 {x : Int32} (h0 : 0 ≤ x.toInt) (h1 : x.toInt < 1073741824) : x.toInt < ((x &&& -4) + 4).toInt ∧ ((x &&& -4) + 4).toInt ≤ x.toInt + 4 := by
  have e1 : (x &&& (-4 : Int32)) = x - (x &&& 3) := by
    apply Int32.toBitVec_inj.mp
    show x.toBitVec &&& (-4 : Int32).toBitVec = x.toBitVec - (x.toBitVec &&& (3 : Int32).toBitVec)
    have h : x.toBitVec = (x.toBitVec &&& (-4 : Int32).toBitVec) + (x.toBitVec &&& (3 : Int32).toBitVec) := by
      rw [BitVec.add_eq_or_of_and_eq_zero]
      · rw [← BitVec.and_or_distrib_left]
        have : (-4 : Int32).toBitVec ||| (3 : Int32).toBitVec = BitVec.allOnes 32 := by decide
        rw [this, BitVec.and_allOnes]
      · have : (x.toBitVec &&& (-4 : Int32).toBitVec) &&& (x.toBitVec &&& (3 : Int32).toBitVec) = x.toBitVec &&& ((-4 : Int32).toBitVec &&& (3 : Int32).toBitVec) := by
          rw [BitVec.and_assoc, ← BitVec.and_assoc (-4 : Int32).toBitVec, BitVec.and_comm (-4 : Int32).toBitVec, BitVec.and_assoc, ← BitVec.and_assoc x.toBitVec, BitVec.and_self]
        rw [this]
        have : (-4 : Int32).toBitVec &&& (3 : Int32).toBitVec = 0#32 := by decide
        rw [this, BitVec.and_zero]
    conv => rhs; lhs; rw [h]
    rw [BitVec.add_sub_cancel]
  have e2 : 0 ≤ (x &&& 3).toInt ∧ (x &&& 3).toInt < 4 ∧ (x &&& 3).toInt ≤ x.toInt := by
    have hx : x.toInt = (x.toBitVec.toNat : Int) := by
      show x.toBitVec.toInt = _
      rw [BitVec.toInt_eq_toNat_of_msb]
      have := (BitVec.msb_eq_toInt (x := x.toBitVec))
      rw [this]
      exact decide_eq_false (by show ¬ x.toBitVec.toInt < 0; change 0 ≤ x.toBitVec.toInt at h0; omega)
    have h3 : (x &&& 3).toBitVec.toNat = x.toBitVec.toNat % 4 := by
      show (x.toBitVec &&& (3 : Int32).toBitVec).toNat = _
      rw [BitVec.toNat_and]
      exact Nat.and_two_pow_sub_one_eq_mod x.toBitVec.toNat 2
    have h4 : (x &&& 3).toInt = ((x &&& 3).toBitVec.toNat : Int) := by
      show (x &&& 3).toBitVec.toInt = _
      apply BitVec.toInt_eq_toNat_of_lt
      rw [h3]
      omega
    rw [h4, h3, hx]
    omega
  have e3 : (x - (x &&& 3)).toInt = x.toInt - (x &&& 3).toInt := i_sub (by omega) (by omega)
  have f4 : (4 : Int32).toInt = 4 := rfl
  rw [e1, i_add (by rw [e3, f4]; omega) (by rw [e3, f4]; omega), e3, f4]
  omega
/-- sizes of the two switches -/
theorem tab_sz {cl sa p x y : Int32} {k : Nat} (hk : k < 1073741824) (hcl : cl.toInt ≤ k) (h0 : 0 ≤ p.toInt) (h1 : p.toInt < sa.toInt) (h2 : sa.toInt ≤ p.toInt + 4) (hp : p.toInt < cl.toInt) (c62 : ¬ lg_cmp (Int32.toInt64 y - Int32.toInt64 x + 1) 1 < 0) (c84 : lg_cmp ((Int32.toInt64 y - Int32.toInt64 x + 1) * 4) (Int32.toInt64 (cl - sa - 12)) ≤ 0) :
    1 ≤ (sa + 12 + 4 * Int64.toInt32 (Int32.toInt64 y - Int32.toInt64 x + 1) - p).toInt ∧ p.toInt + (sa + 12 + 4 * Int64.toInt32 (Int32.toInt64 y - Int32.toInt64 x + 1) - p).toInt ≤ k := by
  have bx := Int32.toInt_lt x
  have bx' := Int32.le_toInt x
  have bY := Int32.toInt_lt y
  have bY' := Int32.le_toInt y
  have f1 : (1 : Int64).toInt = 1 := rfl
  have f4 : (4 : Int64).toInt = 4 := rfl
  have g4 : (4 : Int32).toInt = 4 := rfl
  have g12 : (12 : Int32).toInt = 12 := rfl
  have e1 : (Int32.toInt64 y - Int32.toInt64 x).toInt = y.toInt - x.toInt := by
    rw [l_sub (by rw [l_of, l_of]; omega) (by rw [l_of, l_of]; omega), l_of, l_of]
  have e2 : (Int32.toInt64 y - Int32.toInt64 x + 1).toInt = y.toInt - x.toInt + 1 := by
    rw [l_add (by rw [e1, f1]; omega) (by rw [e1, f1]; omega), e1, f1]
  have a1 := lc_ge c62
  rw [f1] at a1
  have a2 := lc_le c84
  generalize Int32.toInt64 y - Int32.toInt64 x + 1 = z at *
  have e3 : (z * 4).toInt = z.toInt * 4 := by
    rw [l_mul (by rw [f4]; omega) (by rw [f4]; omega), f4]
  have e4 : (cl - sa).toInt = cl.toInt - sa.toInt := i_sub (by omega) (by omega)
  have e5 : (cl - sa - 12).toInt = cl.toInt - sa.toInt - 12 := by
    rw [i_sub (by rw [e4, g12]; omega) (by rw [e4, g12]; omega), e4, g12]
  rw [e3, l_of, e5] at a2
  have e6 : (Int64.toInt32 z).toInt = z.toInt := i_of (by omega) (by omega)
  have e7 : (4 * Int64.toInt32 z).toInt = 4 * z.toInt := by
    rw [i_mul (by rw [e6, g4]; omega) (by rw [e6, g4]; omega), e6, g4]
  have e8 : (sa + 12).toInt = sa.toInt + 12 := by
    rw [i_add (by rw [g12]; omega) (by rw [g12]; omega), g12]
  have e9 : (sa + 12 + 4 * Int64.toInt32 z).toInt = sa.toInt + 12 + 4 * z.toInt := by
    rw [i_add (by rw [e8, e7]; omega) (by rw [e8, e7]; omega), e8, e7]
  have e10 : (sa + 12 + 4 * Int64.toInt32 z - p).toInt = sa.toInt + 12 + 4 * z.toInt - p.toInt := by
    rw [i_sub (by rw [e9]; omega) (by rw [e9]; omega), e9]
  rw [e10]
  omega
theorem i_div8 {a : Int32} (h : 0 ≤ a.toInt) : (a / 8).toInt = a.toInt / 8 := by
  have f : (8 : Int32).toInt = 8 := rfl
  rw [Int32.toInt_div, f, Int.tdiv_eq_ediv_of_nonneg h]
  apply Int.bmod_eq_of_le <;> have := Int32.toInt_lt a <;> omega
theorem look_sz {cl sa p x : Int32} {k : Nat} (hk : k < 1073741824) (hcl : cl.toInt ≤ k) (h0 : 0 ≤ p.toInt) (h1 : p.toInt < sa.toInt) (h2 : sa.toInt ≤ p.toInt + 4) (hp : p.toInt < cl.toInt) (c11 : 8 ≤ cl - sa) (c34 : ¬ x < 0) (c56 : x ≤ (cl - sa - 8) / 8) :
    1 ≤ (sa + 8 + 8 * x - p).toInt ∧ p.toInt + (sa + 8 + 8 * x - p).toInt ≤ k := by
  have g8 : (8 : Int32).toInt = 8 := rfl
  have e4 : (cl - sa).toInt = cl.toInt - sa.toInt := i_sub (by omega) (by omega)
  have a0 := i_le c11
  rw [e4, g8] at a0
  have e5 : (cl - sa - 8).toInt = cl.toInt - sa.toInt - 8 := by
    rw [i_sub (by rw [e4, g8]; omega) (by rw [e4, g8]; omega), e4, g8]
  have a1 := nneg c34
  have a2 := i_le c56
  rw [i_div8 (by rw [e5]; omega), e5] at a2
  have e7 : (8 * x).toInt = 8 * x.toInt := by
    rw [i_mul (by rw [g8]; omega) (by rw [g8]; omega), g8]
  have e8 : (sa + 8).toInt = sa.toInt + 8 := by
    rw [i_add (by rw [g8]; omega) (by rw [g8]; omega), g8]
  have e9 : (sa + 8 + 8 * x).toInt = sa.toInt + 8 + 8 * x.toInt := by
    rw [i_add (by rw [e8, e7]; omega) (by rw [e8, e7]; omega), e8, e7]
  have e10 : (sa + 8 + 8 * x - p).toInt = sa.toInt + 8 + 8 * x.toInt - p.toInt := by
    rw [i_sub (by rw [e9]; omega) (by rw [e9]; omega), e9]
  rw [e10]
  omega
theorem sz_in {cl p z : Int32} {k : Nat} (hk : k < 1073741824) (hcl : cl.toInt ≤ k) (h0 : 0 ≤ p.toInt) (hp : p.toInt < cl.toInt) (c : z ≤ cl - p) : p.toInt + z.toInt ≤ k := by
  have a := i_le c
  rw [i_sub (by omega) (by omega)] at a
  omega
end MIN
end
