section
/-! what the reference reads of a file (my own text) -/
section MIN2
def f1 (f : Nat → Int32) (x : Int32) : Int32 := f x.toNatClampNeg &&& 255
def f2 (f : Nat → Int32) (x : Int32) : Int32 := (f1 f x <<< (8 &&& 31)) ||| f1 f (x + 1)
def f4 (f : Nat → Int32) (x : Int32) : Int64 := ((Int32.toInt64 (f2 f x)) <<< (Int32.toInt64 16 &&& 63)) ||| (Int32.toInt64 (f2 f (x + 2)))
def FK (n : Nat) (f : Nat → Int32) (I : rI) (R : rR) : Prop := n ≤ 65540 ∧ I 49 = some 0 ∧ I 16 = some (nI n) ∧ ∀ i, i < n → R 12 i = some (f i)
variable {n : Nat} {f : Nat → Int32} {I I' : rI} {R R' : rR} {x : Int32}
theorem FK.mono (h : FK n f I R) (hI : ∀ k, k ∈ [16, 49] → I' k = I k) (hR : ∀ k, k ∈ [12] → R' k = R k) : FK n f I' R' :=
  ⟨h.1, (hI 49 (by decide)).trans h.2.1, (hI 16 (by decide)).trans h.2.2.1, fun i hi => by rw [hR 12 (by decide)]; exact h.2.2.2 i hi⟩
theorem z_add (x : Int32) : 0 + x = x := Int32.zero_add x
theorem vin_lt {x : Int32} {m : Nat} (h0 : 0 ≤ x.toInt) (h1 : x.toInt < m) : vp_in x m := by
  rintro (q | q)
  · exact nlt0 h0 q
  · have : m ≤ x.toInt.toNat := q
    omega
theorem FK.iin (h : FK n f I R) (h0 : 0 ≤ x.toInt) (h1 : x.toInt < n) : vp_in (0 + x) 65600 := by
  rw [z_add]
  have := h.1
  exact vin_lt h0 (by omega)
theorem FK.iat (h : FK n f I R) (h0 : 0 ≤ x.toInt) (h1 : x.toInt < n) : R 12 (0 + x).toNatClampNeg = some (f x.toNatClampNeg) := by
  rw [z_add]
  exact h.2.2.2 _ (by show x.toInt.toNat < n; omega)
theorem b255 (y : Int32) : (y &&& 255).toBitVec.toNat < 2 ^ 8 := by
  show (y.toBitVec &&& 255#32).toNat < 2 ^ 8
  rw [BitVec.toNat_and]
  exact Nat.lt_of_le_of_lt Nat.and_le_right (by decide)
theorem f2_nat : (f2 f x).toBitVec.toNat < 2 ^ 16 := by
  show (((f x.toNatClampNeg).toBitVec &&& 255#32) <<< (8 : Nat) ||| ((f (x + 1).toNatClampNeg).toBitVec &&& 255#32)).toNat < 2 ^ 16
  have hx := b255 (f x.toNatClampNeg)
  have hy := b255 (f (x + 1).toNatClampNeg)
  have hx : ((f x.toNatClampNeg).toBitVec &&& 255#32).toNat < 2 ^ 8 := hx
  have hy : ((f (x + 1).toNatClampNeg).toBitVec &&& 255#32).toNat < 2 ^ 8 := hy
  rw [BitVec.toNat_or]
  refine Nat.or_lt_two_pow ?_ (by omega)
  rw [BitVec.toNat_shiftLeft, Nat.shiftLeft_eq]
  exact Nat.lt_of_le_of_lt (Nat.mod_le _ _) (by omega)
theorem nat_int {y : Int32} (h : y.toBitVec.toNat < 2 ^ 16) : y.toInt = y.toBitVec.toNat := by
  have : y.toBitVec.toInt = y.toBitVec.toNat := BitVec.toInt_eq_toNat_of_lt (by omega)
  exact this
theorem f2_pos : 0 ≤ (f2 f x).toInt := by
  rw [nat_int f2_nat]
  omega
theorem f2_le : (f2 f x).toInt ≤ 65535 := by
  rw [nat_int f2_nat]
  have := f2_nat (f := f) (x := x)
  omega
theorem f1_pos : 0 ≤ (f1 f x).toInt ∧ (f1 f x).toInt ≤ 255 := by
  have h : (f1 f x).toBitVec.toNat < 2 ^ 8 := b255 _
  rw [nat_int (by omega)]
  omega
theorem f4_val : (f4 f x).toInt = (f2 f x).toInt * 65536 + (f2 f (x + 2)).toInt := by
  have ha := f2_nat (f := f) (x := x)
  have hb := f2_nat (f := f) (x := x + 2)
  rw [nat_int ha, nat_int hb]
  have e1 : (Int32.toInt64 (f2 f x)).toBitVec.toNat = (f2 f x).toBitVec.toNat := by
    show ((f2 f x).toBitVec.signExtend 64).toNat = _
    rw [BitVec.signExtend_eq_setWidth_of_msb_false (by rw [BitVec.msb_eq_false_iff_two_mul_lt]; omega), BitVec.toNat_setWidth]
    exact Nat.mod_eq_of_lt (by omega)
  have e2 : (Int32.toInt64 (f2 f (x + 2))).toBitVec.toNat = (f2 f (x + 2)).toBitVec.toNat := by
    show ((f2 f (x + 2)).toBitVec.signExtend 64).toNat = _
    rw [BitVec.signExtend_eq_setWidth_of_msb_false (by rw [BitVec.msb_eq_false_iff_two_mul_lt]; omega), BitVec.toNat_setWidth]
    exact Nat.mod_eq_of_lt (by omega)
  have e3 : (f4 f x).toBitVec.toNat = (f2 f x).toBitVec.toNat * 65536 + (f2 f (x + 2)).toBitVec.toNat := by
    show (((Int32.toInt64 (f2 f x)).toBitVec <<< (16 : Nat)) ||| (Int32.toInt64 (f2 f (x + 2))).toBitVec).toNat = _
    rw [BitVec.toNat_or, BitVec.toNat_shiftLeft, e1, e2, Nat.mod_eq_of_lt (by rw [Nat.shiftLeft_eq]; omega), ← Nat.shiftLeft_add_eq_or_of_lt (by omega), Nat.shiftLeft_eq]
  have e4 : (f4 f x).toBitVec.toInt = (f4 f x).toBitVec.toNat := BitVec.toInt_eq_toNat_of_lt (by rw [e3]; omega)
  show (f4 f x).toBitVec.toInt = _
  rw [e4, e3]
  omega
theorem f4_pos : 0 ≤ (f4 f x).toInt := by
  rw [f4_val]
  have := f2_pos (f := f) (x := x)
  have := f2_pos (f := f) (x := x + 2)
  omega
theorem f4_le : (f4 f x).toInt ≤ 4294967295 := by
  rw [f4_val]
  have := f2_le (f := f) (x := x)
  have := f2_le (f := f) (x := x + 2)
  omega
/-- so many steps one behind another -/
def itr (P : Int32 → Int32 → Prop) : Nat → Int32 → Int32 → Prop
  | 0, a, b => b = a
  | k + 1, a, b => ∃ c, itr P k a c ∧ P c b
theorem itr.front {P : Int32 → Int32 → Prop} : ∀ {k : Nat} {a b : Int32}, itr P (k + 1) a b → ∃ c, P a c ∧ itr P k c b
  | 0, a, b, ⟨c, h1, h2⟩ => by
    cases h1
    exact ⟨b, h2, rfl⟩
  | k + 1, a, b, ⟨c, h1, h2⟩ => by
    obtain ⟨e, h3, h4⟩ := itr.front h1
    exact ⟨e, h3, c, h4, h2⟩
theorem itr.ge {P : Int32 → Int32 → Prop} {w : Int} (hP : ∀ a b, P a b → a.toInt + w ≤ b.toInt) : ∀ {k : Nat} {a b : Int32}, itr P k a b → a.toInt + k * w ≤ b.toInt
  | 0, a, b, h => by
    cases h
    omega
  | k + 1, a, b, ⟨c, h1, h2⟩ => by
    have h3 := itr.ge hP h1
    have h4 := hP _ _ h2
    have : ((k + 1 : Nat) : Int) * w = k * w + w := by rw [Int.natCast_add, Int.add_mul]; omega
    omega
def RA1 (f : Nat → Int32) (n : Nat) (a b : Int32) : Prop := 0 ≤ a.toInt ∧ a.toInt + 6 ≤ n ∧ a.toInt + 6 + (f4 f (a + 2)).toInt ≤ n ∧ b.toInt = a.toInt + 6 + (f4 f (a + 2)).toInt
def AT (f : Nat → Int32) (n : Nat) (a b : Int32) : Prop := 0 ≤ a.toInt ∧ a.toInt + 2 ≤ n ∧ itr (RA1 f n) (f2 f a).toInt.toNat (a + 2) b ∧ b.toInt ≤ n
def MB1 (f : Nat → Int32) (n : Nat) (a b : Int32) : Prop := 0 ≤ a.toInt ∧ a.toInt + 6 ≤ n ∧ AT f n (a + 6) b
def MB (f : Nat → Int32) (n : Nat) (a b : Int32) : Prop := 0 ≤ a.toInt ∧ a.toInt + 2 ≤ n ∧ itr (MB1 f n) (f2 f a).toInt.toNat (a + 2) b ∧ b.toInt ≤ n
end MIN2
end
section
/-! the reference: bytes, items, attributes (laid by wip/p2/c60.py) -/
set_option maxHeartbeats 2000000 in
theorem rm_u1 {g : xe_G}  {m0 : Nat} {q : Nat → Nat} {z : Nat × Nat} {I : rI} {R : rR} {M : mi_H} {x1 : Int32} {n : Nat} {f : Nat → Int32}  (hR : RS g m0 q z I R M) (hF : FK n f I R) (h0 : 0 ≤ x1.toInt) (h1 : x1.toInt < n) {d : Nat} (hd : 1 ≤ d) : mt (mT g) d 249 [.ref m0, .int x1] M (fun v M' => v = some (.int (f1 f x1)) ∧ M' = M) := by
  obtain ⟨d, rfl⟩ : ∃ e, d = e + 1 := ⟨d - 1, by omega⟩
  refine mt_in (b := mb_249 g) rfl rfl ?_
  show ml (mT g) d (mb_249 g).2 (0, [(0, .ref m0), (1, .int x1)], [], M) _
  refine ml_st (S' := (1, [(0, .ref m0), (1, .int x1)], [.ref m0], M)) rfl rfl rfl ?_
  refine rg_ref (S' := (4, [(0, .ref m0), (1, .int x1)], [.ref (q 12)], M)) rfl hR rfl rfl ?_
  refine ml_st (S' := (5, [(0, .ref m0), (1, .int x1)], [.ref m0, .ref (q 12)], M)) rfl rfl rfl ?_
  refine rg_int (S' := (8, [(0, .ref m0), (1, .int x1)], [.int 0, .ref (q 12)], M)) rfl hR rfl (hF.2.1) rfl ?_
  refine ml_blk 2 (S' := (10, [(0, .ref m0), (1, .int x1)], [.int (0 + x1), .ref (q 12)], M)) rfl ?_
  refine ra_ld (k := 12) (S' := (11, [(0, .ref m0), (1, .int x1)], [.int (f x1.toNatClampNeg)], M)) rfl hR rfl (hF.iin h0 h1) (hF.iat h0 h1) rfl ?_
  refine ml_blk 2 (S' := (15, [(0, .ref m0), (1, .int x1)], [.int ((f x1.toNatClampNeg) &&& 255)], M)) rfl ?_
  exact ml_ret rfl (rfl) (⟨rfl, rfl⟩)
set_option maxHeartbeats 2000000 in
theorem rm_u2 {g : xe_G}  {m0 : Nat} {q : Nat → Nat} {z : Nat × Nat} {I : rI} {R : rR} {M : mi_H} {x1 : Int32} {n : Nat} {f : Nat → Int32}  (hR : RS g m0 q z I R M) (hF : FK n f I R) (h0 : 0 ≤ x1.toInt) (h1 : x1.toInt + 2 ≤ n) {d : Nat} (hd : 2 ≤ d) : mt (mT g) d 250 [.ref m0, .int x1] M (fun v M' => v = some (.int (f2 f x1)) ∧ M' = M) := by
  obtain ⟨d, rfl⟩ : ∃ e, d = e + 1 := ⟨d - 1, by omega⟩
  refine mt_in (b := mb_250 g) rfl rfl ?_
  show ml (mT g) d (mb_250 g).2 (0, [(0, .ref m0), (1, .int x1)], [], M) _
  have hn := hF.1
  have e1 : (x1 + 1).toInt = x1.toInt + 1 := i_add (by have : (1 : Int32).toInt = 1 := rfl; omega) (by have : (1 : Int32).toInt = 1 := rfl; omega)
  refine ml_blk 2 (S' := (2, [(0, .ref m0), (1, .int x1)], [.int x1, .ref m0], M)) rfl ?_
  refine ml_call (a := [.ref m0, .int x1]) (rest := []) rfl (hR.okc rfl rfl rfl) rfl rfl (rm_u1 hR hF (h0) (by omega) (by omega)) (fun v11 M12 h13 => ?_)
  obtain ⟨rfl, h13⟩ := h13
  rw [h13]
  show ml _ _ _ (5, [(0, .ref m0), (1, .int x1)], [.int (f1 f x1)], M) _
  refine ml_blk 3 (S' := (9, [(0, .ref m0), (1, .int x1)], [.ref m0, .int ((f1 f x1) <<< (8 &&& 31))], M)) rfl ?_
  refine ml_blk 3 (S' := (12, [(0, .ref m0), (1, .int x1)], [.int (x1 + 1), .ref m0, .int ((f1 f x1) <<< (8 &&& 31))], M)) rfl ?_
  refine ml_call (a := [.ref m0, .int (x1 + 1)]) (rest := [.int ((f1 f x1) <<< (8 &&& 31))]) rfl (hR.okc rfl rfl rfl) rfl rfl (rm_u1 hR hF (by omega) (by omega) (by omega)) (fun v14 M15 h16 => ?_)
  obtain ⟨rfl, h16⟩ := h16
  rw [h16]
  show ml _ _ _ (15, [(0, .ref m0), (1, .int x1)], [.int (f1 f (x1 + 1)), .int ((f1 f x1) <<< (8 &&& 31))], M) _
  refine ml_st (S' := (16, [(0, .ref m0), (1, .int x1)], [.int (((f1 f x1) <<< (8 &&& 31)) ||| (f1 f (x1 + 1)))], M)) rfl rfl rfl ?_
  exact ml_ret rfl (rfl) (⟨rfl, rfl⟩)
set_option maxHeartbeats 2000000 in
theorem rm_u4 {g : xe_G}  {m0 : Nat} {q : Nat → Nat} {z : Nat × Nat} {I : rI} {R : rR} {M : mi_H} {x1 : Int32} {n : Nat} {f : Nat → Int32}  (hR : RS g m0 q z I R M) (hF : FK n f I R) (h0 : 0 ≤ x1.toInt) (h1 : x1.toInt + 4 ≤ n) {d : Nat} (hd : 3 ≤ d) : mt (mT g) d 251 [.ref m0, .int x1] M (fun v M' => v = some (.long (f4 f x1)) ∧ M' = M) := by
  obtain ⟨d, rfl⟩ : ∃ e, d = e + 1 := ⟨d - 1, by omega⟩
  refine mt_in (b := mb_251 g) rfl rfl ?_
  show ml (mT g) d (mb_251 g).2 (0, [(0, .ref m0), (1, .int x1)], [], M) _
  have hn := hF.1
  have e2 : (x1 + 2).toInt = x1.toInt + 2 := i_add (by have : (2 : Int32).toInt = 2 := rfl; omega) (by have : (2 : Int32).toInt = 2 := rfl; omega)
  refine ml_blk 2 (S' := (2, [(0, .ref m0), (1, .int x1)], [.int x1, .ref m0], M)) rfl ?_
  refine ml_call (a := [.ref m0, .int x1]) (rest := []) rfl (hR.okc rfl rfl rfl) rfl rfl (rm_u2 hR hF (h0) (by omega) (by omega)) (fun v11 M12 h13 => ?_)
  obtain ⟨rfl, h13⟩ := h13
  rw [h13]
  show ml _ _ _ (5, [(0, .ref m0), (1, .int x1)], [.int (f2 f x1)], M) _
  refine ml_blk 3 (S' := (9, [(0, .ref m0), (1, .int x1)], [.long ((Int32.toInt64 (f2 f x1)) <<< (Int32.toInt64 16 &&& 63))], M)) rfl ?_
  refine ml_blk 3 (S' := (12, [(0, .ref m0), (1, .int x1)], [.int 2, .int x1, .ref m0, .long ((Int32.toInt64 (f2 f x1)) <<< (Int32.toInt64 16 &&& 63))], M)) rfl ?_
  refine ml_st (S' := (13, [(0, .ref m0), (1, .int x1)], [.int (x1 + 2), .ref m0, .long ((Int32.toInt64 (f2 f x1)) <<< (Int32.toInt64 16 &&& 63))], M)) rfl rfl rfl ?_
  refine ml_call (a := [.ref m0, .int (x1 + 2)]) (rest := [.long ((Int32.toInt64 (f2 f x1)) <<< (Int32.toInt64 16 &&& 63))]) rfl (hR.okc rfl rfl rfl) rfl rfl (rm_u2 hR hF (by omega) (by omega) (by omega)) (fun v14 M15 h16 => ?_)
  obtain ⟨rfl, h16⟩ := h16
  rw [h16]
  show ml _ _ _ (16, [(0, .ref m0), (1, .int x1)], [.int (f2 f (x1 + 2)), .long ((Int32.toInt64 (f2 f x1)) <<< (Int32.toInt64 16 &&& 63))], M) _
  refine ml_blk 2 (S' := (18, [(0, .ref m0), (1, .int x1)], [.long (((Int32.toInt64 (f2 f x1)) <<< (Int32.toInt64 16 &&& 63)) ||| (Int32.toInt64 (f2 f (x1 + 2))))], M)) rfl ?_
  exact ml_ret rfl (rfl) (⟨rfl, rfl⟩)
set_option maxHeartbeats 2000000 in
theorem rm_wrong {g : xe_G}  {m0 : Nat} {q : Nat → Nat} {z : Nat × Nat} {I : rI} {R : rR} {M : mi_H} {x1 x2 : Int32}  (hR : RS g m0 q z I R M) {d : Nat} (hd : 1 ≤ d) : mt (mT g) d 257 [.ref m0, .int x1, .int x2] M (fun v M' => ∃ (x : Int32) (I' : rI) (R' : rR), v = some (.int x) ∧ RS g m0 q z I' R' M' ∧ eqI [47, 48] I I' ∧ eqR [] R R' ∧ (x = 0 ∨ x = 1) ∧ x = 0) := by
  obtain ⟨d, rfl⟩ : ∃ e, d = e + 1 := ⟨d - 1, by omega⟩
  refine mt_in (b := mb_257 g) rfl rfl ?_
  show ml (mT g) d (mb_257 g).2 (0, [(0, .ref m0), (1, .int x1), (2, .int x2)], [], M) _
  refine ml_blk 2 (S' := (2, [(0, .ref m0), (1, .int x1), (2, .int x2)], [.int x1, .ref m0], M)) rfl ?_
  refine rp_int rfl hR rfl (fun M11 I12 hR13 e14 f15 => ?_)
  show ml _ _ _ (5, [(0, .ref m0), (1, .int x1), (2, .int x2)], [], M11) _
  refine ml_blk 2 (S' := (7, [(0, .ref m0), (1, .int x1), (2, .int x2)], [.int x2, .ref m0], M11)) rfl ?_
  refine rp_int rfl hR13 rfl (fun M16 I17 hR18 e19 f20 => ?_)
  show ml _ _ _ (10, [(0, .ref m0), (1, .int x1), (2, .int x2)], [], M16) _
  refine ml_st (S' := (11, [(0, .ref m0), (1, .int x1), (2, .int x2)], [.int 0], M16)) rfl rfl rfl ?_
  exact ml_ret rfl (r_z (Or.inl rfl)) (⟨_, _, _, rfl, hR18, ((eqI.rf.put f15 (by decide)).put f20 (by decide)), eqR.rf, Or.inl rfl, rfl⟩)
theorem item_le {p : Int32} {x : Int64} {n : Nat} (hn : n ≤ 65540) (h0 : 0 ≤ p.toInt) (h1 : p.toInt ≤ n) (hx : 0 ≤ x.toInt) (hx1 : x.toInt ≤ 8589934592) (h : lg_cmp (Int32.toInt64 p + x) (Int32.toInt64 (nI n)) ≤ 0) : p.toInt + x.toInt ≤ n := by
  have h2 := lc_le h
  rw [l_add (by rw [l_of]; omega) (by rw [l_of]; omega), l_of, l_of, nI_val (by omega)] at h2
  exact h2

set_option maxHeartbeats 2000000 in
theorem rm_item {g : xe_G}  {m0 : Nat} {q : Nat → Nat} {z : Nat × Nat} {I : rI} {R : rR} {M : mi_H} {p : Int32} {x1 : Int64} {n : Nat} {f : Nat → Int32}  (hR : RS g m0 q z I R M) (hk50 : I 50 = some p) (hF : FK n f I R) (h0 : 0 ≤ p.toInt) (h1 : p.toInt ≤ n) (hx : 0 ≤ x1.toInt) (hx1 : x1.toInt ≤ 8589934592) {d : Nat} (hd : 2 ≤ d) : mt (mT g) d 219 [.ref m0, .long x1] M (fun v M' => ∃ (x : Int32) (I' : rI) (R' : rR), v = some (.int x) ∧ RS g m0 q z I' R' M' ∧ eqI [47, 48] I I' ∧ eqR [] R R' ∧ (x = 0 ∨ x = 1) ∧ (x = 0 ∨ p.toInt + x1.toInt ≤ n)) := by
  obtain ⟨d, rfl⟩ : ∃ e, d = e + 1 := ⟨d - 1, by omega⟩
  refine mt_in (b := mb_219 g) rfl rfl ?_
  show ml (mT g) d (mb_219 g).2 (0, [(0, .ref m0), (1, .long x1)], [], M) _
  refine ml_st (S' := (1, [(0, .ref m0), (1, .long x1)], [.ref m0], M)) rfl rfl rfl ?_
  refine rg_int (S' := (4, [(0, .ref m0), (1, .long x1)], [.int p], M)) rfl hR rfl (hk50) rfl ?_
  refine ml_blk 3 (S' := (7, [(0, .ref m0), (1, .long x1)], [.long ((Int32.toInt64 p) + x1)], M)) rfl ?_
  refine ml_st (S' := (8, [(0, .ref m0), (1, .long x1)], [.ref m0, .long ((Int32.toInt64 p) + x1)], M)) rfl rfl rfl ?_
  refine rg_int (S' := (11, [(0, .ref m0), (1, .long x1)], [.int (nI n), .long ((Int32.toInt64 p) + x1)], M)) rfl hR rfl (hF.2.2.1) rfl ?_
  refine ml_blk 2 (S' := (13, [(0, .ref m0), (1, .long x1)], [.int (lg_cmp ((Int32.toInt64 p) + x1) (Int32.toInt64 (nI n)))], M)) rfl ?_
  refine ml_if (S1 := (28, [], [], M)) (S2 := (16, [(0, .ref m0), (1, .long x1)], [], M)) rfl rfl rfl (fun c_13 => ?_) (fun c_13 => ?_)
  · have c_13 : (lg_cmp ((Int32.toInt64 p) + x1) (Int32.toInt64 (nI n))) ≤ 0 := of_decide_eq_true c_13
    refine ml_st (S' := (29, [], [.int 1], M)) rfl rfl rfl ?_
    refine ml_st (S' := (33, [], [.int 1], M)) rfl rfl rfl ?_
    exact ml_ret rfl (r_z (Or.inr rfl)) (⟨_, _, _, rfl, hR, eqI.rf, eqR.rf, Or.inr rfl, Or.inr (item_le hF.1 h0 h1 hx hx1 c_13)⟩)
  · have c_13 : ¬ ((lg_cmp ((Int32.toInt64 p) + x1) (Int32.toInt64 (nI n))) ≤ 0) := of_decide_eq_false c_13
    refine ml_blk 3 (S' := (19, [(0, .ref m0), (1, .long x1)], [.ref m0, .int 1, .ref m0], M)) rfl ?_
    refine rg_int (S' := (22, [(0, .ref m0), (1, .long x1)], [.int p, .int 1, .ref m0], M)) rfl hR rfl (hk50) rfl ?_
    refine ml_call (a := [.ref m0, .int 1, .int p]) (rest := []) rfl (hR.okc rfl rfl rfl) rfl rfl (rm_wrong hR (by omega)) (fun v11 M12 h13 => ?_)
    obtain ⟨u19, I14, R15, rfl, hR16, hI17, hV18, z20, w21⟩ := h13
    show ml _ _ _ (25, [(0, .ref m0), (1, .long x1)], [.int u19], M12) _
    refine ml_if (S1 := (32, [(0, .ref m0), (1, .long x1)], [], M12)) (S2 := (28, [], [], M12)) rfl rfl rfl (fun c_25 => ?_) (fun c_25 => ?_)
    · have c_25 : u19 = 0 := of_decide_eq_true c_25
      refine ml_st (S' := (33, [], [.int 0], M12)) rfl rfl rfl ?_
      exact ml_ret rfl (r_z (Or.inl rfl)) (⟨_, _, _, rfl, hR16, (eqI.rf.tr hI17 (by decide)), (eqR.rf.tr hV18 (by decide)), Or.inl rfl, Or.inl rfl⟩)
    · have c_25 : ¬ (u19 = 0) := of_decide_eq_false c_25
      refine ml_st (S' := (29, [], [.int 1], M12)) rfl rfl rfl ?_
      refine ml_st (S' := (33, [], [.int 1], M12)) rfl rfl rfl ?_
      exact ml_ret rfl (r_z (Or.inr rfl)) (⟨_, _, _, rfl, hR16, (eqI.rf.tr hI17 (by decide)), (eqR.rf.tr hV18 (by decide)), Or.inr rfl, absurd w21 c_25⟩)
theorem ra1_of {f : Nat → Int32} {n : Nat} {a : Int32} (hn : n ≤ 65540) (h0 : 0 ≤ a.toInt) (h2 : a.toInt + 6 ≤ n) (h3 : a.toInt + 6 + (f4 f (a + 2)).toInt ≤ n) : RA1 f n a (a + 2 + 4 + Int64.toInt32 (f4 f (a + 2))) ∧ 0 ≤ (a + 2 + 4 + Int64.toInt32 (f4 f (a + 2))).toInt ∧ (a + 2 + 4 + Int64.toInt32 (f4 f (a + 2))).toInt ≤ n := by
  have hp := f4_pos (f := f) (x := a + 2)
  have e2 : (2 : Int32).toInt = 2 := rfl
  have e4 : (4 : Int32).toInt = 4 := rfl
  have d2 : (a + 2).toInt = a.toInt + 2 := by rw [i_add (by omega) (by omega), e2]
  have d4 : (a + 2 + 4).toInt = a.toInt + 6 := by rw [i_add (by omega) (by omega), d2, e4]; omega
  have di : (Int64.toInt32 (f4 f (a + 2))).toInt = (f4 f (a + 2)).toInt := i_of (by omega) (by omega)
  have dl : (a + 2 + 4 + Int64.toInt32 (f4 f (a + 2))).toInt = a.toInt + 6 + (f4 f (a + 2)).toInt := by rw [i_add (by omega) (by omega), d4, di]
  exact ⟨⟨h0, h2, h3, dl⟩, by omega, by omega⟩
theorem itr_end {P : Int32 → Int32 → Prop} {i N a b : Int32} (h : itr P i.toInt.toNat a b) (h1 : i.toInt ≤ N.toInt) (h2 : N ≤ i) : itr P N.toInt.toNat a b := by
  have h3 := i_le h2
  rwa [show N.toInt.toNat = i.toInt.toNat by omega]
theorem itr_inc {P : Int32 → Int32 → Prop} {i N a b c : Int32} (h0 : 0 ≤ i.toInt) (hc : ¬ N ≤ i) (h : itr P i.toInt.toNat a b) (h1 : P b c) : itr P (i + 1).toInt.toNat a c := by
  rw [inc_lt (Int32.not_le.mp hc), show (i.toInt + 1).toNat = i.toInt.toNat + 1 by omega]
  exact ⟨b, h, h1⟩

set_option maxHeartbeats 2000000 in
theorem rm_attributes {g : xe_G}  {m0 : Nat} {q : Nat → Nat} {z : Nat × Nat} {I : rI} {R : rR} {M : mi_H} {p : Int32} {n : Nat} {f : Nat → Int32}  (hR : RS g m0 q z I R M) (hk50 : I 50 = some p) (hF : FK n f I R) (h0 : 0 ≤ p.toInt) (h1 : p.toInt ≤ n) {d : Nat} (hd : 4 ≤ d) : mt (mT g) d 178 [.ref m0] M (fun v M' => ∃ (x : Int32) (I' : rI) (R' : rR), v = some (.int x) ∧ RS g m0 q z I' R' M' ∧ eqI [47, 48, 50] I I' ∧ eqR [] R R' ∧ (x = 0 ∨ x = 1) ∧ (x = 0 ∨ ∃ p1, I' 50 = some p1 ∧ AT f n p p1)) := by
  obtain ⟨d, rfl⟩ : ∃ e, d = e + 1 := ⟨d - 1, by omega⟩
  refine mt_in (b := mb_178 g) rfl rfl ?_
  show ml (mT g) d (mb_178 g).2 (0, [(0, .ref m0)], [], M) _
  have hn := hF.1
  have l2 : (2 : Int64).toInt = 2 := rfl
  have l4 : (4 : Int64).toInt = 4 := rfl
  refine ml_blk 2 (S' := (4, [(0, .ref m0)], [.long 2, .ref m0], M)) rfl ?_
  refine ml_call (a := [.ref m0, .long 2]) (rest := []) rfl (hR.okc rfl rfl rfl) rfl rfl (rm_item hR (hk50) hF (h0) (h1) (by decide) (by decide) (by omega)) (fun v11 M12 h13 => ?_)
  obtain ⟨u19, I14, R15, rfl, hR16, hI17, hV18, z20, w21⟩ := h13
  show ml _ _ _ (7, [(0, .ref m0)], [.int u19], M12) _
  refine ml_if (S1 := (12, [(0, .ref m0)], [], M12)) (S2 := (10, [(0, .ref m0)], [], M12)) rfl rfl rfl (fun c_7 => ?_) (fun c_7 => ?_)
  · have c_7 : ¬ u19 = 0 := of_decide_eq_true c_7
    have ha := w21.resolve_left c_7
    have ep2 : (p + 2).toInt = p.toInt + 2 := i_add (by have : (2 : Int32).toInt = 2 := rfl; omega) (by have : (2 : Int32).toInt = 2 := rfl; omega)
    refine ml_blk 2 (S' := (14, [(0, .ref m0)], [.ref m0, .ref m0], M12)) rfl ?_
    refine rg_int (S' := (17, [(0, .ref m0)], [.int p, .ref m0], M12)) rfl hR16 rfl ((hI17 50 (by decide)).trans (hk50)) rfl ?_
    have hF22 : FK n f I14 R15 := (hF.mono (cIx hI17 (by decide)) (cRx hV18 (by decide)))
    refine ml_call (a := [.ref m0, .int p]) (rest := []) rfl (hR16.okc rfl rfl rfl) rfl rfl (rm_u2 hR16 hF22 (h0) (by omega) (by omega)) (fun v23 M24 h25 => ?_)
    obtain ⟨rfl, h25⟩ := h25
    rw [h25]
    show ml _ _ _ (20, [(0, .ref m0)], [.int (f2 f p)], M12) _
    refine ml_st (S' := (21, [(1, .int (f2 f p)), (0, .ref m0)], [], M12)) rfl rfl rfl ?_
    refine ml_blk 2 (S' := (23, [(1, .int (f2 f p)), (0, .ref m0)], [.ref m0, .ref m0], M12)) rfl ?_
    refine rg_int (S' := (26, [(1, .int (f2 f p)), (0, .ref m0)], [.int p, .ref m0], M12)) rfl hR16 rfl ((hI17 50 (by decide)).trans (hk50)) rfl ?_
    refine ml_blk 2 (S' := (28, [(1, .int (f2 f p)), (0, .ref m0)], [.int (p + 2), .ref m0], M12)) rfl ?_
    refine rp_int rfl hR16 rfl (fun M26 I27 hR28 e29 f30 => ?_)
    show ml _ _ _ (31, [(1, .int (f2 f p)), (0, .ref m0)], [], M26) _
    refine ml_st (S' := (32, [(1, .int (f2 f p)), (0, .ref m0)], [.int 0], M26)) rfl rfl rfl ?_
    refine ml_st (S' := (33, [(0, .ref m0), (1, .int (f2 f p)), (2, .int 0)], [], M26)) rfl rfl rfl ?_
    have L_33 : ∀ (n_33 : Nat) (i33_2 : Int32) (pa : Int32) (M_33 : mi_H) (I_33 : rI) (R_33 : rR), (2147483648 - i33_2.toInt).toNat ≤ n_33 → RS g m0 q z I_33 R_33 M_33 → eqI [47, 48, 50] I27 I_33 → eqR [] R15 R_33 → (I_33 50 = some pa ∧ 0 ≤ pa.toInt ∧ pa.toInt ≤ n ∧ 0 ≤ i33_2.toInt ∧ i33_2.toInt ≤ (f2 f p).toInt ∧ itr (RA1 f n) i33_2.toInt.toNat (p + 2) pa) → ml (mT g) d (mb_178 g).2 (33, [(0, .ref m0), (1, .int (f2 f p)), (2, .int i33_2)], [], M_33) (fun v M' => ∃ (x : Int32) (I' : rI) (R' : rR), v = some (.int x) ∧ RS g m0 q z I' R' M' ∧ eqI [47, 48, 50] I I' ∧ eqR [] R R' ∧ (x = 0 ∨ x = 1) ∧ (x = 0 ∨ ∃ p1, I' 50 = some p1 ∧ AT f n p p1)) := by
      intro n_33
      induction n_33 with
      | zero => intro i33_2 pa M_33 I_33 R_33 hn; exact (loop_zero hn).elim
      | succ n_33 ih_33 =>
        intro i33_2 pa M_33 I_33 R_33 hn_33 hR_33 hI_33 hV_33 hi_33
        obtain ⟨hi50, hpa0, hpa1, hk0, hk1, hit⟩ := hi_33
        refine ml_blk 2 (S' := (35, [(0, .ref m0), (1, .int (f2 f p)), (2, .int i33_2)], [.int (f2 f p), .int i33_2], M_33)) rfl ?_
        refine ml_if2 (S1 := (118, [(0, .ref m0), (1, .int (f2 f p)), (2, .int i33_2)], [], M_33)) (S2 := (38, [(0, .ref m0), (1, .int (f2 f p)), (2, .int i33_2)], [], M_33)) rfl rfl rfl (fun c_35 => ?_) (fun c_35 => ?_)
        · have c_35 : (f2 f p) ≤ i33_2 := of_decide_eq_true c_35
          refine ml_st (S' := (119, [(0, .ref m0), (1, .int (f2 f p)), (2, .int i33_2)], [.int 1], M_33)) rfl rfl rfl ?_
          exact ml_ret rfl (r_z (Or.inr rfl)) (⟨_, _, _, rfl, hR_33, (((eqI.rf.tr hI17 (by decide)).put f30 (by decide)).tr hI_33 (by decide)), ((eqR.rf.tr hV18 (by decide)).tr hV_33 (by decide)), Or.inr rfl, Or.inr ⟨pa, hi50, h0, by omega, itr_end hit hk1 c_35, hpa1⟩⟩)
        · have c_35 : ¬ ((f2 f p) ≤ i33_2) := of_decide_eq_false c_35
          refine ml_blk 2 (S' := (42, [(0, .ref m0), (1, .int (f2 f p)), (2, .int i33_2)], [.long 2, .ref m0], M_33)) rfl ?_
          have hF31 : FK n f I_33 R_33 := ((hF22.mono (pIx f30 (by decide)) (fun _ _ => rfl)).mono (cIx hI_33 (by decide)) (cRx hV_33 (by decide)))
          refine ml_call (a := [.ref m0, .long 2]) (rest := []) rfl (hR_33.okc rfl rfl rfl) rfl rfl (rm_item hR_33 (hi50) hF31 (hpa0) (hpa1) (by decide) (by decide) (by omega)) (fun v32 M33 h34 => ?_)
          obtain ⟨u40, I35, R36, rfl, hR37, hI38, hV39, z41, w42⟩ := h34
          show ml _ _ _ (45, [(0, .ref m0), (1, .int (f2 f p)), (2, .int i33_2)], [.int u40], M33) _
          refine ml_if (S1 := (50, [(0, .ref m0), (1, .int (f2 f p)), (2, .int i33_2)], [], M33)) (S2 := (48, [(0, .ref m0), (1, .int (f2 f p)), (2, .int i33_2)], [], M33)) rfl rfl rfl (fun c_45 => ?_) (fun c_45 => ?_)
          · have c_45 : ¬ u40 = 0 := of_decide_eq_true c_45
            have hb := w42.resolve_left c_45
            have d2 : (pa + 2).toInt = pa.toInt + 2 := i_add (by have : (2 : Int32).toInt = 2 := rfl; omega) (by have : (2 : Int32).toInt = 2 := rfl; omega)
            refine ml_blk 2 (S' := (52, [(0, .ref m0), (1, .int (f2 f p)), (2, .int i33_2)], [.ref m0, .ref m0], M33)) rfl ?_
            refine rg_int (S' := (55, [(0, .ref m0), (1, .int (f2 f p)), (2, .int i33_2)], [.int pa, .ref m0], M33)) rfl hR37 rfl ((hI38 50 (by decide)).trans (hi50)) rfl ?_
            refine ml_blk 2 (S' := (57, [(0, .ref m0), (1, .int (f2 f p)), (2, .int i33_2)], [.int (pa + 2), .ref m0], M33)) rfl ?_
            refine rp_int rfl hR37 rfl (fun M43 I44 hR45 e46 f47 => ?_)
            show ml _ _ _ (60, [(0, .ref m0), (1, .int (f2 f p)), (2, .int i33_2)], [], M43) _
            refine ml_blk 2 (S' := (64, [(0, .ref m0), (1, .int (f2 f p)), (2, .int i33_2)], [.long 4, .ref m0], M43)) rfl ?_
            have hF48 : FK n f I44 R36 := ((hF31.mono (cIx hI38 (by decide)) (cRx hV39 (by decide))).mono (pIx f47 (by decide)) (fun _ _ => rfl))
            refine ml_call (a := [.ref m0, .long 4]) (rest := []) rfl (hR45.okc rfl rfl rfl) rfl rfl (rm_item hR45 (e46) hF48 (by omega) (by omega) (by decide) (by decide) (by omega)) (fun v49 M50 h51 => ?_)
            obtain ⟨u57, I52, R53, rfl, hR54, hI55, hV56, z58, w59⟩ := h51
            show ml _ _ _ (67, [(0, .ref m0), (1, .int (f2 f p)), (2, .int i33_2)], [.int u57], M50) _
            refine ml_if (S1 := (72, [(0, .ref m0), (1, .int (f2 f p)), (2, .int i33_2)], [], M50)) (S2 := (70, [(0, .ref m0), (1, .int (f2 f p)), (2, .int i33_2)], [], M50)) rfl rfl rfl (fun c_67 => ?_) (fun c_67 => ?_)
            · have c_67 : ¬ u57 = 0 := of_decide_eq_true c_67
              have hc := w59.resolve_left c_67
              have d4 : (pa + 2 + 4).toInt = pa.toInt + 6 := by rw [i_add (by have : (4 : Int32).toInt = 4 := rfl; omega) (by have : (4 : Int32).toInt = 4 := rfl; omega), d2]; have : (4 : Int32).toInt = 4 := rfl; omega
              refine ml_blk 2 (S' := (74, [(0, .ref m0), (1, .int (f2 f p)), (2, .int i33_2)], [.ref m0, .ref m0], M50)) rfl ?_
              refine rg_int (S' := (77, [(0, .ref m0), (1, .int (f2 f p)), (2, .int i33_2)], [.int (pa + 2), .ref m0], M50)) rfl hR54 rfl ((hI55 50 (by decide)).trans (e46)) rfl ?_
              have hF60 : FK n f I52 R53 := (hF48.mono (cIx hI55 (by decide)) (cRx hV56 (by decide)))
              refine ml_call (a := [.ref m0, .int (pa + 2)]) (rest := []) rfl (hR54.okc rfl rfl rfl) rfl rfl (rm_u4 hR54 hF60 (by omega) (by omega) (by omega)) (fun v61 M62 h63 => ?_)
              obtain ⟨rfl, h63⟩ := h63
              rw [h63]
              show ml _ _ _ (80, [(0, .ref m0), (1, .int (f2 f p)), (2, .int i33_2)], [.long (f4 f (pa + 2))], M50) _
              refine ml_st (S' := (81, [(3, .long (f4 f (pa + 2))), (0, .ref m0), (1, .int (f2 f p)), (2, .int i33_2)], [], M50)) rfl rfl rfl ?_
              refine ml_blk 2 (S' := (83, [(3, .long (f4 f (pa + 2))), (0, .ref m0), (1, .int (f2 f p)), (2, .int i33_2)], [.ref m0, .ref m0], M50)) rfl ?_
              refine rg_int (S' := (86, [(3, .long (f4 f (pa + 2))), (0, .ref m0), (1, .int (f2 f p)), (2, .int i33_2)], [.int (pa + 2), .ref m0], M50)) rfl hR54 rfl ((hI55 50 (by decide)).trans (e46)) rfl ?_
              refine ml_blk 2 (S' := (88, [(3, .long (f4 f (pa + 2))), (0, .ref m0), (1, .int (f2 f p)), (2, .int i33_2)], [.int ((pa + 2) + 4), .ref m0], M50)) rfl ?_
              refine rp_int rfl hR54 rfl (fun M64 I65 hR66 e67 f68 => ?_)
              show ml _ _ _ (91, [(3, .long (f4 f (pa + 2))), (0, .ref m0), (1, .int (f2 f p)), (2, .int i33_2)], [], M64) _
              refine ml_blk 2 (S' := (93, [(3, .long (f4 f (pa + 2))), (0, .ref m0), (1, .int (f2 f p)), (2, .int i33_2)], [.long (f4 f (pa + 2)), .ref m0], M64)) rfl ?_
              have hF69 : FK n f I65 R53 := (hF60.mono (pIx f68 (by decide)) (fun _ _ => rfl))
              refine ml_call (a := [.ref m0, .long (f4 f (pa + 2))]) (rest := []) rfl (hR66.okc rfl rfl rfl) rfl rfl (rm_item hR66 (e67) hF69 (by omega) (by omega) (f4_pos) (by have := f4_le (f := f) (x := pa + 2); omega) (by omega)) (fun v70 M71 h72 => ?_)
              obtain ⟨u78, I73, R74, rfl, hR75, hI76, hV77, z79, w80⟩ := h72
              show ml _ _ _ (96, [(3, .long (f4 f (pa + 2))), (0, .ref m0), (1, .int (f2 f p)), (2, .int i33_2)], [.int u78], M71) _
              refine ml_if (S1 := (101, [(3, .long (f4 f (pa + 2))), (0, .ref m0), (1, .int (f2 f p)), (2, .int i33_2)], [], M71)) (S2 := (99, [(3, .long (f4 f (pa + 2))), (0, .ref m0), (1, .int (f2 f p)), (2, .int i33_2)], [], M71)) rfl rfl rfl (fun c_96 => ?_) (fun c_96 => ?_)
              · have c_96 : ¬ u78 = 0 := of_decide_eq_true c_96
                have hd9 := w80.resolve_left c_96
                have hra := ra1_of (f := f) hn hpa0 (by omega) (by omega)
                refine ml_blk 2 (S' := (103, [(3, .long (f4 f (pa + 2))), (0, .ref m0), (1, .int (f2 f p)), (2, .int i33_2)], [.ref m0, .ref m0], M71)) rfl ?_
                refine rg_int (S' := (106, [(3, .long (f4 f (pa + 2))), (0, .ref m0), (1, .int (f2 f p)), (2, .int i33_2)], [.int ((pa + 2) + 4), .ref m0], M71)) rfl hR75 rfl ((hI76 50 (by decide)).trans (e67)) rfl ?_
                refine ml_blk 3 (S' := (109, [(3, .long (f4 f (pa + 2))), (0, .ref m0), (1, .int (f2 f p)), (2, .int i33_2)], [.int (((pa + 2) + 4) + (Int64.toInt32 (f4 f (pa + 2)))), .ref m0], M71)) rfl ?_
                refine rp_int rfl hR75 rfl (fun M81 I82 hR83 e84 f85 => ?_)
                show ml _ _ _ (112, [(3, .long (f4 f (pa + 2))), (0, .ref m0), (1, .int (f2 f p)), (2, .int i33_2)], [], M81) _
                refine ml_st (S' := (115, [(2, .int (i33_2 + 1)), (3, .long (f4 f (pa + 2))), (0, .ref m0), (1, .int (f2 f p))], [], M81)) rfl rfl rfl ?_
                refine ml_st (S' := (33, [(0, .ref m0), (1, .int (f2 f p)), (2, .int (i33_2 + 1))], [], M81)) rfl rfl rfl ?_
                exact ih_33 (i33_2 + 1) (((pa + 2) + 4) + (Int64.toInt32 (f4 f (pa + 2)))) _ _ _ (loop_inc (Int32.not_le.mp c_35) hn_33) hR83 (((((((eqI.rf.tr hI_33 (by decide)).tr hI38 (by decide)).put f47 (by decide)).tr hI55 (by decide)).put f68 (by decide)).tr hI76 (by decide)).put f85 (by decide)) ((((eqR.rf.tr hV_33 (by decide)).tr hV39 (by decide)).tr hV56 (by decide)).tr hV77 (by decide)) (⟨e84, hra.2.1, hra.2.2, by rw [inc_lt (Int32.not_le.mp c_35)]; omega, by rw [inc_lt (Int32.not_le.mp c_35)]; have := i_nle c_35; omega, itr_inc hk0 c_35 hit hra.1⟩)
              · have c_96 : ¬ (¬ u78 = 0) := of_decide_eq_false c_96
                refine ml_st (S' := (100, [(3, .long (f4 f (pa + 2))), (0, .ref m0), (1, .int (f2 f p)), (2, .int i33_2)], [.int 0], M71)) rfl rfl rfl ?_
                exact ml_ret rfl (r_z (Or.inl rfl)) (⟨_, _, _, rfl, hR75, ((((((((eqI.rf.tr hI17 (by decide)).put f30 (by decide)).tr hI_33 (by decide)).tr hI38 (by decide)).put f47 (by decide)).tr hI55 (by decide)).put f68 (by decide)).tr hI76 (by decide)), (((((eqR.rf.tr hV18 (by decide)).tr hV_33 (by decide)).tr hV39 (by decide)).tr hV56 (by decide)).tr hV77 (by decide)), Or.inl rfl, Or.inl rfl⟩)
            · have c_67 : ¬ (¬ u57 = 0) := of_decide_eq_false c_67
              refine ml_st (S' := (71, [(0, .ref m0), (1, .int (f2 f p)), (2, .int i33_2)], [.int 0], M50)) rfl rfl rfl ?_
              exact ml_ret rfl (r_z (Or.inl rfl)) (⟨_, _, _, rfl, hR54, ((((((eqI.rf.tr hI17 (by decide)).put f30 (by decide)).tr hI_33 (by decide)).tr hI38 (by decide)).put f47 (by decide)).tr hI55 (by decide)), ((((eqR.rf.tr hV18 (by decide)).tr hV_33 (by decide)).tr hV39 (by decide)).tr hV56 (by decide)), Or.inl rfl, Or.inl rfl⟩)
          · have c_45 : ¬ (¬ u40 = 0) := of_decide_eq_false c_45
            refine ml_st (S' := (49, [(0, .ref m0), (1, .int (f2 f p)), (2, .int i33_2)], [.int 0], M33)) rfl rfl rfl ?_
            exact ml_ret rfl (r_z (Or.inl rfl)) (⟨_, _, _, rfl, hR37, ((((eqI.rf.tr hI17 (by decide)).put f30 (by decide)).tr hI_33 (by decide)).tr hI38 (by decide)), (((eqR.rf.tr hV18 (by decide)).tr hV_33 (by decide)).tr hV39 (by decide)), Or.inl rfl, Or.inl rfl⟩)
    exact L_33 _ 0 (p + 2) _ _ _ (Nat.le_refl _) hR28 eqI.rf eqR.rf (⟨e29, by omega, by omega, by decide, by show (0 : Int) ≤ _; exact f2_pos, rfl⟩)
  · have c_7 : ¬ (¬ u19 = 0) := of_decide_eq_false c_7
    refine ml_st (S' := (11, [(0, .ref m0)], [.int 0], M12)) rfl rfl rfl ?_
    exact ml_ret rfl (r_z (Or.inl rfl)) (⟨_, _, _, rfl, hR16, (eqI.rf.tr hI17 (by decide)), (eqR.rf.tr hV18 (by decide)), Or.inl rfl, Or.inl rfl⟩)
theorem RA1.ge {f : Nat → Int32} {n : Nat} (a b : Int32) (h : RA1 f n a b) : a.toInt + 6 ≤ b.toInt := by
  have := f4_pos (f := f) (x := a + 2)
  have := h.2.2.2
  omega
theorem at_ge {f : Nat → Int32} {n : Nat} {a b : Int32} (hn : n ≤ 65540) (h : AT f n a b) : a.toInt + 2 ≤ b.toInt ∧ b.toInt ≤ n := by
  obtain ⟨h0, h1, h2, h3⟩ := h
  have h4 := itr.ge (w := 0) (fun a b h => by have := RA1.ge a b h; omega) h2
  have e : (2 : Int32).toInt = 2 := rfl
  rw [i_add (by omega) (by omega)] at h4
  exact ⟨by omega, h3⟩

set_option maxHeartbeats 2000000 in
theorem rm_members {g : xe_G}  {m0 : Nat} {q : Nat → Nat} {z : Nat × Nat} {I : rI} {R : rR} {M : mi_H} {p : Int32} {n : Nat} {f : Nat → Int32}  (hR : RS g m0 q z I R M) (hk50 : I 50 = some p) (hF : FK n f I R) (h0 : 0 ≤ p.toInt) (h1 : p.toInt ≤ n) {d : Nat} (hd : 5 ≤ d) : mt (mT g) d 224 [.ref m0] M (fun v M' => ∃ (x : Int32) (I' : rI) (R' : rR), v = some (.int x) ∧ RS g m0 q z I' R' M' ∧ eqI [47, 48, 50] I I' ∧ eqR [] R R' ∧ (x = 0 ∨ x = 1) ∧ (x = 0 ∨ ∃ p1, I' 50 = some p1 ∧ MB f n p p1)) := by
  obtain ⟨d, rfl⟩ : ∃ e, d = e + 1 := ⟨d - 1, by omega⟩
  refine mt_in (b := mb_224 g) rfl rfl ?_
  show ml (mT g) d (mb_224 g).2 (0, [(0, .ref m0)], [], M) _
  have hn := hF.1
  have l2 : (2 : Int64).toInt = 2 := rfl
  refine ml_blk 2 (S' := (4, [(0, .ref m0)], [.long 2, .ref m0], M)) rfl ?_
  refine ml_call (a := [.ref m0, .long 2]) (rest := []) rfl (hR.okc rfl rfl rfl) rfl rfl (rm_item hR (hk50) hF (h0) (h1) (by decide) (by decide) (by omega)) (fun v11 M12 h13 => ?_)
  obtain ⟨u19, I14, R15, rfl, hR16, hI17, hV18, z20, w21⟩ := h13
  show ml _ _ _ (7, [(0, .ref m0)], [.int u19], M12) _
  refine ml_if (S1 := (12, [(0, .ref m0)], [], M12)) (S2 := (10, [(0, .ref m0)], [], M12)) rfl rfl rfl (fun c_7 => ?_) (fun c_7 => ?_)
  · have c_7 : ¬ u19 = 0 := of_decide_eq_true c_7
    have ha := w21.resolve_left c_7
    have ep2 : (p + 2).toInt = p.toInt + 2 := i_add (by have : (2 : Int32).toInt = 2 := rfl; omega) (by have : (2 : Int32).toInt = 2 := rfl; omega)
    refine ml_blk 2 (S' := (14, [(0, .ref m0)], [.ref m0, .ref m0], M12)) rfl ?_
    refine rg_int (S' := (17, [(0, .ref m0)], [.int p, .ref m0], M12)) rfl hR16 rfl ((hI17 50 (by decide)).trans (hk50)) rfl ?_
    have hF22 : FK n f I14 R15 := (hF.mono (cIx hI17 (by decide)) (cRx hV18 (by decide)))
    refine ml_call (a := [.ref m0, .int p]) (rest := []) rfl (hR16.okc rfl rfl rfl) rfl rfl (rm_u2 hR16 hF22 (h0) (by omega) (by omega)) (fun v23 M24 h25 => ?_)
    obtain ⟨rfl, h25⟩ := h25
    rw [h25]
    show ml _ _ _ (20, [(0, .ref m0)], [.int (f2 f p)], M12) _
    refine ml_st (S' := (21, [(1, .int (f2 f p)), (0, .ref m0)], [], M12)) rfl rfl rfl ?_
    refine ml_blk 2 (S' := (23, [(1, .int (f2 f p)), (0, .ref m0)], [.ref m0, .ref m0], M12)) rfl ?_
    refine rg_int (S' := (26, [(1, .int (f2 f p)), (0, .ref m0)], [.int p, .ref m0], M12)) rfl hR16 rfl ((hI17 50 (by decide)).trans (hk50)) rfl ?_
    refine ml_blk 2 (S' := (28, [(1, .int (f2 f p)), (0, .ref m0)], [.int (p + 2), .ref m0], M12)) rfl ?_
    refine rp_int rfl hR16 rfl (fun M26 I27 hR28 e29 f30 => ?_)
    show ml _ _ _ (31, [(1, .int (f2 f p)), (0, .ref m0)], [], M26) _
    refine ml_st (S' := (32, [(1, .int (f2 f p)), (0, .ref m0)], [.int 0], M26)) rfl rfl rfl ?_
    refine ml_st (S' := (33, [(0, .ref m0), (1, .int (f2 f p)), (2, .int 0)], [], M26)) rfl rfl rfl ?_
    have L_33 : ∀ (n_33 : Nat) (i33_2 : Int32) (pa : Int32) (M_33 : mi_H) (I_33 : rI) (R_33 : rR), (2147483648 - i33_2.toInt).toNat ≤ n_33 → RS g m0 q z I_33 R_33 M_33 → eqI [47, 48, 50] I27 I_33 → eqR [] R15 R_33 → (I_33 50 = some pa ∧ 0 ≤ pa.toInt ∧ pa.toInt ≤ n ∧ 0 ≤ i33_2.toInt ∧ i33_2.toInt ≤ (f2 f p).toInt ∧ itr (MB1 f n) i33_2.toInt.toNat (p + 2) pa) → ml (mT g) d (mb_224 g).2 (33, [(0, .ref m0), (1, .int (f2 f p)), (2, .int i33_2)], [], M_33) (fun v M' => ∃ (x : Int32) (I' : rI) (R' : rR), v = some (.int x) ∧ RS g m0 q z I' R' M' ∧ eqI [47, 48, 50] I I' ∧ eqR [] R R' ∧ (x = 0 ∨ x = 1) ∧ (x = 0 ∨ ∃ p1, I' 50 = some p1 ∧ MB f n p p1)) := by
      intro n_33
      induction n_33 with
      | zero => intro i33_2 pa M_33 I_33 R_33 hn; exact (loop_zero hn).elim
      | succ n_33 ih_33 =>
        intro i33_2 pa M_33 I_33 R_33 hn_33 hR_33 hI_33 hV_33 hi_33
        obtain ⟨hi50, hpa0, hpa1, hk0, hk1, hit⟩ := hi_33
        refine ml_blk 2 (S' := (35, [(0, .ref m0), (1, .int (f2 f p)), (2, .int i33_2)], [.int (f2 f p), .int i33_2], M_33)) rfl ?_
        refine ml_if2 (S1 := (88, [(0, .ref m0), (1, .int (f2 f p)), (2, .int i33_2)], [], M_33)) (S2 := (38, [(0, .ref m0), (1, .int (f2 f p)), (2, .int i33_2)], [], M_33)) rfl rfl rfl (fun c_35 => ?_) (fun c_35 => ?_)
        · have c_35 : (f2 f p) ≤ i33_2 := of_decide_eq_true c_35
          refine ml_st (S' := (89, [(0, .ref m0), (1, .int (f2 f p)), (2, .int i33_2)], [.int 1], M_33)) rfl rfl rfl ?_
          exact ml_ret rfl (r_z (Or.inr rfl)) (⟨_, _, _, rfl, hR_33, (((eqI.rf.tr hI17 (by decide)).put f30 (by decide)).tr hI_33 (by decide)), ((eqR.rf.tr hV18 (by decide)).tr hV_33 (by decide)), Or.inr rfl, Or.inr ⟨pa, hi50, h0, by omega, itr_end hit hk1 c_35, hpa1⟩⟩)
        · have c_35 : ¬ ((f2 f p) ≤ i33_2) := of_decide_eq_false c_35
          refine ml_st (S' := (39, [(0, .ref m0), (1, .int (f2 f p)), (2, .int i33_2)], [.int 0], M_33)) rfl rfl rfl ?_
          refine ml_st (S' := (40, [(0, .ref m0), (1, .int (f2 f p)), (2, .int i33_2), (3, .int 0)], [], M_33)) rfl rfl rfl ?_
          have L_40 : ∀ (n_40 : Nat) (i40_3 : Int32) (pb : Int32) (M_40 : mi_H) (I_40 : rI) (R_40 : rR), (2147483648 - i40_3.toInt).toNat ≤ n_40 → RS g m0 q z I_40 R_40 M_40 → eqI [47, 48, 50] I_33 I_40 → eqR [] R_33 R_40 → (I_40 50 = some pb ∧ 0 ≤ pb.toInt ∧ pb.toInt ≤ n ∧ 0 ≤ i40_3.toInt ∧ i40_3.toInt ≤ 3 ∧ pb.toInt = pa.toInt + 2 * i40_3.toInt) → ml (mT g) d (mb_224 g).2 (40, [(0, .ref m0), (1, .int (f2 f p)), (2, .int i33_2), (3, .int i40_3)], [], M_40) (fun v M' => ∃ (x : Int32) (I' : rI) (R' : rR), v = some (.int x) ∧ RS g m0 q z I' R' M' ∧ eqI [47, 48, 50] I I' ∧ eqR [] R R' ∧ (x = 0 ∨ x = 1) ∧ (x = 0 ∨ ∃ p1, I' 50 = some p1 ∧ MB f n p p1)) := by
            intro n_40
            induction n_40 with
            | zero => intro i40_3 pb M_40 I_40 R_40 hn; exact (loop_zero hn).elim
            | succ n_40 ih_40 =>
              intro i40_3 pb M_40 I_40 R_40 hn_40 hR_40 hI_40 hV_40 hi_40
              obtain ⟨hj50, hpb0, hpb1, hq0, hq1, hqe⟩ := hi_40
              refine ml_blk 2 (S' := (42, [(0, .ref m0), (1, .int (f2 f p)), (2, .int i33_2), (3, .int i40_3)], [.int 3, .int i40_3], M_40)) rfl ?_
              refine ml_if2 (S1 := (73, [(0, .ref m0), (1, .int (f2 f p)), (2, .int i33_2), (3, .int i40_3)], [], M_40)) (S2 := (45, [(0, .ref m0), (1, .int (f2 f p)), (2, .int i33_2), (3, .int i40_3)], [], M_40)) rfl rfl rfl (fun c_42 => ?_) (fun c_42 => ?_)
              · have c_42 : 3 ≤ i40_3 := of_decide_eq_true c_42
                have hq6 : pa.toInt + 6 = pb.toInt := by have q := i_le c_42; have q3 : (3 : Int32).toInt = 3 := rfl; omega
                have hq3 : pb = pa + 6 := by have q := i_le c_42; have q3 : (3 : Int32).toInt = 3 := rfl; have q6 : (6 : Int32).toInt = 6 := rfl; apply Int32.toInt_inj.mp; rw [i_add (by omega) (by omega)]; omega
                refine ml_st (S' := (74, [(0, .ref m0), (1, .int (f2 f p)), (2, .int i33_2), (3, .int i40_3)], [.ref m0], M_40)) rfl rfl rfl ?_
                have hF31 : FK n f I_40 R_40 := (((hF22.mono (pIx f30 (by decide)) (fun _ _ => rfl)).mono (cIx hI_33 (by decide)) (cRx hV_33 (by decide))).mono (cIx hI_40 (by decide)) (cRx hV_40 (by decide)))
                refine ml_call (a := [.ref m0]) (rest := []) rfl (hR_40.okc rfl rfl rfl) rfl rfl (rm_attributes hR_40 (hj50) hF31 (hpb0) (hpb1) (by omega)) (fun v32 M33 h34 => ?_)
                obtain ⟨u40, I35, R36, rfl, hR37, hI38, hV39, z41, w42⟩ := h34
                show ml _ _ _ (77, [(0, .ref m0), (1, .int (f2 f p)), (2, .int i33_2), (3, .int i40_3)], [.int u40], M33) _
                refine ml_if (S1 := (82, [(0, .ref m0), (1, .int (f2 f p)), (2, .int i33_2), (3, .int i40_3)], [], M33)) (S2 := (80, [(0, .ref m0), (1, .int (f2 f p)), (2, .int i33_2), (3, .int i40_3)], [], M33)) rfl rfl rfl (fun c_77 => ?_) (fun c_77 => ?_)
                · have c_77 : ¬ u40 = 0 := of_decide_eq_true c_77
                  obtain ⟨p1, hp1, hat⟩ := w42.resolve_left c_77
                  have hat1 := at_ge hn hat
                  refine ml_st (S' := (85, [(2, .int (i33_2 + 1)), (0, .ref m0), (1, .int (f2 f p)), (3, .int i40_3)], [], M33)) rfl rfl rfl ?_
                  refine ml_st (S' := (33, [(0, .ref m0), (1, .int (f2 f p)), (2, .int (i33_2 + 1))], [], M33)) rfl rfl rfl ?_
                  exact ih_33 (i33_2 + 1) p1 _ _ _ (loop_inc (Int32.not_le.mp c_35) hn_33) hR37 (((eqI.rf.tr hI_33 (by decide)).tr hI_40 (by decide)).tr hI38 (by decide)) (((eqR.rf.tr hV_33 (by decide)).tr hV_40 (by decide)).tr hV39 (by decide)) (⟨hp1, by omega, hat1.2, by rw [inc_lt (Int32.not_le.mp c_35)]; omega, by rw [inc_lt (Int32.not_le.mp c_35)]; have := i_nle c_35; omega, itr_inc hk0 c_35 hit ⟨hpa0, by omega, hq3 ▸ hat⟩⟩)
                · have c_77 : ¬ (¬ u40 = 0) := of_decide_eq_false c_77
                  refine ml_st (S' := (81, [(0, .ref m0), (1, .int (f2 f p)), (2, .int i33_2), (3, .int i40_3)], [.int 0], M33)) rfl rfl rfl ?_
                  exact ml_ret rfl (r_z (Or.inl rfl)) (⟨_, _, _, rfl, hR37, (((((eqI.rf.tr hI17 (by decide)).put f30 (by decide)).tr hI_33 (by decide)).tr hI_40 (by decide)).tr hI38 (by decide)), ((((eqR.rf.tr hV18 (by decide)).tr hV_33 (by decide)).tr hV_40 (by decide)).tr hV39 (by decide)), Or.inl rfl, Or.inl rfl⟩)
              · have c_42 : ¬ (3 ≤ i40_3) := of_decide_eq_false c_42
                refine ml_blk 2 (S' := (49, [(0, .ref m0), (1, .int (f2 f p)), (2, .int i33_2), (3, .int i40_3)], [.long 2, .ref m0], M_40)) rfl ?_
                have hF43 : FK n f I_40 R_40 := (((hF22.mono (pIx f30 (by decide)) (fun _ _ => rfl)).mono (cIx hI_33 (by decide)) (cRx hV_33 (by decide))).mono (cIx hI_40 (by decide)) (cRx hV_40 (by decide)))
                refine ml_call (a := [.ref m0, .long 2]) (rest := []) rfl (hR_40.okc rfl rfl rfl) rfl rfl (rm_item hR_40 (hj50) hF43 (hpb0) (hpb1) (by decide) (by decide) (by omega)) (fun v44 M45 h46 => ?_)
                obtain ⟨u52, I47, R48, rfl, hR49, hI50, hV51, z53, w54⟩ := h46
                show ml _ _ _ (52, [(0, .ref m0), (1, .int (f2 f p)), (2, .int i33_2), (3, .int i40_3)], [.int u52], M45) _
                refine ml_if (S1 := (57, [(0, .ref m0), (1, .int (f2 f p)), (2, .int i33_2), (3, .int i40_3)], [], M45)) (S2 := (55, [(0, .ref m0), (1, .int (f2 f p)), (2, .int i33_2), (3, .int i40_3)], [], M45)) rfl rfl rfl (fun c_52 => ?_) (fun c_52 => ?_)
                · have c_52 : ¬ u52 = 0 := of_decide_eq_true c_52
                  have hb := w54.resolve_left c_52
                  have d2 : (pb + 2).toInt = pb.toInt + 2 := i_add (by have : (2 : Int32).toInt = 2 := rfl; omega) (by have : (2 : Int32).toInt = 2 := rfl; omega)
                  refine ml_blk 2 (S' := (59, [(0, .ref m0), (1, .int (f2 f p)), (2, .int i33_2), (3, .int i40_3)], [.ref m0, .ref m0], M45)) rfl ?_
                  refine rg_int (S' := (62, [(0, .ref m0), (1, .int (f2 f p)), (2, .int i33_2), (3, .int i40_3)], [.int pb, .ref m0], M45)) rfl hR49 rfl ((hI50 50 (by decide)).trans (hj50)) rfl ?_
                  refine ml_blk 2 (S' := (64, [(0, .ref m0), (1, .int (f2 f p)), (2, .int i33_2), (3, .int i40_3)], [.int (pb + 2), .ref m0], M45)) rfl ?_
                  refine rp_int rfl hR49 rfl (fun M55 I56 hR57 e58 f59 => ?_)
                  show ml _ _ _ (67, [(0, .ref m0), (1, .int (f2 f p)), (2, .int i33_2), (3, .int i40_3)], [], M55) _
                  refine ml_st (S' := (70, [(3, .int (i40_3 + 1)), (0, .ref m0), (1, .int (f2 f p)), (2, .int i33_2)], [], M55)) rfl rfl rfl ?_
                  refine ml_st (S' := (40, [(0, .ref m0), (1, .int (f2 f p)), (2, .int i33_2), (3, .int (i40_3 + 1))], [], M55)) rfl rfl rfl ?_
                  exact ih_40 (i40_3 + 1) (pb + 2) _ _ _ (loop_inc (Int32.not_le.mp c_42) hn_40) hR57 (((eqI.rf.tr hI_40 (by decide)).tr hI50 (by decide)).put f59 (by decide)) ((eqR.rf.tr hV_40 (by decide)).tr hV51 (by decide)) (⟨e58, by omega, by omega, by rw [inc_lt (Int32.not_le.mp c_42)]; omega, by rw [inc_lt (Int32.not_le.mp c_42)]; have := i_nle c_42; have : (3 : Int32).toInt = 3 := rfl; omega, by rw [inc_lt (Int32.not_le.mp c_42)]; omega⟩)
                · have c_52 : ¬ (¬ u52 = 0) := of_decide_eq_false c_52
                  refine ml_st (S' := (56, [(0, .ref m0), (1, .int (f2 f p)), (2, .int i33_2), (3, .int i40_3)], [.int 0], M45)) rfl rfl rfl ?_
                  exact ml_ret rfl (r_z (Or.inl rfl)) (⟨_, _, _, rfl, hR49, (((((eqI.rf.tr hI17 (by decide)).put f30 (by decide)).tr hI_33 (by decide)).tr hI_40 (by decide)).tr hI50 (by decide)), ((((eqR.rf.tr hV18 (by decide)).tr hV_33 (by decide)).tr hV_40 (by decide)).tr hV51 (by decide)), Or.inl rfl, Or.inl rfl⟩)
          exact L_40 _ 0 pa _ _ _ (Nat.le_refl _) hR_33 eqI.rf eqR.rf (⟨hi50, hpa0, hpa1, by decide, by decide, by show _ = pa.toInt + 2 * 0; omega⟩)
    exact L_33 _ 0 (p + 2) _ _ _ (Nat.le_refl _) hR28 eqI.rf eqR.rf (⟨e29, by omega, by omega, by decide, by show (0 : Int) ≤ _; exact f2_pos, rfl⟩)
  · have c_7 : ¬ (¬ u19 = 0) := of_decide_eq_false c_7
    refine ml_st (S' := (11, [(0, .ref m0)], [.int 0], M12)) rfl rfl rfl ?_
    exact ml_ret rfl (r_z (Or.inl rfl)) (⟨_, _, _, rfl, hR16, (eqI.rf.tr hI17 (by decide)), (eqR.rf.tr hV18 (by decide)), Or.inl rfl, Or.inl rfl⟩)
end
section
/-! the reference's symbols (my own text) -/
section MIS
def SK (S cN : Nat) (sa sl ch : Nat → Int32) (I : rI) (R : rR) : Prop := I 8 = some (nI S) ∧ I 3 = some (nI cN) ∧ S ≤ 24000 ∧ cN ≤ 66000 ∧ (∀ s, s < S → R 4 s = some (sa s) ∧ R 5 s = some (sl s) ∧ 0 ≤ (sa s).toInt ∧ 0 ≤ (sl s).toInt ∧ (sa s).toInt + (sl s).toInt ≤ cN) ∧ ∀ i, i < cN → R 1 i = some (ch i) ∧ ch16 (ch i)
def HK (S : Nat) (hd nx : Nat → Int32) (I : rI) (R : rR) : Prop := (∀ h, h < 4096 → R 7 h = some (hd h) ∧ -1 ≤ (hd h).toInt ∧ (hd h).toInt < S) ∧ ∀ s, s < S → R 6 s = some (nx s) ∧ -1 ≤ (nx s).toInt ∧ (nx s).toInt < s
def CU (m : Nat) (cu : Nat → Int32) (I : rI) (R : rR) : Prop := ∀ i, i < m → R 2 i = some (cu i) ∧ ch16 (cu i)
variable {S cN m : Nat} {sa sl ch hd nx cu : Nat → Int32} {I I' : rI} {R R' : rR} {x y : Int32}
theorem SK.mono (h : SK S cN sa sl ch I R) (hI : ∀ k, k ∈ [3, 8] → I' k = I k) (hR : ∀ k, k ∈ [1, 4, 5] → R' k = R k) : SK S cN sa sl ch I' R' := by
  obtain ⟨a1, a2, a3, a4, a5, a6⟩ := h
  refine ⟨(hI 8 (by decide)).trans a1, (hI 3 (by decide)).trans a2, a3, a4, fun s hs => ?_, fun i hi => ?_⟩
  · rw [hR 4 (by decide), hR 5 (by decide)]
    exact a5 s hs
  · rw [hR 1 (by decide)]
    exact a6 i hi
theorem HK.mono (h : HK S hd nx I R) (hI : ∀ k, k ∈ ([] : List Nat) → I' k = I k) (hR : ∀ k, k ∈ [6, 7] → R' k = R k) : HK S hd nx I' R' := by
  refine ⟨fun i hi => ?_, fun i hi => ?_⟩
  · rw [hR 7 (by decide)]
    exact h.1 i hi
  · rw [hR 6 (by decide)]
    exact h.2 i hi
theorem CU.mono (h : CU m cu I R) (hI : ∀ k, k ∈ ([] : List Nat) → I' k = I k) (hR : ∀ k, k ∈ [2] → R' k = R k) : CU m cu I' R' := by
  intro i hi
  rw [hR 2 (by decide)]
  exact h i hi
theorem SK.s (h : SK S cN sa sl ch I R) (h0 : 0 ≤ x.toInt) (h1 : x.toInt < S) : R 4 x.toNatClampNeg = some (sa x.toNatClampNeg) ∧ R 5 x.toNatClampNeg = some (sl x.toNatClampNeg) ∧ 0 ≤ (sa x.toNatClampNeg).toInt ∧ 0 ≤ (sl x.toNatClampNeg).toInt ∧ (sa x.toNatClampNeg).toInt + (sl x.toNatClampNeg).toInt ≤ cN ∧ cN ≤ 66000 ∧ vp_in x 24000 := by
  obtain ⟨a1, a2, a3, a4, a5, a6⟩ := h
  obtain ⟨b1, b2, b3, b4, b5⟩ := a5 x.toNatClampNeg (by show x.toInt.toNat < S; omega)
  exact ⟨b1, b2, b3, b4, b5, a4, vin_lt h0 (by omega)⟩
theorem SK.c (h : SK S cN sa sl ch I R) (h0 : 0 ≤ x.toInt) (h1 : x.toInt < cN) : R 1 x.toNatClampNeg = some (ch x.toNatClampNeg) ∧ ch16 (ch x.toNatClampNeg) ∧ vp_in x 66000 := by
  obtain ⟨a1, a2, a3, a4, a5, a6⟩ := h
  obtain ⟨b1, b2⟩ := a6 x.toNatClampNeg (by show x.toInt.toNat < cN; omega)
  exact ⟨b1, b2, vin_lt h0 (by omega)⟩
/-- a character of a symbol -/
theorem SK.t (h : SK S cN sa sl ch I R) (h0 : 0 ≤ x.toInt) (h1 : x.toInt < S) (k0 : 0 ≤ y.toInt) (k1 : y.toInt < (sl x.toNatClampNeg).toInt) : R 1 (sa x.toNatClampNeg + y).toNatClampNeg = some (ch (sa x.toNatClampNeg + y).toNatClampNeg) ∧ ch16 (ch (sa x.toNatClampNeg + y).toNatClampNeg) ∧ vp_in (sa x.toNatClampNeg + y) 66000 := by
  obtain ⟨-, -, b3, b4, b5, b6, -⟩ := h.s h0 h1
  have e : (sa x.toNatClampNeg + y).toInt = (sa x.toNatClampNeg).toInt + y.toInt := i_add (by omega) (by omega)
  exact h.c (by omega) (by omega)
theorem CU.iat (h : CU m cu I R) (h0 : 0 ≤ x.toInt) (h1 : x.toInt < m) : R 2 x.toNatClampNeg = some (cu x.toNatClampNeg) ∧ ch16 (cu x.toNatClampNeg) := h _ (by show x.toInt.toNat < m; omega)
theorem HK.h (h : HK S hd nx I R) (h0 : 0 ≤ x.toInt) (h1 : x.toInt < 4096) : R 7 x.toNatClampNeg = some (hd x.toNatClampNeg) ∧ -1 ≤ (hd x.toNatClampNeg).toInt ∧ (hd x.toNatClampNeg).toInt < S := h.1 _ (by show x.toInt.toNat < 4096; omega)
theorem HK.n (h : HK S hd nx I R) (h0 : 0 ≤ x.toInt) (h1 : x.toInt < S) : R 6 x.toNatClampNeg = some (nx x.toNatClampNeg) ∧ -1 ≤ (nx x.toNatClampNeg).toInt ∧ (nx x.toNatClampNeg).toInt < x.toInt := by
  have := h.2 x.toNatClampNeg (by show x.toInt.toNat < S; omega)
  have e : ((x.toNatClampNeg : Nat) : Int) = x.toInt := by show ((x.toInt.toNat : Nat) : Int) = _; omega
  rw [e] at this
  exact this
theorem and4095 (y : Int32) : 0 ≤ (y &&& 4095).toInt ∧ (y &&& 4095).toInt < 4096 := by
  have h : (y &&& 4095).toBitVec.toNat < 2 ^ 12 := by
    show (y.toBitVec &&& 4095#32).toNat < 2 ^ 12
    rw [BitVec.toNat_and]
    exact Nat.lt_of_le_of_lt Nat.and_le_right (by decide)
  rw [nat_int (by omega)]
  omega
theorem nar16 {v : Int32} (h : ch16 v) : vp_nar .char v = v := by
  unfold vp_nar
  rw [h]
/-- the symbols have grown by one at most -/
def SX (S cN m : Nat) (sa sl ch : Nat → Int32) (x : Int32) (I' : rI) (R' : rR) : Prop := ∃ (S' cN' : Nat) (sa' sl' ch' hd' nx' : Nat → Int32), SK S' cN' sa' sl' ch' I' R' ∧ HK S' hd' nx' I' R' ∧ 0 ≤ x.toInt ∧ x.toInt < S' ∧ S ≤ S' ∧ S' ≤ S + 1 ∧ cN ≤ cN' ∧ cN' ≤ cN + m ∧ (∀ s, s < S → sa' s = sa s ∧ sl' s = sl s) ∧ ∀ i, i < cN → ch' i = ch i
theorem nI_toNat {k : Nat} (h : k < 1073741824) : (nI k).toNatClampNeg = k := by
  show (nI k).toInt.toNat = k
  rw [nI_val h]
  omega
theorem nI_plus {k j : Nat} {x : Int32} (hx : x.toInt = j) (h : k + j < 1073741824) : nI k + x = nI (k + j) := by
  apply Int32.toInt_inj.mp
  rw [i_add (by rw [nI_val (by omega)]; omega) (by rw [nI_val (by omega)]; omega), nI_val (by omega), nI_val h, hx]
  omega
theorem sym_new {R1 : rR} {hh x1 : Int32} (hY : SK S cN sa sl ch I R) (hH : HK S hd nx I R) (hU : CU m cu I R) (hm : x1.toInt = m) (hroom : cN + m ≤ 66000) (hS : S < 24000) (hb : 0 ≤ hh.toInt ∧ hh.toInt < 4096) (c1 : ∀ i, i < cN → R1 1 i = some (ch i)) (c2 : ∀ j, j < m → R1 1 (cN + j) = some (cu j)) (q1 : R' 1 = R1 1)
    (q4 : R' 4 (nI S).toNatClampNeg = some (nI cN)) (q4' : ∀ b, b ≠ (nI S).toNatClampNeg → R' 4 b = R 4 b) (q5 : R' 5 (nI S).toNatClampNeg = some x1) (q5' : ∀ b, b ≠ (nI S).toNatClampNeg → R' 5 b = R 5 b)
    (q6 : R' 6 (nI S).toNatClampNeg = some (hd hh.toNatClampNeg)) (q6' : ∀ b, b ≠ (nI S).toNatClampNeg → R' 6 b = R 6 b) (q7 : R' 7 hh.toNatClampNeg = some (nI S)) (q7' : ∀ b, b ≠ hh.toNatClampNeg → R' 7 b = R 7 b) (i8 : I' 8 = some (nI S + 1)) (i3 : I' 3 = some (nI cN + x1)) : SX S cN m sa sl ch (nI S) I' R' := by
  have e1 : (1 : Int32).toInt = ((1 : Nat) : Int) := rfl
  have eS := nI_toNat (k := S) (by omega)
  have vS := nI_val (n := S) (by omega)
  have vC := nI_val (n := cN) (by omega)
  rw [eS] at q4 q4' q5 q5' q6 q6'
  obtain ⟨a1, a2, a3, a4, a5, a6⟩ := hY
  refine ⟨S + 1, cN + m, fun s => if s = S then nI cN else sa s, fun s => if s = S then x1 else sl s, fun i => if i < cN then ch i else cu (i - cN), fun h => if h = hh.toNatClampNeg then nI S else hd h, fun s => if s = S then hd hh.toNatClampNeg else nx s, ⟨?_, ?_, by omega, by omega, fun s hs => ?_, fun i hi => ?_⟩, ⟨fun h h1 => ?_, fun s hs => ?_⟩, by omega, by omega, by omega, by omega, by omega, by omega, fun s hs => ?_, fun i hi => ?_⟩
  · rw [i8, nI_plus e1 (by omega)]
  · rw [i3, nI_plus hm (by omega)]
  · by_cases h : s = S
    · subst h
      simp only [if_true]
      refine ⟨q4, q5, by omega, by omega, by omega⟩
    · simp only [if_neg h]
      rw [q4' s h, q5' s h]
      obtain ⟨b1, b2, b3, b4, b5⟩ := a5 s (by omega)
      exact ⟨b1, b2, b3, b4, by omega⟩
  · rw [q1]
    by_cases h : i < cN
    · simp only [if_pos h]
      exact ⟨c1 i h, (a6 i h).2⟩
    · simp only [if_neg h]
      have := c2 (i - cN) (by omega)
      rw [show cN + (i - cN) = i by omega] at this
      exact ⟨this, (hU (i - cN) (by omega)).2⟩
  · by_cases e : h = hh.toNatClampNeg
    · subst e
      simp only [if_true]
      exact ⟨q7, by omega, by omega⟩
    · simp only [if_neg e]
      rw [q7' h e]
      obtain ⟨b1, b2, b3⟩ := hH.1 h h1
      exact ⟨b1, b2, by omega⟩
  · by_cases h : s = S
    · subst h
      simp only [if_true]
      obtain ⟨b1, b2, b3⟩ := hH.h hb.1 hb.2
      exact ⟨q6, b2, b3⟩
    · simp only [if_neg h]
      rw [q6' s h]
      exact hH.2 s (by omega)
  · have : s ≠ S := by omega
    simp only [if_neg this]
    exact ⟨trivial, trivial⟩
  · simp only [if_pos hi]
end MIS
end
section
/-! the reference: symbols (laid by wip/p2/c61.py) -/
set_option maxHeartbeats 2000000 in
theorem rm_symbol {g : xe_G}  {m0 : Nat} {q : Nat → Nat} {z : Nat × Nat} {I : rI} {R : rR} {M : mi_H} {x1 : Int32} {S cN : Nat} {sa sl ch : Nat → Int32} {he nx : Nat → Int32} {m : Nat} {cu : Nat → Int32}  (hR : RS g m0 q z I R M) (hY : SK S cN sa sl ch I R) (hH : HK S he nx I R) (hU : CU m cu I R) (hm : x1.toInt = m) (hroom : cN + m ≤ 66000) (hS : S < 24000) {d : Nat} (hd : 1 ≤ d) : mt (mT g) d 245 [.ref m0, .int x1] M (fun v M' => ∃ (x : Int32) (I' : rI) (R' : rR), v = some (.int x) ∧ RS g m0 q z I' R' M' ∧ eqI [3, 8] I I' ∧ eqR [1, 4, 5, 6, 7] R R' ∧ SX S cN m sa sl ch x I' R') := by
  obtain ⟨d, rfl⟩ : ∃ e, d = e + 1 := ⟨d - 1, by omega⟩
  refine mt_in (b := mb_245 g) rfl rfl ?_
  show ml (mT g) d (mb_245 g).2 (0, [(0, .ref m0), (1, .int x1)], [], M) _
  refine ml_st (S' := (2, [(0, .ref m0), (1, .int x1)], [.int 7], M)) rfl rfl rfl ?_
  refine ml_st (S' := (3, [(2, .int 7), (0, .ref m0), (1, .int x1)], [], M)) rfl rfl rfl ?_
  refine ml_st (S' := (4, [(2, .int 7), (0, .ref m0), (1, .int x1)], [.int 0], M)) rfl rfl rfl ?_
  refine ml_st (S' := (5, [(0, .ref m0), (1, .int x1), (2, .int 7), (3, .int 0)], [], M)) rfl rfl rfl ?_
  have L_5 : ∀ (n_5 : Nat) (i5_2 : Int32) (i5_3 : Int32), (2147483648 - i5_3.toInt).toNat ≤ n_5 → 0 ≤ i5_3.toInt → ml (mT g) d (mb_245 g).2 (5, [(0, .ref m0), (1, .int x1), (2, .int i5_2), (3, .int i5_3)], [], M) (fun v M' => ∃ (x : Int32) (I' : rI) (R' : rR), v = some (.int x) ∧ RS g m0 q z I' R' M' ∧ eqI [3, 8] I I' ∧ eqR [1, 4, 5, 6, 7] R R' ∧ SX S cN m sa sl ch x I' R') := by
    intro n_5
    induction n_5 with
    | zero => intro i5_2 i5_3 hn; exact (loop_zero hn).elim
    | succ n_5 ih_5 =>
      intro i5_2 i5_3 hn_5 hi_5
      refine ml_blk 2 (S' := (7, [(0, .ref m0), (1, .int x1), (2, .int i5_2), (3, .int i5_3)], [.int x1, .int i5_3], M)) rfl ?_
      refine ml_if2 (S1 := (28, [(0, .ref m0), (1, .int x1), (2, .int i5_2), (3, .int i5_3)], [], M)) (S2 := (10, [(0, .ref m0), (1, .int x1), (2, .int i5_2), (3, .int i5_3)], [], M)) rfl rfl rfl (fun c_7 => ?_) (fun c_7 => ?_)
      · have c_7 : x1 ≤ i5_3 := of_decide_eq_true c_7
        refine ml_blk 3 (S' := (32, [(0, .ref m0), (1, .int x1), (2, .int i5_2), (3, .int i5_3)], [.int 12, .int i5_2, .int i5_2], M)) rfl ?_
        refine ml_blk 3 (S' := (37, [(0, .ref m0), (1, .int x1), (2, .int i5_2), (3, .int i5_3)], [.int 4095, .int (i5_2 ^^^ (((Int32.toUInt32 i5_2) >>> ((Int32.toUInt32 12) &&& Int32.toUInt32 31)).toInt32))], M)) rfl ?_
        refine ml_st (S' := (38, [(0, .ref m0), (1, .int x1), (2, .int i5_2), (3, .int i5_3)], [.int ((i5_2 ^^^ (((Int32.toUInt32 i5_2) >>> ((Int32.toUInt32 12) &&& Int32.toUInt32 31)).toInt32)) &&& 4095)], M)) rfl rfl rfl ?_
        have hb := and4095 (i5_2 ^^^ (((Int32.toUInt32 i5_2) >>> ((Int32.toUInt32 12) &&& Int32.toUInt32 31)).toInt32))
        generalize ((i5_2 ^^^ (((Int32.toUInt32 i5_2) >>> ((Int32.toUInt32 12) &&& Int32.toUInt32 31)).toInt32)) &&& 4095) = hh at hb ⊢
        refine ml_st (S' := (39, [(2, .int hh), (0, .ref m0), (1, .int x1), (3, .int i5_3)], [], M)) rfl rfl rfl ?_
        refine ml_st (S' := (40, [(2, .int hh), (0, .ref m0), (1, .int x1), (3, .int i5_3)], [.ref m0], M)) rfl rfl rfl ?_
        refine rg_ref (S' := (43, [(2, .int hh), (0, .ref m0), (1, .int x1), (3, .int i5_3)], [.ref (q 7)], M)) rfl hR rfl rfl ?_
        refine ml_st (S' := (44, [(2, .int hh), (0, .ref m0), (1, .int x1), (3, .int i5_3)], [.int hh, .ref (q 7)], M)) rfl rfl rfl ?_
        refine ra_ld (k := 7) (S' := (45, [(2, .int hh), (0, .ref m0), (1, .int x1), (3, .int i5_3)], [.int (he (Int32.toNatClampNeg hh))], M)) rfl hR rfl (vin_lt hb.1 hb.2) ((hH.h hb.1 hb.2).1) rfl ?_
        refine ml_st (S' := (46, [(0, .ref m0), (1, .int x1), (2, .int hh), (3, .int (he (Int32.toNatClampNeg hh)))], [], M)) rfl rfl rfl ?_
        have L_46 : ∀ (n_46 : Nat) (i46_3 : Int32), (i46_3.toInt + 2).toNat ≤ n_46 → (-1 ≤ i46_3.toInt ∧ i46_3.toInt < S) → ml (mT g) d (mb_245 g).2 (46, [(0, .ref m0), (1, .int x1), (2, .int hh), (3, .int i46_3)], [], M) (fun v M' => ∃ (x : Int32) (I' : rI) (R' : rR), v = some (.int x) ∧ RS g m0 q z I' R' M' ∧ eqI [3, 8] I I' ∧ eqR [1, 4, 5, 6, 7] R R' ∧ SX S cN m sa sl ch x I' R') := by
          intro n_46
          induction n_46 with
          | zero => intro i46_3 hn hi; exact (by omega)
          | succ n_46 ih_46 =>
            intro i46_3 hn_46 hi_46
            refine ml_st (S' := (47, [(0, .ref m0), (1, .int x1), (2, .int hh), (3, .int i46_3)], [.int i46_3], M)) rfl rfl rfl ?_
            refine ml_if (S1 := (135, [(0, .ref m0), (1, .int x1), (2, .int hh), (3, .int i46_3)], [], M)) (S2 := (50, [(0, .ref m0), (1, .int x1), (2, .int hh), (3, .int i46_3)], [], M)) rfl rfl rfl (fun c_47 => ?_) (fun c_47 => ?_)
            · have c_47 : i46_3 < 0 := of_decide_eq_true c_47
              refine ml_st (S' := (136, [(0, .ref m0), (1, .int x1), (2, .int hh), (3, .int i46_3)], [.int 0], M)) rfl rfl rfl ?_
              refine ml_st (S' := (137, [(0, .ref m0), (1, .int x1), (2, .int hh), (3, .int 0)], [], M)) rfl rfl rfl ?_
              have L_137 : ∀ (n_137 : Nat) (i137_3 : Int32) (M_137 : mi_H) (I_137 : rI) (R_137 : rR), (2147483648 - i137_3.toInt).toNat ≤ n_137 → RS g m0 q z I_137 R_137 M_137 → eqI [] I I_137 → eqR [1] R R_137 → (0 ≤ i137_3.toInt ∧ i137_3.toInt ≤ x1.toInt ∧ (∀ i, i < cN → R_137 1 i = some (ch i)) ∧ ∀ j, j < i137_3.toInt.toNat → R_137 1 (cN + j) = some (cu j)) → ml (mT g) d (mb_245 g).2 (137, [(0, .ref m0), (1, .int x1), (2, .int hh), (3, .int i137_3)], [], M_137) (fun v M' => ∃ (x : Int32) (I' : rI) (R' : rR), v = some (.int x) ∧ RS g m0 q z I' R' M' ∧ eqI [3, 8] I I' ∧ eqR [1, 4, 5, 6, 7] R R' ∧ SX S cN m sa sl ch x I' R') := by
                intro n_137
                induction n_137 with
                | zero => intro i137_3 M_137 I_137 R_137 hn; exact (loop_zero hn).elim
                | succ n_137 ih_137 =>
                  intro i137_3 M_137 I_137 R_137 hn_137 hR_137 hI_137 hV_137 hi_137
                  obtain ⟨hk0, hk1, hc1, hc2⟩ := hi_137
                  refine ml_blk 2 (S' := (139, [(0, .ref m0), (1, .int x1), (2, .int hh), (3, .int i137_3)], [.int x1, .int i137_3], M_137)) rfl ?_
                  refine ml_if2 (S1 := (165, [(0, .ref m0), (1, .int x1), (2, .int hh), (3, .int i137_3)], [], M_137)) (S2 := (142, [(0, .ref m0), (1, .int x1), (2, .int hh), (3, .int i137_3)], [], M_137)) rfl rfl rfl (fun c_139 => ?_) (fun c_139 => ?_)
                  · have c_139 : x1 ≤ i137_3 := of_decide_eq_true c_139
                    refine ml_blk 2 (S' := (167, [(0, .ref m0), (1, .int x1), (2, .int hh), (3, .int i137_3)], [.ref m0, .ref m0], M_137)) rfl ?_
                    refine rg_int (S' := (170, [(0, .ref m0), (1, .int x1), (2, .int hh), (3, .int i137_3)], [.int (nI S), .ref m0], M_137)) rfl hR_137 rfl ((hI_137 8 (by decide)).trans (hY.1)) rfl ?_
                    refine ml_blk 3 (S' := (173, [(0, .ref m0), (1, .int x1), (2, .int hh), (3, .int i137_3)], [.int ((nI S) + 1), .ref m0, .int (nI S)], M_137)) rfl ?_
                    refine rp_int rfl hR_137 rfl (fun M11 I12 hR13 e14 f15 => ?_)
                    show ml _ _ _ (176, [(0, .ref m0), (1, .int x1), (2, .int hh), (3, .int i137_3)], [.int (nI S)], M11) _
                    refine ml_st (S' := (177, [(3, .int (nI S)), (0, .ref m0), (1, .int x1), (2, .int hh)], [], M11)) rfl rfl rfl ?_
                    refine ml_st (S' := (178, [(3, .int (nI S)), (0, .ref m0), (1, .int x1), (2, .int hh)], [.ref m0], M11)) rfl rfl rfl ?_
                    refine rg_ref (S' := (181, [(3, .int (nI S)), (0, .ref m0), (1, .int x1), (2, .int hh)], [.ref (q 4)], M11)) rfl hR13 rfl rfl ?_
                    refine ml_blk 2 (S' := (183, [(3, .int (nI S)), (0, .ref m0), (1, .int x1), (2, .int hh)], [.ref m0, .int (nI S), .ref (q 4)], M11)) rfl ?_
                    refine rg_int (S' := (186, [(3, .int (nI S)), (0, .ref m0), (1, .int x1), (2, .int hh)], [.int (nI cN), .int (nI S), .ref (q 4)], M11)) rfl hR13 rfl ((f15 3 (by decide)).trans ((hI_137 3 (by decide)).trans (hY.2.1))) rfl ?_
                    refine ra_st (k := 4) rfl hR13 rfl (vin_lt (by rw [nI_val (by omega)]; omega) (by rw [nI_val (by omega)]; omega)) (fun M16 R17 hR18 e19 g20 f21 => ?_)
                    show ml _ _ _ (187, [(3, .int (nI S)), (0, .ref m0), (1, .int x1), (2, .int hh)], [], M16) _
                    refine ml_st (S' := (188, [(3, .int (nI S)), (0, .ref m0), (1, .int x1), (2, .int hh)], [.ref m0], M16)) rfl rfl rfl ?_
                    refine rg_ref (S' := (191, [(3, .int (nI S)), (0, .ref m0), (1, .int x1), (2, .int hh)], [.ref (q 5)], M16)) rfl hR18 rfl rfl ?_
                    refine ml_blk 2 (S' := (193, [(3, .int (nI S)), (0, .ref m0), (1, .int x1), (2, .int hh)], [.int x1, .int (nI S), .ref (q 5)], M16)) rfl ?_
                    refine ra_st (k := 5) rfl hR18 rfl (vin_lt (by rw [nI_val (by omega)]; omega) (by rw [nI_val (by omega)]; omega)) (fun M22 R23 hR24 e25 g26 f27 => ?_)
                    show ml _ _ _ (194, [(3, .int (nI S)), (0, .ref m0), (1, .int x1), (2, .int hh)], [], M22) _
                    refine ml_st (S' := (195, [(3, .int (nI S)), (0, .ref m0), (1, .int x1), (2, .int hh)], [.ref m0], M22)) rfl rfl rfl ?_
                    refine rg_ref (S' := (198, [(3, .int (nI S)), (0, .ref m0), (1, .int x1), (2, .int hh)], [.ref (q 6)], M22)) rfl hR24 rfl rfl ?_
                    refine ml_blk 2 (S' := (200, [(3, .int (nI S)), (0, .ref m0), (1, .int x1), (2, .int hh)], [.ref m0, .int (nI S), .ref (q 6)], M22)) rfl ?_
                    refine rg_ref (S' := (203, [(3, .int (nI S)), (0, .ref m0), (1, .int x1), (2, .int hh)], [.ref (q 7), .int (nI S), .ref (q 6)], M22)) rfl hR24 rfl rfl ?_
                    refine ml_st (S' := (204, [(3, .int (nI S)), (0, .ref m0), (1, .int x1), (2, .int hh)], [.int hh, .ref (q 7), .int (nI S), .ref (q 6)], M22)) rfl rfl rfl ?_
                    have hH28 : HK S he nx I12 R23 := ((((hH.mono (cIx hI_137 (by decide)) (cRx hV_137 (by decide))).mono (pIx f15 (by decide)) (fun _ _ => rfl)).mono (fun _ _ => rfl) (pRx f21 (by decide))).mono (fun _ _ => rfl) (pRx f27 (by decide)))
                    refine ra_ld (k := 7) (S' := (205, [(3, .int (nI S)), (0, .ref m0), (1, .int x1), (2, .int hh)], [.int (he (Int32.toNatClampNeg hh)), .int (nI S), .ref (q 6)], M22)) rfl hR24 rfl (vin_lt hb.1 hb.2) ((hH28.h hb.1 hb.2).1) rfl ?_
                    refine ra_st (k := 6) rfl hR24 rfl (vin_lt (by rw [nI_val (by omega)]; omega) (by rw [nI_val (by omega)]; omega)) (fun M29 R30 hR31 e32 g33 f34 => ?_)
                    show ml _ _ _ (206, [(3, .int (nI S)), (0, .ref m0), (1, .int x1), (2, .int hh)], [], M29) _
                    refine ml_st (S' := (207, [(3, .int (nI S)), (0, .ref m0), (1, .int x1), (2, .int hh)], [.ref m0], M29)) rfl rfl rfl ?_
                    refine rg_ref (S' := (210, [(3, .int (nI S)), (0, .ref m0), (1, .int x1), (2, .int hh)], [.ref (q 7)], M29)) rfl hR31 rfl rfl ?_
                    refine ml_blk 2 (S' := (212, [(3, .int (nI S)), (0, .ref m0), (1, .int x1), (2, .int hh)], [.int (nI S), .int hh, .ref (q 7)], M29)) rfl ?_
                    refine ra_st (k := 7) rfl hR31 rfl (vin_lt hb.1 hb.2) (fun M35 R36 hR37 e38 g39 f40 => ?_)
                    show ml _ _ _ (213, [(3, .int (nI S)), (0, .ref m0), (1, .int x1), (2, .int hh)], [], M35) _
                    refine ml_blk 2 (S' := (215, [(3, .int (nI S)), (0, .ref m0), (1, .int x1), (2, .int hh)], [.ref m0, .ref m0], M35)) rfl ?_
                    refine rg_int (S' := (218, [(3, .int (nI S)), (0, .ref m0), (1, .int x1), (2, .int hh)], [.int (nI cN), .ref m0], M35)) rfl hR37 rfl ((f15 3 (by decide)).trans ((hI_137 3 (by decide)).trans (hY.2.1))) rfl ?_
                    refine ml_blk 2 (S' := (220, [(3, .int (nI S)), (0, .ref m0), (1, .int x1), (2, .int hh)], [.int ((nI cN) + x1), .ref m0], M35)) rfl ?_
                    refine rp_int rfl hR37 rfl (fun M41 I42 hR43 e44 f45 => ?_)
                    show ml _ _ _ (223, [(3, .int (nI S)), (0, .ref m0), (1, .int x1), (2, .int hh)], [], M41) _
                    refine ml_st (S' := (224, [(3, .int (nI S)), (0, .ref m0), (1, .int x1), (2, .int hh)], [.int (nI S)], M41)) rfl rfl rfl ?_
                    exact ml_ret rfl (rfl) (⟨_, _, _, rfl, hR43, (((eqI.rf.tr hI_137 (by decide)).put f15 (by decide)).put f45 (by decide)), (((((eqR.rf.tr hV_137 (by decide)).put f21 (by decide)).put f27 (by decide)).put f34 (by decide)).put f40 (by decide)), sym_new (R1 := R_137) hY hH hU hm hroom hS hb hc1 (fun j hj => hc2 j (by have := i_le c_139; omega)) ((f40 1 (by decide)).trans ((f34 1 (by decide)).trans ((f27 1 (by decide)).trans (f21 1 (by decide))))) ((congrFun ((f40 4 (by decide)).trans ((f34 4 (by decide)).trans (f27 4 (by decide)))) _).trans e19) (fun b hb => (congrFun ((f40 4 (by decide)).trans ((f34 4 (by decide)).trans (f27 4 (by decide)))) b).trans ((g20 b hb).trans (congrFun (hV_137 4 (by decide)) b))) ((congrFun ((f40 5 (by decide)).trans (f34 5 (by decide))) _).trans e25) (fun b hb => (congrFun ((f40 5 (by decide)).trans (f34 5 (by decide))) b).trans ((g26 b hb).trans (congrFun ((f21 5 (by decide)).trans (hV_137 5 (by decide))) b))) ((congrFun (f40 6 (by decide)) _).trans e32) (fun b hb => (congrFun (f40 6 (by decide)) b).trans ((g33 b hb).trans (congrFun ((f27 6 (by decide)).trans ((f21 6 (by decide)).trans (hV_137 6 (by decide)))) b))) ((congrFun (rfl) _).trans e38) (fun b hb => (congrFun (rfl) b).trans ((g39 b hb).trans (congrFun ((f34 7 (by decide)).trans ((f27 7 (by decide)).trans ((f21 7 (by decide)).trans (hV_137 7 (by decide))))) b))) ((f45 8 (by decide)).trans (e14)) (e44)⟩)
                  · have c_139 : ¬ (x1 ≤ i137_3) := of_decide_eq_false c_139
                    refine ml_st (S' := (143, [(0, .ref m0), (1, .int x1), (2, .int hh), (3, .int i137_3)], [.ref m0], M_137)) rfl rfl rfl ?_
                    refine rg_ref (S' := (146, [(0, .ref m0), (1, .int x1), (2, .int hh), (3, .int i137_3)], [.ref (q 1)], M_137)) rfl hR_137 rfl rfl ?_
                    refine ml_st (S' := (147, [(0, .ref m0), (1, .int x1), (2, .int hh), (3, .int i137_3)], [.ref m0, .ref (q 1)], M_137)) rfl rfl rfl ?_
                    refine rg_int (S' := (150, [(0, .ref m0), (1, .int x1), (2, .int hh), (3, .int i137_3)], [.int (nI cN), .ref (q 1)], M_137)) rfl hR_137 rfl ((hI_137 3 (by decide)).trans (hY.2.1)) rfl ?_
                    refine ml_blk 3 (S' := (153, [(0, .ref m0), (1, .int x1), (2, .int hh), (3, .int i137_3)], [.ref m0, .int ((nI cN) + i137_3), .ref (q 1)], M_137)) rfl ?_
                    refine rg_ref (S' := (156, [(0, .ref m0), (1, .int x1), (2, .int hh), (3, .int i137_3)], [.ref (q 2), .int ((nI cN) + i137_3), .ref (q 1)], M_137)) rfl hR_137 rfl rfl ?_
                    refine ml_st (S' := (157, [(0, .ref m0), (1, .int x1), (2, .int hh), (3, .int i137_3)], [.int i137_3, .ref (q 2), .int ((nI cN) + i137_3), .ref (q 1)], M_137)) rfl rfl rfl ?_
                    have hU46 : CU m cu I_137 R_137 := (hU.mono (cIx hI_137 (by decide)) (cRx hV_137 (by decide)))
                    refine ra_ld (k := 2) (S' := (158, [(0, .ref m0), (1, .int x1), (2, .int hh), (3, .int i137_3)], [.int (cu (Int32.toNatClampNeg i137_3)), .int ((nI cN) + i137_3), .ref (q 1)], M_137)) rfl hR_137 rfl (vin_lt hk0 (by have := i_nle c_139; omega)) ((hU46.iat hk0 (by have := i_nle c_139; omega)).1) rfl ?_
                    have ex : (nI cN + i137_3).toInt = cN + i137_3.toInt := by have := i_nle c_139; rw [i_add (by rw [nI_val (by omega)]; omega) (by rw [nI_val (by omega)]; omega), nI_val (by omega)]
                    have en : (nI cN + i137_3).toNatClampNeg = cN + i137_3.toInt.toNat := by show (nI cN + i137_3).toInt.toNat = _; omega
                    refine ra_st (k := 1) rfl hR_137 rfl (vin_lt (by omega) (by have := i_nle c_139; omega)) (fun M47 R48 hR49 e50 g51 f52 => ?_)
                    show ml _ _ _ (159, [(0, .ref m0), (1, .int x1), (2, .int hh), (3, .int i137_3)], [], M47) _
                    refine ml_st (S' := (162, [(3, .int (i137_3 + 1)), (0, .ref m0), (1, .int x1), (2, .int hh)], [], M47)) rfl rfl rfl ?_
                    refine ml_st (S' := (137, [(0, .ref m0), (1, .int x1), (2, .int hh), (3, .int (i137_3 + 1))], [], M47)) rfl rfl rfl ?_
                    have hn1 := inc_lt (Int32.not_le.mp c_139)
                    rw [en] at e50 g51
                    have hcu := (hU46.iat hk0 (by have := i_nle c_139; omega)).2
                    exact ih_137 (i137_3 + 1) _ _ _ (loop_inc (Int32.not_le.mp c_139) hn_137) hR49 (eqI.rf.tr hI_137 (by decide)) ((eqR.rf.tr hV_137 (by decide)).put f52 (by decide)) (⟨by omega, by have := i_nle c_139; omega, fun i hi => (g51 i (by omega)).trans (hc1 i hi), fun j hj => by by_cases e9 : j = i137_3.toInt.toNat; (subst e9; rw [e50, nar16 hcu]; rfl); (rw [g51 _ (by omega)]; exact hc2 j (by omega))⟩)
              exact L_137 _ 0 _ _ _ (Nat.le_refl _) hR eqI.rf eqR.rf (⟨by decide, by show (0 : Int) ≤ _; omega, fun i hi => (hY.2.2.2.2.2 i hi).1, fun j hj => absurd hj (Nat.not_lt_zero j)⟩)
            · have c_47 : ¬ (i46_3 < 0) := of_decide_eq_false c_47
              have h47 := nneg c_47
              have hs9 := hY.s h47 hi_46.2
              refine ml_st (S' := (51, [(0, .ref m0), (1, .int x1), (2, .int hh), (3, .int i46_3)], [.ref m0], M)) rfl rfl rfl ?_
              refine rg_ref (S' := (54, [(0, .ref m0), (1, .int x1), (2, .int hh), (3, .int i46_3)], [.ref (q 5)], M)) rfl hR rfl rfl ?_
              refine ml_st (S' := (55, [(0, .ref m0), (1, .int x1), (2, .int hh), (3, .int i46_3)], [.int i46_3, .ref (q 5)], M)) rfl rfl rfl ?_
              refine ra_ld (k := 5) (S' := (56, [(0, .ref m0), (1, .int x1), (2, .int hh), (3, .int i46_3)], [.int (sl (Int32.toNatClampNeg i46_3))], M)) rfl hR rfl (hs9.2.2.2.2.2.2) (hs9.2.1) rfl ?_
              refine ml_st (S' := (57, [(0, .ref m0), (1, .int x1), (2, .int hh), (3, .int i46_3)], [.int x1, .int (sl (Int32.toNatClampNeg i46_3))], M)) rfl rfl rfl ?_
              have J_65 : ∀ (s65_0 : Int32), (s65_0 = 0 ∨ sl (Int32.toNatClampNeg i46_3) = x1) → ml (mT g) d (mb_245 g).2 (65, [(0, .ref m0), (1, .int x1), (2, .int hh), (3, .int i46_3)], [.int s65_0], M) (fun v M' => ∃ (x : Int32) (I' : rI) (R' : rR), v = some (.int x) ∧ RS g m0 q z I' R' M' ∧ eqI [3, 8] I I' ∧ eqR [1, 4, 5, 6, 7] R R' ∧ SX S cN m sa sl ch x I' R') := by
                intro s65_0 hj_65
                refine ml_st (S' := (67, [(4, .int s65_0), (0, .ref m0), (1, .int x1), (2, .int hh), (3, .int i46_3)], [], M)) rfl rfl rfl ?_
                refine ml_st (S' := (68, [(4, .int s65_0), (0, .ref m0), (1, .int x1), (2, .int hh), (3, .int i46_3)], [.int 0], M)) rfl rfl rfl ?_
                refine ml_st (S' := (70, [(0, .ref m0), (1, .int x1), (2, .int hh), (3, .int i46_3), (4, .int s65_0), (5, .int 0)], [], M)) rfl rfl rfl ?_
                have L_70 : ∀ (n_70 : Nat) (i70_4 : Int32) (i70_5 : Int32), (2147483648 - i70_5.toInt).toNat ≤ n_70 → (0 ≤ i70_5.toInt ∧ (i70_4 = 0 ∨ sl (Int32.toNatClampNeg i46_3) = x1)) → ml (mT g) d (mb_245 g).2 (70, [(0, .ref m0), (1, .int x1), (2, .int hh), (3, .int i46_3), (4, .int i70_4), (5, .int i70_5)], [], M) (fun v M' => ∃ (x : Int32) (I' : rI) (R' : rR), v = some (.int x) ∧ RS g m0 q z I' R' M' ∧ eqI [3, 8] I I' ∧ eqR [1, 4, 5, 6, 7] R R' ∧ SX S cN m sa sl ch x I' R') := by
                  intro n_70
                  induction n_70 with
                  | zero => intro i70_4 i70_5 hn; exact (loop_zero hn).elim
                  | succ n_70 ih_70 =>
                    intro i70_4 i70_5 hn_70 hi_70
                    refine ml_blk 2 (S' := (73, [(0, .ref m0), (1, .int x1), (2, .int hh), (3, .int i46_3), (4, .int i70_4), (5, .int i70_5)], [.int x1, .int i70_5], M)) rfl ?_
                    refine ml_if2 (S1 := (118, [(0, .ref m0), (1, .int x1), (2, .int hh), (3, .int i46_3), (4, .int i70_4)], [], M)) (S2 := (76, [(0, .ref m0), (1, .int x1), (2, .int hh), (3, .int i46_3), (4, .int i70_4), (5, .int i70_5)], [], M)) rfl rfl rfl (fun c_73 => ?_) (fun c_73 => ?_)
                    · have c_73 : x1 ≤ i70_5 := of_decide_eq_true c_73
                      refine ml_st (S' := (120, [(0, .ref m0), (1, .int x1), (2, .int hh), (3, .int i46_3), (4, .int i70_4)], [.int i70_4], M)) rfl rfl rfl ?_
                      refine ml_if (S1 := (125, [(0, .ref m0), (1, .int x1), (2, .int hh), (3, .int i46_3), (4, .int i70_4)], [], M)) (S2 := (123, [(0, .ref m0), (1, .int x1), (2, .int hh), (3, .int i46_3), (4, .int i70_4)], [], M)) rfl rfl rfl (fun c_120 => ?_) (fun c_120 => ?_)
                      · have c_120 : i70_4 = 0 := of_decide_eq_true c_120
                        refine ml_st (S' := (126, [(0, .ref m0), (1, .int x1), (2, .int hh), (3, .int i46_3), (4, .int i70_4)], [.ref m0], M)) rfl rfl rfl ?_
                        refine rg_ref (S' := (129, [(0, .ref m0), (1, .int x1), (2, .int hh), (3, .int i46_3), (4, .int i70_4)], [.ref (q 6)], M)) rfl hR rfl rfl ?_
                        refine ml_st (S' := (130, [(0, .ref m0), (1, .int x1), (2, .int hh), (3, .int i46_3), (4, .int i70_4)], [.int i46_3, .ref (q 6)], M)) rfl rfl rfl ?_
                        refine ra_ld (k := 6) (S' := (131, [(0, .ref m0), (1, .int x1), (2, .int hh), (3, .int i46_3), (4, .int i70_4)], [.int (nx (Int32.toNatClampNeg i46_3))], M)) rfl hR rfl (hs9.2.2.2.2.2.2) ((hH.n h47 hi_46.2).1) rfl ?_
                        refine ml_st (S' := (132, [(3, .int (nx (Int32.toNatClampNeg i46_3))), (0, .ref m0), (1, .int x1), (2, .int hh), (4, .int i70_4)], [], M)) rfl rfl rfl ?_
                        refine ml_st (S' := (46, [(0, .ref m0), (1, .int x1), (2, .int hh), (3, .int (nx (Int32.toNatClampNeg i46_3)))], [], M)) rfl rfl rfl ?_
                        exact ih_46 (nx (Int32.toNatClampNeg i46_3)) (by have := (hH.n h47 hi_46.2).2.2; omega) (⟨(hH.n h47 hi_46.2).2.1, by have := (hH.n h47 hi_46.2).2.2; have := hi_46.2; omega⟩)
                      · have c_120 : ¬ (i70_4 = 0) := of_decide_eq_false c_120
                        refine ml_st (S' := (124, [(0, .ref m0), (1, .int x1), (2, .int hh), (3, .int i46_3), (4, .int i70_4)], [.int i46_3], M)) rfl rfl rfl ?_
                        exact ml_ret rfl (rfl) (⟨_, _, _, rfl, hR, eqI.rf, eqR.rf, ⟨S, cN, sa, sl, ch, he, nx, hY, hH, h47, hi_46.2, Nat.le_refl _, by omega, Nat.le_refl _, by omega, fun _ _ => ⟨rfl, rfl⟩, fun _ _ => rfl⟩⟩)
                    · have c_73 : ¬ (x1 ≤ i70_5) := of_decide_eq_false c_73
                      refine ml_st (S' := (78, [(0, .ref m0), (1, .int x1), (2, .int hh), (3, .int i46_3), (4, .int i70_4), (5, .int i70_5)], [.int i70_4], M)) rfl rfl rfl ?_
                      refine ml_if (S1 := (118, [(0, .ref m0), (1, .int x1), (2, .int hh), (3, .int i46_3), (4, .int i70_4)], [], M)) (S2 := (81, [(0, .ref m0), (1, .int x1), (2, .int hh), (3, .int i46_3), (4, .int i70_4), (5, .int i70_5)], [], M)) rfl rfl rfl (fun c_78 => ?_) (fun c_78 => ?_)
                      · have c_78 : i70_4 = 0 := of_decide_eq_true c_78
                        refine ml_st (S' := (120, [(0, .ref m0), (1, .int x1), (2, .int hh), (3, .int i46_3), (4, .int i70_4)], [.int i70_4], M)) rfl rfl rfl ?_
                        refine ml_if (S1 := (125, [(0, .ref m0), (1, .int x1), (2, .int hh), (3, .int i46_3), (4, .int i70_4)], [], M)) (S2 := (123, [(0, .ref m0), (1, .int x1), (2, .int hh), (3, .int i46_3), (4, .int i70_4)], [], M)) rfl rfl rfl (fun c_120 => ?_) (fun c_120 => ?_)
                        · have c_120 : i70_4 = 0 := of_decide_eq_true c_120
                          refine ml_st (S' := (126, [(0, .ref m0), (1, .int x1), (2, .int hh), (3, .int i46_3), (4, .int i70_4)], [.ref m0], M)) rfl rfl rfl ?_
                          refine rg_ref (S' := (129, [(0, .ref m0), (1, .int x1), (2, .int hh), (3, .int i46_3), (4, .int i70_4)], [.ref (q 6)], M)) rfl hR rfl rfl ?_
                          refine ml_st (S' := (130, [(0, .ref m0), (1, .int x1), (2, .int hh), (3, .int i46_3), (4, .int i70_4)], [.int i46_3, .ref (q 6)], M)) rfl rfl rfl ?_
                          refine ra_ld (k := 6) (S' := (131, [(0, .ref m0), (1, .int x1), (2, .int hh), (3, .int i46_3), (4, .int i70_4)], [.int (nx (Int32.toNatClampNeg i46_3))], M)) rfl hR rfl (hs9.2.2.2.2.2.2) ((hH.n h47 hi_46.2).1) rfl ?_
                          refine ml_st (S' := (132, [(3, .int (nx (Int32.toNatClampNeg i46_3))), (0, .ref m0), (1, .int x1), (2, .int hh), (4, .int i70_4)], [], M)) rfl rfl rfl ?_
                          refine ml_st (S' := (46, [(0, .ref m0), (1, .int x1), (2, .int hh), (3, .int (nx (Int32.toNatClampNeg i46_3)))], [], M)) rfl rfl rfl ?_
                          exact ih_46 (nx (Int32.toNatClampNeg i46_3)) (by have := (hH.n h47 hi_46.2).2.2; omega) (⟨(hH.n h47 hi_46.2).2.1, by have := (hH.n h47 hi_46.2).2.2; have := hi_46.2; omega⟩)
                        · have c_120 : ¬ (i70_4 = 0) := of_decide_eq_false c_120
                          refine ml_st (S' := (124, [(0, .ref m0), (1, .int x1), (2, .int hh), (3, .int i46_3), (4, .int i70_4)], [.int i46_3], M)) rfl rfl rfl ?_
                          exact ml_ret rfl (rfl) (⟨_, _, _, rfl, hR, eqI.rf, eqR.rf, ⟨S, cN, sa, sl, ch, he, nx, hY, hH, h47, hi_46.2, Nat.le_refl _, by omega, Nat.le_refl _, by omega, fun _ _ => ⟨rfl, rfl⟩, fun _ _ => rfl⟩⟩)
                      · have c_78 : ¬ (i70_4 = 0) := of_decide_eq_false c_78
                        refine ml_st (S' := (82, [(0, .ref m0), (1, .int x1), (2, .int hh), (3, .int i46_3), (4, .int i70_4), (5, .int i70_5)], [.ref m0], M)) rfl rfl rfl ?_
                        refine rg_ref (S' := (85, [(0, .ref m0), (1, .int x1), (2, .int hh), (3, .int i46_3), (4, .int i70_4), (5, .int i70_5)], [.ref (q 1)], M)) rfl hR rfl rfl ?_
                        refine ml_st (S' := (86, [(0, .ref m0), (1, .int x1), (2, .int hh), (3, .int i46_3), (4, .int i70_4), (5, .int i70_5)], [.ref m0, .ref (q 1)], M)) rfl rfl rfl ?_
                        refine rg_ref (S' := (89, [(0, .ref m0), (1, .int x1), (2, .int hh), (3, .int i46_3), (4, .int i70_4), (5, .int i70_5)], [.ref (q 4), .ref (q 1)], M)) rfl hR rfl rfl ?_
                        refine ml_st (S' := (90, [(0, .ref m0), (1, .int x1), (2, .int hh), (3, .int i46_3), (4, .int i70_4), (5, .int i70_5)], [.int i46_3, .ref (q 4), .ref (q 1)], M)) rfl rfl rfl ?_
                        refine ra_ld (k := 4) (S' := (91, [(0, .ref m0), (1, .int x1), (2, .int hh), (3, .int i46_3), (4, .int i70_4), (5, .int i70_5)], [.int (sa (Int32.toNatClampNeg i46_3)), .ref (q 1)], M)) rfl hR rfl (hs9.2.2.2.2.2.2) (hs9.1) rfl ?_
                        refine ml_blk 2 (S' := (94, [(0, .ref m0), (1, .int x1), (2, .int hh), (3, .int i46_3), (4, .int i70_4), (5, .int i70_5)], [.int ((sa (Int32.toNatClampNeg i46_3)) + i70_5), .ref (q 1)], M)) rfl ?_
                        have hch := hY.t h47 hi_46.2 hi_70.1 (by have := i_nle c_73; have e := hi_70.2.resolve_left c_78; rw [e]; omega)
                        refine ra_ld (k := 1) (S' := (95, [(0, .ref m0), (1, .int x1), (2, .int hh), (3, .int i46_3), (4, .int i70_4), (5, .int i70_5)], [.int (ch (Int32.toNatClampNeg ((sa (Int32.toNatClampNeg i46_3)) + i70_5)))], M)) rfl hR rfl (hch.2.2) (hch.1) rfl ?_
                        refine ml_st (S' := (96, [(0, .ref m0), (1, .int x1), (2, .int hh), (3, .int i46_3), (4, .int i70_4), (5, .int i70_5)], [.ref m0, .int (ch (Int32.toNatClampNeg ((sa (Int32.toNatClampNeg i46_3)) + i70_5)))], M)) rfl rfl rfl ?_
                        refine rg_ref (S' := (99, [(0, .ref m0), (1, .int x1), (2, .int hh), (3, .int i46_3), (4, .int i70_4), (5, .int i70_5)], [.ref (q 2), .int (ch (Int32.toNatClampNeg ((sa (Int32.toNatClampNeg i46_3)) + i70_5)))], M)) rfl hR rfl rfl ?_
                        refine ml_st (S' := (101, [(0, .ref m0), (1, .int x1), (2, .int hh), (3, .int i46_3), (4, .int i70_4), (5, .int i70_5)], [.int i70_5, .ref (q 2), .int (ch (Int32.toNatClampNeg ((sa (Int32.toNatClampNeg i46_3)) + i70_5)))], M)) rfl rfl rfl ?_
                        refine ra_ld (k := 2) (S' := (102, [(0, .ref m0), (1, .int x1), (2, .int hh), (3, .int i46_3), (4, .int i70_4), (5, .int i70_5)], [.int (cu (Int32.toNatClampNeg i70_5)), .int (ch (Int32.toNatClampNeg ((sa (Int32.toNatClampNeg i46_3)) + i70_5)))], M)) rfl hR rfl (vin_lt hi_70.1 (by have := i_nle c_73; omega)) ((hU.iat hi_70.1 (by have := i_nle c_73; omega)).1) rfl ?_
                        refine ml_if2 (S1 := (109, [(0, .ref m0), (1, .int x1), (2, .int hh), (3, .int i46_3), (4, .int i70_4), (5, .int i70_5)], [], M)) (S2 := (105, [(0, .ref m0), (1, .int x1), (2, .int hh), (3, .int i46_3), (4, .int i70_4), (5, .int i70_5)], [], M)) rfl rfl rfl (fun c_102 => ?_) (fun c_102 => ?_)
                        · have c_102 : ¬ (ch (Int32.toNatClampNeg ((sa (Int32.toNatClampNeg i46_3)) + i70_5))) = (cu (Int32.toNatClampNeg i70_5)) := of_decide_eq_true c_102
                          refine ml_st (S' := (110, [(0, .ref m0), (1, .int x1), (2, .int hh), (3, .int i46_3), (5, .int i70_5)], [.int 0], M)) rfl rfl rfl ?_
                          refine ml_st (S' := (112, [(4, .int 0), (0, .ref m0), (1, .int x1), (2, .int hh), (3, .int i46_3), (5, .int i70_5)], [], M)) rfl rfl rfl ?_
                          refine ml_st (S' := (115, [(5, .int (i70_5 + 1)), (4, .int 0), (0, .ref m0), (1, .int x1), (2, .int hh), (3, .int i46_3)], [], M)) rfl rfl rfl ?_
                          refine ml_st (S' := (70, [(0, .ref m0), (1, .int x1), (2, .int hh), (3, .int i46_3), (4, .int 0), (5, .int (i70_5 + 1))], [], M)) rfl rfl rfl ?_
                          exact ih_70 0 (i70_5 + 1) (loop_inc (Int32.not_le.mp c_73) hn_70) (⟨by rw [inc_lt (Int32.not_le.mp c_73)]; have := hi_70.1; omega, Or.inr (hi_70.2.resolve_left c_78)⟩)
                        · have c_102 : ¬ (¬ (ch (Int32.toNatClampNeg ((sa (Int32.toNatClampNeg i46_3)) + i70_5))) = (cu (Int32.toNatClampNeg i70_5))) := of_decide_eq_false c_102
                          refine ml_st (S' := (106, [(0, .ref m0), (1, .int x1), (2, .int hh), (3, .int i46_3), (4, .int i70_4), (5, .int i70_5)], [.int 1], M)) rfl rfl rfl ?_
                          refine ml_st (S' := (110, [(0, .ref m0), (1, .int x1), (2, .int hh), (3, .int i46_3), (5, .int i70_5)], [.int 1], M)) rfl rfl rfl ?_
                          refine ml_st (S' := (112, [(4, .int 1), (0, .ref m0), (1, .int x1), (2, .int hh), (3, .int i46_3), (5, .int i70_5)], [], M)) rfl rfl rfl ?_
                          refine ml_st (S' := (115, [(5, .int (i70_5 + 1)), (4, .int 1), (0, .ref m0), (1, .int x1), (2, .int hh), (3, .int i46_3)], [], M)) rfl rfl rfl ?_
                          refine ml_st (S' := (70, [(0, .ref m0), (1, .int x1), (2, .int hh), (3, .int i46_3), (4, .int 1), (5, .int (i70_5 + 1))], [], M)) rfl rfl rfl ?_
                          exact ih_70 1 (i70_5 + 1) (loop_inc (Int32.not_le.mp c_73) hn_70) (⟨by rw [inc_lt (Int32.not_le.mp c_73)]; have := hi_70.1; omega, Or.inr (hi_70.2.resolve_left c_78)⟩)
                exact L_70 _ s65_0 0 (Nat.le_refl _) (⟨by decide, hj_65⟩)
              refine ml_if2 (S1 := (64, [(0, .ref m0), (1, .int x1), (2, .int hh), (3, .int i46_3)], [], M)) (S2 := (60, [(0, .ref m0), (1, .int x1), (2, .int hh), (3, .int i46_3)], [], M)) rfl rfl rfl (fun c_57 => ?_) (fun c_57 => ?_)
              · have c_57 : ¬ (sl (Int32.toNatClampNeg i46_3)) = x1 := of_decide_eq_true c_57
                refine ml_st (S' := (65, [(0, .ref m0), (1, .int x1), (2, .int hh), (3, .int i46_3)], [.int 0], M)) rfl rfl rfl ?_
                exact J_65 0 (Or.inl rfl)
              · have c_57 : ¬ (¬ (sl (Int32.toNatClampNeg i46_3)) = x1) := of_decide_eq_false c_57
                refine ml_st (S' := (61, [(0, .ref m0), (1, .int x1), (2, .int hh), (3, .int i46_3)], [.int 1], M)) rfl rfl rfl ?_
                refine ml_st (S' := (65, [(0, .ref m0), (1, .int x1), (2, .int hh), (3, .int i46_3)], [.int 1], M)) rfl rfl rfl ?_
                exact J_65 1 (Or.inr (Decidable.not_not.mp c_57))
        exact L_46 _ (he (Int32.toNatClampNeg hh)) (Nat.le_refl _) (⟨(hH.h hb.1 hb.2).2.1, (hH.h hb.1 hb.2).2.2⟩)
      · have c_7 : ¬ (x1 ≤ i5_3) := of_decide_eq_false c_7
        refine ml_blk 3 (S' := (14, [(0, .ref m0), (1, .int x1), (2, .int i5_2), (3, .int i5_3)], [.int (31 * i5_2)], M)) rfl ?_
        refine ml_st (S' := (15, [(0, .ref m0), (1, .int x1), (2, .int i5_2), (3, .int i5_3)], [.ref m0, .int (31 * i5_2)], M)) rfl rfl rfl ?_
        refine rg_ref (S' := (18, [(0, .ref m0), (1, .int x1), (2, .int i5_2), (3, .int i5_3)], [.ref (q 2), .int (31 * i5_2)], M)) rfl hR rfl rfl ?_
        refine ml_st (S' := (19, [(0, .ref m0), (1, .int x1), (2, .int i5_2), (3, .int i5_3)], [.int i5_3, .ref (q 2), .int (31 * i5_2)], M)) rfl rfl rfl ?_
        refine ra_ld (k := 2) (S' := (20, [(0, .ref m0), (1, .int x1), (2, .int i5_2), (3, .int i5_3)], [.int (cu (Int32.toNatClampNeg i5_3)), .int (31 * i5_2)], M)) rfl hR rfl (vin_lt hi_5 (by have := i_nle c_7; omega)) ((hU.iat hi_5 (by have := i_nle c_7; omega)).1) rfl ?_
        refine ml_st (S' := (21, [(0, .ref m0), (1, .int x1), (2, .int i5_2), (3, .int i5_3)], [.int ((31 * i5_2) + (cu (Int32.toNatClampNeg i5_3)))], M)) rfl rfl rfl ?_
        refine ml_st (S' := (22, [(2, .int ((31 * i5_2) + (cu (Int32.toNatClampNeg i5_3)))), (0, .ref m0), (1, .int x1), (3, .int i5_3)], [], M)) rfl rfl rfl ?_
        refine ml_st (S' := (25, [(3, .int (i5_3 + 1)), (2, .int ((31 * i5_2) + (cu (Int32.toNatClampNeg i5_3)))), (0, .ref m0), (1, .int x1)], [], M)) rfl rfl rfl ?_
        refine ml_st (S' := (5, [(0, .ref m0), (1, .int x1), (2, .int ((31 * i5_2) + (cu (Int32.toNatClampNeg i5_3)))), (3, .int (i5_3 + 1))], [], M)) rfl rfl rfl ?_
        exact ih_5 ((31 * i5_2) + (cu (Int32.toNatClampNeg i5_3))) (i5_3 + 1) (loop_inc (Int32.not_le.mp c_7) hn_5) (by rw [inc_lt (Int32.not_le.mp c_7)]; omega)
  exact L_5 _ 7 0 (Nat.le_refl _) (by decide)
end
section
/-! symbols, what is left of them (my own text) -/
section MIS2
def SYM (S cN : Nat) (I : rI) (R : rR) : Prop := ∃ sa sl ch he nx, SK S cN sa sl ch I R ∧ HK S he nx I R
variable {S cN m : Nat} {cu : Nat → Int32} {I I' : rI} {R R' : rR} {x y : Int32}
theorem SYM.mono (h : SYM S cN I R) (hI : ∀ k, k ∈ [3, 8] → I' k = I k) (hR : ∀ k, k ∈ [1, 4, 5, 6, 7] → R' k = R k) : SYM S cN I' R' := by
  obtain ⟨sa, sl, ch, he, nx, h1, h2⟩ := h
  exact ⟨sa, sl, ch, he, nx, h1.mono hI (fun k hk => hR k (by simp only [List.mem_cons, List.not_mem_nil, or_false] at hk ⊢; omega)), h2.mono (fun k hk => by cases hk) (fun k hk => hR k (by simp only [List.mem_cons, List.not_mem_nil, or_false] at hk ⊢; omega))⟩
def SZ (S cN m : Nat) (x : Int32) (I' : rI) (R' : rR) : Prop := ∃ S' cN' : Nat, SYM S' cN' I' R' ∧ 0 ≤ x.toInt ∧ x.toInt < S' ∧ S ≤ S' ∧ S' ≤ S + 1 ∧ cN ≤ cN' ∧ cN' ≤ cN + m
theorem rz_symbol {g : xe_G} {m0 : Nat} {q : Nat → Nat} {z : Nat × Nat} {M : mi_H} {x1 : Int32} (hR : RS g m0 q z I R M) (hZ : SYM S cN I R) (hU : CU m cu I R) (hm : x1.toInt = m) (hroom : cN + m ≤ 66000) (hS : S < 24000) {d : Nat} (hd : 1 ≤ d) : mt (mT g) d 245 [.ref m0, .int x1] M (fun v M' => ∃ (x : Int32) (I' : rI) (R' : rR), v = some (.int x) ∧ RS g m0 q z I' R' M' ∧ eqI [3, 8] I I' ∧ eqR [1, 4, 5, 6, 7] R R' ∧ SZ S cN m x I' R') := by
  obtain ⟨sa, sl, ch, he, nx, h1, h2⟩ := hZ
  refine (rm_symbol hR h1 h2 hU hm hroom hS hd).mono (fun v M' h => ?_)
  obtain ⟨x, I', R', e, a1, a2, a3, S', cN', sa', sl', ch', he', nx', b1, b2, b3, b4, b5, b6, b7, b8, -⟩ := h
  exact ⟨x, I', R', e, a1, a2, a3, S', cN', ⟨sa', sl', ch', he', nx', b1, b2⟩, b3, b4, b5, b6, b7, b8⟩
theorem ch16_vn (y : Int32) : ch16 (vp_nar .char y) := by
  show narrow .char (.int (vp_nar .char y)) = .int (vp_nar .char y)
  have h : vp_nar .char y = y.toUInt32.toUInt16.toUInt32.toInt32 := rfl
  rw [h]
  show Value.int (y.toUInt32.toUInt16.toUInt32.toInt32.toUInt32.toUInt16.toUInt32.toInt32) = _
  congr 2
  simp
  apply UInt32.toNat_inj.mp
  simp [UInt32.toNat_mod]
/-- so many places of the row of characters are known -/
def CUe (m : Nat) (R : rR) : Prop := ∀ j, j < m → ∃ c, R 2 j = some c ∧ ch16 c
theorem CUe.known (h : CUe m R) : CU m (fun j => (R 2 j).getD 0) I R := by
  intro i hi
  obtain ⟨c, h1, h2⟩ := h i hi
  simp only [h1, Option.getD_some]
  exact ⟨trivial, h2⟩
theorem CUe.put {k : Int32} (h : CUe k.toInt.toNat R) (h0 : 0 ≤ k.toInt) {v : Int32} (e : R' 2 k.toNatClampNeg = some v) (hv : ch16 v) (g : ∀ b, b ≠ k.toNatClampNeg → R' 2 b = R 2 b) (hk : (k + 1).toInt = k.toInt + 1) : CUe (k + 1).toInt.toNat R' := by
  intro j hj
  have ek : k.toNatClampNeg = k.toInt.toNat := rfl
  by_cases c : j = k.toNatClampNeg
  · subst c
    exact ⟨v, e, hv⟩
  · rw [g j c]
    exact h j (by omega)
/-- an entry's bytes -/
def esz (t : Int32) : Int := if t = 15 then 4 else if t = 1 ∨ t = 7 ∨ t = 8 ∨ t = 16 ∨ t = 19 ∨ t = 20 then 3 else if t = 5 ∨ t = 6 then 9 else 5
def ENT (f : Nat → Int32) (n S : Nat) (R : rR) (j : Nat) (a : Int32) : Prop := 0 ≤ a.toInt ∧ a.toInt + esz (f1 f a) ≤ n ∧ (f1 f a = 1 → ∃ sy, R 22 j = some sy ∧ 0 ≤ sy.toInt ∧ sy.toInt < S)
def PEN (f : Nat → Int32) (n S k : Nat) (R : rR) : Prop := R 21 0 = some (-1) ∧ ∀ j, 1 ≤ j → j < k → ∃ a, R 21 j = some a ∧ (a = -1 ∨ ENT f n S R j a)
theorem PEN.mono {f : Nat → Int32} {n k S' : Nat} (h : PEN f n S k R) (h1 : R' 21 = R 21) (h2 : ∀ j, j < k → R' 22 j = R 22 j) (hS : S ≤ S') : PEN f n S' k R' := by
  refine ⟨by rw [h1]; exact h.1, fun j hj hk => ?_⟩
  obtain ⟨a, b1, b2⟩ := h.2 j hj hk
  refine ⟨a, by rw [h1]; exact b1, b2.imp id (fun ⟨c1, c2, c3⟩ => ⟨c1, c2, fun e => ?_⟩)⟩
  obtain ⟨sy, e1, e2, e3⟩ := c3 e
  exact ⟨sy, by rw [h2 j hk]; exact e1, e2, by omega⟩
end MIS2
section MIS3
variable {S S' n k : Nat} {f : Nat → Int32} {R R' : rR} {x pp : Int32}
def GT (t : Int32) : Prop := t = 1 ∨ (3 ≤ t.toInt ∧ t.toInt ≤ 12) ∨ t = 15 ∨ t = 16 ∨ t = 17 ∨ t = 18 ∨ t = 19 ∨ t = 20
theorem vin_z {x : Int32} {m : Nat} (h0 : 0 ≤ x.toInt) (h1 : x.toInt < m) : vp_in (0 + x) m := by
  rw [z_add]
  exact vin_lt h0 h1
theorem z_nat {x : Int32} : (0 + x).toNatClampNeg = x.toNatClampNeg := by rw [z_add]
theorem PEN.step (h : PEN f n S k R) (hS : S ≤ S') (h1 : R' 21 k = some pp) (h1' : ∀ b, b ≠ k → R' 21 b = R 21 b) (h2 : ∀ b, b ≠ k → R' 22 b = R 22 b) (he : ENT f n S' R' k pp) (hk : 1 ≤ k) : PEN f n S' (k + 1) R' := by
  refine ⟨by rw [h1' 0 (by omega)]; exact h.1, fun j hj hk' => ?_⟩
  by_cases e : j = k
  · subst e
    exact ⟨pp, h1, Or.inr he⟩
  · obtain ⟨a, b1, b2⟩ := h.2 j hj (by omega)
    refine ⟨a, by rw [h1' j e]; exact b1, b2.imp id (fun ⟨c1, c2, c3⟩ => ⟨c1, c2, fun e1 => ?_⟩)⟩
    obtain ⟨sy, e1, e2, e3⟩ := c3 e1
    exact ⟨sy, by rw [h2 j e]; exact e1, e2, by omega⟩
theorem PEN.wide (h : PEN f n S k R) (h1 : R' 21 k = some (-1)) (h1' : ∀ b, b ≠ k → R' 21 b = R 21 b) (h2 : R' 22 = R 22) (hk : 1 ≤ k) : PEN f n S (k + 1) R' := by
  refine ⟨by rw [h1' 0 (by omega)]; exact h.1, fun j hj hk' => ?_⟩
  by_cases e : j = k
  · subst e
    exact ⟨-1, h1, Or.inl rfl⟩
  · obtain ⟨a, b1, b2⟩ := h.2 j hj (by omega)
    refine ⟨a, by rw [h1' j e]; exact b1, b2.imp id (fun ⟨c1, c2, c3⟩ => ⟨c1, c2, fun e1 => ?_⟩)⟩
    rw [h2]
    exact c3 e1
theorem esz5 {t : Int32} : t = 3 ∨ t = 4 → esz t = 5 := by
  rintro (rfl | rfl) <;> rfl
theorem esz9 {t : Int32} : t = 5 ∨ t = 6 → esz t = 9 := by
  rintro (rfl | rfl) <;> rfl
theorem esz_le5 {t : Int32} (h : ¬ (t = 5 ∨ t = 6)) : esz t ≤ 5 := by
  unfold esz
  split
  · omega
  · split
    · omega
    · first | omega | (rw [if_neg h]; omega)
theorem i_ofInt {t : Int32} (k : Nat) (hk : k < 100) (h : t.toInt = k) : t = nI k := by
  apply Int32.toInt_inj.mp
  rw [nI_val (by omega)]
  exact h
theorem esz3 {t : Int32} (hg : GT t) (h9 : t < 9 ∨ 12 < t) (h15 : t ≠ 15) (h17 : t ≠ 17) (h18 : t ≠ 18) (h34 : t ≠ 3 ∧ t ≠ 4) (h56 : t ≠ 5 ∧ t ≠ 6) : esz t ≤ 3 := by
  have key : t = 1 ∨ t = 7 ∨ t = 8 ∨ t = 16 ∨ t = 19 ∨ t = 20 := by
    rcases hg with h | ⟨h1, h2⟩ | h | h | h | h | h | h
    · exact Or.inl h
    · rcases h9 with h9 | h9
      · have h10 : t.toInt < 9 := i_lt h9
        have : t.toInt = 3 ∨ t.toInt = 4 ∨ t.toInt = 5 ∨ t.toInt = 6 ∨ t.toInt = 7 ∨ t.toInt = 8 := by omega
        rcases this with e | e | e | e | e | e
        · exact absurd (i_ofInt 3 (by omega) e) h34.1
        · exact absurd (i_ofInt 4 (by omega) e) h34.2
        · exact absurd (i_ofInt 5 (by omega) e) h56.1
        · exact absurd (i_ofInt 6 (by omega) e) h56.2
        · exact Or.inr (Or.inl (i_ofInt 7 (by omega) e))
        · exact Or.inr (Or.inr (Or.inl (i_ofInt 8 (by omega) e)))
      · have : (12 : Int32).toInt < t.toInt := i_lt h9
        have e12 : (12 : Int32).toInt = 12 := rfl
        omega
    · exact absurd h h15
    · exact Or.inr (Or.inr (Or.inr (Or.inl h)))
    · exact absurd h h17
    · exact absurd h h18
    · exact Or.inr (Or.inr (Or.inr (Or.inr (Or.inl h))))
    · exact Or.inr (Or.inr (Or.inr (Or.inr (Or.inr h))))
  unfold esz
  rw [if_neg h15, if_pos key]
  omega
end MIS3
end
section
/-! the reference: texts, the pool (laid by wip/p2/c62.py) -/
set_option maxHeartbeats 2000000 in
theorem rm_symbolS {g : xe_G}  {m0 : Nat} {q : Nat → Nat} {z : Nat × Nat} {I : rI} {R : rR} {M : mi_H} {S cN : Nat} {lk : Nat}  (hR : RS g m0 q z I R M) (hZ : SYM S cN I R) (hlk : rlk lk) (hroom : cN + (xe_lt lk).2.2.2.length ≤ 66000) (hS : S < 24000) {d : Nat} (hd : 2 ≤ d) : mt (mT g) d 246 [.ref m0, .ref (g.2.1 lk)] M (fun v M' => ∃ (x : Int32) (I' : rI) (R' : rR), v = some (.int x) ∧ RS g m0 q z I' R' M' ∧ eqI [3, 8] I I' ∧ eqR [1, 2, 4, 5, 6, 7] R R' ∧ SZ S cN (xe_lt lk).2.2.2.length x I' R') := by
  obtain ⟨d, rfl⟩ : ∃ e, d = e + 1 := ⟨d - 1, by omega⟩
  refine mt_in (b := mb_246 g) rfl rfl ?_
  show ml (mT g) d (mb_246 g).2 (0, [(0, .ref m0), (1, .ref (g.2.1 lk))], [], M) _
  refine ml_st (S' := (1, [(0, .ref m0), (1, .ref (g.2.1 lk))], [.int 0], M)) rfl rfl rfl ?_
  refine ml_st (S' := (2, [(0, .ref m0), (1, .ref (g.2.1 lk)), (2, .int 0)], [], M)) rfl rfl rfl ?_
  have L_2 : ∀ (n_2 : Nat) (i2_2 : Int32) (M_2 : mi_H) (I_2 : rI) (R_2 : rR), (2147483648 - i2_2.toInt).toNat ≤ n_2 → RS g m0 q z I_2 R_2 M_2 → eqI [] I I_2 → eqR [2] R R_2 → (0 ≤ i2_2.toInt ∧ i2_2.toInt ≤ (xe_lt lk).2.2.2.length ∧ CUe i2_2.toInt.toNat R_2) → ml (mT g) d (mb_246 g).2 (2, [(0, .ref m0), (1, .ref (g.2.1 lk)), (2, .int i2_2)], [], M_2) (fun v M' => ∃ (x : Int32) (I' : rI) (R' : rR), v = some (.int x) ∧ RS g m0 q z I' R' M' ∧ eqI [3, 8] I I' ∧ eqR [1, 2, 4, 5, 6, 7] R R' ∧ SZ S cN (xe_lt lk).2.2.2.length x I' R') := by
    intro n_2
    induction n_2 with
    | zero => intro i2_2 M_2 I_2 R_2 hn; exact (loop_zero hn).elim
    | succ n_2 ih_2 =>
      intro i2_2 M_2 I_2 R_2 hn_2 hR_2 hI_2 hV_2 hi_2
      refine ml_blk 2 (S' := (4, [(0, .ref m0), (1, .ref (g.2.1 lk)), (2, .int i2_2)], [.ref (g.2.1 lk), .int i2_2], M_2)) rfl ?_
      obtain ⟨fl11, hl12⟩ := hR_2.2.2.2.2.2 lk hlk
      refine ml_slen (lk := lk) (S' := (7, [(0, .ref m0), (1, .ref (g.2.1 lk)), (2, .int i2_2)], [.int (nI (xe_lt lk).2.2.2.length), .int i2_2], M_2)) rfl hl12 hlk.2 rfl rfl ?_
      refine ml_if2 (S1 := (27, [(0, .ref m0), (1, .ref (g.2.1 lk)), (2, .int i2_2)], [], M_2)) (S2 := (10, [(0, .ref m0), (1, .ref (g.2.1 lk)), (2, .int i2_2)], [], M_2)) rfl rfl rfl (fun c_7 => ?_) (fun c_7 => ?_)
      · have c_7 : (nI (xe_lt lk).2.2.2.length) ≤ i2_2 := of_decide_eq_true c_7
        have hle : ((xe_lt lk).2.2.2.length : Int) ≤ i2_2.toInt := by have := i_le c_7; rw [nI_val (by omega)] at this; exact this
        have hcu : CUe (xe_lt lk).2.2.2.length R_2 := fun j hj => hi_2.2.2 j (by omega)
        have hUx := hcu.known (I := I_2)
        refine ml_blk 2 (S' := (29, [(0, .ref m0), (1, .ref (g.2.1 lk)), (2, .int i2_2)], [.ref (g.2.1 lk), .ref m0], M_2)) rfl ?_
        obtain ⟨fl13, hl14⟩ := hR_2.2.2.2.2.2 lk hlk
        refine ml_slen (lk := lk) (S' := (32, [(0, .ref m0), (1, .ref (g.2.1 lk)), (2, .int i2_2)], [.int (nI (xe_lt lk).2.2.2.length), .ref m0], M_2)) rfl hl14 hlk.2 rfl rfl ?_
        have hZ15 : SYM S cN I_2 R_2 := (hZ.mono (cIx hI_2 (by decide)) (cRx hV_2 (by decide)))
        refine ml_call (a := [.ref m0, .int (nI (xe_lt lk).2.2.2.length)]) (rest := []) rfl (hR_2.okc rfl rfl rfl) rfl rfl (rz_symbol hR_2 hZ15 hUx (nI_val (by omega)) (hroom) (hS) (by omega)) (fun v16 M17 h18 => ?_)
        obtain ⟨u24, I19, R20, rfl, hR21, hI22, hV23, w25⟩ := h18
        show ml _ _ _ (35, [(0, .ref m0), (1, .ref (g.2.1 lk)), (2, .int i2_2)], [.int u24], M17) _
        exact ml_ret rfl (rfl) (⟨_, _, _, rfl, hR21, ((eqI.rf.tr hI_2 (by decide)).tr hI22 (by decide)), ((eqR.rf.tr hV_2 (by decide)).tr hV23 (by decide)), w25⟩)
      · have c_7 : ¬ ((nI (xe_lt lk).2.2.2.length) ≤ i2_2) := of_decide_eq_false c_7
        refine ml_st (S' := (11, [(0, .ref m0), (1, .ref (g.2.1 lk)), (2, .int i2_2)], [.ref m0], M_2)) rfl rfl rfl ?_
        refine rg_ref (S' := (14, [(0, .ref m0), (1, .ref (g.2.1 lk)), (2, .int i2_2)], [.ref (q 2)], M_2)) rfl hR_2 rfl rfl ?_
        refine ml_blk 3 (S' := (17, [(0, .ref m0), (1, .ref (g.2.1 lk)), (2, .int i2_2)], [.int i2_2, .ref (g.2.1 lk), .int i2_2, .ref (q 2)], M_2)) rfl ?_
        obtain ⟨fl26, hl27⟩ := hR_2.2.2.2.2.2 lk hlk
        refine ml_scat (lk := lk) (S' := (20, [(0, .ref m0), (1, .ref (g.2.1 lk)), (2, .int i2_2)], [.int (xe_ch lk (Int32.toNatClampNeg i2_2)), .int i2_2, .ref (q 2)], M_2)) rfl hl27 hlk.2 rfl (nlt0 hi_2.1) (by have q := i_nle c_7; rw [nI_val (by omega)] at q; show i2_2.toInt.toNat < _; have := hi_2.1; omega) rfl ?_
        have hlt : i2_2.toInt < (xe_lt lk).2.2.2.length := by have := i_nle c_7; rw [nI_val (by omega)] at this; exact this
        have hn1 : (i2_2 + 1).toInt = i2_2.toInt + 1 := inc_lt (Int32.not_le.mp c_7)
        refine ra_st (k := 2) rfl hR_2 rfl (vin_lt hi_2.1 (by omega)) (fun M28 R29 hR30 e31 g32 f33 => ?_)
        show ml _ _ _ (21, [(0, .ref m0), (1, .ref (g.2.1 lk)), (2, .int i2_2)], [], M28) _
        refine ml_st (S' := (24, [(2, .int (i2_2 + 1)), (0, .ref m0), (1, .ref (g.2.1 lk))], [], M28)) rfl rfl rfl ?_
        refine ml_st (S' := (2, [(0, .ref m0), (1, .ref (g.2.1 lk)), (2, .int (i2_2 + 1))], [], M28)) rfl rfl rfl ?_
        exact ih_2 (i2_2 + 1) _ _ _ (loop_inc (Int32.not_le.mp c_7) hn_2) hR30 (eqI.rf.tr hI_2 (by decide)) ((eqR.rf.tr hV_2 (by decide)).put f33 (by decide)) (⟨by have := hi_2.1; omega, by omega, hi_2.2.2.put hi_2.1 e31 (ch16_vn _) g32 hn1⟩)
  exact L_2 _ 0 _ _ _ (Nat.le_refl _) hR eqI.rf eqR.rf (⟨by decide, by show (0 : Int) ≤ _; omega, fun j hj => absurd hj (Nat.not_lt_zero j)⟩)
set_option maxHeartbeats 2000000 in
theorem rm_clear {g : xe_G}  {m0 : Nat} {q : Nat → Nat} {z : Nat × Nat} {I : rI} {R : rR} {M : mi_H}  (hR : RS g m0 q z I R M) {d : Nat} (hd : 3 ≤ d) : mt (mT g) d 195 [.ref m0] M (fun v M' => v = none ∧ ∃ (I' : rI) (R' : rR), RS g m0 q z I' R' M' ∧ eqI [3, 8, 9, 10, 11, 20, 25, 26] I I' ∧ eqR [1, 2, 4, 5, 6, 7] R R' ∧ ∃ S cN : Nat, SYM S cN I' R' ∧ S ≤ 3 ∧ cN ≤ 30 ∧ (∃ a, I' 9 = some a) ∧ (∃ a, I' 10 = some a) ∧ (∃ a, I' 11 = some a) ∧ I' 20 = some 0 ∧ I' 25 = some 0 ∧ I' 26 = some 0) := by
  obtain ⟨d, rfl⟩ : ∃ e, d = e + 1 := ⟨d - 1, by omega⟩
  refine mt_in (b := mb_195 g) rfl rfl ?_
  show ml (mT g) d (mb_195 g).2 (0, [(0, .ref m0)], [], M) _
  refine ml_blk 2 (S' := (2, [(0, .ref m0)], [.int 0, .ref m0], M)) rfl ?_
  refine rp_int rfl hR rfl (fun M11 I12 hR13 e14 f15 => ?_)
  show ml _ _ _ (5, [(0, .ref m0)], [], M11) _
  refine ml_blk 2 (S' := (7, [(0, .ref m0)], [.int 0, .ref m0], M11)) rfl ?_
  refine rp_int rfl hR13 rfl (fun M16 I17 hR18 e19 f20 => ?_)
  show ml _ _ _ (10, [(0, .ref m0)], [], M16) _
  refine ml_st (S' := (11, [(0, .ref m0)], [.int 0], M16)) rfl rfl rfl ?_
  refine ml_st (S' := (12, [(0, .ref m0), (1, .int 0)], [], M16)) rfl rfl rfl ?_
  have L_12 : ∀ (n_12 : Nat) (i12_1 : Int32) (M_12 : mi_H) (I_12 : rI) (R_12 : rR), (2147483648 - i12_1.toInt).toNat ≤ n_12 → RS g m0 q z I_12 R_12 M_12 → eqI [] I17 I_12 → eqR [7] R R_12 → (0 ≤ i12_1.toInt ∧ i12_1.toInt ≤ 4096 ∧ ∀ j, j < i12_1.toInt.toNat → R_12 7 j = some (-1)) → ml (mT g) d (mb_195 g).2 (12, [(0, .ref m0), (1, .int i12_1)], [], M_12) (fun v M' => v = none ∧ ∃ (I' : rI) (R' : rR), RS g m0 q z I' R' M' ∧ eqI [3, 8, 9, 10, 11, 20, 25, 26] I I' ∧ eqR [1, 2, 4, 5, 6, 7] R R' ∧ ∃ S cN : Nat, SYM S cN I' R' ∧ S ≤ 3 ∧ cN ≤ 30 ∧ (∃ a, I' 9 = some a) ∧ (∃ a, I' 10 = some a) ∧ (∃ a, I' 11 = some a) ∧ I' 20 = some 0 ∧ I' 25 = some 0 ∧ I' 26 = some 0) := by
    intro n_12
    induction n_12 with
    | zero => intro i12_1 M_12 I_12 R_12 hn; exact (loop_zero hn).elim
    | succ n_12 ih_12 =>
      intro i12_1 M_12 I_12 R_12 hn_12 hR_12 hI_12 hV_12 hi_12
      obtain ⟨hk0, hk1, hkh⟩ := hi_12
      refine ml_blk 2 (S' := (16, [(0, .ref m0), (1, .int i12_1)], [.int 4096, .int i12_1], M_12)) rfl ?_
      refine ml_if2 (S1 := (32, [(0, .ref m0), (1, .int i12_1)], [], M_12)) (S2 := (19, [(0, .ref m0), (1, .int i12_1)], [], M_12)) rfl rfl rfl (fun c_16 => ?_) (fun c_16 => ?_)
      · have c_16 : 4096 ≤ i12_1 := of_decide_eq_true c_16
        have hlen25 : (xe_lt 25).2.2.2.length = 6 := rfl
        have hlen26 : (xe_lt 26).2.2.2.length = 8 := rfl
        have hlen27 : (xe_lt 27).2.2.2.length = 16 := rfl
        have h4096 : (4096 : Int32).toInt = 4096 := rfl
        have hge := i_le c_16
        have hZ0 : SYM 0 0 I_12 R_12 := ⟨fun _ => 0, fun _ => 0, fun _ => 0, fun _ => -1, fun _ => 0, ⟨(hI_12 8 (by decide)).trans (e19), (hI_12 3 (by decide)).trans ((f20 3 (by decide)).trans (e14)), by omega, by omega, fun s hs => absurd hs (Nat.not_lt_zero s), fun i hi => absurd hi (Nat.not_lt_zero i)⟩, fun h hh => ⟨hkh h (by omega), by show (-1 : Int) ≤ (-1 : Int32).toInt; decide, by show (-1 : Int32).toInt < ((0 : Nat) : Int); decide⟩, fun s hs => absurd hs (Nat.not_lt_zero s)⟩
        refine ml_blk 3 (S' := (36, [(0, .ref m0), (1, .int i12_1)], [.ref (g.2.1 25), .ref m0, .ref m0], M_12)) rfl ?_
        refine ml_call (a := [.ref m0, .ref (g.2.1 25)]) (rest := [.ref m0]) rfl (hR_12.okc rfl rfl rfl) rfl rfl (rm_symbolS hR_12 hZ0 (by decide) (by have h9 : (xe_lt 25).2.2.2.length = 6 := rfl; omega) (by omega) (by omega)) (fun v21 M22 h23 => ?_)
        obtain ⟨u29, I24, R25, rfl, hR26, hI27, hV28, w30⟩ := h23
        show ml _ _ _ (39, [(0, .ref m0), (1, .int i12_1)], [.int u29, .ref m0], M22) _
        obtain ⟨S1, c1, hz1, hx0_1, hx1_1, hs0_1, hs1_1, hc0_1, hc1_1⟩ := w30
        refine rp_int rfl hR26 rfl (fun M31 I32 hR33 e34 f35 => ?_)
        show ml _ _ _ (42, [(0, .ref m0), (1, .int i12_1)], [], M31) _
        refine ml_blk 3 (S' := (46, [(0, .ref m0), (1, .int i12_1)], [.ref (g.2.1 26), .ref m0, .ref m0], M31)) rfl ?_
        have hZ36 : SYM S1 c1 I32 R25 := (hz1.mono (pIx f35 (by decide)) (fun _ _ => rfl))
        refine ml_call (a := [.ref m0, .ref (g.2.1 26)]) (rest := [.ref m0]) rfl (hR33.okc rfl rfl rfl) rfl rfl (rm_symbolS hR33 hZ36 (by decide) (by have h9 : (xe_lt 26).2.2.2.length = 8 := rfl; omega) (by omega) (by omega)) (fun v37 M38 h39 => ?_)
        obtain ⟨u45, I40, R41, rfl, hR42, hI43, hV44, w46⟩ := h39
        show ml _ _ _ (49, [(0, .ref m0), (1, .int i12_1)], [.int u45, .ref m0], M38) _
        obtain ⟨S2, c2, hz2, hx0_2, hx1_2, hs0_2, hs1_2, hc0_2, hc1_2⟩ := w46
        refine rp_int rfl hR42 rfl (fun M47 I48 hR49 e50 f51 => ?_)
        show ml _ _ _ (52, [(0, .ref m0), (1, .int i12_1)], [], M47) _
        refine ml_blk 3 (S' := (56, [(0, .ref m0), (1, .int i12_1)], [.ref (g.2.1 27), .ref m0, .ref m0], M47)) rfl ?_
        have hZ52 : SYM S2 c2 I48 R41 := (hz2.mono (pIx f51 (by decide)) (fun _ _ => rfl))
        refine ml_call (a := [.ref m0, .ref (g.2.1 27)]) (rest := [.ref m0]) rfl (hR49.okc rfl rfl rfl) rfl rfl (rm_symbolS hR49 hZ52 (by decide) (by have h9 : (xe_lt 27).2.2.2.length = 16 := rfl; omega) (by omega) (by omega)) (fun v53 M54 h55 => ?_)
        obtain ⟨u61, I56, R57, rfl, hR58, hI59, hV60, w62⟩ := h55
        show ml _ _ _ (59, [(0, .ref m0), (1, .int i12_1)], [.int u61, .ref m0], M54) _
        obtain ⟨S3, c3, hz3, hx0_3, hx1_3, hs0_3, hs1_3, hc0_3, hc1_3⟩ := w62
        refine rp_int rfl hR58 rfl (fun M63 I64 hR65 e66 f67 => ?_)
        show ml _ _ _ (62, [(0, .ref m0), (1, .int i12_1)], [], M63) _
        refine ml_blk 2 (S' := (64, [(0, .ref m0), (1, .int i12_1)], [.int 0, .ref m0], M63)) rfl ?_
        refine rp_int rfl hR65 rfl (fun M68 I69 hR70 e71 f72 => ?_)
        show ml _ _ _ (67, [(0, .ref m0), (1, .int i12_1)], [], M68) _
        refine ml_blk 2 (S' := (69, [(0, .ref m0), (1, .int i12_1)], [.int 0, .ref m0], M68)) rfl ?_
        refine rp_int rfl hR70 rfl (fun M73 I74 hR75 e76 f77 => ?_)
        show ml _ _ _ (72, [(0, .ref m0), (1, .int i12_1)], [], M73) _
        refine ml_blk 2 (S' := (74, [(0, .ref m0), (1, .int i12_1)], [.int 0, .ref m0], M73)) rfl ?_
        refine rp_int rfl hR75 rfl (fun M78 I79 hR80 e81 f82 => ?_)
        show ml _ _ _ (77, [(0, .ref m0), (1, .int i12_1)], [], M78) _
        have hZ83 : SYM S3 c3 I79 R57 := ((((hz3.mono (pIx f67 (by decide)) (fun _ _ => rfl)).mono (pIx f72 (by decide)) (fun _ _ => rfl)).mono (pIx f77 (by decide)) (fun _ _ => rfl)).mono (pIx f82 (by decide)) (fun _ _ => rfl))
        exact ml_ret rfl (rfl) (⟨rfl, _, _, hR80, ((((((((((((eqI.rf.put f15 (by decide)).put f20 (by decide)).tr hI_12 (by decide)).tr hI27 (by decide)).put f35 (by decide)).tr hI43 (by decide)).put f51 (by decide)).tr hI59 (by decide)).put f67 (by decide)).put f72 (by decide)).put f77 (by decide)).put f82 (by decide)), ((((eqR.rf.tr hV_12 (by decide)).tr hV28 (by decide)).tr hV44 (by decide)).tr hV60 (by decide)), ⟨_, _, hZ83, by omega, by have h1 : (xe_lt 25).2.2.2.length = 6 := rfl; have h2 : (xe_lt 26).2.2.2.length = 8 := rfl; have h3 : (xe_lt 27).2.2.2.length = 16 := rfl; omega, ⟨_, (f82 9 (by decide)).trans ((f77 9 (by decide)).trans ((f72 9 (by decide)).trans ((f67 9 (by decide)).trans ((hI59 9 (by decide)).trans ((f51 9 (by decide)).trans ((hI43 9 (by decide)).trans (e34)))))))⟩, ⟨_, (f82 10 (by decide)).trans ((f77 10 (by decide)).trans ((f72 10 (by decide)).trans ((f67 10 (by decide)).trans ((hI59 10 (by decide)).trans (e50)))))⟩, ⟨_, (f82 11 (by decide)).trans ((f77 11 (by decide)).trans ((f72 11 (by decide)).trans (e66)))⟩, (f82 20 (by decide)).trans ((f77 20 (by decide)).trans (e71)), (f82 25 (by decide)).trans (e76), e81⟩⟩)
      · have c_16 : ¬ (4096 ≤ i12_1) := of_decide_eq_false c_16
        refine ml_st (S' := (20, [(0, .ref m0), (1, .int i12_1)], [.ref m0], M_12)) rfl rfl rfl ?_
        refine rg_ref (S' := (23, [(0, .ref m0), (1, .int i12_1)], [.ref (q 7)], M_12)) rfl hR_12 rfl rfl ?_
        refine ml_blk 2 (S' := (25, [(0, .ref m0), (1, .int i12_1)], [.int (-1), .int i12_1, .ref (q 7)], M_12)) rfl ?_
        have hlt : i12_1.toInt < 4096 := i_nle c_16
        have hn1 : (i12_1 + 1).toInt = i12_1.toInt + 1 := inc_lt (Int32.not_le.mp c_16)
        refine ra_st (k := 7) rfl hR_12 rfl (vin_lt hk0 (by omega)) (fun M84 R85 hR86 e87 g88 f89 => ?_)
        show ml _ _ _ (26, [(0, .ref m0), (1, .int i12_1)], [], M84) _
        refine ml_st (S' := (29, [(1, .int (i12_1 + 1)), (0, .ref m0)], [], M84)) rfl rfl rfl ?_
        refine ml_st (S' := (12, [(0, .ref m0), (1, .int (i12_1 + 1))], [], M84)) rfl rfl rfl ?_
        exact ih_12 (i12_1 + 1) _ _ _ (loop_inc (Int32.not_le.mp c_16) hn_12) hR86 (eqI.rf.tr hI_12 (by decide)) ((eqR.rf.tr hV_12 (by decide)).put f89 (by decide)) (⟨by omega, by omega, fun j hj => by by_cases e9 : j = i12_1.toInt.toNat; (subst e9; exact e87); (rw [g88 _ e9]; exact hkh j (by omega))⟩)
  exact L_12 _ 0 _ _ _ (Nat.le_refl _) hR18 eqI.rf eqR.rf (⟨by decide, by decide, fun j hj => absurd hj (Nat.not_lt_zero j)⟩)
set_option maxHeartbeats 2000000 in
theorem rm_utf8 {g : xe_G}  {m0 : Nat} {q : Nat → Nat} {z : Nat × Nat} {I : rI} {R : rR} {M : mi_H} {x1 x2 x3 : Int32} {n : Nat} {f : Nat → Int32} {S cN : Nat}  (hR : RS g m0 q z I R M) (hF : FK n f I R) (hZ : SYM S cN I R) (h10 : 0 ≤ x1.toInt) (h11 : x1.toInt < 65540) (h20 : 0 ≤ x2.toInt) (h30 : 0 ≤ x3.toInt) (hfn : x2.toInt + x3.toInt ≤ n) (hroom : (cN : Int) + x3.toInt ≤ 66000) (hS : S < 24000) {d : Nat} (hd : 2 ≤ d) : mt (mT g) d 253 [.ref m0, .int x1, .int x2, .int x3] M (fun v M' => ∃ (x : Int32) (I' : rI) (R' : rR), v = some (.int x) ∧ RS g m0 q z I' R' M' ∧ eqI [3, 8, 47, 48] I I' ∧ eqR [1, 2, 4, 5, 6, 7, 22] R R' ∧ (x = 0 ∨ x = 1) ∧ (x = 0 ∨ ∃ S' cN' : Nat, SYM S' cN' I' R' ∧ S ≤ S' ∧ S' ≤ S + 1 ∧ (cN' : Int) ≤ cN + x3.toInt ∧ (∃ sy, R' 22 x1.toNatClampNeg = some sy ∧ 0 ≤ sy.toInt ∧ sy.toInt < S') ∧ ∀ b, b ≠ x1.toNatClampNeg → R' 22 b = R 22 b)) := by
  obtain ⟨d, rfl⟩ : ∃ e, d = e + 1 := ⟨d - 1, by omega⟩
  refine mt_in (b := mb_253 g) rfl rfl ?_
  show ml (mT g) d (mb_253 g).2 (0, [(0, .ref m0), (1, .int x1), (2, .int x2), (3, .int x3)], [], M) _
  have hn := hF.1
  have ee : (x2 + x3).toInt = x2.toInt + x3.toInt := i_add (by omega) (by omega)
  refine ml_st (S' := (1, [(0, .ref m0), (1, .int x1), (2, .int x2), (3, .int x3)], [.int 0], M)) rfl rfl rfl ?_
  refine ml_st (S' := (3, [(4, .int 0), (0, .ref m0), (1, .int x1), (2, .int x2), (3, .int x3)], [], M)) rfl rfl rfl ?_
  refine ml_st (S' := (4, [(4, .int 0), (0, .ref m0), (1, .int x1), (2, .int x2), (3, .int x3)], [.int x2], M)) rfl rfl rfl ?_
  refine ml_st (S' := (6, [(5, .int x2), (4, .int 0), (0, .ref m0), (1, .int x1), (2, .int x2), (3, .int x3)], [], M)) rfl rfl rfl ?_
  refine ml_blk 3 (S' := (9, [(5, .int x2), (4, .int 0), (0, .ref m0), (1, .int x1), (2, .int x2), (3, .int x3)], [.int (x2 + x3)], M)) rfl ?_
  refine ml_st (S' := (11, [(0, .ref m0), (1, .int x1), (4, .int 0), (5, .int x2), (6, .int (x2 + x3))], [], M)) rfl rfl rfl ?_
  have L_11 : ∀ (n_11 : Nat) (i11_4 : Int32) (i11_5 : Int32) (M_11 : mi_H) (I_11 : rI) (R_11 : rR), (2147483648 - i11_5.toInt).toNat ≤ n_11 → RS g m0 q z I_11 R_11 M_11 → eqI [] I I_11 → eqR [2] R R_11 → (x2.toInt ≤ i11_5.toInt ∧ i11_5.toInt ≤ x2.toInt + x3.toInt ∧ 0 ≤ i11_4.toInt ∧ i11_4.toInt ≤ i11_5.toInt - x2.toInt ∧ CUe i11_4.toInt.toNat R_11) → ml (mT g) d (mb_253 g).2 (11, [(0, .ref m0), (1, .int x1), (4, .int i11_4), (5, .int i11_5), (6, .int (x2 + x3))], [], M_11) (fun v M' => ∃ (x : Int32) (I' : rI) (R' : rR), v = some (.int x) ∧ RS g m0 q z I' R' M' ∧ eqI [3, 8, 47, 48] I I' ∧ eqR [1, 2, 4, 5, 6, 7, 22] R R' ∧ (x = 0 ∨ x = 1) ∧ (x = 0 ∨ ∃ S' cN' : Nat, SYM S' cN' I' R' ∧ S ≤ S' ∧ S' ≤ S + 1 ∧ (cN' : Int) ≤ cN + x3.toInt ∧ (∃ sy, R' 22 x1.toNatClampNeg = some sy ∧ 0 ≤ sy.toInt ∧ sy.toInt < S') ∧ ∀ b, b ≠ x1.toNatClampNeg → R' 22 b = R 22 b)) := by
    intro n_11
    induction n_11 with
    | zero => intro i11_4 i11_5 M_11 I_11 R_11 hn; exact (loop_zero hn).elim
    | succ n_11 ih_11 =>
      intro i11_4 i11_5 M_11 I_11 R_11 hn_11 hR_11 hI_11 hV_11 hi_11
      obtain ⟨hp0, hp1, hm0, hm1, hcu⟩ := hi_11
      refine ml_blk 2 (S' := (15, [(0, .ref m0), (1, .int x1), (4, .int i11_4), (5, .int i11_5), (6, .int (x2 + x3))], [.int (x2 + x3), .int i11_5], M_11)) rfl ?_
      refine ml_if2 (S1 := (242, [(0, .ref m0), (1, .int x1), (4, .int i11_4), (5, .int i11_5), (6, .int (x2 + x3))], [], M_11)) (S2 := (18, [(0, .ref m0), (1, .int x1), (4, .int i11_4), (5, .int i11_5), (6, .int (x2 + x3))], [], M_11)) rfl rfl rfl (fun c_15 => ?_) (fun c_15 => ?_)
      · have c_15 : (x2 + x3) ≤ i11_5 := of_decide_eq_true c_15
        have hU9 := hcu.known (I := I_11)
        refine ml_st (S' := (243, [(0, .ref m0), (1, .int x1), (4, .int i11_4), (5, .int i11_5), (6, .int (x2 + x3))], [.ref m0], M_11)) rfl rfl rfl ?_
        refine rg_ref (S' := (246, [(0, .ref m0), (1, .int x1), (4, .int i11_4), (5, .int i11_5), (6, .int (x2 + x3))], [.ref (q 22)], M_11)) rfl hR_11 rfl rfl ?_
        refine ml_blk 3 (S' := (250, [(0, .ref m0), (1, .int x1), (4, .int i11_4), (5, .int i11_5), (6, .int (x2 + x3))], [.int i11_4, .ref m0, .int x1, .ref (q 22)], M_11)) rfl ?_
        have hZ11 : SYM S cN I_11 R_11 := (hZ.mono (cIx hI_11 (by decide)) (cRx hV_11 (by decide)))
        refine ml_call (a := [.ref m0, .int i11_4]) (rest := [.int x1, .ref (q 22)]) rfl (hR_11.okc rfl rfl rfl) rfl rfl (rz_symbol hR_11 hZ11 hU9 (by show i11_4.toInt = ((i11_4.toInt.toNat : Nat) : Int); omega) (by omega) (hS) (by omega)) (fun v12 M13 h14 => ?_)
        obtain ⟨u20, I15, R16, rfl, hR17, hI18, hV19, w21⟩ := h14
        show ml _ _ _ (253, [(0, .ref m0), (1, .int x1), (4, .int i11_4), (5, .int i11_5), (6, .int (x2 + x3))], [.int u20, .int x1, .ref (q 22)], M13) _
        obtain ⟨S9, c9, hz9, hx0, hx1, hs0, hs1, hc0, hc1⟩ := w21
        refine ra_st (k := 22) rfl hR17 rfl (vin_lt h10 h11) (fun M22 R23 hR24 e25 g26 f27 => ?_)
        show ml _ _ _ (254, [(0, .ref m0), (1, .int x1), (4, .int i11_4), (5, .int i11_5), (6, .int (x2 + x3))], [], M22) _
        refine ml_st (S' := (255, [(0, .ref m0), (1, .int x1), (4, .int i11_4), (5, .int i11_5), (6, .int (x2 + x3))], [.int 1], M22)) rfl rfl rfl ?_
        have hZ28 : SYM S9 c9 I15 R23 := (hz9.mono (fun _ _ => rfl) (pRx f27 (by decide)))
        exact ml_ret rfl (r_z (Or.inr rfl)) (⟨_, _, _, rfl, hR24, ((eqI.rf.tr hI_11 (by decide)).tr hI18 (by decide)), (((eqR.rf.tr hV_11 (by decide)).tr hV19 (by decide)).put f27 (by decide)), Or.inr rfl, Or.inr ⟨S9, c9, hZ28, hs0, hs1, by omega, ⟨_, e25, hx0, hx1⟩, fun b hb => (g26 b hb).trans (congrFun ((hV19 22 (by decide)).trans (hV_11 22 (by decide))) b)⟩⟩)
      · have c_15 : ¬ ((x2 + x3) ≤ i11_5) := of_decide_eq_false c_15
        have hlt := i_nle c_15
        refine ml_blk 2 (S' := (21, [(0, .ref m0), (1, .int x1), (4, .int i11_4), (5, .int i11_5), (6, .int (x2 + x3))], [.int i11_5, .ref m0], M_11)) rfl ?_
        have hF29 : FK n f I_11 R_11 := (hF.mono (cIx hI_11 (by decide)) (cRx hV_11 (by decide)))
        refine ml_call (a := [.ref m0, .int i11_5]) (rest := []) rfl (hR_11.okc rfl rfl rfl) rfl rfl (rm_u1 hR_11 hF29 (by omega) (by omega) (by omega)) (fun v30 M31 h32 => ?_)
        obtain ⟨rfl, h32⟩ := h32
        rw [h32]
        show ml _ _ _ (24, [(0, .ref m0), (1, .int x1), (4, .int i11_4), (5, .int i11_5), (6, .int (x2 + x3))], [.int (f1 f i11_5)], M_11) _
        refine ml_st (S' := (26, [(7, .int (f1 f i11_5)), (0, .ref m0), (1, .int x1), (4, .int i11_4), (5, .int i11_5), (6, .int (x2 + x3))], [], M_11)) rfl rfl rfl ?_
        refine ml_st (S' := (28, [(7, .int (f1 f i11_5)), (0, .ref m0), (1, .int x1), (4, .int i11_4), (5, .int i11_5), (6, .int (x2 + x3))], [.int (f1 f i11_5)], M_11)) rfl rfl rfl ?_
        refine ml_if (S1 := (55, [(0, .ref m0), (5, .int i11_5)], [], M_11)) (S2 := (31, [(7, .int (f1 f i11_5)), (0, .ref m0), (1, .int x1), (4, .int i11_4), (5, .int i11_5), (6, .int (x2 + x3))], [], M_11)) rfl rfl rfl (fun c_28 => ?_) (fun c_28 => ?_)
        · have c_28 : (f1 f i11_5) = 0 := of_decide_eq_true c_28
          refine ml_blk 3 (S' := (60, [(0, .ref m0), (5, .int i11_5)], [.int i11_5, .int 6, .ref m0], M_11)) rfl ?_
          refine ml_call (a := [.ref m0, .int 6, .int i11_5]) (rest := []) rfl (hR_11.okc rfl rfl rfl) rfl rfl (rm_wrong hR_11 (by omega)) (fun v33 M34 h35 => ?_)
          obtain ⟨u41, I36, R37, rfl, hR38, hI39, hV40, z42, w43⟩ := h35
          show ml _ _ _ (63, [(0, .ref m0), (5, .int i11_5)], [.int u41], M34) _
          exact ml_ret rfl (r_z (z42)) (⟨_, _, _, rfl, hR38, ((eqI.rf.tr hI_11 (by decide)).tr hI39 (by decide)), ((eqR.rf.tr hV_11 (by decide)).tr hV40 (by decide)), z42, Or.inl w43⟩)
        · have c_28 : ¬ ((f1 f i11_5) = 0) := of_decide_eq_false c_28
          refine ml_blk 2 (S' := (36, [(7, .int (f1 f i11_5)), (0, .ref m0), (1, .int x1), (4, .int i11_4), (5, .int i11_5), (6, .int (x2 + x3))], [.int 240, .int (f1 f i11_5)], M_11)) rfl ?_
          refine ml_if2 (S1 := (55, [(0, .ref m0), (5, .int i11_5)], [], M_11)) (S2 := (39, [(7, .int (f1 f i11_5)), (0, .ref m0), (1, .int x1), (4, .int i11_4), (5, .int i11_5), (6, .int (x2 + x3))], [], M_11)) rfl rfl rfl (fun c_36 => ?_) (fun c_36 => ?_)
          · have c_36 : 240 ≤ (f1 f i11_5) := of_decide_eq_true c_36
            refine ml_blk 3 (S' := (60, [(0, .ref m0), (5, .int i11_5)], [.int i11_5, .int 6, .ref m0], M_11)) rfl ?_
            refine ml_call (a := [.ref m0, .int 6, .int i11_5]) (rest := []) rfl (hR_11.okc rfl rfl rfl) rfl rfl (rm_wrong hR_11 (by omega)) (fun v44 M45 h46 => ?_)
            obtain ⟨u52, I47, R48, rfl, hR49, hI50, hV51, z53, w54⟩ := h46
            show ml _ _ _ (63, [(0, .ref m0), (5, .int i11_5)], [.int u52], M45) _
            exact ml_ret rfl (r_z (z53)) (⟨_, _, _, rfl, hR49, ((eqI.rf.tr hI_11 (by decide)).tr hI50 (by decide)), ((eqR.rf.tr hV_11 (by decide)).tr hV51 (by decide)), z53, Or.inl w54⟩)
          · have c_36 : ¬ (240 ≤ (f1 f i11_5)) := of_decide_eq_false c_36
            refine ml_blk 2 (S' := (44, [(7, .int (f1 f i11_5)), (0, .ref m0), (1, .int x1), (4, .int i11_4), (5, .int i11_5), (6, .int (x2 + x3))], [.int 128, .int (f1 f i11_5)], M_11)) rfl ?_
            have J_64 : ml (mT g) d (mb_253 g).2 (64, [(0, .ref m0), (1, .int x1), (4, .int i11_4), (5, .int i11_5), (6, .int (x2 + x3)), (7, .int (f1 f i11_5))], [], M_11) (fun v M' => ∃ (x : Int32) (I' : rI) (R' : rR), v = some (.int x) ∧ RS g m0 q z I' R' M' ∧ eqI [3, 8, 47, 48] I I' ∧ eqR [1, 2, 4, 5, 6, 7, 22] R R' ∧ (x = 0 ∨ x = 1) ∧ (x = 0 ∨ ∃ S' cN' : Nat, SYM S' cN' I' R' ∧ S ≤ S' ∧ S' ≤ S + 1 ∧ (cN' : Int) ≤ cN + x3.toInt ∧ (∃ sy, R' 22 x1.toNatClampNeg = some sy ∧ 0 ≤ sy.toInt ∧ sy.toInt < S') ∧ ∀ b, b ≠ x1.toNatClampNeg → R' 22 b = R 22 b)) := by
              refine ml_blk 2 (S' := (69, [(0, .ref m0), (1, .int x1), (4, .int i11_4), (5, .int i11_5), (6, .int (x2 + x3)), (7, .int (f1 f i11_5))], [.int 128, .int (f1 f i11_5)], M_11)) rfl ?_
              have J_89 : ∀ (s89_0 : Int32), (s89_0 = 0 ∨ s89_0 = 1 ∨ s89_0 = 2) → ml (mT g) d (mb_253 g).2 (89, [(0, .ref m0), (1, .int x1), (4, .int i11_4), (5, .int i11_5), (6, .int (x2 + x3)), (7, .int (f1 f i11_5))], [.int s89_0], M_11) (fun v M' => ∃ (x : Int32) (I' : rI) (R' : rR), v = some (.int x) ∧ RS g m0 q z I' R' M' ∧ eqI [3, 8, 47, 48] I I' ∧ eqR [1, 2, 4, 5, 6, 7, 22] R R' ∧ (x = 0 ∨ x = 1) ∧ (x = 0 ∨ ∃ S' cN' : Nat, SYM S' cN' I' R' ∧ S ≤ S' ∧ S' ≤ S + 1 ∧ (cN' : Int) ≤ cN + x3.toInt ∧ (∃ sy, R' 22 x1.toNatClampNeg = some sy ∧ 0 ≤ sy.toInt ∧ sy.toInt < S') ∧ ∀ b, b ≠ x1.toNatClampNeg → R' 22 b = R 22 b)) := by
                intro s89_0 hj_89
                refine ml_st (S' := (91, [(8, .int s89_0), (0, .ref m0), (1, .int x1), (4, .int i11_4), (5, .int i11_5), (6, .int (x2 + x3)), (7, .int (f1 f i11_5))], [], M_11)) rfl rfl rfl ?_
                refine ml_st (S' := (92, [(8, .int s89_0), (0, .ref m0), (1, .int x1), (4, .int i11_4), (5, .int i11_5), (6, .int (x2 + x3)), (7, .int (f1 f i11_5))], [.int 1], M_11)) rfl rfl rfl ?_
                refine ml_st (S' := (94, [(0, .ref m0), (1, .int x1), (4, .int i11_4), (5, .int i11_5), (6, .int (x2 + x3)), (7, .int (f1 f i11_5)), (8, .int s89_0), (9, .int 1)], [], M_11)) rfl rfl rfl ?_
                have L_94 : ∀ (n_94 : Nat) (i94_9 : Int32), (2147483648 - i94_9.toInt).toNat ≤ n_94 → (1 ≤ i94_9.toInt ∧ i94_9.toInt ≤ s89_0.toInt + 1 ∧ i11_5.toInt + i94_9.toInt - 1 < (x2 + x3).toInt) → ml (mT g) d (mb_253 g).2 (94, [(0, .ref m0), (1, .int x1), (4, .int i11_4), (5, .int i11_5), (6, .int (x2 + x3)), (7, .int (f1 f i11_5)), (8, .int s89_0), (9, .int i94_9)], [], M_11) (fun v M' => ∃ (x : Int32) (I' : rI) (R' : rR), v = some (.int x) ∧ RS g m0 q z I' R' M' ∧ eqI [3, 8, 47, 48] I I' ∧ eqR [1, 2, 4, 5, 6, 7, 22] R R' ∧ (x = 0 ∨ x = 1) ∧ (x = 0 ∨ ∃ S' cN' : Nat, SYM S' cN' I' R' ∧ S ≤ S' ∧ S' ≤ S + 1 ∧ (cN' : Int) ≤ cN + x3.toInt ∧ (∃ sy, R' 22 x1.toNatClampNeg = some sy ∧ 0 ≤ sy.toInt ∧ sy.toInt < S') ∧ ∀ b, b ≠ x1.toNatClampNeg → R' 22 b = R 22 b)) := by
                  intro n_94
                  induction n_94 with
                  | zero => intro i94_9 hn; exact (loop_zero hn).elim
                  | succ n_94 ih_94 =>
                    intro i94_9 hn_94 hi_94
                    obtain ⟨hq0, hq1, hq2⟩ := hi_94
                    refine ml_blk 2 (S' := (98, [(0, .ref m0), (1, .int x1), (4, .int i11_4), (5, .int i11_5), (6, .int (x2 + x3)), (7, .int (f1 f i11_5)), (8, .int s89_0), (9, .int i94_9)], [.int s89_0, .int i94_9], M_11)) rfl ?_
                    refine ml_if2 (S1 := (145, [(0, .ref m0), (1, .int x1), (4, .int i11_4), (5, .int i11_5), (6, .int (x2 + x3)), (7, .int (f1 f i11_5)), (8, .int s89_0), (9, .int i94_9)], [], M_11)) (S2 := (101, [(0, .ref m0), (1, .int x1), (4, .int i11_4), (5, .int i11_5), (6, .int (x2 + x3)), (7, .int (f1 f i11_5)), (8, .int s89_0), (9, .int i94_9)], [], M_11)) rfl rfl rfl (fun c_98 => ?_) (fun c_98 => ?_)
                    · have c_98 : s89_0 < i94_9 := of_decide_eq_true c_98
                      have hmo : s89_0.toInt ≤ 2 ∧ 0 ≤ s89_0.toInt := by rcases hj_89 with rfl | rfl | rfl <;> decide
                      have hq7 := i_lt c_98
                      have hmn : (i11_4 + 1).toInt = i11_4.toInt + 1 := i_add (by have : (1 : Int32).toInt = 1 := rfl; omega) (by have : (1 : Int32).toInt = 1 := rfl; omega)
                      have hmo1 : (s89_0 + 1).toInt = s89_0.toInt + 1 := i_add (by have : (1 : Int32).toInt = 1 := rfl; omega) (by have : (1 : Int32).toInt = 1 := rfl; omega)
                      have hpn : (i11_5 + (s89_0 + 1)).toInt = i11_5.toInt + s89_0.toInt + 1 := by rw [i_add (by omega) (by omega)]; omega
                      have hp_1 : (i11_5 + 1).toInt = i11_5.toInt + 1 := i_add (by have : (1 : Int32).toInt = 1 := rfl; omega) (by have : (1 : Int32).toInt = 1 := rfl; omega)
                      have hp_2 : (i11_5 + 2).toInt = i11_5.toInt + 2 := i_add (by have : (2 : Int32).toInt = 2 := rfl; omega) (by have : (2 : Int32).toInt = 2 := rfl; omega)
                      refine ml_st (S' := (146, [(0, .ref m0), (1, .int x1), (4, .int i11_4), (5, .int i11_5), (6, .int (x2 + x3)), (7, .int (f1 f i11_5)), (8, .int s89_0), (9, .int i94_9)], [.ref m0], M_11)) rfl rfl rfl ?_
                      refine rg_ref (S' := (149, [(0, .ref m0), (1, .int x1), (4, .int i11_4), (5, .int i11_5), (6, .int (x2 + x3)), (7, .int (f1 f i11_5)), (8, .int s89_0), (9, .int i94_9)], [.ref (q 2)], M_11)) rfl hR_11 rfl rfl ?_
                      refine ml_st (S' := (151, [(0, .ref m0), (1, .int x1), (4, .int i11_4), (5, .int i11_5), (6, .int (x2 + x3)), (7, .int (f1 f i11_5)), (8, .int s89_0), (9, .int i94_9)], [.int i11_4, .ref (q 2)], M_11)) rfl rfl rfl ?_
                      refine ml_st (S' := (154, [(4, .int (i11_4 + 1)), (0, .ref m0), (1, .int x1), (5, .int i11_5), (6, .int (x2 + x3)), (7, .int (f1 f i11_5)), (8, .int s89_0), (9, .int i94_9)], [.int i11_4, .ref (q 2)], M_11)) rfl rfl rfl ?_
                      refine ml_st (S' := (156, [(4, .int (i11_4 + 1)), (0, .ref m0), (1, .int x1), (5, .int i11_5), (6, .int (x2 + x3)), (7, .int (f1 f i11_5)), (8, .int s89_0), (9, .int i94_9)], [.int s89_0, .int i11_4, .ref (q 2)], M_11)) rfl rfl rfl ?_
                      refine ml_if (S1 := (164, [(4, .int (i11_4 + 1)), (0, .ref m0), (1, .int x1), (5, .int i11_5), (6, .int (x2 + x3)), (7, .int (f1 f i11_5)), (8, .int s89_0), (9, .int i94_9)], [.int i11_4, .ref (q 2)], M_11)) (S2 := (159, [(4, .int (i11_4 + 1)), (0, .ref m0), (1, .int x1), (5, .int i11_5), (6, .int (x2 + x3)), (7, .int (f1 f i11_5)), (8, .int s89_0), (9, .int i94_9)], [.int i11_4, .ref (q 2)], M_11)) rfl rfl rfl (fun c_156 => ?_) (fun c_156 => ?_)
                      · have c_156 : ¬ s89_0 = 0 := of_decide_eq_true c_156
                        refine ml_blk 2 (S' := (167, [(4, .int (i11_4 + 1)), (0, .ref m0), (1, .int x1), (5, .int i11_5), (6, .int (x2 + x3)), (7, .int (f1 f i11_5)), (8, .int s89_0), (9, .int i94_9)], [.int 1, .int s89_0, .int i11_4, .ref (q 2)], M_11)) rfl ?_
                        refine ml_if2 (S1 := (193, [(4, .int (i11_4 + 1)), (0, .ref m0), (1, .int x1), (5, .int i11_5), (6, .int (x2 + x3)), (7, .int (f1 f i11_5)), (8, .int s89_0), (9, .int i94_9)], [.int i11_4, .ref (q 2)], M_11)) (S2 := (170, [(4, .int (i11_4 + 1)), (0, .ref m0), (1, .int x1), (5, .int i11_5), (6, .int (x2 + x3)), (7, .int (f1 f i11_5)), (8, .int s89_0), (9, .int i94_9)], [.int i11_4, .ref (q 2)], M_11)) rfl rfl rfl (fun c_167 => ?_) (fun c_167 => ?_)
                        · have c_167 : ¬ s89_0 = 1 := of_decide_eq_true c_167
                          refine ml_blk 3 (S' := (198, [(4, .int (i11_4 + 1)), (0, .ref m0), (1, .int x1), (5, .int i11_5), (6, .int (x2 + x3)), (7, .int (f1 f i11_5)), (8, .int s89_0), (9, .int i94_9)], [.int ((f1 f i11_5) &&& 15), .int i11_4, .ref (q 2)], M_11)) rfl ?_
                          refine ml_blk 3 (S' := (202, [(4, .int (i11_4 + 1)), (0, .ref m0), (1, .int x1), (5, .int i11_5), (6, .int (x2 + x3)), (7, .int (f1 f i11_5)), (8, .int s89_0), (9, .int i94_9)], [.ref m0, .int (((f1 f i11_5) &&& 15) <<< (12 &&& 31)), .int i11_4, .ref (q 2)], M_11)) rfl ?_
                          refine ml_blk 3 (S' := (206, [(4, .int (i11_4 + 1)), (0, .ref m0), (1, .int x1), (5, .int i11_5), (6, .int (x2 + x3)), (7, .int (f1 f i11_5)), (8, .int s89_0), (9, .int i94_9)], [.int (i11_5 + 1), .ref m0, .int (((f1 f i11_5) &&& 15) <<< (12 &&& 31)), .int i11_4, .ref (q 2)], M_11)) rfl ?_
                          refine ml_call (a := [.ref m0, .int (i11_5 + 1)]) (rest := [.int (((f1 f i11_5) &&& 15) <<< (12 &&& 31)), .int i11_4, .ref (q 2)]) rfl (hR_11.okc rfl rfl rfl) rfl rfl (rm_u1 hR_11 hF29 (by omega) (by have h1 : s89_0.toInt = 2 := (by rcases hj_89 with q | q | q; exact absurd q c_156; exact absurd q c_167; (rw [q]; rfl)); omega) (by omega)) (fun v55 M56 h57 => ?_)
                          obtain ⟨rfl, h57⟩ := h57
                          rw [h57]
                          show ml _ _ _ (209, [(4, .int (i11_4 + 1)), (0, .ref m0), (1, .int x1), (5, .int i11_5), (6, .int (x2 + x3)), (7, .int (f1 f i11_5)), (8, .int s89_0), (9, .int i94_9)], [.int (f1 f (i11_5 + 1)), .int (((f1 f i11_5) &&& 15) <<< (12 &&& 31)), .int i11_4, .ref (q 2)], M_11) _
                          refine ml_blk 3 (S' := (214, [(4, .int (i11_4 + 1)), (0, .ref m0), (1, .int x1), (5, .int i11_5), (6, .int (x2 + x3)), (7, .int (f1 f i11_5)), (8, .int s89_0), (9, .int i94_9)], [.int 6, .int ((f1 f (i11_5 + 1)) &&& 63), .int (((f1 f i11_5) &&& 15) <<< (12 &&& 31)), .int i11_4, .ref (q 2)], M_11)) rfl ?_
                          refine ml_blk 3 (S' := (217, [(4, .int (i11_4 + 1)), (0, .ref m0), (1, .int x1), (5, .int i11_5), (6, .int (x2 + x3)), (7, .int (f1 f i11_5)), (8, .int s89_0), (9, .int i94_9)], [.ref m0, .int ((((f1 f i11_5) &&& 15) <<< (12 &&& 31)) ||| (((f1 f (i11_5 + 1)) &&& 63) <<< (6 &&& 31))), .int i11_4, .ref (q 2)], M_11)) rfl ?_
                          refine ml_blk 3 (S' := (221, [(4, .int (i11_4 + 1)), (0, .ref m0), (1, .int x1), (5, .int i11_5), (6, .int (x2 + x3)), (7, .int (f1 f i11_5)), (8, .int s89_0), (9, .int i94_9)], [.int (i11_5 + 2), .ref m0, .int ((((f1 f i11_5) &&& 15) <<< (12 &&& 31)) ||| (((f1 f (i11_5 + 1)) &&& 63) <<< (6 &&& 31))), .int i11_4, .ref (q 2)], M_11)) rfl ?_
                          refine ml_call (a := [.ref m0, .int (i11_5 + 2)]) (rest := [.int ((((f1 f i11_5) &&& 15) <<< (12 &&& 31)) ||| (((f1 f (i11_5 + 1)) &&& 63) <<< (6 &&& 31))), .int i11_4, .ref (q 2)]) rfl (hR_11.okc rfl rfl rfl) rfl rfl (rm_u1 hR_11 hF29 (by omega) (by have h1 : s89_0.toInt = 2 := (by rcases hj_89 with q | q | q; exact absurd q c_156; exact absurd q c_167; (rw [q]; rfl)); omega) (by omega)) (fun v58 M59 h60 => ?_)
                          obtain ⟨rfl, h60⟩ := h60
                          rw [h60]
                          show ml _ _ _ (224, [(4, .int (i11_4 + 1)), (0, .ref m0), (1, .int x1), (5, .int i11_5), (6, .int (x2 + x3)), (7, .int (f1 f i11_5)), (8, .int s89_0), (9, .int i94_9)], [.int (f1 f (i11_5 + 2)), .int ((((f1 f i11_5) &&& 15) <<< (12 &&& 31)) ||| (((f1 f (i11_5 + 1)) &&& 63) <<< (6 &&& 31))), .int i11_4, .ref (q 2)], M_11) _
                          refine ml_blk 3 (S' := (228, [(0, .ref m0), (1, .int x1), (4, .int (i11_4 + 1)), (5, .int i11_5), (6, .int (x2 + x3)), (8, .int s89_0)], [.int (((((f1 f i11_5) &&& 15) <<< (12 &&& 31)) ||| (((f1 f (i11_5 + 1)) &&& 63) <<< (6 &&& 31))) ||| ((f1 f (i11_5 + 2)) &&& 63)), .int i11_4, .ref (q 2)], M_11)) rfl ?_
                          refine ml_st (S' := (229, [(0, .ref m0), (1, .int x1), (4, .int (i11_4 + 1)), (5, .int i11_5), (6, .int (x2 + x3)), (8, .int s89_0)], [.int (((((((f1 f i11_5) &&& 15) <<< (12 &&& 31)) ||| (((f1 f (i11_5 + 1)) &&& 63) <<< (6 &&& 31))) ||| ((f1 f (i11_5 + 2)) &&& 63)).toUInt32 % 65536).toInt32), .int i11_4, .ref (q 2)], M_11)) rfl rfl rfl ?_
                          refine ra_st (k := 2) rfl hR_11 rfl (vin_lt hm0 (by omega)) (fun M61 R62 hR63 e64 g65 f66 => ?_)
                          show ml _ _ _ (230, [(0, .ref m0), (1, .int x1), (4, .int (i11_4 + 1)), (5, .int i11_5), (6, .int (x2 + x3)), (8, .int s89_0)], [], M61) _
                          refine ml_blk 3 (S' := (235, [(0, .ref m0), (1, .int x1), (4, .int (i11_4 + 1)), (5, .int i11_5), (6, .int (x2 + x3)), (8, .int s89_0)], [.int 1, .int s89_0, .int i11_5], M61)) rfl ?_
                          refine ml_blk 2 (S' := (237, [(0, .ref m0), (1, .int x1), (4, .int (i11_4 + 1)), (5, .int i11_5), (6, .int (x2 + x3)), (8, .int s89_0)], [.int (i11_5 + (s89_0 + 1))], M61)) rfl ?_
                          refine ml_st (S' := (239, [(5, .int (i11_5 + (s89_0 + 1))), (0, .ref m0), (1, .int x1), (4, .int (i11_4 + 1)), (6, .int (x2 + x3)), (8, .int s89_0)], [], M61)) rfl rfl rfl ?_
                          refine ml_st (S' := (11, [(0, .ref m0), (1, .int x1), (4, .int (i11_4 + 1)), (5, .int (i11_5 + (s89_0 + 1))), (6, .int (x2 + x3))], [], M61)) rfl rfl rfl ?_
                          exact ih_11 (i11_4 + 1) (i11_5 + (s89_0 + 1)) _ _ _ (by rw [hpn]; omega) hR63 (eqI.rf.tr hI_11 (by decide)) ((eqR.rf.tr hV_11 (by decide)).put f66 (by decide)) (⟨by rw [hpn]; omega, by rw [hpn]; omega, by omega, by rw [hpn]; omega, CUe.put (R := R_11) (hcu) hm0 e64 (ch16_vn _) g65 hmn⟩)
                        · have c_167 : ¬ (¬ s89_0 = 1) := of_decide_eq_false c_167
                          refine ml_blk 3 (S' := (175, [(4, .int (i11_4 + 1)), (0, .ref m0), (1, .int x1), (5, .int i11_5), (6, .int (x2 + x3)), (7, .int (f1 f i11_5)), (8, .int s89_0), (9, .int i94_9)], [.int ((f1 f i11_5) &&& 31), .int i11_4, .ref (q 2)], M_11)) rfl ?_
                          refine ml_blk 3 (S' := (179, [(4, .int (i11_4 + 1)), (0, .ref m0), (1, .int x1), (5, .int i11_5), (6, .int (x2 + x3)), (7, .int (f1 f i11_5)), (8, .int s89_0), (9, .int i94_9)], [.ref m0, .int (((f1 f i11_5) &&& 31) <<< (6 &&& 31)), .int i11_4, .ref (q 2)], M_11)) rfl ?_
                          refine ml_blk 3 (S' := (183, [(4, .int (i11_4 + 1)), (0, .ref m0), (1, .int x1), (5, .int i11_5), (6, .int (x2 + x3)), (7, .int (f1 f i11_5)), (8, .int s89_0), (9, .int i94_9)], [.int (i11_5 + 1), .ref m0, .int (((f1 f i11_5) &&& 31) <<< (6 &&& 31)), .int i11_4, .ref (q 2)], M_11)) rfl ?_
                          refine ml_call (a := [.ref m0, .int (i11_5 + 1)]) (rest := [.int (((f1 f i11_5) &&& 31) <<< (6 &&& 31)), .int i11_4, .ref (q 2)]) rfl (hR_11.okc rfl rfl rfl) rfl rfl (rm_u1 hR_11 hF29 (by omega) (by have h1 : s89_0.toInt = 1 := (by have q := Decidable.not_not.mp c_167; rw [q]; rfl); omega) (by omega)) (fun v67 M68 h69 => ?_)
                          obtain ⟨rfl, h69⟩ := h69
                          rw [h69]
                          show ml _ _ _ (186, [(4, .int (i11_4 + 1)), (0, .ref m0), (1, .int x1), (5, .int i11_5), (6, .int (x2 + x3)), (7, .int (f1 f i11_5)), (8, .int s89_0), (9, .int i94_9)], [.int (f1 f (i11_5 + 1)), .int (((f1 f i11_5) &&& 31) <<< (6 &&& 31)), .int i11_4, .ref (q 2)], M_11) _
                          refine ml_blk 3 (S' := (190, [(4, .int (i11_4 + 1)), (0, .ref m0), (1, .int x1), (5, .int i11_5), (6, .int (x2 + x3)), (7, .int (f1 f i11_5)), (8, .int s89_0), (9, .int i94_9)], [.int ((((f1 f i11_5) &&& 31) <<< (6 &&& 31)) ||| ((f1 f (i11_5 + 1)) &&& 63)), .int i11_4, .ref (q 2)], M_11)) rfl ?_
                          refine ml_st (S' := (228, [(0, .ref m0), (1, .int x1), (4, .int (i11_4 + 1)), (5, .int i11_5), (6, .int (x2 + x3)), (8, .int s89_0)], [.int ((((f1 f i11_5) &&& 31) <<< (6 &&& 31)) ||| ((f1 f (i11_5 + 1)) &&& 63)), .int i11_4, .ref (q 2)], M_11)) rfl rfl rfl ?_
                          refine ml_st (S' := (229, [(0, .ref m0), (1, .int x1), (4, .int (i11_4 + 1)), (5, .int i11_5), (6, .int (x2 + x3)), (8, .int s89_0)], [.int ((((((f1 f i11_5) &&& 31) <<< (6 &&& 31)) ||| ((f1 f (i11_5 + 1)) &&& 63)).toUInt32 % 65536).toInt32), .int i11_4, .ref (q 2)], M_11)) rfl rfl rfl ?_
                          refine ra_st (k := 2) rfl hR_11 rfl (vin_lt hm0 (by omega)) (fun M70 R71 hR72 e73 g74 f75 => ?_)
                          show ml _ _ _ (230, [(0, .ref m0), (1, .int x1), (4, .int (i11_4 + 1)), (5, .int i11_5), (6, .int (x2 + x3)), (8, .int s89_0)], [], M70) _
                          refine ml_blk 3 (S' := (235, [(0, .ref m0), (1, .int x1), (4, .int (i11_4 + 1)), (5, .int i11_5), (6, .int (x2 + x3)), (8, .int s89_0)], [.int 1, .int s89_0, .int i11_5], M70)) rfl ?_
                          refine ml_blk 2 (S' := (237, [(0, .ref m0), (1, .int x1), (4, .int (i11_4 + 1)), (5, .int i11_5), (6, .int (x2 + x3)), (8, .int s89_0)], [.int (i11_5 + (s89_0 + 1))], M70)) rfl ?_
                          refine ml_st (S' := (239, [(5, .int (i11_5 + (s89_0 + 1))), (0, .ref m0), (1, .int x1), (4, .int (i11_4 + 1)), (6, .int (x2 + x3)), (8, .int s89_0)], [], M70)) rfl rfl rfl ?_
                          refine ml_st (S' := (11, [(0, .ref m0), (1, .int x1), (4, .int (i11_4 + 1)), (5, .int (i11_5 + (s89_0 + 1))), (6, .int (x2 + x3))], [], M70)) rfl rfl rfl ?_
                          exact ih_11 (i11_4 + 1) (i11_5 + (s89_0 + 1)) _ _ _ (by rw [hpn]; omega) hR72 (eqI.rf.tr hI_11 (by decide)) ((eqR.rf.tr hV_11 (by decide)).put f75 (by decide)) (⟨by rw [hpn]; omega, by rw [hpn]; omega, by omega, by rw [hpn]; omega, CUe.put (R := R_11) (hcu) hm0 e73 (ch16_vn _) g74 hmn⟩)
                      · have c_156 : ¬ (¬ s89_0 = 0) := of_decide_eq_false c_156
                        refine ml_st (S' := (161, [(4, .int (i11_4 + 1)), (0, .ref m0), (1, .int x1), (5, .int i11_5), (6, .int (x2 + x3)), (7, .int (f1 f i11_5)), (8, .int s89_0), (9, .int i94_9)], [.int (f1 f i11_5), .int i11_4, .ref (q 2)], M_11)) rfl rfl rfl ?_
                        refine ml_st (S' := (228, [(0, .ref m0), (1, .int x1), (4, .int (i11_4 + 1)), (5, .int i11_5), (6, .int (x2 + x3)), (8, .int s89_0)], [.int (f1 f i11_5), .int i11_4, .ref (q 2)], M_11)) rfl rfl rfl ?_
                        refine ml_st (S' := (229, [(0, .ref m0), (1, .int x1), (4, .int (i11_4 + 1)), (5, .int i11_5), (6, .int (x2 + x3)), (8, .int s89_0)], [.int (((f1 f i11_5).toUInt32 % 65536).toInt32), .int i11_4, .ref (q 2)], M_11)) rfl rfl rfl ?_
                        refine ra_st (k := 2) rfl hR_11 rfl (vin_lt hm0 (by omega)) (fun M76 R77 hR78 e79 g80 f81 => ?_)
                        show ml _ _ _ (230, [(0, .ref m0), (1, .int x1), (4, .int (i11_4 + 1)), (5, .int i11_5), (6, .int (x2 + x3)), (8, .int s89_0)], [], M76) _
                        refine ml_blk 3 (S' := (235, [(0, .ref m0), (1, .int x1), (4, .int (i11_4 + 1)), (5, .int i11_5), (6, .int (x2 + x3)), (8, .int s89_0)], [.int 1, .int s89_0, .int i11_5], M76)) rfl ?_
                        refine ml_blk 2 (S' := (237, [(0, .ref m0), (1, .int x1), (4, .int (i11_4 + 1)), (5, .int i11_5), (6, .int (x2 + x3)), (8, .int s89_0)], [.int (i11_5 + (s89_0 + 1))], M76)) rfl ?_
                        refine ml_st (S' := (239, [(5, .int (i11_5 + (s89_0 + 1))), (0, .ref m0), (1, .int x1), (4, .int (i11_4 + 1)), (6, .int (x2 + x3)), (8, .int s89_0)], [], M76)) rfl rfl rfl ?_
                        refine ml_st (S' := (11, [(0, .ref m0), (1, .int x1), (4, .int (i11_4 + 1)), (5, .int (i11_5 + (s89_0 + 1))), (6, .int (x2 + x3))], [], M76)) rfl rfl rfl ?_
                        exact ih_11 (i11_4 + 1) (i11_5 + (s89_0 + 1)) _ _ _ (by rw [hpn]; omega) hR78 (eqI.rf.tr hI_11 (by decide)) ((eqR.rf.tr hV_11 (by decide)).put f81 (by decide)) (⟨by rw [hpn]; omega, by rw [hpn]; omega, by omega, by rw [hpn]; omega, CUe.put (R := R_11) (hcu) hm0 e79 (ch16_vn _) g80 hmn⟩)
                    · have c_98 : ¬ (s89_0 < i94_9) := of_decide_eq_false c_98
                      have hmo : s89_0.toInt ≤ 2 := by rcases hj_89 with rfl | rfl | rfl <;> decide
                      have hq4 : (i11_5 + i94_9).toInt = i11_5.toInt + i94_9.toInt := i_add (by omega) (by have := i_nlt c_98; omega)
                      have hq5 : (i94_9 + 1).toInt = i94_9.toInt + 1 := i_add (by have : (1 : Int32).toInt = 1 := rfl; omega) (by have : (1 : Int32).toInt = 1 := rfl; have := i_nlt c_98; omega)
                      refine ml_blk 3 (S' := (106, [(0, .ref m0), (1, .int x1), (4, .int i11_4), (5, .int i11_5), (6, .int (x2 + x3)), (7, .int (f1 f i11_5)), (8, .int s89_0), (9, .int i94_9)], [.int (i11_5 + i94_9)], M_11)) rfl ?_
                      refine ml_st (S' := (108, [(0, .ref m0), (1, .int x1), (4, .int i11_4), (5, .int i11_5), (6, .int (x2 + x3)), (7, .int (f1 f i11_5)), (8, .int s89_0), (9, .int i94_9)], [.int (x2 + x3), .int (i11_5 + i94_9)], M_11)) rfl rfl rfl ?_
                      refine ml_if2 (S1 := (130, [(0, .ref m0), (5, .int i11_5)], [], M_11)) (S2 := (111, [(0, .ref m0), (1, .int x1), (4, .int i11_4), (5, .int i11_5), (6, .int (x2 + x3)), (7, .int (f1 f i11_5)), (8, .int s89_0), (9, .int i94_9)], [], M_11)) rfl rfl rfl (fun c_108 => ?_) (fun c_108 => ?_)
                      · have c_108 : (x2 + x3) ≤ (i11_5 + i94_9) := of_decide_eq_true c_108
                        refine ml_blk 3 (S' := (135, [(0, .ref m0), (5, .int i11_5)], [.int i11_5, .int 6, .ref m0], M_11)) rfl ?_
                        refine ml_call (a := [.ref m0, .int 6, .int i11_5]) (rest := []) rfl (hR_11.okc rfl rfl rfl) rfl rfl (rm_wrong hR_11 (by omega)) (fun v82 M83 h84 => ?_)
                        obtain ⟨u90, I85, R86, rfl, hR87, hI88, hV89, z91, w92⟩ := h84
                        show ml _ _ _ (138, [(0, .ref m0), (5, .int i11_5)], [.int u90], M83) _
                        exact ml_ret rfl (r_z (z91)) (⟨_, _, _, rfl, hR87, ((eqI.rf.tr hI_11 (by decide)).tr hI88 (by decide)), ((eqR.rf.tr hV_11 (by decide)).tr hV89 (by decide)), z91, Or.inl w92⟩)
                      · have c_108 : ¬ ((x2 + x3) ≤ (i11_5 + i94_9)) := of_decide_eq_false c_108
                        refine ml_blk 3 (S' := (116, [(0, .ref m0), (1, .int x1), (4, .int i11_4), (5, .int i11_5), (6, .int (x2 + x3)), (7, .int (f1 f i11_5)), (8, .int s89_0), (9, .int i94_9)], [.int i94_9, .int i11_5, .ref m0], M_11)) rfl ?_
                        refine ml_st (S' := (117, [(0, .ref m0), (1, .int x1), (4, .int i11_4), (5, .int i11_5), (6, .int (x2 + x3)), (7, .int (f1 f i11_5)), (8, .int s89_0), (9, .int i94_9)], [.int (i11_5 + i94_9), .ref m0], M_11)) rfl rfl rfl ?_
                        refine ml_call (a := [.ref m0, .int (i11_5 + i94_9)]) (rest := []) rfl (hR_11.okc rfl rfl rfl) rfl rfl (rm_u1 hR_11 hF29 (by omega) (by have := i_nle c_108; omega) (by omega)) (fun v93 M94 h95 => ?_)
                        obtain ⟨rfl, h95⟩ := h95
                        rw [h95]
                        show ml _ _ _ (120, [(0, .ref m0), (1, .int x1), (4, .int i11_4), (5, .int i11_5), (6, .int (x2 + x3)), (7, .int (f1 f i11_5)), (8, .int s89_0), (9, .int i94_9)], [.int (f1 f (i11_5 + i94_9))], M_11) _
                        refine ml_blk 3 (S' := (127, [(0, .ref m0), (1, .int x1), (4, .int i11_4), (5, .int i11_5), (6, .int (x2 + x3)), (7, .int (f1 f i11_5)), (8, .int s89_0), (9, .int i94_9)], [.int 128, .int ((f1 f (i11_5 + i94_9)) &&& 192)], M_11)) rfl ?_
                        refine ml_if2 (S1 := (139, [(0, .ref m0), (1, .int x1), (4, .int i11_4), (5, .int i11_5), (6, .int (x2 + x3)), (7, .int (f1 f i11_5)), (8, .int s89_0), (9, .int i94_9)], [], M_11)) (S2 := (130, [(0, .ref m0), (5, .int i11_5)], [], M_11)) rfl rfl rfl (fun c_127 => ?_) (fun c_127 => ?_)
                        · have c_127 : ((f1 f (i11_5 + i94_9)) &&& 192) = 128 := of_decide_eq_true c_127
                          refine ml_st (S' := (142, [(9, .int (i94_9 + 1)), (0, .ref m0), (1, .int x1), (4, .int i11_4), (5, .int i11_5), (6, .int (x2 + x3)), (7, .int (f1 f i11_5)), (8, .int s89_0)], [], M_11)) rfl rfl rfl ?_
                          refine ml_st (S' := (94, [(0, .ref m0), (1, .int x1), (4, .int i11_4), (5, .int i11_5), (6, .int (x2 + x3)), (7, .int (f1 f i11_5)), (8, .int s89_0), (9, .int (i94_9 + 1))], [], M_11)) rfl rfl rfl ?_
                          exact ih_94 (i94_9 + 1) (by rw [hq5]; omega) (⟨by rw [hq5]; omega, by rw [hq5]; have := i_nlt c_98; omega, by rw [hq5]; have := i_nle c_108; omega⟩)
                        · have c_127 : ¬ (((f1 f (i11_5 + i94_9)) &&& 192) = 128) := of_decide_eq_false c_127
                          refine ml_blk 3 (S' := (135, [(0, .ref m0), (5, .int i11_5)], [.int i11_5, .int 6, .ref m0], M_11)) rfl ?_
                          refine ml_call (a := [.ref m0, .int 6, .int i11_5]) (rest := []) rfl (hR_11.okc rfl rfl rfl) rfl rfl (rm_wrong hR_11 (by omega)) (fun v96 M97 h98 => ?_)
                          obtain ⟨u104, I99, R100, rfl, hR101, hI102, hV103, z105, w106⟩ := h98
                          show ml _ _ _ (138, [(0, .ref m0), (5, .int i11_5)], [.int u104], M97) _
                          exact ml_ret rfl (r_z (z105)) (⟨_, _, _, rfl, hR101, ((eqI.rf.tr hI_11 (by decide)).tr hI102 (by decide)), ((eqR.rf.tr hV_11 (by decide)).tr hV103 (by decide)), z105, Or.inl w106⟩)
                exact L_94 _ 1 (Nat.le_refl _) (⟨by decide, by show (1 : Int) ≤ _; rcases hj_89 with rfl | rfl | rfl <;> decide, by show _ + 1 - 1 < _; omega⟩)
              refine ml_if2 (S1 := (76, [(0, .ref m0), (1, .int x1), (4, .int i11_4), (5, .int i11_5), (6, .int (x2 + x3)), (7, .int (f1 f i11_5))], [], M_11)) (S2 := (72, [(0, .ref m0), (1, .int x1), (4, .int i11_4), (5, .int i11_5), (6, .int (x2 + x3)), (7, .int (f1 f i11_5))], [], M_11)) rfl rfl rfl (fun c_69 => ?_) (fun c_69 => ?_)
              · have c_69 : 128 ≤ (f1 f i11_5) := of_decide_eq_true c_69
                refine ml_blk 2 (S' := (81, [(0, .ref m0), (1, .int x1), (4, .int i11_4), (5, .int i11_5), (6, .int (x2 + x3)), (7, .int (f1 f i11_5))], [.int 224, .int (f1 f i11_5)], M_11)) rfl ?_
                refine ml_if2 (S1 := (88, [(0, .ref m0), (1, .int x1), (4, .int i11_4), (5, .int i11_5), (6, .int (x2 + x3)), (7, .int (f1 f i11_5))], [], M_11)) (S2 := (84, [(0, .ref m0), (1, .int x1), (4, .int i11_4), (5, .int i11_5), (6, .int (x2 + x3)), (7, .int (f1 f i11_5))], [], M_11)) rfl rfl rfl (fun c_81 => ?_) (fun c_81 => ?_)
                · have c_81 : 224 ≤ (f1 f i11_5) := of_decide_eq_true c_81
                  refine ml_st (S' := (89, [(0, .ref m0), (1, .int x1), (4, .int i11_4), (5, .int i11_5), (6, .int (x2 + x3)), (7, .int (f1 f i11_5))], [.int 2], M_11)) rfl rfl rfl ?_
                  exact J_89 2 (Or.inr (Or.inr rfl))
                · have c_81 : ¬ (224 ≤ (f1 f i11_5)) := of_decide_eq_false c_81
                  refine ml_st (S' := (85, [(0, .ref m0), (1, .int x1), (4, .int i11_4), (5, .int i11_5), (6, .int (x2 + x3)), (7, .int (f1 f i11_5))], [.int 1], M_11)) rfl rfl rfl ?_
                  refine ml_st (S' := (89, [(0, .ref m0), (1, .int x1), (4, .int i11_4), (5, .int i11_5), (6, .int (x2 + x3)), (7, .int (f1 f i11_5))], [.int 1], M_11)) rfl rfl rfl ?_
                  exact J_89 1 (Or.inr (Or.inl rfl))
              · have c_69 : ¬ (128 ≤ (f1 f i11_5)) := of_decide_eq_false c_69
                refine ml_st (S' := (73, [(0, .ref m0), (1, .int x1), (4, .int i11_4), (5, .int i11_5), (6, .int (x2 + x3)), (7, .int (f1 f i11_5))], [.int 0], M_11)) rfl rfl rfl ?_
                refine ml_st (S' := (89, [(0, .ref m0), (1, .int x1), (4, .int i11_4), (5, .int i11_5), (6, .int (x2 + x3)), (7, .int (f1 f i11_5))], [.int 0], M_11)) rfl rfl rfl ?_
                exact J_89 0 (Or.inl rfl)
            refine ml_if2 (S1 := (64, [(0, .ref m0), (1, .int x1), (4, .int i11_4), (5, .int i11_5), (6, .int (x2 + x3)), (7, .int (f1 f i11_5))], [], M_11)) (S2 := (47, [(7, .int (f1 f i11_5)), (0, .ref m0), (1, .int x1), (4, .int i11_4), (5, .int i11_5), (6, .int (x2 + x3))], [], M_11)) rfl rfl rfl (fun c_44 => ?_) (fun c_44 => ?_)
            · have c_44 : (f1 f i11_5) < 128 := of_decide_eq_true c_44
              exact J_64 
            · have c_44 : ¬ ((f1 f i11_5) < 128) := of_decide_eq_false c_44
              refine ml_blk 2 (S' := (52, [(7, .int (f1 f i11_5)), (0, .ref m0), (1, .int x1), (4, .int i11_4), (5, .int i11_5), (6, .int (x2 + x3))], [.int 191, .int (f1 f i11_5)], M_11)) rfl ?_
              refine ml_if2 (S1 := (64, [(0, .ref m0), (1, .int x1), (4, .int i11_4), (5, .int i11_5), (6, .int (x2 + x3)), (7, .int (f1 f i11_5))], [], M_11)) (S2 := (55, [(0, .ref m0), (5, .int i11_5)], [], M_11)) rfl rfl rfl (fun c_52 => ?_) (fun c_52 => ?_)
              · have c_52 : 191 < (f1 f i11_5) := of_decide_eq_true c_52
                exact J_64 
              · have c_52 : ¬ (191 < (f1 f i11_5)) := of_decide_eq_false c_52
                refine ml_blk 3 (S' := (60, [(0, .ref m0), (5, .int i11_5)], [.int i11_5, .int 6, .ref m0], M_11)) rfl ?_
                refine ml_call (a := [.ref m0, .int 6, .int i11_5]) (rest := []) rfl (hR_11.okc rfl rfl rfl) rfl rfl (rm_wrong hR_11 (by omega)) (fun v107 M108 h109 => ?_)
                obtain ⟨u115, I110, R111, rfl, hR112, hI113, hV114, z116, w117⟩ := h109
                show ml _ _ _ (63, [(0, .ref m0), (5, .int i11_5)], [.int u115], M108) _
                exact ml_ret rfl (r_z (z116)) (⟨_, _, _, rfl, hR112, ((eqI.rf.tr hI_11 (by decide)).tr hI113 (by decide)), ((eqR.rf.tr hV_11 (by decide)).tr hV114 (by decide)), z116, Or.inl w117⟩)
  exact L_11 _ 0 x2 _ _ _ (Nat.le_refl _) hR eqI.rf eqR.rf (⟨by omega, by omega, by decide, by show (0 : Int) ≤ _; omega, fun j hj => absurd hj (Nat.not_lt_zero j)⟩)
end
section
/-! the reference: the pool is read (laid by wip/p2/c63.py) -/
theorem esz_ge {t : Int32} : 3 ≤ esz t := by
  unfold esz
  split
  · omega
  · split
    · omega
    · split <;> omega

set_option maxHeartbeats 2000000 in
theorem rm_readPool {g : xe_G}  {m0 : Nat} {q : Nat → Nat} {z : Nat × Nat} {I : rI} {R : rR} {M : mi_H} {p0 cp mj : Int32} {n : Nat} {f : Nat → Int32} {S cN : Nat}  (hR : RS g m0 q z I R M) (hk20 : I 20 = some 0) (hk50 : I 50 = some p0) (hk52 : I 52 = some cp) (hk53 : I 53 = some mj) (hF : FK n f I R) (hZ : SYM S cN I R) (hp0 : 0 ≤ p0.toInt) (hpn : p0.toInt ≤ n) (hc1 : 1 ≤ cp.toInt) (hc2 : cp.toInt ≤ 65535) (hS3 : S ≤ 3) (hC3 : cN ≤ 30) {d : Nat} (hd : 3 ≤ d) : mt (mT g) d 238 [.ref m0] M (fun v M' => ∃ (x : Int32) (I' : rI) (R' : rR), v = some (.int x) ∧ RS g m0 q z I' R' M' ∧ eqI [3, 8, 20, 47, 48, 50, 51] I I' ∧ eqR [1, 2, 4, 5, 6, 7, 21, 22] R R' ∧ (x = 0 ∨ x = 1) ∧ (x = 0 ∨ ∃ (S' cN' : Nat) (p1 : Int32), SYM S' cN' I' R' ∧ I' 50 = some p1 ∧ p0.toInt ≤ p1.toInt ∧ p1.toInt ≤ n ∧ I' 51 = some 0 ∧ PEN f n S' cp.toInt.toNat R')) := by
  obtain ⟨d, rfl⟩ : ∃ e, d = e + 1 := ⟨d - 1, by omega⟩
  refine mt_in (b := mb_238 g) rfl rfl ?_
  show ml (mT g) d (mb_238 g).2 (0, [(0, .ref m0)], [], M) _
  have hn := hF.1
  have l2 : (2 : Int64).toInt = 2 := rfl
  have l4 : (4 : Int64).toInt = 4 := rfl
  have l1 : (1 : Int64).toInt = 1 := rfl
  refine ml_blk 2 (S' := (2, [(0, .ref m0)], [.ref m0, .ref m0], M)) rfl ?_
  refine rg_int (S' := (5, [(0, .ref m0)], [.int 0, .ref m0], M)) rfl hR rfl (hk20) rfl ?_
  refine rp_int rfl hR rfl (fun M11 I12 hR13 e14 f15 => ?_)
  show ml _ _ _ (8, [(0, .ref m0)], [], M11) _
  refine ml_st (S' := (9, [(0, .ref m0)], [.ref m0], M11)) rfl rfl rfl ?_
  refine rg_ref (S' := (12, [(0, .ref m0)], [.ref (q 21)], M11)) rfl hR13 rfl rfl ?_
  refine ml_st (S' := (13, [(0, .ref m0)], [.ref m0, .ref (q 21)], M11)) rfl rfl rfl ?_
  refine rg_int (S' := (16, [(0, .ref m0)], [.int 0, .ref (q 21)], M11)) rfl hR13 rfl (e14) rfl ?_
  refine ml_st (S' := (17, [(0, .ref m0)], [.int (-1), .int 0, .ref (q 21)], M11)) rfl rfl rfl ?_
  refine ra_st (k := 21) rfl hR13 rfl (vin_lt (by decide) (by decide)) (fun M16 R17 hR18 e19 g20 f21 => ?_)
  show ml _ _ _ (18, [(0, .ref m0)], [], M16) _
  refine ml_st (S' := (19, [(0, .ref m0)], [.int 1], M16)) rfl rfl rfl ?_
  refine ml_st (S' := (20, [(0, .ref m0), (1, .int 1)], [], M16)) rfl rfl rfl ?_
  have L_20 : ∀ (n_20 : Nat) (i20_1 : Int32) (pp : Int32) (Sx : Nat) (Cx : Nat) (M_20 : mi_H) (I_20 : rI) (R_20 : rR), (2147483648 - i20_1.toInt).toNat ≤ n_20 → RS g m0 q z I_20 R_20 M_20 → eqI [3, 8, 47, 48, 50] I12 I_20 → eqR [1, 2, 4, 5, 6, 7, 21, 22] R17 R_20 → (I_20 50 = some pp ∧ p0.toInt ≤ pp.toInt ∧ pp.toInt ≤ n ∧ 1 ≤ i20_1.toInt ∧ i20_1.toInt ≤ cp.toInt ∧ SYM Sx Cx I_20 R_20 ∧ 3 * (Sx : Int) ≤ pp.toInt + 9 ∧ (Cx : Int) ≤ pp.toInt + 30 ∧ PEN f n Sx i20_1.toInt.toNat R_20) → ml (mT g) d (mb_238 g).2 (20, [(0, .ref m0), (1, .int i20_1)], [], M_20) (fun v M' => ∃ (x : Int32) (I' : rI) (R' : rR), v = some (.int x) ∧ RS g m0 q z I' R' M' ∧ eqI [3, 8, 20, 47, 48, 50, 51] I I' ∧ eqR [1, 2, 4, 5, 6, 7, 21, 22] R R' ∧ (x = 0 ∨ x = 1) ∧ (x = 0 ∨ ∃ (S' cN' : Nat) (p1 : Int32), SYM S' cN' I' R' ∧ I' 50 = some p1 ∧ p0.toInt ≤ p1.toInt ∧ p1.toInt ≤ n ∧ I' 51 = some 0 ∧ PEN f n S' cp.toInt.toNat R')) := by
    intro n_20
    induction n_20 with
    | zero => intro i20_1 pp Sx Cx M_20 I_20 R_20 hn; exact (loop_zero hn).elim
    | succ n_20 ih_20 =>
      intro i20_1 pp Sx Cx M_20 I_20 R_20 hn_20 hR_20 hI_20 hV_20 hi_20
      obtain ⟨hi50, hpp0, hpp1, hk0, hk1, hz20, hsx, hcx, hpen⟩ := hi_20
      refine ml_blk 2 (S' := (22, [(0, .ref m0), (1, .int i20_1)], [.ref m0, .int i20_1], M_20)) rfl ?_
      refine rg_int (S' := (25, [(0, .ref m0), (1, .int i20_1)], [.int cp, .int i20_1], M_20)) rfl hR_20 rfl ((hI_20 52 (by decide)).trans ((f15 52 (by decide)).trans (hk52))) rfl ?_
      refine ml_if2 (S1 := (531, [(0, .ref m0), (1, .int i20_1)], [], M_20)) (S2 := (28, [(0, .ref m0), (1, .int i20_1)], [], M_20)) rfl rfl rfl (fun c_25 => ?_) (fun c_25 => ?_)
      · have c_25 : cp ≤ i20_1 := of_decide_eq_true c_25
        refine ml_blk 2 (S' := (533, [(0, .ref m0), (1, .int i20_1)], [.ref m0, .ref m0], M_20)) rfl ?_
        refine rg_int (S' := (536, [(0, .ref m0), (1, .int i20_1)], [.int 0, .ref m0], M_20)) rfl hR_20 rfl ((hI_20 51 (by decide)).trans (e14)) rfl ?_
        refine ml_st (S' := (537, [(0, .ref m0), (1, .int i20_1)], [.ref m0, .int 0, .ref m0], M_20)) rfl rfl rfl ?_
        refine rg_int (S' := (540, [(0, .ref m0), (1, .int i20_1)], [.int cp, .int 0, .ref m0], M_20)) rfl hR_20 rfl ((hI_20 52 (by decide)).trans ((f15 52 (by decide)).trans (hk52))) rfl ?_
        refine ml_st (S' := (541, [(0, .ref m0), (1, .int i20_1)], [.int (0 + cp), .ref m0], M_20)) rfl rfl rfl ?_
        refine rp_int rfl hR_20 rfl (fun M22 I23 hR24 e25 f26 => ?_)
        show ml _ _ _ (544, [(0, .ref m0), (1, .int i20_1)], [], M22) _
        refine ml_st (S' := (545, [(0, .ref m0), (1, .int i20_1)], [.int 1], M22)) rfl rfl rfl ?_
        have hZ27 : SYM Sx Cx I23 R_20 := (hz20.mono (pIx f26 (by decide)) (fun _ _ => rfl))
        exact ml_ret rfl (r_z (Or.inr rfl)) (⟨_, _, _, rfl, hR24, (((eqI.rf.put f15 (by decide)).tr hI_20 (by decide)).put f26 (by decide)), ((eqR.rf.put f21 (by decide)).tr hV_20 (by decide)), Or.inr rfl, Or.inr ⟨Sx, Cx, pp, hZ27, (f26 50 (by decide)).trans (hi50), hpp0, hpp1, (f26 51 (by decide)).trans ((hI_20 51 (by decide)).trans (e14)), by rw [show cp.toInt.toNat = i20_1.toInt.toNat by have := i_le c_25; omega]; exact hpen⟩⟩)
      · have c_25 : ¬ (cp ≤ i20_1) := of_decide_eq_false c_25
        refine ml_blk 2 (S' := (30, [(0, .ref m0), (1, .int i20_1)], [.long 1, .ref m0], M_20)) rfl ?_
        have hF28 : FK n f I_20 R_20 := (((hF.mono (pIx f15 (by decide)) (fun _ _ => rfl)).mono (fun _ _ => rfl) (pRx f21 (by decide))).mono (cIx hI_20 (by decide)) (cRx hV_20 (by decide)))
        refine ml_call (a := [.ref m0, .long 1]) (rest := []) rfl (hR_20.okc rfl rfl rfl) rfl rfl (rm_item hR_20 (hi50) hF28 (by omega) (by omega) (by decide) (by decide) (by omega)) (fun v29 M30 h31 => ?_)
        obtain ⟨u37, I32, R33, rfl, hR34, hI35, hV36, z38, w39⟩ := h31
        show ml _ _ _ (33, [(0, .ref m0), (1, .int i20_1)], [.int u37], M30) _
        refine ml_if (S1 := (38, [(0, .ref m0), (1, .int i20_1)], [], M30)) (S2 := (36, [(0, .ref m0), (1, .int i20_1)], [], M30)) rfl rfl rfl (fun c_33 => ?_) (fun c_33 => ?_)
        · have c_33 : ¬ u37 = 0 := of_decide_eq_true c_33
          have ha := w39.resolve_left c_33
          have hkk : (i20_1 + 1).toInt = i20_1.toInt + 1 := inc_lt (Int32.not_le.mp c_25)
          have hklt := i_nle c_25
          have hp1 : (pp + 1).toInt = pp.toInt + 1 := i_add (by have : (1 : Int32).toInt = 1 := rfl; omega) (by have : (1 : Int32).toInt = 1 := rfl; omega)
          refine ml_blk 2 (S' := (40, [(0, .ref m0), (1, .int i20_1)], [.ref m0, .ref m0], M30)) rfl ?_
          refine rg_int (S' := (43, [(0, .ref m0), (1, .int i20_1)], [.int pp, .ref m0], M30)) rfl hR34 rfl ((hI35 50 (by decide)).trans (hi50)) rfl ?_
          have hF40 : FK n f I32 R33 := (hF28.mono (cIx hI35 (by decide)) (cRx hV36 (by decide)))
          refine ml_call (a := [.ref m0, .int pp]) (rest := []) rfl (hR34.okc rfl rfl rfl) rfl rfl (rm_u1 hR34 hF40 (by omega) (by omega) (by omega)) (fun v41 M42 h43 => ?_)
          obtain ⟨rfl, h43⟩ := h43
          rw [h43]
          show ml _ _ _ (46, [(0, .ref m0), (1, .int i20_1)], [.int (f1 f pp)], M30) _
          refine ml_st (S' := (47, [(2, .int (f1 f pp)), (0, .ref m0), (1, .int i20_1)], [], M30)) rfl rfl rfl ?_
          refine ml_st (S' := (48, [(2, .int (f1 f pp)), (0, .ref m0), (1, .int i20_1)], [.ref m0], M30)) rfl rfl rfl ?_
          refine rg_int (S' := (51, [(2, .int (f1 f pp)), (0, .ref m0), (1, .int i20_1)], [.int pp], M30)) rfl hR34 rfl ((hI35 50 (by decide)).trans (hi50)) rfl ?_
          refine ml_st (S' := (52, [(3, .int pp), (2, .int (f1 f pp)), (0, .ref m0), (1, .int i20_1)], [], M30)) rfl rfl rfl ?_
          refine ml_st (S' := (53, [(3, .int pp), (2, .int (f1 f pp)), (0, .ref m0), (1, .int i20_1)], [.ref m0], M30)) rfl rfl rfl ?_
          refine rg_ref (S' := (56, [(3, .int pp), (2, .int (f1 f pp)), (0, .ref m0), (1, .int i20_1)], [.ref (q 21)], M30)) rfl hR34 rfl rfl ?_
          refine ml_st (S' := (57, [(3, .int pp), (2, .int (f1 f pp)), (0, .ref m0), (1, .int i20_1)], [.ref m0, .ref (q 21)], M30)) rfl rfl rfl ?_
          refine rg_int (S' := (60, [(3, .int pp), (2, .int (f1 f pp)), (0, .ref m0), (1, .int i20_1)], [.int 0, .ref (q 21)], M30)) rfl hR34 rfl ((hI35 51 (by decide)).trans ((hI_20 51 (by decide)).trans (e14))) rfl ?_
          refine ml_blk 3 (S' := (63, [(3, .int pp), (2, .int (f1 f pp)), (0, .ref m0), (1, .int i20_1)], [.int pp, .int (0 + i20_1), .ref (q 21)], M30)) rfl ?_
          refine ra_st (k := 21) rfl hR34 rfl (vin_z (by omega) (by omega)) (fun M44 R45 hR46 e47 g48 f49 => ?_)
          show ml _ _ _ (64, [(3, .int pp), (2, .int (f1 f pp)), (0, .ref m0), (1, .int i20_1)], [], M44) _
          refine ml_st (S' := (65, [(3, .int pp), (2, .int (f1 f pp)), (0, .ref m0), (1, .int i20_1)], [.ref m0], M44)) rfl rfl rfl ?_
          refine rg_ref (S' := (68, [(3, .int pp), (2, .int (f1 f pp)), (0, .ref m0), (1, .int i20_1)], [.ref (q 22)], M44)) rfl hR46 rfl rfl ?_
          refine ml_st (S' := (69, [(3, .int pp), (2, .int (f1 f pp)), (0, .ref m0), (1, .int i20_1)], [.ref m0, .ref (q 22)], M44)) rfl rfl rfl ?_
          refine rg_int (S' := (72, [(3, .int pp), (2, .int (f1 f pp)), (0, .ref m0), (1, .int i20_1)], [.int 0, .ref (q 22)], M44)) rfl hR46 rfl ((hI35 51 (by decide)).trans ((hI_20 51 (by decide)).trans (e14))) rfl ?_
          refine ml_blk 3 (S' := (75, [(3, .int pp), (2, .int (f1 f pp)), (0, .ref m0), (1, .int i20_1)], [.int (-1), .int (0 + i20_1), .ref (q 22)], M44)) rfl ?_
          refine ra_st (k := 22) rfl hR46 rfl (vin_z (by omega) (by omega)) (fun M50 R51 hR52 e53 g54 f55 => ?_)
          show ml _ _ _ (76, [(3, .int pp), (2, .int (f1 f pp)), (0, .ref m0), (1, .int i20_1)], [], M50) _
          rw [z_nat] at e47 g48
          rw [z_nat] at e53 g54
          refine ml_blk 2 (S' := (78, [(3, .int pp), (2, .int (f1 f pp)), (0, .ref m0), (1, .int i20_1)], [.int 1, .int (f1 f pp)], M50)) rfl ?_
          have J_160 : ∀ (s160_0 : Int32), (s160_0 = 0 ∨ GT (f1 f pp)) → ml (mT g) d (mb_238 g).2 (160, [(0, .ref m0), (1, .int i20_1), (2, .int (f1 f pp)), (3, .int pp)], [.int s160_0], M50) (fun v M' => ∃ (x : Int32) (I' : rI) (R' : rR), v = some (.int x) ∧ RS g m0 q z I' R' M' ∧ eqI [3, 8, 20, 47, 48, 50, 51] I I' ∧ eqR [1, 2, 4, 5, 6, 7, 21, 22] R R' ∧ (x = 0 ∨ x = 1) ∧ (x = 0 ∨ ∃ (S' cN' : Nat) (p1 : Int32), SYM S' cN' I' R' ∧ I' 50 = some p1 ∧ p0.toInt ≤ p1.toInt ∧ p1.toInt ≤ n ∧ I' 51 = some 0 ∧ PEN f n S' cp.toInt.toNat R')) := by
            intro s160_0 hj_160
            refine ml_st (S' := (162, [(4, .int s160_0), (0, .ref m0), (1, .int i20_1), (2, .int (f1 f pp)), (3, .int pp)], [], M50)) rfl rfl rfl ?_
            refine ml_st (S' := (164, [(4, .int s160_0), (0, .ref m0), (1, .int i20_1), (2, .int (f1 f pp)), (3, .int pp)], [.int s160_0], M50)) rfl rfl rfl ?_
            refine ml_if (S1 := (174, [(4, .int s160_0), (0, .ref m0), (1, .int i20_1), (2, .int (f1 f pp)), (3, .int pp)], [], M50)) (S2 := (167, [(4, .int s160_0), (0, .ref m0), (1, .int i20_1), (2, .int (f1 f pp)), (3, .int pp)], [], M50)) rfl rfl rfl (fun c_164 => ?_) (fun c_164 => ?_)
            · have c_164 : ¬ s160_0 = 0 := of_decide_eq_true c_164
              have hgt := hj_160.resolve_left c_164
              refine ml_blk 2 (S' := (176, [(4, .int s160_0), (0, .ref m0), (1, .int i20_1), (2, .int (f1 f pp)), (3, .int pp)], [.int 5, .int (f1 f pp)], M50)) rfl ?_
              have J_203 : ((f1 f pp = 5 ∨ f1 f pp = 6) → i20_1.toInt + 1 < cp.toInt) → ml (mT g) d (mb_238 g).2 (203, [(0, .ref m0), (1, .int i20_1), (2, .int (f1 f pp))], [], M50) (fun v M' => ∃ (x : Int32) (I' : rI) (R' : rR), v = some (.int x) ∧ RS g m0 q z I' R' M' ∧ eqI [3, 8, 20, 47, 48, 50, 51] I I' ∧ eqR [1, 2, 4, 5, 6, 7, 21, 22] R R' ∧ (x = 0 ∨ x = 1) ∧ (x = 0 ∨ ∃ (S' cN' : Nat) (p1 : Int32), SYM S' cN' I' R' ∧ I' 50 = some p1 ∧ p0.toInt ≤ p1.toInt ∧ p1.toInt ≤ n ∧ I' 51 = some 0 ∧ PEN f n S' cp.toInt.toNat R')) := by
                intro hj_203
                refine ml_blk 2 (S' := (205, [(0, .ref m0), (1, .int i20_1), (2, .int (f1 f pp))], [.ref m0, .ref m0], M50)) rfl ?_
                refine rg_int (S' := (208, [(0, .ref m0), (1, .int i20_1), (2, .int (f1 f pp))], [.int pp, .ref m0], M50)) rfl hR52 rfl ((hI35 50 (by decide)).trans (hi50)) rfl ?_
                refine ml_blk 2 (S' := (210, [(0, .ref m0), (1, .int i20_1), (2, .int (f1 f pp))], [.int (pp + 1), .ref m0], M50)) rfl ?_
                refine rp_int rfl hR52 rfl (fun M56 I57 hR58 e59 f60 => ?_)
                show ml _ _ _ (213, [(0, .ref m0), (1, .int i20_1), (2, .int (f1 f pp))], [], M56) _
                refine ml_blk 2 (S' := (215, [(0, .ref m0), (1, .int i20_1), (2, .int (f1 f pp))], [.int 1, .int (f1 f pp)], M56)) rfl ?_
                have J_499 : ∀ (M_499 : mi_H) (I_499 : rI) (R_499 : rR), RS g m0 q z I_499 R_499 M_499 → eqI [3, 8, 47, 48, 50] I57 I_499 → eqR [1, 2, 4, 5, 6, 7, 22] R51 R_499 → (∃ (p2 : Int32) (S2 c2 : Nat), I_499 50 = some p2 ∧ pp.toInt + esz (f1 f pp) ≤ p2.toInt ∧ p2.toInt ≤ n ∧ SYM S2 c2 I_499 R_499 ∧ Sx ≤ S2 ∧ 3 * (S2 : Int) ≤ p2.toInt + 9 ∧ (c2 : Int) ≤ p2.toInt + 30 ∧ (f1 f pp = 1 → ∃ sy, R_499 22 i20_1.toNatClampNeg = some sy ∧ 0 ≤ sy.toInt ∧ sy.toInt < S2) ∧ ∀ b, b ≠ i20_1.toNatClampNeg → R_499 22 b = R51 22 b) → ml (mT g) d (mb_238 g).2 (499, [(0, .ref m0), (1, .int i20_1), (2, .int (f1 f pp))], [], M_499) (fun v M' => ∃ (x : Int32) (I' : rI) (R' : rR), v = some (.int x) ∧ RS g m0 q z I' R' M' ∧ eqI [3, 8, 20, 47, 48, 50, 51] I I' ∧ eqR [1, 2, 4, 5, 6, 7, 21, 22] R R' ∧ (x = 0 ∨ x = 1) ∧ (x = 0 ∨ ∃ (S' cN' : Nat) (p1 : Int32), SYM S' cN' I' R' ∧ I' 50 = some p1 ∧ p0.toInt ≤ p1.toInt ∧ p1.toInt ≤ n ∧ I' 51 = some 0 ∧ PEN f n S' cp.toInt.toNat R')) := by
                  intro M_499 I_499 R_499 hR_499 hI_499 hV_499 hj_499
                  obtain ⟨p2, S2, c2, hp2, hp2s, hp2n, hz2, hS2, hs2, hc2, htx, hot⟩ := hj_499
                  have hez : 3 ≤ esz (f1 f pp) := esz_ge
                  have hpen2 : PEN f n S2 (i20_1.toInt.toNat + 1) R_499 := PEN.step (k := i20_1.toInt.toNat) hpen hS2 ((congrFun ((hV_499 21 (by decide)).trans (f55 21 (by decide))) _).trans e47) (fun b hb => (congrFun ((hV_499 21 (by decide)).trans (f55 21 (by decide))) b).trans ((g48 b hb).trans (congrFun ((hV36 21 (by decide))) b))) (fun b hb => (hot b hb).trans ((g54 b hb).trans (congrFun ((f49 22 (by decide)).trans ((hV36 22 (by decide)))) b))) ⟨by omega, by omega, htx⟩ (by omega)
                  refine ml_blk 2 (S' := (501, [(0, .ref m0), (1, .int i20_1), (2, .int (f1 f pp))], [.int 5, .int (f1 f pp)], M_499)) rfl ?_
                  have J_510 : (f1 f pp = 5 ∨ f1 f pp = 6) → ml (mT g) d (mb_238 g).2 (510, [(0, .ref m0), (1, .int i20_1)], [], M_499) (fun v M' => ∃ (x : Int32) (I' : rI) (R' : rR), v = some (.int x) ∧ RS g m0 q z I' R' M' ∧ eqI [3, 8, 20, 47, 48, 50, 51] I I' ∧ eqR [1, 2, 4, 5, 6, 7, 21, 22] R R' ∧ (x = 0 ∨ x = 1) ∧ (x = 0 ∨ ∃ (S' cN' : Nat) (p1 : Int32), SYM S' cN' I' R' ∧ I' 50 = some p1 ∧ p0.toInt ≤ p1.toInt ∧ p1.toInt ≤ n ∧ I' 51 = some 0 ∧ PEN f n S' cp.toInt.toNat R')) := by
                    intro hj_510
                    refine ml_st (S' := (513, [(1, .int (i20_1 + 1)), (0, .ref m0)], [], M_499)) rfl rfl rfl ?_
                    refine ml_st (S' := (514, [(1, .int (i20_1 + 1)), (0, .ref m0)], [.ref m0], M_499)) rfl rfl rfl ?_
                    refine rg_ref (S' := (517, [(1, .int (i20_1 + 1)), (0, .ref m0)], [.ref (q 21)], M_499)) rfl hR_499 rfl rfl ?_
                    refine ml_st (S' := (518, [(1, .int (i20_1 + 1)), (0, .ref m0)], [.ref m0, .ref (q 21)], M_499)) rfl rfl rfl ?_
                    refine rg_int (S' := (521, [(1, .int (i20_1 + 1)), (0, .ref m0)], [.int 0, .ref (q 21)], M_499)) rfl hR_499 rfl ((hI_499 51 (by decide)).trans ((f60 51 (by decide)).trans ((hI35 51 (by decide)).trans ((hI_20 51 (by decide)).trans (e14))))) rfl ?_
                    refine ml_blk 3 (S' := (524, [(1, .int (i20_1 + 1)), (0, .ref m0)], [.int (-1), .int (0 + (i20_1 + 1)), .ref (q 21)], M_499)) rfl ?_
                    refine ra_st (k := 21) rfl hR_499 rfl (vin_z (by rw [hkk]; omega) (by rw [hkk]; omega)) (fun M61 R62 hR63 e64 g65 f66 => ?_)
                    show ml _ _ _ (525, [(0, .ref m0), (1, .int (i20_1 + 1))], [], M61) _
                    refine ml_st (S' := (528, [(1, .int ((i20_1 + 1) + 1)), (0, .ref m0)], [], M61)) rfl rfl rfl ?_
                    refine ml_st (S' := (20, [(0, .ref m0), (1, .int ((i20_1 + 1) + 1))], [], M61)) rfl rfl rfl ?_
                    have hZ67 : SYM S2 c2 I_499 R62 := (hz2.mono (fun _ _ => rfl) (pRx f66 (by decide)))
                    rw [z_nat] at e64 g65
                    have hk2 : (i20_1 + 1 + 1).toInt = i20_1.toInt + 2 := by rw [i_add (by have : (1 : Int32).toInt = 1 := rfl; omega) (by have : (1 : Int32).toInt = 1 := rfl; omega), hkk]; have : (1 : Int32).toInt = 1 := rfl; omega
                    have hkn1 : (i20_1 + 1).toNatClampNeg = i20_1.toInt.toNat + 1 := by show (i20_1 + 1).toInt.toNat = _; omega
                    rw [hkn1] at e64 g65
                    exact ih_20 ((i20_1 + 1) + 1) p2 S2 c2 _ _ _ (by rw [show (i20_1 + 1 + 1).toInt = i20_1.toInt + 2 by rw [i_add (by have : (1 : Int32).toInt = 1 := rfl; omega) (by have : (1 : Int32).toInt = 1 := rfl; omega), hkk]; have : (1 : Int32).toInt = 1 := rfl; omega]; omega) hR63 ((((eqI.rf.tr hI_20 (by decide)).tr hI35 (by decide)).put f60 (by decide)).tr hI_499 (by decide)) ((((((eqR.rf.tr hV_20 (by decide)).tr hV36 (by decide)).put f49 (by decide)).put f55 (by decide)).tr hV_499 (by decide)).put f66 (by decide)) (⟨hp2, by omega, hp2n, by rw [hk2]; omega, by rw [hk2]; have := hj_203 hj_510; omega, hZ67, hs2, hc2, by rw [show (i20_1 + 1 + 1).toInt.toNat = i20_1.toInt.toNat + 1 + 1 by omega]; exact hpen2.wide e64 g65 (f66 22 (by decide)) (by omega)⟩)
                  refine ml_if2 (S1 := (510, [(0, .ref m0), (1, .int i20_1)], [], M_499)) (S2 := (504, [(0, .ref m0), (1, .int i20_1), (2, .int (f1 f pp))], [], M_499)) rfl rfl rfl (fun c_501 => ?_) (fun c_501 => ?_)
                  · have c_501 : (f1 f pp) = 5 := of_decide_eq_true c_501
                    exact J_510  (Or.inl c_501)
                  · have c_501 : ¬ ((f1 f pp) = 5) := of_decide_eq_false c_501
                    refine ml_blk 2 (S' := (507, [(0, .ref m0), (1, .int i20_1), (2, .int (f1 f pp))], [.int 6, .int (f1 f pp)], M_499)) rfl ?_
                    refine ml_if2 (S1 := (525, [(0, .ref m0), (1, .int i20_1)], [], M_499)) (S2 := (510, [(0, .ref m0), (1, .int i20_1)], [], M_499)) rfl rfl rfl (fun c_507 => ?_) (fun c_507 => ?_)
                    · have c_507 : ¬ (f1 f pp) = 6 := of_decide_eq_true c_507
                      refine ml_st (S' := (528, [(1, .int (i20_1 + 1)), (0, .ref m0)], [], M_499)) rfl rfl rfl ?_
                      refine ml_st (S' := (20, [(0, .ref m0), (1, .int (i20_1 + 1))], [], M_499)) rfl rfl rfl ?_
                      exact ih_20 (i20_1 + 1) p2 S2 c2 _ _ _ (by rw [hkk]; omega) hR_499 ((((eqI.rf.tr hI_20 (by decide)).tr hI35 (by decide)).put f60 (by decide)).tr hI_499 (by decide)) (((((eqR.rf.tr hV_20 (by decide)).tr hV36 (by decide)).put f49 (by decide)).put f55 (by decide)).tr hV_499 (by decide)) (⟨hp2, by omega, hp2n, by rw [hkk]; omega, by rw [hkk]; have := i_nle c_25; omega, hz2, hs2, hc2, by rw [show (i20_1 + 1).toInt.toNat = i20_1.toInt.toNat + 1 by omega]; exact hpen2⟩)
                    · have c_507 : ¬ (¬ (f1 f pp) = 6) := of_decide_eq_false c_507
                      exact J_510  (Or.inr (Decidable.not_not.mp c_507))
                refine ml_if2 (S1 := (297, [(0, .ref m0), (1, .int i20_1), (2, .int (f1 f pp))], [], M56)) (S2 := (218, [(0, .ref m0), (1, .int i20_1), (2, .int (f1 f pp))], [], M56)) rfl rfl rfl (fun c_215 => ?_) (fun c_215 => ?_)
                · have c_215 : ¬ (f1 f pp) = 1 := of_decide_eq_true c_215
                  refine ml_blk 2 (S' := (300, [(0, .ref m0), (1, .int i20_1), (2, .int (f1 f pp))], [.int 15, .int (f1 f pp)], M56)) rfl ?_
                  refine ml_if2 (S1 := (348, [(0, .ref m0), (1, .int i20_1), (2, .int (f1 f pp))], [], M56)) (S2 := (303, [(0, .ref m0), (1, .int i20_1), (2, .int (f1 f pp))], [], M56)) rfl rfl rfl (fun c_300 => ?_) (fun c_300 => ?_)
                  · have c_300 : ¬ (f1 f pp) = 15 := of_decide_eq_true c_300
                    refine ml_blk 2 (S' := (350, [(0, .ref m0), (1, .int i20_1), (2, .int (f1 f pp))], [.int 3, .int (f1 f pp)], M56)) rfl ?_
                    have J_358 : (f1 f pp = 3 ∨ f1 f pp = 4) → ml (mT g) d (mb_238 g).2 (358, [(0, .ref m0), (1, .int i20_1), (2, .int (f1 f pp))], [], M56) (fun v M' => ∃ (x : Int32) (I' : rI) (R' : rR), v = some (.int x) ∧ RS g m0 q z I' R' M' ∧ eqI [3, 8, 20, 47, 48, 50, 51] I I' ∧ eqR [1, 2, 4, 5, 6, 7, 21, 22] R R' ∧ (x = 0 ∨ x = 1) ∧ (x = 0 ∨ ∃ (S' cN' : Nat) (p1 : Int32), SYM S' cN' I' R' ∧ I' 50 = some p1 ∧ p0.toInt ≤ p1.toInt ∧ p1.toInt ≤ n ∧ I' 51 = some 0 ∧ PEN f n S' cp.toInt.toNat R')) := by
                      intro hj_358
                      refine ml_blk 2 (S' := (362, [(0, .ref m0), (1, .int i20_1), (2, .int (f1 f pp))], [.long 4, .ref m0], M56)) rfl ?_
                      have hF68 : FK n f I57 R51 := (((hF40.mono (fun _ _ => rfl) (pRx f49 (by decide))).mono (fun _ _ => rfl) (pRx f55 (by decide))).mono (pIx f60 (by decide)) (fun _ _ => rfl))
                      refine ml_call (a := [.ref m0, .long 4]) (rest := []) rfl (hR58.okc rfl rfl rfl) rfl rfl (rm_item hR58 (e59) hF68 (by omega) (by omega) (by decide) (by decide) (by omega)) (fun v69 M70 h71 => ?_)
                      obtain ⟨u77, I72, R73, rfl, hR74, hI75, hV76, z78, w79⟩ := h71
                      show ml _ _ _ (365, [(0, .ref m0), (1, .int i20_1), (2, .int (f1 f pp))], [.int u77], M70) _
                      refine ml_if (S1 := (370, [(0, .ref m0), (1, .int i20_1), (2, .int (f1 f pp))], [], M70)) (S2 := (368, [(0, .ref m0), (1, .int i20_1), (2, .int (f1 f pp))], [], M70)) rfl rfl rfl (fun c_365 => ?_) (fun c_365 => ?_)
                      · have c_365 : ¬ u77 = 0 := of_decide_eq_true c_365
                        have hb := w79.resolve_left c_365
                        have hp5 : (pp + 1 + 4).toInt = pp.toInt + 5 := by rw [i_add (by have : (4 : Int32).toInt = 4 := rfl; omega) (by have : (4 : Int32).toInt = 4 := rfl; omega), hp1]; have : (4 : Int32).toInt = 4 := rfl; omega
                        refine ml_blk 2 (S' := (372, [(0, .ref m0), (1, .int i20_1), (2, .int (f1 f pp))], [.ref m0, .ref m0], M70)) rfl ?_
                        refine rg_int (S' := (375, [(0, .ref m0), (1, .int i20_1), (2, .int (f1 f pp))], [.int (pp + 1), .ref m0], M70)) rfl hR74 rfl ((hI75 50 (by decide)).trans (e59)) rfl ?_
                        refine ml_blk 2 (S' := (377, [(0, .ref m0), (1, .int i20_1), (2, .int (f1 f pp))], [.int ((pp + 1) + 4), .ref m0], M70)) rfl ?_
                        refine rp_int rfl hR74 rfl (fun M80 I81 hR82 e83 f84 => ?_)
                        show ml _ _ _ (380, [(0, .ref m0), (1, .int i20_1), (2, .int (f1 f pp))], [], M80) _
                        refine ml_st (S' := (499, [(0, .ref m0), (1, .int i20_1), (2, .int (f1 f pp))], [], M80)) rfl rfl rfl ?_
                        have hZ85 : SYM Sx Cx I81 R73 := ((((((hz20.mono (cIx hI35 (by decide)) (cRx hV36 (by decide))).mono (fun _ _ => rfl) (pRx f49 (by decide))).mono (fun _ _ => rfl) (pRx f55 (by decide))).mono (pIx f60 (by decide)) (fun _ _ => rfl)).mono (cIx hI75 (by decide)) (cRx hV76 (by decide))).mono (pIx f84 (by decide)) (fun _ _ => rfl))
                        exact J_499  _ _ _ hR82 ((eqI.rf.tr hI75 (by decide)).put f84 (by decide)) (eqR.rf.tr hV76 (by decide)) (⟨_, Sx, Cx, e83, by rw [hp5, esz5 hj_358]; omega, by rw [hp5]; omega, hZ85, Nat.le_refl _, by rw [hp5]; omega, by rw [hp5]; omega, fun e => absurd e c_215, fun b _ => congrFun (hV76 22 (by decide)) b⟩)
                      · have c_365 : ¬ (¬ u77 = 0) := of_decide_eq_false c_365
                        refine ml_st (S' := (369, [(0, .ref m0), (1, .int i20_1), (2, .int (f1 f pp))], [.int 0], M70)) rfl rfl rfl ?_
                        exact ml_ret rfl (r_z (Or.inl rfl)) (⟨_, _, _, rfl, hR74, (((((eqI.rf.put f15 (by decide)).tr hI_20 (by decide)).tr hI35 (by decide)).put f60 (by decide)).tr hI75 (by decide)), ((((((eqR.rf.put f21 (by decide)).tr hV_20 (by decide)).tr hV36 (by decide)).put f49 (by decide)).put f55 (by decide)).tr hV76 (by decide)), Or.inl rfl, Or.inl rfl⟩)
                    refine ml_if2 (S1 := (358, [(0, .ref m0), (1, .int i20_1), (2, .int (f1 f pp))], [], M56)) (S2 := (353, [(0, .ref m0), (1, .int i20_1), (2, .int (f1 f pp))], [], M56)) rfl rfl rfl (fun c_350 => ?_) (fun c_350 => ?_)
                    · have c_350 : (f1 f pp) = 3 := of_decide_eq_true c_350
                      exact J_358  (Or.inl c_350)
                    · have c_350 : ¬ ((f1 f pp) = 3) := of_decide_eq_false c_350
                      refine ml_blk 2 (S' := (355, [(0, .ref m0), (1, .int i20_1), (2, .int (f1 f pp))], [.int 4, .int (f1 f pp)], M56)) rfl ?_
                      refine ml_if2 (S1 := (383, [(0, .ref m0), (1, .int i20_1), (2, .int (f1 f pp))], [], M56)) (S2 := (358, [(0, .ref m0), (1, .int i20_1), (2, .int (f1 f pp))], [], M56)) rfl rfl rfl (fun c_355 => ?_) (fun c_355 => ?_)
                      · have c_355 : ¬ (f1 f pp) = 4 := of_decide_eq_true c_355
                        refine ml_blk 2 (S' := (385, [(0, .ref m0), (1, .int i20_1), (2, .int (f1 f pp))], [.int 5, .int (f1 f pp)], M56)) rfl ?_
                        have J_394 : (f1 f pp = 5 ∨ f1 f pp = 6) → ml (mT g) d (mb_238 g).2 (394, [(0, .ref m0), (1, .int i20_1), (2, .int (f1 f pp))], [], M56) (fun v M' => ∃ (x : Int32) (I' : rI) (R' : rR), v = some (.int x) ∧ RS g m0 q z I' R' M' ∧ eqI [3, 8, 20, 47, 48, 50, 51] I I' ∧ eqR [1, 2, 4, 5, 6, 7, 21, 22] R R' ∧ (x = 0 ∨ x = 1) ∧ (x = 0 ∨ ∃ (S' cN' : Nat) (p1 : Int32), SYM S' cN' I' R' ∧ I' 50 = some p1 ∧ p0.toInt ≤ p1.toInt ∧ p1.toInt ≤ n ∧ I' 51 = some 0 ∧ PEN f n S' cp.toInt.toNat R')) := by
                          intro hj_394
                          refine ml_st (S' := (395, [(0, .ref m0), (1, .int i20_1), (2, .int (f1 f pp))], [.int 0], M56)) rfl rfl rfl ?_
                          refine ml_st (S' := (397, [(0, .ref m0), (1, .int i20_1), (2, .int (f1 f pp)), (5, .int 0)], [], M56)) rfl rfl rfl ?_
                          have L_397 : ∀ (n_397 : Nat) (i397_5 : Int32) (pq : Int32) (M_397 : mi_H) (I_397 : rI) (R_397 : rR), (2147483648 - i397_5.toInt).toNat ≤ n_397 → RS g m0 q z I_397 R_397 M_397 → eqI [47, 48, 50] I57 I_397 → eqR [] R51 R_397 → (I_397 50 = some pq ∧ 0 ≤ i397_5.toInt ∧ i397_5.toInt ≤ 2 ∧ pq.toInt = pp.toInt + 1 + 4 * i397_5.toInt ∧ pq.toInt ≤ n) → ml (mT g) d (mb_238 g).2 (397, [(0, .ref m0), (1, .int i20_1), (2, .int (f1 f pp)), (5, .int i397_5)], [], M_397) (fun v M' => ∃ (x : Int32) (I' : rI) (R' : rR), v = some (.int x) ∧ RS g m0 q z I' R' M' ∧ eqI [3, 8, 20, 47, 48, 50, 51] I I' ∧ eqR [1, 2, 4, 5, 6, 7, 21, 22] R R' ∧ (x = 0 ∨ x = 1) ∧ (x = 0 ∨ ∃ (S' cN' : Nat) (p1 : Int32), SYM S' cN' I' R' ∧ I' 50 = some p1 ∧ p0.toInt ≤ p1.toInt ∧ p1.toInt ≤ n ∧ I' 51 = some 0 ∧ PEN f n S' cp.toInt.toNat R')) := by
                            intro n_397
                            induction n_397 with
                            | zero => intro i397_5 pq M_397 I_397 R_397 hn; exact (loop_zero hn).elim
                            | succ n_397 ih_397 =>
                              intro i397_5 pq M_397 I_397 R_397 hn_397 hR_397 hI_397 hV_397 hi_397
                              obtain ⟨hq50, hq0, hq1, hqe, hqn⟩ := hi_397
                              refine ml_blk 2 (S' := (400, [(0, .ref m0), (1, .int i20_1), (2, .int (f1 f pp)), (5, .int i397_5)], [.int 2, .int i397_5], M_397)) rfl ?_
                              refine ml_if2 (S1 := (431, [(0, .ref m0), (1, .int i20_1), (2, .int (f1 f pp)), (5, .int i397_5)], [], M_397)) (S2 := (403, [(0, .ref m0), (1, .int i20_1), (2, .int (f1 f pp)), (5, .int i397_5)], [], M_397)) rfl rfl rfl (fun c_400 => ?_) (fun c_400 => ?_)
                              · have c_400 : 2 ≤ i397_5 := of_decide_eq_true c_400
                                have hq6 : pq.toInt = pp.toInt + 9 := by have q := i_le c_400; have : (2 : Int32).toInt = 2 := rfl; omega
                                refine ml_st (S' := (499, [(0, .ref m0), (1, .int i20_1), (2, .int (f1 f pp))], [], M_397)) rfl rfl rfl ?_
                                have hZ86 : SYM Sx Cx I_397 R_397 := (((((hz20.mono (cIx hI35 (by decide)) (cRx hV36 (by decide))).mono (fun _ _ => rfl) (pRx f49 (by decide))).mono (fun _ _ => rfl) (pRx f55 (by decide))).mono (pIx f60 (by decide)) (fun _ _ => rfl)).mono (cIx hI_397 (by decide)) (cRx hV_397 (by decide)))
                                exact J_499  _ _ _ hR_397 (eqI.rf.tr hI_397 (by decide)) (eqR.rf.tr hV_397 (by decide)) (⟨_, Sx, Cx, hq50, by rw [hq6, esz9 hj_394]; omega, by rw [hq6]; omega, hZ86, Nat.le_refl _, by rw [hq6]; omega, by rw [hq6]; omega, fun e => absurd e c_215, fun b _ => congrFun (hV_397 22 (by decide)) b⟩)
                              · have c_400 : ¬ (2 ≤ i397_5) := of_decide_eq_false c_400
                                refine ml_blk 2 (S' := (407, [(0, .ref m0), (1, .int i20_1), (2, .int (f1 f pp)), (5, .int i397_5)], [.long 4, .ref m0], M_397)) rfl ?_
                                have hF87 : FK n f I_397 R_397 := ((((hF40.mono (fun _ _ => rfl) (pRx f49 (by decide))).mono (fun _ _ => rfl) (pRx f55 (by decide))).mono (pIx f60 (by decide)) (fun _ _ => rfl)).mono (cIx hI_397 (by decide)) (cRx hV_397 (by decide)))
                                refine ml_call (a := [.ref m0, .long 4]) (rest := []) rfl (hR_397.okc rfl rfl rfl) rfl rfl (rm_item hR_397 (hq50) hF87 (by omega) (by omega) (by decide) (by decide) (by omega)) (fun v88 M89 h90 => ?_)
                                obtain ⟨u96, I91, R92, rfl, hR93, hI94, hV95, z97, w98⟩ := h90
                                show ml _ _ _ (410, [(0, .ref m0), (1, .int i20_1), (2, .int (f1 f pp)), (5, .int i397_5)], [.int u96], M89) _
                                refine ml_if (S1 := (415, [(0, .ref m0), (1, .int i20_1), (2, .int (f1 f pp)), (5, .int i397_5)], [], M89)) (S2 := (413, [(0, .ref m0), (1, .int i20_1), (2, .int (f1 f pp)), (5, .int i397_5)], [], M89)) rfl rfl rfl (fun c_410 => ?_) (fun c_410 => ?_)
                                · have c_410 : ¬ u96 = 0 := of_decide_eq_true c_410
                                  have hb := w98.resolve_left c_410
                                  have hq4 : (pq + 4).toInt = pq.toInt + 4 := i_add (by have : (4 : Int32).toInt = 4 := rfl; omega) (by have : (4 : Int32).toInt = 4 := rfl; omega)
                                  have hq5 := inc_lt (Int32.not_le.mp c_400)
                                  refine ml_blk 2 (S' := (417, [(0, .ref m0), (1, .int i20_1), (2, .int (f1 f pp)), (5, .int i397_5)], [.ref m0, .ref m0], M89)) rfl ?_
                                  refine rg_int (S' := (420, [(0, .ref m0), (1, .int i20_1), (2, .int (f1 f pp)), (5, .int i397_5)], [.int pq, .ref m0], M89)) rfl hR93 rfl ((hI94 50 (by decide)).trans (hq50)) rfl ?_
                                  refine ml_blk 2 (S' := (422, [(0, .ref m0), (1, .int i20_1), (2, .int (f1 f pp)), (5, .int i397_5)], [.int (pq + 4), .ref m0], M89)) rfl ?_
                                  refine rp_int rfl hR93 rfl (fun M99 I100 hR101 e102 f103 => ?_)
                                  show ml _ _ _ (425, [(0, .ref m0), (1, .int i20_1), (2, .int (f1 f pp)), (5, .int i397_5)], [], M99) _
                                  refine ml_st (S' := (428, [(5, .int (i397_5 + 1)), (0, .ref m0), (1, .int i20_1), (2, .int (f1 f pp))], [], M99)) rfl rfl rfl ?_
                                  refine ml_st (S' := (397, [(0, .ref m0), (1, .int i20_1), (2, .int (f1 f pp)), (5, .int (i397_5 + 1))], [], M99)) rfl rfl rfl ?_
                                  exact ih_397 (i397_5 + 1) (pq + 4) _ _ _ (loop_inc (Int32.not_le.mp c_400) hn_397) hR101 (((eqI.rf.tr hI_397 (by decide)).tr hI94 (by decide)).put f103 (by decide)) ((eqR.rf.tr hV_397 (by decide)).tr hV95 (by decide)) (⟨e102, by rw [hq5]; omega, by rw [hq5]; have := i_nle c_400; have : (2 : Int32).toInt = 2 := rfl; omega, by rw [hq5]; omega, by omega⟩)
                                · have c_410 : ¬ (¬ u96 = 0) := of_decide_eq_false c_410
                                  refine ml_st (S' := (414, [(0, .ref m0), (1, .int i20_1), (2, .int (f1 f pp)), (5, .int i397_5)], [.int 0], M89)) rfl rfl rfl ?_
                                  exact ml_ret rfl (r_z (Or.inl rfl)) (⟨_, _, _, rfl, hR93, ((((((eqI.rf.put f15 (by decide)).tr hI_20 (by decide)).tr hI35 (by decide)).put f60 (by decide)).tr hI_397 (by decide)).tr hI94 (by decide)), (((((((eqR.rf.put f21 (by decide)).tr hV_20 (by decide)).tr hV36 (by decide)).put f49 (by decide)).put f55 (by decide)).tr hV_397 (by decide)).tr hV95 (by decide)), Or.inl rfl, Or.inl rfl⟩)
                          exact L_397 _ 0 (pp + 1) _ _ _ (Nat.le_refl _) hR58 eqI.rf eqR.rf (⟨e59, by decide, by decide, by show _ = pp.toInt + 1 + 4 * 0; omega, by omega⟩)
                        refine ml_if2 (S1 := (394, [(0, .ref m0), (1, .int i20_1), (2, .int (f1 f pp))], [], M56)) (S2 := (388, [(0, .ref m0), (1, .int i20_1), (2, .int (f1 f pp))], [], M56)) rfl rfl rfl (fun c_385 => ?_) (fun c_385 => ?_)
                        · have c_385 : (f1 f pp) = 5 := of_decide_eq_true c_385
                          exact J_394  (Or.inl c_385)
                        · have c_385 : ¬ ((f1 f pp) = 5) := of_decide_eq_false c_385
                          refine ml_blk 2 (S' := (391, [(0, .ref m0), (1, .int i20_1), (2, .int (f1 f pp))], [.int 6, .int (f1 f pp)], M56)) rfl ?_
                          refine ml_if2 (S1 := (434, [(0, .ref m0), (1, .int i20_1), (2, .int (f1 f pp))], [], M56)) (S2 := (394, [(0, .ref m0), (1, .int i20_1), (2, .int (f1 f pp))], [], M56)) rfl rfl rfl (fun c_391 => ?_) (fun c_391 => ?_)
                          · have c_391 : ¬ (f1 f pp) = 6 := of_decide_eq_true c_391
                            refine ml_st (S' := (435, [(0, .ref m0), (1, .int i20_1), (2, .int (f1 f pp))], [.int 0], M56)) rfl rfl rfl ?_
                            refine ml_st (S' := (437, [(0, .ref m0), (1, .int i20_1), (2, .int (f1 f pp)), (5, .int 0)], [], M56)) rfl rfl rfl ?_
                            have L_437 : ∀ (n_437 : Nat) (i437_5 : Int32) (pq : Int32) (M_437 : mi_H) (I_437 : rI) (R_437 : rR), (2147483648 - i437_5.toInt).toNat ≤ n_437 → RS g m0 q z I_437 R_437 M_437 → eqI [47, 48, 50] I57 I_437 → eqR [] R51 R_437 → (I_437 50 = some pq ∧ 0 ≤ i437_5.toInt ∧ i437_5.toInt ≤ 2 ∧ pq.toInt = pp.toInt + 1 + 2 * i437_5.toInt ∧ pq.toInt ≤ n) → ml (mT g) d (mb_238 g).2 (437, [(0, .ref m0), (1, .int i20_1), (2, .int (f1 f pp)), (5, .int i437_5)], [], M_437) (fun v M' => ∃ (x : Int32) (I' : rI) (R' : rR), v = some (.int x) ∧ RS g m0 q z I' R' M' ∧ eqI [3, 8, 20, 47, 48, 50, 51] I I' ∧ eqR [1, 2, 4, 5, 6, 7, 21, 22] R R' ∧ (x = 0 ∨ x = 1) ∧ (x = 0 ∨ ∃ (S' cN' : Nat) (p1 : Int32), SYM S' cN' I' R' ∧ I' 50 = some p1 ∧ p0.toInt ≤ p1.toInt ∧ p1.toInt ≤ n ∧ I' 51 = some 0 ∧ PEN f n S' cp.toInt.toNat R')) := by
                              intro n_437
                              induction n_437 with
                              | zero => intro i437_5 pq M_437 I_437 R_437 hn; exact (loop_zero hn).elim
                              | succ n_437 ih_437 =>
                                intro i437_5 pq M_437 I_437 R_437 hn_437 hR_437 hI_437 hV_437 hi_437
                                obtain ⟨hq50, hq0, hq1, hqe, hqn⟩ := hi_437
                                have hno : ¬ (f1 f pp = 5 ∨ f1 f pp = 6) := fun h => h.elim c_385 c_391
                                refine ml_blk 3 (S' := (442, [(0, .ref m0), (1, .int i20_1), (2, .int (f1 f pp)), (5, .int i437_5)], [.int 9, .int (f1 f pp), .int i437_5], M_437)) rfl ?_
                                have J_468 : ∀ (s468_0 : Int32), (s468_0 = 2 ∨ s468_0 = 1 ∧ esz (f1 f pp) ≤ 3) → ml (mT g) d (mb_238 g).2 (468, [(0, .ref m0), (1, .int i20_1), (2, .int (f1 f pp)), (5, .int i437_5)], [.int s468_0, .int i437_5], M_437) (fun v M' => ∃ (x : Int32) (I' : rI) (R' : rR), v = some (.int x) ∧ RS g m0 q z I' R' M' ∧ eqI [3, 8, 20, 47, 48, 50, 51] I I' ∧ eqR [1, 2, 4, 5, 6, 7, 21, 22] R R' ∧ (x = 0 ∨ x = 1) ∧ (x = 0 ∨ ∃ (S' cN' : Nat) (p1 : Int32), SYM S' cN' I' R' ∧ I' 50 = some p1 ∧ p0.toInt ≤ p1.toInt ∧ p1.toInt ≤ n ∧ I' 51 = some 0 ∧ PEN f n S' cp.toInt.toNat R')) := by
                                  intro s468_0 hj_468
                                  refine ml_if2 (S1 := (499, [(0, .ref m0), (1, .int i20_1), (2, .int (f1 f pp))], [], M_437)) (S2 := (471, [(0, .ref m0), (1, .int i20_1), (2, .int (f1 f pp)), (5, .int i437_5)], [], M_437)) rfl rfl rfl (fun c_468 => ?_) (fun c_468 => ?_)
                                  · have c_468 : s468_0 ≤ i437_5 := of_decide_eq_true c_468
                                    have hZ104 : SYM Sx Cx I_437 R_437 := (((((hz20.mono (cIx hI35 (by decide)) (cRx hV36 (by decide))).mono (fun _ _ => rfl) (pRx f49 (by decide))).mono (fun _ _ => rfl) (pRx f55 (by decide))).mono (pIx f60 (by decide)) (fun _ _ => rfl)).mono (cIx hI_437 (by decide)) (cRx hV_437 (by decide)))
                                    exact J_499  _ _ _ hR_437 (eqI.rf.tr hI_437 (by decide)) (eqR.rf.tr hV_437 (by decide)) (⟨_, Sx, Cx, hq50, by have q := i_le c_468; rcases hj_468 with e | ⟨e, e3⟩; (rw [e] at q; have : (2 : Int32).toInt = 2 := rfl; have := esz_le5 hno; omega); (rw [e] at q; have : (1 : Int32).toInt = 1 := rfl; omega), by omega, hZ104, Nat.le_refl _, by have q := i_le c_468; rcases hj_468 with e | ⟨e, e3⟩; (rw [e] at q; have : (2 : Int32).toInt = 2 := rfl; omega); (rw [e] at q; have : (1 : Int32).toInt = 1 := rfl; omega), by have q := i_le c_468; rcases hj_468 with e | ⟨e, e3⟩; (rw [e] at q; have : (2 : Int32).toInt = 2 := rfl; omega); (rw [e] at q; have : (1 : Int32).toInt = 1 := rfl; omega), fun e => absurd e c_215, fun b _ => congrFun (hV_437 22 (by decide)) b⟩)
                                  · have c_468 : ¬ (s468_0 ≤ i437_5) := of_decide_eq_false c_468
                                    refine ml_blk 2 (S' := (475, [(0, .ref m0), (1, .int i20_1), (2, .int (f1 f pp)), (5, .int i437_5)], [.long 2, .ref m0], M_437)) rfl ?_
                                    have hF105 : FK n f I_437 R_437 := ((((hF40.mono (fun _ _ => rfl) (pRx f49 (by decide))).mono (fun _ _ => rfl) (pRx f55 (by decide))).mono (pIx f60 (by decide)) (fun _ _ => rfl)).mono (cIx hI_437 (by decide)) (cRx hV_437 (by decide)))
                                    refine ml_call (a := [.ref m0, .long 2]) (rest := []) rfl (hR_437.okc rfl rfl rfl) rfl rfl (rm_item hR_437 (hq50) hF105 (by omega) (by omega) (by decide) (by decide) (by omega)) (fun v106 M107 h108 => ?_)
                                    obtain ⟨u114, I109, R110, rfl, hR111, hI112, hV113, z115, w116⟩ := h108
                                    show ml _ _ _ (478, [(0, .ref m0), (1, .int i20_1), (2, .int (f1 f pp)), (5, .int i437_5)], [.int u114], M107) _
                                    refine ml_if (S1 := (483, [(0, .ref m0), (1, .int i20_1), (2, .int (f1 f pp)), (5, .int i437_5)], [], M107)) (S2 := (481, [(0, .ref m0), (1, .int i20_1), (2, .int (f1 f pp)), (5, .int i437_5)], [], M107)) rfl rfl rfl (fun c_478 => ?_) (fun c_478 => ?_)
                                    · have c_478 : ¬ u114 = 0 := of_decide_eq_true c_478
                                      have hb := w116.resolve_left c_478
                                      have hq4 : (pq + 2).toInt = pq.toInt + 2 := i_add (by have : (2 : Int32).toInt = 2 := rfl; omega) (by have : (2 : Int32).toInt = 2 := rfl; omega)
                                      have hq5 := inc_lt (Int32.not_le.mp c_468)
                                      have hq2 : i437_5.toInt < 2 := by have q := i_nle c_468; rcases hj_468 with e | ⟨e, -⟩; (rw [e] at q; have : (2 : Int32).toInt = 2 := rfl; omega); (rw [e] at q; have : (1 : Int32).toInt = 1 := rfl; omega)
                                      refine ml_blk 2 (S' := (485, [(0, .ref m0), (1, .int i20_1), (2, .int (f1 f pp)), (5, .int i437_5)], [.ref m0, .ref m0], M107)) rfl ?_
                                      refine rg_int (S' := (488, [(0, .ref m0), (1, .int i20_1), (2, .int (f1 f pp)), (5, .int i437_5)], [.int pq, .ref m0], M107)) rfl hR111 rfl ((hI112 50 (by decide)).trans (hq50)) rfl ?_
                                      refine ml_blk 2 (S' := (490, [(0, .ref m0), (1, .int i20_1), (2, .int (f1 f pp)), (5, .int i437_5)], [.int (pq + 2), .ref m0], M107)) rfl ?_
                                      refine rp_int rfl hR111 rfl (fun M117 I118 hR119 e120 f121 => ?_)
                                      show ml _ _ _ (493, [(0, .ref m0), (1, .int i20_1), (2, .int (f1 f pp)), (5, .int i437_5)], [], M117) _
                                      refine ml_st (S' := (496, [(5, .int (i437_5 + 1)), (0, .ref m0), (1, .int i20_1), (2, .int (f1 f pp))], [], M117)) rfl rfl rfl ?_
                                      refine ml_st (S' := (437, [(0, .ref m0), (1, .int i20_1), (2, .int (f1 f pp)), (5, .int (i437_5 + 1))], [], M117)) rfl rfl rfl ?_
                                      exact ih_437 (i437_5 + 1) (pq + 2) _ _ _ (loop_inc (Int32.not_le.mp c_468) hn_437) hR119 (((eqI.rf.tr hI_437 (by decide)).tr hI112 (by decide)).put f121 (by decide)) ((eqR.rf.tr hV_437 (by decide)).tr hV113 (by decide)) (⟨e120, by rw [hq5]; omega, by rw [hq5]; omega, by rw [hq5]; omega, by omega⟩)
                                    · have c_478 : ¬ (¬ u114 = 0) := of_decide_eq_false c_478
                                      refine ml_st (S' := (482, [(0, .ref m0), (1, .int i20_1), (2, .int (f1 f pp)), (5, .int i437_5)], [.int 0], M107)) rfl rfl rfl ?_
                                      exact ml_ret rfl (r_z (Or.inl rfl)) (⟨_, _, _, rfl, hR111, ((((((eqI.rf.put f15 (by decide)).tr hI_20 (by decide)).tr hI35 (by decide)).put f60 (by decide)).tr hI_437 (by decide)).tr hI112 (by decide)), (((((((eqR.rf.put f21 (by decide)).tr hV_20 (by decide)).tr hV36 (by decide)).put f49 (by decide)).put f55 (by decide)).tr hV_437 (by decide)).tr hV113 (by decide)), Or.inl rfl, Or.inl rfl⟩)
                                have J_463 : ml (mT g) d (mb_238 g).2 (463, [(0, .ref m0), (1, .int i20_1), (2, .int (f1 f pp)), (5, .int i437_5)], [.int i437_5], M_437) (fun v M' => ∃ (x : Int32) (I' : rI) (R' : rR), v = some (.int x) ∧ RS g m0 q z I' R' M' ∧ eqI [3, 8, 20, 47, 48, 50, 51] I I' ∧ eqR [1, 2, 4, 5, 6, 7, 21, 22] R R' ∧ (x = 0 ∨ x = 1) ∧ (x = 0 ∨ ∃ (S' cN' : Nat) (p1 : Int32), SYM S' cN' I' R' ∧ I' 50 = some p1 ∧ p0.toInt ≤ p1.toInt ∧ p1.toInt ≤ n ∧ I' 51 = some 0 ∧ PEN f n S' cp.toInt.toNat R')) := by
                                  refine ml_st (S' := (464, [(0, .ref m0), (1, .int i20_1), (2, .int (f1 f pp)), (5, .int i437_5)], [.int 2, .int i437_5], M_437)) rfl rfl rfl ?_
                                  refine ml_st (S' := (468, [(0, .ref m0), (1, .int i20_1), (2, .int (f1 f pp)), (5, .int i437_5)], [.int 2, .int i437_5], M_437)) rfl rfl rfl ?_
                                  exact J_468 2 (Or.inl rfl)
                                have J_451 : (f1 f pp < 9 ∨ 12 < f1 f pp) → ml (mT g) d (mb_238 g).2 (451, [(0, .ref m0), (1, .int i20_1), (2, .int (f1 f pp)), (5, .int i437_5)], [.int i437_5], M_437) (fun v M' => ∃ (x : Int32) (I' : rI) (R' : rR), v = some (.int x) ∧ RS g m0 q z I' R' M' ∧ eqI [3, 8, 20, 47, 48, 50, 51] I I' ∧ eqR [1, 2, 4, 5, 6, 7, 21, 22] R R' ∧ (x = 0 ∨ x = 1) ∧ (x = 0 ∨ ∃ (S' cN' : Nat) (p1 : Int32), SYM S' cN' I' R' ∧ I' 50 = some p1 ∧ p0.toInt ≤ p1.toInt ∧ p1.toInt ≤ n ∧ I' 51 = some 0 ∧ PEN f n S' cp.toInt.toNat R')) := by
                                  intro hj_451
                                  refine ml_blk 2 (S' := (454, [(0, .ref m0), (1, .int i20_1), (2, .int (f1 f pp)), (5, .int i437_5)], [.int 17, .int (f1 f pp), .int i437_5], M_437)) rfl ?_
                                  refine ml_if2 (S1 := (463, [(0, .ref m0), (1, .int i20_1), (2, .int (f1 f pp)), (5, .int i437_5)], [.int i437_5], M_437)) (S2 := (457, [(0, .ref m0), (1, .int i20_1), (2, .int (f1 f pp)), (5, .int i437_5)], [.int i437_5], M_437)) rfl rfl rfl (fun c_454 => ?_) (fun c_454 => ?_)
                                  · have c_454 : (f1 f pp) = 17 := of_decide_eq_true c_454
                                    exact J_463 
                                  · have c_454 : ¬ ((f1 f pp) = 17) := of_decide_eq_false c_454
                                    refine ml_blk 2 (S' := (460, [(0, .ref m0), (1, .int i20_1), (2, .int (f1 f pp)), (5, .int i437_5)], [.int 18, .int (f1 f pp), .int i437_5], M_437)) rfl ?_
                                    refine ml_if2 (S1 := (467, [(0, .ref m0), (1, .int i20_1), (2, .int (f1 f pp)), (5, .int i437_5)], [.int i437_5], M_437)) (S2 := (463, [(0, .ref m0), (1, .int i20_1), (2, .int (f1 f pp)), (5, .int i437_5)], [.int i437_5], M_437)) rfl rfl rfl (fun c_460 => ?_) (fun c_460 => ?_)
                                    · have c_460 : ¬ (f1 f pp) = 18 := of_decide_eq_true c_460
                                      refine ml_st (S' := (468, [(0, .ref m0), (1, .int i20_1), (2, .int (f1 f pp)), (5, .int i437_5)], [.int 1, .int i437_5], M_437)) rfl rfl rfl ?_
                                      exact J_468 1 (Or.inr ⟨rfl, esz3 hgt hj_451 c_300 c_454 c_460 ⟨c_350, c_355⟩ ⟨c_385, c_391⟩⟩)
                                    · have c_460 : ¬ (¬ (f1 f pp) = 18) := of_decide_eq_false c_460
                                      exact J_463 
                                refine ml_if2 (S1 := (451, [(0, .ref m0), (1, .int i20_1), (2, .int (f1 f pp)), (5, .int i437_5)], [.int i437_5], M_437)) (S2 := (445, [(0, .ref m0), (1, .int i20_1), (2, .int (f1 f pp)), (5, .int i437_5)], [.int i437_5], M_437)) rfl rfl rfl (fun c_442 => ?_) (fun c_442 => ?_)
                                · have c_442 : (f1 f pp) < 9 := of_decide_eq_true c_442
                                  exact J_451  (Or.inl c_442)
                                · have c_442 : ¬ ((f1 f pp) < 9) := of_decide_eq_false c_442
                                  refine ml_blk 2 (S' := (448, [(0, .ref m0), (1, .int i20_1), (2, .int (f1 f pp)), (5, .int i437_5)], [.int 12, .int (f1 f pp), .int i437_5], M_437)) rfl ?_
                                  refine ml_if2 (S1 := (463, [(0, .ref m0), (1, .int i20_1), (2, .int (f1 f pp)), (5, .int i437_5)], [.int i437_5], M_437)) (S2 := (451, [(0, .ref m0), (1, .int i20_1), (2, .int (f1 f pp)), (5, .int i437_5)], [.int i437_5], M_437)) rfl rfl rfl (fun c_448 => ?_) (fun c_448 => ?_)
                                  · have c_448 : (f1 f pp) ≤ 12 := of_decide_eq_true c_448
                                    exact J_463 
                                  · have c_448 : ¬ ((f1 f pp) ≤ 12) := of_decide_eq_false c_448
                                    exact J_451  (Or.inr (Int32.not_le.mp c_448))
                            exact L_437 _ 0 (pp + 1) _ _ _ (Nat.le_refl _) hR58 eqI.rf eqR.rf (⟨e59, by decide, by decide, by show _ = pp.toInt + 1 + 2 * 0; omega, by omega⟩)
                          · have c_391 : ¬ (¬ (f1 f pp) = 6) := of_decide_eq_false c_391
                            exact J_394  (Or.inr (Decidable.not_not.mp c_391))
                      · have c_355 : ¬ (¬ (f1 f pp) = 4) := of_decide_eq_false c_355
                        exact J_358  (Or.inr (Decidable.not_not.mp c_355))
                  · have c_300 : ¬ (¬ (f1 f pp) = 15) := of_decide_eq_false c_300
                    refine ml_blk 2 (S' := (305, [(0, .ref m0), (1, .int i20_1), (2, .int (f1 f pp))], [.long 1, .ref m0], M56)) rfl ?_
                    have hF122 : FK n f I57 R51 := (((hF40.mono (fun _ _ => rfl) (pRx f49 (by decide))).mono (fun _ _ => rfl) (pRx f55 (by decide))).mono (pIx f60 (by decide)) (fun _ _ => rfl))
                    refine ml_call (a := [.ref m0, .long 1]) (rest := []) rfl (hR58.okc rfl rfl rfl) rfl rfl (rm_item hR58 (e59) hF122 (by omega) (by omega) (by decide) (by decide) (by omega)) (fun v123 M124 h125 => ?_)
                    obtain ⟨u131, I126, R127, rfl, hR128, hI129, hV130, z132, w133⟩ := h125
                    show ml _ _ _ (308, [(0, .ref m0), (1, .int i20_1), (2, .int (f1 f pp))], [.int u131], M124) _
                    refine ml_if (S1 := (313, [(0, .ref m0), (1, .int i20_1), (2, .int (f1 f pp))], [], M124)) (S2 := (311, [(0, .ref m0), (1, .int i20_1), (2, .int (f1 f pp))], [], M124)) rfl rfl rfl (fun c_308 => ?_) (fun c_308 => ?_)
                    · have c_308 : ¬ u131 = 0 := of_decide_eq_true c_308
                      have hb := w133.resolve_left c_308
                      have hp3 : (pp + 1 + 1).toInt = pp.toInt + 2 := by rw [i_add (by have : (1 : Int32).toInt = 1 := rfl; omega) (by have : (1 : Int32).toInt = 1 := rfl; omega), hp1]; have : (1 : Int32).toInt = 1 := rfl; omega
                      refine ml_blk 2 (S' := (315, [(0, .ref m0), (1, .int i20_1), (2, .int (f1 f pp))], [.ref m0, .ref m0], M124)) rfl ?_
                      refine rg_int (S' := (318, [(0, .ref m0), (1, .int i20_1), (2, .int (f1 f pp))], [.int (pp + 1), .ref m0], M124)) rfl hR128 rfl ((hI129 50 (by decide)).trans (e59)) rfl ?_
                      refine ml_blk 2 (S' := (320, [(0, .ref m0), (1, .int i20_1), (2, .int (f1 f pp))], [.int ((pp + 1) + 1), .ref m0], M124)) rfl ?_
                      refine rp_int rfl hR128 rfl (fun M134 I135 hR136 e137 f138 => ?_)
                      show ml _ _ _ (323, [(0, .ref m0), (1, .int i20_1), (2, .int (f1 f pp))], [], M134) _
                      refine ml_blk 2 (S' := (327, [(0, .ref m0), (1, .int i20_1), (2, .int (f1 f pp))], [.long 2, .ref m0], M134)) rfl ?_
                      have hF139 : FK n f I135 R127 := ((hF122.mono (cIx hI129 (by decide)) (cRx hV130 (by decide))).mono (pIx f138 (by decide)) (fun _ _ => rfl))
                      refine ml_call (a := [.ref m0, .long 2]) (rest := []) rfl (hR136.okc rfl rfl rfl) rfl rfl (rm_item hR136 (e137) hF139 (by omega) (by omega) (by decide) (by decide) (by omega)) (fun v140 M141 h142 => ?_)
                      obtain ⟨u148, I143, R144, rfl, hR145, hI146, hV147, z149, w150⟩ := h142
                      show ml _ _ _ (330, [(0, .ref m0), (1, .int i20_1), (2, .int (f1 f pp))], [.int u148], M141) _
                      refine ml_if (S1 := (335, [(0, .ref m0), (1, .int i20_1), (2, .int (f1 f pp))], [], M141)) (S2 := (333, [(0, .ref m0), (1, .int i20_1), (2, .int (f1 f pp))], [], M141)) rfl rfl rfl (fun c_330 => ?_) (fun c_330 => ?_)
                      · have c_330 : ¬ u148 = 0 := of_decide_eq_true c_330
                        have hc := w150.resolve_left c_330
                        have hp5 : (pp + 1 + 1 + 2).toInt = pp.toInt + 4 := by rw [i_add (by have : (2 : Int32).toInt = 2 := rfl; omega) (by have : (2 : Int32).toInt = 2 := rfl; omega), hp3]; have : (2 : Int32).toInt = 2 := rfl; omega
                        refine ml_blk 2 (S' := (337, [(0, .ref m0), (1, .int i20_1), (2, .int (f1 f pp))], [.ref m0, .ref m0], M141)) rfl ?_
                        refine rg_int (S' := (340, [(0, .ref m0), (1, .int i20_1), (2, .int (f1 f pp))], [.int ((pp + 1) + 1), .ref m0], M141)) rfl hR145 rfl ((hI146 50 (by decide)).trans (e137)) rfl ?_
                        refine ml_blk 2 (S' := (342, [(0, .ref m0), (1, .int i20_1), (2, .int (f1 f pp))], [.int (((pp + 1) + 1) + 2), .ref m0], M141)) rfl ?_
                        refine rp_int rfl hR145 rfl (fun M151 I152 hR153 e154 f155 => ?_)
                        show ml _ _ _ (345, [(0, .ref m0), (1, .int i20_1), (2, .int (f1 f pp))], [], M151) _
                        refine ml_st (S' := (499, [(0, .ref m0), (1, .int i20_1), (2, .int (f1 f pp))], [], M151)) rfl rfl rfl ?_
                        have hZ156 : SYM Sx Cx I152 R144 := ((((((((hz20.mono (cIx hI35 (by decide)) (cRx hV36 (by decide))).mono (fun _ _ => rfl) (pRx f49 (by decide))).mono (fun _ _ => rfl) (pRx f55 (by decide))).mono (pIx f60 (by decide)) (fun _ _ => rfl)).mono (cIx hI129 (by decide)) (cRx hV130 (by decide))).mono (pIx f138 (by decide)) (fun _ _ => rfl)).mono (cIx hI146 (by decide)) (cRx hV147 (by decide))).mono (pIx f155 (by decide)) (fun _ _ => rfl))
                        exact J_499  _ _ _ hR153 ((((eqI.rf.tr hI129 (by decide)).put f138 (by decide)).tr hI146 (by decide)).put f155 (by decide)) ((eqR.rf.tr hV130 (by decide)).tr hV147 (by decide)) (⟨_, Sx, Cx, e154, by rw [hp5, show esz (f1 f pp) = 4 by rw [Decidable.not_not.mp c_300]; rfl]; omega, by rw [hp5]; omega, hZ156, Nat.le_refl _, by rw [hp5]; omega, by rw [hp5]; omega, fun e => absurd e c_215, fun b _ => congrFun ((hV147 22 (by decide)).trans (hV130 22 (by decide))) b⟩)
                      · have c_330 : ¬ (¬ u148 = 0) := of_decide_eq_false c_330
                        refine ml_st (S' := (334, [(0, .ref m0), (1, .int i20_1), (2, .int (f1 f pp))], [.int 0], M141)) rfl rfl rfl ?_
                        exact ml_ret rfl (r_z (Or.inl rfl)) (⟨_, _, _, rfl, hR145, (((((((eqI.rf.put f15 (by decide)).tr hI_20 (by decide)).tr hI35 (by decide)).put f60 (by decide)).tr hI129 (by decide)).put f138 (by decide)).tr hI146 (by decide)), (((((((eqR.rf.put f21 (by decide)).tr hV_20 (by decide)).tr hV36 (by decide)).put f49 (by decide)).put f55 (by decide)).tr hV130 (by decide)).tr hV147 (by decide)), Or.inl rfl, Or.inl rfl⟩)
                    · have c_308 : ¬ (¬ u131 = 0) := of_decide_eq_false c_308
                      refine ml_st (S' := (312, [(0, .ref m0), (1, .int i20_1), (2, .int (f1 f pp))], [.int 0], M124)) rfl rfl rfl ?_
                      exact ml_ret rfl (r_z (Or.inl rfl)) (⟨_, _, _, rfl, hR128, (((((eqI.rf.put f15 (by decide)).tr hI_20 (by decide)).tr hI35 (by decide)).put f60 (by decide)).tr hI129 (by decide)), ((((((eqR.rf.put f21 (by decide)).tr hV_20 (by decide)).tr hV36 (by decide)).put f49 (by decide)).put f55 (by decide)).tr hV130 (by decide)), Or.inl rfl, Or.inl rfl⟩)
                · have c_215 : ¬ (¬ (f1 f pp) = 1) := of_decide_eq_false c_215
                  refine ml_blk 2 (S' := (222, [(0, .ref m0), (1, .int i20_1), (2, .int (f1 f pp))], [.long 2, .ref m0], M56)) rfl ?_
                  have hF157 : FK n f I57 R51 := (((hF40.mono (fun _ _ => rfl) (pRx f49 (by decide))).mono (fun _ _ => rfl) (pRx f55 (by decide))).mono (pIx f60 (by decide)) (fun _ _ => rfl))
                  refine ml_call (a := [.ref m0, .long 2]) (rest := []) rfl (hR58.okc rfl rfl rfl) rfl rfl (rm_item hR58 (e59) hF157 (by omega) (by omega) (by decide) (by decide) (by omega)) (fun v158 M159 h160 => ?_)
                  obtain ⟨u166, I161, R162, rfl, hR163, hI164, hV165, z167, w168⟩ := h160
                  show ml _ _ _ (225, [(0, .ref m0), (1, .int i20_1), (2, .int (f1 f pp))], [.int u166], M159) _
                  refine ml_if (S1 := (230, [(0, .ref m0), (1, .int i20_1), (2, .int (f1 f pp))], [], M159)) (S2 := (228, [(0, .ref m0), (1, .int i20_1), (2, .int (f1 f pp))], [], M159)) rfl rfl rfl (fun c_225 => ?_) (fun c_225 => ?_)
                  · have c_225 : ¬ u166 = 0 := of_decide_eq_true c_225
                    have hb := w168.resolve_left c_225
                    have hp3 : (pp + 1 + 2).toInt = pp.toInt + 3 := by rw [i_add (by have : (2 : Int32).toInt = 2 := rfl; omega) (by have : (2 : Int32).toInt = 2 := rfl; omega), hp1]; have : (2 : Int32).toInt = 2 := rfl; omega
                    refine ml_blk 2 (S' := (232, [(0, .ref m0), (1, .int i20_1), (2, .int (f1 f pp))], [.ref m0, .ref m0], M159)) rfl ?_
                    refine rg_int (S' := (235, [(0, .ref m0), (1, .int i20_1), (2, .int (f1 f pp))], [.int (pp + 1), .ref m0], M159)) rfl hR163 rfl ((hI164 50 (by decide)).trans (e59)) rfl ?_
                    have hF169 : FK n f I161 R162 := (hF157.mono (cIx hI164 (by decide)) (cRx hV165 (by decide)))
                    refine ml_call (a := [.ref m0, .int (pp + 1)]) (rest := []) rfl (hR163.okc rfl rfl rfl) rfl rfl (rm_u2 hR163 hF169 (by omega) (by omega) (by omega)) (fun v170 M171 h172 => ?_)
                    obtain ⟨rfl, h172⟩ := h172
                    rw [h172]
                    show ml _ _ _ (238, [(0, .ref m0), (1, .int i20_1), (2, .int (f1 f pp))], [.int (f2 f (pp + 1))], M159) _
                    refine ml_st (S' := (240, [(5, .int (f2 f (pp + 1))), (0, .ref m0), (1, .int i20_1), (2, .int (f1 f pp))], [], M159)) rfl rfl rfl ?_
                    refine ml_blk 2 (S' := (242, [(5, .int (f2 f (pp + 1))), (0, .ref m0), (1, .int i20_1), (2, .int (f1 f pp))], [.ref m0, .ref m0], M159)) rfl ?_
                    refine rg_int (S' := (245, [(5, .int (f2 f (pp + 1))), (0, .ref m0), (1, .int i20_1), (2, .int (f1 f pp))], [.int (pp + 1), .ref m0], M159)) rfl hR163 rfl ((hI164 50 (by decide)).trans (e59)) rfl ?_
                    refine ml_blk 2 (S' := (247, [(5, .int (f2 f (pp + 1))), (0, .ref m0), (1, .int i20_1), (2, .int (f1 f pp))], [.int ((pp + 1) + 2), .ref m0], M159)) rfl ?_
                    refine rp_int rfl hR163 rfl (fun M173 I174 hR175 e176 f177 => ?_)
                    show ml _ _ _ (250, [(5, .int (f2 f (pp + 1))), (0, .ref m0), (1, .int i20_1), (2, .int (f1 f pp))], [], M173) _
                    refine ml_blk 3 (S' := (254, [(5, .int (f2 f (pp + 1))), (0, .ref m0), (1, .int i20_1), (2, .int (f1 f pp))], [.long (Int32.toInt64 (f2 f (pp + 1))), .ref m0], M173)) rfl ?_
                    have hF178 : FK n f I174 R162 := (hF169.mono (pIx f177 (by decide)) (fun _ _ => rfl))
                    refine ml_call (a := [.ref m0, .long (Int32.toInt64 (f2 f (pp + 1)))]) (rest := []) rfl (hR175.okc rfl rfl rfl) rfl rfl (rm_item hR175 (e176) hF178 (by omega) (by omega) (by rw [l_of]; exact f2_pos) (by rw [l_of]; have := f2_le (f := f) (x := pp + 1); omega) (by omega)) (fun v179 M180 h181 => ?_)
                    obtain ⟨u187, I182, R183, rfl, hR184, hI185, hV186, z188, w189⟩ := h181
                    show ml _ _ _ (257, [(5, .int (f2 f (pp + 1))), (0, .ref m0), (1, .int i20_1), (2, .int (f1 f pp))], [.int u187], M180) _
                    refine ml_if (S1 := (262, [(5, .int (f2 f (pp + 1))), (0, .ref m0), (1, .int i20_1), (2, .int (f1 f pp))], [], M180)) (S2 := (260, [(5, .int (f2 f (pp + 1))), (0, .ref m0), (1, .int i20_1), (2, .int (f1 f pp))], [], M180)) rfl rfl rfl (fun c_257 => ?_) (fun c_257 => ?_)
                    · have c_257 : ¬ u187 = 0 := of_decide_eq_true c_257
                      have hc := w189.resolve_left c_257
                      rw [l_of] at hc
                      have hl0 := f2_pos (f := f) (x := pp + 1)
                      have hl1 := f2_le (f := f) (x := pp + 1)
                      refine ml_blk 2 (S' := (264, [(5, .int (f2 f (pp + 1))), (0, .ref m0), (1, .int i20_1), (2, .int (f1 f pp))], [.ref m0, .ref m0], M180)) rfl ?_
                      refine rg_int (S' := (267, [(5, .int (f2 f (pp + 1))), (0, .ref m0), (1, .int i20_1), (2, .int (f1 f pp))], [.int 0, .ref m0], M180)) rfl hR184 rfl ((hI185 51 (by decide)).trans ((f177 51 (by decide)).trans ((hI164 51 (by decide)).trans ((f60 51 (by decide)).trans ((hI35 51 (by decide)).trans ((hI_20 51 (by decide)).trans (e14))))))) rfl ?_
                      refine ml_blk 3 (S' := (270, [(5, .int (f2 f (pp + 1))), (0, .ref m0), (1, .int i20_1), (2, .int (f1 f pp))], [.ref m0, .int (0 + i20_1), .ref m0], M180)) rfl ?_
                      refine rg_int (S' := (273, [(5, .int (f2 f (pp + 1))), (0, .ref m0), (1, .int i20_1), (2, .int (f1 f pp))], [.int ((pp + 1) + 2), .int (0 + i20_1), .ref m0], M180)) rfl hR184 rfl ((hI185 50 (by decide)).trans (e176)) rfl ?_
                      refine ml_st (S' := (275, [(5, .int (f2 f (pp + 1))), (0, .ref m0), (1, .int i20_1), (2, .int (f1 f pp))], [.int (f2 f (pp + 1)), .int ((pp + 1) + 2), .int (0 + i20_1), .ref m0], M180)) rfl rfl rfl ?_
                      have hF190 : FK n f I182 R183 := (hF178.mono (cIx hI185 (by decide)) (cRx hV186 (by decide)))
                      have hZ191 : SYM Sx Cx I182 R183 := (((((((hz20.mono (cIx hI35 (by decide)) (cRx hV36 (by decide))).mono (fun _ _ => rfl) (pRx f49 (by decide))).mono (fun _ _ => rfl) (pRx f55 (by decide))).mono (pIx f60 (by decide)) (fun _ _ => rfl)).mono (cIx hI164 (by decide)) (cRx hV165 (by decide))).mono (pIx f177 (by decide)) (fun _ _ => rfl)).mono (cIx hI185 (by decide)) (cRx hV186 (by decide)))
                      refine ml_call (a := [.ref m0, .int (0 + i20_1), .int ((pp + 1) + 2), .int (f2 f (pp + 1))]) (rest := []) rfl (hR184.okc rfl rfl rfl) rfl rfl (rm_utf8 hR184 hF190 hZ191 (by rw [z_add]; omega) (by rw [z_add]; omega) (by omega) (f2_pos) (by omega) (by omega) (by omega) (by omega)) (fun v192 M193 h194 => ?_)
                      obtain ⟨u200, I195, R196, rfl, hR197, hI198, hV199, z201, w202⟩ := h194
                      show ml _ _ _ (278, [(5, .int (f2 f (pp + 1))), (0, .ref m0), (1, .int i20_1), (2, .int (f1 f pp))], [.int u200], M193) _
                      refine ml_if (S1 := (283, [(5, .int (f2 f (pp + 1))), (0, .ref m0), (1, .int i20_1), (2, .int (f1 f pp))], [], M193)) (S2 := (281, [(5, .int (f2 f (pp + 1))), (0, .ref m0), (1, .int i20_1), (2, .int (f1 f pp))], [], M193)) rfl rfl rfl (fun c_278 => ?_) (fun c_278 => ?_)
                      · have c_278 : ¬ u200 = 0 := of_decide_eq_true c_278
                        obtain ⟨S9, c9, hz9, hs0, hs1, hc1, ⟨sy9, hsy, hsy0, hsy1⟩, hoth⟩ := w202.resolve_left c_278
                        rw [z_nat] at hsy hoth
                        have hp5 : (pp + 1 + 2 + (f2 f (pp + 1))).toInt = pp.toInt + 3 + (f2 f (pp + 1)).toInt := by rw [i_add (by omega) (by omega), hp3]
                        refine ml_blk 2 (S' := (285, [(5, .int (f2 f (pp + 1))), (0, .ref m0), (1, .int i20_1), (2, .int (f1 f pp))], [.ref m0, .ref m0], M193)) rfl ?_
                        refine rg_int (S' := (288, [(5, .int (f2 f (pp + 1))), (0, .ref m0), (1, .int i20_1), (2, .int (f1 f pp))], [.int ((pp + 1) + 2), .ref m0], M193)) rfl hR197 rfl ((hI198 50 (by decide)).trans ((hI185 50 (by decide)).trans (e176))) rfl ?_
                        refine ml_blk 2 (S' := (291, [(5, .int (f2 f (pp + 1))), (0, .ref m0), (1, .int i20_1), (2, .int (f1 f pp))], [.int (((pp + 1) + 2) + (f2 f (pp + 1))), .ref m0], M193)) rfl ?_
                        refine rp_int rfl hR197 rfl (fun M203 I204 hR205 e206 f207 => ?_)
                        show ml _ _ _ (294, [(5, .int (f2 f (pp + 1))), (0, .ref m0), (1, .int i20_1), (2, .int (f1 f pp))], [], M203) _
                        refine ml_st (S' := (499, [(0, .ref m0), (1, .int i20_1), (2, .int (f1 f pp))], [], M203)) rfl rfl rfl ?_
                        have hZ208 : SYM S9 c9 I204 R196 := (hz9.mono (pIx f207 (by decide)) (fun _ _ => rfl))
                        exact J_499  _ _ _ hR205 (((((eqI.rf.tr hI164 (by decide)).put f177 (by decide)).tr hI185 (by decide)).tr hI198 (by decide)).put f207 (by decide)) (((eqR.rf.tr hV165 (by decide)).tr hV186 (by decide)).tr hV199 (by decide)) (⟨_, S9, c9, e206, by rw [hp5, show esz (f1 f pp) = 3 by rw [Decidable.not_not.mp c_215]; rfl]; omega, by rw [hp5]; omega, hZ208, hs0, by rw [hp5]; omega, by rw [hp5]; omega, fun _ => ⟨sy9, hsy, hsy0, hsy1⟩, fun b hb => (hoth b hb).trans (congrFun ((hV186 22 (by decide)).trans (hV165 22 (by decide))) b)⟩)
                      · have c_278 : ¬ (¬ u200 = 0) := of_decide_eq_false c_278
                        refine ml_st (S' := (282, [(5, .int (f2 f (pp + 1))), (0, .ref m0), (1, .int i20_1), (2, .int (f1 f pp))], [.int 0], M193)) rfl rfl rfl ?_
                        exact ml_ret rfl (r_z (Or.inl rfl)) (⟨_, _, _, rfl, hR197, ((((((((eqI.rf.put f15 (by decide)).tr hI_20 (by decide)).tr hI35 (by decide)).put f60 (by decide)).tr hI164 (by decide)).put f177 (by decide)).tr hI185 (by decide)).tr hI198 (by decide)), ((((((((eqR.rf.put f21 (by decide)).tr hV_20 (by decide)).tr hV36 (by decide)).put f49 (by decide)).put f55 (by decide)).tr hV165 (by decide)).tr hV186 (by decide)).tr hV199 (by decide)), Or.inl rfl, Or.inl rfl⟩)
                    · have c_257 : ¬ (¬ u187 = 0) := of_decide_eq_false c_257
                      refine ml_st (S' := (261, [(5, .int (f2 f (pp + 1))), (0, .ref m0), (1, .int i20_1), (2, .int (f1 f pp))], [.int 0], M180)) rfl rfl rfl ?_
                      exact ml_ret rfl (r_z (Or.inl rfl)) (⟨_, _, _, rfl, hR184, (((((((eqI.rf.put f15 (by decide)).tr hI_20 (by decide)).tr hI35 (by decide)).put f60 (by decide)).tr hI164 (by decide)).put f177 (by decide)).tr hI185 (by decide)), (((((((eqR.rf.put f21 (by decide)).tr hV_20 (by decide)).tr hV36 (by decide)).put f49 (by decide)).put f55 (by decide)).tr hV165 (by decide)).tr hV186 (by decide)), Or.inl rfl, Or.inl rfl⟩)
                  · have c_225 : ¬ (¬ u166 = 0) := of_decide_eq_false c_225
                    refine ml_st (S' := (229, [(0, .ref m0), (1, .int i20_1), (2, .int (f1 f pp))], [.int 0], M159)) rfl rfl rfl ?_
                    exact ml_ret rfl (r_z (Or.inl rfl)) (⟨_, _, _, rfl, hR163, (((((eqI.rf.put f15 (by decide)).tr hI_20 (by decide)).tr hI35 (by decide)).put f60 (by decide)).tr hI164 (by decide)), ((((((eqR.rf.put f21 (by decide)).tr hV_20 (by decide)).tr hV36 (by decide)).put f49 (by decide)).put f55 (by decide)).tr hV165 (by decide)), Or.inl rfl, Or.inl rfl⟩)
              have J_185 : ml (mT g) d (mb_238 g).2 (185, [(0, .ref m0), (1, .int i20_1), (2, .int (f1 f pp)), (3, .int pp)], [], M50) (fun v M' => ∃ (x : Int32) (I' : rI) (R' : rR), v = some (.int x) ∧ RS g m0 q z I' R' M' ∧ eqI [3, 8, 20, 47, 48, 50, 51] I I' ∧ eqR [1, 2, 4, 5, 6, 7, 21, 22] R R' ∧ (x = 0 ∨ x = 1) ∧ (x = 0 ∨ ∃ (S' cN' : Nat) (p1 : Int32), SYM S' cN' I' R' ∧ I' 50 = some p1 ∧ p0.toInt ≤ p1.toInt ∧ p1.toInt ≤ n ∧ I' 51 = some 0 ∧ PEN f n S' cp.toInt.toNat R')) := by
                refine ml_blk 3 (S' := (188, [(0, .ref m0), (1, .int i20_1), (2, .int (f1 f pp)), (3, .int pp)], [.int (i20_1 + 1)], M50)) rfl ?_
                refine ml_st (S' := (189, [(0, .ref m0), (1, .int i20_1), (2, .int (f1 f pp)), (3, .int pp)], [.ref m0, .int (i20_1 + 1)], M50)) rfl rfl rfl ?_
                refine rg_int (S' := (192, [(0, .ref m0), (1, .int i20_1), (2, .int (f1 f pp)), (3, .int pp)], [.int cp, .int (i20_1 + 1)], M50)) rfl hR52 rfl ((hI35 52 (by decide)).trans ((hI_20 52 (by decide)).trans ((f15 52 (by decide)).trans (hk52)))) rfl ?_
                refine ml_if2 (S1 := (203, [(0, .ref m0), (1, .int i20_1), (2, .int (f1 f pp))], [], M50)) (S2 := (195, [(0, .ref m0), (1, .int i20_1), (2, .int (f1 f pp)), (3, .int pp)], [], M50)) rfl rfl rfl (fun c_192 => ?_) (fun c_192 => ?_)
                · have c_192 : (i20_1 + 1) < cp := of_decide_eq_true c_192
                  exact J_203  (fun _ => by have q := i_lt c_192; omega)
                · have c_192 : ¬ ((i20_1 + 1) < cp) := of_decide_eq_false c_192
                  refine ml_blk 3 (S' := (199, [(0, .ref m0), (1, .int i20_1), (2, .int (f1 f pp)), (3, .int pp)], [.int pp, .int 7, .ref m0], M50)) rfl ?_
                  refine ml_call (a := [.ref m0, .int 7, .int pp]) (rest := []) rfl (hR52.okc rfl rfl rfl) rfl rfl (rm_wrong hR52 (by omega)) (fun v209 M210 h211 => ?_)
                  obtain ⟨u217, I212, R213, rfl, hR214, hI215, hV216, z218, w219⟩ := h211
                  show ml _ _ _ (202, [(0, .ref m0), (1, .int i20_1), (2, .int (f1 f pp)), (3, .int pp)], [.int u217], M210) _
                  exact ml_ret rfl (r_z (z218)) (⟨_, _, _, rfl, hR214, ((((eqI.rf.put f15 (by decide)).tr hI_20 (by decide)).tr hI35 (by decide)).tr hI215 (by decide)), ((((((eqR.rf.put f21 (by decide)).tr hV_20 (by decide)).tr hV36 (by decide)).put f49 (by decide)).put f55 (by decide)).tr hV216 (by decide)), z218, Or.inl w219⟩)
              refine ml_if2 (S1 := (185, [(0, .ref m0), (1, .int i20_1), (2, .int (f1 f pp)), (3, .int pp)], [], M50)) (S2 := (179, [(4, .int s160_0), (0, .ref m0), (1, .int i20_1), (2, .int (f1 f pp)), (3, .int pp)], [], M50)) rfl rfl rfl (fun c_176 => ?_) (fun c_176 => ?_)
              · have c_176 : (f1 f pp) = 5 := of_decide_eq_true c_176
                exact J_185 
              · have c_176 : ¬ ((f1 f pp) = 5) := of_decide_eq_false c_176
                refine ml_blk 2 (S' := (182, [(4, .int s160_0), (0, .ref m0), (1, .int i20_1), (2, .int (f1 f pp)), (3, .int pp)], [.int 6, .int (f1 f pp)], M50)) rfl ?_
                refine ml_if2 (S1 := (203, [(0, .ref m0), (1, .int i20_1), (2, .int (f1 f pp))], [], M50)) (S2 := (185, [(0, .ref m0), (1, .int i20_1), (2, .int (f1 f pp)), (3, .int pp)], [], M50)) rfl rfl rfl (fun c_182 => ?_) (fun c_182 => ?_)
                · have c_182 : ¬ (f1 f pp) = 6 := of_decide_eq_true c_182
                  exact J_203  (fun h => (h.elim c_176 c_182).elim)
                · have c_182 : ¬ (¬ (f1 f pp) = 6) := of_decide_eq_false c_182
                  exact J_185 
            · have c_164 : ¬ (¬ s160_0 = 0) := of_decide_eq_false c_164
              refine ml_blk 3 (S' := (170, [(4, .int s160_0), (0, .ref m0), (1, .int i20_1), (2, .int (f1 f pp)), (3, .int pp)], [.int pp, .int 5, .ref m0], M50)) rfl ?_
              refine ml_call (a := [.ref m0, .int 5, .int pp]) (rest := []) rfl (hR52.okc rfl rfl rfl) rfl rfl (rm_wrong hR52 (by omega)) (fun v220 M221 h222 => ?_)
              obtain ⟨u228, I223, R224, rfl, hR225, hI226, hV227, z229, w230⟩ := h222
              show ml _ _ _ (173, [(4, .int s160_0), (0, .ref m0), (1, .int i20_1), (2, .int (f1 f pp)), (3, .int pp)], [.int u228], M221) _
              exact ml_ret rfl (r_z (z229)) (⟨_, _, _, rfl, hR225, ((((eqI.rf.put f15 (by decide)).tr hI_20 (by decide)).tr hI35 (by decide)).tr hI226 (by decide)), ((((((eqR.rf.put f21 (by decide)).tr hV_20 (by decide)).tr hV36 (by decide)).put f49 (by decide)).put f55 (by decide)).tr hV227 (by decide)), z229, Or.inl w230⟩)
          have J_155 : GT (f1 f pp) → ml (mT g) d (mb_238 g).2 (155, [(0, .ref m0), (1, .int i20_1), (2, .int (f1 f pp)), (3, .int pp)], [], M50) (fun v M' => ∃ (x : Int32) (I' : rI) (R' : rR), v = some (.int x) ∧ RS g m0 q z I' R' M' ∧ eqI [3, 8, 20, 47, 48, 50, 51] I I' ∧ eqR [1, 2, 4, 5, 6, 7, 21, 22] R R' ∧ (x = 0 ∨ x = 1) ∧ (x = 0 ∨ ∃ (S' cN' : Nat) (p1 : Int32), SYM S' cN' I' R' ∧ I' 50 = some p1 ∧ p0.toInt ≤ p1.toInt ∧ p1.toInt ≤ n ∧ I' 51 = some 0 ∧ PEN f n S' cp.toInt.toNat R')) := by
            intro hj_155
            refine ml_st (S' := (156, [(0, .ref m0), (1, .int i20_1), (2, .int (f1 f pp)), (3, .int pp)], [.int 1], M50)) rfl rfl rfl ?_
            refine ml_st (S' := (160, [(0, .ref m0), (1, .int i20_1), (2, .int (f1 f pp)), (3, .int pp)], [.int 1], M50)) rfl rfl rfl ?_
            exact J_160 1 (Or.inr hj_155)
          refine ml_if2 (S1 := (155, [(0, .ref m0), (1, .int i20_1), (2, .int (f1 f pp)), (3, .int pp)], [], M50)) (S2 := (81, [(3, .int pp), (2, .int (f1 f pp)), (0, .ref m0), (1, .int i20_1)], [], M50)) rfl rfl rfl (fun c_78 => ?_) (fun c_78 => ?_)
          · have c_78 : (f1 f pp) = 1 := of_decide_eq_true c_78
            exact J_155  (Or.inl c_78)
          · have c_78 : ¬ ((f1 f pp) = 1) := of_decide_eq_false c_78
            refine ml_blk 2 (S' := (83, [(3, .int pp), (2, .int (f1 f pp)), (0, .ref m0), (1, .int i20_1)], [.int 3, .int (f1 f pp)], M50)) rfl ?_
            have J_92 : ml (mT g) d (mb_238 g).2 (92, [(0, .ref m0), (1, .int i20_1), (2, .int (f1 f pp)), (3, .int pp)], [], M50) (fun v M' => ∃ (x : Int32) (I' : rI) (R' : rR), v = some (.int x) ∧ RS g m0 q z I' R' M' ∧ eqI [3, 8, 20, 47, 48, 50, 51] I I' ∧ eqR [1, 2, 4, 5, 6, 7, 21, 22] R R' ∧ (x = 0 ∨ x = 1) ∧ (x = 0 ∨ ∃ (S' cN' : Nat) (p1 : Int32), SYM S' cN' I' R' ∧ I' 50 = some p1 ∧ p0.toInt ≤ p1.toInt ∧ p1.toInt ≤ n ∧ I' 51 = some 0 ∧ PEN f n S' cp.toInt.toNat R')) := by
              refine ml_blk 2 (S' := (95, [(0, .ref m0), (1, .int i20_1), (2, .int (f1 f pp)), (3, .int pp)], [.int 15, .int (f1 f pp)], M50)) rfl ?_
              have J_119 : ml (mT g) d (mb_238 g).2 (119, [(0, .ref m0), (1, .int i20_1), (2, .int (f1 f pp)), (3, .int pp)], [], M50) (fun v M' => ∃ (x : Int32) (I' : rI) (R' : rR), v = some (.int x) ∧ RS g m0 q z I' R' M' ∧ eqI [3, 8, 20, 47, 48, 50, 51] I I' ∧ eqR [1, 2, 4, 5, 6, 7, 21, 22] R R' ∧ (x = 0 ∨ x = 1) ∧ (x = 0 ∨ ∃ (S' cN' : Nat) (p1 : Int32), SYM S' cN' I' R' ∧ I' 50 = some p1 ∧ p0.toInt ≤ p1.toInt ∧ p1.toInt ≤ n ∧ I' 51 = some 0 ∧ PEN f n S' cp.toInt.toNat R')) := by
                refine ml_blk 2 (S' := (122, [(0, .ref m0), (1, .int i20_1), (2, .int (f1 f pp)), (3, .int pp)], [.int 19, .int (f1 f pp)], M50)) rfl ?_
                have J_140 : ml (mT g) d (mb_238 g).2 (140, [(0, .ref m0), (1, .int i20_1), (2, .int (f1 f pp)), (3, .int pp)], [], M50) (fun v M' => ∃ (x : Int32) (I' : rI) (R' : rR), v = some (.int x) ∧ RS g m0 q z I' R' M' ∧ eqI [3, 8, 20, 47, 48, 50, 51] I I' ∧ eqR [1, 2, 4, 5, 6, 7, 21, 22] R R' ∧ (x = 0 ∨ x = 1) ∧ (x = 0 ∨ ∃ (S' cN' : Nat) (p1 : Int32), SYM S' cN' I' R' ∧ I' 50 = some p1 ∧ p0.toInt ≤ p1.toInt ∧ p1.toInt ≤ n ∧ I' 51 = some 0 ∧ PEN f n S' cp.toInt.toNat R')) := by
                  refine ml_blk 2 (S' := (143, [(0, .ref m0), (1, .int i20_1), (2, .int (f1 f pp)), (3, .int pp)], [.int 17, .int (f1 f pp)], M50)) rfl ?_
                  have J_159 : ml (mT g) d (mb_238 g).2 (159, [(0, .ref m0), (1, .int i20_1), (2, .int (f1 f pp)), (3, .int pp)], [], M50) (fun v M' => ∃ (x : Int32) (I' : rI) (R' : rR), v = some (.int x) ∧ RS g m0 q z I' R' M' ∧ eqI [3, 8, 20, 47, 48, 50, 51] I I' ∧ eqR [1, 2, 4, 5, 6, 7, 21, 22] R R' ∧ (x = 0 ∨ x = 1) ∧ (x = 0 ∨ ∃ (S' cN' : Nat) (p1 : Int32), SYM S' cN' I' R' ∧ I' 50 = some p1 ∧ p0.toInt ≤ p1.toInt ∧ p1.toInt ≤ n ∧ I' 51 = some 0 ∧ PEN f n S' cp.toInt.toNat R')) := by
                    refine ml_st (S' := (160, [(0, .ref m0), (1, .int i20_1), (2, .int (f1 f pp)), (3, .int pp)], [.int 0], M50)) rfl rfl rfl ?_
                    exact J_160 0 (Or.inl rfl)
                  refine ml_if2 (S1 := (159, [(0, .ref m0), (1, .int i20_1), (2, .int (f1 f pp)), (3, .int pp)], [], M50)) (S2 := (146, [(0, .ref m0), (1, .int i20_1), (2, .int (f1 f pp)), (3, .int pp)], [], M50)) rfl rfl rfl (fun c_143 => ?_) (fun c_143 => ?_)
                  · have c_143 : ¬ (f1 f pp) = 17 := of_decide_eq_true c_143
                    exact J_159 
                  · have c_143 : ¬ (¬ (f1 f pp) = 17) := of_decide_eq_false c_143
                    refine ml_st (S' := (147, [(0, .ref m0), (1, .int i20_1), (2, .int (f1 f pp)), (3, .int pp)], [.ref m0], M50)) rfl rfl rfl ?_
                    refine rg_int (S' := (150, [(0, .ref m0), (1, .int i20_1), (2, .int (f1 f pp)), (3, .int pp)], [.int mj], M50)) rfl hR52 rfl ((hI35 53 (by decide)).trans ((hI_20 53 (by decide)).trans ((f15 53 (by decide)).trans (hk53)))) rfl ?_
                    refine ml_st (S' := (152, [(0, .ref m0), (1, .int i20_1), (2, .int (f1 f pp)), (3, .int pp)], [.int 55, .int mj], M50)) rfl rfl rfl ?_
                    refine ml_if2 (S1 := (159, [(0, .ref m0), (1, .int i20_1), (2, .int (f1 f pp)), (3, .int pp)], [], M50)) (S2 := (155, [(0, .ref m0), (1, .int i20_1), (2, .int (f1 f pp)), (3, .int pp)], [], M50)) rfl rfl rfl (fun c_152 => ?_) (fun c_152 => ?_)
                    · have c_152 : mj < 55 := of_decide_eq_true c_152
                      exact J_159 
                    · have c_152 : ¬ (mj < 55) := of_decide_eq_false c_152
                      exact J_155  (Or.inr (Or.inr (Or.inr (Or.inr (Or.inl (Decidable.not_not.mp c_143))))))
                have J_131 : (f1 f pp = 19 ∨ f1 f pp = 20) → ml (mT g) d (mb_238 g).2 (131, [(0, .ref m0), (1, .int i20_1), (2, .int (f1 f pp)), (3, .int pp)], [], M50) (fun v M' => ∃ (x : Int32) (I' : rI) (R' : rR), v = some (.int x) ∧ RS g m0 q z I' R' M' ∧ eqI [3, 8, 20, 47, 48, 50, 51] I I' ∧ eqR [1, 2, 4, 5, 6, 7, 21, 22] R R' ∧ (x = 0 ∨ x = 1) ∧ (x = 0 ∨ ∃ (S' cN' : Nat) (p1 : Int32), SYM S' cN' I' R' ∧ I' 50 = some p1 ∧ p0.toInt ≤ p1.toInt ∧ p1.toInt ≤ n ∧ I' 51 = some 0 ∧ PEN f n S' cp.toInt.toNat R')) := by
                  intro hj_131
                  refine ml_st (S' := (132, [(0, .ref m0), (1, .int i20_1), (2, .int (f1 f pp)), (3, .int pp)], [.ref m0], M50)) rfl rfl rfl ?_
                  refine rg_int (S' := (135, [(0, .ref m0), (1, .int i20_1), (2, .int (f1 f pp)), (3, .int pp)], [.int mj], M50)) rfl hR52 rfl ((hI35 53 (by decide)).trans ((hI_20 53 (by decide)).trans ((f15 53 (by decide)).trans (hk53)))) rfl ?_
                  refine ml_st (S' := (137, [(0, .ref m0), (1, .int i20_1), (2, .int (f1 f pp)), (3, .int pp)], [.int 53, .int mj], M50)) rfl rfl rfl ?_
                  refine ml_if2 (S1 := (155, [(0, .ref m0), (1, .int i20_1), (2, .int (f1 f pp)), (3, .int pp)], [], M50)) (S2 := (140, [(0, .ref m0), (1, .int i20_1), (2, .int (f1 f pp)), (3, .int pp)], [], M50)) rfl rfl rfl (fun c_137 => ?_) (fun c_137 => ?_)
                  · have c_137 : 53 ≤ mj := of_decide_eq_true c_137
                    exact J_155  (Or.inr (Or.inr (Or.inr (Or.inr (Or.inr (Or.inr hj_131))))))
                  · have c_137 : ¬ (53 ≤ mj) := of_decide_eq_false c_137
                    exact J_140 
                refine ml_if2 (S1 := (131, [(0, .ref m0), (1, .int i20_1), (2, .int (f1 f pp)), (3, .int pp)], [], M50)) (S2 := (125, [(0, .ref m0), (1, .int i20_1), (2, .int (f1 f pp)), (3, .int pp)], [], M50)) rfl rfl rfl (fun c_122 => ?_) (fun c_122 => ?_)
                · have c_122 : (f1 f pp) = 19 := of_decide_eq_true c_122
                  exact J_131  (Or.inl c_122)
                · have c_122 : ¬ ((f1 f pp) = 19) := of_decide_eq_false c_122
                  refine ml_blk 2 (S' := (128, [(0, .ref m0), (1, .int i20_1), (2, .int (f1 f pp)), (3, .int pp)], [.int 20, .int (f1 f pp)], M50)) rfl ?_
                  refine ml_if2 (S1 := (140, [(0, .ref m0), (1, .int i20_1), (2, .int (f1 f pp)), (3, .int pp)], [], M50)) (S2 := (131, [(0, .ref m0), (1, .int i20_1), (2, .int (f1 f pp)), (3, .int pp)], [], M50)) rfl rfl rfl (fun c_128 => ?_) (fun c_128 => ?_)
                  · have c_128 : ¬ (f1 f pp) = 20 := of_decide_eq_true c_128
                    exact J_140 
                  · have c_128 : ¬ (¬ (f1 f pp) = 20) := of_decide_eq_false c_128
                    exact J_131  (Or.inr (Decidable.not_not.mp c_128))
              have J_110 : (f1 f pp = 15 ∨ f1 f pp = 16 ∨ f1 f pp = 18) → ml (mT g) d (mb_238 g).2 (110, [(0, .ref m0), (1, .int i20_1), (2, .int (f1 f pp)), (3, .int pp)], [], M50) (fun v M' => ∃ (x : Int32) (I' : rI) (R' : rR), v = some (.int x) ∧ RS g m0 q z I' R' M' ∧ eqI [3, 8, 20, 47, 48, 50, 51] I I' ∧ eqR [1, 2, 4, 5, 6, 7, 21, 22] R R' ∧ (x = 0 ∨ x = 1) ∧ (x = 0 ∨ ∃ (S' cN' : Nat) (p1 : Int32), SYM S' cN' I' R' ∧ I' 50 = some p1 ∧ p0.toInt ≤ p1.toInt ∧ p1.toInt ≤ n ∧ I' 51 = some 0 ∧ PEN f n S' cp.toInt.toNat R')) := by
                intro hj_110
                refine ml_st (S' := (111, [(0, .ref m0), (1, .int i20_1), (2, .int (f1 f pp)), (3, .int pp)], [.ref m0], M50)) rfl rfl rfl ?_
                refine rg_int (S' := (114, [(0, .ref m0), (1, .int i20_1), (2, .int (f1 f pp)), (3, .int pp)], [.int mj], M50)) rfl hR52 rfl ((hI35 53 (by decide)).trans ((hI_20 53 (by decide)).trans ((f15 53 (by decide)).trans (hk53)))) rfl ?_
                refine ml_st (S' := (116, [(0, .ref m0), (1, .int i20_1), (2, .int (f1 f pp)), (3, .int pp)], [.int 51, .int mj], M50)) rfl rfl rfl ?_
                refine ml_if2 (S1 := (155, [(0, .ref m0), (1, .int i20_1), (2, .int (f1 f pp)), (3, .int pp)], [], M50)) (S2 := (119, [(0, .ref m0), (1, .int i20_1), (2, .int (f1 f pp)), (3, .int pp)], [], M50)) rfl rfl rfl (fun c_116 => ?_) (fun c_116 => ?_)
                · have c_116 : 51 ≤ mj := of_decide_eq_true c_116
                  exact J_155  (Or.inr (Or.inr (by rcases hj_110 with h | h | h; exact Or.inl h; exact Or.inr (Or.inl h); exact Or.inr (Or.inr (Or.inr (Or.inl h))))))
                · have c_116 : ¬ (51 ≤ mj) := of_decide_eq_false c_116
                  exact J_119 
              refine ml_if2 (S1 := (110, [(0, .ref m0), (1, .int i20_1), (2, .int (f1 f pp)), (3, .int pp)], [], M50)) (S2 := (98, [(0, .ref m0), (1, .int i20_1), (2, .int (f1 f pp)), (3, .int pp)], [], M50)) rfl rfl rfl (fun c_95 => ?_) (fun c_95 => ?_)
              · have c_95 : (f1 f pp) = 15 := of_decide_eq_true c_95
                exact J_110  (Or.inl c_95)
              · have c_95 : ¬ ((f1 f pp) = 15) := of_decide_eq_false c_95
                refine ml_blk 2 (S' := (101, [(0, .ref m0), (1, .int i20_1), (2, .int (f1 f pp)), (3, .int pp)], [.int 16, .int (f1 f pp)], M50)) rfl ?_
                refine ml_if2 (S1 := (110, [(0, .ref m0), (1, .int i20_1), (2, .int (f1 f pp)), (3, .int pp)], [], M50)) (S2 := (104, [(0, .ref m0), (1, .int i20_1), (2, .int (f1 f pp)), (3, .int pp)], [], M50)) rfl rfl rfl (fun c_101 => ?_) (fun c_101 => ?_)
                · have c_101 : (f1 f pp) = 16 := of_decide_eq_true c_101
                  exact J_110  (Or.inr (Or.inl c_101))
                · have c_101 : ¬ ((f1 f pp) = 16) := of_decide_eq_false c_101
                  refine ml_blk 2 (S' := (107, [(0, .ref m0), (1, .int i20_1), (2, .int (f1 f pp)), (3, .int pp)], [.int 18, .int (f1 f pp)], M50)) rfl ?_
                  refine ml_if2 (S1 := (119, [(0, .ref m0), (1, .int i20_1), (2, .int (f1 f pp)), (3, .int pp)], [], M50)) (S2 := (110, [(0, .ref m0), (1, .int i20_1), (2, .int (f1 f pp)), (3, .int pp)], [], M50)) rfl rfl rfl (fun c_107 => ?_) (fun c_107 => ?_)
                  · have c_107 : ¬ (f1 f pp) = 18 := of_decide_eq_true c_107
                    exact J_119 
                  · have c_107 : ¬ (¬ (f1 f pp) = 18) := of_decide_eq_false c_107
                    exact J_110  (Or.inr (Or.inr (Decidable.not_not.mp c_107)))
            refine ml_if2 (S1 := (92, [(0, .ref m0), (1, .int i20_1), (2, .int (f1 f pp)), (3, .int pp)], [], M50)) (S2 := (86, [(3, .int pp), (2, .int (f1 f pp)), (0, .ref m0), (1, .int i20_1)], [], M50)) rfl rfl rfl (fun c_83 => ?_) (fun c_83 => ?_)
            · have c_83 : (f1 f pp) < 3 := of_decide_eq_true c_83
              exact J_92 
            · have c_83 : ¬ ((f1 f pp) < 3) := of_decide_eq_false c_83
              refine ml_blk 2 (S' := (89, [(3, .int pp), (2, .int (f1 f pp)), (0, .ref m0), (1, .int i20_1)], [.int 12, .int (f1 f pp)], M50)) rfl ?_
              refine ml_if2 (S1 := (155, [(0, .ref m0), (1, .int i20_1), (2, .int (f1 f pp)), (3, .int pp)], [], M50)) (S2 := (92, [(0, .ref m0), (1, .int i20_1), (2, .int (f1 f pp)), (3, .int pp)], [], M50)) rfl rfl rfl (fun c_89 => ?_) (fun c_89 => ?_)
              · have c_89 : (f1 f pp) ≤ 12 := of_decide_eq_true c_89
                exact J_155  (Or.inr (Or.inl ⟨by have q := i_nlt c_83; have : (3 : Int32).toInt = 3 := rfl; omega, by have q := i_le c_89; have : (12 : Int32).toInt = 12 := rfl; omega⟩))
              · have c_89 : ¬ ((f1 f pp) ≤ 12) := of_decide_eq_false c_89
                exact J_92 
        · have c_33 : ¬ (¬ u37 = 0) := of_decide_eq_false c_33
          refine ml_st (S' := (37, [(0, .ref m0), (1, .int i20_1)], [.int 0], M30)) rfl rfl rfl ?_
          exact ml_ret rfl (r_z (Or.inl rfl)) (⟨_, _, _, rfl, hR34, (((eqI.rf.put f15 (by decide)).tr hI_20 (by decide)).tr hI35 (by decide)), (((eqR.rf.put f21 (by decide)).tr hV_20 (by decide)).tr hV36 (by decide)), Or.inl rfl, Or.inl rfl⟩)
  have hZ231 : SYM S cN I12 R17 := ((hZ.mono (pIx f15 (by decide)) (fun _ _ => rfl)).mono (fun _ _ => rfl) (pRx f21 (by decide)))
  exact L_20 _ 1 p0 S cN _ _ _ (Nat.le_refl _) hR18 eqI.rf eqR.rf (⟨(f15 50 (by decide)).trans (hk50), by omega, by omega, by decide, by show (1 : Int) ≤ _; omega, hZ231, by omega, by omega, ⟨e19, fun j h1 h2 => absurd h2 (by show ¬ j < (1 : Nat); omega)⟩⟩)
end
section
/-! the reference: a file that was read whole (my own text) -/
section MIW
/-- head, fields, methods, attributes: where each lies -/
def FO (f : Nat → Int32) (n : Nat) (cp mj hA fA mA aA : Int32) : Prop := (1 ≤ cp.toInt ∧ cp.toInt ≤ 65535) ∧ (8 ≤ hA.toInt ∧ hA.toInt + 8 + 2 * (f2 f (hA + 6)).toInt ≤ fA.toInt ∧ fA.toInt ≤ n) ∧ MB f n fA mA ∧ MB f n mA aA ∧ ∃ e, AT f n aA e
def FR (f : Nat → Int32) (n : Nat) (I : rI) (R : rR) : Prop := ∃ (S cN : Nat) (cp mj hA fA mA aA : Int32), SYM S cN I R ∧ PEN f n S cp.toInt.toNat R ∧ FO f n cp mj hA fA mA aA ∧ I 51 = some 0 ∧ I 52 = some cp ∧ I 53 = some mj ∧ I 54 = some hA ∧ I 55 = some fA ∧ I 56 = some mA ∧ I 57 = some aA
theorem MB1.ge {f : Nat → Int32} {n : Nat} (hn : n ≤ 65540) (a b : Int32) (h : MB1 f n a b) : a.toInt + 8 ≤ b.toInt := by
  obtain ⟨h0, h1, h2⟩ := h
  have h3 := at_ge hn h2
  have e : (6 : Int32).toInt = 6 := rfl
  rw [i_add (by omega) (by omega)] at h3
  omega
theorem mb_ge {f : Nat → Int32} {n : Nat} {a b : Int32} (hn : n ≤ 65540) (h : MB f n a b) : a.toInt + 2 ≤ b.toInt ∧ b.toInt ≤ n := by
  obtain ⟨h0, h1, h2, h3⟩ := h
  have h4 := itr.ge (w := 0) (fun a b h => by have := MB1.ge hn a b h; omega) h2
  have e : (2 : Int32).toInt = 2 := rfl
  rw [i_add (by omega) (by omega)] at h4
  exact ⟨by omega, h3⟩
end MIW
end
section
/-! the reference: the file is read (laid by wip/p2/c64.py) -/
set_option maxHeartbeats 2000000 in
theorem rm_readFile {g : xe_G}  {m0 : Nat} {q : Nat → Nat} {z : Nat × Nat} {I : rI} {R : rR} {M : mi_H} {n : Nat} {f : Nat → Int32} {S cN : Nat}  (hR : RS g m0 q z I R M) (hk20 : I 20 = some 0) (hF : FK n f I R) (hZ : SYM S cN I R) (hS3 : S ≤ 3) (hC3 : cN ≤ 30) {d : Nat} (hd : 6 ≤ d) : mt (mT g) d 237 [.ref m0] M (fun v M' => ∃ (x : Int32) (I' : rI) (R' : rR), v = some (.int x) ∧ RS g m0 q z I' R' M' ∧ eqI [3, 8, 20, 47, 48, 50, 51, 52, 53, 54, 55, 56, 57] I I' ∧ eqR [1, 2, 4, 5, 6, 7, 21, 22] R R' ∧ (x = 0 ∨ x = 1) ∧ (x = 0 ∨ FR f n I' R')) := by
  obtain ⟨d, rfl⟩ : ∃ e, d = e + 1 := ⟨d - 1, by omega⟩
  refine mt_in (b := mb_237 g) rfl rfl ?_
  show ml (mT g) d (mb_237 g).2 (0, [(0, .ref m0)], [], M) _
  have hn := hF.1
  have l2 : (2 : Int64).toInt = 2 := rfl
  have l4 : (4 : Int64).toInt = 4 := rfl
  refine ml_blk 2 (S' := (2, [(0, .ref m0)], [.int 0, .ref m0], M)) rfl ?_
  refine rp_int rfl hR rfl (fun M11 I12 hR13 e14 f15 => ?_)
  show ml _ _ _ (5, [(0, .ref m0)], [], M11) _
  refine ml_blk 2 (S' := (9, [(0, .ref m0)], [.long 4, .ref m0], M11)) rfl ?_
  have hF16 : FK n f I12 R := (hF.mono (pIx f15 (by decide)) (fun _ _ => rfl))
  refine ml_call (a := [.ref m0, .long 4]) (rest := []) rfl (hR13.okc rfl rfl rfl) rfl rfl (rm_item hR13 (e14) hF16 (by decide) (by have : (0 : Int32).toInt = 0 := rfl; omega) (by decide) (by decide) (by omega)) (fun v17 M18 h19 => ?_)
  obtain ⟨u25, I20, R21, rfl, hR22, hI23, hV24, z26, w27⟩ := h19
  show ml _ _ _ (12, [(0, .ref m0)], [.int u25], M18) _
  refine ml_if (S1 := (17, [(0, .ref m0)], [], M18)) (S2 := (15, [(0, .ref m0)], [], M18)) rfl rfl rfl (fun c_12 => ?_) (fun c_12 => ?_)
  · have c_12 : ¬ u25 = 0 := of_decide_eq_true c_12
    have h4n := w27.resolve_left c_12
    have z0 : (0 : Int32).toInt = 0 := rfl
    have i4 : (4 : Int32).toInt = 4 := rfl
    have i6 : (6 : Int32).toInt = 6 := rfl
    have i8 : (8 : Int32).toInt = 8 := rfl
    have i10 : (10 : Int32).toInt = 10 := rfl
    refine ml_blk 2 (S' := (19, [(0, .ref m0)], [.int 0, .ref m0], M18)) rfl ?_
    have hF28 : FK n f I20 R21 := (hF16.mono (cIx hI23 (by decide)) (cRx hV24 (by decide)))
    refine ml_call (a := [.ref m0, .int 0]) (rest := []) rfl (hR22.okc rfl rfl rfl) rfl rfl (rm_u4 hR22 hF28 (by decide) (by omega) (by omega)) (fun v29 M30 h31 => ?_)
    obtain ⟨rfl, h31⟩ := h31
    rw [h31]
    show ml _ _ _ (22, [(0, .ref m0)], [.long (f4 f 0)], M18) _
    refine ml_blk 2 (S' := (26, [(0, .ref m0)], [.int (lg_cmp (f4 f 0) 3405691582)], M18)) rfl ?_
    refine ml_if (S1 := (36, [(0, .ref m0)], [], M18)) (S2 := (29, [(0, .ref m0)], [], M18)) rfl rfl rfl (fun c_26 => ?_) (fun c_26 => ?_)
    · have c_26 : (lg_cmp (f4 f 0) 3405691582) = 0 := of_decide_eq_true c_26
      refine ml_blk 2 (S' := (38, [(0, .ref m0)], [.int 4, .ref m0], M18)) rfl ?_
      refine rp_int rfl hR22 rfl (fun M32 I33 hR34 e35 f36 => ?_)
      show ml _ _ _ (41, [(0, .ref m0)], [], M32) _
      refine ml_blk 2 (S' := (45, [(0, .ref m0)], [.long 2, .ref m0], M32)) rfl ?_
      have hF37 : FK n f I33 R21 := (hF28.mono (pIx f36 (by decide)) (fun _ _ => rfl))
      refine ml_call (a := [.ref m0, .long 2]) (rest := []) rfl (hR34.okc rfl rfl rfl) rfl rfl (rm_item hR34 (e35) hF37 (by omega) (by omega) (by decide) (by decide) (by omega)) (fun v38 M39 h40 => ?_)
      obtain ⟨u46, I41, R42, rfl, hR43, hI44, hV45, z47, w48⟩ := h40
      show ml _ _ _ (48, [(0, .ref m0)], [.int u46], M39) _
      refine ml_if (S1 := (53, [(0, .ref m0)], [], M39)) (S2 := (51, [(0, .ref m0)], [], M39)) rfl rfl rfl (fun c_48 => ?_) (fun c_48 => ?_)
      · have c_48 : ¬ u46 = 0 := of_decide_eq_true c_48
        have h6n := w48.resolve_left c_48
        refine ml_blk 2 (S' := (56, [(0, .ref m0)], [.int 6, .ref m0], M39)) rfl ?_
        refine rp_int rfl hR43 rfl (fun M49 I50 hR51 e52 f53 => ?_)
        show ml _ _ _ (59, [(0, .ref m0)], [], M49) _
        refine ml_blk 2 (S' := (63, [(0, .ref m0)], [.long 2, .ref m0], M49)) rfl ?_
        have hF54 : FK n f I50 R42 := ((hF37.mono (cIx hI44 (by decide)) (cRx hV45 (by decide))).mono (pIx f53 (by decide)) (fun _ _ => rfl))
        refine ml_call (a := [.ref m0, .long 2]) (rest := []) rfl (hR51.okc rfl rfl rfl) rfl rfl (rm_item hR51 (e52) hF54 (by omega) (by omega) (by decide) (by decide) (by omega)) (fun v55 M56 h57 => ?_)
        obtain ⟨u63, I58, R59, rfl, hR60, hI61, hV62, z64, w65⟩ := h57
        show ml _ _ _ (66, [(0, .ref m0)], [.int u63], M56) _
        refine ml_if (S1 := (71, [(0, .ref m0)], [], M56)) (S2 := (69, [(0, .ref m0)], [], M56)) rfl rfl rfl (fun c_66 => ?_) (fun c_66 => ?_)
        · have c_66 : ¬ u63 = 0 := of_decide_eq_true c_66
          have h8n := w65.resolve_left c_66
          refine ml_blk 3 (S' := (75, [(0, .ref m0)], [.int 6, .ref m0, .ref m0], M56)) rfl ?_
          have hF66 : FK n f I58 R59 := (hF54.mono (cIx hI61 (by decide)) (cRx hV62 (by decide)))
          refine ml_call (a := [.ref m0, .int 6]) (rest := [.ref m0]) rfl (hR60.okc rfl rfl rfl) rfl rfl (rm_u2 hR60 hF66 (by omega) (by omega) (by omega)) (fun v67 M68 h69 => ?_)
          obtain ⟨rfl, h69⟩ := h69
          rw [h69]
          show ml _ _ _ (78, [(0, .ref m0)], [.int (f2 f 6), .ref m0], M56) _
          refine rp_int rfl hR60 rfl (fun M70 I71 hR72 e73 f74 => ?_)
          show ml _ _ _ (81, [(0, .ref m0)], [], M70) _
          refine ml_st (S' := (82, [(0, .ref m0)], [.ref m0], M70)) rfl rfl rfl ?_
          refine rg_int (S' := (85, [(0, .ref m0)], [.int (f2 f 6)], M70)) rfl hR72 rfl (e73) rfl ?_
          refine ml_st (S' := (87, [(0, .ref m0)], [.int 45, .int (f2 f 6)], M70)) rfl rfl rfl ?_
          refine ml_if2 (S1 := (116, [(0, .ref m0)], [], M70)) (S2 := (90, [(0, .ref m0)], [], M70)) rfl rfl rfl (fun c_87 => ?_) (fun c_87 => ?_)
          · have c_87 : (f2 f 6) < 45 := of_decide_eq_true c_87
            refine ml_blk 3 (S' := (119, [(0, .ref m0)], [.int 4, .int 3, .ref m0], M70)) rfl ?_
            refine ml_call (a := [.ref m0, .int 3, .int 4]) (rest := []) rfl (hR72.okc rfl rfl rfl) rfl rfl (rm_wrong hR72 (by omega)) (fun v75 M76 h77 => ?_)
            obtain ⟨u83, I78, R79, rfl, hR80, hI81, hV82, z84, w85⟩ := h77
            show ml _ _ _ (122, [(0, .ref m0)], [.int u83], M76) _
            exact ml_ret rfl (r_z (z84)) (⟨_, _, _, rfl, hR80, ((((((((eqI.rf.put f15 (by decide)).tr hI23 (by decide)).put f36 (by decide)).tr hI44 (by decide)).put f53 (by decide)).tr hI61 (by decide)).put f74 (by decide)).tr hI81 (by decide)), ((((eqR.rf.tr hV24 (by decide)).tr hV45 (by decide)).tr hV62 (by decide)).tr hV82 (by decide)), z84, Or.inl w85⟩)
          · have c_87 : ¬ ((f2 f 6) < 45) := of_decide_eq_false c_87
            refine ml_st (S' := (91, [(0, .ref m0)], [.ref m0], M70)) rfl rfl rfl ?_
            refine rg_int (S' := (94, [(0, .ref m0)], [.int (f2 f 6)], M70)) rfl hR72 rfl (e73) rfl ?_
            refine ml_st (S' := (96, [(0, .ref m0)], [.int 61, .int (f2 f 6)], M70)) rfl rfl rfl ?_
            refine ml_if2 (S1 := (116, [(0, .ref m0)], [], M70)) (S2 := (99, [(0, .ref m0)], [], M70)) rfl rfl rfl (fun c_96 => ?_) (fun c_96 => ?_)
            · have c_96 : 61 < (f2 f 6) := of_decide_eq_true c_96
              refine ml_blk 3 (S' := (119, [(0, .ref m0)], [.int 4, .int 3, .ref m0], M70)) rfl ?_
              refine ml_call (a := [.ref m0, .int 3, .int 4]) (rest := []) rfl (hR72.okc rfl rfl rfl) rfl rfl (rm_wrong hR72 (by omega)) (fun v86 M87 h88 => ?_)
              obtain ⟨u94, I89, R90, rfl, hR91, hI92, hV93, z95, w96⟩ := h88
              show ml _ _ _ (122, [(0, .ref m0)], [.int u94], M87) _
              exact ml_ret rfl (r_z (z95)) (⟨_, _, _, rfl, hR91, ((((((((eqI.rf.put f15 (by decide)).tr hI23 (by decide)).put f36 (by decide)).tr hI44 (by decide)).put f53 (by decide)).tr hI61 (by decide)).put f74 (by decide)).tr hI92 (by decide)), ((((eqR.rf.tr hV24 (by decide)).tr hV45 (by decide)).tr hV62 (by decide)).tr hV93 (by decide)), z95, Or.inl w96⟩)
            · have c_96 : ¬ (61 < (f2 f 6)) := of_decide_eq_false c_96
              refine ml_st (S' := (100, [(0, .ref m0)], [.ref m0], M70)) rfl rfl rfl ?_
              refine rg_int (S' := (103, [(0, .ref m0)], [.int (f2 f 6)], M70)) rfl hR72 rfl (e73) rfl ?_
              refine ml_st (S' := (105, [(0, .ref m0)], [.int 56, .int (f2 f 6)], M70)) rfl rfl rfl ?_
              have J_123 : ml (mT g) d (mb_237 g).2 (123, [(0, .ref m0)], [], M70) (fun v M' => ∃ (x : Int32) (I' : rI) (R' : rR), v = some (.int x) ∧ RS g m0 q z I' R' M' ∧ eqI [3, 8, 20, 47, 48, 50, 51, 52, 53, 54, 55, 56, 57] I I' ∧ eqR [1, 2, 4, 5, 6, 7, 21, 22] R R' ∧ (x = 0 ∨ x = 1) ∧ (x = 0 ∨ FR f n I' R')) := by
                refine ml_blk 2 (S' := (126, [(0, .ref m0)], [.int 8, .ref m0], M70)) rfl ?_
                refine rp_int rfl hR72 rfl (fun M97 I98 hR99 e100 f101 => ?_)
                show ml _ _ _ (129, [(0, .ref m0)], [], M97) _
                refine ml_blk 2 (S' := (133, [(0, .ref m0)], [.long 2, .ref m0], M97)) rfl ?_
                have hF102 : FK n f I98 R59 := ((hF66.mono (pIx f74 (by decide)) (fun _ _ => rfl)).mono (pIx f101 (by decide)) (fun _ _ => rfl))
                refine ml_call (a := [.ref m0, .long 2]) (rest := []) rfl (hR99.okc rfl rfl rfl) rfl rfl (rm_item hR99 (e100) hF102 (by omega) (by omega) (by decide) (by decide) (by omega)) (fun v103 M104 h105 => ?_)
                obtain ⟨u111, I106, R107, rfl, hR108, hI109, hV110, z112, w113⟩ := h105
                show ml _ _ _ (136, [(0, .ref m0)], [.int u111], M104) _
                refine ml_if (S1 := (141, [(0, .ref m0)], [], M104)) (S2 := (139, [(0, .ref m0)], [], M104)) rfl rfl rfl (fun c_136 => ?_) (fun c_136 => ?_)
                · have c_136 : ¬ u111 = 0 := of_decide_eq_true c_136
                  have h10n := w113.resolve_left c_136
                  refine ml_blk 3 (S' := (145, [(0, .ref m0)], [.int 8, .ref m0, .ref m0], M104)) rfl ?_
                  have hF114 : FK n f I106 R107 := (hF102.mono (cIx hI109 (by decide)) (cRx hV110 (by decide)))
                  refine ml_call (a := [.ref m0, .int 8]) (rest := [.ref m0]) rfl (hR108.okc rfl rfl rfl) rfl rfl (rm_u2 hR108 hF114 (by omega) (by omega) (by omega)) (fun v115 M116 h117 => ?_)
                  obtain ⟨rfl, h117⟩ := h117
                  rw [h117]
                  show ml _ _ _ (148, [(0, .ref m0)], [.int (f2 f 8), .ref m0], M104) _
                  refine rp_int rfl hR108 rfl (fun M118 I119 hR120 e121 f122 => ?_)
                  show ml _ _ _ (151, [(0, .ref m0)], [], M118) _
                  refine ml_st (S' := (152, [(0, .ref m0)], [.ref m0], M118)) rfl rfl rfl ?_
                  refine rg_int (S' := (155, [(0, .ref m0)], [.int (f2 f 8)], M118)) rfl hR120 rfl (e121) rfl ?_
                  refine ml_if (S1 := (166, [(0, .ref m0)], [], M118)) (S2 := (158, [(0, .ref m0)], [], M118)) rfl rfl rfl (fun c_155 => ?_) (fun c_155 => ?_)
                  · have c_155 : ¬ (f2 f 8) = 0 := of_decide_eq_true c_155
                    refine ml_blk 2 (S' := (169, [(0, .ref m0)], [.int 10, .ref m0], M118)) rfl ?_
                    refine rp_int rfl hR120 rfl (fun M123 I124 hR125 e126 f127 => ?_)
                    show ml _ _ _ (172, [(0, .ref m0)], [], M123) _
                    refine ml_st (S' := (173, [(0, .ref m0)], [.ref m0], M123)) rfl rfl rfl ?_
                    have hF128 : FK n f I124 R107 := ((hF114.mono (pIx f122 (by decide)) (fun _ _ => rfl)).mono (pIx f127 (by decide)) (fun _ _ => rfl))
                    have hZ129 : SYM S cN I124 R107 := (((((((((((hZ.mono (pIx f15 (by decide)) (fun _ _ => rfl)).mono (cIx hI23 (by decide)) (cRx hV24 (by decide))).mono (pIx f36 (by decide)) (fun _ _ => rfl)).mono (cIx hI44 (by decide)) (cRx hV45 (by decide))).mono (pIx f53 (by decide)) (fun _ _ => rfl)).mono (cIx hI61 (by decide)) (cRx hV62 (by decide))).mono (pIx f74 (by decide)) (fun _ _ => rfl)).mono (pIx f101 (by decide)) (fun _ _ => rfl)).mono (cIx hI109 (by decide)) (cRx hV110 (by decide))).mono (pIx f122 (by decide)) (fun _ _ => rfl)).mono (pIx f127 (by decide)) (fun _ _ => rfl))
                    refine ml_call (a := [.ref m0]) (rest := []) rfl (hR125.okc rfl rfl rfl) rfl rfl (rm_readPool hR125 ((f127 20 (by decide)).trans ((f122 20 (by decide)).trans ((hI109 20 (by decide)).trans ((f101 20 (by decide)).trans ((f74 20 (by decide)).trans ((hI61 20 (by decide)).trans ((f53 20 (by decide)).trans ((hI44 20 (by decide)).trans ((f36 20 (by decide)).trans ((hI23 20 (by decide)).trans ((f15 20 (by decide)).trans (hk20)))))))))))) (e126) ((f127 52 (by decide)).trans (e121)) ((f127 53 (by decide)).trans ((f122 53 (by decide)).trans ((hI109 53 (by decide)).trans ((f101 53 (by decide)).trans (e73))))) hF128 hZ129 (by omega) (by omega) (by have := f2_pos (f := f) (x := 8); have h9 : (f2 f 8).toInt ≠ 0 := (fun e => c_155 (Int32.toInt_inj.mp e)); omega) (f2_le) (hS3) (hC3) (by omega)) (fun v130 M131 h132 => ?_)
                    obtain ⟨u138, I133, R134, rfl, hR135, hI136, hV137, z139, w140⟩ := h132
                    show ml _ _ _ (176, [(0, .ref m0)], [.int u138], M131) _
                    refine ml_if (S1 := (181, [(0, .ref m0)], [], M131)) (S2 := (179, [(0, .ref m0)], [], M131)) rfl rfl rfl (fun c_176 => ?_) (fun c_176 => ?_)
                    · have c_176 : ¬ u138 = 0 := of_decide_eq_true c_176
                      obtain ⟨S9, c9, ph, hz9, hph, hph0, hph1, h51, hpen⟩ := w140.resolve_left c_176
                      refine ml_blk 2 (S' := (183, [(0, .ref m0)], [.ref m0, .ref m0], M131)) rfl ?_
                      refine rg_int (S' := (186, [(0, .ref m0)], [.int ph, .ref m0], M131)) rfl hR135 rfl (hph) rfl ?_
                      refine rp_int rfl hR135 rfl (fun M141 I142 hR143 e144 f145 => ?_)
                      show ml _ _ _ (189, [(0, .ref m0)], [], M141) _
                      refine ml_st (S' := (190, [(0, .ref m0)], [.int 0], M141)) rfl rfl rfl ?_
                      refine ml_st (S' := (191, [(0, .ref m0), (1, .int 0)], [], M141)) rfl rfl rfl ?_
                      have L_191 : ∀ (n_191 : Nat) (i191_1 : Int32) (pq : Int32) (M_191 : mi_H) (I_191 : rI) (R_191 : rR), (2147483648 - i191_1.toInt).toNat ≤ n_191 → RS g m0 q z I_191 R_191 M_191 → eqI [47, 48, 50] I142 I_191 → eqR [] R134 R_191 → (I_191 50 = some pq ∧ 0 ≤ i191_1.toInt ∧ i191_1.toInt ≤ 4 ∧ pq.toInt = ph.toInt + 2 * i191_1.toInt ∧ pq.toInt ≤ n) → ml (mT g) d (mb_237 g).2 (191, [(0, .ref m0), (1, .int i191_1)], [], M_191) (fun v M' => ∃ (x : Int32) (I' : rI) (R' : rR), v = some (.int x) ∧ RS g m0 q z I' R' M' ∧ eqI [3, 8, 20, 47, 48, 50, 51, 52, 53, 54, 55, 56, 57] I I' ∧ eqR [1, 2, 4, 5, 6, 7, 21, 22] R R' ∧ (x = 0 ∨ x = 1) ∧ (x = 0 ∨ FR f n I' R')) := by
                        intro n_191
                        induction n_191 with
                        | zero => intro i191_1 pq M_191 I_191 R_191 hn; exact (loop_zero hn).elim
                        | succ n_191 ih_191 =>
                          intro i191_1 pq M_191 I_191 R_191 hn_191 hR_191 hI_191 hV_191 hi_191
                          obtain ⟨hq50, hq0, hq1, hqe, hqn⟩ := hi_191
                          refine ml_blk 2 (S' := (193, [(0, .ref m0), (1, .int i191_1)], [.int 4, .int i191_1], M_191)) rfl ?_
                          refine ml_if2 (S1 := (224, [(0, .ref m0), (1, .int i191_1)], [], M_191)) (S2 := (196, [(0, .ref m0), (1, .int i191_1)], [], M_191)) rfl rfl rfl (fun c_193 => ?_) (fun c_193 => ?_)
                          · have c_193 : 4 ≤ i191_1 := of_decide_eq_true c_193
                            have hq8 : pq.toInt = ph.toInt + 8 := by have q := i_le c_193; omega
                            have hph6 : (ph + 6).toInt = ph.toInt + 6 := by rw [i_add (by omega) (by omega), i6]
                            have hqm : pq - 2 = ph + 6 := by apply Int32.toInt_inj.mp; rw [i_sub (by have : (2 : Int32).toInt = 2 := rfl; omega) (by have : (2 : Int32).toInt = 2 := rfl; omega), i_add (by omega) (by omega)]; have : (2 : Int32).toInt = 2 := rfl; omega
                            refine ml_blk 2 (S' := (226, [(0, .ref m0), (1, .int i191_1)], [.ref m0, .ref m0], M_191)) rfl ?_
                            refine rg_int (S' := (229, [(0, .ref m0), (1, .int i191_1)], [.int pq, .ref m0], M_191)) rfl hR_191 rfl (hq50) rfl ?_
                            refine ml_blk 2 (S' := (231, [(0, .ref m0), (1, .int i191_1)], [.int (pq - 2), .ref m0], M_191)) rfl ?_
                            rw [hqm]
                            have hF146 : FK n f I_191 R_191 := (((hF128.mono (cIx hI136 (by decide)) (cRx hV137 (by decide))).mono (pIx f145 (by decide)) (fun _ _ => rfl)).mono (cIx hI_191 (by decide)) (cRx hV_191 (by decide)))
                            refine ml_call (a := [.ref m0, .int (ph + 6)]) (rest := []) rfl (hR_191.okc rfl rfl rfl) rfl rfl (rm_u2 hR_191 hF146 (by omega) (by omega) (by omega)) (fun v147 M148 h149 => ?_)
                            obtain ⟨rfl, h149⟩ := h149
                            rw [h149]
                            show ml _ _ _ (234, [(0, .ref m0), (1, .int i191_1)], [.int (f2 f (ph + 6))], M_191) _
                            refine ml_st (S' := (235, [(1, .int (f2 f (ph + 6))), (0, .ref m0)], [], M_191)) rfl rfl rfl ?_
                            refine ml_st (S' := (236, [(1, .int (f2 f (ph + 6))), (0, .ref m0)], [.int 0], M_191)) rfl rfl rfl ?_
                            refine ml_st (S' := (237, [(0, .ref m0), (1, .int (f2 f (ph + 6))), (2, .int 0)], [], M_191)) rfl rfl rfl ?_
                            have L_237 : ∀ (n_237 : Nat) (i237_2 : Int32) (pr : Int32) (M_237 : mi_H) (I_237 : rI) (R_237 : rR), (2147483648 - i237_2.toInt).toNat ≤ n_237 → RS g m0 q z I_237 R_237 M_237 → eqI [47, 48, 50] I_191 I_237 → eqR [] R_191 R_237 → (I_237 50 = some pr ∧ 0 ≤ i237_2.toInt ∧ i237_2.toInt ≤ (f2 f (ph + 6)).toInt ∧ pr.toInt = ph.toInt + 8 + 2 * i237_2.toInt ∧ pr.toInt ≤ n) → ml (mT g) d (mb_237 g).2 (237, [(0, .ref m0), (1, .int (f2 f (ph + 6))), (2, .int i237_2)], [], M_237) (fun v M' => ∃ (x : Int32) (I' : rI) (R' : rR), v = some (.int x) ∧ RS g m0 q z I' R' M' ∧ eqI [3, 8, 20, 47, 48, 50, 51, 52, 53, 54, 55, 56, 57] I I' ∧ eqR [1, 2, 4, 5, 6, 7, 21, 22] R R' ∧ (x = 0 ∨ x = 1) ∧ (x = 0 ∨ FR f n I' R')) := by
                              intro n_237
                              induction n_237 with
                              | zero => intro i237_2 pr M_237 I_237 R_237 hn; exact (loop_zero hn).elim
                              | succ n_237 ih_237 =>
                                intro i237_2 pr M_237 I_237 R_237 hn_237 hR_237 hI_237 hV_237 hi_237
                                obtain ⟨hr50, hr0, hr1, hre, hrn⟩ := hi_237
                                refine ml_blk 2 (S' := (239, [(0, .ref m0), (1, .int (f2 f (ph + 6))), (2, .int i237_2)], [.int (f2 f (ph + 6)), .int i237_2], M_237)) rfl ?_
                                refine ml_if2 (S1 := (270, [(0, .ref m0), (1, .int (f2 f (ph + 6))), (2, .int i237_2)], [], M_237)) (S2 := (242, [(0, .ref m0), (1, .int (f2 f (ph + 6))), (2, .int i237_2)], [], M_237)) rfl rfl rfl (fun c_239 => ?_) (fun c_239 => ?_)
                                · have c_239 : (f2 f (ph + 6)) ≤ i237_2 := of_decide_eq_true c_239
                                  have hr6 := i_le c_239
                                  refine ml_blk 2 (S' := (272, [(0, .ref m0), (1, .int (f2 f (ph + 6))), (2, .int i237_2)], [.ref m0, .ref m0], M_237)) rfl ?_
                                  refine rg_int (S' := (275, [(0, .ref m0), (1, .int (f2 f (ph + 6))), (2, .int i237_2)], [.int pr, .ref m0], M_237)) rfl hR_237 rfl (hr50) rfl ?_
                                  refine rp_int rfl hR_237 rfl (fun M150 I151 hR152 e153 f154 => ?_)
                                  show ml _ _ _ (278, [(0, .ref m0), (1, .int (f2 f (ph + 6))), (2, .int i237_2)], [], M150) _
                                  refine ml_st (S' := (279, [(0, .ref m0), (1, .int (f2 f (ph + 6))), (2, .int i237_2)], [.ref m0], M150)) rfl rfl rfl ?_
                                  have hF155 : FK n f I151 R_237 := ((hF146.mono (cIx hI_237 (by decide)) (cRx hV_237 (by decide))).mono (pIx f154 (by decide)) (fun _ _ => rfl))
                                  refine ml_call (a := [.ref m0]) (rest := []) rfl (hR152.okc rfl rfl rfl) rfl rfl (rm_members hR152 ((f154 50 (by decide)).trans (hr50)) hF155 (by omega) (by omega) (by omega)) (fun v156 M157 h158 => ?_)
                                  obtain ⟨u164, I159, R160, rfl, hR161, hI162, hV163, z165, w166⟩ := h158
                                  show ml _ _ _ (282, [(0, .ref m0), (1, .int (f2 f (ph + 6))), (2, .int i237_2)], [.int u164], M157) _
                                  refine ml_if (S1 := (287, [(0, .ref m0), (1, .int (f2 f (ph + 6))), (2, .int i237_2)], [], M157)) (S2 := (285, [(0, .ref m0), (1, .int (f2 f (ph + 6))), (2, .int i237_2)], [], M157)) rfl rfl rfl (fun c_282 => ?_) (fun c_282 => ?_)
                                  · have c_282 : ¬ u164 = 0 := of_decide_eq_true c_282
                                    obtain ⟨p1, hp1, hmb1⟩ := w166.resolve_left c_282
                                    have hg1 := mb_ge hn hmb1
                                    refine ml_blk 2 (S' := (289, [(0, .ref m0), (1, .int (f2 f (ph + 6))), (2, .int i237_2)], [.ref m0, .ref m0], M157)) rfl ?_
                                    refine rg_int (S' := (292, [(0, .ref m0), (1, .int (f2 f (ph + 6))), (2, .int i237_2)], [.int p1, .ref m0], M157)) rfl hR161 rfl (hp1) rfl ?_
                                    refine rp_int rfl hR161 rfl (fun M167 I168 hR169 e170 f171 => ?_)
                                    show ml _ _ _ (295, [(0, .ref m0), (1, .int (f2 f (ph + 6))), (2, .int i237_2)], [], M167) _
                                    refine ml_st (S' := (296, [(0, .ref m0), (1, .int (f2 f (ph + 6))), (2, .int i237_2)], [.ref m0], M167)) rfl rfl rfl ?_
                                    have hF172 : FK n f I168 R160 := ((hF155.mono (cIx hI162 (by decide)) (cRx hV163 (by decide))).mono (pIx f171 (by decide)) (fun _ _ => rfl))
                                    refine ml_call (a := [.ref m0]) (rest := []) rfl (hR169.okc rfl rfl rfl) rfl rfl (rm_members hR169 ((f171 50 (by decide)).trans (hp1)) hF172 (by omega) (by omega) (by omega)) (fun v173 M174 h175 => ?_)
                                    obtain ⟨u181, I176, R177, rfl, hR178, hI179, hV180, z182, w183⟩ := h175
                                    show ml _ _ _ (299, [(0, .ref m0), (1, .int (f2 f (ph + 6))), (2, .int i237_2)], [.int u181], M174) _
                                    refine ml_if (S1 := (304, [(0, .ref m0), (1, .int (f2 f (ph + 6))), (2, .int i237_2)], [], M174)) (S2 := (302, [(0, .ref m0), (1, .int (f2 f (ph + 6))), (2, .int i237_2)], [], M174)) rfl rfl rfl (fun c_299 => ?_) (fun c_299 => ?_)
                                    · have c_299 : ¬ u181 = 0 := of_decide_eq_true c_299
                                      obtain ⟨p2, hp2, hmb2⟩ := w183.resolve_left c_299
                                      have hg2 := mb_ge hn hmb2
                                      refine ml_blk 2 (S' := (306, [(0, .ref m0), (1, .int (f2 f (ph + 6))), (2, .int i237_2)], [.ref m0, .ref m0], M174)) rfl ?_
                                      refine rg_int (S' := (309, [(0, .ref m0), (1, .int (f2 f (ph + 6))), (2, .int i237_2)], [.int p2, .ref m0], M174)) rfl hR178 rfl (hp2) rfl ?_
                                      refine rp_int rfl hR178 rfl (fun M184 I185 hR186 e187 f188 => ?_)
                                      show ml _ _ _ (312, [(0, .ref m0), (1, .int (f2 f (ph + 6))), (2, .int i237_2)], [], M184) _
                                      refine ml_st (S' := (313, [(0, .ref m0), (1, .int (f2 f (ph + 6))), (2, .int i237_2)], [.ref m0], M184)) rfl rfl rfl ?_
                                      have hF189 : FK n f I185 R177 := ((hF172.mono (cIx hI179 (by decide)) (cRx hV180 (by decide))).mono (pIx f188 (by decide)) (fun _ _ => rfl))
                                      refine ml_call (a := [.ref m0]) (rest := []) rfl (hR186.okc rfl rfl rfl) rfl rfl (rm_attributes hR186 ((f188 50 (by decide)).trans (hp2)) hF189 (by omega) (by omega) (by omega)) (fun v190 M191 h192 => ?_)
                                      obtain ⟨u198, I193, R194, rfl, hR195, hI196, hV197, z199, w200⟩ := h192
                                      show ml _ _ _ (316, [(0, .ref m0), (1, .int (f2 f (ph + 6))), (2, .int i237_2)], [.int u198], M191) _
                                      refine ml_if (S1 := (321, [(0, .ref m0), (1, .int (f2 f (ph + 6))), (2, .int i237_2)], [], M191)) (S2 := (319, [(0, .ref m0), (1, .int (f2 f (ph + 6))), (2, .int i237_2)], [], M191)) rfl rfl rfl (fun c_316 => ?_) (fun c_316 => ?_)
                                      · have c_316 : ¬ u198 = 0 := of_decide_eq_true c_316
                                        obtain ⟨p3, hp3, hat3⟩ := w200.resolve_left c_316
                                        refine ml_st (S' := (322, [(0, .ref m0), (1, .int (f2 f (ph + 6))), (2, .int i237_2)], [.ref m0], M191)) rfl rfl rfl ?_
                                        refine rg_int (S' := (325, [(0, .ref m0), (1, .int (f2 f (ph + 6))), (2, .int i237_2)], [.int p3], M191)) rfl hR195 rfl (hp3) rfl ?_
                                        refine ml_st (S' := (326, [(0, .ref m0), (1, .int (f2 f (ph + 6))), (2, .int i237_2)], [.ref m0, .int p3], M191)) rfl rfl rfl ?_
                                        refine rg_int (S' := (329, [(0, .ref m0), (1, .int (f2 f (ph + 6))), (2, .int i237_2)], [.int (nI n), .int p3], M191)) rfl hR195 rfl ((hI196 16 (by decide)).trans ((f188 16 (by decide)).trans ((hI179 16 (by decide)).trans ((f171 16 (by decide)).trans ((hI162 16 (by decide)).trans ((f154 16 (by decide)).trans ((hI_237 16 (by decide)).trans ((hI_191 16 (by decide)).trans ((f145 16 (by decide)).trans ((hI136 16 (by decide)).trans ((f127 16 (by decide)).trans ((f122 16 (by decide)).trans ((hI109 16 (by decide)).trans ((f101 16 (by decide)).trans ((f74 16 (by decide)).trans ((hI61 16 (by decide)).trans ((f53 16 (by decide)).trans ((hI44 16 (by decide)).trans ((f36 16 (by decide)).trans ((hI23 16 (by decide)).trans ((f15 16 (by decide)).trans (hF.2.2.1)))))))))))))))))))))) rfl ?_
                                        refine ml_if2 (S1 := (345, [], [], M191)) (S2 := (332, [(0, .ref m0), (1, .int (f2 f (ph + 6))), (2, .int i237_2)], [], M191)) rfl rfl rfl (fun c_329 => ?_) (fun c_329 => ?_)
                                        · have c_329 : p3 = (nI n) := of_decide_eq_true c_329
                                          refine ml_st (S' := (346, [], [.int 1], M191)) rfl rfl rfl ?_
                                          refine ml_st (S' := (350, [], [.int 1], M191)) rfl rfl rfl ?_
                                          have hZ201 : SYM S9 c9 I193 R194 := (((((((((hz9.mono (pIx f145 (by decide)) (fun _ _ => rfl)).mono (cIx hI_191 (by decide)) (cRx hV_191 (by decide))).mono (cIx hI_237 (by decide)) (cRx hV_237 (by decide))).mono (pIx f154 (by decide)) (fun _ _ => rfl)).mono (cIx hI162 (by decide)) (cRx hV163 (by decide))).mono (pIx f171 (by decide)) (fun _ _ => rfl)).mono (cIx hI179 (by decide)) (cRx hV180 (by decide))).mono (pIx f188 (by decide)) (fun _ _ => rfl)).mono (cIx hI196 (by decide)) (cRx hV197 (by decide)))
                                          exact ml_ret rfl (r_z (Or.inr rfl)) (⟨_, _, _, rfl, hR195, (((((((((((((((((((((eqI.rf.put f15 (by decide)).tr hI23 (by decide)).put f36 (by decide)).tr hI44 (by decide)).put f53 (by decide)).tr hI61 (by decide)).put f74 (by decide)).put f101 (by decide)).tr hI109 (by decide)).put f122 (by decide)).put f127 (by decide)).tr hI136 (by decide)).put f145 (by decide)).tr hI_191 (by decide)).tr hI_237 (by decide)).put f154 (by decide)).tr hI162 (by decide)).put f171 (by decide)).tr hI179 (by decide)).put f188 (by decide)).tr hI196 (by decide)), ((((((((((eqR.rf.tr hV24 (by decide)).tr hV45 (by decide)).tr hV62 (by decide)).tr hV110 (by decide)).tr hV137 (by decide)).tr hV_191 (by decide)).tr hV_237 (by decide)).tr hV163 (by decide)).tr hV180 (by decide)).tr hV197 (by decide)), Or.inr rfl, Or.inr ⟨S9, c9, (f2 f 8), (f2 f 6), ph, pr, p1, p2, hZ201, hpen.mono ((hV197 21 (by decide)).trans ((hV180 21 (by decide)).trans ((hV163 21 (by decide)).trans ((hV_237 21 (by decide)).trans ((hV_191 21 (by decide))))))) (fun j _ => congrFun ((hV197 22 (by decide)).trans ((hV180 22 (by decide)).trans ((hV163 22 (by decide)).trans ((hV_237 22 (by decide)).trans ((hV_191 22 (by decide))))))) j) (Nat.le_refl _), ⟨⟨by have := f2_pos (f := f) (x := 8); have h9 : (f2 f 8).toInt ≠ 0 := (fun e => c_155 (Int32.toInt_inj.mp e)); omega, f2_le⟩, ⟨by omega, by omega, hrn⟩, hmb1, hmb2, _, hat3⟩, (hI196 51 (by decide)).trans ((f188 51 (by decide)).trans ((hI179 51 (by decide)).trans ((f171 51 (by decide)).trans ((hI162 51 (by decide)).trans ((f154 51 (by decide)).trans ((hI_237 51 (by decide)).trans ((hI_191 51 (by decide)).trans ((f145 51 (by decide)).trans (h51))))))))), (hI196 52 (by decide)).trans ((f188 52 (by decide)).trans ((hI179 52 (by decide)).trans ((f171 52 (by decide)).trans ((hI162 52 (by decide)).trans ((f154 52 (by decide)).trans ((hI_237 52 (by decide)).trans ((hI_191 52 (by decide)).trans ((f145 52 (by decide)).trans ((hI136 52 (by decide)).trans ((f127 52 (by decide)).trans (e121))))))))))), (hI196 53 (by decide)).trans ((f188 53 (by decide)).trans ((hI179 53 (by decide)).trans ((f171 53 (by decide)).trans ((hI162 53 (by decide)).trans ((f154 53 (by decide)).trans ((hI_237 53 (by decide)).trans ((hI_191 53 (by decide)).trans ((f145 53 (by decide)).trans ((hI136 53 (by decide)).trans ((f127 53 (by decide)).trans ((f122 53 (by decide)).trans ((hI109 53 (by decide)).trans ((f101 53 (by decide)).trans (e73)))))))))))))), (hI196 54 (by decide)).trans ((f188 54 (by decide)).trans ((hI179 54 (by decide)).trans ((f171 54 (by decide)).trans ((hI162 54 (by decide)).trans ((f154 54 (by decide)).trans ((hI_237 54 (by decide)).trans ((hI_191 54 (by decide)).trans (e144)))))))), (hI196 55 (by decide)).trans ((f188 55 (by decide)).trans ((hI179 55 (by decide)).trans ((f171 55 (by decide)).trans ((hI162 55 (by decide)).trans (e153))))), (hI196 56 (by decide)).trans ((f188 56 (by decide)).trans ((hI179 56 (by decide)).trans (e170))), (hI196 57 (by decide)).trans (e187)⟩⟩)
                                        · have c_329 : ¬ (p3 = (nI n)) := of_decide_eq_false c_329
                                          refine ml_blk 3 (S' := (336, [(0, .ref m0), (1, .int (f2 f (ph + 6))), (2, .int i237_2)], [.ref m0, .int 8, .ref m0], M191)) rfl ?_
                                          refine rg_int (S' := (339, [(0, .ref m0), (1, .int (f2 f (ph + 6))), (2, .int i237_2)], [.int p3, .int 8, .ref m0], M191)) rfl hR195 rfl (hp3) rfl ?_
                                          refine ml_call (a := [.ref m0, .int 8, .int p3]) (rest := []) rfl (hR195.okc rfl rfl rfl) rfl rfl (rm_wrong hR195 (by omega)) (fun v202 M203 h204 => ?_)
                                          obtain ⟨u210, I205, R206, rfl, hR207, hI208, hV209, z211, w212⟩ := h204
                                          show ml _ _ _ (342, [(0, .ref m0), (1, .int (f2 f (ph + 6))), (2, .int i237_2)], [.int u210], M203) _
                                          refine ml_if (S1 := (349, [(0, .ref m0), (1, .int (f2 f (ph + 6))), (2, .int i237_2)], [], M203)) (S2 := (345, [], [], M203)) rfl rfl rfl (fun c_342 => ?_) (fun c_342 => ?_)
                                          · have c_342 : u210 = 0 := of_decide_eq_true c_342
                                            refine ml_st (S' := (350, [], [.int 0], M203)) rfl rfl rfl ?_
                                            exact ml_ret rfl (r_z (Or.inl rfl)) (⟨_, _, _, rfl, hR207, ((((((((((((((((((((((eqI.rf.put f15 (by decide)).tr hI23 (by decide)).put f36 (by decide)).tr hI44 (by decide)).put f53 (by decide)).tr hI61 (by decide)).put f74 (by decide)).put f101 (by decide)).tr hI109 (by decide)).put f122 (by decide)).put f127 (by decide)).tr hI136 (by decide)).put f145 (by decide)).tr hI_191 (by decide)).tr hI_237 (by decide)).put f154 (by decide)).tr hI162 (by decide)).put f171 (by decide)).tr hI179 (by decide)).put f188 (by decide)).tr hI196 (by decide)).tr hI208 (by decide)), (((((((((((eqR.rf.tr hV24 (by decide)).tr hV45 (by decide)).tr hV62 (by decide)).tr hV110 (by decide)).tr hV137 (by decide)).tr hV_191 (by decide)).tr hV_237 (by decide)).tr hV163 (by decide)).tr hV180 (by decide)).tr hV197 (by decide)).tr hV209 (by decide)), Or.inl rfl, Or.inl rfl⟩)
                                          · have c_342 : ¬ (u210 = 0) := of_decide_eq_false c_342
                                            refine ml_st (S' := (346, [], [.int 1], M203)) rfl rfl rfl ?_
                                            refine ml_st (S' := (350, [], [.int 1], M203)) rfl rfl rfl ?_
                                            exact ml_ret rfl (r_z (Or.inr rfl)) (⟨_, _, _, rfl, hR207, ((((((((((((((((((((((eqI.rf.put f15 (by decide)).tr hI23 (by decide)).put f36 (by decide)).tr hI44 (by decide)).put f53 (by decide)).tr hI61 (by decide)).put f74 (by decide)).put f101 (by decide)).tr hI109 (by decide)).put f122 (by decide)).put f127 (by decide)).tr hI136 (by decide)).put f145 (by decide)).tr hI_191 (by decide)).tr hI_237 (by decide)).put f154 (by decide)).tr hI162 (by decide)).put f171 (by decide)).tr hI179 (by decide)).put f188 (by decide)).tr hI196 (by decide)).tr hI208 (by decide)), (((((((((((eqR.rf.tr hV24 (by decide)).tr hV45 (by decide)).tr hV62 (by decide)).tr hV110 (by decide)).tr hV137 (by decide)).tr hV_191 (by decide)).tr hV_237 (by decide)).tr hV163 (by decide)).tr hV180 (by decide)).tr hV197 (by decide)).tr hV209 (by decide)), Or.inr rfl, absurd w212 c_342⟩)
                                      · have c_316 : ¬ (¬ u198 = 0) := of_decide_eq_false c_316
                                        refine ml_st (S' := (320, [(0, .ref m0), (1, .int (f2 f (ph + 6))), (2, .int i237_2)], [.int 0], M191)) rfl rfl rfl ?_
                                        exact ml_ret rfl (r_z (Or.inl rfl)) (⟨_, _, _, rfl, hR195, (((((((((((((((((((((eqI.rf.put f15 (by decide)).tr hI23 (by decide)).put f36 (by decide)).tr hI44 (by decide)).put f53 (by decide)).tr hI61 (by decide)).put f74 (by decide)).put f101 (by decide)).tr hI109 (by decide)).put f122 (by decide)).put f127 (by decide)).tr hI136 (by decide)).put f145 (by decide)).tr hI_191 (by decide)).tr hI_237 (by decide)).put f154 (by decide)).tr hI162 (by decide)).put f171 (by decide)).tr hI179 (by decide)).put f188 (by decide)).tr hI196 (by decide)), ((((((((((eqR.rf.tr hV24 (by decide)).tr hV45 (by decide)).tr hV62 (by decide)).tr hV110 (by decide)).tr hV137 (by decide)).tr hV_191 (by decide)).tr hV_237 (by decide)).tr hV163 (by decide)).tr hV180 (by decide)).tr hV197 (by decide)), Or.inl rfl, Or.inl rfl⟩)
                                    · have c_299 : ¬ (¬ u181 = 0) := of_decide_eq_false c_299
                                      refine ml_st (S' := (303, [(0, .ref m0), (1, .int (f2 f (ph + 6))), (2, .int i237_2)], [.int 0], M174)) rfl rfl rfl ?_
                                      exact ml_ret rfl (r_z (Or.inl rfl)) (⟨_, _, _, rfl, hR178, (((((((((((((((((((eqI.rf.put f15 (by decide)).tr hI23 (by decide)).put f36 (by decide)).tr hI44 (by decide)).put f53 (by decide)).tr hI61 (by decide)).put f74 (by decide)).put f101 (by decide)).tr hI109 (by decide)).put f122 (by decide)).put f127 (by decide)).tr hI136 (by decide)).put f145 (by decide)).tr hI_191 (by decide)).tr hI_237 (by decide)).put f154 (by decide)).tr hI162 (by decide)).put f171 (by decide)).tr hI179 (by decide)), (((((((((eqR.rf.tr hV24 (by decide)).tr hV45 (by decide)).tr hV62 (by decide)).tr hV110 (by decide)).tr hV137 (by decide)).tr hV_191 (by decide)).tr hV_237 (by decide)).tr hV163 (by decide)).tr hV180 (by decide)), Or.inl rfl, Or.inl rfl⟩)
                                  · have c_282 : ¬ (¬ u164 = 0) := of_decide_eq_false c_282
                                    refine ml_st (S' := (286, [(0, .ref m0), (1, .int (f2 f (ph + 6))), (2, .int i237_2)], [.int 0], M157)) rfl rfl rfl ?_
                                    exact ml_ret rfl (r_z (Or.inl rfl)) (⟨_, _, _, rfl, hR161, (((((((((((((((((eqI.rf.put f15 (by decide)).tr hI23 (by decide)).put f36 (by decide)).tr hI44 (by decide)).put f53 (by decide)).tr hI61 (by decide)).put f74 (by decide)).put f101 (by decide)).tr hI109 (by decide)).put f122 (by decide)).put f127 (by decide)).tr hI136 (by decide)).put f145 (by decide)).tr hI_191 (by decide)).tr hI_237 (by decide)).put f154 (by decide)).tr hI162 (by decide)), ((((((((eqR.rf.tr hV24 (by decide)).tr hV45 (by decide)).tr hV62 (by decide)).tr hV110 (by decide)).tr hV137 (by decide)).tr hV_191 (by decide)).tr hV_237 (by decide)).tr hV163 (by decide)), Or.inl rfl, Or.inl rfl⟩)
                                · have c_239 : ¬ ((f2 f (ph + 6)) ≤ i237_2) := of_decide_eq_false c_239
                                  refine ml_blk 2 (S' := (246, [(0, .ref m0), (1, .int (f2 f (ph + 6))), (2, .int i237_2)], [.long 2, .ref m0], M_237)) rfl ?_
                                  have hF213 : FK n f I_237 R_237 := (hF146.mono (cIx hI_237 (by decide)) (cRx hV_237 (by decide)))
                                  refine ml_call (a := [.ref m0, .long 2]) (rest := []) rfl (hR_237.okc rfl rfl rfl) rfl rfl (rm_item hR_237 (hr50) hF213 (by omega) (by omega) (by decide) (by decide) (by omega)) (fun v214 M215 h216 => ?_)
                                  obtain ⟨u222, I217, R218, rfl, hR219, hI220, hV221, z223, w224⟩ := h216
                                  show ml _ _ _ (249, [(0, .ref m0), (1, .int (f2 f (ph + 6))), (2, .int i237_2)], [.int u222], M215) _
                                  refine ml_if (S1 := (254, [(0, .ref m0), (1, .int (f2 f (ph + 6))), (2, .int i237_2)], [], M215)) (S2 := (252, [(0, .ref m0), (1, .int (f2 f (ph + 6))), (2, .int i237_2)], [], M215)) rfl rfl rfl (fun c_249 => ?_) (fun c_249 => ?_)
                                  · have c_249 : ¬ u222 = 0 := of_decide_eq_true c_249
                                    have hb := w224.resolve_left c_249
                                    have hr4 : (pr + 2).toInt = pr.toInt + 2 := i_add (by have : (2 : Int32).toInt = 2 := rfl; omega) (by have : (2 : Int32).toInt = 2 := rfl; omega)
                                    have hr5 := inc_lt (Int32.not_le.mp c_239)
                                    refine ml_blk 2 (S' := (256, [(0, .ref m0), (1, .int (f2 f (ph + 6))), (2, .int i237_2)], [.ref m0, .ref m0], M215)) rfl ?_
                                    refine rg_int (S' := (259, [(0, .ref m0), (1, .int (f2 f (ph + 6))), (2, .int i237_2)], [.int pr, .ref m0], M215)) rfl hR219 rfl ((hI220 50 (by decide)).trans (hr50)) rfl ?_
                                    refine ml_blk 2 (S' := (261, [(0, .ref m0), (1, .int (f2 f (ph + 6))), (2, .int i237_2)], [.int (pr + 2), .ref m0], M215)) rfl ?_
                                    refine rp_int rfl hR219 rfl (fun M225 I226 hR227 e228 f229 => ?_)
                                    show ml _ _ _ (264, [(0, .ref m0), (1, .int (f2 f (ph + 6))), (2, .int i237_2)], [], M225) _
                                    refine ml_st (S' := (267, [(2, .int (i237_2 + 1)), (0, .ref m0), (1, .int (f2 f (ph + 6)))], [], M225)) rfl rfl rfl ?_
                                    refine ml_st (S' := (237, [(0, .ref m0), (1, .int (f2 f (ph + 6))), (2, .int (i237_2 + 1))], [], M225)) rfl rfl rfl ?_
                                    exact ih_237 (i237_2 + 1) (pr + 2) _ _ _ (loop_inc (Int32.not_le.mp c_239) hn_237) hR227 (((eqI.rf.tr hI_237 (by decide)).tr hI220 (by decide)).put f229 (by decide)) ((eqR.rf.tr hV_237 (by decide)).tr hV221 (by decide)) (⟨e228, by rw [hr5]; omega, by rw [hr5]; have := i_nle c_239; omega, by rw [hr5]; omega, by omega⟩)
                                  · have c_249 : ¬ (¬ u222 = 0) := of_decide_eq_false c_249
                                    refine ml_st (S' := (253, [(0, .ref m0), (1, .int (f2 f (ph + 6))), (2, .int i237_2)], [.int 0], M215)) rfl rfl rfl ?_
                                    exact ml_ret rfl (r_z (Or.inl rfl)) (⟨_, _, _, rfl, hR219, ((((((((((((((((eqI.rf.put f15 (by decide)).tr hI23 (by decide)).put f36 (by decide)).tr hI44 (by decide)).put f53 (by decide)).tr hI61 (by decide)).put f74 (by decide)).put f101 (by decide)).tr hI109 (by decide)).put f122 (by decide)).put f127 (by decide)).tr hI136 (by decide)).put f145 (by decide)).tr hI_191 (by decide)).tr hI_237 (by decide)).tr hI220 (by decide)), ((((((((eqR.rf.tr hV24 (by decide)).tr hV45 (by decide)).tr hV62 (by decide)).tr hV110 (by decide)).tr hV137 (by decide)).tr hV_191 (by decide)).tr hV_237 (by decide)).tr hV221 (by decide)), Or.inl rfl, Or.inl rfl⟩)
                            exact L_237 _ 0 pq _ _ _ (Nat.le_refl _) hR_191 eqI.rf eqR.rf (⟨hq50, by decide, by show (0 : Int) ≤ _; exact f2_pos, by show _ = ph.toInt + 8 + 2 * 0; omega, by omega⟩)
                          · have c_193 : ¬ (4 ≤ i191_1) := of_decide_eq_false c_193
                            refine ml_blk 2 (S' := (200, [(0, .ref m0), (1, .int i191_1)], [.long 2, .ref m0], M_191)) rfl ?_
                            have hF230 : FK n f I_191 R_191 := (((hF128.mono (cIx hI136 (by decide)) (cRx hV137 (by decide))).mono (pIx f145 (by decide)) (fun _ _ => rfl)).mono (cIx hI_191 (by decide)) (cRx hV_191 (by decide)))
                            refine ml_call (a := [.ref m0, .long 2]) (rest := []) rfl (hR_191.okc rfl rfl rfl) rfl rfl (rm_item hR_191 (hq50) hF230 (by omega) (by omega) (by decide) (by decide) (by omega)) (fun v231 M232 h233 => ?_)
                            obtain ⟨u239, I234, R235, rfl, hR236, hI237, hV238, z240, w241⟩ := h233
                            show ml _ _ _ (203, [(0, .ref m0), (1, .int i191_1)], [.int u239], M232) _
                            refine ml_if (S1 := (208, [(0, .ref m0), (1, .int i191_1)], [], M232)) (S2 := (206, [(0, .ref m0), (1, .int i191_1)], [], M232)) rfl rfl rfl (fun c_203 => ?_) (fun c_203 => ?_)
                            · have c_203 : ¬ u239 = 0 := of_decide_eq_true c_203
                              have hb := w241.resolve_left c_203
                              have hq4 : (pq + 2).toInt = pq.toInt + 2 := i_add (by have : (2 : Int32).toInt = 2 := rfl; omega) (by have : (2 : Int32).toInt = 2 := rfl; omega)
                              have hq5 := inc_lt (Int32.not_le.mp c_193)
                              refine ml_blk 2 (S' := (210, [(0, .ref m0), (1, .int i191_1)], [.ref m0, .ref m0], M232)) rfl ?_
                              refine rg_int (S' := (213, [(0, .ref m0), (1, .int i191_1)], [.int pq, .ref m0], M232)) rfl hR236 rfl ((hI237 50 (by decide)).trans (hq50)) rfl ?_
                              refine ml_blk 2 (S' := (215, [(0, .ref m0), (1, .int i191_1)], [.int (pq + 2), .ref m0], M232)) rfl ?_
                              refine rp_int rfl hR236 rfl (fun M242 I243 hR244 e245 f246 => ?_)
                              show ml _ _ _ (218, [(0, .ref m0), (1, .int i191_1)], [], M242) _
                              refine ml_st (S' := (221, [(1, .int (i191_1 + 1)), (0, .ref m0)], [], M242)) rfl rfl rfl ?_
                              refine ml_st (S' := (191, [(0, .ref m0), (1, .int (i191_1 + 1))], [], M242)) rfl rfl rfl ?_
                              exact ih_191 (i191_1 + 1) (pq + 2) _ _ _ (loop_inc (Int32.not_le.mp c_193) hn_191) hR244 (((eqI.rf.tr hI_191 (by decide)).tr hI237 (by decide)).put f246 (by decide)) ((eqR.rf.tr hV_191 (by decide)).tr hV238 (by decide)) (⟨e245, by rw [hq5]; omega, by rw [hq5]; have := i_nle c_193; omega, by rw [hq5]; omega, by omega⟩)
                            · have c_203 : ¬ (¬ u239 = 0) := of_decide_eq_false c_203
                              refine ml_st (S' := (207, [(0, .ref m0), (1, .int i191_1)], [.int 0], M232)) rfl rfl rfl ?_
                              exact ml_ret rfl (r_z (Or.inl rfl)) (⟨_, _, _, rfl, hR236, (((((((((((((((eqI.rf.put f15 (by decide)).tr hI23 (by decide)).put f36 (by decide)).tr hI44 (by decide)).put f53 (by decide)).tr hI61 (by decide)).put f74 (by decide)).put f101 (by decide)).tr hI109 (by decide)).put f122 (by decide)).put f127 (by decide)).tr hI136 (by decide)).put f145 (by decide)).tr hI_191 (by decide)).tr hI237 (by decide)), (((((((eqR.rf.tr hV24 (by decide)).tr hV45 (by decide)).tr hV62 (by decide)).tr hV110 (by decide)).tr hV137 (by decide)).tr hV_191 (by decide)).tr hV238 (by decide)), Or.inl rfl, Or.inl rfl⟩)
                      exact L_191 _ 0 ph _ _ _ (Nat.le_refl _) hR143 eqI.rf eqR.rf (⟨(f145 50 (by decide)).trans (hph), by decide, by decide, by show _ = ph.toInt + 2 * 0; omega, by omega⟩)
                    · have c_176 : ¬ (¬ u138 = 0) := of_decide_eq_false c_176
                      refine ml_st (S' := (180, [(0, .ref m0)], [.int 0], M131)) rfl rfl rfl ?_
                      exact ml_ret rfl (r_z (Or.inl rfl)) (⟨_, _, _, rfl, hR135, ((((((((((((eqI.rf.put f15 (by decide)).tr hI23 (by decide)).put f36 (by decide)).tr hI44 (by decide)).put f53 (by decide)).tr hI61 (by decide)).put f74 (by decide)).put f101 (by decide)).tr hI109 (by decide)).put f122 (by decide)).put f127 (by decide)).tr hI136 (by decide)), (((((eqR.rf.tr hV24 (by decide)).tr hV45 (by decide)).tr hV62 (by decide)).tr hV110 (by decide)).tr hV137 (by decide)), Or.inl rfl, Or.inl rfl⟩)
                  · have c_155 : ¬ (¬ (f2 f 8) = 0) := of_decide_eq_false c_155
                    refine ml_blk 3 (S' := (162, [(0, .ref m0)], [.int 8, .int 4, .ref m0], M118)) rfl ?_
                    refine ml_call (a := [.ref m0, .int 4, .int 8]) (rest := []) rfl (hR120.okc rfl rfl rfl) rfl rfl (rm_wrong hR120 (by omega)) (fun v247 M248 h249 => ?_)
                    obtain ⟨u255, I250, R251, rfl, hR252, hI253, hV254, z256, w257⟩ := h249
                    show ml _ _ _ (165, [(0, .ref m0)], [.int u255], M248) _
                    exact ml_ret rfl (r_z (z256)) (⟨_, _, _, rfl, hR252, (((((((((((eqI.rf.put f15 (by decide)).tr hI23 (by decide)).put f36 (by decide)).tr hI44 (by decide)).put f53 (by decide)).tr hI61 (by decide)).put f74 (by decide)).put f101 (by decide)).tr hI109 (by decide)).put f122 (by decide)).tr hI253 (by decide)), (((((eqR.rf.tr hV24 (by decide)).tr hV45 (by decide)).tr hV62 (by decide)).tr hV110 (by decide)).tr hV254 (by decide)), z256, Or.inl w257⟩)
                · have c_136 : ¬ (¬ u111 = 0) := of_decide_eq_false c_136
                  refine ml_st (S' := (140, [(0, .ref m0)], [.int 0], M104)) rfl rfl rfl ?_
                  exact ml_ret rfl (r_z (Or.inl rfl)) (⟨_, _, _, rfl, hR108, (((((((((eqI.rf.put f15 (by decide)).tr hI23 (by decide)).put f36 (by decide)).tr hI44 (by decide)).put f53 (by decide)).tr hI61 (by decide)).put f74 (by decide)).put f101 (by decide)).tr hI109 (by decide)), ((((eqR.rf.tr hV24 (by decide)).tr hV45 (by decide)).tr hV62 (by decide)).tr hV110 (by decide)), Or.inl rfl, Or.inl rfl⟩)
              refine ml_if2 (S1 := (123, [(0, .ref m0)], [], M70)) (S2 := (108, [(0, .ref m0)], [], M70)) rfl rfl rfl (fun c_105 => ?_) (fun c_105 => ?_)
              · have c_105 : (f2 f 6) < 56 := of_decide_eq_true c_105
                exact J_123 
              · have c_105 : ¬ ((f2 f 6) < 56) := of_decide_eq_false c_105
                refine ml_blk 2 (S' := (110, [(0, .ref m0)], [.int 4, .ref m0], M70)) rfl ?_
                have hF258 : FK n f I71 R59 := (hF66.mono (pIx f74 (by decide)) (fun _ _ => rfl))
                refine ml_call (a := [.ref m0, .int 4]) (rest := []) rfl (hR72.okc rfl rfl rfl) rfl rfl (rm_u2 hR72 hF258 (by omega) (by omega) (by omega)) (fun v259 M260 h261 => ?_)
                obtain ⟨rfl, h261⟩ := h261
                rw [h261]
                show ml _ _ _ (113, [(0, .ref m0)], [.int (f2 f 4)], M70) _
                refine ml_if (S1 := (123, [(0, .ref m0)], [], M70)) (S2 := (116, [(0, .ref m0)], [], M70)) rfl rfl rfl (fun c_113 => ?_) (fun c_113 => ?_)
                · have c_113 : (f2 f 4) = 0 := of_decide_eq_true c_113
                  exact J_123 
                · have c_113 : ¬ ((f2 f 4) = 0) := of_decide_eq_false c_113
                  refine ml_blk 3 (S' := (119, [(0, .ref m0)], [.int 4, .int 3, .ref m0], M70)) rfl ?_
                  refine ml_call (a := [.ref m0, .int 3, .int 4]) (rest := []) rfl (hR72.okc rfl rfl rfl) rfl rfl (rm_wrong hR72 (by omega)) (fun v262 M263 h264 => ?_)
                  obtain ⟨u270, I265, R266, rfl, hR267, hI268, hV269, z271, w272⟩ := h264
                  show ml _ _ _ (122, [(0, .ref m0)], [.int u270], M263) _
                  exact ml_ret rfl (r_z (z271)) (⟨_, _, _, rfl, hR267, ((((((((eqI.rf.put f15 (by decide)).tr hI23 (by decide)).put f36 (by decide)).tr hI44 (by decide)).put f53 (by decide)).tr hI61 (by decide)).put f74 (by decide)).tr hI268 (by decide)), ((((eqR.rf.tr hV24 (by decide)).tr hV45 (by decide)).tr hV62 (by decide)).tr hV269 (by decide)), z271, Or.inl w272⟩)
        · have c_66 : ¬ (¬ u63 = 0) := of_decide_eq_false c_66
          refine ml_st (S' := (70, [(0, .ref m0)], [.int 0], M56)) rfl rfl rfl ?_
          exact ml_ret rfl (r_z (Or.inl rfl)) (⟨_, _, _, rfl, hR60, ((((((eqI.rf.put f15 (by decide)).tr hI23 (by decide)).put f36 (by decide)).tr hI44 (by decide)).put f53 (by decide)).tr hI61 (by decide)), (((eqR.rf.tr hV24 (by decide)).tr hV45 (by decide)).tr hV62 (by decide)), Or.inl rfl, Or.inl rfl⟩)
      · have c_48 : ¬ (¬ u46 = 0) := of_decide_eq_false c_48
        refine ml_st (S' := (52, [(0, .ref m0)], [.int 0], M39)) rfl rfl rfl ?_
        exact ml_ret rfl (r_z (Or.inl rfl)) (⟨_, _, _, rfl, hR43, ((((eqI.rf.put f15 (by decide)).tr hI23 (by decide)).put f36 (by decide)).tr hI44 (by decide)), ((eqR.rf.tr hV24 (by decide)).tr hV45 (by decide)), Or.inl rfl, Or.inl rfl⟩)
    · have c_26 : ¬ ((lg_cmp (f4 f 0) 3405691582) = 0) := of_decide_eq_false c_26
      refine ml_blk 3 (S' := (32, [(0, .ref m0)], [.int 0, .int 2, .ref m0], M18)) rfl ?_
      refine ml_call (a := [.ref m0, .int 2, .int 0]) (rest := []) rfl (hR22.okc rfl rfl rfl) rfl rfl (rm_wrong hR22 (by omega)) (fun v273 M274 h275 => ?_)
      obtain ⟨u281, I276, R277, rfl, hR278, hI279, hV280, z282, w283⟩ := h275
      show ml _ _ _ (35, [(0, .ref m0)], [.int u281], M274) _
      exact ml_ret rfl (r_z (z282)) (⟨_, _, _, rfl, hR278, (((eqI.rf.put f15 (by decide)).tr hI23 (by decide)).tr hI279 (by decide)), ((eqR.rf.tr hV24 (by decide)).tr hV280 (by decide)), z282, Or.inl w283⟩)
  · have c_12 : ¬ (¬ u25 = 0) := of_decide_eq_false c_12
    refine ml_st (S' := (16, [(0, .ref m0)], [.int 0], M18)) rfl rfl rfl ?_
    exact ml_ret rfl (r_z (Or.inl rfl)) (⟨_, _, _, rfl, hR22, ((eqI.rf.put f15 (by decide)).tr hI23 (by decide)), (eqR.rf.tr hV24 (by decide)), Or.inl rfl, Or.inl rfl⟩)
end
section
/-! the reference: texts (my own text) -/
section MIV
def tx (sa ch : Nat → Int32) (s k : Int32) : Int32 := ch (sa s.toNatClampNeg + k).toNatClampNeg
def sL (sl : Nat → Int32) (s : Int32) : Int32 := sl s.toNatClampNeg
theorem r_c {v : Int32} (h : ch16 v) : r_int mi_cc [.int v] = some (some (.int v)) := by
  have : mi_cc v = true := decide_eq_true h
  simp [r_int, this]
/-- a class's name -/
def ntx (c : Int32 → Int32) (to : Int32) : Nat → Int32 → Int32 → Int32
  | 0, _, _ => 1
  | m + 1, k, last => if to < k then 1 else if (if k < to then c k else 47) = 46 ∨ (if k < to then c k else 47) = 59 ∨ (if k < to then c k else 47) = 91 then 0 else if (if k < to then c k else 47) = 47 then (if k = last + 1 then 0 else ntx c to m (k + 1) k) else ntx c to m (k + 1) last
def ntf (to k : Int32) : Nat := (to.toInt + 2 - k.toInt).toNat
def ntv (c : Int32 → Int32) (a to : Int32) : Int32 := ntx c to (ntf to a) a (a - 1)
variable {c : Int32 → Int32} {to k last v n a e : Int32} {m : Nat} {p : Int32 → Bool}
theorem ntf_s (h : ¬ to < k) (h1 : (k + 1).toInt = k.toInt + 1) : ntf to k = ntf to (k + 1) + 1 := by
  have := i_nlt h
  unfold ntf
  omega
theorem ntx_end (h : to < k) : ntx c to m k last = 1 := by
  cases m with
  | zero => rfl
  | succ m => rw [ntx, if_pos h]
theorem ntx_bad (h : ¬ to < k) (hv : v = if k < to then c k else 47) (hb : v = 46 ∨ v = 59 ∨ v = 91) : ntx c to (m + 1) k last = 0 := by
  rw [ntx, if_neg h, ← hv, if_pos hb]
theorem ntx_dbl (h : ¬ to < k) (hv : v = if k < to then c k else 47) (hb : ¬ (v = 46 ∨ v = 59 ∨ v = 91)) (h47 : v = 47) (hl : k = last + 1) : ntx c to (m + 1) k last = 0 := by
  rw [ntx, if_neg h, ← hv, if_neg hb, if_pos h47, if_pos hl]
theorem ntx_sep (h : ¬ to < k) (hv : v = if k < to then c k else 47) (hb : ¬ (v = 46 ∨ v = 59 ∨ v = 91)) (h47 : v = 47) (hl : ¬ k = last + 1) : ntx c to (m + 1) k last = ntx c to m (k + 1) k := by
  rw [ntx, if_neg h, ← hv, if_neg hb, if_pos h47, if_neg hl]
theorem ntx_go (h : ¬ to < k) (hv : v = if k < to then c k else 47) (hb : ¬ (v = 46 ∨ v = 59 ∨ v = 91)) (h47 : ¬ v = 47) : ntx c to (m + 1) k last = ntx c to m (k + 1) last := by
  rw [ntx, if_neg h, ← hv, if_neg hb, if_neg h47]
theorem ntx_01 : ∀ {m : Nat} {k last : Int32}, ntx c to m k last = 0 ∨ ntx c to m k last = 1
  | 0, _, _ => Or.inr rfl
  | m + 1, k, last => by
    rw [ntx]
    generalize (if k < to then c k else 47) = v
    split
    · exact Or.inr rfl
    · split
      · exact Or.inl rfl
      · split
        · split
          · exact Or.inl rfl
          · exact ntx_01
        · exact ntx_01
/-- the first place from k on where p is no longer so -/
def scn (p : Int32 → Bool) (n : Int32) : Nat → Int32 → Int32
  | 0, k => k
  | m + 1, k => if k < n ∧ p k = true then scn p n m (k + 1) else k
def scf (n k : Int32) : Nat := (n.toInt - k.toInt).toNat
theorem scn_end (h : ¬ (k < n ∧ p k = true)) : scn p n m k = k := by
  cases m with
  | zero => rfl
  | succ m => rw [scn, if_neg h]
theorem scn_go (h : k < n) (hp : p k = true) (h1 : (k + 1).toInt = k.toInt + 1) : scn p n (scf n k) k = scn p n (scf n (k + 1)) (k + 1) := by
  have h2 := i_lt h
  rw [show scf n k = scf n (k + 1) + 1 by unfold scf; omega, scn, if_pos ⟨h, hp⟩]
theorem scn_ge : ∀ {m : Nat} {k : Int32}, 0 ≤ k.toInt → k.toInt ≤ n.toInt → n.toInt < 1073741824 → k.toInt ≤ (scn p n m k).toInt ∧ (scn p n m k).toInt ≤ n.toInt
  | 0, k, h0, h1, _ => ⟨Int.le_refl _, h1⟩
  | m + 1, k, h0, h1, h2 => by
    rw [scn]
    split
    · rename_i h
      have h3 := i_lt h.1
      have h4 : (k + 1).toInt = k.toInt + 1 := inc_lt h.1
      have := scn_ge (m := m) (k := k + 1) (by omega) (by omega) h2
      omega
    · exact ⟨Int.le_refl _, h1⟩
def PL1 (c : Int32 → Int32) : Int32 → Bool := fun j => decide (c j = 91)
def PL2 (c : Int32 → Int32) : Int32 → Bool := fun j => decide (¬ c j = 59)
def ftB (c : Int32 → Int32) (n k e : Int32) : Int32 := if e < n ∧ ntv c (k + 1) e = 1 then e + 1 else -1
def prim (v : Int32) : Prop := v = 66 ∨ v = 67 ∨ v = 68 ∨ v = 70 ∨ v = 73 ∨ v = 74 ∨ v = 83 ∨ v = 90
def ftA (c : Int32 → Int32) (n a k : Int32) : Int32 := if 255 < k - a ∨ n ≤ k then -1 else if c k = 66 ∨ c k = 67 ∨ c k = 68 ∨ c k = 70 ∨ c k = 73 ∨ c k = 74 ∨ c k = 83 ∨ c k = 90 then k + 1 else if c k = 76 then ftB c n k (scn (PL2 c) n (scf n (k + 1)) (k + 1)) else -1
def FTx (c : Int32 → Int32) (n a : Int32) : Int32 := ftA c n a (scn (PL1 c) n (scf n a) a)
theorem ft_1 (h : scn (PL1 c) n (scf n a) a = k) (hb : 255 < k - a ∨ n ≤ k) : -1 = FTx c n a := by
  rw [FTx, h, ftA, if_pos hb]
theorem ft_p (h : scn (PL1 c) n (scf n a) a = k) (hb : ¬ (255 < k - a ∨ n ≤ k)) (hp : prim (c k)) : k + 1 = FTx c n a := by
  unfold prim at hp
  rw [FTx, h, ftA, if_neg hb, if_pos hp]
theorem ft_n (h : scn (PL1 c) n (scf n a) a = k) (hb : ¬ (255 < k - a ∨ n ≤ k)) (hp : ¬ prim (c k)) (hL : ¬ c k = 76) : -1 = FTx c n a := by
  unfold prim at hp
  rw [FTx, h, ftA, if_neg hb, if_neg hp, if_neg hL]
theorem ft_b (h : scn (PL1 c) n (scf n a) a = k) (hb : ¬ (255 < k - a ∨ n ≤ k)) (hp : ¬ prim (c k)) (hL : c k = 76) (h2 : scn (PL2 c) n (scf n (k + 1)) (k + 1) = e) : FTx c n a = ftB c n k e := by
  unfold prim at hp
  rw [FTx, h, ftA, if_neg hb, if_neg hp, if_pos hL, h2]
theorem FTx_b (h0 : 0 ≤ a.toInt) (h1 : a.toInt ≤ n.toInt) (h2 : n.toInt < 1073741824) : FTx c n a = -1 ∨ (a.toInt < (FTx c n a).toInt ∧ (FTx c n a).toInt ≤ n.toInt) := by
  have h3 := scn_ge (p := PL1 c) (m := scf n a) h0 h1 h2
  unfold FTx
  generalize scn (PL1 c) n (scf n a) a = k at h3
  unfold ftA
  split
  · exact Or.inl rfl
  · rename_i hb
    have hk : k < n := Int32.not_le.mp (fun q => hb (Or.inr q))
    have hk1 := i_lt hk
    have hk2 : (k + 1).toInt = k.toInt + 1 := inc_lt hk
    split
    · exact Or.inr ⟨by omega, by omega⟩
    · split
      · have h4 := scn_ge (p := PL2 c) (m := scf n (k + 1)) (k := k + 1) (by omega) (by omega) h2
        generalize scn (PL2 c) n (scf n (k + 1)) (k + 1) = e at h4
        unfold ftB
        split
        · rename_i h5
          have h6 : (e + 1).toInt = e.toInt + 1 := inc_lt h5.1
          have h7 := i_lt h5.1
          exact Or.inr ⟨by omega, by omega⟩
        · exact Or.inl rfl
      · exact Or.inl rfl
/-- arguments, one behind another, up to the ')' -/
def AG1 (c : Int32 → Int32) (n a b : Int32) : Prop := 0 ≤ a.toInt ∧ a.toInt < n.toInt ∧ ¬ c a = 41 ∧ b = FTx c n a ∧ a.toInt < b.toInt ∧ b.toInt ≤ n.toInt
def AGW (c : Int32 → Int32) (n a : Int32) : Prop := ∃ m b, itr (AG1 c n) m a b ∧ 0 ≤ b.toInt ∧ b.toInt < n.toInt ∧ c b = 41
theorem AGW.at (h : AGW c n a) : 0 ≤ a.toInt ∧ a.toInt < n.toInt := by
  obtain ⟨m, b, h1, h2, h3, h4⟩ := h
  cases m with
  | zero => cases h1; exact ⟨h2, h3⟩
  | succ m =>
    obtain ⟨c1, h5, h6⟩ := h1.front
    exact ⟨h5.1, h5.2.1⟩
theorem AGW.next (h : AGW c n a) (ha : ¬ c a = 41) : a.toInt < (FTx c n a).toInt ∧ AGW c n (FTx c n a) := by
  obtain ⟨m, b, h1, h2, h3, h4⟩ := h
  cases m with
  | zero => cases h1; exact absurd h4 ha
  | succ m =>
    obtain ⟨c1, h5, h6⟩ := h1.front
    obtain ⟨d1, d2, d3, d4, d5, d6⟩ := h5
    subst d4
    exact ⟨d5, m, b, h6, h2, h3, h4⟩
end MIV
end
section
/-! the reference: texts (laid by wip/p2/c65.py) -/
theorem nI_up {n : Nat} : (nI n).toInt ≤ (n : Int) := by
  by_cases h : n < 1073741824
  · rw [nI_val h]
    omega
  · have := Int32.toInt_lt (nI n)
    have h2 : (nI n).toInt = (Int32.ofNat n).toInt := rfl
    rw [h2, Int32.toInt_ofNat']
    have h9 : Int.bmod (n : Int) (2 ^ 32) = (n : Int) % (2 ^ 32 : Nat) ∨ Int.bmod (n : Int) (2 ^ 32) = (n : Int) % (2 ^ 32 : Nat) - (2 ^ 32 : Nat) := by
      unfold Int.bmod
      simp only
      split
      · exact Or.inl rfl
      · exact Or.inr rfl
    have h8 : (n : Int) % (2 ^ 32 : Nat) ≤ n := by omega
    rcases h9 with h9 | h9 <;> rw [h9] <;> omega

set_option maxHeartbeats 2000000 in
theorem rm_length {g : xe_G}  {m0 : Nat} {q : Nat → Nat} {z : Nat × Nat} {I : rI} {R : rR} {M : mi_H} {x1 : Int32} {S cN : Nat} {sa sl ch : Nat → Int32}  (hR : RS g m0 q z I R M) (hY : SK S cN sa sl ch I R) (hs0 : 0 ≤ x1.toInt) (hs1 : x1.toInt < S) {d : Nat} (hd : 1 ≤ d) : mt (mT g) d 221 [.ref m0, .int x1] M (fun v M' => v = some (.int (sL sl x1)) ∧ M' = M) := by
  obtain ⟨d, rfl⟩ : ∃ e, d = e + 1 := ⟨d - 1, by omega⟩
  refine mt_in (b := mb_221 g) rfl rfl ?_
  show ml (mT g) d (mb_221 g).2 (0, [(0, .ref m0), (1, .int x1)], [], M) _
  refine ml_st (S' := (1, [(0, .ref m0), (1, .int x1)], [.ref m0], M)) rfl rfl rfl ?_
  refine rg_ref (S' := (4, [(0, .ref m0), (1, .int x1)], [.ref (q 5)], M)) rfl hR rfl rfl ?_
  refine ml_st (S' := (5, [(0, .ref m0), (1, .int x1)], [.int x1, .ref (q 5)], M)) rfl rfl rfl ?_
  refine ra_ld (k := 5) (S' := (6, [(0, .ref m0), (1, .int x1)], [.int (sl (Int32.toNatClampNeg x1))], M)) rfl hR rfl ((hY.s hs0 hs1).2.2.2.2.2.2) ((hY.s hs0 hs1).2.1) rfl ?_
  exact ml_ret rfl (rfl) (⟨rfl, rfl⟩)
set_option maxHeartbeats 2000000 in
theorem rm_at {g : xe_G}  {m0 : Nat} {q : Nat → Nat} {z : Nat × Nat} {I : rI} {R : rR} {M : mi_H} {x1 x2 : Int32} {S cN : Nat} {sa sl ch : Nat → Int32}  (hR : RS g m0 q z I R M) (hY : SK S cN sa sl ch I R) (hs0 : 0 ≤ x1.toInt) (hs1 : x1.toInt < S) (hk0 : 0 ≤ x2.toInt) (hk1 : x2.toInt < (sL sl x1).toInt) {d : Nat} (hd : 1 ≤ d) : mt (mT g) d 176 [.ref m0, .int x1, .int x2] M (fun v M' => v = some (.int (tx sa ch x1 x2)) ∧ M' = M) := by
  obtain ⟨d, rfl⟩ : ∃ e, d = e + 1 := ⟨d - 1, by omega⟩
  refine mt_in (b := mb_176 g) rfl rfl ?_
  show ml (mT g) d (mb_176 g).2 (0, [(0, .ref m0), (1, .int x1), (2, .int x2)], [], M) _
  refine ml_st (S' := (1, [(0, .ref m0), (1, .int x1), (2, .int x2)], [.ref m0], M)) rfl rfl rfl ?_
  refine rg_ref (S' := (4, [(0, .ref m0), (1, .int x1), (2, .int x2)], [.ref (q 1)], M)) rfl hR rfl rfl ?_
  refine ml_st (S' := (5, [(0, .ref m0), (1, .int x1), (2, .int x2)], [.ref m0, .ref (q 1)], M)) rfl rfl rfl ?_
  refine rg_ref (S' := (8, [(0, .ref m0), (1, .int x1), (2, .int x2)], [.ref (q 4), .ref (q 1)], M)) rfl hR rfl rfl ?_
  refine ml_st (S' := (9, [(0, .ref m0), (1, .int x1), (2, .int x2)], [.int x1, .ref (q 4), .ref (q 1)], M)) rfl rfl rfl ?_
  refine ra_ld (k := 4) (S' := (10, [(0, .ref m0), (1, .int x1), (2, .int x2)], [.int (sa (Int32.toNatClampNeg x1)), .ref (q 1)], M)) rfl hR rfl ((hY.s hs0 hs1).2.2.2.2.2.2) ((hY.s hs0 hs1).1) rfl ?_
  refine ml_blk 2 (S' := (12, [(0, .ref m0), (1, .int x1), (2, .int x2)], [.int ((sa (Int32.toNatClampNeg x1)) + x2), .ref (q 1)], M)) rfl ?_
  refine ra_ld (k := 1) (S' := (13, [(0, .ref m0), (1, .int x1), (2, .int x2)], [.int (ch (Int32.toNatClampNeg ((sa (Int32.toNatClampNeg x1)) + x2)))], M)) rfl hR rfl ((hY.t hs0 hs1 hk0 hk1).2.2) ((hY.t hs0 hs1 hk0 hk1).1) rfl ?_
  exact ml_ret rfl (r_c (hY.t hs0 hs1 hk0 hk1).2.1) (⟨rfl, rfl⟩)
set_option maxHeartbeats 2000000 in
theorem rm_is {g : xe_G}  {m0 : Nat} {q : Nat → Nat} {z : Nat × Nat} {I : rI} {R : rR} {M : mi_H} {x1 : Int32} {S cN : Nat} {sa sl ch : Nat → Int32} {lk : Nat}  (hR : RS g m0 q z I R M) (hY : SK S cN sa sl ch I R) (hs0 : 0 ≤ x1.toInt) (hs1 : x1.toInt < S) (hlk : rlk lk) {d : Nat} (hd : 2 ≤ d) : mt (mT g) d 216 [.ref m0, .int x1, .ref (g.2.1 lk)] M (fun v M' => (∃ x : Int32, v = some (.int x) ∧ (x = 0 ∨ x = 1)) ∧ M' = M) := by
  obtain ⟨d, rfl⟩ : ∃ e, d = e + 1 := ⟨d - 1, by omega⟩
  refine mt_in (b := mb_216 g) rfl rfl ?_
  show ml (mT g) d (mb_216 g).2 (0, [(0, .ref m0), (1, .int x1), (2, .ref (g.2.1 lk))], [], M) _
  have hsl := hY.s hs0 hs1
  have hsl0 : 0 ≤ (sL sl x1).toInt := hsl.2.2.2.1
  have hsl1 : (sL sl x1).toInt ≤ 66000 := by have h1 := hsl.2.2.1; have h2 := hsl.2.2.2.2.1; have h3 := hsl.2.2.2.2.2.1; show (sl _).toInt ≤ 66000; omega
  refine ml_blk 2 (S' := (2, [(0, .ref m0), (1, .int x1), (2, .ref (g.2.1 lk))], [.int x1, .ref m0], M)) rfl ?_
  refine ml_call (a := [.ref m0, .int x1]) (rest := []) rfl (hR.okc rfl rfl rfl) rfl rfl (rm_length hR hY (hs0) (hs1) (by omega)) (fun v11 M12 h13 => ?_)
  obtain ⟨rfl, h13⟩ := h13
  rw [h13]
  show ml _ _ _ (5, [(0, .ref m0), (1, .int x1), (2, .ref (g.2.1 lk))], [.int (sL sl x1)], M) _
  refine ml_st (S' := (6, [(0, .ref m0), (1, .int x1), (2, .ref (g.2.1 lk))], [.ref (g.2.1 lk), .int (sL sl x1)], M)) rfl rfl rfl ?_
  obtain ⟨fl14, hl15⟩ := hR.2.2.2.2.2 lk hlk
  refine ml_slen (lk := lk) (S' := (9, [(0, .ref m0), (1, .int x1), (2, .ref (g.2.1 lk))], [.int (nI (xe_lt lk).2.2.2.length), .int (sL sl x1)], M)) rfl hl15 hlk.2 rfl rfl ?_
  refine ml_if2 (S1 := (14, [(0, .ref m0), (1, .int x1), (2, .ref (g.2.1 lk))], [], M)) (S2 := (12, [(0, .ref m0), (1, .int x1), (2, .ref (g.2.1 lk))], [], M)) rfl rfl rfl (fun c_9 => ?_) (fun c_9 => ?_)
  · have c_9 : (sL sl x1) = (nI (xe_lt lk).2.2.2.length) := of_decide_eq_true c_9
    refine ml_st (S' := (15, [(0, .ref m0), (1, .int x1), (2, .ref (g.2.1 lk))], [.int 0], M)) rfl rfl rfl ?_
    refine ml_st (S' := (16, [(0, .ref m0), (1, .int x1), (2, .ref (g.2.1 lk)), (3, .int 0)], [], M)) rfl rfl rfl ?_
    have L_16 : ∀ (n_16 : Nat) (i16_3 : Int32), (2147483648 - i16_3.toInt).toNat ≤ n_16 → 0 ≤ i16_3.toInt → ml (mT g) d (mb_216 g).2 (16, [(0, .ref m0), (1, .int x1), (2, .ref (g.2.1 lk)), (3, .int i16_3)], [], M) (fun v M' => (∃ x : Int32, v = some (.int x) ∧ (x = 0 ∨ x = 1)) ∧ M' = M) := by
      intro n_16
      induction n_16 with
      | zero => intro i16_3 hn; exact (loop_zero hn).elim
      | succ n_16 ih_16 =>
        intro i16_3 hn_16 hi_16
        refine ml_blk 2 (S' := (18, [(0, .ref m0), (1, .int x1), (2, .ref (g.2.1 lk)), (3, .int i16_3)], [.ref (g.2.1 lk), .int i16_3], M)) rfl ?_
        obtain ⟨fl16, hl17⟩ := hR.2.2.2.2.2 lk hlk
        refine ml_slen (lk := lk) (S' := (21, [(0, .ref m0), (1, .int x1), (2, .ref (g.2.1 lk)), (3, .int i16_3)], [.int (nI (xe_lt lk).2.2.2.length), .int i16_3], M)) rfl hl17 hlk.2 rfl rfl ?_
        refine ml_if2 (S1 := (46, [(0, .ref m0), (1, .int x1), (2, .ref (g.2.1 lk)), (3, .int i16_3)], [], M)) (S2 := (24, [(0, .ref m0), (1, .int x1), (2, .ref (g.2.1 lk)), (3, .int i16_3)], [], M)) rfl rfl rfl (fun c_21 => ?_) (fun c_21 => ?_)
        · have c_21 : (nI (xe_lt lk).2.2.2.length) ≤ i16_3 := of_decide_eq_true c_21
          refine ml_st (S' := (47, [(0, .ref m0), (1, .int x1), (2, .ref (g.2.1 lk)), (3, .int i16_3)], [.int 1], M)) rfl rfl rfl ?_
          exact ml_ret rfl (r_z (Or.inr rfl)) (⟨⟨_, rfl, Or.inr rfl⟩, rfl⟩)
        · have c_21 : ¬ ((nI (xe_lt lk).2.2.2.length) ≤ i16_3) := of_decide_eq_false c_21
          refine ml_blk 3 (S' := (27, [(0, .ref m0), (1, .int x1), (2, .ref (g.2.1 lk)), (3, .int i16_3)], [.int i16_3, .int x1, .ref m0], M)) rfl ?_
          refine ml_call (a := [.ref m0, .int x1, .int i16_3]) (rest := []) rfl (hR.okc rfl rfl rfl) rfl rfl (rm_at hR hY (hs0) (hs1) (hi_16) (by have q := i_nle c_21; rw [show (sL sl x1) = nI (xe_lt lk).2.2.2.length from c_9]; exact q) (by omega)) (fun v18 M19 h20 => ?_)
          obtain ⟨rfl, h20⟩ := h20
          rw [h20]
          show ml _ _ _ (30, [(0, .ref m0), (1, .int x1), (2, .ref (g.2.1 lk)), (3, .int i16_3)], [.int (tx sa ch x1 i16_3)], M) _
          refine ml_blk 2 (S' := (32, [(0, .ref m0), (1, .int x1), (2, .ref (g.2.1 lk)), (3, .int i16_3)], [.int i16_3, .ref (g.2.1 lk), .int (tx sa ch x1 i16_3)], M)) rfl ?_
          obtain ⟨fl21, hl22⟩ := hR.2.2.2.2.2 lk hlk
          refine ml_scat (lk := lk) (S' := (35, [(0, .ref m0), (1, .int x1), (2, .ref (g.2.1 lk)), (3, .int i16_3)], [.int (xe_ch lk (Int32.toNatClampNeg i16_3)), .int (tx sa ch x1 i16_3)], M)) rfl hl22 hlk.2 rfl (nlt0 hi_16) (by have q := i_nle c_21; have q2 := congrArg Int32.toInt (show (sL sl x1) = nI (xe_lt lk).2.2.2.length from c_9); show i16_3.toInt.toNat < _; have q3 : (nI (xe_lt lk).2.2.2.length).toInt ≤ ((xe_lt lk).2.2.2.length : Int) := nI_up; omega) rfl ?_
          refine ml_if2 (S1 := (40, [(0, .ref m0), (1, .int x1), (2, .ref (g.2.1 lk)), (3, .int i16_3)], [], M)) (S2 := (38, [(0, .ref m0), (1, .int x1), (2, .ref (g.2.1 lk)), (3, .int i16_3)], [], M)) rfl rfl rfl (fun c_35 => ?_) (fun c_35 => ?_)
          · have c_35 : (tx sa ch x1 i16_3) = (xe_ch lk (Int32.toNatClampNeg i16_3)) := of_decide_eq_true c_35
            refine ml_st (S' := (43, [(3, .int (i16_3 + 1)), (0, .ref m0), (1, .int x1), (2, .ref (g.2.1 lk))], [], M)) rfl rfl rfl ?_
            refine ml_st (S' := (16, [(0, .ref m0), (1, .int x1), (2, .ref (g.2.1 lk)), (3, .int (i16_3 + 1))], [], M)) rfl rfl rfl ?_
            exact ih_16 (i16_3 + 1) (loop_inc (Int32.not_le.mp c_21) hn_16) (by rw [inc_lt (Int32.not_le.mp c_21)]; omega)
          · have c_35 : ¬ ((tx sa ch x1 i16_3) = (xe_ch lk (Int32.toNatClampNeg i16_3))) := of_decide_eq_false c_35
            refine ml_st (S' := (39, [(0, .ref m0), (1, .int x1), (2, .ref (g.2.1 lk)), (3, .int i16_3)], [.int 0], M)) rfl rfl rfl ?_
            exact ml_ret rfl (r_z (Or.inl rfl)) (⟨⟨_, rfl, Or.inl rfl⟩, rfl⟩)
    exact L_16 _ 0 (Nat.le_refl _) (by decide)
  · have c_9 : ¬ ((sL sl x1) = (nI (xe_lt lk).2.2.2.length)) := of_decide_eq_false c_9
    refine ml_st (S' := (13, [(0, .ref m0), (1, .int x1), (2, .ref (g.2.1 lk))], [.int 0], M)) rfl rfl rfl ?_
    exact ml_ret rfl (r_z (Or.inl rfl)) (⟨⟨_, rfl, Or.inl rfl⟩, rfl⟩)
set_option maxHeartbeats 2000000 in
theorem rm_unqualified {g : xe_G}  {m0 : Nat} {q : Nat → Nat} {z : Nat × Nat} {I : rI} {R : rR} {M : mi_H} {x1 x2 : Int32} {S cN : Nat} {sa sl ch : Nat → Int32}  (hR : RS g m0 q z I R M) (hY : SK S cN sa sl ch I R) (hs0 : 0 ≤ x1.toInt) (hs1 : x1.toInt < S) {d : Nat} (hd : 2 ≤ d) : mt (mT g) d 252 [.ref m0, .int x1, .int x2] M (fun v M' => (∃ x : Int32, v = some (.int x) ∧ (x = 0 ∨ x = 1)) ∧ M' = M) := by
  obtain ⟨d, rfl⟩ : ∃ e, d = e + 1 := ⟨d - 1, by omega⟩
  refine mt_in (b := mb_252 g) rfl rfl ?_
  show ml (mT g) d (mb_252 g).2 (0, [(0, .ref m0), (1, .int x1), (2, .int x2)], [], M) _
  refine ml_blk 2 (S' := (2, [(0, .ref m0), (1, .int x1), (2, .int x2)], [.int x1, .ref m0], M)) rfl ?_
  refine ml_call (a := [.ref m0, .int x1]) (rest := []) rfl (hR.okc rfl rfl rfl) rfl rfl (rm_length hR hY (hs0) (hs1) (by omega)) (fun v11 M12 h13 => ?_)
  obtain ⟨rfl, h13⟩ := h13
  rw [h13]
  show ml _ _ _ (5, [(0, .ref m0), (1, .int x1), (2, .int x2)], [.int (sL sl x1)], M) _
  refine ml_st (S' := (6, [(3, .int (sL sl x1)), (0, .ref m0), (1, .int x1), (2, .int x2)], [], M)) rfl rfl rfl ?_
  refine ml_st (S' := (7, [(3, .int (sL sl x1)), (0, .ref m0), (1, .int x1), (2, .int x2)], [.int 0], M)) rfl rfl rfl ?_
  refine ml_st (S' := (9, [(0, .ref m0), (1, .int x1), (2, .int x2), (3, .int (sL sl x1)), (4, .int 0)], [], M)) rfl rfl rfl ?_
  have L_9 : ∀ (n_9 : Nat) (i9_4 : Int32), (2147483648 - i9_4.toInt).toNat ≤ n_9 → 0 ≤ i9_4.toInt → ml (mT g) d (mb_252 g).2 (9, [(0, .ref m0), (1, .int x1), (2, .int x2), (3, .int (sL sl x1)), (4, .int i9_4)], [], M) (fun v M' => (∃ x : Int32, v = some (.int x) ∧ (x = 0 ∨ x = 1)) ∧ M' = M) := by
    intro n_9
    induction n_9 with
    | zero => intro i9_4 hn; exact (loop_zero hn).elim
    | succ n_9 ih_9 =>
      intro i9_4 hn_9 hi_9
      refine ml_blk 2 (S' := (12, [(0, .ref m0), (1, .int x1), (2, .int x2), (3, .int (sL sl x1)), (4, .int i9_4)], [.int (sL sl x1), .int i9_4], M)) rfl ?_
      refine ml_if2 (S1 := (78, [(0, .ref m0), (1, .int x1), (2, .int x2), (3, .int (sL sl x1)), (4, .int i9_4)], [], M)) (S2 := (15, [(0, .ref m0), (1, .int x1), (2, .int x2), (3, .int (sL sl x1)), (4, .int i9_4)], [], M)) rfl rfl rfl (fun c_12 => ?_) (fun c_12 => ?_)
      · have c_12 : (sL sl x1) ≤ i9_4 := of_decide_eq_true c_12
        refine ml_st (S' := (79, [(0, .ref m0), (1, .int x1), (2, .int x2), (3, .int (sL sl x1)), (4, .int i9_4)], [.int (sL sl x1)], M)) rfl rfl rfl ?_
        refine ml_if (S1 := (86, [(0, .ref m0), (1, .int x1), (2, .int x2), (3, .int (sL sl x1)), (4, .int i9_4)], [], M)) (S2 := (82, [(0, .ref m0), (1, .int x1), (2, .int x2), (3, .int (sL sl x1)), (4, .int i9_4)], [], M)) rfl rfl rfl (fun c_79 => ?_) (fun c_79 => ?_)
        · have c_79 : (sL sl x1) ≤ 0 := of_decide_eq_true c_79
          refine ml_st (S' := (87, [], [.int 0], M)) rfl rfl rfl ?_
          exact ml_ret rfl (r_z (Or.inl rfl)) (⟨⟨_, rfl, Or.inl rfl⟩, rfl⟩)
        · have c_79 : ¬ ((sL sl x1) ≤ 0) := of_decide_eq_false c_79
          refine ml_st (S' := (83, [(0, .ref m0), (1, .int x1), (2, .int x2), (3, .int (sL sl x1)), (4, .int i9_4)], [.int 1], M)) rfl rfl rfl ?_
          refine ml_st (S' := (87, [], [.int 1], M)) rfl rfl rfl ?_
          exact ml_ret rfl (r_z (Or.inr rfl)) (⟨⟨_, rfl, Or.inr rfl⟩, rfl⟩)
      · have c_12 : ¬ ((sL sl x1) ≤ i9_4) := of_decide_eq_false c_12
        refine ml_blk 3 (S' := (19, [(0, .ref m0), (1, .int x1), (2, .int x2), (3, .int (sL sl x1)), (4, .int i9_4)], [.int i9_4, .int x1, .ref m0], M)) rfl ?_
        refine ml_call (a := [.ref m0, .int x1, .int i9_4]) (rest := []) rfl (hR.okc rfl rfl rfl) rfl rfl (rm_at hR hY (hs0) (hs1) (hi_9) (i_nle c_12) (by omega)) (fun v14 M15 h16 => ?_)
        obtain ⟨rfl, h16⟩ := h16
        rw [h16]
        show ml _ _ _ (22, [(0, .ref m0), (1, .int x1), (2, .int x2), (3, .int (sL sl x1)), (4, .int i9_4)], [.int (tx sa ch x1 i9_4)], M) _
        refine ml_st (S' := (24, [(5, .int (tx sa ch x1 i9_4)), (0, .ref m0), (1, .int x1), (2, .int x2), (3, .int (sL sl x1)), (4, .int i9_4)], [], M)) rfl rfl rfl ?_
        refine ml_blk 2 (S' := (28, [(5, .int (tx sa ch x1 i9_4)), (0, .ref m0), (1, .int x1), (2, .int x2), (3, .int (sL sl x1)), (4, .int i9_4)], [.int 46, .int (tx sa ch x1 i9_4)], M)) rfl ?_
        refine ml_if2 (S1 := (70, [], [], M)) (S2 := (31, [(5, .int (tx sa ch x1 i9_4)), (0, .ref m0), (1, .int x1), (2, .int x2), (3, .int (sL sl x1)), (4, .int i9_4)], [], M)) rfl rfl rfl (fun c_28 => ?_) (fun c_28 => ?_)
        · have c_28 : (tx sa ch x1 i9_4) = 46 := of_decide_eq_true c_28
          refine ml_st (S' := (71, [], [.int 0], M)) rfl rfl rfl ?_
          exact ml_ret rfl (r_z (Or.inl rfl)) (⟨⟨_, rfl, Or.inl rfl⟩, rfl⟩)
        · have c_28 : ¬ ((tx sa ch x1 i9_4) = 46) := of_decide_eq_false c_28
          refine ml_blk 2 (S' := (35, [(5, .int (tx sa ch x1 i9_4)), (0, .ref m0), (1, .int x1), (2, .int x2), (3, .int (sL sl x1)), (4, .int i9_4)], [.int 59, .int (tx sa ch x1 i9_4)], M)) rfl ?_
          refine ml_if2 (S1 := (70, [], [], M)) (S2 := (38, [(5, .int (tx sa ch x1 i9_4)), (0, .ref m0), (1, .int x1), (2, .int x2), (3, .int (sL sl x1)), (4, .int i9_4)], [], M)) rfl rfl rfl (fun c_35 => ?_) (fun c_35 => ?_)
          · have c_35 : (tx sa ch x1 i9_4) = 59 := of_decide_eq_true c_35
            refine ml_st (S' := (71, [], [.int 0], M)) rfl rfl rfl ?_
            exact ml_ret rfl (r_z (Or.inl rfl)) (⟨⟨_, rfl, Or.inl rfl⟩, rfl⟩)
          · have c_35 : ¬ ((tx sa ch x1 i9_4) = 59) := of_decide_eq_false c_35
            refine ml_blk 2 (S' := (42, [(5, .int (tx sa ch x1 i9_4)), (0, .ref m0), (1, .int x1), (2, .int x2), (3, .int (sL sl x1)), (4, .int i9_4)], [.int 91, .int (tx sa ch x1 i9_4)], M)) rfl ?_
            refine ml_if2 (S1 := (70, [], [], M)) (S2 := (45, [(5, .int (tx sa ch x1 i9_4)), (0, .ref m0), (1, .int x1), (2, .int x2), (3, .int (sL sl x1)), (4, .int i9_4)], [], M)) rfl rfl rfl (fun c_42 => ?_) (fun c_42 => ?_)
            · have c_42 : (tx sa ch x1 i9_4) = 91 := of_decide_eq_true c_42
              refine ml_st (S' := (71, [], [.int 0], M)) rfl rfl rfl ?_
              exact ml_ret rfl (r_z (Or.inl rfl)) (⟨⟨_, rfl, Or.inl rfl⟩, rfl⟩)
            · have c_42 : ¬ ((tx sa ch x1 i9_4) = 91) := of_decide_eq_false c_42
              refine ml_blk 2 (S' := (49, [(5, .int (tx sa ch x1 i9_4)), (0, .ref m0), (1, .int x1), (2, .int x2), (3, .int (sL sl x1)), (4, .int i9_4)], [.int 47, .int (tx sa ch x1 i9_4)], M)) rfl ?_
              refine ml_if2 (S1 := (70, [], [], M)) (S2 := (52, [(5, .int (tx sa ch x1 i9_4)), (0, .ref m0), (1, .int x1), (2, .int x2), (3, .int (sL sl x1)), (4, .int i9_4)], [], M)) rfl rfl rfl (fun c_49 => ?_) (fun c_49 => ?_)
              · have c_49 : (tx sa ch x1 i9_4) = 47 := of_decide_eq_true c_49
                refine ml_st (S' := (71, [], [.int 0], M)) rfl rfl rfl ?_
                exact ml_ret rfl (r_z (Or.inl rfl)) (⟨⟨_, rfl, Or.inl rfl⟩, rfl⟩)
              · have c_49 : ¬ ((tx sa ch x1 i9_4) = 47) := of_decide_eq_false c_49
                refine ml_st (S' := (53, [(5, .int (tx sa ch x1 i9_4)), (0, .ref m0), (1, .int x1), (2, .int x2), (3, .int (sL sl x1)), (4, .int i9_4)], [.int x2], M)) rfl rfl rfl ?_
                refine ml_if (S1 := (72, [(0, .ref m0), (1, .int x1), (2, .int x2), (3, .int (sL sl x1)), (4, .int i9_4)], [], M)) (S2 := (56, [(5, .int (tx sa ch x1 i9_4)), (0, .ref m0), (1, .int x1), (2, .int x2), (3, .int (sL sl x1)), (4, .int i9_4)], [], M)) rfl rfl rfl (fun c_53 => ?_) (fun c_53 => ?_)
                · have c_53 : ¬ x2 = 0 := of_decide_eq_true c_53
                  refine ml_st (S' := (75, [(4, .int (i9_4 + 1)), (0, .ref m0), (1, .int x1), (2, .int x2), (3, .int (sL sl x1))], [], M)) rfl rfl rfl ?_
                  refine ml_st (S' := (9, [(0, .ref m0), (1, .int x1), (2, .int x2), (3, .int (sL sl x1)), (4, .int (i9_4 + 1))], [], M)) rfl rfl rfl ?_
                  exact ih_9 (i9_4 + 1) (loop_inc (Int32.not_le.mp c_12) hn_9) (by rw [inc_lt (Int32.not_le.mp c_12)]; omega)
                · have c_53 : ¬ (¬ x2 = 0) := of_decide_eq_false c_53
                  refine ml_blk 2 (S' := (60, [(5, .int (tx sa ch x1 i9_4)), (0, .ref m0), (1, .int x1), (2, .int x2), (3, .int (sL sl x1)), (4, .int i9_4)], [.int 60, .int (tx sa ch x1 i9_4)], M)) rfl ?_
                  refine ml_if2 (S1 := (70, [], [], M)) (S2 := (63, [(5, .int (tx sa ch x1 i9_4)), (0, .ref m0), (1, .int x1), (2, .int x2), (3, .int (sL sl x1)), (4, .int i9_4)], [], M)) rfl rfl rfl (fun c_60 => ?_) (fun c_60 => ?_)
                  · have c_60 : (tx sa ch x1 i9_4) = 60 := of_decide_eq_true c_60
                    refine ml_st (S' := (71, [], [.int 0], M)) rfl rfl rfl ?_
                    exact ml_ret rfl (r_z (Or.inl rfl)) (⟨⟨_, rfl, Or.inl rfl⟩, rfl⟩)
                  · have c_60 : ¬ ((tx sa ch x1 i9_4) = 60) := of_decide_eq_false c_60
                    refine ml_blk 2 (S' := (67, [(5, .int (tx sa ch x1 i9_4)), (0, .ref m0), (1, .int x1), (2, .int x2), (3, .int (sL sl x1)), (4, .int i9_4)], [.int 62, .int (tx sa ch x1 i9_4)], M)) rfl ?_
                    refine ml_if2 (S1 := (72, [(0, .ref m0), (1, .int x1), (2, .int x2), (3, .int (sL sl x1)), (4, .int i9_4)], [], M)) (S2 := (70, [], [], M)) rfl rfl rfl (fun c_67 => ?_) (fun c_67 => ?_)
                    · have c_67 : ¬ (tx sa ch x1 i9_4) = 62 := of_decide_eq_true c_67
                      refine ml_st (S' := (75, [(4, .int (i9_4 + 1)), (0, .ref m0), (1, .int x1), (2, .int x2), (3, .int (sL sl x1))], [], M)) rfl rfl rfl ?_
                      refine ml_st (S' := (9, [(0, .ref m0), (1, .int x1), (2, .int x2), (3, .int (sL sl x1)), (4, .int (i9_4 + 1))], [], M)) rfl rfl rfl ?_
                      exact ih_9 (i9_4 + 1) (loop_inc (Int32.not_le.mp c_12) hn_9) (by rw [inc_lt (Int32.not_le.mp c_12)]; omega)
                    · have c_67 : ¬ (¬ (tx sa ch x1 i9_4) = 62) := of_decide_eq_false c_67
                      refine ml_st (S' := (71, [], [.int 0], M)) rfl rfl rfl ?_
                      exact ml_ret rfl (r_z (Or.inl rfl)) (⟨⟨_, rfl, Or.inl rfl⟩, rfl⟩)
  exact L_9 _ 0 (Nat.le_refl _) (by decide)
set_option maxHeartbeats 2000000 in
theorem rm_angles {g : xe_G}  {m0 : Nat} {q : Nat → Nat} {z : Nat × Nat} {I : rI} {R : rR} {M : mi_H} {x1 : Int32} {S cN : Nat} {sa sl ch : Nat → Int32}  (hR : RS g m0 q z I R M) (hY : SK S cN sa sl ch I R) (hs0 : 0 ≤ x1.toInt) (hs1 : x1.toInt < S) {d : Nat} (hd : 2 ≤ d) : mt (mT g) d 175 [.ref m0, .int x1] M (fun v M' => (∃ x : Int32, v = some (.int x) ∧ (x = 0 ∨ x = 1)) ∧ M' = M) := by
  obtain ⟨d, rfl⟩ : ∃ e, d = e + 1 := ⟨d - 1, by omega⟩
  refine mt_in (b := mb_175 g) rfl rfl ?_
  show ml (mT g) d (mb_175 g).2 (0, [(0, .ref m0), (1, .int x1)], [], M) _
  refine ml_st (S' := (1, [(0, .ref m0), (1, .int x1)], [.int 0], M)) rfl rfl rfl ?_
  refine ml_st (S' := (2, [(0, .ref m0), (1, .int x1), (2, .int 0)], [], M)) rfl rfl rfl ?_
  have L_2 : ∀ (n_2 : Nat) (i2_2 : Int32), (2147483648 - i2_2.toInt).toNat ≤ n_2 → 0 ≤ i2_2.toInt → ml (mT g) d (mb_175 g).2 (2, [(0, .ref m0), (1, .int x1), (2, .int i2_2)], [], M) (fun v M' => (∃ x : Int32, v = some (.int x) ∧ (x = 0 ∨ x = 1)) ∧ M' = M) := by
    intro n_2
    induction n_2 with
    | zero => intro i2_2 hn; exact (loop_zero hn).elim
    | succ n_2 ih_2 =>
      intro i2_2 hn_2 hi_2
      refine ml_blk 3 (S' := (5, [(0, .ref m0), (1, .int x1), (2, .int i2_2)], [.int x1, .ref m0, .int i2_2], M)) rfl ?_
      refine ml_call (a := [.ref m0, .int x1]) (rest := [.int i2_2]) rfl (hR.okc rfl rfl rfl) rfl rfl (rm_length hR hY (hs0) (hs1) (by omega)) (fun v11 M12 h13 => ?_)
      obtain ⟨rfl, h13⟩ := h13
      rw [h13]
      show ml _ _ _ (8, [(0, .ref m0), (1, .int x1), (2, .int i2_2)], [.int (sL sl x1), .int i2_2], M) _
      refine ml_if2 (S1 := (41, [(0, .ref m0), (1, .int x1), (2, .int i2_2)], [], M)) (S2 := (11, [(0, .ref m0), (1, .int x1), (2, .int i2_2)], [], M)) rfl rfl rfl (fun c_8 => ?_) (fun c_8 => ?_)
      · have c_8 : (sL sl x1) ≤ i2_2 := of_decide_eq_true c_8
        refine ml_st (S' := (42, [(0, .ref m0), (1, .int x1), (2, .int i2_2)], [.int 0], M)) rfl rfl rfl ?_
        exact ml_ret rfl (r_z (Or.inl rfl)) (⟨⟨_, rfl, Or.inl rfl⟩, rfl⟩)
      · have c_8 : ¬ ((sL sl x1) ≤ i2_2) := of_decide_eq_false c_8
        refine ml_blk 3 (S' := (14, [(0, .ref m0), (1, .int x1), (2, .int i2_2)], [.int i2_2, .int x1, .ref m0], M)) rfl ?_
        refine ml_call (a := [.ref m0, .int x1, .int i2_2]) (rest := []) rfl (hR.okc rfl rfl rfl) rfl rfl (rm_at hR hY (hs0) (hs1) (hi_2) (i_nle c_8) (by omega)) (fun v14 M15 h16 => ?_)
        obtain ⟨rfl, h16⟩ := h16
        rw [h16]
        show ml _ _ _ (17, [(0, .ref m0), (1, .int x1), (2, .int i2_2)], [.int (tx sa ch x1 i2_2)], M) _
        refine ml_st (S' := (19, [(0, .ref m0), (1, .int x1), (2, .int i2_2)], [.int 60, .int (tx sa ch x1 i2_2)], M)) rfl rfl rfl ?_
        refine ml_if2 (S1 := (33, [], [], M)) (S2 := (22, [(0, .ref m0), (1, .int x1), (2, .int i2_2)], [], M)) rfl rfl rfl (fun c_19 => ?_) (fun c_19 => ?_)
        · have c_19 : (tx sa ch x1 i2_2) = 60 := of_decide_eq_true c_19
          refine ml_st (S' := (34, [], [.int 1], M)) rfl rfl rfl ?_
          exact ml_ret rfl (r_z (Or.inr rfl)) (⟨⟨_, rfl, Or.inr rfl⟩, rfl⟩)
        · have c_19 : ¬ ((tx sa ch x1 i2_2) = 60) := of_decide_eq_false c_19
          refine ml_blk 3 (S' := (25, [(0, .ref m0), (1, .int x1), (2, .int i2_2)], [.int i2_2, .int x1, .ref m0], M)) rfl ?_
          refine ml_call (a := [.ref m0, .int x1, .int i2_2]) (rest := []) rfl (hR.okc rfl rfl rfl) rfl rfl (rm_at hR hY (hs0) (hs1) (hi_2) (i_nle c_8) (by omega)) (fun v17 M18 h19 => ?_)
          obtain ⟨rfl, h19⟩ := h19
          rw [h19]
          show ml _ _ _ (28, [(0, .ref m0), (1, .int x1), (2, .int i2_2)], [.int (tx sa ch x1 i2_2)], M) _
          refine ml_st (S' := (30, [(0, .ref m0), (1, .int x1), (2, .int i2_2)], [.int 62, .int (tx sa ch x1 i2_2)], M)) rfl rfl rfl ?_
          refine ml_if2 (S1 := (35, [(0, .ref m0), (1, .int x1), (2, .int i2_2)], [], M)) (S2 := (33, [], [], M)) rfl rfl rfl (fun c_30 => ?_) (fun c_30 => ?_)
          · have c_30 : ¬ (tx sa ch x1 i2_2) = 62 := of_decide_eq_true c_30
            refine ml_st (S' := (38, [(2, .int (i2_2 + 1)), (0, .ref m0), (1, .int x1)], [], M)) rfl rfl rfl ?_
            refine ml_st (S' := (2, [(0, .ref m0), (1, .int x1), (2, .int (i2_2 + 1))], [], M)) rfl rfl rfl ?_
            exact ih_2 (i2_2 + 1) (loop_inc (Int32.not_le.mp c_8) hn_2) (by rw [inc_lt (Int32.not_le.mp c_8)]; omega)
          · have c_30 : ¬ (¬ (tx sa ch x1 i2_2) = 62) := of_decide_eq_false c_30
            refine ml_st (S' := (34, [], [.int 1], M)) rfl rfl rfl ?_
            exact ml_ret rfl (r_z (Or.inr rfl)) (⟨⟨_, rfl, Or.inr rfl⟩, rfl⟩)
  exact L_2 _ 0 (Nat.le_refl _) (by decide)
set_option maxHeartbeats 2000000 in
theorem rm_nameText {g : xe_G}  {m0 : Nat} {q : Nat → Nat} {z : Nat × Nat} {I : rI} {R : rR} {M : mi_H} {x1 x2 x3 : Int32} {S cN : Nat} {sa sl ch : Nat → Int32}  (hR : RS g m0 q z I R M) (hY : SK S cN sa sl ch I R) (hs0 : 0 ≤ x1.toInt) (hs1 : x1.toInt < S) (h20 : 0 ≤ x2.toInt) (h231 : x2.toInt ≤ x3.toInt + 1) (h3n : x3.toInt ≤ (sL sl x1).toInt) {d : Nat} (hd : 2 ≤ d) : mt (mT g) d 226 [.ref m0, .int x1, .int x2, .int x3] M (fun v M' => v = some (.int (ntv (tx sa ch x1) x2 x3)) ∧ M' = M) := by
  obtain ⟨d, rfl⟩ : ∃ e, d = e + 1 := ⟨d - 1, by omega⟩
  refine mt_in (b := mb_226 g) rfl rfl ?_
  show ml (mT g) d (mb_226 g).2 (0, [(0, .ref m0), (1, .int x1), (2, .int x2), (3, .int x3)], [], M) _
  have hsl := hY.s hs0 hs1
  have hsl0 : 0 ≤ (sL sl x1).toInt := hsl.2.2.2.1
  have hsl1 : (sL sl x1).toInt ≤ 66000 := by have h1 := hsl.2.2.1; have h2 := hsl.2.2.2.2.1; have h3 := hsl.2.2.2.2.2.1; show (sl _).toInt ≤ 66000; omega
  refine ml_blk 3 (S' := (3, [(0, .ref m0), (1, .int x1), (2, .int x2), (3, .int x3)], [.int (x2 - 1)], M)) rfl ?_
  refine ml_st (S' := (5, [(4, .int (x2 - 1)), (0, .ref m0), (1, .int x1), (2, .int x2), (3, .int x3)], [], M)) rfl rfl rfl ?_
  refine ml_st (S' := (6, [(4, .int (x2 - 1)), (0, .ref m0), (1, .int x1), (2, .int x2), (3, .int x3)], [.int x2], M)) rfl rfl rfl ?_
  refine ml_st (S' := (8, [(0, .ref m0), (1, .int x1), (3, .int x3), (4, .int (x2 - 1)), (5, .int x2)], [], M)) rfl rfl rfl ?_
  have L_8 : ∀ (n_8 : Nat) (i8_4 : Int32) (i8_5 : Int32), (2147483648 - i8_5.toInt).toNat ≤ n_8 → (x2.toInt ≤ i8_5.toInt ∧ i8_5.toInt ≤ x3.toInt + 1 ∧ ntv (tx sa ch x1) x2 x3 = ntx (tx sa ch x1) x3 (ntf x3 i8_5) i8_5 i8_4) → ml (mT g) d (mb_226 g).2 (8, [(0, .ref m0), (1, .int x1), (3, .int x3), (4, .int i8_4), (5, .int i8_5)], [], M) (fun v M' => v = some (.int (ntv (tx sa ch x1) x2 x3)) ∧ M' = M) := by
    intro n_8
    induction n_8 with
    | zero => intro i8_4 i8_5 hn; exact (loop_zero hn).elim
    | succ n_8 ih_8 =>
      intro i8_4 i8_5 hn_8 hi_8
      obtain ⟨hk0, hk1, hnt⟩ := hi_8
      refine ml_blk 2 (S' := (11, [(0, .ref m0), (1, .int x1), (3, .int x3), (4, .int i8_4), (5, .int i8_5)], [.int x3, .int i8_5], M)) rfl ?_
      refine ml_if2 (S1 := (85, [(0, .ref m0), (1, .int x1), (3, .int x3), (4, .int i8_4), (5, .int i8_5)], [], M)) (S2 := (14, [(0, .ref m0), (1, .int x1), (3, .int x3), (4, .int i8_4), (5, .int i8_5)], [], M)) rfl rfl rfl (fun c_11 => ?_) (fun c_11 => ?_)
      · have c_11 : x3 < i8_5 := of_decide_eq_true c_11
        refine ml_st (S' := (86, [(0, .ref m0), (1, .int x1), (3, .int x3), (4, .int i8_4), (5, .int i8_5)], [.int 1], M)) rfl rfl rfl ?_
        exact ml_ret rfl (r_z (Or.inr rfl)) (⟨congrArg (fun y => some (Value.int y)) (hnt.trans (ntx_end c_11)).symm, rfl⟩)
      · have c_11 : ¬ (x3 < i8_5) := of_decide_eq_false c_11
        have hks : (i8_5 + 1).toInt = i8_5.toInt + 1 := i_add (by have : (1 : Int32).toInt = 1 := rfl; omega) (by have : (1 : Int32).toInt = 1 := rfl; have := i_nlt c_11; omega)
        rw [ntf_s c_11 hks] at hnt
        refine ml_blk 2 (S' := (17, [(0, .ref m0), (1, .int x1), (3, .int x3), (4, .int i8_4), (5, .int i8_5)], [.int x3, .int i8_5], M)) rfl ?_
        have J_32 : ∀ (s32_0 : Int32), (s32_0 = (if i8_5 < x3 then (tx sa ch x1) i8_5 else 47)) → ml (mT g) d (mb_226 g).2 (32, [(0, .ref m0), (1, .int x1), (3, .int x3), (4, .int i8_4), (5, .int i8_5)], [.int s32_0], M) (fun v M' => v = some (.int (ntv (tx sa ch x1) x2 x3)) ∧ M' = M) := by
          intro s32_0 hj_32
          refine ml_st (S' := (34, [(6, .int s32_0), (0, .ref m0), (1, .int x1), (3, .int x3), (4, .int i8_4), (5, .int i8_5)], [], M)) rfl rfl rfl ?_
          refine ml_blk 2 (S' := (38, [(6, .int s32_0), (0, .ref m0), (1, .int x1), (3, .int x3), (4, .int i8_4), (5, .int i8_5)], [.int 46, .int s32_0], M)) rfl ?_
          refine ml_if2 (S1 := (55, [], [], M)) (S2 := (41, [(6, .int s32_0), (0, .ref m0), (1, .int x1), (3, .int x3), (4, .int i8_4), (5, .int i8_5)], [], M)) rfl rfl rfl (fun c_38 => ?_) (fun c_38 => ?_)
          · have c_38 : s32_0 = 46 := of_decide_eq_true c_38
            refine ml_st (S' := (56, [], [.int 0], M)) rfl rfl rfl ?_
            exact ml_ret rfl (r_z (Or.inl rfl)) (⟨congrArg (fun y => some (Value.int y)) (hnt.trans (ntx_bad c_11 hj_32 (Or.inl c_38))).symm, rfl⟩)
          · have c_38 : ¬ (s32_0 = 46) := of_decide_eq_false c_38
            refine ml_blk 2 (S' := (45, [(6, .int s32_0), (0, .ref m0), (1, .int x1), (3, .int x3), (4, .int i8_4), (5, .int i8_5)], [.int 59, .int s32_0], M)) rfl ?_
            refine ml_if2 (S1 := (55, [], [], M)) (S2 := (48, [(6, .int s32_0), (0, .ref m0), (1, .int x1), (3, .int x3), (4, .int i8_4), (5, .int i8_5)], [], M)) rfl rfl rfl (fun c_45 => ?_) (fun c_45 => ?_)
            · have c_45 : s32_0 = 59 := of_decide_eq_true c_45
              refine ml_st (S' := (56, [], [.int 0], M)) rfl rfl rfl ?_
              exact ml_ret rfl (r_z (Or.inl rfl)) (⟨congrArg (fun y => some (Value.int y)) (hnt.trans (ntx_bad c_11 hj_32 (Or.inr (Or.inl c_45)))).symm, rfl⟩)
            · have c_45 : ¬ (s32_0 = 59) := of_decide_eq_false c_45
              refine ml_blk 2 (S' := (52, [(6, .int s32_0), (0, .ref m0), (1, .int x1), (3, .int x3), (4, .int i8_4), (5, .int i8_5)], [.int 91, .int s32_0], M)) rfl ?_
              refine ml_if2 (S1 := (57, [(6, .int s32_0), (0, .ref m0), (1, .int x1), (3, .int x3), (4, .int i8_4), (5, .int i8_5)], [], M)) (S2 := (55, [], [], M)) rfl rfl rfl (fun c_52 => ?_) (fun c_52 => ?_)
              · have c_52 : ¬ s32_0 = 91 := of_decide_eq_true c_52
                refine ml_blk 2 (S' := (61, [(6, .int s32_0), (0, .ref m0), (1, .int x1), (3, .int x3), (4, .int i8_4), (5, .int i8_5)], [.int 47, .int s32_0], M)) rfl ?_
                refine ml_if2 (S1 := (79, [(0, .ref m0), (1, .int x1), (3, .int x3), (4, .int i8_4), (5, .int i8_5)], [], M)) (S2 := (64, [(6, .int s32_0), (0, .ref m0), (1, .int x1), (3, .int x3), (4, .int i8_4), (5, .int i8_5)], [], M)) rfl rfl rfl (fun c_61 => ?_) (fun c_61 => ?_)
                · have c_61 : ¬ s32_0 = 47 := of_decide_eq_true c_61
                  refine ml_st (S' := (82, [(5, .int (i8_5 + 1)), (0, .ref m0), (1, .int x1), (3, .int x3), (4, .int i8_4)], [], M)) rfl rfl rfl ?_
                  refine ml_st (S' := (8, [(0, .ref m0), (1, .int x1), (3, .int x3), (4, .int i8_4), (5, .int (i8_5 + 1))], [], M)) rfl rfl rfl ?_
                  exact ih_8 i8_4 (i8_5 + 1) (by rw [hks]; omega) (⟨by rw [hks]; omega, by rw [hks]; have := i_nlt c_11; omega, hnt.trans (ntx_go c_11 hj_32 (fun h => h.elim c_38 (fun h => h.elim c_45 c_52)) c_61)⟩)
                · have c_61 : ¬ (¬ s32_0 = 47) := of_decide_eq_false c_61
                  refine ml_blk 3 (S' := (69, [(6, .int s32_0), (0, .ref m0), (1, .int x1), (3, .int x3), (4, .int i8_4), (5, .int i8_5)], [.int 1, .int i8_4, .int i8_5], M)) rfl ?_
                  refine ml_st (S' := (70, [(6, .int s32_0), (0, .ref m0), (1, .int x1), (3, .int x3), (4, .int i8_4), (5, .int i8_5)], [.int (i8_4 + 1), .int i8_5], M)) rfl rfl rfl ?_
                  refine ml_if2 (S1 := (75, [(6, .int s32_0), (0, .ref m0), (1, .int x1), (3, .int x3), (4, .int i8_4), (5, .int i8_5)], [], M)) (S2 := (73, [(6, .int s32_0), (0, .ref m0), (1, .int x1), (3, .int x3), (4, .int i8_4), (5, .int i8_5)], [], M)) rfl rfl rfl (fun c_70 => ?_) (fun c_70 => ?_)
                  · have c_70 : ¬ i8_5 = (i8_4 + 1) := of_decide_eq_true c_70
                    refine ml_st (S' := (77, [(6, .int s32_0), (0, .ref m0), (1, .int x1), (3, .int x3), (4, .int i8_4), (5, .int i8_5)], [.int i8_5], M)) rfl rfl rfl ?_
                    refine ml_st (S' := (79, [(0, .ref m0), (1, .int x1), (3, .int x3), (4, .int i8_5), (5, .int i8_5)], [], M)) rfl rfl rfl ?_
                    refine ml_st (S' := (82, [(5, .int (i8_5 + 1)), (0, .ref m0), (1, .int x1), (3, .int x3), (4, .int i8_5)], [], M)) rfl rfl rfl ?_
                    refine ml_st (S' := (8, [(0, .ref m0), (1, .int x1), (3, .int x3), (4, .int i8_5), (5, .int (i8_5 + 1))], [], M)) rfl rfl rfl ?_
                    exact ih_8 i8_5 (i8_5 + 1) (by rw [hks]; omega) (⟨by rw [hks]; omega, by rw [hks]; have := i_nlt c_11; omega, hnt.trans (ntx_sep c_11 hj_32 (fun h => h.elim c_38 (fun h => h.elim c_45 c_52)) (Decidable.not_not.mp c_61) c_70)⟩)
                  · have c_70 : ¬ (¬ i8_5 = (i8_4 + 1)) := of_decide_eq_false c_70
                    refine ml_st (S' := (74, [(6, .int s32_0), (0, .ref m0), (1, .int x1), (3, .int x3), (4, .int i8_4), (5, .int i8_5)], [.int 0], M)) rfl rfl rfl ?_
                    exact ml_ret rfl (r_z (Or.inl rfl)) (⟨congrArg (fun y => some (Value.int y)) (hnt.trans (ntx_dbl c_11 hj_32 (fun h => h.elim c_38 (fun h => h.elim c_45 c_52)) (Decidable.not_not.mp c_61) (Decidable.not_not.mp c_70))).symm, rfl⟩)
              · have c_52 : ¬ (¬ s32_0 = 91) := of_decide_eq_false c_52
                refine ml_st (S' := (56, [], [.int 0], M)) rfl rfl rfl ?_
                exact ml_ret rfl (r_z (Or.inl rfl)) (⟨congrArg (fun y => some (Value.int y)) (hnt.trans (ntx_bad c_11 hj_32 (Or.inr (Or.inr (Decidable.not_not.mp c_52))))).symm, rfl⟩)
        refine ml_if2 (S1 := (30, [(0, .ref m0), (1, .int x1), (3, .int x3), (4, .int i8_4), (5, .int i8_5)], [], M)) (S2 := (20, [(0, .ref m0), (1, .int x1), (3, .int x3), (4, .int i8_4), (5, .int i8_5)], [], M)) rfl rfl rfl (fun c_17 => ?_) (fun c_17 => ?_)
        · have c_17 : x3 ≤ i8_5 := of_decide_eq_true c_17
          refine ml_st (S' := (32, [(0, .ref m0), (1, .int x1), (3, .int x3), (4, .int i8_4), (5, .int i8_5)], [.int 47], M)) rfl rfl rfl ?_
          exact J_32 47 ((if_neg (Int32.not_lt.mpr c_17)).symm)
        · have c_17 : ¬ (x3 ≤ i8_5) := of_decide_eq_false c_17
          refine ml_blk 3 (S' := (24, [(0, .ref m0), (1, .int x1), (3, .int x3), (4, .int i8_4), (5, .int i8_5)], [.int i8_5, .int x1, .ref m0], M)) rfl ?_
          refine ml_call (a := [.ref m0, .int x1, .int i8_5]) (rest := []) rfl (hR.okc rfl rfl rfl) rfl rfl (rm_at hR hY (hs0) (hs1) (by omega) (by have := i_nle c_17; omega) (by omega)) (fun v11 M12 h13 => ?_)
          obtain ⟨rfl, h13⟩ := h13
          rw [h13]
          show ml _ _ _ (27, [(0, .ref m0), (1, .int x1), (3, .int x3), (4, .int i8_4), (5, .int i8_5)], [.int (tx sa ch x1 i8_5)], M) _
          refine ml_st (S' := (32, [(0, .ref m0), (1, .int x1), (3, .int x3), (4, .int i8_4), (5, .int i8_5)], [.int (tx sa ch x1 i8_5)], M)) rfl rfl rfl ?_
          exact J_32 (tx sa ch x1 i8_5) ((if_pos (Int32.not_le.mp c_17)).symm)
  exact L_8 _ (x2 - 1) x2 (Nat.le_refl _) (⟨Int.le_refl _, h231, rfl⟩)
set_option maxHeartbeats 2000000 in
theorem rm_fieldText {g : xe_G}  {m0 : Nat} {q : Nat → Nat} {z : Nat × Nat} {I : rI} {R : rR} {M : mi_H} {x1 x2 : Int32} {S cN : Nat} {sa sl ch : Nat → Int32}  (hR : RS g m0 q z I R M) (hY : SK S cN sa sl ch I R) (hs0 : 0 ≤ x1.toInt) (hs1 : x1.toInt < S) (h20 : 0 ≤ x2.toInt) (h2n : x2.toInt ≤ (sL sl x1).toInt) {d : Nat} (hd : 3 ≤ d) : mt (mT g) d 206 [.ref m0, .int x1, .int x2] M (fun v M' => v = some (.int (FTx (tx sa ch x1) (sL sl x1) x2)) ∧ M' = M) := by
  obtain ⟨d, rfl⟩ : ∃ e, d = e + 1 := ⟨d - 1, by omega⟩
  refine mt_in (b := mb_206 g) rfl rfl ?_
  show ml (mT g) d (mb_206 g).2 (0, [(0, .ref m0), (1, .int x1), (2, .int x2)], [], M) _
  have hsl := hY.s hs0 hs1
  have hsl0 : 0 ≤ (sL sl x1).toInt := hsl.2.2.2.1
  have hsl1 : (sL sl x1).toInt ≤ 66000 := by have h1 := hsl.2.2.1; have h2 := hsl.2.2.2.2.1; have h3 := hsl.2.2.2.2.2.1; show (sl _).toInt ≤ 66000; omega
  refine ml_blk 2 (S' := (2, [(0, .ref m0), (1, .int x1), (2, .int x2)], [.int x1, .ref m0], M)) rfl ?_
  refine ml_call (a := [.ref m0, .int x1]) (rest := []) rfl (hR.okc rfl rfl rfl) rfl rfl (rm_length hR hY (hs0) (hs1) (by omega)) (fun v11 M12 h13 => ?_)
  obtain ⟨rfl, h13⟩ := h13
  rw [h13]
  show ml _ _ _ (5, [(0, .ref m0), (1, .int x1), (2, .int x2)], [.int (sL sl x1)], M) _
  refine ml_st (S' := (6, [(3, .int (sL sl x1)), (0, .ref m0), (1, .int x1), (2, .int x2)], [], M)) rfl rfl rfl ?_
  refine ml_st (S' := (7, [(3, .int (sL sl x1)), (0, .ref m0), (1, .int x1), (2, .int x2)], [.int x2], M)) rfl rfl rfl ?_
  refine ml_st (S' := (9, [(0, .ref m0), (1, .int x1), (2, .int x2), (3, .int (sL sl x1)), (4, .int x2)], [], M)) rfl rfl rfl ?_
  have L_9 : ∀ (n_9 : Nat) (i9_4 : Int32), (2147483648 - i9_4.toInt).toNat ≤ n_9 → (x2.toInt ≤ i9_4.toInt ∧ i9_4.toInt ≤ (sL sl x1).toInt ∧ scn (PL1 (tx sa ch x1)) (sL sl x1) (scf (sL sl x1) x2) x2 = scn (PL1 (tx sa ch x1)) (sL sl x1) (scf (sL sl x1) i9_4) i9_4) → ml (mT g) d (mb_206 g).2 (9, [(0, .ref m0), (1, .int x1), (2, .int x2), (3, .int (sL sl x1)), (4, .int i9_4)], [], M) (fun v M' => v = some (.int (FTx (tx sa ch x1) (sL sl x1) x2)) ∧ M' = M) := by
    intro n_9
    induction n_9 with
    | zero => intro i9_4 hn; exact (loop_zero hn).elim
    | succ n_9 ih_9 =>
      intro i9_4 hn_9 hi_9
      obtain ⟨hk0, hk1, hsc⟩ := hi_9
      refine ml_blk 2 (S' := (12, [(0, .ref m0), (1, .int x1), (2, .int x2), (3, .int (sL sl x1)), (4, .int i9_4)], [.int (sL sl x1), .int i9_4], M)) rfl ?_
      have J_33 : (scn (PL1 (tx sa ch x1)) (sL sl x1) (scf (sL sl x1) x2) x2 = i9_4) → ml (mT g) d (mb_206 g).2 (33, [(0, .ref m0), (1, .int x1), (2, .int x2), (3, .int (sL sl x1)), (4, .int i9_4)], [], M) (fun v M' => v = some (.int (FTx (tx sa ch x1) (sL sl x1) x2)) ∧ M' = M) := by
        intro hj_33
        refine ml_blk 3 (S' := (37, [(0, .ref m0), (1, .int x1), (2, .int x2), (3, .int (sL sl x1)), (4, .int i9_4)], [.int (i9_4 - x2)], M)) rfl ?_
        refine ml_st (S' := (40, [(0, .ref m0), (1, .int x1), (2, .int x2), (3, .int (sL sl x1)), (4, .int i9_4)], [.int 255, .int (i9_4 - x2)], M)) rfl rfl rfl ?_
        refine ml_if2 (S1 := (49, [], [], M)) (S2 := (43, [(0, .ref m0), (1, .int x1), (2, .int x2), (3, .int (sL sl x1)), (4, .int i9_4)], [], M)) rfl rfl rfl (fun c_40 => ?_) (fun c_40 => ?_)
        · have c_40 : 255 < (i9_4 - x2) := of_decide_eq_true c_40
          refine ml_st (S' := (50, [], [.int (-1)], M)) rfl rfl rfl ?_
          exact ml_ret rfl (rfl) (⟨congrArg (fun y => some (Value.int y)) (ft_1 hj_33 (Or.inl c_40)), rfl⟩)
        · have c_40 : ¬ (255 < (i9_4 - x2)) := of_decide_eq_false c_40
          refine ml_blk 2 (S' := (46, [(0, .ref m0), (1, .int x1), (2, .int x2), (3, .int (sL sl x1)), (4, .int i9_4)], [.int (sL sl x1), .int i9_4], M)) rfl ?_
          refine ml_if2 (S1 := (51, [(0, .ref m0), (1, .int x1), (2, .int x2), (3, .int (sL sl x1)), (4, .int i9_4)], [], M)) (S2 := (49, [], [], M)) rfl rfl rfl (fun c_46 => ?_) (fun c_46 => ?_)
          · have c_46 : i9_4 < (sL sl x1) := of_decide_eq_true c_46
            have hnb : ¬ (255 < i9_4 - x2 ∨ (sL sl x1) ≤ i9_4) := fun h => h.elim c_40 (Int32.not_le.mpr c_46)
            refine ml_blk 3 (S' := (55, [(0, .ref m0), (1, .int x1), (2, .int x2), (3, .int (sL sl x1)), (4, .int i9_4)], [.int i9_4, .int x1, .ref m0], M)) rfl ?_
            refine ml_call (a := [.ref m0, .int x1, .int i9_4]) (rest := []) rfl (hR.okc rfl rfl rfl) rfl rfl (rm_at hR hY (hs0) (hs1) (by omega) (i_lt c_46) (by omega)) (fun v14 M15 h16 => ?_)
            obtain ⟨rfl, h16⟩ := h16
            rw [h16]
            show ml _ _ _ (58, [(0, .ref m0), (1, .int x1), (2, .int x2), (3, .int (sL sl x1)), (4, .int i9_4)], [.int (tx sa ch x1 i9_4)], M) _
            refine ml_st (S' := (60, [(5, .int (tx sa ch x1 i9_4)), (0, .ref m0), (1, .int x1), (2, .int x2), (3, .int (sL sl x1)), (4, .int i9_4)], [], M)) rfl rfl rfl ?_
            refine ml_blk 2 (S' := (64, [(5, .int (tx sa ch x1 i9_4)), (0, .ref m0), (1, .int x1), (2, .int x2), (3, .int (sL sl x1)), (4, .int i9_4)], [.int 66, .int (tx sa ch x1 i9_4)], M)) rfl ?_
            refine ml_if2 (S1 := (116, [(4, .int i9_4)], [], M)) (S2 := (67, [(5, .int (tx sa ch x1 i9_4)), (0, .ref m0), (1, .int x1), (2, .int x2), (3, .int (sL sl x1)), (4, .int i9_4)], [], M)) rfl rfl rfl (fun c_64 => ?_) (fun c_64 => ?_)
            · have c_64 : (tx sa ch x1 i9_4) = 66 := of_decide_eq_true c_64
              refine ml_blk 3 (S' := (120, [(4, .int i9_4)], [.int (i9_4 + 1)], M)) rfl ?_
              exact ml_ret rfl (rfl) (⟨congrArg (fun y => some (Value.int y)) (ft_p hj_33 hnb (Or.inl c_64)), rfl⟩)
            · have c_64 : ¬ ((tx sa ch x1 i9_4) = 66) := of_decide_eq_false c_64
              refine ml_blk 2 (S' := (71, [(5, .int (tx sa ch x1 i9_4)), (0, .ref m0), (1, .int x1), (2, .int x2), (3, .int (sL sl x1)), (4, .int i9_4)], [.int 67, .int (tx sa ch x1 i9_4)], M)) rfl ?_
              refine ml_if2 (S1 := (116, [(4, .int i9_4)], [], M)) (S2 := (74, [(5, .int (tx sa ch x1 i9_4)), (0, .ref m0), (1, .int x1), (2, .int x2), (3, .int (sL sl x1)), (4, .int i9_4)], [], M)) rfl rfl rfl (fun c_71 => ?_) (fun c_71 => ?_)
              · have c_71 : (tx sa ch x1 i9_4) = 67 := of_decide_eq_true c_71
                refine ml_blk 3 (S' := (120, [(4, .int i9_4)], [.int (i9_4 + 1)], M)) rfl ?_
                exact ml_ret rfl (rfl) (⟨congrArg (fun y => some (Value.int y)) (ft_p hj_33 hnb (Or.inr (Or.inl (c_71)))), rfl⟩)
              · have c_71 : ¬ ((tx sa ch x1 i9_4) = 67) := of_decide_eq_false c_71
                refine ml_blk 2 (S' := (78, [(5, .int (tx sa ch x1 i9_4)), (0, .ref m0), (1, .int x1), (2, .int x2), (3, .int (sL sl x1)), (4, .int i9_4)], [.int 68, .int (tx sa ch x1 i9_4)], M)) rfl ?_
                refine ml_if2 (S1 := (116, [(4, .int i9_4)], [], M)) (S2 := (81, [(5, .int (tx sa ch x1 i9_4)), (0, .ref m0), (1, .int x1), (2, .int x2), (3, .int (sL sl x1)), (4, .int i9_4)], [], M)) rfl rfl rfl (fun c_78 => ?_) (fun c_78 => ?_)
                · have c_78 : (tx sa ch x1 i9_4) = 68 := of_decide_eq_true c_78
                  refine ml_blk 3 (S' := (120, [(4, .int i9_4)], [.int (i9_4 + 1)], M)) rfl ?_
                  exact ml_ret rfl (rfl) (⟨congrArg (fun y => some (Value.int y)) (ft_p hj_33 hnb (Or.inr (Or.inr (Or.inl (c_78))))), rfl⟩)
                · have c_78 : ¬ ((tx sa ch x1 i9_4) = 68) := of_decide_eq_false c_78
                  refine ml_blk 2 (S' := (85, [(5, .int (tx sa ch x1 i9_4)), (0, .ref m0), (1, .int x1), (2, .int x2), (3, .int (sL sl x1)), (4, .int i9_4)], [.int 70, .int (tx sa ch x1 i9_4)], M)) rfl ?_
                  refine ml_if2 (S1 := (116, [(4, .int i9_4)], [], M)) (S2 := (88, [(5, .int (tx sa ch x1 i9_4)), (0, .ref m0), (1, .int x1), (2, .int x2), (3, .int (sL sl x1)), (4, .int i9_4)], [], M)) rfl rfl rfl (fun c_85 => ?_) (fun c_85 => ?_)
                  · have c_85 : (tx sa ch x1 i9_4) = 70 := of_decide_eq_true c_85
                    refine ml_blk 3 (S' := (120, [(4, .int i9_4)], [.int (i9_4 + 1)], M)) rfl ?_
                    exact ml_ret rfl (rfl) (⟨congrArg (fun y => some (Value.int y)) (ft_p hj_33 hnb (Or.inr (Or.inr (Or.inr (Or.inl (c_85)))))), rfl⟩)
                  · have c_85 : ¬ ((tx sa ch x1 i9_4) = 70) := of_decide_eq_false c_85
                    refine ml_blk 2 (S' := (92, [(5, .int (tx sa ch x1 i9_4)), (0, .ref m0), (1, .int x1), (2, .int x2), (3, .int (sL sl x1)), (4, .int i9_4)], [.int 73, .int (tx sa ch x1 i9_4)], M)) rfl ?_
                    refine ml_if2 (S1 := (116, [(4, .int i9_4)], [], M)) (S2 := (95, [(5, .int (tx sa ch x1 i9_4)), (0, .ref m0), (1, .int x1), (2, .int x2), (3, .int (sL sl x1)), (4, .int i9_4)], [], M)) rfl rfl rfl (fun c_92 => ?_) (fun c_92 => ?_)
                    · have c_92 : (tx sa ch x1 i9_4) = 73 := of_decide_eq_true c_92
                      refine ml_blk 3 (S' := (120, [(4, .int i9_4)], [.int (i9_4 + 1)], M)) rfl ?_
                      exact ml_ret rfl (rfl) (⟨congrArg (fun y => some (Value.int y)) (ft_p hj_33 hnb (Or.inr (Or.inr (Or.inr (Or.inr (Or.inl (c_92))))))), rfl⟩)
                    · have c_92 : ¬ ((tx sa ch x1 i9_4) = 73) := of_decide_eq_false c_92
                      refine ml_blk 2 (S' := (99, [(5, .int (tx sa ch x1 i9_4)), (0, .ref m0), (1, .int x1), (2, .int x2), (3, .int (sL sl x1)), (4, .int i9_4)], [.int 74, .int (tx sa ch x1 i9_4)], M)) rfl ?_
                      refine ml_if2 (S1 := (116, [(4, .int i9_4)], [], M)) (S2 := (102, [(5, .int (tx sa ch x1 i9_4)), (0, .ref m0), (1, .int x1), (2, .int x2), (3, .int (sL sl x1)), (4, .int i9_4)], [], M)) rfl rfl rfl (fun c_99 => ?_) (fun c_99 => ?_)
                      · have c_99 : (tx sa ch x1 i9_4) = 74 := of_decide_eq_true c_99
                        refine ml_blk 3 (S' := (120, [(4, .int i9_4)], [.int (i9_4 + 1)], M)) rfl ?_
                        exact ml_ret rfl (rfl) (⟨congrArg (fun y => some (Value.int y)) (ft_p hj_33 hnb (Or.inr (Or.inr (Or.inr (Or.inr (Or.inr (Or.inl (c_99)))))))), rfl⟩)
                      · have c_99 : ¬ ((tx sa ch x1 i9_4) = 74) := of_decide_eq_false c_99
                        refine ml_blk 2 (S' := (106, [(5, .int (tx sa ch x1 i9_4)), (0, .ref m0), (1, .int x1), (2, .int x2), (3, .int (sL sl x1)), (4, .int i9_4)], [.int 83, .int (tx sa ch x1 i9_4)], M)) rfl ?_
                        refine ml_if2 (S1 := (116, [(4, .int i9_4)], [], M)) (S2 := (109, [(5, .int (tx sa ch x1 i9_4)), (0, .ref m0), (1, .int x1), (2, .int x2), (3, .int (sL sl x1)), (4, .int i9_4)], [], M)) rfl rfl rfl (fun c_106 => ?_) (fun c_106 => ?_)
                        · have c_106 : (tx sa ch x1 i9_4) = 83 := of_decide_eq_true c_106
                          refine ml_blk 3 (S' := (120, [(4, .int i9_4)], [.int (i9_4 + 1)], M)) rfl ?_
                          exact ml_ret rfl (rfl) (⟨congrArg (fun y => some (Value.int y)) (ft_p hj_33 hnb (Or.inr (Or.inr (Or.inr (Or.inr (Or.inr (Or.inr (Or.inl (c_106))))))))), rfl⟩)
                        · have c_106 : ¬ ((tx sa ch x1 i9_4) = 83) := of_decide_eq_false c_106
                          refine ml_blk 2 (S' := (113, [(5, .int (tx sa ch x1 i9_4)), (0, .ref m0), (1, .int x1), (2, .int x2), (3, .int (sL sl x1)), (4, .int i9_4)], [.int 90, .int (tx sa ch x1 i9_4)], M)) rfl ?_
                          refine ml_if2 (S1 := (121, [(5, .int (tx sa ch x1 i9_4)), (0, .ref m0), (1, .int x1), (2, .int x2), (3, .int (sL sl x1)), (4, .int i9_4)], [], M)) (S2 := (116, [(4, .int i9_4)], [], M)) rfl rfl rfl (fun c_113 => ?_) (fun c_113 => ?_)
                          · have c_113 : ¬ (tx sa ch x1 i9_4) = 90 := of_decide_eq_true c_113
                            refine ml_blk 2 (S' := (125, [(5, .int (tx sa ch x1 i9_4)), (0, .ref m0), (1, .int x1), (2, .int x2), (3, .int (sL sl x1)), (4, .int i9_4)], [.int 76, .int (tx sa ch x1 i9_4)], M)) rfl ?_
                            refine ml_if2 (S1 := (130, [(5, .int (tx sa ch x1 i9_4)), (0, .ref m0), (1, .int x1), (2, .int x2), (3, .int (sL sl x1)), (4, .int i9_4)], [], M)) (S2 := (128, [(5, .int (tx sa ch x1 i9_4)), (0, .ref m0), (1, .int x1), (2, .int x2), (3, .int (sL sl x1)), (4, .int i9_4)], [], M)) rfl rfl rfl (fun c_125 => ?_) (fun c_125 => ?_)
                            · have c_125 : (tx sa ch x1 i9_4) = 76 := of_decide_eq_true c_125
                              have hkn := i_lt c_46
                              have hk4 : (i9_4 + 1).toInt = i9_4.toInt + 1 := inc_lt c_46
                              refine ml_blk 3 (S' := (134, [(5, .int (tx sa ch x1 i9_4)), (0, .ref m0), (1, .int x1), (2, .int x2), (3, .int (sL sl x1)), (4, .int i9_4)], [.int (i9_4 + 1)], M)) rfl ?_
                              refine ml_st (S' := (136, [(0, .ref m0), (1, .int x1), (3, .int (sL sl x1)), (4, .int i9_4), (6, .int (i9_4 + 1))], [], M)) rfl rfl rfl ?_
                              have L_136 : ∀ (n_136 : Nat) (i136_6 : Int32), (2147483648 - i136_6.toInt).toNat ≤ n_136 → (i9_4.toInt + 1 ≤ i136_6.toInt ∧ i136_6.toInt ≤ (sL sl x1).toInt ∧ scn (PL2 (tx sa ch x1)) (sL sl x1) (scf (sL sl x1) (i9_4 + 1)) (i9_4 + 1) = scn (PL2 (tx sa ch x1)) (sL sl x1) (scf (sL sl x1) i136_6) i136_6) → ml (mT g) d (mb_206 g).2 (136, [(0, .ref m0), (1, .int x1), (3, .int (sL sl x1)), (4, .int i9_4), (6, .int i136_6)], [], M) (fun v M' => v = some (.int (FTx (tx sa ch x1) (sL sl x1) x2)) ∧ M' = M) := by
                                intro n_136
                                induction n_136 with
                                | zero => intro i136_6 hn; exact (loop_zero hn).elim
                                | succ n_136 ih_136 =>
                                  intro i136_6 hn_136 hi_136
                                  obtain ⟨he0, he1, hse⟩ := hi_136
                                  refine ml_blk 2 (S' := (139, [(0, .ref m0), (1, .int x1), (3, .int (sL sl x1)), (4, .int i9_4), (6, .int i136_6)], [.int (sL sl x1), .int i136_6], M)) rfl ?_
                                  have J_160 : (scn (PL2 (tx sa ch x1)) (sL sl x1) (scf (sL sl x1) (i9_4 + 1)) (i9_4 + 1) = i136_6) → ml (mT g) d (mb_206 g).2 (160, [(0, .ref m0), (1, .int x1), (3, .int (sL sl x1)), (4, .int i9_4), (6, .int i136_6)], [], M) (fun v M' => v = some (.int (FTx (tx sa ch x1) (sL sl x1) x2)) ∧ M' = M) := by
                                    intro hj_160
                                    refine ml_blk 2 (S' := (163, [(0, .ref m0), (1, .int x1), (3, .int (sL sl x1)), (4, .int i9_4), (6, .int i136_6)], [.int (sL sl x1), .int i136_6], M)) rfl ?_
                                    refine ml_if2 (S1 := (187, [], [], M)) (S2 := (166, [(0, .ref m0), (1, .int x1), (3, .int (sL sl x1)), (4, .int i9_4), (6, .int i136_6)], [], M)) rfl rfl rfl (fun c_163 => ?_) (fun c_163 => ?_)
                                    · have c_163 : (sL sl x1) ≤ i136_6 := of_decide_eq_true c_163
                                      refine ml_st (S' := (188, [], [.int (-1)], M)) rfl rfl rfl ?_
                                      exact ml_ret rfl (rfl) (⟨congrArg (fun y => some (Value.int y)) (((ft_b hj_33 hnb (fun h => by rcases h with h | h | h | h | h | h | h | h; exact c_64 h; exact c_71 h; exact c_78 h; exact c_85 h; exact c_92 h; exact c_99 h; exact c_106 h; exact c_113 h) c_125 hj_160)).trans (if_neg (fun h => Int32.not_le.mpr h.1 c_163))).symm, rfl⟩)
                                    · have c_163 : ¬ ((sL sl x1) ≤ i136_6) := of_decide_eq_false c_163
                                      refine ml_blk 3 (S' := (170, [(0, .ref m0), (1, .int x1), (3, .int (sL sl x1)), (4, .int i9_4), (6, .int i136_6)], [.int i9_4, .int x1, .ref m0], M)) rfl ?_
                                      refine ml_blk 3 (S' := (174, [(0, .ref m0), (1, .int x1), (3, .int (sL sl x1)), (4, .int i9_4), (6, .int i136_6)], [.int i136_6, .int (i9_4 + 1), .int x1, .ref m0], M)) rfl ?_
                                      refine ml_call (a := [.ref m0, .int x1, .int (i9_4 + 1), .int i136_6]) (rest := []) rfl (hR.okc rfl rfl rfl) rfl rfl (rm_nameText hR hY (hs0) (hs1) (by omega) (by rw [hk4]; omega) (by omega) (by omega)) (fun v17 M18 h19 => ?_)
                                      obtain ⟨rfl, h19⟩ := h19
                                      rw [h19]
                                      show ml _ _ _ (177, [(0, .ref m0), (1, .int x1), (3, .int (sL sl x1)), (4, .int i9_4), (6, .int i136_6)], [.int (ntv (tx sa ch x1) (i9_4 + 1) i136_6)], M) _
                                      refine ml_if (S1 := (187, [], [], M)) (S2 := (180, [(0, .ref m0), (1, .int x1), (3, .int (sL sl x1)), (4, .int i9_4), (6, .int i136_6)], [], M)) rfl rfl rfl (fun c_177 => ?_) (fun c_177 => ?_)
                                      · have c_177 : (ntv (tx sa ch x1) (i9_4 + 1) i136_6) = 0 := of_decide_eq_true c_177
                                        refine ml_st (S' := (188, [], [.int (-1)], M)) rfl rfl rfl ?_
                                        exact ml_ret rfl (rfl) (⟨congrArg (fun y => some (Value.int y)) (((ft_b hj_33 hnb (fun h => by rcases h with h | h | h | h | h | h | h | h; exact c_64 h; exact c_71 h; exact c_78 h; exact c_85 h; exact c_92 h; exact c_99 h; exact c_106 h; exact c_113 h) c_125 hj_160)).trans (if_neg (fun h => absurd (h.2.symm.trans c_177) (by decide)))).symm, rfl⟩)
                                      · have c_177 : ¬ ((ntv (tx sa ch x1) (i9_4 + 1) i136_6) = 0) := of_decide_eq_false c_177
                                        refine ml_blk 3 (S' := (184, [(0, .ref m0), (1, .int x1), (3, .int (sL sl x1)), (4, .int i9_4), (6, .int i136_6)], [.int (i136_6 + 1)], M)) rfl ?_
                                        refine ml_st (S' := (188, [], [.int (i136_6 + 1)], M)) rfl rfl rfl ?_
                                        exact ml_ret rfl (rfl) (⟨congrArg (fun y => some (Value.int y)) (((ft_b hj_33 hnb (fun h => by rcases h with h | h | h | h | h | h | h | h; exact c_64 h; exact c_71 h; exact c_78 h; exact c_85 h; exact c_92 h; exact c_99 h; exact c_106 h; exact c_113 h) c_125 hj_160)).trans (if_pos ⟨Int32.not_le.mp c_163, (ntx_01.resolve_left c_177)⟩)).symm, rfl⟩)
                                  refine ml_if2 (S1 := (160, [(0, .ref m0), (1, .int x1), (3, .int (sL sl x1)), (4, .int i9_4), (6, .int i136_6)], [], M)) (S2 := (142, [(0, .ref m0), (1, .int x1), (3, .int (sL sl x1)), (4, .int i9_4), (6, .int i136_6)], [], M)) rfl rfl rfl (fun c_139 => ?_) (fun c_139 => ?_)
                                  · have c_139 : (sL sl x1) ≤ i136_6 := of_decide_eq_true c_139
                                    exact J_160  (hse.trans (scn_end (fun h => Int32.not_le.mpr h.1 c_139)))
                                  · have c_139 : ¬ ((sL sl x1) ≤ i136_6) := of_decide_eq_false c_139
                                    refine ml_blk 3 (S' := (146, [(0, .ref m0), (1, .int x1), (3, .int (sL sl x1)), (4, .int i9_4), (6, .int i136_6)], [.int i136_6, .int x1, .ref m0], M)) rfl ?_
                                    refine ml_call (a := [.ref m0, .int x1, .int i136_6]) (rest := []) rfl (hR.okc rfl rfl rfl) rfl rfl (rm_at hR hY (hs0) (hs1) (by omega) (i_nle c_139) (by omega)) (fun v20 M21 h22 => ?_)
                                    obtain ⟨rfl, h22⟩ := h22
                                    rw [h22]
                                    show ml _ _ _ (149, [(0, .ref m0), (1, .int x1), (3, .int (sL sl x1)), (4, .int i9_4), (6, .int i136_6)], [.int (tx sa ch x1 i136_6)], M) _
                                    refine ml_st (S' := (151, [(0, .ref m0), (1, .int x1), (3, .int (sL sl x1)), (4, .int i9_4), (6, .int i136_6)], [.int 59, .int (tx sa ch x1 i136_6)], M)) rfl rfl rfl ?_
                                    refine ml_if2 (S1 := (160, [(0, .ref m0), (1, .int x1), (3, .int (sL sl x1)), (4, .int i9_4), (6, .int i136_6)], [], M)) (S2 := (154, [(0, .ref m0), (1, .int x1), (3, .int (sL sl x1)), (4, .int i9_4), (6, .int i136_6)], [], M)) rfl rfl rfl (fun c_151 => ?_) (fun c_151 => ?_)
                                    · have c_151 : (tx sa ch x1 i136_6) = 59 := of_decide_eq_true c_151
                                      exact J_160  (hse.trans (scn_end (fun h => of_decide_eq_true h.2 c_151)))
                                    · have c_151 : ¬ ((tx sa ch x1 i136_6) = 59) := of_decide_eq_false c_151
                                      refine ml_st (S' := (157, [(6, .int (i136_6 + 1)), (0, .ref m0), (1, .int x1), (3, .int (sL sl x1)), (4, .int i9_4)], [], M)) rfl rfl rfl ?_
                                      refine ml_st (S' := (136, [(0, .ref m0), (1, .int x1), (3, .int (sL sl x1)), (4, .int i9_4), (6, .int (i136_6 + 1))], [], M)) rfl rfl rfl ?_
                                      exact ih_136 (i136_6 + 1) (loop_inc (Int32.not_le.mp c_139) hn_136) (⟨by rw [inc_lt (Int32.not_le.mp c_139)]; omega, by rw [inc_lt (Int32.not_le.mp c_139)]; have := i_nle c_139; omega, hse.trans (scn_go (Int32.not_le.mp c_139) (decide_eq_true c_151) (inc_lt (Int32.not_le.mp c_139)))⟩)
                              exact L_136 _ (i9_4 + 1) (Nat.le_refl _) (⟨by rw [hk4]; omega, by rw [hk4]; omega, rfl⟩)
                            · have c_125 : ¬ ((tx sa ch x1 i9_4) = 76) := of_decide_eq_false c_125
                              refine ml_st (S' := (129, [(5, .int (tx sa ch x1 i9_4)), (0, .ref m0), (1, .int x1), (2, .int x2), (3, .int (sL sl x1)), (4, .int i9_4)], [.int (-1)], M)) rfl rfl rfl ?_
                              exact ml_ret rfl (rfl) (⟨congrArg (fun y => some (Value.int y)) (ft_n hj_33 hnb (fun h => by rcases h with h | h | h | h | h | h | h | h; exact c_64 h; exact c_71 h; exact c_78 h; exact c_85 h; exact c_92 h; exact c_99 h; exact c_106 h; exact c_113 h) c_125), rfl⟩)
                          · have c_113 : ¬ (¬ (tx sa ch x1 i9_4) = 90) := of_decide_eq_false c_113
                            refine ml_blk 3 (S' := (120, [(4, .int i9_4)], [.int (i9_4 + 1)], M)) rfl ?_
                            exact ml_ret rfl (rfl) (⟨congrArg (fun y => some (Value.int y)) (ft_p hj_33 hnb (Or.inr (Or.inr (Or.inr (Or.inr (Or.inr (Or.inr (Or.inr (Decidable.not_not.mp c_113))))))))), rfl⟩)
          · have c_46 : ¬ (i9_4 < (sL sl x1)) := of_decide_eq_false c_46
            refine ml_st (S' := (50, [], [.int (-1)], M)) rfl rfl rfl ?_
            exact ml_ret rfl (rfl) (⟨congrArg (fun y => some (Value.int y)) (ft_1 hj_33 (Or.inr (Int32.not_lt.mp c_46))), rfl⟩)
      refine ml_if2 (S1 := (33, [(0, .ref m0), (1, .int x1), (2, .int x2), (3, .int (sL sl x1)), (4, .int i9_4)], [], M)) (S2 := (15, [(0, .ref m0), (1, .int x1), (2, .int x2), (3, .int (sL sl x1)), (4, .int i9_4)], [], M)) rfl rfl rfl (fun c_12 => ?_) (fun c_12 => ?_)
      · have c_12 : (sL sl x1) ≤ i9_4 := of_decide_eq_true c_12
        exact J_33  (hsc.trans (scn_end (fun h => Int32.not_le.mpr h.1 c_12)))
      · have c_12 : ¬ ((sL sl x1) ≤ i9_4) := of_decide_eq_false c_12
        refine ml_blk 3 (S' := (19, [(0, .ref m0), (1, .int x1), (2, .int x2), (3, .int (sL sl x1)), (4, .int i9_4)], [.int i9_4, .int x1, .ref m0], M)) rfl ?_
        refine ml_call (a := [.ref m0, .int x1, .int i9_4]) (rest := []) rfl (hR.okc rfl rfl rfl) rfl rfl (rm_at hR hY (hs0) (hs1) (by omega) (i_nle c_12) (by omega)) (fun v23 M24 h25 => ?_)
        obtain ⟨rfl, h25⟩ := h25
        rw [h25]
        show ml _ _ _ (22, [(0, .ref m0), (1, .int x1), (2, .int x2), (3, .int (sL sl x1)), (4, .int i9_4)], [.int (tx sa ch x1 i9_4)], M) _
        refine ml_st (S' := (24, [(0, .ref m0), (1, .int x1), (2, .int x2), (3, .int (sL sl x1)), (4, .int i9_4)], [.int 91, .int (tx sa ch x1 i9_4)], M)) rfl rfl rfl ?_
        refine ml_if2 (S1 := (33, [(0, .ref m0), (1, .int x1), (2, .int x2), (3, .int (sL sl x1)), (4, .int i9_4)], [], M)) (S2 := (27, [(0, .ref m0), (1, .int x1), (2, .int x2), (3, .int (sL sl x1)), (4, .int i9_4)], [], M)) rfl rfl rfl (fun c_24 => ?_) (fun c_24 => ?_)
        · have c_24 : ¬ (tx sa ch x1 i9_4) = 91 := of_decide_eq_true c_24
          exact J_33  (hsc.trans (scn_end (fun h => c_24 (of_decide_eq_true h.2))))
        · have c_24 : ¬ (¬ (tx sa ch x1 i9_4) = 91) := of_decide_eq_false c_24
          refine ml_st (S' := (30, [(4, .int (i9_4 + 1)), (0, .ref m0), (1, .int x1), (2, .int x2), (3, .int (sL sl x1))], [], M)) rfl rfl rfl ?_
          refine ml_st (S' := (9, [(0, .ref m0), (1, .int x1), (2, .int x2), (3, .int (sL sl x1)), (4, .int (i9_4 + 1))], [], M)) rfl rfl rfl ?_
          exact ih_9 (i9_4 + 1) (loop_inc (Int32.not_le.mp c_12) hn_9) (⟨by rw [inc_lt (Int32.not_le.mp c_12)]; omega, by rw [inc_lt (Int32.not_le.mp c_12)]; have := i_nle c_12; omega, hsc.trans (scn_go (Int32.not_le.mp c_12) (decide_eq_true (Decidable.not_not.mp c_24)) (inc_lt (Int32.not_le.mp c_12)))⟩)
  exact L_9 _ x2 (Nat.le_refl _) (⟨Int.le_refl _, h2n, rfl⟩)
end
section
/-! the reference: the pool's entries (my own text) -/
section MIU
def PK (n : Nat) (f : Nat → Int32) (S : Nat) (cp mj : Int32) (pa py : Nat → Int32) (I : rI) (R : rR) : Prop := I 51 = some 0 ∧ I 52 = some cp ∧ I 53 = some mj ∧ (1 ≤ cp.toInt ∧ cp.toInt ≤ 65535) ∧ ∀ j, 1 ≤ j → j < cp.toInt.toNat → R 21 j = some (pa j) ∧ (pa j = -1 ∨ (0 ≤ (pa j).toInt ∧ (pa j).toInt + esz (f1 f (pa j)) ≤ n ∧ (f1 f (pa j) = 1 → R 22 j = some (py j) ∧ 0 ≤ (py j).toInt ∧ (py j).toInt < S)))
variable {n S : Nat} {f : Nat → Int32} {cp mj : Int32} {pa py : Nat → Int32} {I I' : rI} {R R' : rR} {k t x : Int32}
theorem PK.mono (h : PK n f S cp mj pa py I R) (hI : ∀ k, k ∈ [51, 52, 53] → I' k = I k) (hR : ∀ k, k ∈ [21, 22] → R' k = R k) : PK n f S cp mj pa py I' R' := by
  obtain ⟨a1, a2, a3, a4, a5⟩ := h
  refine ⟨(hI 51 (by decide)).trans a1, (hI 52 (by decide)).trans a2, (hI 53 (by decide)).trans a3, a4, fun j h1 h2 => ?_⟩
  rw [hR 21 (by decide), hR 22 (by decide)]
  exact a5 j h1 h2
def tgf (f : Nat → Int32) (cp : Int32) (pa : Nat → Int32) (k : Int32) : Int32 := if k ≤ 0 then 0 else if cp ≤ k then 0 else if pa k.toNatClampNeg < 0 then 0 else f1 f (pa k.toNatClampNeg)
def ixf (f : Nat → Int32) (pa : Nat → Int32) (k a : Int32) : Int32 := f2 f (pa k.toNatClampNeg + a)
def pyf (py : Nat → Int32) (k : Int32) : Int32 := py k.toNatClampNeg
/-- an entry that is one -/
theorem PK.e (h : PK n f S cp mj pa py I R) (hk : 0 < k.toInt) (hc : k.toInt < cp.toInt) : R 21 (0 + k).toNatClampNeg = some (pa k.toNatClampNeg) ∧ vp_in (0 + k) 65540 ∧ (pa k.toNatClampNeg = -1 ∨ (0 ≤ (pa k.toNatClampNeg).toInt ∧ (pa k.toNatClampNeg).toInt + esz (f1 f (pa k.toNatClampNeg)) ≤ n ∧ (f1 f (pa k.toNatClampNeg) = 1 → R 22 (0 + k).toNatClampNeg = some (py k.toNatClampNeg) ∧ 0 ≤ (py k.toNatClampNeg).toInt ∧ (py k.toNatClampNeg).toInt < S))) := by
  obtain ⟨a1, a2, a3, a4, a5⟩ := h
  rw [z_nat]
  obtain ⟨b1, b2⟩ := a5 k.toNatClampNeg (by show 1 ≤ k.toInt.toNat; omega) (by show k.toInt.toNat < _; omega)
  exact ⟨b1, vin_z (by omega) (by omega), b2⟩
theorem tgf_in (h : tgf f cp pa k = t) (ht : t ≠ 0) : 0 < k.toInt ∧ k.toInt < cp.toInt ∧ 0 ≤ (pa k.toNatClampNeg).toInt ∧ f1 f (pa k.toNatClampNeg) = t := by
  unfold tgf at h
  split at h
  · exact absurd h.symm ht
  · split at h
    · exact absurd h.symm ht
    · split at h
      · exact absurd h.symm ht
      · rename_i h1 h2 h3
        have e : (0 : Int32).toInt = 0 := rfl
        have h4 := i_nle h1
        exact ⟨by omega, i_nle h2, nneg h3, h⟩
theorem m1_neg {y : Int32} (h : 0 ≤ y.toInt) (e : y = -1) : False := by
  subst e
  exact absurd h (by decide)
theorem PK.tg (h : PK n f S cp mj pa py I R) (ht : tgf f cp pa k = t) (h0 : t ≠ 0) : 0 < k.toInt ∧ k.toInt < cp.toInt ∧ 0 ≤ (pa k.toNatClampNeg).toInt ∧ f1 f (pa k.toNatClampNeg) = t ∧ (pa k.toNatClampNeg).toInt + esz t ≤ n := by
  obtain ⟨h1, h2, h3, h4⟩ := tgf_in ht h0
  obtain ⟨-, -, h5⟩ := h.e h1 h2
  obtain ⟨h6, h7, -⟩ := h5.resolve_left (m1_neg h3)
  rw [h4] at h7
  exact ⟨h1, h2, h3, h4, h7⟩
theorem PK.y (h : PK n f S cp mj pa py I R) (ht : tgf f cp pa k = 1) : R 22 (0 + k).toNatClampNeg = some (pyf py k) ∧ vp_in (0 + k) 65540 ∧ 0 ≤ (pyf py k).toInt ∧ (pyf py k).toInt < S := by
  obtain ⟨h1, h2, h3, h4⟩ := tgf_in ht (by decide)
  obtain ⟨-, h9, h5⟩ := h.e h1 h2
  obtain ⟨h6, h7, h8⟩ := h5.resolve_left (m1_neg h3)
  obtain ⟨a1, a2, a3⟩ := h8 h4
  exact ⟨a1, h9, a2, a3⟩
/-- what an entry's indexes lead to -/
def ix7 (f : Nat → Int32) (cp : Int32) (pa : Nat → Int32) (k : Int32) : Prop := tgf f cp pa (ixf f pa k 1) = 1
def ix12 (f : Nat → Int32) (cp : Int32) (pa : Nat → Int32) (k : Int32) : Prop := tgf f cp pa (ixf f pa k 1) = 1 ∧ tgf f cp pa (ixf f pa k 3) = 1
def ix9 (f : Nat → Int32) (cp : Int32) (pa : Nat → Int32) (k : Int32) : Prop := tgf f cp pa (ixf f pa k 1) = 7 ∧ ix7 f cp pa (ixf f pa k 1) ∧ tgf f cp pa (ixf f pa k 3) = 12 ∧ ix12 f cp pa (ixf f pa k 3)
def ix17 (f : Nat → Int32) (cp : Int32) (pa : Nat → Int32) (k : Int32) : Prop := tgf f cp pa (ixf f pa k 3) = 12 ∧ ix12 f cp pa (ixf f pa k 3)
def t7 (t : Int32) : Prop := t = 7 ∨ t = 8 ∨ t = 16 ∨ t = 19 ∨ t = 20
def t9 (t : Int32) : Prop := 9 ≤ t.toInt ∧ t.toInt ≤ 11
def IXP (f : Nat → Int32) (cp : Int32) (pa : Nat → Int32) (k t : Int32) : Prop := (t7 t → ix7 f cp pa k) ∧ (t = 12 → ix12 f cp pa k) ∧ (t9 t → ix9 f cp pa k) ∧ (t = 15 → t9 (tgf f cp pa (ixf f pa k 2)) → ix9 f cp pa (ixf f pa k 2)) ∧ (t = 17 ∨ t = 18 → ix17 f cp pa k)
theorem esz_7 (h : t7 t) : esz t = 3 := by
  rcases h with rfl | rfl | rfl | rfl | rfl <;> rfl
theorem esz_9 (h : t9 t) : esz t = 5 := by
  have h1 := h.1
  have h2 := h.2
  have : t.toInt = 9 ∨ t.toInt = 10 ∨ t.toInt = 11 := by omega
  rcases this with e | e | e
  · rw [i_ofInt 9 (by omega) e]; rfl
  · rw [i_ofInt 10 (by omega) e]; rfl
  · rw [i_ofInt 11 (by omega) e]; rfl
/-- a text that is a method's descriptor -/
def MTX (sa sl ch : Nat → Int32) (s : Int32) : Prop := AGW (tx sa ch s) (sL sl s) 1 ∧ 3 ≤ (sL sl s).toInt
/-- an entry that holds -/
def EOK (f : Nat → Int32) (cp : Int32) (pa py sa sl ch : Nat → Int32) (k : Int32) : Prop := IXP f cp pa k (tgf f cp pa k) ∧ (tgf f cp pa k = 7 → 0 < (sL sl (pyf py (ixf f pa k 1))).toInt) ∧
  (tgf f cp pa k = 10 ∨ tgf f cp pa k = 11 ∨ tgf f cp pa k = 18 → MTX sa sl ch (pyf py (ixf f pa (ixf f pa k 3) 3))) ∧ (tgf f cp pa k = 17 → 0 < (sL sl (pyf py (ixf f pa (ixf f pa k 3) 3))).toInt)
theorem tgf_of (h0 : 0 < k.toInt) (h1 : k.toInt < cp.toInt) (h2 : 0 ≤ (pa k.toNatClampNeg).toInt) : tgf f cp pa k = f1 f (pa k.toNatClampNeg) := by
  have e : (0 : Int32).toInt = 0 := rfl
  unfold tgf
  rw [if_neg (fun q => by have := i_le q; omega), if_neg (fun q => by have := i_le q; omega), if_neg (nlt0 h2)]
theorem t79 (h7 : t7 t) (h9 : t9 t) : False := by
  rcases h7 with rfl | rfl | rfl | rfl | rfl <;> exact absurd h9 (by unfold t9; decide)
theorem t7_ne (h : t7 t) : t ≠ 0 := by
  rintro rfl
  exact absurd h (by unfold t7; decide)
theorem t9_n0 (h : t9 t) : t ≠ 0 := by
  rintro rfl
  exact absurd h (by unfold t9; decide)
theorem IXP_7 (h7 : t7 t) (h : ix7 f cp pa k) : IXP f cp pa k t := ⟨fun _ => h, fun e => absurd (e ▸ h7) (by unfold t7; decide), fun h9 => (t79 h7 h9).elim, fun e => absurd (e ▸ h7) (by unfold t7; decide), fun e => e.elim (fun e => absurd (e ▸ h7) (by unfold t7; decide)) (fun e => absurd (e ▸ h7) (by unfold t7; decide))⟩
theorem IXP_12 (e12 : t = 12) (h : ix12 f cp pa k) : IXP f cp pa k t := by
  subst e12
  exact ⟨fun e => absurd e (by unfold t7; decide), fun _ => h, fun e => absurd e (by unfold t9; decide), fun e => absurd e (by decide), fun e => absurd e (by decide)⟩
theorem IXP_9 (h9 : t9 t) (h : ix9 f cp pa k) : IXP f cp pa k t := ⟨fun e => (t79 e h9).elim, fun e => absurd (e ▸ h9) (by unfold t9; decide), fun _ => h, fun e => absurd (e ▸ h9) (by unfold t9; decide), fun e => e.elim (fun e => absurd (e ▸ h9) (by unfold t9; decide)) (fun e => absurd (e ▸ h9) (by unfold t9; decide))⟩
theorem IXP_15 (e15 : t = 15) (h : t9 (tgf f cp pa (ixf f pa k 2)) → ix9 f cp pa (ixf f pa k 2)) : IXP f cp pa k t := by
  subst e15
  exact ⟨fun e => absurd e (by unfold t7; decide), fun e => absurd e (by decide), fun e => absurd e (by unfold t9; decide), fun _ => h, fun e => absurd e (by decide)⟩
theorem IXP_17 (e17 : t = 17 ∨ t = 18) (h : ix17 f cp pa k) : IXP f cp pa k t := by
  rcases e17 with e | e
  · subst e
    exact ⟨fun e => absurd e (by unfold t7; decide), fun e => absurd e (by decide), fun e => absurd e (by unfold t9; decide), fun e => absurd e (by decide), fun _ => h⟩
  · subst e
    exact ⟨fun e => absurd e (by unfold t7; decide), fun e => absurd e (by decide), fun e => absurd e (by unfold t9; decide), fun e => absurd e (by decide), fun _ => h⟩
theorem IXP_o (a : ¬ t7 t) (b : ¬ t = 12) (c : ¬ t9 t) (d : ¬ t = 15) (e : ¬ (t = 17 ∨ t = 18)) : IXP f cp pa k t := ⟨fun h => absurd h a, fun h => absurd h b, fun h => absurd h c, fun h => absurd h d, fun h => absurd h e⟩
theorem esz_17 (h : t = 17 ∨ t = 18) : esz t = 5 := by
  rcases h with rfl | rfl <;> rfl
def EK (f : Nat → Int32) (cp : Int32) (pa py sa sl ch : Nat → Int32) : Prop := ∀ k, tgf f cp pa k ≠ 0 → EOK f cp pa py sa sl ch k
theorem ntv_0 {c : Int32 → Int32} : ntv c 0 0 = 0 := by
  show ntx c 0 2 0 (0 - 1) = 0
  exact ntx_dbl (v := 47) (by decide) rfl (by decide) rfl (by decide)
theorem t9_of (h : t = 9 ∨ t = 10 ∨ t = 11) : t9 t := by
  rcases h with rfl | rfl | rfl <;> (unfold t9; decide)
end MIU
end
section
/-! the reference: entries of the pool (laid by wip/p2/c66.py) -/
set_option maxHeartbeats 2000000 in
theorem rm_tag {g : xe_G}  {m0 : Nat} {q : Nat → Nat} {z : Nat × Nat} {I : rI} {R : rR} {M : mi_H} {x1 : Int32} {n : Nat} {f : Nat → Int32} {S : Nat} {cp mj : Int32} {pa py : Nat → Int32}  (hR : RS g m0 q z I R M) (hF : FK n f I R) (hP : PK n f S cp mj pa py I R) {d : Nat} (hd : 2 ≤ d) : mt (mT g) d 247 [.ref m0, .int x1] M (fun v M' => v = some (.int (tgf f cp pa x1)) ∧ M' = M) := by
  obtain ⟨d, rfl⟩ : ∃ e, d = e + 1 := ⟨d - 1, by omega⟩
  refine mt_in (b := mb_247 g) rfl rfl ?_
  show ml (mT g) d (mb_247 g).2 (0, [(0, .ref m0), (1, .int x1)], [], M) _
  refine ml_st (S' := (1, [(0, .ref m0), (1, .int x1)], [.int x1], M)) rfl rfl rfl ?_
  refine ml_if (S1 := (26, [], [], M)) (S2 := (4, [(0, .ref m0), (1, .int x1)], [], M)) rfl rfl rfl (fun c_1 => ?_) (fun c_1 => ?_)
  · have c_1 : x1 ≤ 0 := of_decide_eq_true c_1
    refine ml_st (S' := (27, [], [.int 0], M)) rfl rfl rfl ?_
    refine ml_st (S' := (45, [], [.int 0], M)) rfl rfl rfl ?_
    exact ml_ret rfl (rfl) (⟨congrArg (fun y => some (Value.int y)) (show (0 : Int32) = tgf f cp pa x1 by rw [tgf, if_pos c_1]), rfl⟩)
  · have c_1 : ¬ (x1 ≤ 0) := of_decide_eq_false c_1
    refine ml_blk 2 (S' := (6, [(0, .ref m0), (1, .int x1)], [.ref m0, .int x1], M)) rfl ?_
    refine rg_int (S' := (9, [(0, .ref m0), (1, .int x1)], [.int cp, .int x1], M)) rfl hR rfl (hP.2.1) rfl ?_
    refine ml_if2 (S1 := (26, [], [], M)) (S2 := (12, [(0, .ref m0), (1, .int x1)], [], M)) rfl rfl rfl (fun c_9 => ?_) (fun c_9 => ?_)
    · have c_9 : cp ≤ x1 := of_decide_eq_true c_9
      refine ml_st (S' := (27, [], [.int 0], M)) rfl rfl rfl ?_
      refine ml_st (S' := (45, [], [.int 0], M)) rfl rfl rfl ?_
      exact ml_ret rfl (rfl) (⟨congrArg (fun y => some (Value.int y)) (show (0 : Int32) = tgf f cp pa x1 by rw [tgf, if_neg c_1, if_pos c_9]), rfl⟩)
    · have c_9 : ¬ (cp ≤ x1) := of_decide_eq_false c_9
      have hk0 : 0 < x1.toInt := by have := i_nle c_1; have : (0 : Int32).toInt = 0 := rfl; omega
      have hk1 := i_nle c_9
      refine ml_st (S' := (13, [(0, .ref m0), (1, .int x1)], [.ref m0], M)) rfl rfl rfl ?_
      refine rg_ref (S' := (16, [(0, .ref m0), (1, .int x1)], [.ref (q 21)], M)) rfl hR rfl rfl ?_
      refine ml_st (S' := (17, [(0, .ref m0), (1, .int x1)], [.ref m0, .ref (q 21)], M)) rfl rfl rfl ?_
      refine rg_int (S' := (20, [(0, .ref m0), (1, .int x1)], [.int 0, .ref (q 21)], M)) rfl hR rfl (hP.1) rfl ?_
      refine ml_blk 2 (S' := (22, [(0, .ref m0), (1, .int x1)], [.int (0 + x1), .ref (q 21)], M)) rfl ?_
      refine ra_ld (k := 21) (S' := (23, [(0, .ref m0), (1, .int x1)], [.int (pa (Int32.toNatClampNeg x1))], M)) rfl hR rfl ((hP.e hk0 hk1).2.1) ((hP.e hk0 hk1).1) rfl ?_
      refine ml_if (S1 := (30, [(0, .ref m0), (1, .int x1)], [], M)) (S2 := (26, [], [], M)) rfl rfl rfl (fun c_23 => ?_) (fun c_23 => ?_)
      · have c_23 : 0 ≤ (pa (Int32.toNatClampNeg x1)) := of_decide_eq_true c_23
        refine ml_blk 2 (S' := (32, [(0, .ref m0), (1, .int x1)], [.ref m0, .ref m0], M)) rfl ?_
        refine rg_ref (S' := (35, [(0, .ref m0), (1, .int x1)], [.ref (q 21), .ref m0], M)) rfl hR rfl rfl ?_
        refine ml_st (S' := (36, [(0, .ref m0), (1, .int x1)], [.ref m0, .ref (q 21), .ref m0], M)) rfl rfl rfl ?_
        refine rg_int (S' := (39, [(0, .ref m0), (1, .int x1)], [.int 0, .ref (q 21), .ref m0], M)) rfl hR rfl (hP.1) rfl ?_
        refine ml_blk 2 (S' := (41, [(0, .ref m0), (1, .int x1)], [.int (0 + x1), .ref (q 21), .ref m0], M)) rfl ?_
        refine ra_ld (k := 21) (S' := (42, [(0, .ref m0), (1, .int x1)], [.int (pa (Int32.toNatClampNeg x1)), .ref m0], M)) rfl hR rfl ((hP.e hk0 hk1).2.1) ((hP.e hk0 hk1).1) rfl ?_
        refine ml_call (a := [.ref m0, .int (pa (Int32.toNatClampNeg x1))]) (rest := []) rfl (hR.okc rfl rfl rfl) rfl rfl (rm_u1 hR hF (i_le c_23) (by obtain ⟨h1, h2, -⟩ := (hP.e hk0 hk1).2.2.resolve_left (m1_neg (i_le c_23)); have := esz_ge (t := f1 f (pa (Int32.toNatClampNeg x1))); omega) (by omega)) (fun v11 M12 h13 => ?_)
        obtain ⟨rfl, h13⟩ := h13
        rw [h13]
        show ml _ _ _ (45, [], [.int (f1 f (pa (Int32.toNatClampNeg x1)))], M) _
        exact ml_ret rfl (rfl) (⟨congrArg (fun y => some (Value.int y)) (show _ = tgf f cp pa x1 by rw [tgf, if_neg c_1, if_neg c_9, if_neg (Int32.not_lt.mpr c_23)]), rfl⟩)
      · have c_23 : ¬ (0 ≤ (pa (Int32.toNatClampNeg x1))) := of_decide_eq_false c_23
        refine ml_st (S' := (27, [], [.int 0], M)) rfl rfl rfl ?_
        refine ml_st (S' := (45, [], [.int 0], M)) rfl rfl rfl ?_
        exact ml_ret rfl (rfl) (⟨congrArg (fun y => some (Value.int y)) (show (0 : Int32) = tgf f cp pa x1 by rw [tgf, if_neg c_1, if_neg c_9, if_pos (Int32.not_le.mp c_23)]), rfl⟩)
set_option maxHeartbeats 2000000 in
theorem rm_index {g : xe_G}  {m0 : Nat} {q : Nat → Nat} {z : Nat × Nat} {I : rI} {R : rR} {M : mi_H} {x1 x2 : Int32} {n : Nat} {f : Nat → Int32} {S : Nat} {cp mj : Int32} {pa py : Nat → Int32}  (hR : RS g m0 q z I R M) (hF : FK n f I R) (hP : PK n f S cp mj pa py I R) (hk0 : 0 < x1.toInt) (hk1 : x1.toInt < cp.toInt) (hpa : 0 ≤ (pa (Int32.toNatClampNeg x1)).toInt) (hx0 : 0 ≤ x2.toInt) (hx1 : (pa (Int32.toNatClampNeg x1)).toInt + x2.toInt + 2 ≤ n) {d : Nat} (hd : 3 ≤ d) : mt (mT g) d 213 [.ref m0, .int x1, .int x2] M (fun v M' => v = some (.int (ixf f pa x1 x2)) ∧ M' = M) := by
  obtain ⟨d, rfl⟩ : ∃ e, d = e + 1 := ⟨d - 1, by omega⟩
  refine mt_in (b := mb_213 g) rfl rfl ?_
  show ml (mT g) d (mb_213 g).2 (0, [(0, .ref m0), (1, .int x1), (2, .int x2)], [], M) _
  have hn := hF.1
  have ex : (pa (Int32.toNatClampNeg x1) + x2).toInt = (pa (Int32.toNatClampNeg x1)).toInt + x2.toInt := i_add (by omega) (by omega)
  refine ml_blk 2 (S' := (2, [(0, .ref m0), (1, .int x1), (2, .int x2)], [.ref m0, .ref m0], M)) rfl ?_
  refine rg_ref (S' := (5, [(0, .ref m0), (1, .int x1), (2, .int x2)], [.ref (q 21), .ref m0], M)) rfl hR rfl rfl ?_
  refine ml_st (S' := (6, [(0, .ref m0), (1, .int x1), (2, .int x2)], [.ref m0, .ref (q 21), .ref m0], M)) rfl rfl rfl ?_
  refine rg_int (S' := (9, [(0, .ref m0), (1, .int x1), (2, .int x2)], [.int 0, .ref (q 21), .ref m0], M)) rfl hR rfl (hP.1) rfl ?_
  refine ml_blk 2 (S' := (11, [(0, .ref m0), (1, .int x1), (2, .int x2)], [.int (0 + x1), .ref (q 21), .ref m0], M)) rfl ?_
  refine ra_ld (k := 21) (S' := (12, [(0, .ref m0), (1, .int x1), (2, .int x2)], [.int (pa (Int32.toNatClampNeg x1)), .ref m0], M)) rfl hR rfl ((hP.e hk0 hk1).2.1) ((hP.e hk0 hk1).1) rfl ?_
  refine ml_blk 2 (S' := (14, [(0, .ref m0), (1, .int x1), (2, .int x2)], [.int ((pa (Int32.toNatClampNeg x1)) + x2), .ref m0], M)) rfl ?_
  refine ml_call (a := [.ref m0, .int ((pa (Int32.toNatClampNeg x1)) + x2)]) (rest := []) rfl (hR.okc rfl rfl rfl) rfl rfl (rm_u2 hR hF (by omega) (by omega) (by omega)) (fun v11 M12 h13 => ?_)
  obtain ⟨rfl, h13⟩ := h13
  rw [h13]
  show ml _ _ _ (17, [(0, .ref m0), (1, .int x1), (2, .int x2)], [.int (f2 f ((pa (Int32.toNatClampNeg x1)) + x2))], M) _
  exact ml_ret rfl (rfl) (⟨rfl, rfl⟩)
set_option maxHeartbeats 2000000 in
theorem rm_symOf {g : xe_G}  {m0 : Nat} {q : Nat → Nat} {z : Nat × Nat} {I : rI} {R : rR} {M : mi_H} {x1 : Int32} {n : Nat} {f : Nat → Int32} {S : Nat} {cp mj : Int32} {pa py : Nat → Int32}  (hR : RS g m0 q z I R M) (hP : PK n f S cp mj pa py I R) (ht : tgf f cp pa x1 = 1) {d : Nat} (hd : 1 ≤ d) : mt (mT g) d 244 [.ref m0, .int x1] M (fun v M' => v = some (.int (pyf py x1)) ∧ M' = M) := by
  obtain ⟨d, rfl⟩ : ∃ e, d = e + 1 := ⟨d - 1, by omega⟩
  refine mt_in (b := mb_244 g) rfl rfl ?_
  show ml (mT g) d (mb_244 g).2 (0, [(0, .ref m0), (1, .int x1)], [], M) _
  refine ml_st (S' := (1, [(0, .ref m0), (1, .int x1)], [.ref m0], M)) rfl rfl rfl ?_
  refine rg_ref (S' := (4, [(0, .ref m0), (1, .int x1)], [.ref (q 22)], M)) rfl hR rfl rfl ?_
  refine ml_st (S' := (5, [(0, .ref m0), (1, .int x1)], [.ref m0, .ref (q 22)], M)) rfl rfl rfl ?_
  refine rg_int (S' := (8, [(0, .ref m0), (1, .int x1)], [.int 0, .ref (q 22)], M)) rfl hR rfl (hP.1) rfl ?_
  refine ml_blk 2 (S' := (10, [(0, .ref m0), (1, .int x1)], [.int (0 + x1), .ref (q 22)], M)) rfl ?_
  refine ra_ld (k := 22) (S' := (11, [(0, .ref m0), (1, .int x1)], [.int (pyf py x1)], M)) rfl hR rfl ((hP.y ht).2.1) ((hP.y ht).1) rfl ?_
  exact ml_ret rfl (rfl) (⟨rfl, rfl⟩)
set_option maxHeartbeats 2000000 in
theorem rm_className {g : xe_G}  {m0 : Nat} {q : Nat → Nat} {z : Nat × Nat} {I : rI} {R : rR} {M : mi_H} {x1 : Int32} {n : Nat} {f : Nat → Int32} {S : Nat} {cp mj : Int32} {pa py : Nat → Int32}  (hR : RS g m0 q z I R M) (hF : FK n f I R) (hP : PK n f S cp mj pa py I R) (ht : tgf f cp pa x1 = 7) (h7 : ix7 f cp pa x1) {d : Nat} (hd : 4 ≤ d) : mt (mT g) d 193 [.ref m0, .int x1] M (fun v M' => v = some (.int (pyf py (ixf f pa x1 1))) ∧ M' = M) := by
  obtain ⟨d, rfl⟩ : ∃ e, d = e + 1 := ⟨d - 1, by omega⟩
  refine mt_in (b := mb_193 g) rfl rfl ?_
  show ml (mT g) d (mb_193 g).2 (0, [(0, .ref m0), (1, .int x1)], [], M) _
  refine ml_blk 3 (S' := (3, [(0, .ref m0), (1, .int x1)], [.int x1, .ref m0, .ref m0], M)) rfl ?_
  refine ml_st (S' := (4, [(0, .ref m0), (1, .int x1)], [.int 1, .int x1, .ref m0, .ref m0], M)) rfl rfl rfl ?_
  refine ml_call (a := [.ref m0, .int x1, .int 1]) (rest := [.ref m0]) rfl (hR.okc rfl rfl rfl) rfl rfl (rm_index hR hF hP ((hP.tg ht (by decide)).1) ((hP.tg ht (by decide)).2.1) ((hP.tg ht (by decide)).2.2.1) (by decide) (by have q := (hP.tg ht (by decide)).2.2.2.2; rw [show esz _ = 3 from rfl] at q; have : (1 : Int32).toInt = 1 := rfl; omega) (by omega)) (fun v11 M12 h13 => ?_)
  obtain ⟨rfl, h13⟩ := h13
  rw [h13]
  show ml _ _ _ (7, [(0, .ref m0), (1, .int x1)], [.int (ixf f pa x1 1), .ref m0], M) _
  refine ml_call (a := [.ref m0, .int (ixf f pa x1 1)]) (rest := []) rfl (hR.okc rfl rfl rfl) rfl rfl (rm_symOf hR hP (h7) (by omega)) (fun v14 M15 h16 => ?_)
  obtain ⟨rfl, h16⟩ := h16
  rw [h16]
  show ml _ _ _ (10, [(0, .ref m0), (1, .int x1)], [.int (pyf py (ixf f pa x1 1))], M) _
  exact ml_ret rfl (rfl) (⟨rfl, rfl⟩)
set_option maxHeartbeats 2000000 in
theorem rm_nameOf {g : xe_G}  {m0 : Nat} {q : Nat → Nat} {z : Nat × Nat} {I : rI} {R : rR} {M : mi_H} {x1 : Int32} {n : Nat} {f : Nat → Int32} {S : Nat} {cp mj : Int32} {pa py : Nat → Int32}  (hR : RS g m0 q z I R M) (hF : FK n f I R) (hP : PK n f S cp mj pa py I R) (e : esz (tgf f cp pa x1) = 5) (h0 : tgf f cp pa x1 ≠ 0) (h17 : ix17 f cp pa x1) {d : Nat} (hd : 4 ≤ d) : mt (mT g) d 225 [.ref m0, .int x1] M (fun v M' => v = some (.int (pyf py (ixf f pa (ixf f pa x1 3) 1))) ∧ M' = M) := by
  obtain ⟨d, rfl⟩ : ∃ e, d = e + 1 := ⟨d - 1, by omega⟩
  refine mt_in (b := mb_225 g) rfl rfl ?_
  show ml (mT g) d (mb_225 g).2 (0, [(0, .ref m0), (1, .int x1)], [], M) _
  refine ml_blk 3 (S' := (3, [(0, .ref m0), (1, .int x1)], [.ref m0, .ref m0, .ref m0], M)) rfl ?_
  refine ml_blk 2 (S' := (5, [(0, .ref m0), (1, .int x1)], [.int 3, .int x1, .ref m0, .ref m0, .ref m0], M)) rfl ?_
  refine ml_call (a := [.ref m0, .int x1, .int 3]) (rest := [.ref m0, .ref m0]) rfl (hR.okc rfl rfl rfl) rfl rfl (rm_index hR hF hP ((hP.tg rfl h0).1) ((hP.tg rfl h0).2.1) ((hP.tg rfl h0).2.2.1) (by decide) (by have q := (hP.tg rfl h0).2.2.2.2; rw [show esz _ = 5 from e] at q; have : (3 : Int32).toInt = 3 := rfl; omega) (by omega)) (fun v11 M12 h13 => ?_)
  obtain ⟨rfl, h13⟩ := h13
  rw [h13]
  show ml _ _ _ (8, [(0, .ref m0), (1, .int x1)], [.int (ixf f pa x1 3), .ref m0, .ref m0], M) _
  refine ml_st (S' := (9, [(0, .ref m0), (1, .int x1)], [.int 1, .int (ixf f pa x1 3), .ref m0, .ref m0], M)) rfl rfl rfl ?_
  refine ml_call (a := [.ref m0, .int (ixf f pa x1 3), .int 1]) (rest := [.ref m0]) rfl (hR.okc rfl rfl rfl) rfl rfl (rm_index hR hF hP ((hP.tg h17.1 (by decide)).1) ((hP.tg h17.1 (by decide)).2.1) ((hP.tg h17.1 (by decide)).2.2.1) (by decide) (by have q := (hP.tg h17.1 (by decide)).2.2.2.2; rw [show esz _ = 5 from rfl] at q; have : (1 : Int32).toInt = 1 := rfl; omega) (by omega)) (fun v14 M15 h16 => ?_)
  obtain ⟨rfl, h16⟩ := h16
  rw [h16]
  show ml _ _ _ (12, [(0, .ref m0), (1, .int x1)], [.int (ixf f pa (ixf f pa x1 3) 1), .ref m0], M) _
  refine ml_call (a := [.ref m0, .int (ixf f pa (ixf f pa x1 3) 1)]) (rest := []) rfl (hR.okc rfl rfl rfl) rfl rfl (rm_symOf hR hP (h17.2.1) (by omega)) (fun v17 M18 h19 => ?_)
  obtain ⟨rfl, h19⟩ := h19
  rw [h19]
  show ml _ _ _ (15, [(0, .ref m0), (1, .int x1)], [.int (pyf py (ixf f pa (ixf f pa x1 3) 1))], M) _
  exact ml_ret rfl (rfl) (⟨rfl, rfl⟩)
set_option maxHeartbeats 2000000 in
theorem rm_descOf {g : xe_G}  {m0 : Nat} {q : Nat → Nat} {z : Nat × Nat} {I : rI} {R : rR} {M : mi_H} {x1 : Int32} {n : Nat} {f : Nat → Int32} {S : Nat} {cp mj : Int32} {pa py : Nat → Int32}  (hR : RS g m0 q z I R M) (hF : FK n f I R) (hP : PK n f S cp mj pa py I R) (e : esz (tgf f cp pa x1) = 5) (h0 : tgf f cp pa x1 ≠ 0) (h17 : ix17 f cp pa x1) {d : Nat} (hd : 4 ≤ d) : mt (mT g) d 201 [.ref m0, .int x1] M (fun v M' => v = some (.int (pyf py (ixf f pa (ixf f pa x1 3) 3))) ∧ M' = M) := by
  obtain ⟨d, rfl⟩ : ∃ e, d = e + 1 := ⟨d - 1, by omega⟩
  refine mt_in (b := mb_201 g) rfl rfl ?_
  show ml (mT g) d (mb_201 g).2 (0, [(0, .ref m0), (1, .int x1)], [], M) _
  refine ml_blk 3 (S' := (3, [(0, .ref m0), (1, .int x1)], [.ref m0, .ref m0, .ref m0], M)) rfl ?_
  refine ml_blk 2 (S' := (5, [(0, .ref m0), (1, .int x1)], [.int 3, .int x1, .ref m0, .ref m0, .ref m0], M)) rfl ?_
  refine ml_call (a := [.ref m0, .int x1, .int 3]) (rest := [.ref m0, .ref m0]) rfl (hR.okc rfl rfl rfl) rfl rfl (rm_index hR hF hP ((hP.tg rfl h0).1) ((hP.tg rfl h0).2.1) ((hP.tg rfl h0).2.2.1) (by decide) (by have q := (hP.tg rfl h0).2.2.2.2; rw [show esz _ = 5 from e] at q; have : (3 : Int32).toInt = 3 := rfl; omega) (by omega)) (fun v11 M12 h13 => ?_)
  obtain ⟨rfl, h13⟩ := h13
  rw [h13]
  show ml _ _ _ (8, [(0, .ref m0), (1, .int x1)], [.int (ixf f pa x1 3), .ref m0, .ref m0], M) _
  refine ml_st (S' := (9, [(0, .ref m0), (1, .int x1)], [.int 3, .int (ixf f pa x1 3), .ref m0, .ref m0], M)) rfl rfl rfl ?_
  refine ml_call (a := [.ref m0, .int (ixf f pa x1 3), .int 3]) (rest := [.ref m0]) rfl (hR.okc rfl rfl rfl) rfl rfl (rm_index hR hF hP ((hP.tg h17.1 (by decide)).1) ((hP.tg h17.1 (by decide)).2.1) ((hP.tg h17.1 (by decide)).2.2.1) (by decide) (by have q := (hP.tg h17.1 (by decide)).2.2.2.2; rw [show esz _ = 5 from rfl] at q; have : (3 : Int32).toInt = 3 := rfl; omega) (by omega)) (fun v14 M15 h16 => ?_)
  obtain ⟨rfl, h16⟩ := h16
  rw [h16]
  show ml _ _ _ (12, [(0, .ref m0), (1, .int x1)], [.int (ixf f pa (ixf f pa x1 3) 3), .ref m0], M) _
  refine ml_call (a := [.ref m0, .int (ixf f pa (ixf f pa x1 3) 3)]) (rest := []) rfl (hR.okc rfl rfl rfl) rfl rfl (rm_symOf hR hP (h17.2.2) (by omega)) (fun v17 M18 h19 => ?_)
  obtain ⟨rfl, h19⟩ := h19
  rw [h19]
  show ml _ _ _ (15, [(0, .ref m0), (1, .int x1)], [.int (pyf py (ixf f pa (ixf f pa x1 3) 3))], M) _
  exact ml_ret rfl (rfl) (⟨rfl, rfl⟩)
set_option maxHeartbeats 2000000 in
theorem rm_isField {g : xe_G}  {m0 : Nat} {q : Nat → Nat} {z : Nat × Nat} {I : rI} {R : rR} {M : mi_H} {x1 : Int32} {S cN : Nat} {sa sl ch : Nat → Int32}  (hR : RS g m0 q z I R M) (hY : SK S cN sa sl ch I R) (hs0 : 0 ≤ x1.toInt) (hs1 : x1.toInt < S) {d : Nat} (hd : 4 ≤ d) : mt (mT g) d 217 [.ref m0, .int x1] M (fun v M' => (∃ x : Int32, v = some (.int x) ∧ (x = 0 ∨ x = 1) ∧ (x = 0 ∨ 0 < (sL sl x1).toInt)) ∧ M' = M) := by
  obtain ⟨d, rfl⟩ : ∃ e, d = e + 1 := ⟨d - 1, by omega⟩
  refine mt_in (b := mb_217 g) rfl rfl ?_
  show ml (mT g) d (mb_217 g).2 (0, [(0, .ref m0), (1, .int x1)], [], M) _
  have hsl := hY.s hs0 hs1
  have hsl0 : 0 ≤ (sL sl x1).toInt := hsl.2.2.2.1
  have hsl1 : (sL sl x1).toInt ≤ 66000 := by have h1 := hsl.2.2.1; have h2 := hsl.2.2.2.2.1; have h3 := hsl.2.2.2.2.2.1; show (sl _).toInt ≤ 66000; omega
  refine ml_blk 3 (S' := (3, [(0, .ref m0), (1, .int x1)], [.int 0, .int x1, .ref m0], M)) rfl ?_
  refine ml_call (a := [.ref m0, .int x1, .int 0]) (rest := []) rfl (hR.okc rfl rfl rfl) rfl rfl (rm_fieldText hR hY (hs0) (hs1) (by decide) (by have : (0 : Int32).toInt = 0 := rfl; omega) (by omega)) (fun v11 M12 h13 => ?_)
  obtain ⟨rfl, h13⟩ := h13
  rw [h13]
  show ml _ _ _ (6, [(0, .ref m0), (1, .int x1)], [.int (FTx (tx sa ch x1) (sL sl x1) 0)], M) _
  refine ml_blk 2 (S' := (8, [(0, .ref m0), (1, .int x1)], [.int x1, .ref m0, .int (FTx (tx sa ch x1) (sL sl x1) 0)], M)) rfl ?_
  refine ml_call (a := [.ref m0, .int x1]) (rest := [.int (FTx (tx sa ch x1) (sL sl x1) 0)]) rfl (hR.okc rfl rfl rfl) rfl rfl (rm_length hR hY (hs0) (hs1) (by omega)) (fun v14 M15 h16 => ?_)
  obtain ⟨rfl, h16⟩ := h16
  rw [h16]
  show ml _ _ _ (11, [(0, .ref m0), (1, .int x1)], [.int (sL sl x1), .int (FTx (tx sa ch x1) (sL sl x1) 0)], M) _
  refine ml_if2 (S1 := (18, [(0, .ref m0), (1, .int x1)], [], M)) (S2 := (14, [(0, .ref m0), (1, .int x1)], [], M)) rfl rfl rfl (fun c_11 => ?_) (fun c_11 => ?_)
  · have c_11 : ¬ (FTx (tx sa ch x1) (sL sl x1) 0) = (sL sl x1) := of_decide_eq_true c_11
    refine ml_st (S' := (19, [], [.int 0], M)) rfl rfl rfl ?_
    exact ml_ret rfl (r_z (Or.inl rfl)) (⟨⟨_, rfl, Or.inl rfl, Or.inl rfl⟩, rfl⟩)
  · have c_11 : ¬ (¬ (FTx (tx sa ch x1) (sL sl x1) 0) = (sL sl x1)) := of_decide_eq_false c_11
    refine ml_st (S' := (15, [(0, .ref m0), (1, .int x1)], [.int 1], M)) rfl rfl rfl ?_
    refine ml_st (S' := (19, [], [.int 1], M)) rfl rfl rfl ?_
    exact ml_ret rfl (r_z (Or.inr rfl)) (⟨⟨_, rfl, Or.inr rfl, Or.inr (by have q := FTx_b (c := (tx sa ch x1)) (n := (sL sl x1)) (a := 0) (by decide) hsl0 (by omega); have e : FTx (tx sa ch x1) (sL sl x1) 0 = (sL sl x1) := Decidable.not_not.mp c_11; rw [e] at q; rcases q with q | q; (rw [q] at hsl0; exact absurd hsl0 (by decide)); (have : (0 : Int32).toInt = 0 := rfl; omega))⟩, rfl⟩)
set_option maxHeartbeats 2000000 in
theorem rm_places0 {g : xe_G}  {m0 : Nat} {q : Nat → Nat} {z : Nat × Nat} {I : rI} {R : rR} {M : mi_H} {x1 : Int32} {S cN : Nat} {sa sl ch : Nat → Int32}  (hR : RS g m0 q z I R M) (hY : SK S cN sa sl ch I R) (hs0 : 0 ≤ x1.toInt) (hs1 : x1.toInt < S) (hag : AGW (tx sa ch x1) (sL sl x1) 1) {d : Nat} (hd : 4 ≤ d) : mt (mT g) d 233 [.ref m0, .int x1] M (fun v M' => (∃ x : Int32, v = some (.int x)) ∧ M' = M) := by
  obtain ⟨d, rfl⟩ : ∃ e, d = e + 1 := ⟨d - 1, by omega⟩
  refine mt_in (b := mb_233 g) rfl rfl ?_
  show ml (mT g) d (mb_233 g).2 (0, [(0, .ref m0), (1, .int x1)], [], M) _
  have hsl := hY.s hs0 hs1
  have hsl0 : 0 ≤ (sL sl x1).toInt := hsl.2.2.2.1
  have hsl1 : (sL sl x1).toInt ≤ 66000 := by have h1 := hsl.2.2.1; have h2 := hsl.2.2.2.2.1; have h3 := hsl.2.2.2.2.2.1; show (sl _).toInt ≤ 66000; omega
  refine ml_st (S' := (1, [(0, .ref m0), (1, .int x1)], [.int 1], M)) rfl rfl rfl ?_
  refine ml_st (S' := (2, [(2, .int 1), (0, .ref m0), (1, .int x1)], [], M)) rfl rfl rfl ?_
  refine ml_st (S' := (3, [(2, .int 1), (0, .ref m0), (1, .int x1)], [.int 0], M)) rfl rfl rfl ?_
  refine ml_st (S' := (4, [(0, .ref m0), (1, .int x1), (2, .int 1), (3, .int 0)], [], M)) rfl rfl rfl ?_
  have L_4 : ∀ (n_4 : Nat) (i4_2 : Int32) (i4_3 : Int32), (2147483648 - i4_2.toInt).toNat ≤ n_4 → (AGW (tx sa ch x1) (sL sl x1) i4_2) → ml (mT g) d (mb_233 g).2 (4, [(0, .ref m0), (1, .int x1), (2, .int i4_2), (3, .int i4_3)], [], M) (fun v M' => (∃ x : Int32, v = some (.int x)) ∧ M' = M) := by
    intro n_4
    induction n_4 with
    | zero => intro i4_2 i4_3 hn; exact (loop_zero hn).elim
    | succ n_4 ih_4 =>
      intro i4_2 i4_3 hn_4 hi_4
      have hb := hi_4.at
      refine ml_blk 3 (S' := (7, [(0, .ref m0), (1, .int x1), (2, .int i4_2), (3, .int i4_3)], [.int i4_2, .int x1, .ref m0], M)) rfl ?_
      refine ml_call (a := [.ref m0, .int x1, .int i4_2]) (rest := []) rfl (hR.okc rfl rfl rfl) rfl rfl (rm_at hR hY (hs0) (hs1) (hb.1) (hb.2) (by omega)) (fun v11 M12 h13 => ?_)
      obtain ⟨rfl, h13⟩ := h13
      rw [h13]
      show ml _ _ _ (10, [(0, .ref m0), (1, .int x1), (2, .int i4_2), (3, .int i4_3)], [.int (tx sa ch x1 i4_2)], M) _
      refine ml_st (S' := (12, [(0, .ref m0), (1, .int x1), (2, .int i4_2), (3, .int i4_3)], [.int 41, .int (tx sa ch x1 i4_2)], M)) rfl rfl rfl ?_
      refine ml_if2 (S1 := (55, [(0, .ref m0), (1, .int x1), (2, .int i4_2), (3, .int i4_3)], [], M)) (S2 := (15, [(0, .ref m0), (1, .int x1), (2, .int i4_2), (3, .int i4_3)], [], M)) rfl rfl rfl (fun c_12 => ?_) (fun c_12 => ?_)
      · have c_12 : (tx sa ch x1 i4_2) = 41 := of_decide_eq_true c_12
        refine ml_st (S' := (56, [(0, .ref m0), (1, .int x1), (2, .int i4_2), (3, .int i4_3)], [.int i4_3], M)) rfl rfl rfl ?_
        exact ml_ret rfl (rfl) (⟨⟨_, rfl⟩, rfl⟩)
      · have c_12 : ¬ ((tx sa ch x1 i4_2) = 41) := of_decide_eq_false c_12
        refine ml_blk 3 (S' := (18, [(0, .ref m0), (1, .int x1), (2, .int i4_2), (3, .int i4_3)], [.int i4_2, .int x1, .ref m0], M)) rfl ?_
        refine ml_call (a := [.ref m0, .int x1, .int i4_2]) (rest := []) rfl (hR.okc rfl rfl rfl) rfl rfl (rm_at hR hY (hs0) (hs1) (hb.1) (hb.2) (by omega)) (fun v14 M15 h16 => ?_)
        obtain ⟨rfl, h16⟩ := h16
        rw [h16]
        show ml _ _ _ (21, [(0, .ref m0), (1, .int x1), (2, .int i4_2), (3, .int i4_3)], [.int (tx sa ch x1 i4_2)], M) _
        refine ml_st (S' := (23, [(4, .int (tx sa ch x1 i4_2)), (0, .ref m0), (1, .int x1), (2, .int i4_2), (3, .int i4_3)], [], M)) rfl rfl rfl ?_
        refine ml_blk 3 (S' := (28, [(4, .int (tx sa ch x1 i4_2)), (0, .ref m0), (1, .int x1), (2, .int i4_2), (3, .int i4_3)], [.int 74, .int (tx sa ch x1 i4_2), .int i4_3], M)) rfl ?_
        refine ml_if2 (S1 := (38, [(0, .ref m0), (1, .int x1), (2, .int i4_2)], [.int i4_3], M)) (S2 := (31, [(4, .int (tx sa ch x1 i4_2)), (0, .ref m0), (1, .int x1), (2, .int i4_2), (3, .int i4_3)], [.int i4_3], M)) rfl rfl rfl (fun c_28 => ?_) (fun c_28 => ?_)
        · have c_28 : (tx sa ch x1 i4_2) = 74 := of_decide_eq_true c_28
          refine ml_st (S' := (39, [(0, .ref m0), (1, .int x1), (2, .int i4_2)], [.int 2, .int i4_3], M)) rfl rfl rfl ?_
          refine ml_st (S' := (43, [(0, .ref m0), (1, .int x1), (2, .int i4_2)], [.int 2, .int i4_3], M)) rfl rfl rfl ?_
          refine ml_st (S' := (44, [(0, .ref m0), (1, .int x1), (2, .int i4_2)], [.int (i4_3 + 2)], M)) rfl rfl rfl ?_
          refine ml_st (S' := (45, [(3, .int (i4_3 + 2)), (0, .ref m0), (1, .int x1), (2, .int i4_2)], [], M)) rfl rfl rfl ?_
          refine ml_blk 3 (S' := (48, [(3, .int (i4_3 + 2)), (0, .ref m0), (1, .int x1), (2, .int i4_2)], [.int i4_2, .int x1, .ref m0], M)) rfl ?_
          refine ml_call (a := [.ref m0, .int x1, .int i4_2]) (rest := []) rfl (hR.okc rfl rfl rfl) rfl rfl (rm_fieldText hR hY (hs0) (hs1) (hb.1) (by omega) (by omega)) (fun v17 M18 h19 => ?_)
          obtain ⟨rfl, h19⟩ := h19
          rw [h19]
          show ml _ _ _ (51, [(3, .int (i4_3 + 2)), (0, .ref m0), (1, .int x1), (2, .int i4_2)], [.int (FTx (tx sa ch x1) (sL sl x1) i4_2)], M) _
          refine ml_st (S' := (52, [(2, .int (FTx (tx sa ch x1) (sL sl x1) i4_2)), (3, .int (i4_3 + 2)), (0, .ref m0), (1, .int x1)], [], M)) rfl rfl rfl ?_
          refine ml_st (S' := (4, [(0, .ref m0), (1, .int x1), (2, .int (FTx (tx sa ch x1) (sL sl x1) i4_2)), (3, .int (i4_3 + 2))], [], M)) rfl rfl rfl ?_
          exact ih_4 (FTx (tx sa ch x1) (sL sl x1) i4_2) (i4_3 + 2) (by have := (hi_4.next c_12).1; omega) ((hi_4.next c_12).2)
        · have c_28 : ¬ ((tx sa ch x1 i4_2) = 74) := of_decide_eq_false c_28
          refine ml_blk 2 (S' := (35, [(4, .int (tx sa ch x1 i4_2)), (0, .ref m0), (1, .int x1), (2, .int i4_2), (3, .int i4_3)], [.int 68, .int (tx sa ch x1 i4_2), .int i4_3], M)) rfl ?_
          refine ml_if2 (S1 := (42, [(4, .int (tx sa ch x1 i4_2)), (0, .ref m0), (1, .int x1), (2, .int i4_2), (3, .int i4_3)], [.int i4_3], M)) (S2 := (38, [(0, .ref m0), (1, .int x1), (2, .int i4_2)], [.int i4_3], M)) rfl rfl rfl (fun c_35 => ?_) (fun c_35 => ?_)
          · have c_35 : ¬ (tx sa ch x1 i4_2) = 68 := of_decide_eq_true c_35
            refine ml_st (S' := (43, [(0, .ref m0), (1, .int x1), (2, .int i4_2)], [.int 1, .int i4_3], M)) rfl rfl rfl ?_
            refine ml_st (S' := (44, [(0, .ref m0), (1, .int x1), (2, .int i4_2)], [.int (i4_3 + 1)], M)) rfl rfl rfl ?_
            refine ml_st (S' := (45, [(3, .int (i4_3 + 1)), (0, .ref m0), (1, .int x1), (2, .int i4_2)], [], M)) rfl rfl rfl ?_
            refine ml_blk 3 (S' := (48, [(3, .int (i4_3 + 1)), (0, .ref m0), (1, .int x1), (2, .int i4_2)], [.int i4_2, .int x1, .ref m0], M)) rfl ?_
            refine ml_call (a := [.ref m0, .int x1, .int i4_2]) (rest := []) rfl (hR.okc rfl rfl rfl) rfl rfl (rm_fieldText hR hY (hs0) (hs1) (hb.1) (by omega) (by omega)) (fun v20 M21 h22 => ?_)
            obtain ⟨rfl, h22⟩ := h22
            rw [h22]
            show ml _ _ _ (51, [(3, .int (i4_3 + 1)), (0, .ref m0), (1, .int x1), (2, .int i4_2)], [.int (FTx (tx sa ch x1) (sL sl x1) i4_2)], M) _
            refine ml_st (S' := (52, [(2, .int (FTx (tx sa ch x1) (sL sl x1) i4_2)), (3, .int (i4_3 + 1)), (0, .ref m0), (1, .int x1)], [], M)) rfl rfl rfl ?_
            refine ml_st (S' := (4, [(0, .ref m0), (1, .int x1), (2, .int (FTx (tx sa ch x1) (sL sl x1) i4_2)), (3, .int (i4_3 + 1))], [], M)) rfl rfl rfl ?_
            exact ih_4 (FTx (tx sa ch x1) (sL sl x1) i4_2) (i4_3 + 1) (by have := (hi_4.next c_12).1; omega) ((hi_4.next c_12).2)
          · have c_35 : ¬ (¬ (tx sa ch x1 i4_2) = 68) := of_decide_eq_false c_35
            refine ml_st (S' := (39, [(0, .ref m0), (1, .int x1), (2, .int i4_2)], [.int 2, .int i4_3], M)) rfl rfl rfl ?_
            refine ml_st (S' := (43, [(0, .ref m0), (1, .int x1), (2, .int i4_2)], [.int 2, .int i4_3], M)) rfl rfl rfl ?_
            refine ml_st (S' := (44, [(0, .ref m0), (1, .int x1), (2, .int i4_2)], [.int (i4_3 + 2)], M)) rfl rfl rfl ?_
            refine ml_st (S' := (45, [(3, .int (i4_3 + 2)), (0, .ref m0), (1, .int x1), (2, .int i4_2)], [], M)) rfl rfl rfl ?_
            refine ml_blk 3 (S' := (48, [(3, .int (i4_3 + 2)), (0, .ref m0), (1, .int x1), (2, .int i4_2)], [.int i4_2, .int x1, .ref m0], M)) rfl ?_
            refine ml_call (a := [.ref m0, .int x1, .int i4_2]) (rest := []) rfl (hR.okc rfl rfl rfl) rfl rfl (rm_fieldText hR hY (hs0) (hs1) (hb.1) (by omega) (by omega)) (fun v23 M24 h25 => ?_)
            obtain ⟨rfl, h25⟩ := h25
            rw [h25]
            show ml _ _ _ (51, [(3, .int (i4_3 + 2)), (0, .ref m0), (1, .int x1), (2, .int i4_2)], [.int (FTx (tx sa ch x1) (sL sl x1) i4_2)], M) _
            refine ml_st (S' := (52, [(2, .int (FTx (tx sa ch x1) (sL sl x1) i4_2)), (3, .int (i4_3 + 2)), (0, .ref m0), (1, .int x1)], [], M)) rfl rfl rfl ?_
            refine ml_st (S' := (4, [(0, .ref m0), (1, .int x1), (2, .int (FTx (tx sa ch x1) (sL sl x1) i4_2)), (3, .int (i4_3 + 2))], [], M)) rfl rfl rfl ?_
            exact ih_4 (FTx (tx sa ch x1) (sL sl x1) i4_2) (i4_3 + 2) (by have := (hi_4.next c_12).1; omega) ((hi_4.next c_12).2)
  exact L_4 _ 1 0 (Nat.le_refl _) (hag)
set_option maxHeartbeats 2000000 in
theorem rm_isMethod {g : xe_G}  {m0 : Nat} {q : Nat → Nat} {z : Nat × Nat} {I : rI} {R : rR} {M : mi_H} {x1 : Int32} {S cN : Nat} {sa sl ch : Nat → Int32}  (hR : RS g m0 q z I R M) (hY : SK S cN sa sl ch I R) (hs0 : 0 ≤ x1.toInt) (hs1 : x1.toInt < S) {d : Nat} (hd : 5 ≤ d) : mt (mT g) d 218 [.ref m0, .int x1] M (fun v M' => (∃ x : Int32, v = some (.int x) ∧ (x = 0 ∨ x = 1) ∧ (x = 0 ∨ MTX sa sl ch x1)) ∧ M' = M) := by
  obtain ⟨d, rfl⟩ : ∃ e, d = e + 1 := ⟨d - 1, by omega⟩
  refine mt_in (b := mb_218 g) rfl rfl ?_
  show ml (mT g) d (mb_218 g).2 (0, [(0, .ref m0), (1, .int x1)], [], M) _
  have hsl := hY.s hs0 hs1
  have hsl0 : 0 ≤ (sL sl x1).toInt := hsl.2.2.2.1
  have hsl1 : (sL sl x1).toInt ≤ 66000 := by have h1 := hsl.2.2.1; have h2 := hsl.2.2.2.2.1; have h3 := hsl.2.2.2.2.2.1; show (sl _).toInt ≤ 66000; omega
  refine ml_blk 2 (S' := (2, [(0, .ref m0), (1, .int x1)], [.int x1, .ref m0], M)) rfl ?_
  refine ml_call (a := [.ref m0, .int x1]) (rest := []) rfl (hR.okc rfl rfl rfl) rfl rfl (rm_length hR hY (hs0) (hs1) (by omega)) (fun v11 M12 h13 => ?_)
  obtain ⟨rfl, h13⟩ := h13
  rw [h13]
  show ml _ _ _ (5, [(0, .ref m0), (1, .int x1)], [.int (sL sl x1)], M) _
  refine ml_st (S' := (6, [(2, .int (sL sl x1)), (0, .ref m0), (1, .int x1)], [], M)) rfl rfl rfl ?_
  refine ml_st (S' := (7, [(2, .int (sL sl x1)), (0, .ref m0), (1, .int x1)], [.int (sL sl x1)], M)) rfl rfl rfl ?_
  refine ml_if (S1 := (21, [], [], M)) (S2 := (10, [(2, .int (sL sl x1)), (0, .ref m0), (1, .int x1)], [], M)) rfl rfl rfl (fun c_7 => ?_) (fun c_7 => ?_)
  · have c_7 : (sL sl x1) = 0 := of_decide_eq_true c_7
    refine ml_st (S' := (22, [], [.int 0], M)) rfl rfl rfl ?_
    exact ml_ret rfl (r_z (Or.inl rfl)) (⟨⟨_, rfl, Or.inl rfl, Or.inl rfl⟩, rfl⟩)
  · have c_7 : ¬ ((sL sl x1) = 0) := of_decide_eq_false c_7
    refine ml_blk 3 (S' := (13, [(2, .int (sL sl x1)), (0, .ref m0), (1, .int x1)], [.int 0, .int x1, .ref m0], M)) rfl ?_
    refine ml_call (a := [.ref m0, .int x1, .int 0]) (rest := []) rfl (hR.okc rfl rfl rfl) rfl rfl (rm_at hR hY (hs0) (hs1) (by decide) (by have h7 : (sL sl x1).toInt ≠ 0 := (fun e => c_7 (Int32.toInt_inj.mp e)); have : (0 : Int32).toInt = 0 := rfl; omega) (by omega)) (fun v14 M15 h16 => ?_)
    obtain ⟨rfl, h16⟩ := h16
    rw [h16]
    show ml _ _ _ (16, [(2, .int (sL sl x1)), (0, .ref m0), (1, .int x1)], [.int (tx sa ch x1 0)], M) _
    refine ml_st (S' := (18, [(2, .int (sL sl x1)), (0, .ref m0), (1, .int x1)], [.int 40, .int (tx sa ch x1 0)], M)) rfl rfl rfl ?_
    refine ml_if2 (S1 := (23, [(2, .int (sL sl x1)), (0, .ref m0), (1, .int x1)], [], M)) (S2 := (21, [], [], M)) rfl rfl rfl (fun c_18 => ?_) (fun c_18 => ?_)
    · have c_18 : (tx sa ch x1 0) = 40 := of_decide_eq_true c_18
      refine ml_st (S' := (24, [(2, .int (sL sl x1)), (0, .ref m0), (1, .int x1)], [.int 1], M)) rfl rfl rfl ?_
      refine ml_st (S' := (25, [(0, .ref m0), (1, .int x1), (2, .int (sL sl x1)), (3, .int 1)], [], M)) rfl rfl rfl ?_
      have L_25 : ∀ (n_25 : Nat) (i25_3 : Int32), (2147483648 - i25_3.toInt).toNat ≤ n_25 → (1 ≤ i25_3.toInt ∧ i25_3.toInt ≤ (sL sl x1).toInt ∧ ∃ m, itr (AG1 (tx sa ch x1) (sL sl x1)) m 1 i25_3) → ml (mT g) d (mb_218 g).2 (25, [(0, .ref m0), (1, .int x1), (2, .int (sL sl x1)), (3, .int i25_3)], [], M) (fun v M' => (∃ x : Int32, v = some (.int x) ∧ (x = 0 ∨ x = 1) ∧ (x = 0 ∨ MTX sa sl ch x1)) ∧ M' = M) := by
        intro n_25
        induction n_25 with
        | zero => intro i25_3 hn; exact (loop_zero hn).elim
        | succ n_25 ih_25 =>
          intro i25_3 hn_25 hi_25
          obtain ⟨hk1, hkn, m9, hit⟩ := hi_25
          refine ml_blk 2 (S' := (27, [(0, .ref m0), (1, .int x1), (2, .int (sL sl x1)), (3, .int i25_3)], [.int (sL sl x1), .int i25_3], M)) rfl ?_
          have J_54 : ((sL sl x1) ≤ i25_3 ∨ (tx sa ch x1) i25_3 = 41) → ml (mT g) d (mb_218 g).2 (54, [(0, .ref m0), (1, .int x1), (2, .int (sL sl x1)), (3, .int i25_3)], [], M) (fun v M' => (∃ x : Int32, v = some (.int x) ∧ (x = 0 ∨ x = 1) ∧ (x = 0 ∨ MTX sa sl ch x1)) ∧ M' = M) := by
            intro hj_54
            refine ml_blk 2 (S' := (56, [(0, .ref m0), (1, .int x1), (2, .int (sL sl x1)), (3, .int i25_3)], [.int (sL sl x1), .int i25_3], M)) rfl ?_
            refine ml_if2 (S1 := (61, [(0, .ref m0), (1, .int x1), (2, .int (sL sl x1)), (3, .int i25_3)], [], M)) (S2 := (59, [(0, .ref m0), (1, .int x1), (2, .int (sL sl x1)), (3, .int i25_3)], [], M)) rfl rfl rfl (fun c_56 => ?_) (fun c_56 => ?_)
            · have c_56 : i25_3 < (sL sl x1) := of_decide_eq_true c_56
              have hk54 := hj_54.resolve_left (Int32.not_le.mpr c_56)
              have hlt := i_lt c_56
              have hk2 : (i25_3 + 1).toInt = i25_3.toInt + 1 := inc_lt c_56
              have hagw : AGW (tx sa ch x1) (sL sl x1) 1 := ⟨m9, i25_3, hit, by omega, hlt, hk54⟩
              refine ml_st (S' := (64, [(3, .int (i25_3 + 1)), (0, .ref m0), (1, .int x1), (2, .int (sL sl x1))], [], M)) rfl rfl rfl ?_
              refine ml_blk 3 (S' := (67, [(3, .int (i25_3 + 1)), (0, .ref m0), (1, .int x1), (2, .int (sL sl x1))], [.int ((i25_3 + 1) + 1)], M)) rfl ?_
              refine ml_st (S' := (68, [(3, .int (i25_3 + 1)), (0, .ref m0), (1, .int x1), (2, .int (sL sl x1))], [.int (sL sl x1), .int ((i25_3 + 1) + 1)], M)) rfl rfl rfl ?_
              have J_94 : (3 ≤ (sL sl x1).toInt) → ml (mT g) d (mb_218 g).2 (94, [(0, .ref m0), (1, .int x1)], [], M) (fun v M' => (∃ x : Int32, v = some (.int x) ∧ (x = 0 ∨ x = 1) ∧ (x = 0 ∨ MTX sa sl ch x1)) ∧ M' = M) := by
                intro hj_94
                refine ml_blk 2 (S' := (96, [(0, .ref m0), (1, .int x1)], [.int x1, .ref m0], M)) rfl ?_
                refine ml_call (a := [.ref m0, .int x1]) (rest := []) rfl (hR.okc rfl rfl rfl) rfl rfl (rm_places0 hR hY (hs0) (hs1) (hagw) (by omega)) (fun v17 M18 h19 => ?_)
                obtain ⟨⟨u20, rfl⟩, h19⟩ := h19
                rw [h19]
                show ml _ _ _ (99, [(0, .ref m0), (1, .int x1)], [.int u20], M) _
                refine ml_st (S' := (102, [(0, .ref m0), (1, .int x1)], [.int 255, .int u20], M)) rfl rfl rfl ?_
                refine ml_if2 (S1 := (109, [(0, .ref m0), (1, .int x1)], [], M)) (S2 := (105, [(0, .ref m0), (1, .int x1)], [], M)) rfl rfl rfl (fun c_102 => ?_) (fun c_102 => ?_)
                · have c_102 : 255 < u20 := of_decide_eq_true c_102
                  refine ml_st (S' := (110, [], [.int 0], M)) rfl rfl rfl ?_
                  exact ml_ret rfl (r_z (Or.inl rfl)) (⟨⟨_, rfl, Or.inl rfl, Or.inl rfl⟩, rfl⟩)
                · have c_102 : ¬ (255 < u20) := of_decide_eq_false c_102
                  refine ml_st (S' := (106, [(0, .ref m0), (1, .int x1)], [.int 1], M)) rfl rfl rfl ?_
                  refine ml_st (S' := (110, [], [.int 1], M)) rfl rfl rfl ?_
                  exact ml_ret rfl (r_z (Or.inr rfl)) (⟨⟨_, rfl, Or.inr rfl, Or.inr ⟨hagw, hj_94⟩⟩, rfl⟩)
              refine ml_if2 (S1 := (82, [(0, .ref m0), (1, .int x1), (2, .int (sL sl x1)), (3, .int (i25_3 + 1))], [], M)) (S2 := (71, [(3, .int (i25_3 + 1)), (0, .ref m0), (1, .int x1), (2, .int (sL sl x1))], [], M)) rfl rfl rfl (fun c_68 => ?_) (fun c_68 => ?_)
              · have c_68 : ¬ ((i25_3 + 1) + 1) = (sL sl x1) := of_decide_eq_true c_68
                refine ml_blk 3 (S' := (85, [(0, .ref m0), (1, .int x1), (2, .int (sL sl x1)), (3, .int (i25_3 + 1))], [.int (i25_3 + 1), .int x1, .ref m0], M)) rfl ?_
                refine ml_call (a := [.ref m0, .int x1, .int (i25_3 + 1)]) (rest := []) rfl (hR.okc rfl rfl rfl) rfl rfl (rm_fieldText hR hY (hs0) (hs1) (by omega) (by omega) (by omega)) (fun v21 M22 h23 => ?_)
                obtain ⟨rfl, h23⟩ := h23
                rw [h23]
                show ml _ _ _ (88, [(0, .ref m0), (1, .int x1), (2, .int (sL sl x1)), (3, .int (i25_3 + 1))], [.int (FTx (tx sa ch x1) (sL sl x1) (i25_3 + 1))], M) _
                refine ml_st (S' := (89, [(0, .ref m0), (1, .int x1), (2, .int (sL sl x1)), (3, .int (i25_3 + 1))], [.int (sL sl x1), .int (FTx (tx sa ch x1) (sL sl x1) (i25_3 + 1))], M)) rfl rfl rfl ?_
                refine ml_if2 (S1 := (94, [(0, .ref m0), (1, .int x1)], [], M)) (S2 := (92, [(0, .ref m0), (1, .int x1), (2, .int (sL sl x1)), (3, .int (i25_3 + 1))], [], M)) rfl rfl rfl (fun c_89 => ?_) (fun c_89 => ?_)
                · have c_89 : (FTx (tx sa ch x1) (sL sl x1) (i25_3 + 1)) = (sL sl x1) := of_decide_eq_true c_89
                  exact J_94  ((by have q := FTx_b (c := (tx sa ch x1)) (n := (sL sl x1)) (a := i25_3 + 1) (by omega) (by omega) (by omega); have e : FTx (tx sa ch x1) (sL sl x1) (i25_3 + 1) = (sL sl x1) := c_89; rw [e] at q; rcases q with q | q; (rw [q] at hsl0; exact absurd hsl0 (by decide)); omega))
                · have c_89 : ¬ ((FTx (tx sa ch x1) (sL sl x1) (i25_3 + 1)) = (sL sl x1)) := of_decide_eq_false c_89
                  refine ml_st (S' := (93, [(0, .ref m0), (1, .int x1), (2, .int (sL sl x1)), (3, .int (i25_3 + 1))], [.int 0], M)) rfl rfl rfl ?_
                  exact ml_ret rfl (r_z (Or.inl rfl)) (⟨⟨_, rfl, Or.inl rfl, Or.inl rfl⟩, rfl⟩)
              · have c_68 : ¬ (¬ ((i25_3 + 1) + 1) = (sL sl x1)) := of_decide_eq_false c_68
                refine ml_blk 3 (S' := (74, [(3, .int (i25_3 + 1)), (0, .ref m0), (1, .int x1), (2, .int (sL sl x1))], [.int (i25_3 + 1), .int x1, .ref m0], M)) rfl ?_
                refine ml_call (a := [.ref m0, .int x1, .int (i25_3 + 1)]) (rest := []) rfl (hR.okc rfl rfl rfl) rfl rfl (rm_at hR hY (hs0) (hs1) (by omega) (by have e : (i25_3 + 1 + 1).toInt = (sL sl x1).toInt := congrArg Int32.toInt (Decidable.not_not.mp c_68); rw [i_add (by have : (1 : Int32).toInt = 1 := rfl; omega) (by have : (1 : Int32).toInt = 1 := rfl; omega), hk2] at e; have : (1 : Int32).toInt = 1 := rfl; omega) (by omega)) (fun v24 M25 h26 => ?_)
                obtain ⟨rfl, h26⟩ := h26
                rw [h26]
                show ml _ _ _ (77, [(3, .int (i25_3 + 1)), (0, .ref m0), (1, .int x1), (2, .int (sL sl x1))], [.int (tx sa ch x1 (i25_3 + 1))], M) _
                refine ml_st (S' := (79, [(3, .int (i25_3 + 1)), (0, .ref m0), (1, .int x1), (2, .int (sL sl x1))], [.int 86, .int (tx sa ch x1 (i25_3 + 1))], M)) rfl rfl rfl ?_
                refine ml_if2 (S1 := (94, [(0, .ref m0), (1, .int x1)], [], M)) (S2 := (82, [(0, .ref m0), (1, .int x1), (2, .int (sL sl x1)), (3, .int (i25_3 + 1))], [], M)) rfl rfl rfl (fun c_79 => ?_) (fun c_79 => ?_)
                · have c_79 : (tx sa ch x1 (i25_3 + 1)) = 86 := of_decide_eq_true c_79
                  exact J_94  ((by have e : (i25_3 + 1 + 1).toInt = (sL sl x1).toInt := congrArg Int32.toInt (Decidable.not_not.mp c_68); rw [i_add (by have : (1 : Int32).toInt = 1 := rfl; omega) (by have : (1 : Int32).toInt = 1 := rfl; omega), hk2] at e; have : (1 : Int32).toInt = 1 := rfl; omega))
                · have c_79 : ¬ ((tx sa ch x1 (i25_3 + 1)) = 86) := of_decide_eq_false c_79
                  refine ml_blk 3 (S' := (85, [(0, .ref m0), (1, .int x1), (2, .int (sL sl x1)), (3, .int (i25_3 + 1))], [.int (i25_3 + 1), .int x1, .ref m0], M)) rfl ?_
                  refine ml_call (a := [.ref m0, .int x1, .int (i25_3 + 1)]) (rest := []) rfl (hR.okc rfl rfl rfl) rfl rfl (rm_fieldText hR hY (hs0) (hs1) (by omega) (by omega) (by omega)) (fun v27 M28 h29 => ?_)
                  obtain ⟨rfl, h29⟩ := h29
                  rw [h29]
                  show ml _ _ _ (88, [(0, .ref m0), (1, .int x1), (2, .int (sL sl x1)), (3, .int (i25_3 + 1))], [.int (FTx (tx sa ch x1) (sL sl x1) (i25_3 + 1))], M) _
                  refine ml_st (S' := (89, [(0, .ref m0), (1, .int x1), (2, .int (sL sl x1)), (3, .int (i25_3 + 1))], [.int (sL sl x1), .int (FTx (tx sa ch x1) (sL sl x1) (i25_3 + 1))], M)) rfl rfl rfl ?_
                  refine ml_if2 (S1 := (94, [(0, .ref m0), (1, .int x1)], [], M)) (S2 := (92, [(0, .ref m0), (1, .int x1), (2, .int (sL sl x1)), (3, .int (i25_3 + 1))], [], M)) rfl rfl rfl (fun c_89 => ?_) (fun c_89 => ?_)
                  · have c_89 : (FTx (tx sa ch x1) (sL sl x1) (i25_3 + 1)) = (sL sl x1) := of_decide_eq_true c_89
                    exact J_94  ((by have q := FTx_b (c := (tx sa ch x1)) (n := (sL sl x1)) (a := i25_3 + 1) (by omega) (by omega) (by omega); have e : FTx (tx sa ch x1) (sL sl x1) (i25_3 + 1) = (sL sl x1) := c_89; rw [e] at q; rcases q with q | q; (rw [q] at hsl0; exact absurd hsl0 (by decide)); omega))
                  · have c_89 : ¬ ((FTx (tx sa ch x1) (sL sl x1) (i25_3 + 1)) = (sL sl x1)) := of_decide_eq_false c_89
                    refine ml_st (S' := (93, [(0, .ref m0), (1, .int x1), (2, .int (sL sl x1)), (3, .int (i25_3 + 1))], [.int 0], M)) rfl rfl rfl ?_
                    exact ml_ret rfl (r_z (Or.inl rfl)) (⟨⟨_, rfl, Or.inl rfl, Or.inl rfl⟩, rfl⟩)
            · have c_56 : ¬ (i25_3 < (sL sl x1)) := of_decide_eq_false c_56
              refine ml_st (S' := (60, [(0, .ref m0), (1, .int x1), (2, .int (sL sl x1)), (3, .int i25_3)], [.int 0], M)) rfl rfl rfl ?_
              exact ml_ret rfl (r_z (Or.inl rfl)) (⟨⟨_, rfl, Or.inl rfl, Or.inl rfl⟩, rfl⟩)
          refine ml_if2 (S1 := (54, [(0, .ref m0), (1, .int x1), (2, .int (sL sl x1)), (3, .int i25_3)], [], M)) (S2 := (30, [(0, .ref m0), (1, .int x1), (2, .int (sL sl x1)), (3, .int i25_3)], [], M)) rfl rfl rfl (fun c_27 => ?_) (fun c_27 => ?_)
          · have c_27 : (sL sl x1) ≤ i25_3 := of_decide_eq_true c_27
            exact J_54  (Or.inl c_27)
          · have c_27 : ¬ ((sL sl x1) ≤ i25_3) := of_decide_eq_false c_27
            refine ml_blk 3 (S' := (33, [(0, .ref m0), (1, .int x1), (2, .int (sL sl x1)), (3, .int i25_3)], [.int i25_3, .int x1, .ref m0], M)) rfl ?_
            refine ml_call (a := [.ref m0, .int x1, .int i25_3]) (rest := []) rfl (hR.okc rfl rfl rfl) rfl rfl (rm_at hR hY (hs0) (hs1) (by omega) (i_nle c_27) (by omega)) (fun v30 M31 h32 => ?_)
            obtain ⟨rfl, h32⟩ := h32
            rw [h32]
            show ml _ _ _ (36, [(0, .ref m0), (1, .int x1), (2, .int (sL sl x1)), (3, .int i25_3)], [.int (tx sa ch x1 i25_3)], M) _
            refine ml_st (S' := (38, [(0, .ref m0), (1, .int x1), (2, .int (sL sl x1)), (3, .int i25_3)], [.int 41, .int (tx sa ch x1 i25_3)], M)) rfl rfl rfl ?_
            refine ml_if2 (S1 := (54, [(0, .ref m0), (1, .int x1), (2, .int (sL sl x1)), (3, .int i25_3)], [], M)) (S2 := (41, [(0, .ref m0), (1, .int x1), (2, .int (sL sl x1)), (3, .int i25_3)], [], M)) rfl rfl rfl (fun c_38 => ?_) (fun c_38 => ?_)
            · have c_38 : (tx sa ch x1 i25_3) = 41 := of_decide_eq_true c_38
              exact J_54  (Or.inr c_38)
            · have c_38 : ¬ ((tx sa ch x1 i25_3) = 41) := of_decide_eq_false c_38
              refine ml_blk 3 (S' := (44, [(0, .ref m0), (1, .int x1), (2, .int (sL sl x1)), (3, .int i25_3)], [.int i25_3, .int x1, .ref m0], M)) rfl ?_
              refine ml_call (a := [.ref m0, .int x1, .int i25_3]) (rest := []) rfl (hR.okc rfl rfl rfl) rfl rfl (rm_fieldText hR hY (hs0) (hs1) (by omega) (hkn) (by omega)) (fun v33 M34 h35 => ?_)
              obtain ⟨rfl, h35⟩ := h35
              rw [h35]
              show ml _ _ _ (47, [(0, .ref m0), (1, .int x1), (2, .int (sL sl x1)), (3, .int i25_3)], [.int (FTx (tx sa ch x1) (sL sl x1) i25_3)], M) _
              refine ml_st (S' := (48, [(3, .int (FTx (tx sa ch x1) (sL sl x1) i25_3)), (0, .ref m0), (1, .int x1), (2, .int (sL sl x1))], [], M)) rfl rfl rfl ?_
              refine ml_st (S' := (49, [(3, .int (FTx (tx sa ch x1) (sL sl x1) i25_3)), (0, .ref m0), (1, .int x1), (2, .int (sL sl x1))], [.int (FTx (tx sa ch x1) (sL sl x1) i25_3)], M)) rfl rfl rfl ?_
              refine ml_if (S1 := (25, [(0, .ref m0), (1, .int x1), (2, .int (sL sl x1)), (3, .int (FTx (tx sa ch x1) (sL sl x1) i25_3))], [], M)) (S2 := (52, [(3, .int (FTx (tx sa ch x1) (sL sl x1) i25_3)), (0, .ref m0), (1, .int x1), (2, .int (sL sl x1))], [], M)) rfl rfl rfl (fun c_49 => ?_) (fun c_49 => ?_)
              · have c_49 : 0 ≤ (FTx (tx sa ch x1) (sL sl x1) i25_3) := of_decide_eq_true c_49
                have hft := (FTx_b (c := (tx sa ch x1)) (n := (sL sl x1)) (a := i25_3) (by omega) hkn (by omega)).resolve_left (fun e => absurd (e ▸ c_49 : (0 : Int32) ≤ -1) (by decide))
                exact ih_25 (FTx (tx sa ch x1) (sL sl x1) i25_3) (by have := hft.1; omega) (⟨by omega, hft.2, m9 + 1, i25_3, hit, by omega, i_nle c_27, c_38, rfl, hft.1, hft.2⟩)
              · have c_49 : ¬ (0 ≤ (FTx (tx sa ch x1) (sL sl x1) i25_3)) := of_decide_eq_false c_49
                refine ml_st (S' := (53, [(3, .int (FTx (tx sa ch x1) (sL sl x1) i25_3)), (0, .ref m0), (1, .int x1), (2, .int (sL sl x1))], [.int 0], M)) rfl rfl rfl ?_
                exact ml_ret rfl (r_z (Or.inl rfl)) (⟨⟨_, rfl, Or.inl rfl, Or.inl rfl⟩, rfl⟩)
      exact L_25 _ 1 (Nat.le_refl _) (⟨by decide, by have h7 : (sL sl x1).toInt ≠ 0 := (fun e => c_7 (Int32.toInt_inj.mp e)); show (1 : Int) ≤ _; omega, 0, rfl⟩)
    · have c_18 : ¬ ((tx sa ch x1 0) = 40) := of_decide_eq_false c_18
      refine ml_st (S' := (22, [], [.int 0], M)) rfl rfl rfl ?_
      exact ml_ret rfl (r_z (Or.inl rfl)) (⟨⟨_, rfl, Or.inl rfl, Or.inl rfl⟩, rfl⟩)
set_option maxHeartbeats 2000000 in
theorem rm_endsV {g : xe_G}  {m0 : Nat} {q : Nat → Nat} {z : Nat × Nat} {I : rI} {R : rR} {M : mi_H} {x1 : Int32} {S cN : Nat} {sa sl ch : Nat → Int32}  (hR : RS g m0 q z I R M) (hY : SK S cN sa sl ch I R) (hs0 : 0 ≤ x1.toInt) (hs1 : x1.toInt < S) (h2 : 2 ≤ (sL sl x1).toInt) {d : Nat} (hd : 2 ≤ d) : mt (mT g) d 203 [.ref m0, .int x1] M (fun v M' => (∃ x : Int32, v = some (.int x) ∧ (x = 0 ∨ x = 1)) ∧ M' = M) := by
  obtain ⟨d, rfl⟩ : ∃ e, d = e + 1 := ⟨d - 1, by omega⟩
  refine mt_in (b := mb_203 g) rfl rfl ?_
  show ml (mT g) d (mb_203 g).2 (0, [(0, .ref m0), (1, .int x1)], [], M) _
  have hsl := hY.s hs0 hs1
  have hsl0 : 0 ≤ (sL sl x1).toInt := hsl.2.2.2.1
  have hsl1 : (sL sl x1).toInt ≤ 66000 := by have h1 := hsl.2.2.1; have h2 := hsl.2.2.2.2.1; have h3 := hsl.2.2.2.2.2.1; show (sl _).toInt ≤ 66000; omega
  have v1 : ((sL sl x1) - 1).toInt = (sL sl x1).toInt - 1 := i_sub (by have : (1 : Int32).toInt = 1 := rfl; omega) (by have : (1 : Int32).toInt = 1 := rfl; omega)
  have v2 : ((sL sl x1) - 2).toInt = (sL sl x1).toInt - 2 := i_sub (by have : (2 : Int32).toInt = 2 := rfl; omega) (by have : (2 : Int32).toInt = 2 := rfl; omega)
  refine ml_blk 3 (S' := (3, [(0, .ref m0), (1, .int x1)], [.ref m0, .int x1, .ref m0], M)) rfl ?_
  refine ml_st (S' := (4, [(0, .ref m0), (1, .int x1)], [.int x1, .ref m0, .int x1, .ref m0], M)) rfl rfl rfl ?_
  refine ml_call (a := [.ref m0, .int x1]) (rest := [.int x1, .ref m0]) rfl (hR.okc rfl rfl rfl) rfl rfl (rm_length hR hY (hs0) (hs1) (by omega)) (fun v11 M12 h13 => ?_)
  obtain ⟨rfl, h13⟩ := h13
  rw [h13]
  show ml _ _ _ (7, [(0, .ref m0), (1, .int x1)], [.int (sL sl x1), .int x1, .ref m0], M) _
  refine ml_blk 2 (S' := (9, [(0, .ref m0), (1, .int x1)], [.int ((sL sl x1) - 1), .int x1, .ref m0], M)) rfl ?_
  refine ml_call (a := [.ref m0, .int x1, .int ((sL sl x1) - 1)]) (rest := []) rfl (hR.okc rfl rfl rfl) rfl rfl (rm_at hR hY (hs0) (hs1) (by omega) (by omega) (by omega)) (fun v14 M15 h16 => ?_)
  obtain ⟨rfl, h16⟩ := h16
  rw [h16]
  show ml _ _ _ (12, [(0, .ref m0), (1, .int x1)], [.int (tx sa ch x1 ((sL sl x1) - 1))], M) _
  refine ml_st (S' := (14, [(0, .ref m0), (1, .int x1)], [.int 86, .int (tx sa ch x1 ((sL sl x1) - 1))], M)) rfl rfl rfl ?_
  refine ml_if2 (S1 := (38, [], [], M)) (S2 := (17, [(0, .ref m0), (1, .int x1)], [], M)) rfl rfl rfl (fun c_14 => ?_) (fun c_14 => ?_)
  · have c_14 : ¬ (tx sa ch x1 ((sL sl x1) - 1)) = 86 := of_decide_eq_true c_14
    refine ml_st (S' := (39, [], [.int 0], M)) rfl rfl rfl ?_
    exact ml_ret rfl (r_z (Or.inl rfl)) (⟨⟨_, rfl, Or.inl rfl⟩, rfl⟩)
  · have c_14 : ¬ (¬ (tx sa ch x1 ((sL sl x1) - 1)) = 86) := of_decide_eq_false c_14
    refine ml_blk 3 (S' := (20, [(0, .ref m0), (1, .int x1)], [.ref m0, .int x1, .ref m0], M)) rfl ?_
    refine ml_st (S' := (21, [(0, .ref m0), (1, .int x1)], [.int x1, .ref m0, .int x1, .ref m0], M)) rfl rfl rfl ?_
    refine ml_call (a := [.ref m0, .int x1]) (rest := [.int x1, .ref m0]) rfl (hR.okc rfl rfl rfl) rfl rfl (rm_length hR hY (hs0) (hs1) (by omega)) (fun v17 M18 h19 => ?_)
    obtain ⟨rfl, h19⟩ := h19
    rw [h19]
    show ml _ _ _ (24, [(0, .ref m0), (1, .int x1)], [.int (sL sl x1), .int x1, .ref m0], M) _
    refine ml_blk 2 (S' := (26, [(0, .ref m0), (1, .int x1)], [.int ((sL sl x1) - 2), .int x1, .ref m0], M)) rfl ?_
    refine ml_call (a := [.ref m0, .int x1, .int ((sL sl x1) - 2)]) (rest := []) rfl (hR.okc rfl rfl rfl) rfl rfl (rm_at hR hY (hs0) (hs1) (by omega) (by omega) (by omega)) (fun v20 M21 h22 => ?_)
    obtain ⟨rfl, h22⟩ := h22
    rw [h22]
    show ml _ _ _ (29, [(0, .ref m0), (1, .int x1)], [.int (tx sa ch x1 ((sL sl x1) - 2))], M) _
    refine ml_st (S' := (31, [(0, .ref m0), (1, .int x1)], [.int 41, .int (tx sa ch x1 ((sL sl x1) - 2))], M)) rfl rfl rfl ?_
    refine ml_if2 (S1 := (38, [], [], M)) (S2 := (34, [(0, .ref m0), (1, .int x1)], [], M)) rfl rfl rfl (fun c_31 => ?_) (fun c_31 => ?_)
    · have c_31 : ¬ (tx sa ch x1 ((sL sl x1) - 2)) = 41 := of_decide_eq_true c_31
      refine ml_st (S' := (39, [], [.int 0], M)) rfl rfl rfl ?_
      exact ml_ret rfl (r_z (Or.inl rfl)) (⟨⟨_, rfl, Or.inl rfl⟩, rfl⟩)
    · have c_31 : ¬ (¬ (tx sa ch x1 ((sL sl x1) - 2)) = 41) := of_decide_eq_false c_31
      refine ml_st (S' := (35, [(0, .ref m0), (1, .int x1)], [.int 1], M)) rfl rfl rfl ?_
      refine ml_st (S' := (39, [], [.int 1], M)) rfl rfl rfl ?_
      exact ml_ret rfl (r_z (Or.inr rfl)) (⟨⟨_, rfl, Or.inr rfl⟩, rfl⟩)
theorem ct_pos {c : Int32 → Int32} {N : Int32} (h : 0 ≤ N.toInt) : ntv c 0 N = 0 ∨ 0 < N.toInt := by
  by_cases e : N.toInt = 0
  · left
    have : N = 0 := Int32.toInt_inj.mp e
    rw [this]
    exact ntv_0
  · right
    omega

set_option maxHeartbeats 2000000 in
theorem rm_classText {g : xe_G}  {m0 : Nat} {q : Nat → Nat} {z : Nat × Nat} {I : rI} {R : rR} {M : mi_H} {x1 : Int32} {S cN : Nat} {sa sl ch : Nat → Int32}  (hR : RS g m0 q z I R M) (hY : SK S cN sa sl ch I R) (hs0 : 0 ≤ x1.toInt) (hs1 : x1.toInt < S) {d : Nat} (hd : 4 ≤ d) : mt (mT g) d 194 [.ref m0, .int x1] M (fun v M' => (∃ x : Int32, v = some (.int x) ∧ (x = 0 ∨ x = 1) ∧ (x = 0 ∨ 0 < (sL sl x1).toInt)) ∧ M' = M) := by
  obtain ⟨d, rfl⟩ : ∃ e, d = e + 1 := ⟨d - 1, by omega⟩
  refine mt_in (b := mb_194 g) rfl rfl ?_
  show ml (mT g) d (mb_194 g).2 (0, [(0, .ref m0), (1, .int x1)], [], M) _
  have hsl := hY.s hs0 hs1
  have hsl0 : 0 ≤ (sL sl x1).toInt := hsl.2.2.2.1
  have hsl1 : (sL sl x1).toInt ≤ 66000 := by have h1 := hsl.2.2.1; have h2 := hsl.2.2.2.2.1; have h3 := hsl.2.2.2.2.2.1; show (sl _).toInt ≤ 66000; omega
  refine ml_blk 2 (S' := (2, [(0, .ref m0), (1, .int x1)], [.int x1, .ref m0], M)) rfl ?_
  refine ml_call (a := [.ref m0, .int x1]) (rest := []) rfl (hR.okc rfl rfl rfl) rfl rfl (rm_length hR hY (hs0) (hs1) (by omega)) (fun v11 M12 h13 => ?_)
  obtain ⟨rfl, h13⟩ := h13
  rw [h13]
  show ml _ _ _ (5, [(0, .ref m0), (1, .int x1)], [.int (sL sl x1)], M) _
  refine ml_if (S1 := (41, [(0, .ref m0), (1, .int x1)], [], M)) (S2 := (8, [(0, .ref m0), (1, .int x1)], [], M)) rfl rfl rfl (fun c_5 => ?_) (fun c_5 => ?_)
  · have c_5 : (sL sl x1) ≤ 0 := of_decide_eq_true c_5
    refine ml_blk 3 (S' := (44, [(0, .ref m0), (1, .int x1)], [.int 0, .int x1, .ref m0], M)) rfl ?_
    refine ml_blk 2 (S' := (46, [(0, .ref m0), (1, .int x1)], [.int x1, .ref m0, .int 0, .int x1, .ref m0], M)) rfl ?_
    refine ml_call (a := [.ref m0, .int x1]) (rest := [.int 0, .int x1, .ref m0]) rfl (hR.okc rfl rfl rfl) rfl rfl (rm_length hR hY (hs0) (hs1) (by omega)) (fun v14 M15 h16 => ?_)
    obtain ⟨rfl, h16⟩ := h16
    rw [h16]
    show ml _ _ _ (49, [(0, .ref m0), (1, .int x1)], [.int (sL sl x1), .int 0, .int x1, .ref m0], M) _
    refine ml_call (a := [.ref m0, .int x1, .int 0, .int (sL sl x1)]) (rest := []) rfl (hR.okc rfl rfl rfl) rfl rfl (rm_nameText hR hY (hs0) (hs1) (by decide) (by have : (0 : Int32).toInt = 0 := rfl; omega) (Int.le_refl _) (by omega)) (fun v17 M18 h19 => ?_)
    obtain ⟨rfl, h19⟩ := h19
    rw [h19]
    show ml _ _ _ (52, [], [.int (ntv (tx sa ch x1) 0 (sL sl x1))], M) _
    exact ml_ret rfl (r_z (ntx_01)) (⟨⟨_, rfl, ntx_01, ct_pos hsl0⟩, rfl⟩)
  · have c_5 : ¬ ((sL sl x1) ≤ 0) := of_decide_eq_false c_5
    refine ml_blk 3 (S' := (11, [(0, .ref m0), (1, .int x1)], [.int 0, .int x1, .ref m0], M)) rfl ?_
    refine ml_call (a := [.ref m0, .int x1, .int 0]) (rest := []) rfl (hR.okc rfl rfl rfl) rfl rfl (rm_at hR hY (hs0) (hs1) (by decide) (by have q := i_nle c_5; exact q) (by omega)) (fun v20 M21 h22 => ?_)
    obtain ⟨rfl, h22⟩ := h22
    rw [h22]
    show ml _ _ _ (14, [(0, .ref m0), (1, .int x1)], [.int (tx sa ch x1 0)], M) _
    refine ml_st (S' := (16, [(0, .ref m0), (1, .int x1)], [.int 91, .int (tx sa ch x1 0)], M)) rfl rfl rfl ?_
    refine ml_if2 (S1 := (41, [(0, .ref m0), (1, .int x1)], [], M)) (S2 := (19, [(0, .ref m0), (1, .int x1)], [], M)) rfl rfl rfl (fun c_16 => ?_) (fun c_16 => ?_)
    · have c_16 : ¬ (tx sa ch x1 0) = 91 := of_decide_eq_true c_16
      refine ml_blk 3 (S' := (44, [(0, .ref m0), (1, .int x1)], [.int 0, .int x1, .ref m0], M)) rfl ?_
      refine ml_blk 2 (S' := (46, [(0, .ref m0), (1, .int x1)], [.int x1, .ref m0, .int 0, .int x1, .ref m0], M)) rfl ?_
      refine ml_call (a := [.ref m0, .int x1]) (rest := [.int 0, .int x1, .ref m0]) rfl (hR.okc rfl rfl rfl) rfl rfl (rm_length hR hY (hs0) (hs1) (by omega)) (fun v23 M24 h25 => ?_)
      obtain ⟨rfl, h25⟩ := h25
      rw [h25]
      show ml _ _ _ (49, [(0, .ref m0), (1, .int x1)], [.int (sL sl x1), .int 0, .int x1, .ref m0], M) _
      refine ml_call (a := [.ref m0, .int x1, .int 0, .int (sL sl x1)]) (rest := []) rfl (hR.okc rfl rfl rfl) rfl rfl (rm_nameText hR hY (hs0) (hs1) (by decide) (by have : (0 : Int32).toInt = 0 := rfl; omega) (Int.le_refl _) (by omega)) (fun v26 M27 h28 => ?_)
      obtain ⟨rfl, h28⟩ := h28
      rw [h28]
      show ml _ _ _ (52, [], [.int (ntv (tx sa ch x1) 0 (sL sl x1))], M) _
      exact ml_ret rfl (r_z (ntx_01)) (⟨⟨_, rfl, ntx_01, ct_pos hsl0⟩, rfl⟩)
    · have c_16 : ¬ (¬ (tx sa ch x1 0) = 91) := of_decide_eq_false c_16
      refine ml_blk 3 (S' := (22, [(0, .ref m0), (1, .int x1)], [.int 0, .int x1, .ref m0], M)) rfl ?_
      refine ml_call (a := [.ref m0, .int x1, .int 0]) (rest := []) rfl (hR.okc rfl rfl rfl) rfl rfl (rm_fieldText hR hY (hs0) (hs1) (by decide) (by have : (0 : Int32).toInt = 0 := rfl; omega) (by omega)) (fun v29 M30 h31 => ?_)
      obtain ⟨rfl, h31⟩ := h31
      rw [h31]
      show ml _ _ _ (25, [(0, .ref m0), (1, .int x1)], [.int (FTx (tx sa ch x1) (sL sl x1) 0)], M) _
      refine ml_blk 2 (S' := (27, [(0, .ref m0), (1, .int x1)], [.int x1, .ref m0, .int (FTx (tx sa ch x1) (sL sl x1) 0)], M)) rfl ?_
      refine ml_call (a := [.ref m0, .int x1]) (rest := [.int (FTx (tx sa ch x1) (sL sl x1) 0)]) rfl (hR.okc rfl rfl rfl) rfl rfl (rm_length hR hY (hs0) (hs1) (by omega)) (fun v32 M33 h34 => ?_)
      obtain ⟨rfl, h34⟩ := h34
      rw [h34]
      show ml _ _ _ (30, [(0, .ref m0), (1, .int x1)], [.int (sL sl x1), .int (FTx (tx sa ch x1) (sL sl x1) 0)], M) _
      refine ml_if2 (S1 := (37, [(0, .ref m0), (1, .int x1)], [], M)) (S2 := (33, [(0, .ref m0), (1, .int x1)], [], M)) rfl rfl rfl (fun c_30 => ?_) (fun c_30 => ?_)
      · have c_30 : ¬ (FTx (tx sa ch x1) (sL sl x1) 0) = (sL sl x1) := of_decide_eq_true c_30
        refine ml_st (S' := (38, [(0, .ref m0), (1, .int x1)], [.int 0], M)) rfl rfl rfl ?_
        refine ml_st (S' := (52, [], [.int 0], M)) rfl rfl rfl ?_
        exact ml_ret rfl (r_z (Or.inl rfl)) (⟨⟨_, rfl, Or.inl rfl, Or.inl rfl⟩, rfl⟩)
      · have c_30 : ¬ (¬ (FTx (tx sa ch x1) (sL sl x1) 0) = (sL sl x1)) := of_decide_eq_false c_30
        refine ml_st (S' := (34, [(0, .ref m0), (1, .int x1)], [.int 1], M)) rfl rfl rfl ?_
        refine ml_st (S' := (52, [], [.int 1], M)) rfl rfl rfl ?_
        exact ml_ret rfl (r_z (Or.inr rfl)) (⟨⟨_, rfl, Or.inr rfl, Or.inr (by have q := i_nle c_5; have : (0 : Int32).toInt = 0 := rfl; omega)⟩, rfl⟩)
set_option maxHeartbeats 2000000 in
theorem rm_wide {g : xe_G}  {m0 : Nat} {q : Nat → Nat} {z : Nat × Nat} {I : rI} {R : rR} {M : mi_H} {x1 x2 : Int32} {S cN : Nat} {sa sl ch : Nat → Int32}  (hR : RS g m0 q z I R M) (hY : SK S cN sa sl ch I R) (hs0 : 0 ≤ x1.toInt) (hs1 : x1.toInt < S) (hk0 : 0 ≤ x2.toInt) (hk1 : x2.toInt < (sL sl x1).toInt) {d : Nat} (hd : 2 ≤ d) : mt (mT g) d 256 [.ref m0, .int x1, .int x2] M (fun v M' => (∃ x : Int32, v = some (.int x) ∧ (x = 0 ∨ x = 1)) ∧ M' = M) := by
  obtain ⟨d, rfl⟩ : ∃ e, d = e + 1 := ⟨d - 1, by omega⟩
  refine mt_in (b := mb_256 g) rfl rfl ?_
  show ml (mT g) d (mb_256 g).2 (0, [(0, .ref m0), (1, .int x1), (2, .int x2)], [], M) _
  refine ml_blk 3 (S' := (3, [(0, .ref m0), (1, .int x1), (2, .int x2)], [.int x2, .int x1, .ref m0], M)) rfl ?_
  refine ml_call (a := [.ref m0, .int x1, .int x2]) (rest := []) rfl (hR.okc rfl rfl rfl) rfl rfl (rm_at hR hY (hs0) (hs1) (hk0) (hk1) (by omega)) (fun v11 M12 h13 => ?_)
  obtain ⟨rfl, h13⟩ := h13
  rw [h13]
  show ml _ _ _ (6, [(0, .ref m0), (1, .int x1), (2, .int x2)], [.int (tx sa ch x1 x2)], M) _
  refine ml_st (S' := (8, [(0, .ref m0), (1, .int x1), (2, .int x2)], [.int 74, .int (tx sa ch x1 x2)], M)) rfl rfl rfl ?_
  refine ml_if2 (S1 := (22, [], [], M)) (S2 := (11, [(0, .ref m0), (1, .int x1), (2, .int x2)], [], M)) rfl rfl rfl (fun c_8 => ?_) (fun c_8 => ?_)
  · have c_8 : (tx sa ch x1 x2) = 74 := of_decide_eq_true c_8
    refine ml_st (S' := (23, [], [.int 1], M)) rfl rfl rfl ?_
    refine ml_st (S' := (27, [], [.int 1], M)) rfl rfl rfl ?_
    exact ml_ret rfl (r_z (Or.inr rfl)) (⟨⟨_, rfl, Or.inr rfl⟩, rfl⟩)
  · have c_8 : ¬ ((tx sa ch x1 x2) = 74) := of_decide_eq_false c_8
    refine ml_blk 3 (S' := (14, [(0, .ref m0), (1, .int x1), (2, .int x2)], [.int x2, .int x1, .ref m0], M)) rfl ?_
    refine ml_call (a := [.ref m0, .int x1, .int x2]) (rest := []) rfl (hR.okc rfl rfl rfl) rfl rfl (rm_at hR hY (hs0) (hs1) (hk0) (hk1) (by omega)) (fun v14 M15 h16 => ?_)
    obtain ⟨rfl, h16⟩ := h16
    rw [h16]
    show ml _ _ _ (17, [(0, .ref m0), (1, .int x1), (2, .int x2)], [.int (tx sa ch x1 x2)], M) _
    refine ml_st (S' := (19, [(0, .ref m0), (1, .int x1), (2, .int x2)], [.int 68, .int (tx sa ch x1 x2)], M)) rfl rfl rfl ?_
    refine ml_if2 (S1 := (26, [(0, .ref m0), (1, .int x1), (2, .int x2)], [], M)) (S2 := (22, [], [], M)) rfl rfl rfl (fun c_19 => ?_) (fun c_19 => ?_)
    · have c_19 : ¬ (tx sa ch x1 x2) = 68 := of_decide_eq_true c_19
      refine ml_st (S' := (27, [], [.int 0], M)) rfl rfl rfl ?_
      exact ml_ret rfl (r_z (Or.inl rfl)) (⟨⟨_, rfl, Or.inl rfl⟩, rfl⟩)
    · have c_19 : ¬ (¬ (tx sa ch x1 x2) = 68) := of_decide_eq_false c_19
      refine ml_st (S' := (23, [], [.int 1], M)) rfl rfl rfl ?_
      refine ml_st (S' := (27, [], [.int 1], M)) rfl rfl rfl ?_
      exact ml_ret rfl (r_z (Or.inr rfl)) (⟨⟨_, rfl, Or.inr rfl⟩, rfl⟩)
set_option maxHeartbeats 2000000 in
theorem rm_indexes0 {g : xe_G}  {m0 : Nat} {q : Nat → Nat} {z : Nat × Nat} {I : rI} {R : rR} {M : mi_H} {x1 x2 x3 : Int32} {n : Nat} {f : Nat → Int32} {S : Nat} {cp mj : Int32} {pa py : Nat → Int32}  (hR : RS g m0 q z I R M) (hF : FK n f I R) (hP : PK n f S cp mj pa py I R) (ht : tgf f cp pa x1 = x2) (hl : x2 = 7 ∨ x2 = 12) {d : Nat} (hd : 4 ≤ d) : mt (mT g) d 214 [.ref m0, .int x1, .int x2, .int x3] M (fun v M' => (∃ x : Int32, v = some (.int x) ∧ (x = 0 ∨ x = 1) ∧ (x = 0 ∨ IXP f cp pa x1 x2)) ∧ M' = M) := by
  obtain ⟨d, rfl⟩ : ∃ e, d = e + 1 := ⟨d - 1, by omega⟩
  refine mt_in (b := mb_214 g) rfl rfl ?_
  show ml (mT g) d (mb_214 g).2 (0, [(0, .ref m0), (1, .int x1), (2, .int x2), (3, .int x3)], [], M) _
  refine ml_blk 2 (S' := (3, [(0, .ref m0), (1, .int x1), (2, .int x2), (3, .int x3)], [.int 7, .int x2], M)) rfl ?_
  have J_30 : t7 x2 → ml (mT g) d (mb_214 g).2 (30, [(0, .ref m0), (1, .int x1)], [], M) (fun v M' => (∃ x : Int32, v = some (.int x) ∧ (x = 0 ∨ x = 1) ∧ (x = 0 ∨ IXP f cp pa x1 x2)) ∧ M' = M) := by
    intro hj_30
    refine ml_blk 3 (S' := (33, [(0, .ref m0), (1, .int x1)], [.int x1, .ref m0, .ref m0], M)) rfl ?_
    refine ml_st (S' := (34, [(0, .ref m0), (1, .int x1)], [.int 1, .int x1, .ref m0, .ref m0], M)) rfl rfl rfl ?_
    refine ml_call (a := [.ref m0, .int x1, .int 1]) (rest := [.ref m0]) rfl (hR.okc rfl rfl rfl) rfl rfl (rm_index hR hF hP ((hP.tg ht (t7_ne hj_30)).1) ((hP.tg ht (t7_ne hj_30)).2.1) ((hP.tg ht (t7_ne hj_30)).2.2.1) (by decide) (by have q := (hP.tg ht (t7_ne hj_30)).2.2.2.2; rw [show esz _ = 3 from esz_7 hj_30] at q; have : (1 : Int32).toInt = 1 := rfl; omega) (by omega)) (fun v11 M12 h13 => ?_)
    obtain ⟨rfl, h13⟩ := h13
    rw [h13]
    show ml _ _ _ (37, [(0, .ref m0), (1, .int x1)], [.int (ixf f pa x1 1), .ref m0], M) _
    refine ml_call (a := [.ref m0, .int (ixf f pa x1 1)]) (rest := []) rfl (hR.okc rfl rfl rfl) rfl rfl (rm_tag hR hF hP (by omega)) (fun v14 M15 h16 => ?_)
    obtain ⟨rfl, h16⟩ := h16
    rw [h16]
    show ml _ _ _ (40, [(0, .ref m0), (1, .int x1)], [.int (tgf f cp pa (ixf f pa x1 1))], M) _
    refine ml_st (S' := (41, [(0, .ref m0), (1, .int x1)], [.int 1, .int (tgf f cp pa (ixf f pa x1 1))], M)) rfl rfl rfl ?_
    refine ml_if2 (S1 := (48, [(0, .ref m0), (1, .int x1)], [], M)) (S2 := (44, [(0, .ref m0), (1, .int x1)], [], M)) rfl rfl rfl (fun c_41 => ?_) (fun c_41 => ?_)
    · have c_41 : ¬ (tgf f cp pa (ixf f pa x1 1)) = 1 := of_decide_eq_true c_41
      refine ml_st (S' := (49, [], [.int 0], M)) rfl rfl rfl ?_
      exact ml_ret rfl (r_z (Or.inl rfl)) (⟨⟨_, rfl, Or.inl rfl, Or.inl rfl⟩, rfl⟩)
    · have c_41 : ¬ (¬ (tgf f cp pa (ixf f pa x1 1)) = 1) := of_decide_eq_false c_41
      refine ml_st (S' := (45, [(0, .ref m0), (1, .int x1)], [.int 1], M)) rfl rfl rfl ?_
      refine ml_st (S' := (49, [], [.int 1], M)) rfl rfl rfl ?_
      exact ml_ret rfl (r_z (Or.inr rfl)) (⟨⟨_, rfl, Or.inr rfl, Or.inr (IXP_7 hj_30 (show tgf f cp pa (ixf f pa x1 1) = 1 from Decidable.not_not.mp c_41))⟩, rfl⟩)
  refine ml_if2 (S1 := (30, [(0, .ref m0), (1, .int x1)], [], M)) (S2 := (6, [(0, .ref m0), (1, .int x1), (2, .int x2), (3, .int x3)], [], M)) rfl rfl rfl (fun c_3 => ?_) (fun c_3 => ?_)
  · have c_3 : x2 = 7 := of_decide_eq_true c_3
    exact J_30  (Or.inl c_3)
  · have c_3 : ¬ (x2 = 7) := of_decide_eq_false c_3
    refine ml_blk 2 (S' := (9, [(0, .ref m0), (1, .int x1), (2, .int x2), (3, .int x3)], [.int 8, .int x2], M)) rfl ?_
    refine ml_if2 (S1 := (30, [(0, .ref m0), (1, .int x1)], [], M)) (S2 := (12, [(0, .ref m0), (1, .int x1), (2, .int x2), (3, .int x3)], [], M)) rfl rfl rfl (fun c_9 => ?_) (fun c_9 => ?_)
    · have c_9 : x2 = 8 := of_decide_eq_true c_9
      exact J_30  (Or.inr (Or.inl c_9))
    · have c_9 : ¬ (x2 = 8) := of_decide_eq_false c_9
      refine ml_blk 2 (S' := (15, [(0, .ref m0), (1, .int x1), (2, .int x2), (3, .int x3)], [.int 16, .int x2], M)) rfl ?_
      refine ml_if2 (S1 := (30, [(0, .ref m0), (1, .int x1)], [], M)) (S2 := (18, [(0, .ref m0), (1, .int x1), (2, .int x2), (3, .int x3)], [], M)) rfl rfl rfl (fun c_15 => ?_) (fun c_15 => ?_)
      · have c_15 : x2 = 16 := of_decide_eq_true c_15
        exact J_30  (Or.inr (Or.inr (Or.inl c_15)))
      · have c_15 : ¬ (x2 = 16) := of_decide_eq_false c_15
        refine ml_blk 2 (S' := (21, [(0, .ref m0), (1, .int x1), (2, .int x2), (3, .int x3)], [.int 19, .int x2], M)) rfl ?_
        refine ml_if2 (S1 := (30, [(0, .ref m0), (1, .int x1)], [], M)) (S2 := (24, [(0, .ref m0), (1, .int x1), (2, .int x2), (3, .int x3)], [], M)) rfl rfl rfl (fun c_21 => ?_) (fun c_21 => ?_)
        · have c_21 : x2 = 19 := of_decide_eq_true c_21
          exact J_30  (Or.inr (Or.inr (Or.inr (Or.inl c_21))))
        · have c_21 : ¬ (x2 = 19) := of_decide_eq_false c_21
          refine ml_blk 2 (S' := (27, [(0, .ref m0), (1, .int x1), (2, .int x2), (3, .int x3)], [.int 20, .int x2], M)) rfl ?_
          refine ml_if2 (S1 := (50, [(0, .ref m0), (1, .int x1), (2, .int x2), (3, .int x3)], [], M)) (S2 := (30, [(0, .ref m0), (1, .int x1)], [], M)) rfl rfl rfl (fun c_27 => ?_) (fun c_27 => ?_)
          · have c_27 : ¬ x2 = 20 := of_decide_eq_true c_27
            refine ml_blk 2 (S' := (53, [(0, .ref m0), (1, .int x1), (2, .int x2), (3, .int x3)], [.int 9, .int x2], M)) rfl ?_
            have J_130 : (¬ t7 x2 ∧ ¬ t9 x2) → ml (mT g) d (mb_214 g).2 (130, [(0, .ref m0), (1, .int x1), (2, .int x2)], [], M) (fun v M' => (∃ x : Int32, v = some (.int x) ∧ (x = 0 ∨ x = 1) ∧ (x = 0 ∨ IXP f cp pa x1 x2)) ∧ M' = M) := by
              intro hj_130
              refine ml_blk 2 (S' := (133, [(0, .ref m0), (1, .int x1), (2, .int x2)], [.int 12, .int x2], M)) rfl ?_
              refine ml_if2 (S1 := (170, [(0, .ref m0), (1, .int x1), (2, .int x2)], [], M)) (S2 := (136, [(0, .ref m0), (1, .int x1), (2, .int x2)], [], M)) rfl rfl rfl (fun c_133 => ?_) (fun c_133 => ?_)
              · have c_133 : ¬ x2 = 12 := of_decide_eq_true c_133
                exact (hl.elim c_3 c_133).elim
              · have c_133 : ¬ (¬ x2 = 12) := of_decide_eq_false c_133
                refine ml_blk 3 (S' := (139, [(0, .ref m0), (1, .int x1), (2, .int x2)], [.int x1, .ref m0, .ref m0], M)) rfl ?_
                refine ml_st (S' := (140, [(0, .ref m0), (1, .int x1), (2, .int x2)], [.int 1, .int x1, .ref m0, .ref m0], M)) rfl rfl rfl ?_
                refine ml_call (a := [.ref m0, .int x1, .int 1]) (rest := [.ref m0]) rfl (hR.okc rfl rfl rfl) rfl rfl (rm_index hR hF hP ((hP.tg (ht.trans (Decidable.not_not.mp c_133)) (by decide)).1) ((hP.tg (ht.trans (Decidable.not_not.mp c_133)) (by decide)).2.1) ((hP.tg (ht.trans (Decidable.not_not.mp c_133)) (by decide)).2.2.1) (by decide) (by have q := (hP.tg (ht.trans (Decidable.not_not.mp c_133)) (by decide)).2.2.2.2; rw [show esz _ = 5 from rfl] at q; have : (1 : Int32).toInt = 1 := rfl; omega) (by omega)) (fun v17 M18 h19 => ?_)
                obtain ⟨rfl, h19⟩ := h19
                rw [h19]
                show ml _ _ _ (143, [(0, .ref m0), (1, .int x1), (2, .int x2)], [.int (ixf f pa x1 1), .ref m0], M) _
                refine ml_call (a := [.ref m0, .int (ixf f pa x1 1)]) (rest := []) rfl (hR.okc rfl rfl rfl) rfl rfl (rm_tag hR hF hP (by omega)) (fun v20 M21 h22 => ?_)
                obtain ⟨rfl, h22⟩ := h22
                rw [h22]
                show ml _ _ _ (146, [(0, .ref m0), (1, .int x1), (2, .int x2)], [.int (tgf f cp pa (ixf f pa x1 1))], M) _
                refine ml_st (S' := (147, [(0, .ref m0), (1, .int x1), (2, .int x2)], [.int 1, .int (tgf f cp pa (ixf f pa x1 1))], M)) rfl rfl rfl ?_
                refine ml_if2 (S1 := (168, [], [], M)) (S2 := (150, [(0, .ref m0), (1, .int x1), (2, .int x2)], [], M)) rfl rfl rfl (fun c_147 => ?_) (fun c_147 => ?_)
                · have c_147 : ¬ (tgf f cp pa (ixf f pa x1 1)) = 1 := of_decide_eq_true c_147
                  refine ml_st (S' := (169, [], [.int 0], M)) rfl rfl rfl ?_
                  exact ml_ret rfl (r_z (Or.inl rfl)) (⟨⟨_, rfl, Or.inl rfl, Or.inl rfl⟩, rfl⟩)
                · have c_147 : ¬ (¬ (tgf f cp pa (ixf f pa x1 1)) = 1) := of_decide_eq_false c_147
                  refine ml_blk 3 (S' := (153, [(0, .ref m0), (1, .int x1), (2, .int x2)], [.int x1, .ref m0, .ref m0], M)) rfl ?_
                  refine ml_st (S' := (154, [(0, .ref m0), (1, .int x1), (2, .int x2)], [.int 3, .int x1, .ref m0, .ref m0], M)) rfl rfl rfl ?_
                  refine ml_call (a := [.ref m0, .int x1, .int 3]) (rest := [.ref m0]) rfl (hR.okc rfl rfl rfl) rfl rfl (rm_index hR hF hP ((hP.tg (ht.trans (Decidable.not_not.mp c_133)) (by decide)).1) ((hP.tg (ht.trans (Decidable.not_not.mp c_133)) (by decide)).2.1) ((hP.tg (ht.trans (Decidable.not_not.mp c_133)) (by decide)).2.2.1) (by decide) (by have q := (hP.tg (ht.trans (Decidable.not_not.mp c_133)) (by decide)).2.2.2.2; rw [show esz _ = 5 from rfl] at q; have : (3 : Int32).toInt = 3 := rfl; omega) (by omega)) (fun v23 M24 h25 => ?_)
                  obtain ⟨rfl, h25⟩ := h25
                  rw [h25]
                  show ml _ _ _ (157, [(0, .ref m0), (1, .int x1), (2, .int x2)], [.int (ixf f pa x1 3), .ref m0], M) _
                  refine ml_call (a := [.ref m0, .int (ixf f pa x1 3)]) (rest := []) rfl (hR.okc rfl rfl rfl) rfl rfl (rm_tag hR hF hP (by omega)) (fun v26 M27 h28 => ?_)
                  obtain ⟨rfl, h28⟩ := h28
                  rw [h28]
                  show ml _ _ _ (160, [(0, .ref m0), (1, .int x1), (2, .int x2)], [.int (tgf f cp pa (ixf f pa x1 3))], M) _
                  refine ml_st (S' := (161, [(0, .ref m0), (1, .int x1), (2, .int x2)], [.int 1, .int (tgf f cp pa (ixf f pa x1 3))], M)) rfl rfl rfl ?_
                  refine ml_if2 (S1 := (168, [], [], M)) (S2 := (164, [(0, .ref m0), (1, .int x1), (2, .int x2)], [], M)) rfl rfl rfl (fun c_161 => ?_) (fun c_161 => ?_)
                  · have c_161 : ¬ (tgf f cp pa (ixf f pa x1 3)) = 1 := of_decide_eq_true c_161
                    refine ml_st (S' := (169, [], [.int 0], M)) rfl rfl rfl ?_
                    exact ml_ret rfl (r_z (Or.inl rfl)) (⟨⟨_, rfl, Or.inl rfl, Or.inl rfl⟩, rfl⟩)
                  · have c_161 : ¬ (¬ (tgf f cp pa (ixf f pa x1 3)) = 1) := of_decide_eq_false c_161
                    refine ml_st (S' := (165, [(0, .ref m0), (1, .int x1), (2, .int x2)], [.int 1], M)) rfl rfl rfl ?_
                    refine ml_st (S' := (169, [], [.int 1], M)) rfl rfl rfl ?_
                    exact ml_ret rfl (r_z (Or.inr rfl)) (⟨⟨_, rfl, Or.inr rfl, Or.inr (IXP_12 (Decidable.not_not.mp c_133) ⟨Decidable.not_not.mp c_147, Decidable.not_not.mp c_161⟩)⟩, rfl⟩)
            refine ml_if2 (S1 := (130, [(0, .ref m0), (1, .int x1), (2, .int x2)], [], M)) (S2 := (56, [(0, .ref m0), (1, .int x1), (2, .int x2), (3, .int x3)], [], M)) rfl rfl rfl (fun c_53 => ?_) (fun c_53 => ?_)
            · have c_53 : x2 < 9 := of_decide_eq_true c_53
              exact J_130  (⟨(fun h => by rcases h with h | h | h | h | h; exact c_3 h; exact c_9 h; exact c_15 h; exact c_21 h; exact c_27 h), fun q => by have := i_lt c_53; have q1 := q.1; have : (9 : Int32).toInt = 9 := rfl; omega⟩)
            · have c_53 : ¬ (x2 < 9) := of_decide_eq_false c_53
              refine ml_blk 2 (S' := (59, [(0, .ref m0), (1, .int x1), (2, .int x2), (3, .int x3)], [.int 11, .int x2], M)) rfl ?_
              refine ml_if2 (S1 := (130, [(0, .ref m0), (1, .int x1), (2, .int x2)], [], M)) (S2 := (62, [(0, .ref m0), (1, .int x1), (2, .int x2), (3, .int x3)], [], M)) rfl rfl rfl (fun c_59 => ?_) (fun c_59 => ?_)
              · have c_59 : 11 < x2 := of_decide_eq_true c_59
                exact J_130  (⟨(fun h => by rcases h with h | h | h | h | h; exact c_3 h; exact c_9 h; exact c_15 h; exact c_21 h; exact c_27 h), fun q => by have := i_lt c_59; have q1 := q.2; have : (11 : Int32).toInt = 11 := rfl; omega⟩)
              · have c_59 : ¬ (11 < x2) := of_decide_eq_false c_59
                have ht9 : t9 x2 := ⟨by have q := i_nlt c_53; have : (9 : Int32).toInt = 9 := rfl; omega, by have q := i_nlt c_59; have : (11 : Int32).toInt = 11 := rfl; omega⟩
                exfalso
                rcases hl with rfl | rfl
                · exact absurd (by decide) c_53
                · exact absurd (by decide) c_59
          · have c_27 : ¬ (¬ x2 = 20) := of_decide_eq_false c_27
            exact J_30  (Or.inr (Or.inr (Or.inr (Or.inr (Decidable.not_not.mp c_27)))))
set_option maxHeartbeats 2000000 in
theorem rm_indexes1 {g : xe_G}  {m0 : Nat} {q : Nat → Nat} {z : Nat × Nat} {I : rI} {R : rR} {M : mi_H} {x1 x2 x3 : Int32} {n : Nat} {f : Nat → Int32} {S : Nat} {cp mj : Int32} {pa py : Nat → Int32}  (hR : RS g m0 q z I R M) (hF : FK n f I R) (hP : PK n f S cp mj pa py I R) (ht : tgf f cp pa x1 = x2) (hl : t9 x2) {d : Nat} (hd : 5 ≤ d) : mt (mT g) d 214 [.ref m0, .int x1, .int x2, .int x3] M (fun v M' => (∃ x : Int32, v = some (.int x) ∧ (x = 0 ∨ x = 1) ∧ (x = 0 ∨ IXP f cp pa x1 x2)) ∧ M' = M) := by
  obtain ⟨d, rfl⟩ : ∃ e, d = e + 1 := ⟨d - 1, by omega⟩
  refine mt_in (b := mb_214 g) rfl rfl ?_
  show ml (mT g) d (mb_214 g).2 (0, [(0, .ref m0), (1, .int x1), (2, .int x2), (3, .int x3)], [], M) _
  refine ml_blk 2 (S' := (3, [(0, .ref m0), (1, .int x1), (2, .int x2), (3, .int x3)], [.int 7, .int x2], M)) rfl ?_
  have J_30 : t7 x2 → ml (mT g) d (mb_214 g).2 (30, [(0, .ref m0), (1, .int x1)], [], M) (fun v M' => (∃ x : Int32, v = some (.int x) ∧ (x = 0 ∨ x = 1) ∧ (x = 0 ∨ IXP f cp pa x1 x2)) ∧ M' = M) := by
    intro hj_30
    exact (t79 hj_30 hl).elim
  refine ml_if2 (S1 := (30, [(0, .ref m0), (1, .int x1)], [], M)) (S2 := (6, [(0, .ref m0), (1, .int x1), (2, .int x2), (3, .int x3)], [], M)) rfl rfl rfl (fun c_3 => ?_) (fun c_3 => ?_)
  · have c_3 : x2 = 7 := of_decide_eq_true c_3
    exact J_30  (Or.inl c_3)
  · have c_3 : ¬ (x2 = 7) := of_decide_eq_false c_3
    refine ml_blk 2 (S' := (9, [(0, .ref m0), (1, .int x1), (2, .int x2), (3, .int x3)], [.int 8, .int x2], M)) rfl ?_
    refine ml_if2 (S1 := (30, [(0, .ref m0), (1, .int x1)], [], M)) (S2 := (12, [(0, .ref m0), (1, .int x1), (2, .int x2), (3, .int x3)], [], M)) rfl rfl rfl (fun c_9 => ?_) (fun c_9 => ?_)
    · have c_9 : x2 = 8 := of_decide_eq_true c_9
      exact J_30  (Or.inr (Or.inl c_9))
    · have c_9 : ¬ (x2 = 8) := of_decide_eq_false c_9
      refine ml_blk 2 (S' := (15, [(0, .ref m0), (1, .int x1), (2, .int x2), (3, .int x3)], [.int 16, .int x2], M)) rfl ?_
      refine ml_if2 (S1 := (30, [(0, .ref m0), (1, .int x1)], [], M)) (S2 := (18, [(0, .ref m0), (1, .int x1), (2, .int x2), (3, .int x3)], [], M)) rfl rfl rfl (fun c_15 => ?_) (fun c_15 => ?_)
      · have c_15 : x2 = 16 := of_decide_eq_true c_15
        exact J_30  (Or.inr (Or.inr (Or.inl c_15)))
      · have c_15 : ¬ (x2 = 16) := of_decide_eq_false c_15
        refine ml_blk 2 (S' := (21, [(0, .ref m0), (1, .int x1), (2, .int x2), (3, .int x3)], [.int 19, .int x2], M)) rfl ?_
        refine ml_if2 (S1 := (30, [(0, .ref m0), (1, .int x1)], [], M)) (S2 := (24, [(0, .ref m0), (1, .int x1), (2, .int x2), (3, .int x3)], [], M)) rfl rfl rfl (fun c_21 => ?_) (fun c_21 => ?_)
        · have c_21 : x2 = 19 := of_decide_eq_true c_21
          exact J_30  (Or.inr (Or.inr (Or.inr (Or.inl c_21))))
        · have c_21 : ¬ (x2 = 19) := of_decide_eq_false c_21
          refine ml_blk 2 (S' := (27, [(0, .ref m0), (1, .int x1), (2, .int x2), (3, .int x3)], [.int 20, .int x2], M)) rfl ?_
          refine ml_if2 (S1 := (50, [(0, .ref m0), (1, .int x1), (2, .int x2), (3, .int x3)], [], M)) (S2 := (30, [(0, .ref m0), (1, .int x1)], [], M)) rfl rfl rfl (fun c_27 => ?_) (fun c_27 => ?_)
          · have c_27 : ¬ x2 = 20 := of_decide_eq_true c_27
            refine ml_blk 2 (S' := (53, [(0, .ref m0), (1, .int x1), (2, .int x2), (3, .int x3)], [.int 9, .int x2], M)) rfl ?_
            have J_130 : (¬ t7 x2 ∧ ¬ t9 x2) → ml (mT g) d (mb_214 g).2 (130, [(0, .ref m0), (1, .int x1), (2, .int x2)], [], M) (fun v M' => (∃ x : Int32, v = some (.int x) ∧ (x = 0 ∨ x = 1) ∧ (x = 0 ∨ IXP f cp pa x1 x2)) ∧ M' = M) := by
              intro hj_130
              exact (hj_130.2 hl).elim
            refine ml_if2 (S1 := (130, [(0, .ref m0), (1, .int x1), (2, .int x2)], [], M)) (S2 := (56, [(0, .ref m0), (1, .int x1), (2, .int x2), (3, .int x3)], [], M)) rfl rfl rfl (fun c_53 => ?_) (fun c_53 => ?_)
            · have c_53 : x2 < 9 := of_decide_eq_true c_53
              exact J_130  (⟨(fun h => by rcases h with h | h | h | h | h; exact c_3 h; exact c_9 h; exact c_15 h; exact c_21 h; exact c_27 h), fun q => by have := i_lt c_53; have q1 := q.1; have : (9 : Int32).toInt = 9 := rfl; omega⟩)
            · have c_53 : ¬ (x2 < 9) := of_decide_eq_false c_53
              refine ml_blk 2 (S' := (59, [(0, .ref m0), (1, .int x1), (2, .int x2), (3, .int x3)], [.int 11, .int x2], M)) rfl ?_
              refine ml_if2 (S1 := (130, [(0, .ref m0), (1, .int x1), (2, .int x2)], [], M)) (S2 := (62, [(0, .ref m0), (1, .int x1), (2, .int x2), (3, .int x3)], [], M)) rfl rfl rfl (fun c_59 => ?_) (fun c_59 => ?_)
              · have c_59 : 11 < x2 := of_decide_eq_true c_59
                exact J_130  (⟨(fun h => by rcases h with h | h | h | h | h; exact c_3 h; exact c_9 h; exact c_15 h; exact c_21 h; exact c_27 h), fun q => by have := i_lt c_59; have q1 := q.2; have : (11 : Int32).toInt = 11 := rfl; omega⟩)
              · have c_59 : ¬ (11 < x2) := of_decide_eq_false c_59
                have ht9 : t9 x2 := ⟨by have q := i_nlt c_53; have : (9 : Int32).toInt = 9 := rfl; omega, by have q := i_nlt c_59; have : (11 : Int32).toInt = 11 := rfl; omega⟩
                refine ml_blk 3 (S' := (65, [(0, .ref m0), (1, .int x1), (2, .int x2), (3, .int x3)], [.int x1, .ref m0, .ref m0], M)) rfl ?_
                refine ml_st (S' := (66, [(0, .ref m0), (1, .int x1), (2, .int x2), (3, .int x3)], [.int 1, .int x1, .ref m0, .ref m0], M)) rfl rfl rfl ?_
                refine ml_call (a := [.ref m0, .int x1, .int 1]) (rest := [.ref m0]) rfl (hR.okc rfl rfl rfl) rfl rfl (rm_index hR hF hP ((hP.tg ht (t9_n0 ht9)).1) ((hP.tg ht (t9_n0 ht9)).2.1) ((hP.tg ht (t9_n0 ht9)).2.2.1) (by decide) (by have q := (hP.tg ht (t9_n0 ht9)).2.2.2.2; rw [show esz _ = 5 from esz_9 ht9] at q; have : (1 : Int32).toInt = 1 := rfl; omega) (by omega)) (fun v11 M12 h13 => ?_)
                obtain ⟨rfl, h13⟩ := h13
                rw [h13]
                show ml _ _ _ (69, [(0, .ref m0), (1, .int x1), (2, .int x2), (3, .int x3)], [.int (ixf f pa x1 1), .ref m0], M) _
                refine ml_call (a := [.ref m0, .int (ixf f pa x1 1)]) (rest := []) rfl (hR.okc rfl rfl rfl) rfl rfl (rm_tag hR hF hP (by omega)) (fun v14 M15 h16 => ?_)
                obtain ⟨rfl, h16⟩ := h16
                rw [h16]
                show ml _ _ _ (72, [(0, .ref m0), (1, .int x1), (2, .int x2), (3, .int x3)], [.int (tgf f cp pa (ixf f pa x1 1))], M) _
                refine ml_st (S' := (74, [(0, .ref m0), (1, .int x1), (2, .int x2), (3, .int x3)], [.int 7, .int (tgf f cp pa (ixf f pa x1 1))], M)) rfl rfl rfl ?_
                refine ml_if2 (S1 := (128, [], [], M)) (S2 := (77, [(0, .ref m0), (1, .int x1), (2, .int x2), (3, .int x3)], [], M)) rfl rfl rfl (fun c_74 => ?_) (fun c_74 => ?_)
                · have c_74 : ¬ (tgf f cp pa (ixf f pa x1 1)) = 7 := of_decide_eq_true c_74
                  refine ml_st (S' := (129, [], [.int 0], M)) rfl rfl rfl ?_
                  exact ml_ret rfl (r_z (Or.inl rfl)) (⟨⟨_, rfl, Or.inl rfl, Or.inl rfl⟩, rfl⟩)
                · have c_74 : ¬ (¬ (tgf f cp pa (ixf f pa x1 1)) = 7) := of_decide_eq_false c_74
                  refine ml_blk 3 (S' := (80, [(0, .ref m0), (1, .int x1), (2, .int x2), (3, .int x3)], [.int x1, .ref m0, .ref m0], M)) rfl ?_
                  refine ml_st (S' := (81, [(0, .ref m0), (1, .int x1), (2, .int x2), (3, .int x3)], [.int 1, .int x1, .ref m0, .ref m0], M)) rfl rfl rfl ?_
                  refine ml_call (a := [.ref m0, .int x1, .int 1]) (rest := [.ref m0]) rfl (hR.okc rfl rfl rfl) rfl rfl (rm_index hR hF hP ((hP.tg ht (t9_n0 ht9)).1) ((hP.tg ht (t9_n0 ht9)).2.1) ((hP.tg ht (t9_n0 ht9)).2.2.1) (by decide) (by have q := (hP.tg ht (t9_n0 ht9)).2.2.2.2; rw [show esz _ = 5 from esz_9 ht9] at q; have : (1 : Int32).toInt = 1 := rfl; omega) (by omega)) (fun v17 M18 h19 => ?_)
                  obtain ⟨rfl, h19⟩ := h19
                  rw [h19]
                  show ml _ _ _ (84, [(0, .ref m0), (1, .int x1), (2, .int x2), (3, .int x3)], [.int (ixf f pa x1 1), .ref m0], M) _
                  refine ml_blk 2 (S' := (87, [(0, .ref m0), (1, .int x1), (2, .int x2), (3, .int x3)], [.int 0, .int 7, .int (ixf f pa x1 1), .ref m0], M)) rfl ?_
                  refine ml_call (a := [.ref m0, .int (ixf f pa x1 1), .int 7, .int 0]) (rest := []) rfl (hR.okc rfl rfl rfl) rfl rfl (rm_indexes0 hR hF hP (Decidable.not_not.mp c_74) (Or.inl rfl) (by omega)) (fun v20 M21 h22 => ?_)
                  obtain ⟨⟨u23, rfl, z24, w25⟩, h22⟩ := h22
                  rw [h22]
                  show ml _ _ _ (90, [(0, .ref m0), (1, .int x1), (2, .int x2), (3, .int x3)], [.int u23], M) _
                  refine ml_if (S1 := (128, [], [], M)) (S2 := (93, [(0, .ref m0), (1, .int x1), (2, .int x2), (3, .int x3)], [], M)) rfl rfl rfl (fun c_90 => ?_) (fun c_90 => ?_)
                  · have c_90 : u23 = 0 := of_decide_eq_true c_90
                    refine ml_st (S' := (129, [], [.int 0], M)) rfl rfl rfl ?_
                    exact ml_ret rfl (r_z (Or.inl rfl)) (⟨⟨_, rfl, Or.inl rfl, Or.inl rfl⟩, rfl⟩)
                  · have c_90 : ¬ (u23 = 0) := of_decide_eq_false c_90
                    refine ml_blk 3 (S' := (96, [(0, .ref m0), (1, .int x1), (2, .int x2), (3, .int x3)], [.int x1, .ref m0, .ref m0], M)) rfl ?_
                    refine ml_st (S' := (97, [(0, .ref m0), (1, .int x1), (2, .int x2), (3, .int x3)], [.int 3, .int x1, .ref m0, .ref m0], M)) rfl rfl rfl ?_
                    refine ml_call (a := [.ref m0, .int x1, .int 3]) (rest := [.ref m0]) rfl (hR.okc rfl rfl rfl) rfl rfl (rm_index hR hF hP ((hP.tg ht (t9_n0 ht9)).1) ((hP.tg ht (t9_n0 ht9)).2.1) ((hP.tg ht (t9_n0 ht9)).2.2.1) (by decide) (by have q := (hP.tg ht (t9_n0 ht9)).2.2.2.2; rw [show esz _ = 5 from esz_9 ht9] at q; have : (3 : Int32).toInt = 3 := rfl; omega) (by omega)) (fun v26 M27 h28 => ?_)
                    obtain ⟨rfl, h28⟩ := h28
                    rw [h28]
                    show ml _ _ _ (100, [(0, .ref m0), (1, .int x1), (2, .int x2), (3, .int x3)], [.int (ixf f pa x1 3), .ref m0], M) _
                    refine ml_call (a := [.ref m0, .int (ixf f pa x1 3)]) (rest := []) rfl (hR.okc rfl rfl rfl) rfl rfl (rm_tag hR hF hP (by omega)) (fun v29 M30 h31 => ?_)
                    obtain ⟨rfl, h31⟩ := h31
                    rw [h31]
                    show ml _ _ _ (103, [(0, .ref m0), (1, .int x1), (2, .int x2), (3, .int x3)], [.int (tgf f cp pa (ixf f pa x1 3))], M) _
                    refine ml_st (S' := (105, [(0, .ref m0), (1, .int x1), (2, .int x2), (3, .int x3)], [.int 12, .int (tgf f cp pa (ixf f pa x1 3))], M)) rfl rfl rfl ?_
                    refine ml_if2 (S1 := (128, [], [], M)) (S2 := (108, [(0, .ref m0), (1, .int x1), (2, .int x2), (3, .int x3)], [], M)) rfl rfl rfl (fun c_105 => ?_) (fun c_105 => ?_)
                    · have c_105 : ¬ (tgf f cp pa (ixf f pa x1 3)) = 12 := of_decide_eq_true c_105
                      refine ml_st (S' := (129, [], [.int 0], M)) rfl rfl rfl ?_
                      exact ml_ret rfl (r_z (Or.inl rfl)) (⟨⟨_, rfl, Or.inl rfl, Or.inl rfl⟩, rfl⟩)
                    · have c_105 : ¬ (¬ (tgf f cp pa (ixf f pa x1 3)) = 12) := of_decide_eq_false c_105
                      refine ml_blk 3 (S' := (111, [(0, .ref m0), (1, .int x1), (2, .int x2), (3, .int x3)], [.int x1, .ref m0, .ref m0], M)) rfl ?_
                      refine ml_st (S' := (112, [(0, .ref m0), (1, .int x1), (2, .int x2), (3, .int x3)], [.int 3, .int x1, .ref m0, .ref m0], M)) rfl rfl rfl ?_
                      refine ml_call (a := [.ref m0, .int x1, .int 3]) (rest := [.ref m0]) rfl (hR.okc rfl rfl rfl) rfl rfl (rm_index hR hF hP ((hP.tg ht (t9_n0 ht9)).1) ((hP.tg ht (t9_n0 ht9)).2.1) ((hP.tg ht (t9_n0 ht9)).2.2.1) (by decide) (by have q := (hP.tg ht (t9_n0 ht9)).2.2.2.2; rw [show esz _ = 5 from esz_9 ht9] at q; have : (3 : Int32).toInt = 3 := rfl; omega) (by omega)) (fun v32 M33 h34 => ?_)
                      obtain ⟨rfl, h34⟩ := h34
                      rw [h34]
                      show ml _ _ _ (115, [(0, .ref m0), (1, .int x1), (2, .int x2), (3, .int x3)], [.int (ixf f pa x1 3), .ref m0], M) _
                      refine ml_blk 2 (S' := (118, [(0, .ref m0), (1, .int x1), (2, .int x2), (3, .int x3)], [.int 0, .int 12, .int (ixf f pa x1 3), .ref m0], M)) rfl ?_
                      refine ml_call (a := [.ref m0, .int (ixf f pa x1 3), .int 12, .int 0]) (rest := []) rfl (hR.okc rfl rfl rfl) rfl rfl (rm_indexes0 hR hF hP (Decidable.not_not.mp c_105) (Or.inr rfl) (by omega)) (fun v35 M36 h37 => ?_)
                      obtain ⟨⟨u38, rfl, z39, w40⟩, h37⟩ := h37
                      rw [h37]
                      show ml _ _ _ (121, [(0, .ref m0), (1, .int x1), (2, .int x2), (3, .int x3)], [.int u38], M) _
                      refine ml_if (S1 := (128, [], [], M)) (S2 := (124, [(0, .ref m0), (1, .int x1), (2, .int x2), (3, .int x3)], [], M)) rfl rfl rfl (fun c_121 => ?_) (fun c_121 => ?_)
                      · have c_121 : u38 = 0 := of_decide_eq_true c_121
                        refine ml_st (S' := (129, [], [.int 0], M)) rfl rfl rfl ?_
                        exact ml_ret rfl (r_z (Or.inl rfl)) (⟨⟨_, rfl, Or.inl rfl, Or.inl rfl⟩, rfl⟩)
                      · have c_121 : ¬ (u38 = 0) := of_decide_eq_false c_121
                        refine ml_st (S' := (125, [(0, .ref m0), (1, .int x1), (2, .int x2), (3, .int x3)], [.int 1], M)) rfl rfl rfl ?_
                        refine ml_st (S' := (129, [], [.int 1], M)) rfl rfl rfl ?_
                        exact ml_ret rfl (r_z (Or.inr rfl)) (⟨⟨_, rfl, Or.inr rfl, Or.inr (IXP_9 ht9 ⟨Decidable.not_not.mp c_74, (w25.resolve_left c_90).1 (Or.inl rfl), Decidable.not_not.mp c_105, (w40.resolve_left c_121).2.1 rfl⟩)⟩, rfl⟩)
          · have c_27 : ¬ (¬ x2 = 20) := of_decide_eq_false c_27
            exact J_30  (Or.inr (Or.inr (Or.inr (Or.inr (Decidable.not_not.mp c_27)))))
set_option maxHeartbeats 2000000 in
theorem rm_indexes {g : xe_G}  {m0 : Nat} {q : Nat → Nat} {z : Nat × Nat} {I : rI} {R : rR} {M : mi_H} {x1 x2 x3 : Int32} {n : Nat} {f : Nat → Int32} {S : Nat} {cp mj : Int32} {pa py : Nat → Int32}  (hR : RS g m0 q z I R M) (hF : FK n f I R) (hP : PK n f S cp mj pa py I R) (ht : tgf f cp pa x1 = x2) {d : Nat} (hd : 6 ≤ d) : mt (mT g) d 214 [.ref m0, .int x1, .int x2, .int x3] M (fun v M' => (∃ x : Int32, v = some (.int x) ∧ (x = 0 ∨ x = 1) ∧ (x = 0 ∨ IXP f cp pa x1 x2)) ∧ M' = M) := by
  obtain ⟨d, rfl⟩ : ∃ e, d = e + 1 := ⟨d - 1, by omega⟩
  refine mt_in (b := mb_214 g) rfl rfl ?_
  show ml (mT g) d (mb_214 g).2 (0, [(0, .ref m0), (1, .int x1), (2, .int x2), (3, .int x3)], [], M) _
  refine ml_blk 2 (S' := (3, [(0, .ref m0), (1, .int x1), (2, .int x2), (3, .int x3)], [.int 7, .int x2], M)) rfl ?_
  have J_30 : t7 x2 → ml (mT g) d (mb_214 g).2 (30, [(0, .ref m0), (1, .int x1)], [], M) (fun v M' => (∃ x : Int32, v = some (.int x) ∧ (x = 0 ∨ x = 1) ∧ (x = 0 ∨ IXP f cp pa x1 x2)) ∧ M' = M) := by
    intro hj_30
    refine ml_blk 3 (S' := (33, [(0, .ref m0), (1, .int x1)], [.int x1, .ref m0, .ref m0], M)) rfl ?_
    refine ml_st (S' := (34, [(0, .ref m0), (1, .int x1)], [.int 1, .int x1, .ref m0, .ref m0], M)) rfl rfl rfl ?_
    refine ml_call (a := [.ref m0, .int x1, .int 1]) (rest := [.ref m0]) rfl (hR.okc rfl rfl rfl) rfl rfl (rm_index hR hF hP ((hP.tg ht (t7_ne hj_30)).1) ((hP.tg ht (t7_ne hj_30)).2.1) ((hP.tg ht (t7_ne hj_30)).2.2.1) (by decide) (by have q := (hP.tg ht (t7_ne hj_30)).2.2.2.2; rw [show esz _ = 3 from esz_7 hj_30] at q; have : (1 : Int32).toInt = 1 := rfl; omega) (by omega)) (fun v11 M12 h13 => ?_)
    obtain ⟨rfl, h13⟩ := h13
    rw [h13]
    show ml _ _ _ (37, [(0, .ref m0), (1, .int x1)], [.int (ixf f pa x1 1), .ref m0], M) _
    refine ml_call (a := [.ref m0, .int (ixf f pa x1 1)]) (rest := []) rfl (hR.okc rfl rfl rfl) rfl rfl (rm_tag hR hF hP (by omega)) (fun v14 M15 h16 => ?_)
    obtain ⟨rfl, h16⟩ := h16
    rw [h16]
    show ml _ _ _ (40, [(0, .ref m0), (1, .int x1)], [.int (tgf f cp pa (ixf f pa x1 1))], M) _
    refine ml_st (S' := (41, [(0, .ref m0), (1, .int x1)], [.int 1, .int (tgf f cp pa (ixf f pa x1 1))], M)) rfl rfl rfl ?_
    refine ml_if2 (S1 := (48, [(0, .ref m0), (1, .int x1)], [], M)) (S2 := (44, [(0, .ref m0), (1, .int x1)], [], M)) rfl rfl rfl (fun c_41 => ?_) (fun c_41 => ?_)
    · have c_41 : ¬ (tgf f cp pa (ixf f pa x1 1)) = 1 := of_decide_eq_true c_41
      refine ml_st (S' := (49, [], [.int 0], M)) rfl rfl rfl ?_
      exact ml_ret rfl (r_z (Or.inl rfl)) (⟨⟨_, rfl, Or.inl rfl, Or.inl rfl⟩, rfl⟩)
    · have c_41 : ¬ (¬ (tgf f cp pa (ixf f pa x1 1)) = 1) := of_decide_eq_false c_41
      refine ml_st (S' := (45, [(0, .ref m0), (1, .int x1)], [.int 1], M)) rfl rfl rfl ?_
      refine ml_st (S' := (49, [], [.int 1], M)) rfl rfl rfl ?_
      exact ml_ret rfl (r_z (Or.inr rfl)) (⟨⟨_, rfl, Or.inr rfl, Or.inr (IXP_7 hj_30 (show tgf f cp pa (ixf f pa x1 1) = 1 from Decidable.not_not.mp c_41))⟩, rfl⟩)
  refine ml_if2 (S1 := (30, [(0, .ref m0), (1, .int x1)], [], M)) (S2 := (6, [(0, .ref m0), (1, .int x1), (2, .int x2), (3, .int x3)], [], M)) rfl rfl rfl (fun c_3 => ?_) (fun c_3 => ?_)
  · have c_3 : x2 = 7 := of_decide_eq_true c_3
    exact J_30  (Or.inl c_3)
  · have c_3 : ¬ (x2 = 7) := of_decide_eq_false c_3
    refine ml_blk 2 (S' := (9, [(0, .ref m0), (1, .int x1), (2, .int x2), (3, .int x3)], [.int 8, .int x2], M)) rfl ?_
    refine ml_if2 (S1 := (30, [(0, .ref m0), (1, .int x1)], [], M)) (S2 := (12, [(0, .ref m0), (1, .int x1), (2, .int x2), (3, .int x3)], [], M)) rfl rfl rfl (fun c_9 => ?_) (fun c_9 => ?_)
    · have c_9 : x2 = 8 := of_decide_eq_true c_9
      exact J_30  (Or.inr (Or.inl c_9))
    · have c_9 : ¬ (x2 = 8) := of_decide_eq_false c_9
      refine ml_blk 2 (S' := (15, [(0, .ref m0), (1, .int x1), (2, .int x2), (3, .int x3)], [.int 16, .int x2], M)) rfl ?_
      refine ml_if2 (S1 := (30, [(0, .ref m0), (1, .int x1)], [], M)) (S2 := (18, [(0, .ref m0), (1, .int x1), (2, .int x2), (3, .int x3)], [], M)) rfl rfl rfl (fun c_15 => ?_) (fun c_15 => ?_)
      · have c_15 : x2 = 16 := of_decide_eq_true c_15
        exact J_30  (Or.inr (Or.inr (Or.inl c_15)))
      · have c_15 : ¬ (x2 = 16) := of_decide_eq_false c_15
        refine ml_blk 2 (S' := (21, [(0, .ref m0), (1, .int x1), (2, .int x2), (3, .int x3)], [.int 19, .int x2], M)) rfl ?_
        refine ml_if2 (S1 := (30, [(0, .ref m0), (1, .int x1)], [], M)) (S2 := (24, [(0, .ref m0), (1, .int x1), (2, .int x2), (3, .int x3)], [], M)) rfl rfl rfl (fun c_21 => ?_) (fun c_21 => ?_)
        · have c_21 : x2 = 19 := of_decide_eq_true c_21
          exact J_30  (Or.inr (Or.inr (Or.inr (Or.inl c_21))))
        · have c_21 : ¬ (x2 = 19) := of_decide_eq_false c_21
          refine ml_blk 2 (S' := (27, [(0, .ref m0), (1, .int x1), (2, .int x2), (3, .int x3)], [.int 20, .int x2], M)) rfl ?_
          refine ml_if2 (S1 := (50, [(0, .ref m0), (1, .int x1), (2, .int x2), (3, .int x3)], [], M)) (S2 := (30, [(0, .ref m0), (1, .int x1)], [], M)) rfl rfl rfl (fun c_27 => ?_) (fun c_27 => ?_)
          · have c_27 : ¬ x2 = 20 := of_decide_eq_true c_27
            refine ml_blk 2 (S' := (53, [(0, .ref m0), (1, .int x1), (2, .int x2), (3, .int x3)], [.int 9, .int x2], M)) rfl ?_
            have J_130 : (¬ t7 x2 ∧ ¬ t9 x2) → ml (mT g) d (mb_214 g).2 (130, [(0, .ref m0), (1, .int x1), (2, .int x2)], [], M) (fun v M' => (∃ x : Int32, v = some (.int x) ∧ (x = 0 ∨ x = 1) ∧ (x = 0 ∨ IXP f cp pa x1 x2)) ∧ M' = M) := by
              intro hj_130
              refine ml_blk 2 (S' := (133, [(0, .ref m0), (1, .int x1), (2, .int x2)], [.int 12, .int x2], M)) rfl ?_
              refine ml_if2 (S1 := (170, [(0, .ref m0), (1, .int x1), (2, .int x2)], [], M)) (S2 := (136, [(0, .ref m0), (1, .int x1), (2, .int x2)], [], M)) rfl rfl rfl (fun c_133 => ?_) (fun c_133 => ?_)
              · have c_133 : ¬ x2 = 12 := of_decide_eq_true c_133
                refine ml_blk 2 (S' := (173, [(0, .ref m0), (1, .int x1), (2, .int x2)], [.int 15, .int x2], M)) rfl ?_
                refine ml_if2 (S1 := (229, [(0, .ref m0), (1, .int x1), (2, .int x2)], [], M)) (S2 := (176, [(0, .ref m0), (1, .int x1), (2, .int x2)], [], M)) rfl rfl rfl (fun c_173 => ?_) (fun c_173 => ?_)
                · have c_173 : ¬ x2 = 15 := of_decide_eq_true c_173
                  refine ml_blk 2 (S' := (232, [(0, .ref m0), (1, .int x1), (2, .int x2)], [.int 17, .int x2], M)) rfl ?_
                  have J_241 : (x2 = 17 ∨ x2 = 18) → ml (mT g) d (mb_214 g).2 (241, [(0, .ref m0), (1, .int x1)], [], M) (fun v M' => (∃ x : Int32, v = some (.int x) ∧ (x = 0 ∨ x = 1) ∧ (x = 0 ∨ IXP f cp pa x1 x2)) ∧ M' = M) := by
                    intro hj_241
                    refine ml_blk 3 (S' := (244, [(0, .ref m0), (1, .int x1)], [.int x1, .ref m0, .ref m0], M)) rfl ?_
                    refine ml_st (S' := (245, [(0, .ref m0), (1, .int x1)], [.int 3, .int x1, .ref m0, .ref m0], M)) rfl rfl rfl ?_
                    refine ml_call (a := [.ref m0, .int x1, .int 3]) (rest := [.ref m0]) rfl (hR.okc rfl rfl rfl) rfl rfl (rm_index hR hF hP ((hP.tg ht (fun e => by rcases hj_241 with h | h <;> rw [h] at e <;> exact absurd e (by decide))).1) ((hP.tg ht (fun e => by rcases hj_241 with h | h <;> rw [h] at e <;> exact absurd e (by decide))).2.1) ((hP.tg ht (fun e => by rcases hj_241 with h | h <;> rw [h] at e <;> exact absurd e (by decide))).2.2.1) (by decide) (by have q := (hP.tg ht (fun e => by rcases hj_241 with h | h <;> rw [h] at e <;> exact absurd e (by decide))).2.2.2.2; rw [show esz _ = 5 from esz_17 hj_241] at q; have : (3 : Int32).toInt = 3 := rfl; omega) (by omega)) (fun v17 M18 h19 => ?_)
                    obtain ⟨rfl, h19⟩ := h19
                    rw [h19]
                    show ml _ _ _ (248, [(0, .ref m0), (1, .int x1)], [.int (ixf f pa x1 3), .ref m0], M) _
                    refine ml_call (a := [.ref m0, .int (ixf f pa x1 3)]) (rest := []) rfl (hR.okc rfl rfl rfl) rfl rfl (rm_tag hR hF hP (by omega)) (fun v20 M21 h22 => ?_)
                    obtain ⟨rfl, h22⟩ := h22
                    rw [h22]
                    show ml _ _ _ (251, [(0, .ref m0), (1, .int x1)], [.int (tgf f cp pa (ixf f pa x1 3))], M) _
                    refine ml_st (S' := (253, [(0, .ref m0), (1, .int x1)], [.int 12, .int (tgf f cp pa (ixf f pa x1 3))], M)) rfl rfl rfl ?_
                    refine ml_if2 (S1 := (276, [], [], M)) (S2 := (256, [(0, .ref m0), (1, .int x1)], [], M)) rfl rfl rfl (fun c_253 => ?_) (fun c_253 => ?_)
                    · have c_253 : ¬ (tgf f cp pa (ixf f pa x1 3)) = 12 := of_decide_eq_true c_253
                      refine ml_st (S' := (277, [], [.int 0], M)) rfl rfl rfl ?_
                      exact ml_ret rfl (r_z (Or.inl rfl)) (⟨⟨_, rfl, Or.inl rfl, Or.inl rfl⟩, rfl⟩)
                    · have c_253 : ¬ (¬ (tgf f cp pa (ixf f pa x1 3)) = 12) := of_decide_eq_false c_253
                      refine ml_blk 3 (S' := (259, [(0, .ref m0), (1, .int x1)], [.int x1, .ref m0, .ref m0], M)) rfl ?_
                      refine ml_st (S' := (260, [(0, .ref m0), (1, .int x1)], [.int 3, .int x1, .ref m0, .ref m0], M)) rfl rfl rfl ?_
                      refine ml_call (a := [.ref m0, .int x1, .int 3]) (rest := [.ref m0]) rfl (hR.okc rfl rfl rfl) rfl rfl (rm_index hR hF hP ((hP.tg ht (fun e => by rcases hj_241 with h | h <;> rw [h] at e <;> exact absurd e (by decide))).1) ((hP.tg ht (fun e => by rcases hj_241 with h | h <;> rw [h] at e <;> exact absurd e (by decide))).2.1) ((hP.tg ht (fun e => by rcases hj_241 with h | h <;> rw [h] at e <;> exact absurd e (by decide))).2.2.1) (by decide) (by have q := (hP.tg ht (fun e => by rcases hj_241 with h | h <;> rw [h] at e <;> exact absurd e (by decide))).2.2.2.2; rw [show esz _ = 5 from esz_17 hj_241] at q; have : (3 : Int32).toInt = 3 := rfl; omega) (by omega)) (fun v23 M24 h25 => ?_)
                      obtain ⟨rfl, h25⟩ := h25
                      rw [h25]
                      show ml _ _ _ (263, [(0, .ref m0), (1, .int x1)], [.int (ixf f pa x1 3), .ref m0], M) _
                      refine ml_blk 2 (S' := (266, [(0, .ref m0), (1, .int x1)], [.int 0, .int 12, .int (ixf f pa x1 3), .ref m0], M)) rfl ?_
                      refine ml_call (a := [.ref m0, .int (ixf f pa x1 3), .int 12, .int 0]) (rest := []) rfl (hR.okc rfl rfl rfl) rfl rfl (rm_indexes0 hR hF hP (Decidable.not_not.mp c_253) (Or.inr rfl) (by omega)) (fun v26 M27 h28 => ?_)
                      obtain ⟨⟨u29, rfl, z30, w31⟩, h28⟩ := h28
                      rw [h28]
                      show ml _ _ _ (269, [(0, .ref m0), (1, .int x1)], [.int u29], M) _
                      refine ml_if (S1 := (276, [], [], M)) (S2 := (272, [(0, .ref m0), (1, .int x1)], [], M)) rfl rfl rfl (fun c_269 => ?_) (fun c_269 => ?_)
                      · have c_269 : u29 = 0 := of_decide_eq_true c_269
                        refine ml_st (S' := (277, [], [.int 0], M)) rfl rfl rfl ?_
                        exact ml_ret rfl (r_z (Or.inl rfl)) (⟨⟨_, rfl, Or.inl rfl, Or.inl rfl⟩, rfl⟩)
                      · have c_269 : ¬ (u29 = 0) := of_decide_eq_false c_269
                        refine ml_st (S' := (273, [(0, .ref m0), (1, .int x1)], [.int 1], M)) rfl rfl rfl ?_
                        refine ml_st (S' := (277, [], [.int 1], M)) rfl rfl rfl ?_
                        exact ml_ret rfl (r_z (Or.inr rfl)) (⟨⟨_, rfl, Or.inr rfl, Or.inr (IXP_17 hj_241 ⟨Decidable.not_not.mp c_253, (w31.resolve_left c_269).2.1 rfl⟩)⟩, rfl⟩)
                  refine ml_if2 (S1 := (241, [(0, .ref m0), (1, .int x1)], [], M)) (S2 := (235, [(0, .ref m0), (1, .int x1), (2, .int x2)], [], M)) rfl rfl rfl (fun c_232 => ?_) (fun c_232 => ?_)
                  · have c_232 : x2 = 17 := of_decide_eq_true c_232
                    exact J_241  (Or.inl c_232)
                  · have c_232 : ¬ (x2 = 17) := of_decide_eq_false c_232
                    refine ml_blk 2 (S' := (238, [(0, .ref m0), (1, .int x1), (2, .int x2)], [.int 18, .int x2], M)) rfl ?_
                    refine ml_if2 (S1 := (278, [(0, .ref m0), (1, .int x1), (2, .int x2)], [], M)) (S2 := (241, [(0, .ref m0), (1, .int x1)], [], M)) rfl rfl rfl (fun c_238 => ?_) (fun c_238 => ?_)
                    · have c_238 : ¬ x2 = 18 := of_decide_eq_true c_238
                      refine ml_st (S' := (279, [(0, .ref m0), (1, .int x1), (2, .int x2)], [.int 1], M)) rfl rfl rfl ?_
                      exact ml_ret rfl (r_z (Or.inr rfl)) (⟨⟨_, rfl, Or.inr rfl, Or.inr (IXP_o hj_130.1 c_133 hj_130.2 c_173 (fun h => h.elim c_232 c_238))⟩, rfl⟩)
                    · have c_238 : ¬ (¬ x2 = 18) := of_decide_eq_false c_238
                      exact J_241  (Or.inr (Decidable.not_not.mp c_238))
                · have c_173 : ¬ (¬ x2 = 15) := of_decide_eq_false c_173
                  refine ml_blk 3 (S' := (179, [(0, .ref m0), (1, .int x1), (2, .int x2)], [.int x1, .ref m0, .ref m0], M)) rfl ?_
                  refine ml_st (S' := (180, [(0, .ref m0), (1, .int x1), (2, .int x2)], [.int 2, .int x1, .ref m0, .ref m0], M)) rfl rfl rfl ?_
                  refine ml_call (a := [.ref m0, .int x1, .int 2]) (rest := [.ref m0]) rfl (hR.okc rfl rfl rfl) rfl rfl (rm_index hR hF hP ((hP.tg (ht.trans (Decidable.not_not.mp c_173)) (by decide)).1) ((hP.tg (ht.trans (Decidable.not_not.mp c_173)) (by decide)).2.1) ((hP.tg (ht.trans (Decidable.not_not.mp c_173)) (by decide)).2.2.1) (by decide) (by have q := (hP.tg (ht.trans (Decidable.not_not.mp c_173)) (by decide)).2.2.2.2; rw [show esz _ = 4 from rfl] at q; have : (2 : Int32).toInt = 2 := rfl; omega) (by omega)) (fun v32 M33 h34 => ?_)
                  obtain ⟨rfl, h34⟩ := h34
                  rw [h34]
                  show ml _ _ _ (183, [(0, .ref m0), (1, .int x1), (2, .int x2)], [.int (ixf f pa x1 2), .ref m0], M) _
                  refine ml_call (a := [.ref m0, .int (ixf f pa x1 2)]) (rest := []) rfl (hR.okc rfl rfl rfl) rfl rfl (rm_tag hR hF hP (by omega)) (fun v35 M36 h37 => ?_)
                  obtain ⟨rfl, h37⟩ := h37
                  rw [h37]
                  show ml _ _ _ (186, [(0, .ref m0), (1, .int x1), (2, .int x2)], [.int (tgf f cp pa (ixf f pa x1 2))], M) _
                  refine ml_st (S' := (188, [(4, .int (tgf f cp pa (ixf f pa x1 2))), (0, .ref m0), (1, .int x1), (2, .int x2)], [], M)) rfl rfl rfl ?_
                  refine ml_st (S' := (190, [(4, .int (tgf f cp pa (ixf f pa x1 2))), (0, .ref m0), (1, .int x1), (2, .int x2)], [.int (tgf f cp pa (ixf f pa x1 2))], M)) rfl rfl rfl ?_
                  refine ml_if (S1 := (227, [], [], M)) (S2 := (193, [(4, .int (tgf f cp pa (ixf f pa x1 2))), (0, .ref m0), (1, .int x1), (2, .int x2)], [], M)) rfl rfl rfl (fun c_190 => ?_) (fun c_190 => ?_)
                  · have c_190 : (tgf f cp pa (ixf f pa x1 2)) = 0 := of_decide_eq_true c_190
                    refine ml_st (S' := (228, [], [.int 0], M)) rfl rfl rfl ?_
                    exact ml_ret rfl (r_z (Or.inl rfl)) (⟨⟨_, rfl, Or.inl rfl, Or.inl rfl⟩, rfl⟩)
                  · have c_190 : ¬ ((tgf f cp pa (ixf f pa x1 2)) = 0) := of_decide_eq_false c_190
                    refine ml_blk 2 (S' := (197, [(4, .int (tgf f cp pa (ixf f pa x1 2))), (0, .ref m0), (1, .int x1), (2, .int x2)], [.int 9, .int (tgf f cp pa (ixf f pa x1 2))], M)) rfl ?_
                    refine ml_if2 (S1 := (223, [], [], M)) (S2 := (200, [(4, .int (tgf f cp pa (ixf f pa x1 2))), (0, .ref m0), (1, .int x1), (2, .int x2)], [], M)) rfl rfl rfl (fun c_197 => ?_) (fun c_197 => ?_)
                    · have c_197 : (tgf f cp pa (ixf f pa x1 2)) < 9 := of_decide_eq_true c_197
                      refine ml_st (S' := (224, [], [.int 1], M)) rfl rfl rfl ?_
                      refine ml_st (S' := (228, [], [.int 1], M)) rfl rfl rfl ?_
                      exact ml_ret rfl (r_z (Or.inr rfl)) (⟨⟨_, rfl, Or.inr rfl, Or.inr (IXP_15 (Decidable.not_not.mp c_173) (fun h => absurd h (fun q => by have := i_lt c_197; have q1 := q.1; have : (9 : Int32).toInt = 9 := rfl; omega)))⟩, rfl⟩)
                    · have c_197 : ¬ ((tgf f cp pa (ixf f pa x1 2)) < 9) := of_decide_eq_false c_197
                      refine ml_blk 2 (S' := (204, [(4, .int (tgf f cp pa (ixf f pa x1 2))), (0, .ref m0), (1, .int x1), (2, .int x2)], [.int 11, .int (tgf f cp pa (ixf f pa x1 2))], M)) rfl ?_
                      refine ml_if2 (S1 := (223, [], [], M)) (S2 := (207, [(4, .int (tgf f cp pa (ixf f pa x1 2))), (0, .ref m0), (1, .int x1), (2, .int x2)], [], M)) rfl rfl rfl (fun c_204 => ?_) (fun c_204 => ?_)
                      · have c_204 : 11 < (tgf f cp pa (ixf f pa x1 2)) := of_decide_eq_true c_204
                        refine ml_st (S' := (224, [], [.int 1], M)) rfl rfl rfl ?_
                        refine ml_st (S' := (228, [], [.int 1], M)) rfl rfl rfl ?_
                        exact ml_ret rfl (r_z (Or.inr rfl)) (⟨⟨_, rfl, Or.inr rfl, Or.inr (IXP_15 (Decidable.not_not.mp c_173) (fun h => absurd h (fun q => by have := i_lt c_204; have q1 := q.2; have : (11 : Int32).toInt = 11 := rfl; omega)))⟩, rfl⟩)
                      · have c_204 : ¬ (11 < (tgf f cp pa (ixf f pa x1 2))) := of_decide_eq_false c_204
                        refine ml_blk 3 (S' := (210, [(4, .int (tgf f cp pa (ixf f pa x1 2))), (0, .ref m0), (1, .int x1), (2, .int x2)], [.int x1, .ref m0, .ref m0], M)) rfl ?_
                        refine ml_st (S' := (211, [(4, .int (tgf f cp pa (ixf f pa x1 2))), (0, .ref m0), (1, .int x1), (2, .int x2)], [.int 2, .int x1, .ref m0, .ref m0], M)) rfl rfl rfl ?_
                        refine ml_call (a := [.ref m0, .int x1, .int 2]) (rest := [.ref m0]) rfl (hR.okc rfl rfl rfl) rfl rfl (rm_index hR hF hP ((hP.tg (ht.trans (Decidable.not_not.mp c_173)) (by decide)).1) ((hP.tg (ht.trans (Decidable.not_not.mp c_173)) (by decide)).2.1) ((hP.tg (ht.trans (Decidable.not_not.mp c_173)) (by decide)).2.2.1) (by decide) (by have q := (hP.tg (ht.trans (Decidable.not_not.mp c_173)) (by decide)).2.2.2.2; rw [show esz _ = 4 from rfl] at q; have : (2 : Int32).toInt = 2 := rfl; omega) (by omega)) (fun v38 M39 h40 => ?_)
                        obtain ⟨rfl, h40⟩ := h40
                        rw [h40]
                        show ml _ _ _ (214, [(4, .int (tgf f cp pa (ixf f pa x1 2))), (0, .ref m0), (1, .int x1), (2, .int x2)], [.int (ixf f pa x1 2), .ref m0], M) _
                        refine ml_blk 2 (S' := (217, [(4, .int (tgf f cp pa (ixf f pa x1 2))), (0, .ref m0), (1, .int x1), (2, .int x2)], [.int 0, .int (tgf f cp pa (ixf f pa x1 2)), .int (ixf f pa x1 2), .ref m0], M)) rfl ?_
                        refine ml_call (a := [.ref m0, .int (ixf f pa x1 2), .int (tgf f cp pa (ixf f pa x1 2)), .int 0]) (rest := []) rfl (hR.okc rfl rfl rfl) rfl rfl (rm_indexes1 hR hF hP (rfl) (⟨by have q := i_nlt c_197; have : (9 : Int32).toInt = 9 := rfl; omega, by have q := i_nlt c_204; have : (11 : Int32).toInt = 11 := rfl; omega⟩) (by omega)) (fun v41 M42 h43 => ?_)
                        obtain ⟨⟨u44, rfl, z45, w46⟩, h43⟩ := h43
                        rw [h43]
                        show ml _ _ _ (220, [(4, .int (tgf f cp pa (ixf f pa x1 2))), (0, .ref m0), (1, .int x1), (2, .int x2)], [.int u44], M) _
                        refine ml_if (S1 := (227, [], [], M)) (S2 := (223, [], [], M)) rfl rfl rfl (fun c_220 => ?_) (fun c_220 => ?_)
                        · have c_220 : u44 = 0 := of_decide_eq_true c_220
                          refine ml_st (S' := (228, [], [.int 0], M)) rfl rfl rfl ?_
                          exact ml_ret rfl (r_z (Or.inl rfl)) (⟨⟨_, rfl, Or.inl rfl, Or.inl rfl⟩, rfl⟩)
                        · have c_220 : ¬ (u44 = 0) := of_decide_eq_false c_220
                          refine ml_st (S' := (224, [], [.int 1], M)) rfl rfl rfl ?_
                          refine ml_st (S' := (228, [], [.int 1], M)) rfl rfl rfl ?_
                          exact ml_ret rfl (r_z (Or.inr rfl)) (⟨⟨_, rfl, Or.inr rfl, Or.inr (IXP_15 (Decidable.not_not.mp c_173) (fun h => (w46.resolve_left c_220).2.2.1 h))⟩, rfl⟩)
              · have c_133 : ¬ (¬ x2 = 12) := of_decide_eq_false c_133
                refine ml_blk 3 (S' := (139, [(0, .ref m0), (1, .int x1), (2, .int x2)], [.int x1, .ref m0, .ref m0], M)) rfl ?_
                refine ml_st (S' := (140, [(0, .ref m0), (1, .int x1), (2, .int x2)], [.int 1, .int x1, .ref m0, .ref m0], M)) rfl rfl rfl ?_
                refine ml_call (a := [.ref m0, .int x1, .int 1]) (rest := [.ref m0]) rfl (hR.okc rfl rfl rfl) rfl rfl (rm_index hR hF hP ((hP.tg (ht.trans (Decidable.not_not.mp c_133)) (by decide)).1) ((hP.tg (ht.trans (Decidable.not_not.mp c_133)) (by decide)).2.1) ((hP.tg (ht.trans (Decidable.not_not.mp c_133)) (by decide)).2.2.1) (by decide) (by have q := (hP.tg (ht.trans (Decidable.not_not.mp c_133)) (by decide)).2.2.2.2; rw [show esz _ = 5 from rfl] at q; have : (1 : Int32).toInt = 1 := rfl; omega) (by omega)) (fun v47 M48 h49 => ?_)
                obtain ⟨rfl, h49⟩ := h49
                rw [h49]
                show ml _ _ _ (143, [(0, .ref m0), (1, .int x1), (2, .int x2)], [.int (ixf f pa x1 1), .ref m0], M) _
                refine ml_call (a := [.ref m0, .int (ixf f pa x1 1)]) (rest := []) rfl (hR.okc rfl rfl rfl) rfl rfl (rm_tag hR hF hP (by omega)) (fun v50 M51 h52 => ?_)
                obtain ⟨rfl, h52⟩ := h52
                rw [h52]
                show ml _ _ _ (146, [(0, .ref m0), (1, .int x1), (2, .int x2)], [.int (tgf f cp pa (ixf f pa x1 1))], M) _
                refine ml_st (S' := (147, [(0, .ref m0), (1, .int x1), (2, .int x2)], [.int 1, .int (tgf f cp pa (ixf f pa x1 1))], M)) rfl rfl rfl ?_
                refine ml_if2 (S1 := (168, [], [], M)) (S2 := (150, [(0, .ref m0), (1, .int x1), (2, .int x2)], [], M)) rfl rfl rfl (fun c_147 => ?_) (fun c_147 => ?_)
                · have c_147 : ¬ (tgf f cp pa (ixf f pa x1 1)) = 1 := of_decide_eq_true c_147
                  refine ml_st (S' := (169, [], [.int 0], M)) rfl rfl rfl ?_
                  exact ml_ret rfl (r_z (Or.inl rfl)) (⟨⟨_, rfl, Or.inl rfl, Or.inl rfl⟩, rfl⟩)
                · have c_147 : ¬ (¬ (tgf f cp pa (ixf f pa x1 1)) = 1) := of_decide_eq_false c_147
                  refine ml_blk 3 (S' := (153, [(0, .ref m0), (1, .int x1), (2, .int x2)], [.int x1, .ref m0, .ref m0], M)) rfl ?_
                  refine ml_st (S' := (154, [(0, .ref m0), (1, .int x1), (2, .int x2)], [.int 3, .int x1, .ref m0, .ref m0], M)) rfl rfl rfl ?_
                  refine ml_call (a := [.ref m0, .int x1, .int 3]) (rest := [.ref m0]) rfl (hR.okc rfl rfl rfl) rfl rfl (rm_index hR hF hP ((hP.tg (ht.trans (Decidable.not_not.mp c_133)) (by decide)).1) ((hP.tg (ht.trans (Decidable.not_not.mp c_133)) (by decide)).2.1) ((hP.tg (ht.trans (Decidable.not_not.mp c_133)) (by decide)).2.2.1) (by decide) (by have q := (hP.tg (ht.trans (Decidable.not_not.mp c_133)) (by decide)).2.2.2.2; rw [show esz _ = 5 from rfl] at q; have : (3 : Int32).toInt = 3 := rfl; omega) (by omega)) (fun v53 M54 h55 => ?_)
                  obtain ⟨rfl, h55⟩ := h55
                  rw [h55]
                  show ml _ _ _ (157, [(0, .ref m0), (1, .int x1), (2, .int x2)], [.int (ixf f pa x1 3), .ref m0], M) _
                  refine ml_call (a := [.ref m0, .int (ixf f pa x1 3)]) (rest := []) rfl (hR.okc rfl rfl rfl) rfl rfl (rm_tag hR hF hP (by omega)) (fun v56 M57 h58 => ?_)
                  obtain ⟨rfl, h58⟩ := h58
                  rw [h58]
                  show ml _ _ _ (160, [(0, .ref m0), (1, .int x1), (2, .int x2)], [.int (tgf f cp pa (ixf f pa x1 3))], M) _
                  refine ml_st (S' := (161, [(0, .ref m0), (1, .int x1), (2, .int x2)], [.int 1, .int (tgf f cp pa (ixf f pa x1 3))], M)) rfl rfl rfl ?_
                  refine ml_if2 (S1 := (168, [], [], M)) (S2 := (164, [(0, .ref m0), (1, .int x1), (2, .int x2)], [], M)) rfl rfl rfl (fun c_161 => ?_) (fun c_161 => ?_)
                  · have c_161 : ¬ (tgf f cp pa (ixf f pa x1 3)) = 1 := of_decide_eq_true c_161
                    refine ml_st (S' := (169, [], [.int 0], M)) rfl rfl rfl ?_
                    exact ml_ret rfl (r_z (Or.inl rfl)) (⟨⟨_, rfl, Or.inl rfl, Or.inl rfl⟩, rfl⟩)
                  · have c_161 : ¬ (¬ (tgf f cp pa (ixf f pa x1 3)) = 1) := of_decide_eq_false c_161
                    refine ml_st (S' := (165, [(0, .ref m0), (1, .int x1), (2, .int x2)], [.int 1], M)) rfl rfl rfl ?_
                    refine ml_st (S' := (169, [], [.int 1], M)) rfl rfl rfl ?_
                    exact ml_ret rfl (r_z (Or.inr rfl)) (⟨⟨_, rfl, Or.inr rfl, Or.inr (IXP_12 (Decidable.not_not.mp c_133) ⟨Decidable.not_not.mp c_147, Decidable.not_not.mp c_161⟩)⟩, rfl⟩)
            refine ml_if2 (S1 := (130, [(0, .ref m0), (1, .int x1), (2, .int x2)], [], M)) (S2 := (56, [(0, .ref m0), (1, .int x1), (2, .int x2), (3, .int x3)], [], M)) rfl rfl rfl (fun c_53 => ?_) (fun c_53 => ?_)
            · have c_53 : x2 < 9 := of_decide_eq_true c_53
              exact J_130  (⟨(fun h => by rcases h with h | h | h | h | h; exact c_3 h; exact c_9 h; exact c_15 h; exact c_21 h; exact c_27 h), fun q => by have := i_lt c_53; have q1 := q.1; have : (9 : Int32).toInt = 9 := rfl; omega⟩)
            · have c_53 : ¬ (x2 < 9) := of_decide_eq_false c_53
              refine ml_blk 2 (S' := (59, [(0, .ref m0), (1, .int x1), (2, .int x2), (3, .int x3)], [.int 11, .int x2], M)) rfl ?_
              refine ml_if2 (S1 := (130, [(0, .ref m0), (1, .int x1), (2, .int x2)], [], M)) (S2 := (62, [(0, .ref m0), (1, .int x1), (2, .int x2), (3, .int x3)], [], M)) rfl rfl rfl (fun c_59 => ?_) (fun c_59 => ?_)
              · have c_59 : 11 < x2 := of_decide_eq_true c_59
                exact J_130  (⟨(fun h => by rcases h with h | h | h | h | h; exact c_3 h; exact c_9 h; exact c_15 h; exact c_21 h; exact c_27 h), fun q => by have := i_lt c_59; have q1 := q.2; have : (11 : Int32).toInt = 11 := rfl; omega⟩)
              · have c_59 : ¬ (11 < x2) := of_decide_eq_false c_59
                have ht9 : t9 x2 := ⟨by have q := i_nlt c_53; have : (9 : Int32).toInt = 9 := rfl; omega, by have q := i_nlt c_59; have : (11 : Int32).toInt = 11 := rfl; omega⟩
                refine ml_blk 3 (S' := (65, [(0, .ref m0), (1, .int x1), (2, .int x2), (3, .int x3)], [.int x1, .ref m0, .ref m0], M)) rfl ?_
                refine ml_st (S' := (66, [(0, .ref m0), (1, .int x1), (2, .int x2), (3, .int x3)], [.int 1, .int x1, .ref m0, .ref m0], M)) rfl rfl rfl ?_
                refine ml_call (a := [.ref m0, .int x1, .int 1]) (rest := [.ref m0]) rfl (hR.okc rfl rfl rfl) rfl rfl (rm_index hR hF hP ((hP.tg ht (t9_n0 ht9)).1) ((hP.tg ht (t9_n0 ht9)).2.1) ((hP.tg ht (t9_n0 ht9)).2.2.1) (by decide) (by have q := (hP.tg ht (t9_n0 ht9)).2.2.2.2; rw [show esz _ = 5 from esz_9 ht9] at q; have : (1 : Int32).toInt = 1 := rfl; omega) (by omega)) (fun v59 M60 h61 => ?_)
                obtain ⟨rfl, h61⟩ := h61
                rw [h61]
                show ml _ _ _ (69, [(0, .ref m0), (1, .int x1), (2, .int x2), (3, .int x3)], [.int (ixf f pa x1 1), .ref m0], M) _
                refine ml_call (a := [.ref m0, .int (ixf f pa x1 1)]) (rest := []) rfl (hR.okc rfl rfl rfl) rfl rfl (rm_tag hR hF hP (by omega)) (fun v62 M63 h64 => ?_)
                obtain ⟨rfl, h64⟩ := h64
                rw [h64]
                show ml _ _ _ (72, [(0, .ref m0), (1, .int x1), (2, .int x2), (3, .int x3)], [.int (tgf f cp pa (ixf f pa x1 1))], M) _
                refine ml_st (S' := (74, [(0, .ref m0), (1, .int x1), (2, .int x2), (3, .int x3)], [.int 7, .int (tgf f cp pa (ixf f pa x1 1))], M)) rfl rfl rfl ?_
                refine ml_if2 (S1 := (128, [], [], M)) (S2 := (77, [(0, .ref m0), (1, .int x1), (2, .int x2), (3, .int x3)], [], M)) rfl rfl rfl (fun c_74 => ?_) (fun c_74 => ?_)
                · have c_74 : ¬ (tgf f cp pa (ixf f pa x1 1)) = 7 := of_decide_eq_true c_74
                  refine ml_st (S' := (129, [], [.int 0], M)) rfl rfl rfl ?_
                  exact ml_ret rfl (r_z (Or.inl rfl)) (⟨⟨_, rfl, Or.inl rfl, Or.inl rfl⟩, rfl⟩)
                · have c_74 : ¬ (¬ (tgf f cp pa (ixf f pa x1 1)) = 7) := of_decide_eq_false c_74
                  refine ml_blk 3 (S' := (80, [(0, .ref m0), (1, .int x1), (2, .int x2), (3, .int x3)], [.int x1, .ref m0, .ref m0], M)) rfl ?_
                  refine ml_st (S' := (81, [(0, .ref m0), (1, .int x1), (2, .int x2), (3, .int x3)], [.int 1, .int x1, .ref m0, .ref m0], M)) rfl rfl rfl ?_
                  refine ml_call (a := [.ref m0, .int x1, .int 1]) (rest := [.ref m0]) rfl (hR.okc rfl rfl rfl) rfl rfl (rm_index hR hF hP ((hP.tg ht (t9_n0 ht9)).1) ((hP.tg ht (t9_n0 ht9)).2.1) ((hP.tg ht (t9_n0 ht9)).2.2.1) (by decide) (by have q := (hP.tg ht (t9_n0 ht9)).2.2.2.2; rw [show esz _ = 5 from esz_9 ht9] at q; have : (1 : Int32).toInt = 1 := rfl; omega) (by omega)) (fun v65 M66 h67 => ?_)
                  obtain ⟨rfl, h67⟩ := h67
                  rw [h67]
                  show ml _ _ _ (84, [(0, .ref m0), (1, .int x1), (2, .int x2), (3, .int x3)], [.int (ixf f pa x1 1), .ref m0], M) _
                  refine ml_blk 2 (S' := (87, [(0, .ref m0), (1, .int x1), (2, .int x2), (3, .int x3)], [.int 0, .int 7, .int (ixf f pa x1 1), .ref m0], M)) rfl ?_
                  refine ml_call (a := [.ref m0, .int (ixf f pa x1 1), .int 7, .int 0]) (rest := []) rfl (hR.okc rfl rfl rfl) rfl rfl (rm_indexes0 hR hF hP (Decidable.not_not.mp c_74) (Or.inl rfl) (by omega)) (fun v68 M69 h70 => ?_)
                  obtain ⟨⟨u71, rfl, z72, w73⟩, h70⟩ := h70
                  rw [h70]
                  show ml _ _ _ (90, [(0, .ref m0), (1, .int x1), (2, .int x2), (3, .int x3)], [.int u71], M) _
                  refine ml_if (S1 := (128, [], [], M)) (S2 := (93, [(0, .ref m0), (1, .int x1), (2, .int x2), (3, .int x3)], [], M)) rfl rfl rfl (fun c_90 => ?_) (fun c_90 => ?_)
                  · have c_90 : u71 = 0 := of_decide_eq_true c_90
                    refine ml_st (S' := (129, [], [.int 0], M)) rfl rfl rfl ?_
                    exact ml_ret rfl (r_z (Or.inl rfl)) (⟨⟨_, rfl, Or.inl rfl, Or.inl rfl⟩, rfl⟩)
                  · have c_90 : ¬ (u71 = 0) := of_decide_eq_false c_90
                    refine ml_blk 3 (S' := (96, [(0, .ref m0), (1, .int x1), (2, .int x2), (3, .int x3)], [.int x1, .ref m0, .ref m0], M)) rfl ?_
                    refine ml_st (S' := (97, [(0, .ref m0), (1, .int x1), (2, .int x2), (3, .int x3)], [.int 3, .int x1, .ref m0, .ref m0], M)) rfl rfl rfl ?_
                    refine ml_call (a := [.ref m0, .int x1, .int 3]) (rest := [.ref m0]) rfl (hR.okc rfl rfl rfl) rfl rfl (rm_index hR hF hP ((hP.tg ht (t9_n0 ht9)).1) ((hP.tg ht (t9_n0 ht9)).2.1) ((hP.tg ht (t9_n0 ht9)).2.2.1) (by decide) (by have q := (hP.tg ht (t9_n0 ht9)).2.2.2.2; rw [show esz _ = 5 from esz_9 ht9] at q; have : (3 : Int32).toInt = 3 := rfl; omega) (by omega)) (fun v74 M75 h76 => ?_)
                    obtain ⟨rfl, h76⟩ := h76
                    rw [h76]
                    show ml _ _ _ (100, [(0, .ref m0), (1, .int x1), (2, .int x2), (3, .int x3)], [.int (ixf f pa x1 3), .ref m0], M) _
                    refine ml_call (a := [.ref m0, .int (ixf f pa x1 3)]) (rest := []) rfl (hR.okc rfl rfl rfl) rfl rfl (rm_tag hR hF hP (by omega)) (fun v77 M78 h79 => ?_)
                    obtain ⟨rfl, h79⟩ := h79
                    rw [h79]
                    show ml _ _ _ (103, [(0, .ref m0), (1, .int x1), (2, .int x2), (3, .int x3)], [.int (tgf f cp pa (ixf f pa x1 3))], M) _
                    refine ml_st (S' := (105, [(0, .ref m0), (1, .int x1), (2, .int x2), (3, .int x3)], [.int 12, .int (tgf f cp pa (ixf f pa x1 3))], M)) rfl rfl rfl ?_
                    refine ml_if2 (S1 := (128, [], [], M)) (S2 := (108, [(0, .ref m0), (1, .int x1), (2, .int x2), (3, .int x3)], [], M)) rfl rfl rfl (fun c_105 => ?_) (fun c_105 => ?_)
                    · have c_105 : ¬ (tgf f cp pa (ixf f pa x1 3)) = 12 := of_decide_eq_true c_105
                      refine ml_st (S' := (129, [], [.int 0], M)) rfl rfl rfl ?_
                      exact ml_ret rfl (r_z (Or.inl rfl)) (⟨⟨_, rfl, Or.inl rfl, Or.inl rfl⟩, rfl⟩)
                    · have c_105 : ¬ (¬ (tgf f cp pa (ixf f pa x1 3)) = 12) := of_decide_eq_false c_105
                      refine ml_blk 3 (S' := (111, [(0, .ref m0), (1, .int x1), (2, .int x2), (3, .int x3)], [.int x1, .ref m0, .ref m0], M)) rfl ?_
                      refine ml_st (S' := (112, [(0, .ref m0), (1, .int x1), (2, .int x2), (3, .int x3)], [.int 3, .int x1, .ref m0, .ref m0], M)) rfl rfl rfl ?_
                      refine ml_call (a := [.ref m0, .int x1, .int 3]) (rest := [.ref m0]) rfl (hR.okc rfl rfl rfl) rfl rfl (rm_index hR hF hP ((hP.tg ht (t9_n0 ht9)).1) ((hP.tg ht (t9_n0 ht9)).2.1) ((hP.tg ht (t9_n0 ht9)).2.2.1) (by decide) (by have q := (hP.tg ht (t9_n0 ht9)).2.2.2.2; rw [show esz _ = 5 from esz_9 ht9] at q; have : (3 : Int32).toInt = 3 := rfl; omega) (by omega)) (fun v80 M81 h82 => ?_)
                      obtain ⟨rfl, h82⟩ := h82
                      rw [h82]
                      show ml _ _ _ (115, [(0, .ref m0), (1, .int x1), (2, .int x2), (3, .int x3)], [.int (ixf f pa x1 3), .ref m0], M) _
                      refine ml_blk 2 (S' := (118, [(0, .ref m0), (1, .int x1), (2, .int x2), (3, .int x3)], [.int 0, .int 12, .int (ixf f pa x1 3), .ref m0], M)) rfl ?_
                      refine ml_call (a := [.ref m0, .int (ixf f pa x1 3), .int 12, .int 0]) (rest := []) rfl (hR.okc rfl rfl rfl) rfl rfl (rm_indexes0 hR hF hP (Decidable.not_not.mp c_105) (Or.inr rfl) (by omega)) (fun v83 M84 h85 => ?_)
                      obtain ⟨⟨u86, rfl, z87, w88⟩, h85⟩ := h85
                      rw [h85]
                      show ml _ _ _ (121, [(0, .ref m0), (1, .int x1), (2, .int x2), (3, .int x3)], [.int u86], M) _
                      refine ml_if (S1 := (128, [], [], M)) (S2 := (124, [(0, .ref m0), (1, .int x1), (2, .int x2), (3, .int x3)], [], M)) rfl rfl rfl (fun c_121 => ?_) (fun c_121 => ?_)
                      · have c_121 : u86 = 0 := of_decide_eq_true c_121
                        refine ml_st (S' := (129, [], [.int 0], M)) rfl rfl rfl ?_
                        exact ml_ret rfl (r_z (Or.inl rfl)) (⟨⟨_, rfl, Or.inl rfl, Or.inl rfl⟩, rfl⟩)
                      · have c_121 : ¬ (u86 = 0) := of_decide_eq_false c_121
                        refine ml_st (S' := (125, [(0, .ref m0), (1, .int x1), (2, .int x2), (3, .int x3)], [.int 1], M)) rfl rfl rfl ?_
                        refine ml_st (S' := (129, [], [.int 1], M)) rfl rfl rfl ?_
                        exact ml_ret rfl (r_z (Or.inr rfl)) (⟨⟨_, rfl, Or.inr rfl, Or.inr (IXP_9 ht9 ⟨Decidable.not_not.mp c_74, (w73.resolve_left c_90).1 (Or.inl rfl), Decidable.not_not.mp c_105, (w88.resolve_left c_121).2.1 rfl⟩)⟩, rfl⟩)
          · have c_27 : ¬ (¬ x2 = 20) := of_decide_eq_false c_27
            exact J_30  (Or.inr (Or.inr (Or.inr (Or.inr (Decidable.not_not.mp c_27)))))
end
section
/-! the reference: the pool is checked (laid by wip/p2/c67.py) -/
set_option maxHeartbeats 2000000 in
theorem rm_plainClass {g : xe_G}  {m0 : Nat} {q : Nat → Nat} {z : Nat × Nat} {I : rI} {R : rR} {M : mi_H} {x1 : Int32} {n : Nat} {f : Nat → Int32} {S cN : Nat} {sa sl ch : Nat → Int32} {cp mj : Int32} {pa py : Nat → Int32}  (hR : RS g m0 q z I R M) (hF : FK n f I R) (hY : SK S cN sa sl ch I R) (hP : PK n f S cp mj pa py I R) (hE : EK f cp pa py sa sl ch) {d : Nat} (hd : 5 ≤ d) : mt (mT g) d 235 [.ref m0, .int x1] M (fun v M' => (∃ x : Int32, v = some (.int x) ∧ (x = 0 ∨ x = 1) ∧ (x = 0 ∨ tgf f cp pa x1 = 7)) ∧ M' = M) := by
  obtain ⟨d, rfl⟩ : ∃ e, d = e + 1 := ⟨d - 1, by omega⟩
  refine mt_in (b := mb_235 g) rfl rfl ?_
  show ml (mT g) d (mb_235 g).2 (0, [(0, .ref m0), (1, .int x1)], [], M) _
  refine ml_blk 2 (S' := (2, [(0, .ref m0), (1, .int x1)], [.int x1, .ref m0], M)) rfl ?_
  refine ml_call (a := [.ref m0, .int x1]) (rest := []) rfl (hR.okc rfl rfl rfl) rfl rfl (rm_tag hR hF hP (by omega)) (fun v11 M12 h13 => ?_)
  obtain ⟨rfl, h13⟩ := h13
  rw [h13]
  show ml _ _ _ (5, [(0, .ref m0), (1, .int x1)], [.int (tgf f cp pa x1)], M) _
  refine ml_st (S' := (7, [(0, .ref m0), (1, .int x1)], [.int 7, .int (tgf f cp pa x1)], M)) rfl rfl rfl ?_
  refine ml_if2 (S1 := (29, [], [], M)) (S2 := (10, [(0, .ref m0), (1, .int x1)], [], M)) rfl rfl rfl (fun c_7 => ?_) (fun c_7 => ?_)
  · have c_7 : ¬ (tgf f cp pa x1) = 7 := of_decide_eq_true c_7
    refine ml_st (S' := (30, [], [.int 0], M)) rfl rfl rfl ?_
    exact ml_ret rfl (r_z (Or.inl rfl)) (⟨⟨_, rfl, Or.inl rfl, Or.inl rfl⟩, rfl⟩)
  · have c_7 : ¬ (¬ (tgf f cp pa x1) = 7) := of_decide_eq_false c_7
    have h7 : tgf f cp pa x1 = 7 := Decidable.not_not.mp c_7
    have he := hE x1 (by rw [h7]; decide)
    have hi7 : ix7 f cp pa x1 := he.1.1 (by rw [h7]; exact Or.inl rfl)
    have hy := hP.y hi7
    refine ml_blk 3 (S' := (13, [(0, .ref m0), (1, .int x1)], [.int x1, .ref m0, .ref m0], M)) rfl ?_
    refine ml_call (a := [.ref m0, .int x1]) (rest := [.ref m0]) rfl (hR.okc rfl rfl rfl) rfl rfl (rm_className hR hF hP (h7) (hi7) (by omega)) (fun v14 M15 h16 => ?_)
    obtain ⟨rfl, h16⟩ := h16
    rw [h16]
    show ml _ _ _ (16, [(0, .ref m0), (1, .int x1)], [.int (pyf py (ixf f pa x1 1)), .ref m0], M) _
    refine ml_st (S' := (17, [(0, .ref m0), (1, .int x1)], [.int 0, .int (pyf py (ixf f pa x1 1)), .ref m0], M)) rfl rfl rfl ?_
    refine ml_call (a := [.ref m0, .int (pyf py (ixf f pa x1 1)), .int 0]) (rest := []) rfl (hR.okc rfl rfl rfl) rfl rfl (rm_at hR hY (hy.2.2.1) (hy.2.2.2) (by decide) (by have q := he.2.1 h7; have : (0 : Int32).toInt = 0 := rfl; omega) (by omega)) (fun v17 M18 h19 => ?_)
    obtain ⟨rfl, h19⟩ := h19
    rw [h19]
    show ml _ _ _ (20, [(0, .ref m0), (1, .int x1)], [.int (tx sa ch (pyf py (ixf f pa x1 1)) 0)], M) _
    refine ml_st (S' := (22, [(0, .ref m0), (1, .int x1)], [.int 91, .int (tx sa ch (pyf py (ixf f pa x1 1)) 0)], M)) rfl rfl rfl ?_
    refine ml_if2 (S1 := (29, [], [], M)) (S2 := (25, [(0, .ref m0), (1, .int x1)], [], M)) rfl rfl rfl (fun c_22 => ?_) (fun c_22 => ?_)
    · have c_22 : (tx sa ch (pyf py (ixf f pa x1 1)) 0) = 91 := of_decide_eq_true c_22
      refine ml_st (S' := (30, [], [.int 0], M)) rfl rfl rfl ?_
      exact ml_ret rfl (r_z (Or.inl rfl)) (⟨⟨_, rfl, Or.inl rfl, Or.inl rfl⟩, rfl⟩)
    · have c_22 : ¬ ((tx sa ch (pyf py (ixf f pa x1 1)) 0) = 91) := of_decide_eq_false c_22
      refine ml_st (S' := (26, [(0, .ref m0), (1, .int x1)], [.int 1], M)) rfl rfl rfl ?_
      refine ml_st (S' := (30, [], [.int 1], M)) rfl rfl rfl ?_
      exact ml_ret rfl (r_z (Or.inr rfl)) (⟨⟨_, rfl, Or.inr rfl, Or.inr h7⟩, rfl⟩)
set_option maxHeartbeats 2000000 in
theorem rm_handleEntry {g : xe_G}  {m0 : Nat} {q : Nat → Nat} {z : Nat × Nat} {I : rI} {R : rR} {M : mi_H} {x1 si : Int32} {n : Nat} {f : Nat → Int32} {S cN : Nat} {sa sl ch : Nat → Int32} {cp mj : Int32} {pa py : Nat → Int32}  (hR : RS g m0 q z I R M) (hk9 : I 9 = some si) (hF : FK n f I R) (hY : SK S cN sa sl ch I R) (hP : PK n f S cp mj pa py I R) (ht : tgf f cp pa x1 = 15) (hix : IXP f cp pa x1 15) {d : Nat} (hd : 4 ≤ d) : mt (mT g) d 212 [.ref m0, .int x1] M (fun v M' => (∃ x : Int32, v = some (.int x) ∧ (x = 0 ∨ x = 1)) ∧ M' = M) := by
  obtain ⟨d, rfl⟩ : ∃ e, d = e + 1 := ⟨d - 1, by omega⟩
  refine mt_in (b := mb_212 g) rfl rfl ?_
  show ml (mT g) d (mb_212 g).2 (0, [(0, .ref m0), (1, .int x1)], [], M) _
  have hn := hF.1
  have h15 := hP.tg ht (by decide)
  have q15 : (pa (Int32.toNatClampNeg x1)).toInt + 4 ≤ n := h15.2.2.2.2
  have ea : (pa (Int32.toNatClampNeg x1) + 1).toInt = (pa (Int32.toNatClampNeg x1)).toInt + 1 := i_add (by have : (1 : Int32).toInt = 1 := rfl; have := h15.2.2.1; omega) (by have : (1 : Int32).toInt = 1 := rfl; omega)
  refine ml_blk 2 (S' := (2, [(0, .ref m0), (1, .int x1)], [.ref m0, .ref m0], M)) rfl ?_
  refine rg_ref (S' := (5, [(0, .ref m0), (1, .int x1)], [.ref (q 21), .ref m0], M)) rfl hR rfl rfl ?_
  refine ml_st (S' := (6, [(0, .ref m0), (1, .int x1)], [.ref m0, .ref (q 21), .ref m0], M)) rfl rfl rfl ?_
  refine rg_int (S' := (9, [(0, .ref m0), (1, .int x1)], [.int 0, .ref (q 21), .ref m0], M)) rfl hR rfl (hP.1) rfl ?_
  refine ml_blk 2 (S' := (11, [(0, .ref m0), (1, .int x1)], [.int (0 + x1), .ref (q 21), .ref m0], M)) rfl ?_
  refine ra_ld (k := 21) (S' := (12, [(0, .ref m0), (1, .int x1)], [.int (pa (Int32.toNatClampNeg x1)), .ref m0], M)) rfl hR rfl ((hP.e h15.1 h15.2.1).2.1) ((hP.e h15.1 h15.2.1).1) rfl ?_
  refine ml_blk 2 (S' := (14, [(0, .ref m0), (1, .int x1)], [.int ((pa (Int32.toNatClampNeg x1)) + 1), .ref m0], M)) rfl ?_
  refine ml_call (a := [.ref m0, .int ((pa (Int32.toNatClampNeg x1)) + 1)]) (rest := []) rfl (hR.okc rfl rfl rfl) rfl rfl (rm_u1 hR hF (by have := h15.2.2.1; omega) (by omega) (by omega)) (fun v11 M12 h13 => ?_)
  obtain ⟨rfl, h13⟩ := h13
  rw [h13]
  show ml _ _ _ (17, [(0, .ref m0), (1, .int x1)], [.int (f1 f ((pa (Int32.toNatClampNeg x1)) + 1))], M) _
  refine ml_st (S' := (18, [(2, .int (f1 f ((pa (Int32.toNatClampNeg x1)) + 1))), (0, .ref m0), (1, .int x1)], [], M)) rfl rfl rfl ?_
  refine ml_blk 3 (S' := (21, [(2, .int (f1 f ((pa (Int32.toNatClampNeg x1)) + 1))), (0, .ref m0), (1, .int x1)], [.int 2, .int x1, .ref m0], M)) rfl ?_
  refine ml_call (a := [.ref m0, .int x1, .int 2]) (rest := []) rfl (hR.okc rfl rfl rfl) rfl rfl (rm_index hR hF hP (h15.1) (h15.2.1) (h15.2.2.1) (by decide) (by have : (2 : Int32).toInt = 2 := rfl; omega) (by omega)) (fun v14 M15 h16 => ?_)
  obtain ⟨rfl, h16⟩ := h16
  rw [h16]
  show ml _ _ _ (24, [(2, .int (f1 f ((pa (Int32.toNatClampNeg x1)) + 1))), (0, .ref m0), (1, .int x1)], [.int (ixf f pa x1 2)], M) _
  refine ml_st (S' := (25, [(3, .int (ixf f pa x1 2)), (2, .int (f1 f ((pa (Int32.toNatClampNeg x1)) + 1))), (0, .ref m0), (1, .int x1)], [], M)) rfl rfl rfl ?_
  refine ml_blk 2 (S' := (27, [(3, .int (ixf f pa x1 2)), (2, .int (f1 f ((pa (Int32.toNatClampNeg x1)) + 1))), (0, .ref m0), (1, .int x1)], [.int (ixf f pa x1 2), .ref m0], M)) rfl ?_
  refine ml_call (a := [.ref m0, .int (ixf f pa x1 2)]) (rest := []) rfl (hR.okc rfl rfl rfl) rfl rfl (rm_tag hR hF hP (by omega)) (fun v17 M18 h19 => ?_)
  obtain ⟨rfl, h19⟩ := h19
  rw [h19]
  show ml _ _ _ (30, [(3, .int (ixf f pa x1 2)), (2, .int (f1 f ((pa (Int32.toNatClampNeg x1)) + 1))), (0, .ref m0), (1, .int x1)], [.int (tgf f cp pa (ixf f pa x1 2))], M) _
  refine ml_st (S' := (32, [(4, .int (tgf f cp pa (ixf f pa x1 2))), (3, .int (ixf f pa x1 2)), (2, .int (f1 f ((pa (Int32.toNatClampNeg x1)) + 1))), (0, .ref m0), (1, .int x1)], [], M)) rfl rfl rfl ?_
  refine ml_blk 2 (S' := (34, [(4, .int (tgf f cp pa (ixf f pa x1 2))), (3, .int (ixf f pa x1 2)), (2, .int (f1 f ((pa (Int32.toNatClampNeg x1)) + 1))), (0, .ref m0), (1, .int x1)], [.int 1, .int (f1 f ((pa (Int32.toNatClampNeg x1)) + 1))], M)) rfl ?_
  refine ml_if2 (S1 := (43, [], [], M)) (S2 := (37, [(4, .int (tgf f cp pa (ixf f pa x1 2))), (3, .int (ixf f pa x1 2)), (2, .int (f1 f ((pa (Int32.toNatClampNeg x1)) + 1))), (0, .ref m0), (1, .int x1)], [], M)) rfl rfl rfl (fun c_34 => ?_) (fun c_34 => ?_)
  · have c_34 : (f1 f ((pa (Int32.toNatClampNeg x1)) + 1)) < 1 := of_decide_eq_true c_34
    refine ml_st (S' := (44, [], [.int 0], M)) rfl rfl rfl ?_
    exact ml_ret rfl (r_z (Or.inl rfl)) (⟨⟨_, rfl, Or.inl rfl⟩, rfl⟩)
  · have c_34 : ¬ ((f1 f ((pa (Int32.toNatClampNeg x1)) + 1)) < 1) := of_decide_eq_false c_34
    refine ml_blk 2 (S' := (40, [(4, .int (tgf f cp pa (ixf f pa x1 2))), (3, .int (ixf f pa x1 2)), (2, .int (f1 f ((pa (Int32.toNatClampNeg x1)) + 1))), (0, .ref m0), (1, .int x1)], [.int 9, .int (f1 f ((pa (Int32.toNatClampNeg x1)) + 1))], M)) rfl ?_
    refine ml_if2 (S1 := (45, [(4, .int (tgf f cp pa (ixf f pa x1 2))), (3, .int (ixf f pa x1 2)), (2, .int (f1 f ((pa (Int32.toNatClampNeg x1)) + 1))), (0, .ref m0), (1, .int x1)], [], M)) (S2 := (43, [], [], M)) rfl rfl rfl (fun c_40 => ?_) (fun c_40 => ?_)
    · have c_40 : (f1 f ((pa (Int32.toNatClampNeg x1)) + 1)) ≤ 9 := of_decide_eq_true c_40
      refine ml_blk 2 (S' := (47, [(4, .int (tgf f cp pa (ixf f pa x1 2))), (3, .int (ixf f pa x1 2)), (2, .int (f1 f ((pa (Int32.toNatClampNeg x1)) + 1))), (0, .ref m0), (1, .int x1)], [.int 4, .int (f1 f ((pa (Int32.toNatClampNeg x1)) + 1))], M)) rfl ?_
      refine ml_if2 (S1 := (63, [(4, .int (tgf f cp pa (ixf f pa x1 2))), (3, .int (ixf f pa x1 2)), (2, .int (f1 f ((pa (Int32.toNatClampNeg x1)) + 1))), (0, .ref m0), (1, .int x1)], [], M)) (S2 := (50, [(4, .int (tgf f cp pa (ixf f pa x1 2))), (3, .int (ixf f pa x1 2)), (2, .int (f1 f ((pa (Int32.toNatClampNeg x1)) + 1))), (0, .ref m0), (1, .int x1)], [], M)) rfl rfl rfl (fun c_47 => ?_) (fun c_47 => ?_)
      · have c_47 : 4 < (f1 f ((pa (Int32.toNatClampNeg x1)) + 1)) := of_decide_eq_true c_47
        refine ml_blk 2 (S' := (65, [(4, .int (tgf f cp pa (ixf f pa x1 2))), (3, .int (ixf f pa x1 2)), (2, .int (f1 f ((pa (Int32.toNatClampNeg x1)) + 1))), (0, .ref m0), (1, .int x1)], [.int 5, .int (f1 f ((pa (Int32.toNatClampNeg x1)) + 1))], M)) rfl ?_
        have J_125 : (tgf f cp pa (ixf f pa x1 2) = 10 ∨ tgf f cp pa (ixf f pa x1 2) = 11) → ml (mT g) d (mb_212 g).2 (125, [(0, .ref m0), (2, .int (f1 f ((pa (Int32.toNatClampNeg x1)) + 1))), (3, .int (ixf f pa x1 2))], [], M) (fun v M' => (∃ x : Int32, v = some (.int x) ∧ (x = 0 ∨ x = 1)) ∧ M' = M) := by
          intro hj_125
          have hr9 : t9 (tgf f cp pa (ixf f pa x1 2)) := t9_of (Or.inr hj_125)
          have hi9 := hix.2.2.2.1 rfl hr9
          refine ml_blk 3 (S' := (128, [(0, .ref m0), (2, .int (f1 f ((pa (Int32.toNatClampNeg x1)) + 1))), (3, .int (ixf f pa x1 2))], [.ref m0, .ref m0, .ref m0], M)) rfl ?_
          refine ml_blk 2 (S' := (130, [(0, .ref m0), (2, .int (f1 f ((pa (Int32.toNatClampNeg x1)) + 1))), (3, .int (ixf f pa x1 2))], [.int 3, .int (ixf f pa x1 2), .ref m0, .ref m0, .ref m0], M)) rfl ?_
          refine ml_call (a := [.ref m0, .int (ixf f pa x1 2), .int 3]) (rest := [.ref m0, .ref m0]) rfl (hR.okc rfl rfl rfl) rfl rfl (rm_index hR hF hP ((hP.tg rfl (t9_n0 hr9)).1) ((hP.tg rfl (t9_n0 hr9)).2.1) ((hP.tg rfl (t9_n0 hr9)).2.2.1) (by decide) (by have q := (hP.tg rfl (t9_n0 hr9)).2.2.2.2; rw [show esz _ = 5 from esz_9 hr9] at q; have : (3 : Int32).toInt = 3 := rfl; omega) (by omega)) (fun v20 M21 h22 => ?_)
          obtain ⟨rfl, h22⟩ := h22
          rw [h22]
          show ml _ _ _ (133, [(0, .ref m0), (2, .int (f1 f ((pa (Int32.toNatClampNeg x1)) + 1))), (3, .int (ixf f pa x1 2))], [.int (ixf f pa (ixf f pa x1 2) 3), .ref m0, .ref m0], M) _
          refine ml_st (S' := (134, [(0, .ref m0), (2, .int (f1 f ((pa (Int32.toNatClampNeg x1)) + 1))), (3, .int (ixf f pa x1 2))], [.int 1, .int (ixf f pa (ixf f pa x1 2) 3), .ref m0, .ref m0], M)) rfl rfl rfl ?_
          refine ml_call (a := [.ref m0, .int (ixf f pa (ixf f pa x1 2) 3), .int 1]) (rest := [.ref m0]) rfl (hR.okc rfl rfl rfl) rfl rfl (rm_index hR hF hP ((hP.tg hi9.2.2.1 (by decide)).1) ((hP.tg hi9.2.2.1 (by decide)).2.1) ((hP.tg hi9.2.2.1 (by decide)).2.2.1) (by decide) (by have q := (hP.tg hi9.2.2.1 (by decide)).2.2.2.2; rw [show esz _ = 5 from rfl] at q; have : (1 : Int32).toInt = 1 := rfl; omega) (by omega)) (fun v23 M24 h25 => ?_)
          obtain ⟨rfl, h25⟩ := h25
          rw [h25]
          show ml _ _ _ (137, [(0, .ref m0), (2, .int (f1 f ((pa (Int32.toNatClampNeg x1)) + 1))), (3, .int (ixf f pa x1 2))], [.int (ixf f pa (ixf f pa (ixf f pa x1 2) 3) 1), .ref m0], M) _
          refine ml_call (a := [.ref m0, .int (ixf f pa (ixf f pa (ixf f pa x1 2) 3) 1)]) (rest := []) rfl (hR.okc rfl rfl rfl) rfl rfl (rm_symOf hR hP (hi9.2.2.2.1) (by omega)) (fun v26 M27 h28 => ?_)
          obtain ⟨rfl, h28⟩ := h28
          rw [h28]
          show ml _ _ _ (140, [(0, .ref m0), (2, .int (f1 f ((pa (Int32.toNatClampNeg x1)) + 1))), (3, .int (ixf f pa x1 2))], [.int (pyf py (ixf f pa (ixf f pa (ixf f pa x1 2) 3) 1))], M) _
          refine ml_st (S' := (142, [(5, .int (pyf py (ixf f pa (ixf f pa (ixf f pa x1 2) 3) 1))), (0, .ref m0), (2, .int (f1 f ((pa (Int32.toNatClampNeg x1)) + 1))), (3, .int (ixf f pa x1 2))], [], M)) rfl rfl rfl ?_
          refine ml_blk 2 (S' := (145, [(5, .int (pyf py (ixf f pa (ixf f pa (ixf f pa x1 2) 3) 1))), (0, .ref m0), (2, .int (f1 f ((pa (Int32.toNatClampNeg x1)) + 1))), (3, .int (ixf f pa x1 2))], [.int 8, .int (f1 f ((pa (Int32.toNatClampNeg x1)) + 1))], M)) rfl ?_
          refine ml_if2 (S1 := (152, [(5, .int (pyf py (ixf f pa (ixf f pa (ixf f pa x1 2) 3) 1))), (0, .ref m0), (2, .int (f1 f ((pa (Int32.toNatClampNeg x1)) + 1))), (3, .int (ixf f pa x1 2))], [], M)) (S2 := (148, [(5, .int (pyf py (ixf f pa (ixf f pa (ixf f pa x1 2) 3) 1))), (0, .ref m0), (2, .int (f1 f ((pa (Int32.toNatClampNeg x1)) + 1))), (3, .int (ixf f pa x1 2))], [], M)) rfl rfl rfl (fun c_145 => ?_) (fun c_145 => ?_)
          · have c_145 : ¬ (f1 f ((pa (Int32.toNatClampNeg x1)) + 1)) = 8 := of_decide_eq_true c_145
            refine ml_st (S' := (153, [(0, .ref m0), (5, .int (pyf py (ixf f pa (ixf f pa (ixf f pa x1 2) 3) 1)))], [.int 0], M)) rfl rfl rfl ?_
            refine ml_blk 2 (S' := (156, [(0, .ref m0), (5, .int (pyf py (ixf f pa (ixf f pa (ixf f pa x1 2) 3) 1)))], [.ref m0, .int (pyf py (ixf f pa (ixf f pa (ixf f pa x1 2) 3) 1)), .int 0], M)) rfl ?_
            refine rg_int (S' := (159, [(0, .ref m0), (5, .int (pyf py (ixf f pa (ixf f pa (ixf f pa x1 2) 3) 1)))], [.int si, .int (pyf py (ixf f pa (ixf f pa (ixf f pa x1 2) 3) 1)), .int 0], M)) rfl hR rfl (hk9) rfl ?_
            refine ml_if2 (S1 := (166, [(0, .ref m0), (5, .int (pyf py (ixf f pa (ixf f pa (ixf f pa x1 2) 3) 1)))], [.int 0], M)) (S2 := (162, [(0, .ref m0), (5, .int (pyf py (ixf f pa (ixf f pa (ixf f pa x1 2) 3) 1)))], [.int 0], M)) rfl rfl rfl (fun c_159 => ?_) (fun c_159 => ?_)
            · have c_159 : ¬ (pyf py (ixf f pa (ixf f pa (ixf f pa x1 2) 3) 1)) = si := of_decide_eq_true c_159
              refine ml_st (S' := (167, [], [.int 0, .int 0], M)) rfl rfl rfl ?_
              refine ml_if2 (S1 := (174, [], [], M)) (S2 := (170, [], [], M)) rfl rfl rfl (fun c_167 => ?_) (fun c_167 => ?_)
              · have c_167 : ¬ 0 = 0 := of_decide_eq_true c_167
                refine ml_st (S' := (175, [], [.int 0], M)) rfl rfl rfl ?_
                exact ml_ret rfl (r_z (Or.inl rfl)) (⟨⟨_, rfl, Or.inl rfl⟩, rfl⟩)
              · have c_167 : ¬ (¬ 0 = 0) := of_decide_eq_false c_167
                refine ml_st (S' := (171, [], [.int 1], M)) rfl rfl rfl ?_
                refine ml_st (S' := (175, [], [.int 1], M)) rfl rfl rfl ?_
                exact ml_ret rfl (r_z (Or.inr rfl)) (⟨⟨_, rfl, Or.inr rfl⟩, rfl⟩)
            · have c_159 : ¬ (¬ (pyf py (ixf f pa (ixf f pa (ixf f pa x1 2) 3) 1)) = si) := of_decide_eq_false c_159
              refine ml_st (S' := (163, [(0, .ref m0), (5, .int (pyf py (ixf f pa (ixf f pa (ixf f pa x1 2) 3) 1)))], [.int 1, .int 0], M)) rfl rfl rfl ?_
              refine ml_st (S' := (167, [], [.int 1, .int 0], M)) rfl rfl rfl ?_
              refine ml_if2 (S1 := (174, [], [], M)) (S2 := (170, [], [], M)) rfl rfl rfl (fun c_167 => ?_) (fun c_167 => ?_)
              · have c_167 : ¬ 0 = 1 := of_decide_eq_true c_167
                refine ml_st (S' := (175, [], [.int 0], M)) rfl rfl rfl ?_
                exact ml_ret rfl (r_z (Or.inl rfl)) (⟨⟨_, rfl, Or.inl rfl⟩, rfl⟩)
              · have c_167 : ¬ (¬ 0 = 1) := of_decide_eq_false c_167
                refine ml_st (S' := (171, [], [.int 1], M)) rfl rfl rfl ?_
                refine ml_st (S' := (175, [], [.int 1], M)) rfl rfl rfl ?_
                exact ml_ret rfl (r_z (Or.inr rfl)) (⟨⟨_, rfl, Or.inr rfl⟩, rfl⟩)
          · have c_145 : ¬ (¬ (f1 f ((pa (Int32.toNatClampNeg x1)) + 1)) = 8) := of_decide_eq_false c_145
            refine ml_st (S' := (149, [(5, .int (pyf py (ixf f pa (ixf f pa (ixf f pa x1 2) 3) 1))), (0, .ref m0), (2, .int (f1 f ((pa (Int32.toNatClampNeg x1)) + 1))), (3, .int (ixf f pa x1 2))], [.int 1], M)) rfl rfl rfl ?_
            refine ml_st (S' := (153, [(0, .ref m0), (5, .int (pyf py (ixf f pa (ixf f pa (ixf f pa x1 2) 3) 1)))], [.int 1], M)) rfl rfl rfl ?_
            refine ml_blk 2 (S' := (156, [(0, .ref m0), (5, .int (pyf py (ixf f pa (ixf f pa (ixf f pa x1 2) 3) 1)))], [.ref m0, .int (pyf py (ixf f pa (ixf f pa (ixf f pa x1 2) 3) 1)), .int 1], M)) rfl ?_
            refine rg_int (S' := (159, [(0, .ref m0), (5, .int (pyf py (ixf f pa (ixf f pa (ixf f pa x1 2) 3) 1)))], [.int si, .int (pyf py (ixf f pa (ixf f pa (ixf f pa x1 2) 3) 1)), .int 1], M)) rfl hR rfl (hk9) rfl ?_
            refine ml_if2 (S1 := (166, [(0, .ref m0), (5, .int (pyf py (ixf f pa (ixf f pa (ixf f pa x1 2) 3) 1)))], [.int 1], M)) (S2 := (162, [(0, .ref m0), (5, .int (pyf py (ixf f pa (ixf f pa (ixf f pa x1 2) 3) 1)))], [.int 1], M)) rfl rfl rfl (fun c_159 => ?_) (fun c_159 => ?_)
            · have c_159 : ¬ (pyf py (ixf f pa (ixf f pa (ixf f pa x1 2) 3) 1)) = si := of_decide_eq_true c_159
              refine ml_st (S' := (167, [], [.int 0, .int 1], M)) rfl rfl rfl ?_
              refine ml_if2 (S1 := (174, [], [], M)) (S2 := (170, [], [], M)) rfl rfl rfl (fun c_167 => ?_) (fun c_167 => ?_)
              · have c_167 : ¬ 1 = 0 := of_decide_eq_true c_167
                refine ml_st (S' := (175, [], [.int 0], M)) rfl rfl rfl ?_
                exact ml_ret rfl (r_z (Or.inl rfl)) (⟨⟨_, rfl, Or.inl rfl⟩, rfl⟩)
              · have c_167 : ¬ (¬ 1 = 0) := of_decide_eq_false c_167
                refine ml_st (S' := (171, [], [.int 1], M)) rfl rfl rfl ?_
                refine ml_st (S' := (175, [], [.int 1], M)) rfl rfl rfl ?_
                exact ml_ret rfl (r_z (Or.inr rfl)) (⟨⟨_, rfl, Or.inr rfl⟩, rfl⟩)
            · have c_159 : ¬ (¬ (pyf py (ixf f pa (ixf f pa (ixf f pa x1 2) 3) 1)) = si) := of_decide_eq_false c_159
              refine ml_st (S' := (163, [(0, .ref m0), (5, .int (pyf py (ixf f pa (ixf f pa (ixf f pa x1 2) 3) 1)))], [.int 1, .int 1], M)) rfl rfl rfl ?_
              refine ml_st (S' := (167, [], [.int 1, .int 1], M)) rfl rfl rfl ?_
              refine ml_if2 (S1 := (174, [], [], M)) (S2 := (170, [], [], M)) rfl rfl rfl (fun c_167 => ?_) (fun c_167 => ?_)
              · have c_167 : ¬ 1 = 1 := of_decide_eq_true c_167
                refine ml_st (S' := (175, [], [.int 0], M)) rfl rfl rfl ?_
                exact ml_ret rfl (r_z (Or.inl rfl)) (⟨⟨_, rfl, Or.inl rfl⟩, rfl⟩)
              · have c_167 : ¬ (¬ 1 = 1) := of_decide_eq_false c_167
                refine ml_st (S' := (171, [], [.int 1], M)) rfl rfl rfl ?_
                refine ml_st (S' := (175, [], [.int 1], M)) rfl rfl rfl ?_
                exact ml_ret rfl (r_z (Or.inr rfl)) (⟨⟨_, rfl, Or.inr rfl⟩, rfl⟩)
        refine ml_if2 (S1 := (74, [(0, .ref m0), (2, .int (f1 f ((pa (Int32.toNatClampNeg x1)) + 1))), (3, .int (ixf f pa x1 2)), (4, .int (tgf f cp pa (ixf f pa x1 2)))], [], M)) (S2 := (68, [(4, .int (tgf f cp pa (ixf f pa x1 2))), (3, .int (ixf f pa x1 2)), (2, .int (f1 f ((pa (Int32.toNatClampNeg x1)) + 1))), (0, .ref m0), (1, .int x1)], [], M)) rfl rfl rfl (fun c_65 => ?_) (fun c_65 => ?_)
        · have c_65 : (f1 f ((pa (Int32.toNatClampNeg x1)) + 1)) = 5 := of_decide_eq_true c_65
          refine ml_blk 2 (S' := (78, [(0, .ref m0), (2, .int (f1 f ((pa (Int32.toNatClampNeg x1)) + 1))), (3, .int (ixf f pa x1 2)), (4, .int (tgf f cp pa (ixf f pa x1 2)))], [.int 10, .int (tgf f cp pa (ixf f pa x1 2))], M)) rfl ?_
          refine ml_if2 (S1 := (123, [], [], M)) (S2 := (81, [(0, .ref m0), (2, .int (f1 f ((pa (Int32.toNatClampNeg x1)) + 1))), (3, .int (ixf f pa x1 2)), (4, .int (tgf f cp pa (ixf f pa x1 2)))], [], M)) rfl rfl rfl (fun c_78 => ?_) (fun c_78 => ?_)
          · have c_78 : ¬ (tgf f cp pa (ixf f pa x1 2)) = 10 := of_decide_eq_true c_78
            refine ml_st (S' := (124, [], [.int 0], M)) rfl rfl rfl ?_
            exact ml_ret rfl (r_z (Or.inl rfl)) (⟨⟨_, rfl, Or.inl rfl⟩, rfl⟩)
          · have c_78 : ¬ (¬ (tgf f cp pa (ixf f pa x1 2)) = 10) := of_decide_eq_false c_78
            refine ml_st (S' := (125, [(0, .ref m0), (2, .int (f1 f ((pa (Int32.toNatClampNeg x1)) + 1))), (3, .int (ixf f pa x1 2))], [], M)) rfl rfl rfl ?_
            exact J_125  (Or.inl (Decidable.not_not.mp c_78))
        · have c_65 : ¬ ((f1 f ((pa (Int32.toNatClampNeg x1)) + 1)) = 5) := of_decide_eq_false c_65
          refine ml_blk 2 (S' := (71, [(4, .int (tgf f cp pa (ixf f pa x1 2))), (3, .int (ixf f pa x1 2)), (2, .int (f1 f ((pa (Int32.toNatClampNeg x1)) + 1))), (0, .ref m0), (1, .int x1)], [.int 8, .int (f1 f ((pa (Int32.toNatClampNeg x1)) + 1))], M)) rfl ?_
          refine ml_if2 (S1 := (84, [(4, .int (tgf f cp pa (ixf f pa x1 2))), (3, .int (ixf f pa x1 2)), (2, .int (f1 f ((pa (Int32.toNatClampNeg x1)) + 1))), (0, .ref m0), (1, .int x1)], [], M)) (S2 := (74, [(0, .ref m0), (2, .int (f1 f ((pa (Int32.toNatClampNeg x1)) + 1))), (3, .int (ixf f pa x1 2)), (4, .int (tgf f cp pa (ixf f pa x1 2)))], [], M)) rfl rfl rfl (fun c_71 => ?_) (fun c_71 => ?_)
          · have c_71 : ¬ (f1 f ((pa (Int32.toNatClampNeg x1)) + 1)) = 8 := of_decide_eq_true c_71
            refine ml_blk 2 (S' := (87, [(4, .int (tgf f cp pa (ixf f pa x1 2))), (3, .int (ixf f pa x1 2)), (2, .int (f1 f ((pa (Int32.toNatClampNeg x1)) + 1))), (0, .ref m0), (1, .int x1)], [.int 9, .int (f1 f ((pa (Int32.toNatClampNeg x1)) + 1))], M)) rfl ?_
            refine ml_if2 (S1 := (100, [(4, .int (tgf f cp pa (ixf f pa x1 2))), (3, .int (ixf f pa x1 2)), (2, .int (f1 f ((pa (Int32.toNatClampNeg x1)) + 1))), (0, .ref m0), (1, .int x1)], [], M)) (S2 := (90, [(4, .int (tgf f cp pa (ixf f pa x1 2))), (3, .int (ixf f pa x1 2)), (2, .int (f1 f ((pa (Int32.toNatClampNeg x1)) + 1))), (0, .ref m0), (1, .int x1)], [], M)) rfl rfl rfl (fun c_87 => ?_) (fun c_87 => ?_)
            · have c_87 : ¬ (f1 f ((pa (Int32.toNatClampNeg x1)) + 1)) = 9 := of_decide_eq_true c_87
              refine ml_blk 2 (S' := (104, [(4, .int (tgf f cp pa (ixf f pa x1 2))), (3, .int (ixf f pa x1 2)), (2, .int (f1 f ((pa (Int32.toNatClampNeg x1)) + 1))), (0, .ref m0), (1, .int x1)], [.int 10, .int (tgf f cp pa (ixf f pa x1 2))], M)) rfl ?_
              refine ml_if2 (S1 := (125, [(0, .ref m0), (2, .int (f1 f ((pa (Int32.toNatClampNeg x1)) + 1))), (3, .int (ixf f pa x1 2))], [], M)) (S2 := (107, [(4, .int (tgf f cp pa (ixf f pa x1 2))), (3, .int (ixf f pa x1 2)), (2, .int (f1 f ((pa (Int32.toNatClampNeg x1)) + 1))), (0, .ref m0), (1, .int x1)], [], M)) rfl rfl rfl (fun c_104 => ?_) (fun c_104 => ?_)
              · have c_104 : (tgf f cp pa (ixf f pa x1 2)) = 10 := of_decide_eq_true c_104
                exact J_125  (Or.inl c_104)
              · have c_104 : ¬ ((tgf f cp pa (ixf f pa x1 2)) = 10) := of_decide_eq_false c_104
                refine ml_blk 2 (S' := (111, [(4, .int (tgf f cp pa (ixf f pa x1 2))), (3, .int (ixf f pa x1 2)), (2, .int (f1 f ((pa (Int32.toNatClampNeg x1)) + 1))), (0, .ref m0), (1, .int x1)], [.int 11, .int (tgf f cp pa (ixf f pa x1 2))], M)) rfl ?_
                refine ml_if2 (S1 := (123, [], [], M)) (S2 := (114, [(4, .int (tgf f cp pa (ixf f pa x1 2))), (3, .int (ixf f pa x1 2)), (2, .int (f1 f ((pa (Int32.toNatClampNeg x1)) + 1))), (0, .ref m0), (1, .int x1)], [], M)) rfl rfl rfl (fun c_111 => ?_) (fun c_111 => ?_)
                · have c_111 : ¬ (tgf f cp pa (ixf f pa x1 2)) = 11 := of_decide_eq_true c_111
                  refine ml_st (S' := (124, [], [.int 0], M)) rfl rfl rfl ?_
                  exact ml_ret rfl (r_z (Or.inl rfl)) (⟨⟨_, rfl, Or.inl rfl⟩, rfl⟩)
                · have c_111 : ¬ (¬ (tgf f cp pa (ixf f pa x1 2)) = 11) := of_decide_eq_false c_111
                  refine ml_st (S' := (115, [(4, .int (tgf f cp pa (ixf f pa x1 2))), (3, .int (ixf f pa x1 2)), (2, .int (f1 f ((pa (Int32.toNatClampNeg x1)) + 1))), (0, .ref m0), (1, .int x1)], [.ref m0], M)) rfl rfl rfl ?_
                  refine rg_int (S' := (118, [(4, .int (tgf f cp pa (ixf f pa x1 2))), (3, .int (ixf f pa x1 2)), (2, .int (f1 f ((pa (Int32.toNatClampNeg x1)) + 1))), (0, .ref m0), (1, .int x1)], [.int mj], M)) rfl hR rfl (hP.2.2.1) rfl ?_
                  refine ml_st (S' := (120, [(4, .int (tgf f cp pa (ixf f pa x1 2))), (3, .int (ixf f pa x1 2)), (2, .int (f1 f ((pa (Int32.toNatClampNeg x1)) + 1))), (0, .ref m0), (1, .int x1)], [.int 52, .int mj], M)) rfl rfl rfl ?_
                  refine ml_if2 (S1 := (125, [(0, .ref m0), (2, .int (f1 f ((pa (Int32.toNatClampNeg x1)) + 1))), (3, .int (ixf f pa x1 2))], [], M)) (S2 := (123, [], [], M)) rfl rfl rfl (fun c_120 => ?_) (fun c_120 => ?_)
                  · have c_120 : 52 ≤ mj := of_decide_eq_true c_120
                    exact J_125  (Or.inr (Decidable.not_not.mp c_111))
                  · have c_120 : ¬ (52 ≤ mj) := of_decide_eq_false c_120
                    refine ml_st (S' := (124, [], [.int 0], M)) rfl rfl rfl ?_
                    exact ml_ret rfl (r_z (Or.inl rfl)) (⟨⟨_, rfl, Or.inl rfl⟩, rfl⟩)
            · have c_87 : ¬ (¬ (f1 f ((pa (Int32.toNatClampNeg x1)) + 1)) = 9) := of_decide_eq_false c_87
              refine ml_blk 2 (S' := (94, [(4, .int (tgf f cp pa (ixf f pa x1 2))), (3, .int (ixf f pa x1 2)), (2, .int (f1 f ((pa (Int32.toNatClampNeg x1)) + 1))), (0, .ref m0), (1, .int x1)], [.int 11, .int (tgf f cp pa (ixf f pa x1 2))], M)) rfl ?_
              refine ml_if2 (S1 := (123, [], [], M)) (S2 := (97, [(4, .int (tgf f cp pa (ixf f pa x1 2))), (3, .int (ixf f pa x1 2)), (2, .int (f1 f ((pa (Int32.toNatClampNeg x1)) + 1))), (0, .ref m0), (1, .int x1)], [], M)) rfl rfl rfl (fun c_94 => ?_) (fun c_94 => ?_)
              · have c_94 : ¬ (tgf f cp pa (ixf f pa x1 2)) = 11 := of_decide_eq_true c_94
                refine ml_st (S' := (124, [], [.int 0], M)) rfl rfl rfl ?_
                exact ml_ret rfl (r_z (Or.inl rfl)) (⟨⟨_, rfl, Or.inl rfl⟩, rfl⟩)
              · have c_94 : ¬ (¬ (tgf f cp pa (ixf f pa x1 2)) = 11) := of_decide_eq_false c_94
                refine ml_st (S' := (125, [(0, .ref m0), (2, .int (f1 f ((pa (Int32.toNatClampNeg x1)) + 1))), (3, .int (ixf f pa x1 2))], [], M)) rfl rfl rfl ?_
                exact J_125  (Or.inr (Decidable.not_not.mp c_94))
          · have c_71 : ¬ (¬ (f1 f ((pa (Int32.toNatClampNeg x1)) + 1)) = 8) := of_decide_eq_false c_71
            refine ml_blk 2 (S' := (78, [(0, .ref m0), (2, .int (f1 f ((pa (Int32.toNatClampNeg x1)) + 1))), (3, .int (ixf f pa x1 2)), (4, .int (tgf f cp pa (ixf f pa x1 2)))], [.int 10, .int (tgf f cp pa (ixf f pa x1 2))], M)) rfl ?_
            refine ml_if2 (S1 := (123, [], [], M)) (S2 := (81, [(0, .ref m0), (2, .int (f1 f ((pa (Int32.toNatClampNeg x1)) + 1))), (3, .int (ixf f pa x1 2)), (4, .int (tgf f cp pa (ixf f pa x1 2)))], [], M)) rfl rfl rfl (fun c_78 => ?_) (fun c_78 => ?_)
            · have c_78 : ¬ (tgf f cp pa (ixf f pa x1 2)) = 10 := of_decide_eq_true c_78
              refine ml_st (S' := (124, [], [.int 0], M)) rfl rfl rfl ?_
              exact ml_ret rfl (r_z (Or.inl rfl)) (⟨⟨_, rfl, Or.inl rfl⟩, rfl⟩)
            · have c_78 : ¬ (¬ (tgf f cp pa (ixf f pa x1 2)) = 10) := of_decide_eq_false c_78
              refine ml_st (S' := (125, [(0, .ref m0), (2, .int (f1 f ((pa (Int32.toNatClampNeg x1)) + 1))), (3, .int (ixf f pa x1 2))], [], M)) rfl rfl rfl ?_
              exact J_125  (Or.inl (Decidable.not_not.mp c_78))
      · have c_47 : ¬ (4 < (f1 f ((pa (Int32.toNatClampNeg x1)) + 1))) := of_decide_eq_false c_47
        refine ml_blk 2 (S' := (54, [(4, .int (tgf f cp pa (ixf f pa x1 2))), (3, .int (ixf f pa x1 2)), (2, .int (f1 f ((pa (Int32.toNatClampNeg x1)) + 1))), (0, .ref m0), (1, .int x1)], [.int 9, .int (tgf f cp pa (ixf f pa x1 2))], M)) rfl ?_
        refine ml_if2 (S1 := (61, [(4, .int (tgf f cp pa (ixf f pa x1 2))), (3, .int (ixf f pa x1 2)), (2, .int (f1 f ((pa (Int32.toNatClampNeg x1)) + 1))), (0, .ref m0), (1, .int x1)], [], M)) (S2 := (57, [(4, .int (tgf f cp pa (ixf f pa x1 2))), (3, .int (ixf f pa x1 2)), (2, .int (f1 f ((pa (Int32.toNatClampNeg x1)) + 1))), (0, .ref m0), (1, .int x1)], [], M)) rfl rfl rfl (fun c_54 => ?_) (fun c_54 => ?_)
        · have c_54 : ¬ (tgf f cp pa (ixf f pa x1 2)) = 9 := of_decide_eq_true c_54
          refine ml_st (S' := (62, [], [.int 0], M)) rfl rfl rfl ?_
          exact ml_ret rfl (r_z (Or.inl rfl)) (⟨⟨_, rfl, Or.inl rfl⟩, rfl⟩)
        · have c_54 : ¬ (¬ (tgf f cp pa (ixf f pa x1 2)) = 9) := of_decide_eq_false c_54
          refine ml_st (S' := (58, [(4, .int (tgf f cp pa (ixf f pa x1 2))), (3, .int (ixf f pa x1 2)), (2, .int (f1 f ((pa (Int32.toNatClampNeg x1)) + 1))), (0, .ref m0), (1, .int x1)], [.int 1], M)) rfl rfl rfl ?_
          refine ml_st (S' := (62, [], [.int 1], M)) rfl rfl rfl ?_
          exact ml_ret rfl (r_z (Or.inr rfl)) (⟨⟨_, rfl, Or.inr rfl⟩, rfl⟩)
    · have c_40 : ¬ ((f1 f ((pa (Int32.toNatClampNeg x1)) + 1)) ≤ 9) := of_decide_eq_false c_40
      refine ml_st (S' := (44, [], [.int 0], M)) rfl rfl rfl ?_
      exact ml_ret rfl (r_z (Or.inl rfl)) (⟨⟨_, rfl, Or.inl rfl⟩, rfl⟩)
set_option maxHeartbeats 2000000 in
theorem rm_checkPool {g : xe_G}  {m0 : Nat} {q : Nat → Nat} {z : Nat × Nat} {I : rI} {R : rR} {M : mi_H} {si : Int32} {n : Nat} {f : Nat → Int32} {S cN : Nat} {sa sl ch : Nat → Int32} {cp mj : Int32} {pa py : Nat → Int32}  (hR : RS g m0 q z I R M) (hk9 : I 9 = some si) (hF : FK n f I R) (hY : SK S cN sa sl ch I R) (hP : PK n f S cp mj pa py I R) {d : Nat} (hd : 7 ≤ d) : mt (mT g) d 192 [.ref m0] M (fun v M' => ∃ (x : Int32) (I' : rI) (R' : rR), v = some (.int x) ∧ RS g m0 q z I' R' M' ∧ eqI [47, 48] I I' ∧ eqR [] R R' ∧ (x = 0 ∨ x = 1) ∧ (x = 0 ∨ EK f cp pa py sa sl ch)) := by
  obtain ⟨d, rfl⟩ : ∃ e, d = e + 1 := ⟨d - 1, by omega⟩
  refine mt_in (b := mb_192 g) rfl rfl ?_
  show ml (mT g) d (mb_192 g).2 (0, [(0, .ref m0)], [], M) _
  have hn := hF.1
  refine ml_st (S' := (1, [(0, .ref m0)], [.int 1], M)) rfl rfl rfl ?_
  refine ml_st (S' := (2, [(0, .ref m0), (1, .int 1)], [], M)) rfl rfl rfl ?_
  have L_2 : ∀ (n_2 : Nat) (i2_1 : Int32), (2147483648 - i2_1.toInt).toNat ≤ n_2 → (1 ≤ i2_1.toInt ∧ i2_1.toInt ≤ cp.toInt ∧ ∀ j : Int32, 0 < j.toInt → j.toInt < i2_1.toInt → tgf f cp pa j ≠ 0 → EOK f cp pa py sa sl ch j) → ml (mT g) d (mb_192 g).2 (2, [(0, .ref m0), (1, .int i2_1)], [], M) (fun v M' => ∃ (x : Int32) (I' : rI) (R' : rR), v = some (.int x) ∧ RS g m0 q z I' R' M' ∧ eqI [47, 48] I I' ∧ eqR [] R R' ∧ (x = 0 ∨ x = 1) ∧ (x = 0 ∨ EK f cp pa py sa sl ch)) := by
    intro n_2
    induction n_2 with
    | zero => intro i2_1 hn; exact (loop_zero hn).elim
    | succ n_2 ih_2 =>
      intro i2_1 hn_2 hi_2
      obtain ⟨hk0, hk1, hall⟩ := hi_2
      refine ml_blk 2 (S' := (4, [(0, .ref m0), (1, .int i2_1)], [.ref m0, .int i2_1], M)) rfl ?_
      refine rg_int (S' := (7, [(0, .ref m0), (1, .int i2_1)], [.int cp, .int i2_1], M)) rfl hR rfl (hP.2.1) rfl ?_
      refine ml_if2 (S1 := (426, [(0, .ref m0), (1, .int i2_1)], [], M)) (S2 := (10, [(0, .ref m0), (1, .int i2_1)], [], M)) rfl rfl rfl (fun c_7 => ?_) (fun c_7 => ?_)
      · have c_7 : cp ≤ i2_1 := of_decide_eq_true c_7
        refine ml_st (S' := (427, [(0, .ref m0), (1, .int i2_1)], [.int 1], M)) rfl rfl rfl ?_
        exact ml_ret rfl (r_z (Or.inr rfl)) (⟨_, _, _, rfl, hR, eqI.rf, eqR.rf, Or.inr rfl, Or.inr (fun j hj => by obtain ⟨a1, a2, -⟩ := tgf_in rfl hj; exact hall j a1 (by have := i_le c_7; omega) hj)⟩)
      · have c_7 : ¬ (cp ≤ i2_1) := of_decide_eq_false c_7
        have hkl := i_nle c_7
        have he0 := hP.e (k := i2_1) (by omega) hkl
        refine ml_st (S' := (11, [(0, .ref m0), (1, .int i2_1)], [.ref m0], M)) rfl rfl rfl ?_
        refine rg_ref (S' := (14, [(0, .ref m0), (1, .int i2_1)], [.ref (q 21)], M)) rfl hR rfl rfl ?_
        refine ml_st (S' := (15, [(0, .ref m0), (1, .int i2_1)], [.ref m0, .ref (q 21)], M)) rfl rfl rfl ?_
        refine rg_int (S' := (18, [(0, .ref m0), (1, .int i2_1)], [.int 0, .ref (q 21)], M)) rfl hR rfl (hP.1) rfl ?_
        refine ml_blk 2 (S' := (20, [(0, .ref m0), (1, .int i2_1)], [.int (0 + i2_1), .ref (q 21)], M)) rfl ?_
        refine ra_ld (k := 21) (S' := (21, [(0, .ref m0), (1, .int i2_1)], [.int (pa (Int32.toNatClampNeg i2_1))], M)) rfl hR rfl (he0.2.1) (he0.1) rfl ?_
        refine ml_st (S' := (22, [(2, .int (pa (Int32.toNatClampNeg i2_1))), (0, .ref m0), (1, .int i2_1)], [], M)) rfl rfl rfl ?_
        refine ml_st (S' := (23, [(2, .int (pa (Int32.toNatClampNeg i2_1))), (0, .ref m0), (1, .int i2_1)], [.int (pa (Int32.toNatClampNeg i2_1))], M)) rfl rfl rfl ?_
        have J_420 : (tgf f cp pa i2_1 ≠ 0 → EOK f cp pa py sa sl ch i2_1) → ml (mT g) d (mb_192 g).2 (420, [(0, .ref m0), (1, .int i2_1)], [], M) (fun v M' => ∃ (x : Int32) (I' : rI) (R' : rR), v = some (.int x) ∧ RS g m0 q z I' R' M' ∧ eqI [47, 48] I I' ∧ eqR [] R R' ∧ (x = 0 ∨ x = 1) ∧ (x = 0 ∨ EK f cp pa py sa sl ch)) := by
          intro hj_420
          refine ml_st (S' := (423, [(1, .int (i2_1 + 1)), (0, .ref m0)], [], M)) rfl rfl rfl ?_
          refine ml_st (S' := (2, [(0, .ref m0), (1, .int (i2_1 + 1))], [], M)) rfl rfl rfl ?_
          exact ih_2 (i2_1 + 1) (loop_inc (Int32.not_le.mp c_7) hn_2) (⟨by rw [inc_lt (Int32.not_le.mp c_7)]; omega, by rw [inc_lt (Int32.not_le.mp c_7)]; omega, fun j h0 h1 h2 => by rw [inc_lt (Int32.not_le.mp c_7)] at h1; by_cases e : j = i2_1; (rw [e] at h2 ⊢; exact hj_420 h2); (exact hall j h0 (by have : j.toInt ≠ i2_1.toInt := fun q => e (Int32.toInt_inj.mp q); omega) h2)⟩)
        refine ml_if (S1 := (29, [(2, .int (pa (Int32.toNatClampNeg i2_1))), (0, .ref m0), (1, .int i2_1)], [], M)) (S2 := (26, [(2, .int (pa (Int32.toNatClampNeg i2_1))), (0, .ref m0), (1, .int i2_1)], [], M)) rfl rfl rfl (fun c_23 => ?_) (fun c_23 => ?_)
        · have c_23 : 0 ≤ (pa (Int32.toNatClampNeg i2_1)) := of_decide_eq_true c_23
          have hp0 : 0 ≤ (pa (Int32.toNatClampNeg i2_1)).toInt := by have q := i_le c_23; have : (0 : Int32).toInt = 0 := rfl; omega
          have hent := he0.2.2.resolve_left (m1_neg hp0)
          have htg : tgf f cp pa i2_1 = (f1 f (pa (Int32.toNatClampNeg i2_1))) := tgf_of (by omega) hkl hp0
          refine ml_blk 2 (S' := (31, [(2, .int (pa (Int32.toNatClampNeg i2_1))), (0, .ref m0), (1, .int i2_1)], [.int (pa (Int32.toNatClampNeg i2_1)), .ref m0], M)) rfl ?_
          refine ml_call (a := [.ref m0, .int (pa (Int32.toNatClampNeg i2_1))]) (rest := []) rfl (hR.okc rfl rfl rfl) rfl rfl (rm_u1 hR hF (hp0) (by have := esz_ge (t := (f1 f (pa (Int32.toNatClampNeg i2_1)))); have := hent.2.1; omega) (by omega)) (fun v11 M12 h13 => ?_)
          obtain ⟨rfl, h13⟩ := h13
          rw [h13]
          show ml _ _ _ (34, [(2, .int (pa (Int32.toNatClampNeg i2_1))), (0, .ref m0), (1, .int i2_1)], [.int (f1 f (pa (Int32.toNatClampNeg i2_1)))], M) _
          refine ml_st (S' := (35, [(3, .int (f1 f (pa (Int32.toNatClampNeg i2_1)))), (2, .int (pa (Int32.toNatClampNeg i2_1))), (0, .ref m0), (1, .int i2_1)], [], M)) rfl rfl rfl ?_
          refine ml_blk 3 (S' := (38, [(3, .int (f1 f (pa (Int32.toNatClampNeg i2_1)))), (2, .int (pa (Int32.toNatClampNeg i2_1))), (0, .ref m0), (1, .int i2_1)], [.int (f1 f (pa (Int32.toNatClampNeg i2_1))), .int i2_1, .ref m0], M)) rfl ?_
          refine ml_st (S' := (39, [(3, .int (f1 f (pa (Int32.toNatClampNeg i2_1)))), (2, .int (pa (Int32.toNatClampNeg i2_1))), (0, .ref m0), (1, .int i2_1)], [.int 1, .int (f1 f (pa (Int32.toNatClampNeg i2_1))), .int i2_1, .ref m0], M)) rfl rfl rfl ?_
          refine ml_call (a := [.ref m0, .int i2_1, .int (f1 f (pa (Int32.toNatClampNeg i2_1))), .int 1]) (rest := []) rfl (hR.okc rfl rfl rfl) rfl rfl (rm_indexes hR hF hP (htg) (by omega)) (fun v14 M15 h16 => ?_)
          obtain ⟨⟨u17, rfl, z18, w19⟩, h16⟩ := h16
          rw [h16]
          show ml _ _ _ (42, [(3, .int (f1 f (pa (Int32.toNatClampNeg i2_1)))), (2, .int (pa (Int32.toNatClampNeg i2_1))), (0, .ref m0), (1, .int i2_1)], [.int u17], M) _
          refine ml_if (S1 := (53, [(3, .int (f1 f (pa (Int32.toNatClampNeg i2_1)))), (2, .int (pa (Int32.toNatClampNeg i2_1))), (0, .ref m0), (1, .int i2_1)], [], M)) (S2 := (45, [(3, .int (f1 f (pa (Int32.toNatClampNeg i2_1)))), (2, .int (pa (Int32.toNatClampNeg i2_1))), (0, .ref m0), (1, .int i2_1)], [], M)) rfl rfl rfl (fun c_42 => ?_) (fun c_42 => ?_)
          · have c_42 : ¬ u17 = 0 := of_decide_eq_true c_42
            have hix := w19.resolve_left c_42
            refine ml_blk 2 (S' := (56, [(3, .int (f1 f (pa (Int32.toNatClampNeg i2_1)))), (2, .int (pa (Int32.toNatClampNeg i2_1))), (0, .ref m0), (1, .int i2_1)], [.int 7, .int (f1 f (pa (Int32.toNatClampNeg i2_1)))], M)) rfl ?_
            have J_84 : ((f1 f (pa (Int32.toNatClampNeg i2_1))) = 7 → 0 < (sL sl (pyf py (ixf f pa i2_1 1))).toInt) → ml (mT g) d (mb_192 g).2 (84, [(0, .ref m0), (1, .int i2_1), (2, .int (pa (Int32.toNatClampNeg i2_1))), (3, .int (f1 f (pa (Int32.toNatClampNeg i2_1))))], [], M) (fun v M' => ∃ (x : Int32) (I' : rI) (R' : rR), v = some (.int x) ∧ RS g m0 q z I' R' M' ∧ eqI [47, 48] I I' ∧ eqR [] R R' ∧ (x = 0 ∨ x = 1) ∧ (x = 0 ∨ EK f cp pa py sa sl ch)) := by
              intro hj_84
              refine ml_blk 2 (S' := (87, [(0, .ref m0), (1, .int i2_1), (2, .int (pa (Int32.toNatClampNeg i2_1))), (3, .int (f1 f (pa (Int32.toNatClampNeg i2_1))))], [.int 12, .int (f1 f (pa (Int32.toNatClampNeg i2_1)))], M)) rfl ?_
              have J_150 : ml (mT g) d (mb_192 g).2 (150, [(0, .ref m0), (1, .int i2_1), (2, .int (pa (Int32.toNatClampNeg i2_1))), (3, .int (f1 f (pa (Int32.toNatClampNeg i2_1))))], [], M) (fun v M' => ∃ (x : Int32) (I' : rI) (R' : rR), v = some (.int x) ∧ RS g m0 q z I' R' M' ∧ eqI [47, 48] I I' ∧ eqR [] R R' ∧ (x = 0 ∨ x = 1) ∧ (x = 0 ∨ EK f cp pa py sa sl ch)) := by
                refine ml_blk 2 (S' := (153, [(0, .ref m0), (1, .int i2_1), (2, .int (pa (Int32.toNatClampNeg i2_1))), (3, .int (f1 f (pa (Int32.toNatClampNeg i2_1))))], [.int 9, .int (f1 f (pa (Int32.toNatClampNeg i2_1)))], M)) rfl ?_
                have J_277 : ((f1 f (pa (Int32.toNatClampNeg i2_1))) = 10 ∨ (f1 f (pa (Int32.toNatClampNeg i2_1))) = 11 → MTX sa sl ch (pyf py (ixf f pa (ixf f pa i2_1 3) 3))) → ml (mT g) d (mb_192 g).2 (277, [(0, .ref m0), (1, .int i2_1), (2, .int (pa (Int32.toNatClampNeg i2_1))), (3, .int (f1 f (pa (Int32.toNatClampNeg i2_1))))], [], M) (fun v M' => ∃ (x : Int32) (I' : rI) (R' : rR), v = some (.int x) ∧ RS g m0 q z I' R' M' ∧ eqI [47, 48] I I' ∧ eqR [] R R' ∧ (x = 0 ∨ x = 1) ∧ (x = 0 ∨ EK f cp pa py sa sl ch)) := by
                  intro hj_277
                  refine ml_blk 2 (S' := (280, [(0, .ref m0), (1, .int i2_1), (2, .int (pa (Int32.toNatClampNeg i2_1))), (3, .int (f1 f (pa (Int32.toNatClampNeg i2_1))))], [.int 15, .int (f1 f (pa (Int32.toNatClampNeg i2_1)))], M)) rfl ?_
                  have J_299 : ml (mT g) d (mb_192 g).2 (299, [(0, .ref m0), (1, .int i2_1), (2, .int (pa (Int32.toNatClampNeg i2_1))), (3, .int (f1 f (pa (Int32.toNatClampNeg i2_1))))], [], M) (fun v M' => ∃ (x : Int32) (I' : rI) (R' : rR), v = some (.int x) ∧ RS g m0 q z I' R' M' ∧ eqI [47, 48] I I' ∧ eqR [] R R' ∧ (x = 0 ∨ x = 1) ∧ (x = 0 ∨ EK f cp pa py sa sl ch)) := by
                    refine ml_blk 2 (S' := (302, [(0, .ref m0), (1, .int i2_1), (2, .int (pa (Int32.toNatClampNeg i2_1))), (3, .int (f1 f (pa (Int32.toNatClampNeg i2_1))))], [.int 16, .int (f1 f (pa (Int32.toNatClampNeg i2_1)))], M)) rfl ?_
                    have J_330 : ml (mT g) d (mb_192 g).2 (330, [(0, .ref m0), (1, .int i2_1), (2, .int (pa (Int32.toNatClampNeg i2_1))), (3, .int (f1 f (pa (Int32.toNatClampNeg i2_1))))], [], M) (fun v M' => ∃ (x : Int32) (I' : rI) (R' : rR), v = some (.int x) ∧ RS g m0 q z I' R' M' ∧ eqI [47, 48] I I' ∧ eqR [] R R' ∧ (x = 0 ∨ x = 1) ∧ (x = 0 ∨ EK f cp pa py sa sl ch)) := by
                      refine ml_blk 2 (S' := (333, [(0, .ref m0), (1, .int i2_1), (2, .int (pa (Int32.toNatClampNeg i2_1))), (3, .int (f1 f (pa (Int32.toNatClampNeg i2_1))))], [.int 17, .int (f1 f (pa (Int32.toNatClampNeg i2_1)))], M)) rfl ?_
                      have J_342 : ((f1 f (pa (Int32.toNatClampNeg i2_1))) = 17 ∨ (f1 f (pa (Int32.toNatClampNeg i2_1))) = 18) → ml (mT g) d (mb_192 g).2 (342, [(0, .ref m0), (1, .int i2_1), (2, .int (pa (Int32.toNatClampNeg i2_1))), (3, .int (f1 f (pa (Int32.toNatClampNeg i2_1))))], [], M) (fun v M' => ∃ (x : Int32) (I' : rI) (R' : rR), v = some (.int x) ∧ RS g m0 q z I' R' M' ∧ eqI [47, 48] I I' ∧ eqR [] R R' ∧ (x = 0 ∨ x = 1) ∧ (x = 0 ∨ EK f cp pa py sa sl ch)) := by
                        intro hj_342
                        have hi17 := hix.2.2.2.2 hj_342
                        have hyA := hP.y hi17.2.1
                        have hyB := hP.y hi17.2.2
                        have hz17 : (f1 f (pa (Int32.toNatClampNeg i2_1))) ≠ 0 := (fun e => by rcases hj_342 with h | h <;> rw [h] at e <;> exact absurd e (by decide))
                        refine ml_blk 3 (S' := (345, [(0, .ref m0), (1, .int i2_1), (2, .int (pa (Int32.toNatClampNeg i2_1))), (3, .int (f1 f (pa (Int32.toNatClampNeg i2_1))))], [.ref m0, .ref m0, .ref m0], M)) rfl ?_
                        refine ml_blk 2 (S' := (347, [(0, .ref m0), (1, .int i2_1), (2, .int (pa (Int32.toNatClampNeg i2_1))), (3, .int (f1 f (pa (Int32.toNatClampNeg i2_1))))], [.int 3, .int i2_1, .ref m0, .ref m0, .ref m0], M)) rfl ?_
                        refine ml_call (a := [.ref m0, .int i2_1, .int 3]) (rest := [.ref m0, .ref m0]) rfl (hR.okc rfl rfl rfl) rfl rfl (rm_index hR hF hP ((hP.tg htg hz17).1) ((hP.tg htg hz17).2.1) ((hP.tg htg hz17).2.2.1) (by decide) (by have q := (hP.tg htg hz17).2.2.2.2; rw [show esz _ = 5 from esz_17 hj_342] at q; have : (3 : Int32).toInt = 3 := rfl; omega) (by omega)) (fun v20 M21 h22 => ?_)
                        obtain ⟨rfl, h22⟩ := h22
                        rw [h22]
                        show ml _ _ _ (350, [(0, .ref m0), (1, .int i2_1), (2, .int (pa (Int32.toNatClampNeg i2_1))), (3, .int (f1 f (pa (Int32.toNatClampNeg i2_1))))], [.int (ixf f pa i2_1 3), .ref m0, .ref m0], M) _
                        refine ml_st (S' := (351, [(0, .ref m0), (1, .int i2_1), (2, .int (pa (Int32.toNatClampNeg i2_1))), (3, .int (f1 f (pa (Int32.toNatClampNeg i2_1))))], [.int 1, .int (ixf f pa i2_1 3), .ref m0, .ref m0], M)) rfl rfl rfl ?_
                        refine ml_call (a := [.ref m0, .int (ixf f pa i2_1 3), .int 1]) (rest := [.ref m0]) rfl (hR.okc rfl rfl rfl) rfl rfl (rm_index hR hF hP ((hP.tg hi17.1 (by decide)).1) ((hP.tg hi17.1 (by decide)).2.1) ((hP.tg hi17.1 (by decide)).2.2.1) (by decide) (by have q := (hP.tg hi17.1 (by decide)).2.2.2.2; rw [show esz _ = 5 from rfl] at q; have : (1 : Int32).toInt = 1 := rfl; omega) (by omega)) (fun v23 M24 h25 => ?_)
                        obtain ⟨rfl, h25⟩ := h25
                        rw [h25]
                        show ml _ _ _ (354, [(0, .ref m0), (1, .int i2_1), (2, .int (pa (Int32.toNatClampNeg i2_1))), (3, .int (f1 f (pa (Int32.toNatClampNeg i2_1))))], [.int (ixf f pa (ixf f pa i2_1 3) 1), .ref m0], M) _
                        refine ml_call (a := [.ref m0, .int (ixf f pa (ixf f pa i2_1 3) 1)]) (rest := []) rfl (hR.okc rfl rfl rfl) rfl rfl (rm_symOf hR hP (hi17.2.1) (by omega)) (fun v26 M27 h28 => ?_)
                        obtain ⟨rfl, h28⟩ := h28
                        rw [h28]
                        show ml _ _ _ (357, [(0, .ref m0), (1, .int i2_1), (2, .int (pa (Int32.toNatClampNeg i2_1))), (3, .int (f1 f (pa (Int32.toNatClampNeg i2_1))))], [.int (pyf py (ixf f pa (ixf f pa i2_1 3) 1))], M) _
                        refine ml_st (S' := (359, [(4, .int (pyf py (ixf f pa (ixf f pa i2_1 3) 1))), (0, .ref m0), (1, .int i2_1), (2, .int (pa (Int32.toNatClampNeg i2_1))), (3, .int (f1 f (pa (Int32.toNatClampNeg i2_1))))], [], M)) rfl rfl rfl ?_
                        refine ml_blk 3 (S' := (362, [(4, .int (pyf py (ixf f pa (ixf f pa i2_1 3) 1))), (0, .ref m0), (1, .int i2_1), (2, .int (pa (Int32.toNatClampNeg i2_1))), (3, .int (f1 f (pa (Int32.toNatClampNeg i2_1))))], [.ref m0, .ref m0, .ref m0], M)) rfl ?_
                        refine ml_blk 2 (S' := (364, [(4, .int (pyf py (ixf f pa (ixf f pa i2_1 3) 1))), (0, .ref m0), (1, .int i2_1), (2, .int (pa (Int32.toNatClampNeg i2_1))), (3, .int (f1 f (pa (Int32.toNatClampNeg i2_1))))], [.int 3, .int i2_1, .ref m0, .ref m0, .ref m0], M)) rfl ?_
                        refine ml_call (a := [.ref m0, .int i2_1, .int 3]) (rest := [.ref m0, .ref m0]) rfl (hR.okc rfl rfl rfl) rfl rfl (rm_index hR hF hP ((hP.tg htg hz17).1) ((hP.tg htg hz17).2.1) ((hP.tg htg hz17).2.2.1) (by decide) (by have q := (hP.tg htg hz17).2.2.2.2; rw [show esz _ = 5 from esz_17 hj_342] at q; have : (3 : Int32).toInt = 3 := rfl; omega) (by omega)) (fun v29 M30 h31 => ?_)
                        obtain ⟨rfl, h31⟩ := h31
                        rw [h31]
                        show ml _ _ _ (367, [(4, .int (pyf py (ixf f pa (ixf f pa i2_1 3) 1))), (0, .ref m0), (1, .int i2_1), (2, .int (pa (Int32.toNatClampNeg i2_1))), (3, .int (f1 f (pa (Int32.toNatClampNeg i2_1))))], [.int (ixf f pa i2_1 3), .ref m0, .ref m0], M) _
                        refine ml_st (S' := (368, [(4, .int (pyf py (ixf f pa (ixf f pa i2_1 3) 1))), (0, .ref m0), (1, .int i2_1), (2, .int (pa (Int32.toNatClampNeg i2_1))), (3, .int (f1 f (pa (Int32.toNatClampNeg i2_1))))], [.int 3, .int (ixf f pa i2_1 3), .ref m0, .ref m0], M)) rfl rfl rfl ?_
                        refine ml_call (a := [.ref m0, .int (ixf f pa i2_1 3), .int 3]) (rest := [.ref m0]) rfl (hR.okc rfl rfl rfl) rfl rfl (rm_index hR hF hP ((hP.tg hi17.1 (by decide)).1) ((hP.tg hi17.1 (by decide)).2.1) ((hP.tg hi17.1 (by decide)).2.2.1) (by decide) (by have q := (hP.tg hi17.1 (by decide)).2.2.2.2; rw [show esz _ = 5 from rfl] at q; have : (3 : Int32).toInt = 3 := rfl; omega) (by omega)) (fun v32 M33 h34 => ?_)
                        obtain ⟨rfl, h34⟩ := h34
                        rw [h34]
                        show ml _ _ _ (371, [(4, .int (pyf py (ixf f pa (ixf f pa i2_1 3) 1))), (0, .ref m0), (1, .int i2_1), (2, .int (pa (Int32.toNatClampNeg i2_1))), (3, .int (f1 f (pa (Int32.toNatClampNeg i2_1))))], [.int (ixf f pa (ixf f pa i2_1 3) 3), .ref m0], M) _
                        refine ml_call (a := [.ref m0, .int (ixf f pa (ixf f pa i2_1 3) 3)]) (rest := []) rfl (hR.okc rfl rfl rfl) rfl rfl (rm_symOf hR hP (hi17.2.2) (by omega)) (fun v35 M36 h37 => ?_)
                        obtain ⟨rfl, h37⟩ := h37
                        rw [h37]
                        show ml _ _ _ (374, [(4, .int (pyf py (ixf f pa (ixf f pa i2_1 3) 1))), (0, .ref m0), (1, .int i2_1), (2, .int (pa (Int32.toNatClampNeg i2_1))), (3, .int (f1 f (pa (Int32.toNatClampNeg i2_1))))], [.int (pyf py (ixf f pa (ixf f pa i2_1 3) 3))], M) _
                        refine ml_st (S' := (376, [(5, .int (pyf py (ixf f pa (ixf f pa i2_1 3) 3))), (4, .int (pyf py (ixf f pa (ixf f pa i2_1 3) 1))), (0, .ref m0), (1, .int i2_1), (2, .int (pa (Int32.toNatClampNeg i2_1))), (3, .int (f1 f (pa (Int32.toNatClampNeg i2_1))))], [], M)) rfl rfl rfl ?_
                        refine ml_blk 2 (S' := (379, [(5, .int (pyf py (ixf f pa (ixf f pa i2_1 3) 3))), (4, .int (pyf py (ixf f pa (ixf f pa i2_1 3) 1))), (0, .ref m0), (1, .int i2_1), (2, .int (pa (Int32.toNatClampNeg i2_1))), (3, .int (f1 f (pa (Int32.toNatClampNeg i2_1))))], [.int (pyf py (ixf f pa (ixf f pa i2_1 3) 1)), .ref m0], M)) rfl ?_
                        refine ml_call (a := [.ref m0, .int (pyf py (ixf f pa (ixf f pa i2_1 3) 1))]) (rest := []) rfl (hR.okc rfl rfl rfl) rfl rfl (rm_angles hR hY (hyA.2.2.1) (hyA.2.2.2) (by omega)) (fun v38 M39 h40 => ?_)
                        obtain ⟨⟨u41, rfl, z42⟩, h40⟩ := h40
                        rw [h40]
                        show ml _ _ _ (382, [(5, .int (pyf py (ixf f pa (ixf f pa i2_1 3) 3))), (4, .int (pyf py (ixf f pa (ixf f pa i2_1 3) 1))), (0, .ref m0), (1, .int i2_1), (2, .int (pa (Int32.toNatClampNeg i2_1))), (3, .int (f1 f (pa (Int32.toNatClampNeg i2_1))))], [.int u41], M) _
                        refine ml_if (S1 := (412, [(0, .ref m0), (2, .int (pa (Int32.toNatClampNeg i2_1)))], [], M)) (S2 := (385, [(5, .int (pyf py (ixf f pa (ixf f pa i2_1 3) 3))), (4, .int (pyf py (ixf f pa (ixf f pa i2_1 3) 1))), (0, .ref m0), (1, .int i2_1), (2, .int (pa (Int32.toNatClampNeg i2_1))), (3, .int (f1 f (pa (Int32.toNatClampNeg i2_1))))], [], M)) rfl rfl rfl (fun c_382 => ?_) (fun c_382 => ?_)
                        · have c_382 : ¬ u41 = 0 := of_decide_eq_true c_382
                          refine ml_blk 3 (S' := (416, [(0, .ref m0), (2, .int (pa (Int32.toNatClampNeg i2_1)))], [.int (pa (Int32.toNatClampNeg i2_1)), .int 14, .ref m0], M)) rfl ?_
                          refine ml_call (a := [.ref m0, .int 14, .int (pa (Int32.toNatClampNeg i2_1))]) (rest := []) rfl (hR.okc rfl rfl rfl) rfl rfl (rm_wrong hR (by omega)) (fun v43 M44 h45 => ?_)
                          obtain ⟨u51, I46, R47, rfl, hR48, hI49, hV50, z52, w53⟩ := h45
                          show ml _ _ _ (419, [(0, .ref m0), (2, .int (pa (Int32.toNatClampNeg i2_1)))], [.int u51], M44) _
                          exact ml_ret rfl (r_z (z52)) (⟨_, _, _, rfl, hR48, (eqI.rf.tr hI49 (by decide)), (eqR.rf.tr hV50 (by decide)), z52, Or.inl w53⟩)
                        · have c_382 : ¬ (¬ u41 = 0) := of_decide_eq_false c_382
                          refine ml_blk 2 (S' := (388, [(5, .int (pyf py (ixf f pa (ixf f pa i2_1 3) 3))), (4, .int (pyf py (ixf f pa (ixf f pa i2_1 3) 1))), (0, .ref m0), (1, .int i2_1), (2, .int (pa (Int32.toNatClampNeg i2_1))), (3, .int (f1 f (pa (Int32.toNatClampNeg i2_1))))], [.int 17, .int (f1 f (pa (Int32.toNatClampNeg i2_1)))], M)) rfl ?_
                          refine ml_if2 (S1 := (403, [(5, .int (pyf py (ixf f pa (ixf f pa i2_1 3) 3))), (4, .int (pyf py (ixf f pa (ixf f pa i2_1 3) 1))), (0, .ref m0), (1, .int i2_1), (2, .int (pa (Int32.toNatClampNeg i2_1))), (3, .int (f1 f (pa (Int32.toNatClampNeg i2_1))))], [], M)) (S2 := (391, [(5, .int (pyf py (ixf f pa (ixf f pa i2_1 3) 3))), (4, .int (pyf py (ixf f pa (ixf f pa i2_1 3) 1))), (0, .ref m0), (1, .int i2_1), (2, .int (pa (Int32.toNatClampNeg i2_1))), (3, .int (f1 f (pa (Int32.toNatClampNeg i2_1))))], [], M)) rfl rfl rfl (fun c_388 => ?_) (fun c_388 => ?_)
                          · have c_388 : ¬ (f1 f (pa (Int32.toNatClampNeg i2_1))) = 17 := of_decide_eq_true c_388
                            refine ml_blk 2 (S' := (406, [(5, .int (pyf py (ixf f pa (ixf f pa i2_1 3) 3))), (4, .int (pyf py (ixf f pa (ixf f pa i2_1 3) 1))), (0, .ref m0), (1, .int i2_1), (2, .int (pa (Int32.toNatClampNeg i2_1))), (3, .int (f1 f (pa (Int32.toNatClampNeg i2_1))))], [.int (pyf py (ixf f pa (ixf f pa i2_1 3) 3)), .ref m0], M)) rfl ?_
                            refine ml_call (a := [.ref m0, .int (pyf py (ixf f pa (ixf f pa i2_1 3) 3))]) (rest := []) rfl (hR.okc rfl rfl rfl) rfl rfl (rm_isMethod hR hY (hyB.2.2.1) (hyB.2.2.2) (by omega)) (fun v54 M55 h56 => ?_)
                            obtain ⟨⟨u57, rfl, z58, w59⟩, h56⟩ := h56
                            rw [h56]
                            show ml _ _ _ (409, [(5, .int (pyf py (ixf f pa (ixf f pa i2_1 3) 3))), (4, .int (pyf py (ixf f pa (ixf f pa i2_1 3) 1))), (0, .ref m0), (1, .int i2_1), (2, .int (pa (Int32.toNatClampNeg i2_1))), (3, .int (f1 f (pa (Int32.toNatClampNeg i2_1))))], [.int u57], M) _
                            refine ml_if (S1 := (420, [(0, .ref m0), (1, .int i2_1)], [], M)) (S2 := (412, [(0, .ref m0), (2, .int (pa (Int32.toNatClampNeg i2_1)))], [], M)) rfl rfl rfl (fun c_409 => ?_) (fun c_409 => ?_)
                            · have c_409 : ¬ u57 = 0 := of_decide_eq_true c_409
                              exact J_420  (fun _ => ⟨by rw [htg]; exact hix, by rw [htg]; exact hj_84, by rw [htg]; exact (fun h => by rcases h with h | h | h; exact hj_277 (Or.inl h); exact hj_277 (Or.inr h); exact w59.resolve_left c_409), by rw [htg]; exact (fun h => absurd h c_388)⟩)
                            · have c_409 : ¬ (¬ u57 = 0) := of_decide_eq_false c_409
                              refine ml_blk 3 (S' := (416, [(0, .ref m0), (2, .int (pa (Int32.toNatClampNeg i2_1)))], [.int (pa (Int32.toNatClampNeg i2_1)), .int 14, .ref m0], M)) rfl ?_
                              refine ml_call (a := [.ref m0, .int 14, .int (pa (Int32.toNatClampNeg i2_1))]) (rest := []) rfl (hR.okc rfl rfl rfl) rfl rfl (rm_wrong hR (by omega)) (fun v60 M61 h62 => ?_)
                              obtain ⟨u68, I63, R64, rfl, hR65, hI66, hV67, z69, w70⟩ := h62
                              show ml _ _ _ (419, [(0, .ref m0), (2, .int (pa (Int32.toNatClampNeg i2_1)))], [.int u68], M61) _
                              exact ml_ret rfl (r_z (z69)) (⟨_, _, _, rfl, hR65, (eqI.rf.tr hI66 (by decide)), (eqR.rf.tr hV67 (by decide)), z69, Or.inl w70⟩)
                          · have c_388 : ¬ (¬ (f1 f (pa (Int32.toNatClampNeg i2_1))) = 17) := of_decide_eq_false c_388
                            refine ml_blk 2 (S' := (394, [(5, .int (pyf py (ixf f pa (ixf f pa i2_1 3) 3))), (4, .int (pyf py (ixf f pa (ixf f pa i2_1 3) 1))), (0, .ref m0), (1, .int i2_1), (2, .int (pa (Int32.toNatClampNeg i2_1))), (3, .int (f1 f (pa (Int32.toNatClampNeg i2_1))))], [.int (pyf py (ixf f pa (ixf f pa i2_1 3) 3)), .ref m0], M)) rfl ?_
                            refine ml_call (a := [.ref m0, .int (pyf py (ixf f pa (ixf f pa i2_1 3) 3))]) (rest := []) rfl (hR.okc rfl rfl rfl) rfl rfl (rm_isField hR hY (hyB.2.2.1) (hyB.2.2.2) (by omega)) (fun v71 M72 h73 => ?_)
                            obtain ⟨⟨u74, rfl, z75, w76⟩, h73⟩ := h73
                            rw [h73]
                            show ml _ _ _ (397, [(5, .int (pyf py (ixf f pa (ixf f pa i2_1 3) 3))), (4, .int (pyf py (ixf f pa (ixf f pa i2_1 3) 1))), (0, .ref m0), (1, .int i2_1), (2, .int (pa (Int32.toNatClampNeg i2_1))), (3, .int (f1 f (pa (Int32.toNatClampNeg i2_1))))], [.int u74], M) _
                            refine ml_if (S1 := (412, [(0, .ref m0), (2, .int (pa (Int32.toNatClampNeg i2_1)))], [], M)) (S2 := (400, [(5, .int (pyf py (ixf f pa (ixf f pa i2_1 3) 3))), (4, .int (pyf py (ixf f pa (ixf f pa i2_1 3) 1))), (0, .ref m0), (1, .int i2_1), (2, .int (pa (Int32.toNatClampNeg i2_1))), (3, .int (f1 f (pa (Int32.toNatClampNeg i2_1))))], [], M)) rfl rfl rfl (fun c_397 => ?_) (fun c_397 => ?_)
                            · have c_397 : u74 = 0 := of_decide_eq_true c_397
                              refine ml_blk 3 (S' := (416, [(0, .ref m0), (2, .int (pa (Int32.toNatClampNeg i2_1)))], [.int (pa (Int32.toNatClampNeg i2_1)), .int 14, .ref m0], M)) rfl ?_
                              refine ml_call (a := [.ref m0, .int 14, .int (pa (Int32.toNatClampNeg i2_1))]) (rest := []) rfl (hR.okc rfl rfl rfl) rfl rfl (rm_wrong hR (by omega)) (fun v77 M78 h79 => ?_)
                              obtain ⟨u85, I80, R81, rfl, hR82, hI83, hV84, z86, w87⟩ := h79
                              show ml _ _ _ (419, [(0, .ref m0), (2, .int (pa (Int32.toNatClampNeg i2_1)))], [.int u85], M78) _
                              exact ml_ret rfl (r_z (z86)) (⟨_, _, _, rfl, hR82, (eqI.rf.tr hI83 (by decide)), (eqR.rf.tr hV84 (by decide)), z86, Or.inl w87⟩)
                            · have c_397 : ¬ (u74 = 0) := of_decide_eq_false c_397
                              refine ml_st (S' := (420, [(0, .ref m0), (1, .int i2_1)], [], M)) rfl rfl rfl ?_
                              exact J_420  (fun _ => ⟨by rw [htg]; exact hix, by rw [htg]; exact hj_84, by rw [htg]; exact (fun h => by rcases h with h | h | h; exact hj_277 (Or.inl h); exact hj_277 (Or.inr h); exact absurd ((Decidable.not_not.mp c_388).symm.trans h) (by decide)), by rw [htg]; exact (fun h => w76.resolve_left c_397)⟩)
                      refine ml_if2 (S1 := (342, [(0, .ref m0), (1, .int i2_1), (2, .int (pa (Int32.toNatClampNeg i2_1))), (3, .int (f1 f (pa (Int32.toNatClampNeg i2_1))))], [], M)) (S2 := (336, [(0, .ref m0), (1, .int i2_1), (2, .int (pa (Int32.toNatClampNeg i2_1))), (3, .int (f1 f (pa (Int32.toNatClampNeg i2_1))))], [], M)) rfl rfl rfl (fun c_333 => ?_) (fun c_333 => ?_)
                      · have c_333 : (f1 f (pa (Int32.toNatClampNeg i2_1))) = 17 := of_decide_eq_true c_333
                        exact J_342  (Or.inl c_333)
                      · have c_333 : ¬ ((f1 f (pa (Int32.toNatClampNeg i2_1))) = 17) := of_decide_eq_false c_333
                        refine ml_blk 2 (S' := (339, [(0, .ref m0), (1, .int i2_1), (2, .int (pa (Int32.toNatClampNeg i2_1))), (3, .int (f1 f (pa (Int32.toNatClampNeg i2_1))))], [.int 18, .int (f1 f (pa (Int32.toNatClampNeg i2_1)))], M)) rfl ?_
                        refine ml_if2 (S1 := (420, [(0, .ref m0), (1, .int i2_1)], [], M)) (S2 := (342, [(0, .ref m0), (1, .int i2_1), (2, .int (pa (Int32.toNatClampNeg i2_1))), (3, .int (f1 f (pa (Int32.toNatClampNeg i2_1))))], [], M)) rfl rfl rfl (fun c_339 => ?_) (fun c_339 => ?_)
                        · have c_339 : ¬ (f1 f (pa (Int32.toNatClampNeg i2_1))) = 18 := of_decide_eq_true c_339
                          exact J_420  (fun _ => ⟨by rw [htg]; exact hix, by rw [htg]; exact hj_84, by rw [htg]; exact (fun h => by rcases h with h | h | h; exact hj_277 (Or.inl h); exact hj_277 (Or.inr h); exact absurd h c_339), by rw [htg]; exact (fun h => absurd h c_333)⟩)
                        · have c_339 : ¬ (¬ (f1 f (pa (Int32.toNatClampNeg i2_1))) = 18) := of_decide_eq_false c_339
                          exact J_342  (Or.inr (Decidable.not_not.mp c_339))
                    refine ml_if2 (S1 := (330, [(0, .ref m0), (1, .int i2_1), (2, .int (pa (Int32.toNatClampNeg i2_1))), (3, .int (f1 f (pa (Int32.toNatClampNeg i2_1))))], [], M)) (S2 := (305, [(0, .ref m0), (1, .int i2_1), (2, .int (pa (Int32.toNatClampNeg i2_1))), (3, .int (f1 f (pa (Int32.toNatClampNeg i2_1))))], [], M)) rfl rfl rfl (fun c_302 => ?_) (fun c_302 => ?_)
                    · have c_302 : ¬ (f1 f (pa (Int32.toNatClampNeg i2_1))) = 16 := of_decide_eq_true c_302
                      exact J_330 
                    · have c_302 : ¬ (¬ (f1 f (pa (Int32.toNatClampNeg i2_1))) = 16) := of_decide_eq_false c_302
                      have hi7 := hix.1 (Or.inr (Or.inr (Or.inl (Decidable.not_not.mp c_302))))
                      have hy7 := hP.y hi7
                      refine ml_blk 3 (S' := (308, [(0, .ref m0), (1, .int i2_1), (2, .int (pa (Int32.toNatClampNeg i2_1))), (3, .int (f1 f (pa (Int32.toNatClampNeg i2_1))))], [.ref m0, .ref m0, .ref m0], M)) rfl ?_
                      refine ml_blk 2 (S' := (310, [(0, .ref m0), (1, .int i2_1), (2, .int (pa (Int32.toNatClampNeg i2_1))), (3, .int (f1 f (pa (Int32.toNatClampNeg i2_1))))], [.int 1, .int i2_1, .ref m0, .ref m0, .ref m0], M)) rfl ?_
                      refine ml_call (a := [.ref m0, .int i2_1, .int 1]) (rest := [.ref m0, .ref m0]) rfl (hR.okc rfl rfl rfl) rfl rfl (rm_index hR hF hP ((hP.tg (htg.trans (Decidable.not_not.mp c_302)) (by decide)).1) ((hP.tg (htg.trans (Decidable.not_not.mp c_302)) (by decide)).2.1) ((hP.tg (htg.trans (Decidable.not_not.mp c_302)) (by decide)).2.2.1) (by decide) (by have q := (hP.tg (htg.trans (Decidable.not_not.mp c_302)) (by decide)).2.2.2.2; rw [show esz _ = 3 from rfl] at q; have : (1 : Int32).toInt = 1 := rfl; omega) (by omega)) (fun v88 M89 h90 => ?_)
                      obtain ⟨rfl, h90⟩ := h90
                      rw [h90]
                      show ml _ _ _ (313, [(0, .ref m0), (1, .int i2_1), (2, .int (pa (Int32.toNatClampNeg i2_1))), (3, .int (f1 f (pa (Int32.toNatClampNeg i2_1))))], [.int (ixf f pa i2_1 1), .ref m0, .ref m0], M) _
                      refine ml_call (a := [.ref m0, .int (ixf f pa i2_1 1)]) (rest := [.ref m0]) rfl (hR.okc rfl rfl rfl) rfl rfl (rm_symOf hR hP (hi7) (by omega)) (fun v91 M92 h93 => ?_)
                      obtain ⟨rfl, h93⟩ := h93
                      rw [h93]
                      show ml _ _ _ (316, [(0, .ref m0), (1, .int i2_1), (2, .int (pa (Int32.toNatClampNeg i2_1))), (3, .int (f1 f (pa (Int32.toNatClampNeg i2_1))))], [.int (pyf py (ixf f pa i2_1 1)), .ref m0], M) _
                      refine ml_call (a := [.ref m0, .int (pyf py (ixf f pa i2_1 1))]) (rest := []) rfl (hR.okc rfl rfl rfl) rfl rfl (rm_isMethod hR hY (hy7.2.2.1) (hy7.2.2.2) (by omega)) (fun v94 M95 h96 => ?_)
                      obtain ⟨⟨u97, rfl, z98, w99⟩, h96⟩ := h96
                      rw [h96]
                      show ml _ _ _ (319, [(0, .ref m0), (1, .int i2_1), (2, .int (pa (Int32.toNatClampNeg i2_1))), (3, .int (f1 f (pa (Int32.toNatClampNeg i2_1))))], [.int u97], M) _
                      refine ml_if (S1 := (330, [(0, .ref m0), (1, .int i2_1), (2, .int (pa (Int32.toNatClampNeg i2_1))), (3, .int (f1 f (pa (Int32.toNatClampNeg i2_1))))], [], M)) (S2 := (322, [(0, .ref m0), (1, .int i2_1), (2, .int (pa (Int32.toNatClampNeg i2_1))), (3, .int (f1 f (pa (Int32.toNatClampNeg i2_1))))], [], M)) rfl rfl rfl (fun c_319 => ?_) (fun c_319 => ?_)
                      · have c_319 : ¬ u97 = 0 := of_decide_eq_true c_319
                        exact J_330 
                      · have c_319 : ¬ (¬ u97 = 0) := of_decide_eq_false c_319
                        refine ml_blk 3 (S' := (326, [(0, .ref m0), (1, .int i2_1), (2, .int (pa (Int32.toNatClampNeg i2_1))), (3, .int (f1 f (pa (Int32.toNatClampNeg i2_1))))], [.int (pa (Int32.toNatClampNeg i2_1)), .int 14, .ref m0], M)) rfl ?_
                        refine ml_call (a := [.ref m0, .int 14, .int (pa (Int32.toNatClampNeg i2_1))]) (rest := []) rfl (hR.okc rfl rfl rfl) rfl rfl (rm_wrong hR (by omega)) (fun v100 M101 h102 => ?_)
                        obtain ⟨u108, I103, R104, rfl, hR105, hI106, hV107, z109, w110⟩ := h102
                        show ml _ _ _ (329, [(0, .ref m0), (1, .int i2_1), (2, .int (pa (Int32.toNatClampNeg i2_1))), (3, .int (f1 f (pa (Int32.toNatClampNeg i2_1))))], [.int u108], M101) _
                        exact ml_ret rfl (r_z (z109)) (⟨_, _, _, rfl, hR105, (eqI.rf.tr hI106 (by decide)), (eqR.rf.tr hV107 (by decide)), z109, Or.inl w110⟩)
                  refine ml_if2 (S1 := (299, [(0, .ref m0), (1, .int i2_1), (2, .int (pa (Int32.toNatClampNeg i2_1))), (3, .int (f1 f (pa (Int32.toNatClampNeg i2_1))))], [], M)) (S2 := (283, [(0, .ref m0), (1, .int i2_1), (2, .int (pa (Int32.toNatClampNeg i2_1))), (3, .int (f1 f (pa (Int32.toNatClampNeg i2_1))))], [], M)) rfl rfl rfl (fun c_280 => ?_) (fun c_280 => ?_)
                  · have c_280 : ¬ (f1 f (pa (Int32.toNatClampNeg i2_1))) = 15 := of_decide_eq_true c_280
                    exact J_299 
                  · have c_280 : ¬ (¬ (f1 f (pa (Int32.toNatClampNeg i2_1))) = 15) := of_decide_eq_false c_280
                    refine ml_blk 2 (S' := (285, [(0, .ref m0), (1, .int i2_1), (2, .int (pa (Int32.toNatClampNeg i2_1))), (3, .int (f1 f (pa (Int32.toNatClampNeg i2_1))))], [.int i2_1, .ref m0], M)) rfl ?_
                    refine ml_call (a := [.ref m0, .int i2_1]) (rest := []) rfl (hR.okc rfl rfl rfl) rfl rfl (rm_handleEntry hR (hk9) hF hY hP (htg.trans (Decidable.not_not.mp c_280)) (by have q := hix; rw [show (f1 f (pa (Int32.toNatClampNeg i2_1))) = 15 from Decidable.not_not.mp c_280] at q; exact q) (by omega)) (fun v111 M112 h113 => ?_)
                    obtain ⟨⟨u114, rfl, z115⟩, h113⟩ := h113
                    rw [h113]
                    show ml _ _ _ (288, [(0, .ref m0), (1, .int i2_1), (2, .int (pa (Int32.toNatClampNeg i2_1))), (3, .int (f1 f (pa (Int32.toNatClampNeg i2_1))))], [.int u114], M) _
                    refine ml_if (S1 := (299, [(0, .ref m0), (1, .int i2_1), (2, .int (pa (Int32.toNatClampNeg i2_1))), (3, .int (f1 f (pa (Int32.toNatClampNeg i2_1))))], [], M)) (S2 := (291, [(0, .ref m0), (1, .int i2_1), (2, .int (pa (Int32.toNatClampNeg i2_1))), (3, .int (f1 f (pa (Int32.toNatClampNeg i2_1))))], [], M)) rfl rfl rfl (fun c_288 => ?_) (fun c_288 => ?_)
                    · have c_288 : ¬ u114 = 0 := of_decide_eq_true c_288
                      exact J_299 
                    · have c_288 : ¬ (¬ u114 = 0) := of_decide_eq_false c_288
                      refine ml_blk 3 (S' := (295, [(0, .ref m0), (1, .int i2_1), (2, .int (pa (Int32.toNatClampNeg i2_1))), (3, .int (f1 f (pa (Int32.toNatClampNeg i2_1))))], [.int (pa (Int32.toNatClampNeg i2_1)), .int 13, .ref m0], M)) rfl ?_
                      refine ml_call (a := [.ref m0, .int 13, .int (pa (Int32.toNatClampNeg i2_1))]) (rest := []) rfl (hR.okc rfl rfl rfl) rfl rfl (rm_wrong hR (by omega)) (fun v116 M117 h118 => ?_)
                      obtain ⟨u124, I119, R120, rfl, hR121, hI122, hV123, z125, w126⟩ := h118
                      show ml _ _ _ (298, [(0, .ref m0), (1, .int i2_1), (2, .int (pa (Int32.toNatClampNeg i2_1))), (3, .int (f1 f (pa (Int32.toNatClampNeg i2_1))))], [.int u124], M117) _
                      exact ml_ret rfl (r_z (z125)) (⟨_, _, _, rfl, hR121, (eqI.rf.tr hI122 (by decide)), (eqR.rf.tr hV123 (by decide)), z125, Or.inl w126⟩)
                refine ml_if2 (S1 := (277, [(0, .ref m0), (1, .int i2_1), (2, .int (pa (Int32.toNatClampNeg i2_1))), (3, .int (f1 f (pa (Int32.toNatClampNeg i2_1))))], [], M)) (S2 := (156, [(0, .ref m0), (1, .int i2_1), (2, .int (pa (Int32.toNatClampNeg i2_1))), (3, .int (f1 f (pa (Int32.toNatClampNeg i2_1))))], [], M)) rfl rfl rfl (fun c_153 => ?_) (fun c_153 => ?_)
                · have c_153 : (f1 f (pa (Int32.toNatClampNeg i2_1))) < 9 := of_decide_eq_true c_153
                  exact J_277  (fun h => by have q := i_lt c_153; rcases h with h | h <;> (rw [h] at q; exact absurd q (by decide)))
                · have c_153 : ¬ ((f1 f (pa (Int32.toNatClampNeg i2_1))) < 9) := of_decide_eq_false c_153
                  refine ml_blk 2 (S' := (159, [(0, .ref m0), (1, .int i2_1), (2, .int (pa (Int32.toNatClampNeg i2_1))), (3, .int (f1 f (pa (Int32.toNatClampNeg i2_1))))], [.int 11, .int (f1 f (pa (Int32.toNatClampNeg i2_1)))], M)) rfl ?_
                  refine ml_if2 (S1 := (277, [(0, .ref m0), (1, .int i2_1), (2, .int (pa (Int32.toNatClampNeg i2_1))), (3, .int (f1 f (pa (Int32.toNatClampNeg i2_1))))], [], M)) (S2 := (162, [(0, .ref m0), (1, .int i2_1), (2, .int (pa (Int32.toNatClampNeg i2_1))), (3, .int (f1 f (pa (Int32.toNatClampNeg i2_1))))], [], M)) rfl rfl rfl (fun c_159 => ?_) (fun c_159 => ?_)
                  · have c_159 : 11 < (f1 f (pa (Int32.toNatClampNeg i2_1))) := of_decide_eq_true c_159
                    exact J_277  (fun h => by have q := i_lt c_159; rcases h with h | h <;> (rw [h] at q; exact absurd q (by decide)))
                  · have c_159 : ¬ (11 < (f1 f (pa (Int32.toNatClampNeg i2_1)))) := of_decide_eq_false c_159
                    have h9 := (⟨by have q := i_nlt c_153; have : (9 : Int32).toInt = 9 := rfl; omega, by have q := i_nlt c_159; have : (11 : Int32).toInt = 11 := rfl; omega⟩ : t9 (f1 f (pa (Int32.toNatClampNeg i2_1))))
                    have hi9 := hix.2.2.1 h9
                    have hyA := hP.y hi9.2.2.2.1
                    have hyB := hP.y hi9.2.2.2.2
                    refine ml_blk 3 (S' := (165, [(0, .ref m0), (1, .int i2_1), (2, .int (pa (Int32.toNatClampNeg i2_1))), (3, .int (f1 f (pa (Int32.toNatClampNeg i2_1))))], [.ref m0, .ref m0, .ref m0], M)) rfl ?_
                    refine ml_blk 2 (S' := (167, [(0, .ref m0), (1, .int i2_1), (2, .int (pa (Int32.toNatClampNeg i2_1))), (3, .int (f1 f (pa (Int32.toNatClampNeg i2_1))))], [.int 3, .int i2_1, .ref m0, .ref m0, .ref m0], M)) rfl ?_
                    refine ml_call (a := [.ref m0, .int i2_1, .int 3]) (rest := [.ref m0, .ref m0]) rfl (hR.okc rfl rfl rfl) rfl rfl (rm_index hR hF hP ((hP.tg htg (t9_n0 h9)).1) ((hP.tg htg (t9_n0 h9)).2.1) ((hP.tg htg (t9_n0 h9)).2.2.1) (by decide) (by have q := (hP.tg htg (t9_n0 h9)).2.2.2.2; rw [show esz _ = 5 from esz_9 h9] at q; have : (3 : Int32).toInt = 3 := rfl; omega) (by omega)) (fun v127 M128 h129 => ?_)
                    obtain ⟨rfl, h129⟩ := h129
                    rw [h129]
                    show ml _ _ _ (170, [(0, .ref m0), (1, .int i2_1), (2, .int (pa (Int32.toNatClampNeg i2_1))), (3, .int (f1 f (pa (Int32.toNatClampNeg i2_1))))], [.int (ixf f pa i2_1 3), .ref m0, .ref m0], M) _
                    refine ml_st (S' := (171, [(0, .ref m0), (1, .int i2_1), (2, .int (pa (Int32.toNatClampNeg i2_1))), (3, .int (f1 f (pa (Int32.toNatClampNeg i2_1))))], [.int 1, .int (ixf f pa i2_1 3), .ref m0, .ref m0], M)) rfl rfl rfl ?_
                    refine ml_call (a := [.ref m0, .int (ixf f pa i2_1 3), .int 1]) (rest := [.ref m0]) rfl (hR.okc rfl rfl rfl) rfl rfl (rm_index hR hF hP ((hP.tg hi9.2.2.1 (by decide)).1) ((hP.tg hi9.2.2.1 (by decide)).2.1) ((hP.tg hi9.2.2.1 (by decide)).2.2.1) (by decide) (by have q := (hP.tg hi9.2.2.1 (by decide)).2.2.2.2; rw [show esz _ = 5 from rfl] at q; have : (1 : Int32).toInt = 1 := rfl; omega) (by omega)) (fun v130 M131 h132 => ?_)
                    obtain ⟨rfl, h132⟩ := h132
                    rw [h132]
                    show ml _ _ _ (174, [(0, .ref m0), (1, .int i2_1), (2, .int (pa (Int32.toNatClampNeg i2_1))), (3, .int (f1 f (pa (Int32.toNatClampNeg i2_1))))], [.int (ixf f pa (ixf f pa i2_1 3) 1), .ref m0], M) _
                    refine ml_call (a := [.ref m0, .int (ixf f pa (ixf f pa i2_1 3) 1)]) (rest := []) rfl (hR.okc rfl rfl rfl) rfl rfl (rm_symOf hR hP (hi9.2.2.2.1) (by omega)) (fun v133 M134 h135 => ?_)
                    obtain ⟨rfl, h135⟩ := h135
                    rw [h135]
                    show ml _ _ _ (177, [(0, .ref m0), (1, .int i2_1), (2, .int (pa (Int32.toNatClampNeg i2_1))), (3, .int (f1 f (pa (Int32.toNatClampNeg i2_1))))], [.int (pyf py (ixf f pa (ixf f pa i2_1 3) 1))], M) _
                    refine ml_st (S' := (179, [(4, .int (pyf py (ixf f pa (ixf f pa i2_1 3) 1))), (0, .ref m0), (1, .int i2_1), (2, .int (pa (Int32.toNatClampNeg i2_1))), (3, .int (f1 f (pa (Int32.toNatClampNeg i2_1))))], [], M)) rfl rfl rfl ?_
                    refine ml_blk 3 (S' := (182, [(4, .int (pyf py (ixf f pa (ixf f pa i2_1 3) 1))), (0, .ref m0), (1, .int i2_1), (2, .int (pa (Int32.toNatClampNeg i2_1))), (3, .int (f1 f (pa (Int32.toNatClampNeg i2_1))))], [.ref m0, .ref m0, .ref m0], M)) rfl ?_
                    refine ml_blk 2 (S' := (184, [(4, .int (pyf py (ixf f pa (ixf f pa i2_1 3) 1))), (0, .ref m0), (1, .int i2_1), (2, .int (pa (Int32.toNatClampNeg i2_1))), (3, .int (f1 f (pa (Int32.toNatClampNeg i2_1))))], [.int 3, .int i2_1, .ref m0, .ref m0, .ref m0], M)) rfl ?_
                    refine ml_call (a := [.ref m0, .int i2_1, .int 3]) (rest := [.ref m0, .ref m0]) rfl (hR.okc rfl rfl rfl) rfl rfl (rm_index hR hF hP ((hP.tg htg (t9_n0 h9)).1) ((hP.tg htg (t9_n0 h9)).2.1) ((hP.tg htg (t9_n0 h9)).2.2.1) (by decide) (by have q := (hP.tg htg (t9_n0 h9)).2.2.2.2; rw [show esz _ = 5 from esz_9 h9] at q; have : (3 : Int32).toInt = 3 := rfl; omega) (by omega)) (fun v136 M137 h138 => ?_)
                    obtain ⟨rfl, h138⟩ := h138
                    rw [h138]
                    show ml _ _ _ (187, [(4, .int (pyf py (ixf f pa (ixf f pa i2_1 3) 1))), (0, .ref m0), (1, .int i2_1), (2, .int (pa (Int32.toNatClampNeg i2_1))), (3, .int (f1 f (pa (Int32.toNatClampNeg i2_1))))], [.int (ixf f pa i2_1 3), .ref m0, .ref m0], M) _
                    refine ml_st (S' := (188, [(4, .int (pyf py (ixf f pa (ixf f pa i2_1 3) 1))), (0, .ref m0), (1, .int i2_1), (2, .int (pa (Int32.toNatClampNeg i2_1))), (3, .int (f1 f (pa (Int32.toNatClampNeg i2_1))))], [.int 3, .int (ixf f pa i2_1 3), .ref m0, .ref m0], M)) rfl rfl rfl ?_
                    refine ml_call (a := [.ref m0, .int (ixf f pa i2_1 3), .int 3]) (rest := [.ref m0]) rfl (hR.okc rfl rfl rfl) rfl rfl (rm_index hR hF hP ((hP.tg hi9.2.2.1 (by decide)).1) ((hP.tg hi9.2.2.1 (by decide)).2.1) ((hP.tg hi9.2.2.1 (by decide)).2.2.1) (by decide) (by have q := (hP.tg hi9.2.2.1 (by decide)).2.2.2.2; rw [show esz _ = 5 from rfl] at q; have : (3 : Int32).toInt = 3 := rfl; omega) (by omega)) (fun v139 M140 h141 => ?_)
                    obtain ⟨rfl, h141⟩ := h141
                    rw [h141]
                    show ml _ _ _ (191, [(4, .int (pyf py (ixf f pa (ixf f pa i2_1 3) 1))), (0, .ref m0), (1, .int i2_1), (2, .int (pa (Int32.toNatClampNeg i2_1))), (3, .int (f1 f (pa (Int32.toNatClampNeg i2_1))))], [.int (ixf f pa (ixf f pa i2_1 3) 3), .ref m0], M) _
                    refine ml_call (a := [.ref m0, .int (ixf f pa (ixf f pa i2_1 3) 3)]) (rest := []) rfl (hR.okc rfl rfl rfl) rfl rfl (rm_symOf hR hP (hi9.2.2.2.2) (by omega)) (fun v142 M143 h144 => ?_)
                    obtain ⟨rfl, h144⟩ := h144
                    rw [h144]
                    show ml _ _ _ (194, [(4, .int (pyf py (ixf f pa (ixf f pa i2_1 3) 1))), (0, .ref m0), (1, .int i2_1), (2, .int (pa (Int32.toNatClampNeg i2_1))), (3, .int (f1 f (pa (Int32.toNatClampNeg i2_1))))], [.int (pyf py (ixf f pa (ixf f pa i2_1 3) 3))], M) _
                    refine ml_st (S' := (196, [(5, .int (pyf py (ixf f pa (ixf f pa i2_1 3) 3))), (4, .int (pyf py (ixf f pa (ixf f pa i2_1 3) 1))), (0, .ref m0), (1, .int i2_1), (2, .int (pa (Int32.toNatClampNeg i2_1))), (3, .int (f1 f (pa (Int32.toNatClampNeg i2_1))))], [], M)) rfl rfl rfl ?_
                    refine ml_blk 2 (S' := (199, [(5, .int (pyf py (ixf f pa (ixf f pa i2_1 3) 3))), (4, .int (pyf py (ixf f pa (ixf f pa i2_1 3) 1))), (0, .ref m0), (1, .int i2_1), (2, .int (pa (Int32.toNatClampNeg i2_1))), (3, .int (f1 f (pa (Int32.toNatClampNeg i2_1))))], [.int (pyf py (ixf f pa (ixf f pa i2_1 3) 1)), .ref m0], M)) rfl ?_
                    refine ml_call (a := [.ref m0, .int (pyf py (ixf f pa (ixf f pa i2_1 3) 1))]) (rest := []) rfl (hR.okc rfl rfl rfl) rfl rfl (rm_angles hR hY (hyA.2.2.1) (hyA.2.2.2) (by omega)) (fun v145 M146 h147 => ?_)
                    obtain ⟨⟨u148, rfl, z149⟩, h147⟩ := h147
                    rw [h147]
                    show ml _ _ _ (202, [(5, .int (pyf py (ixf f pa (ixf f pa i2_1 3) 3))), (4, .int (pyf py (ixf f pa (ixf f pa i2_1 3) 1))), (0, .ref m0), (1, .int i2_1), (2, .int (pa (Int32.toNatClampNeg i2_1))), (3, .int (f1 f (pa (Int32.toNatClampNeg i2_1))))], [.int u148], M) _
                    refine ml_st (S' := (204, [(6, .int u148), (5, .int (pyf py (ixf f pa (ixf f pa i2_1 3) 3))), (4, .int (pyf py (ixf f pa (ixf f pa i2_1 3) 1))), (0, .ref m0), (1, .int i2_1), (2, .int (pa (Int32.toNatClampNeg i2_1))), (3, .int (f1 f (pa (Int32.toNatClampNeg i2_1))))], [], M)) rfl rfl rfl ?_
                    refine ml_blk 2 (S' := (207, [(6, .int u148), (5, .int (pyf py (ixf f pa (ixf f pa i2_1 3) 3))), (4, .int (pyf py (ixf f pa (ixf f pa i2_1 3) 1))), (0, .ref m0), (1, .int i2_1), (2, .int (pa (Int32.toNatClampNeg i2_1))), (3, .int (f1 f (pa (Int32.toNatClampNeg i2_1))))], [.int 9, .int (f1 f (pa (Int32.toNatClampNeg i2_1)))], M)) rfl ?_
                    have J_262 : ∀ (s262_0 : Int32), (s262_0 = 0 ∨ ((f1 f (pa (Int32.toNatClampNeg i2_1))) = 10 ∨ (f1 f (pa (Int32.toNatClampNeg i2_1))) = 11 → MTX sa sl ch (pyf py (ixf f pa (ixf f pa i2_1 3) 3)))) → ml (mT g) d (mb_192 g).2 (262, [(0, .ref m0), (1, .int i2_1), (2, .int (pa (Int32.toNatClampNeg i2_1))), (3, .int (f1 f (pa (Int32.toNatClampNeg i2_1))))], [.int s262_0], M) (fun v M' => ∃ (x : Int32) (I' : rI) (R' : rR), v = some (.int x) ∧ RS g m0 q z I' R' M' ∧ eqI [47, 48] I I' ∧ eqR [] R R' ∧ (x = 0 ∨ x = 1) ∧ (x = 0 ∨ EK f cp pa py sa sl ch)) := by
                      intro s262_0 hj_262
                      refine ml_st (S' := (264, [(7, .int s262_0), (0, .ref m0), (1, .int i2_1), (2, .int (pa (Int32.toNatClampNeg i2_1))), (3, .int (f1 f (pa (Int32.toNatClampNeg i2_1))))], [], M)) rfl rfl rfl ?_
                      refine ml_st (S' := (266, [(7, .int s262_0), (0, .ref m0), (1, .int i2_1), (2, .int (pa (Int32.toNatClampNeg i2_1))), (3, .int (f1 f (pa (Int32.toNatClampNeg i2_1))))], [.int s262_0], M)) rfl rfl rfl ?_
                      refine ml_if (S1 := (277, [(0, .ref m0), (1, .int i2_1), (2, .int (pa (Int32.toNatClampNeg i2_1))), (3, .int (f1 f (pa (Int32.toNatClampNeg i2_1))))], [], M)) (S2 := (269, [(7, .int s262_0), (0, .ref m0), (1, .int i2_1), (2, .int (pa (Int32.toNatClampNeg i2_1))), (3, .int (f1 f (pa (Int32.toNatClampNeg i2_1))))], [], M)) rfl rfl rfl (fun c_266 => ?_) (fun c_266 => ?_)
                      · have c_266 : ¬ s262_0 = 0 := of_decide_eq_true c_266
                        exact J_277  (hj_262.resolve_left c_266)
                      · have c_266 : ¬ (¬ s262_0 = 0) := of_decide_eq_false c_266
                        refine ml_blk 3 (S' := (273, [(7, .int s262_0), (0, .ref m0), (1, .int i2_1), (2, .int (pa (Int32.toNatClampNeg i2_1))), (3, .int (f1 f (pa (Int32.toNatClampNeg i2_1))))], [.int (pa (Int32.toNatClampNeg i2_1)), .int 12, .ref m0], M)) rfl ?_
                        refine ml_call (a := [.ref m0, .int 12, .int (pa (Int32.toNatClampNeg i2_1))]) (rest := []) rfl (hR.okc rfl rfl rfl) rfl rfl (rm_wrong hR (by omega)) (fun v150 M151 h152 => ?_)
                        obtain ⟨u158, I153, R154, rfl, hR155, hI156, hV157, z159, w160⟩ := h152
                        show ml _ _ _ (276, [(7, .int s262_0), (0, .ref m0), (1, .int i2_1), (2, .int (pa (Int32.toNatClampNeg i2_1))), (3, .int (f1 f (pa (Int32.toNatClampNeg i2_1))))], [.int u158], M151) _
                        exact ml_ret rfl (r_z (z159)) (⟨_, _, _, rfl, hR155, (eqI.rf.tr hI156 (by decide)), (eqR.rf.tr hV157 (by decide)), z159, Or.inl w160⟩)
                    refine ml_if2 (S1 := (219, [(6, .int u148), (5, .int (pyf py (ixf f pa (ixf f pa i2_1 3) 3))), (4, .int (pyf py (ixf f pa (ixf f pa i2_1 3) 1))), (0, .ref m0), (1, .int i2_1), (2, .int (pa (Int32.toNatClampNeg i2_1))), (3, .int (f1 f (pa (Int32.toNatClampNeg i2_1))))], [], M)) (S2 := (210, [(6, .int u148), (5, .int (pyf py (ixf f pa (ixf f pa i2_1 3) 3))), (4, .int (pyf py (ixf f pa (ixf f pa i2_1 3) 1))), (0, .ref m0), (1, .int i2_1), (2, .int (pa (Int32.toNatClampNeg i2_1))), (3, .int (f1 f (pa (Int32.toNatClampNeg i2_1))))], [], M)) rfl rfl rfl (fun c_207 => ?_) (fun c_207 => ?_)
                    · have c_207 : ¬ (f1 f (pa (Int32.toNatClampNeg i2_1))) = 9 := of_decide_eq_true c_207
                      refine ml_blk 2 (S' := (222, [(6, .int u148), (5, .int (pyf py (ixf f pa (ixf f pa i2_1 3) 3))), (4, .int (pyf py (ixf f pa (ixf f pa i2_1 3) 1))), (0, .ref m0), (1, .int i2_1), (2, .int (pa (Int32.toNatClampNeg i2_1))), (3, .int (f1 f (pa (Int32.toNatClampNeg i2_1))))], [.int (pyf py (ixf f pa (ixf f pa i2_1 3) 3)), .ref m0], M)) rfl ?_
                      refine ml_call (a := [.ref m0, .int (pyf py (ixf f pa (ixf f pa i2_1 3) 3))]) (rest := []) rfl (hR.okc rfl rfl rfl) rfl rfl (rm_isMethod hR hY (hyB.2.2.1) (hyB.2.2.2) (by omega)) (fun v161 M162 h163 => ?_)
                      obtain ⟨⟨u164, rfl, z165, w166⟩, h163⟩ := h163
                      rw [h163]
                      show ml _ _ _ (225, [(6, .int u148), (5, .int (pyf py (ixf f pa (ixf f pa i2_1 3) 3))), (4, .int (pyf py (ixf f pa (ixf f pa i2_1 3) 1))), (0, .ref m0), (1, .int i2_1), (2, .int (pa (Int32.toNatClampNeg i2_1))), (3, .int (f1 f (pa (Int32.toNatClampNeg i2_1))))], [.int u164], M) _
                      refine ml_if (S1 := (261, [(0, .ref m0), (1, .int i2_1), (2, .int (pa (Int32.toNatClampNeg i2_1))), (3, .int (f1 f (pa (Int32.toNatClampNeg i2_1))))], [], M)) (S2 := (228, [(6, .int u148), (5, .int (pyf py (ixf f pa (ixf f pa i2_1 3) 3))), (4, .int (pyf py (ixf f pa (ixf f pa i2_1 3) 1))), (0, .ref m0), (1, .int i2_1), (2, .int (pa (Int32.toNatClampNeg i2_1))), (3, .int (f1 f (pa (Int32.toNatClampNeg i2_1))))], [], M)) rfl rfl rfl (fun c_225 => ?_) (fun c_225 => ?_)
                      · have c_225 : u164 = 0 := of_decide_eq_true c_225
                        refine ml_st (S' := (262, [(0, .ref m0), (1, .int i2_1), (2, .int (pa (Int32.toNatClampNeg i2_1))), (3, .int (f1 f (pa (Int32.toNatClampNeg i2_1))))], [.int 0], M)) rfl rfl rfl ?_
                        exact J_262 0 (Or.inl rfl)
                      · have c_225 : ¬ (u164 = 0) := of_decide_eq_false c_225
                        refine ml_st (S' := (230, [(6, .int u148), (5, .int (pyf py (ixf f pa (ixf f pa i2_1 3) 3))), (4, .int (pyf py (ixf f pa (ixf f pa i2_1 3) 1))), (0, .ref m0), (1, .int i2_1), (2, .int (pa (Int32.toNatClampNeg i2_1))), (3, .int (f1 f (pa (Int32.toNatClampNeg i2_1))))], [.int u148], M)) rfl rfl rfl ?_
                        refine ml_if (S1 := (257, [(0, .ref m0), (1, .int i2_1), (2, .int (pa (Int32.toNatClampNeg i2_1))), (3, .int (f1 f (pa (Int32.toNatClampNeg i2_1))))], [], M)) (S2 := (233, [(6, .int u148), (5, .int (pyf py (ixf f pa (ixf f pa i2_1 3) 3))), (4, .int (pyf py (ixf f pa (ixf f pa i2_1 3) 1))), (0, .ref m0), (1, .int i2_1), (2, .int (pa (Int32.toNatClampNeg i2_1))), (3, .int (f1 f (pa (Int32.toNatClampNeg i2_1))))], [], M)) rfl rfl rfl (fun c_230 => ?_) (fun c_230 => ?_)
                        · have c_230 : u148 = 0 := of_decide_eq_true c_230
                          refine ml_st (S' := (258, [(0, .ref m0), (1, .int i2_1), (2, .int (pa (Int32.toNatClampNeg i2_1))), (3, .int (f1 f (pa (Int32.toNatClampNeg i2_1))))], [.int 1], M)) rfl rfl rfl ?_
                          refine ml_st (S' := (262, [(0, .ref m0), (1, .int i2_1), (2, .int (pa (Int32.toNatClampNeg i2_1))), (3, .int (f1 f (pa (Int32.toNatClampNeg i2_1))))], [.int 1], M)) rfl rfl rfl ?_
                          exact J_262 1 (Or.inr (fun _ => w166.resolve_left c_225))
                        · have c_230 : ¬ (u148 = 0) := of_decide_eq_false c_230
                          refine ml_blk 2 (S' := (236, [(6, .int u148), (5, .int (pyf py (ixf f pa (ixf f pa i2_1 3) 3))), (4, .int (pyf py (ixf f pa (ixf f pa i2_1 3) 1))), (0, .ref m0), (1, .int i2_1), (2, .int (pa (Int32.toNatClampNeg i2_1))), (3, .int (f1 f (pa (Int32.toNatClampNeg i2_1))))], [.int 10, .int (f1 f (pa (Int32.toNatClampNeg i2_1)))], M)) rfl ?_
                          refine ml_if2 (S1 := (261, [(0, .ref m0), (1, .int i2_1), (2, .int (pa (Int32.toNatClampNeg i2_1))), (3, .int (f1 f (pa (Int32.toNatClampNeg i2_1))))], [], M)) (S2 := (239, [(6, .int u148), (5, .int (pyf py (ixf f pa (ixf f pa i2_1 3) 3))), (4, .int (pyf py (ixf f pa (ixf f pa i2_1 3) 1))), (0, .ref m0), (1, .int i2_1), (2, .int (pa (Int32.toNatClampNeg i2_1))), (3, .int (f1 f (pa (Int32.toNatClampNeg i2_1))))], [], M)) rfl rfl rfl (fun c_236 => ?_) (fun c_236 => ?_)
                          · have c_236 : ¬ (f1 f (pa (Int32.toNatClampNeg i2_1))) = 10 := of_decide_eq_true c_236
                            refine ml_st (S' := (262, [(0, .ref m0), (1, .int i2_1), (2, .int (pa (Int32.toNatClampNeg i2_1))), (3, .int (f1 f (pa (Int32.toNatClampNeg i2_1))))], [.int 0], M)) rfl rfl rfl ?_
                            exact J_262 0 (Or.inl rfl)
                          · have c_236 : ¬ (¬ (f1 f (pa (Int32.toNatClampNeg i2_1))) = 10) := of_decide_eq_false c_236
                            refine ml_blk 2 (S' := (242, [(6, .int u148), (5, .int (pyf py (ixf f pa (ixf f pa i2_1 3) 3))), (4, .int (pyf py (ixf f pa (ixf f pa i2_1 3) 1))), (0, .ref m0), (1, .int i2_1), (2, .int (pa (Int32.toNatClampNeg i2_1))), (3, .int (f1 f (pa (Int32.toNatClampNeg i2_1))))], [.ref m0, .int (pyf py (ixf f pa (ixf f pa i2_1 3) 1))], M)) rfl ?_
                            refine rg_int (S' := (245, [(6, .int u148), (5, .int (pyf py (ixf f pa (ixf f pa i2_1 3) 3))), (4, .int (pyf py (ixf f pa (ixf f pa i2_1 3) 1))), (0, .ref m0), (1, .int i2_1), (2, .int (pa (Int32.toNatClampNeg i2_1))), (3, .int (f1 f (pa (Int32.toNatClampNeg i2_1))))], [.int si, .int (pyf py (ixf f pa (ixf f pa i2_1 3) 1))], M)) rfl hR rfl (hk9) rfl ?_
                            refine ml_if2 (S1 := (261, [(0, .ref m0), (1, .int i2_1), (2, .int (pa (Int32.toNatClampNeg i2_1))), (3, .int (f1 f (pa (Int32.toNatClampNeg i2_1))))], [], M)) (S2 := (248, [(6, .int u148), (5, .int (pyf py (ixf f pa (ixf f pa i2_1 3) 3))), (4, .int (pyf py (ixf f pa (ixf f pa i2_1 3) 1))), (0, .ref m0), (1, .int i2_1), (2, .int (pa (Int32.toNatClampNeg i2_1))), (3, .int (f1 f (pa (Int32.toNatClampNeg i2_1))))], [], M)) rfl rfl rfl (fun c_245 => ?_) (fun c_245 => ?_)
                            · have c_245 : ¬ (pyf py (ixf f pa (ixf f pa i2_1 3) 1)) = si := of_decide_eq_true c_245
                              refine ml_st (S' := (262, [(0, .ref m0), (1, .int i2_1), (2, .int (pa (Int32.toNatClampNeg i2_1))), (3, .int (f1 f (pa (Int32.toNatClampNeg i2_1))))], [.int 0], M)) rfl rfl rfl ?_
                              exact J_262 0 (Or.inl rfl)
                            · have c_245 : ¬ (¬ (pyf py (ixf f pa (ixf f pa i2_1 3) 1)) = si) := of_decide_eq_false c_245
                              refine ml_blk 2 (S' := (251, [(6, .int u148), (5, .int (pyf py (ixf f pa (ixf f pa i2_1 3) 3))), (4, .int (pyf py (ixf f pa (ixf f pa i2_1 3) 1))), (0, .ref m0), (1, .int i2_1), (2, .int (pa (Int32.toNatClampNeg i2_1))), (3, .int (f1 f (pa (Int32.toNatClampNeg i2_1))))], [.int (pyf py (ixf f pa (ixf f pa i2_1 3) 3)), .ref m0], M)) rfl ?_
                              refine ml_call (a := [.ref m0, .int (pyf py (ixf f pa (ixf f pa i2_1 3) 3))]) (rest := []) rfl (hR.okc rfl rfl rfl) rfl rfl (rm_endsV hR hY (hyB.2.2.1) (hyB.2.2.2) (by have q := (w166.resolve_left c_225).2; omega) (by omega)) (fun v167 M168 h169 => ?_)
                              obtain ⟨⟨u170, rfl, z171⟩, h169⟩ := h169
                              rw [h169]
                              show ml _ _ _ (254, [(6, .int u148), (5, .int (pyf py (ixf f pa (ixf f pa i2_1 3) 3))), (4, .int (pyf py (ixf f pa (ixf f pa i2_1 3) 1))), (0, .ref m0), (1, .int i2_1), (2, .int (pa (Int32.toNatClampNeg i2_1))), (3, .int (f1 f (pa (Int32.toNatClampNeg i2_1))))], [.int u170], M) _
                              refine ml_if (S1 := (261, [(0, .ref m0), (1, .int i2_1), (2, .int (pa (Int32.toNatClampNeg i2_1))), (3, .int (f1 f (pa (Int32.toNatClampNeg i2_1))))], [], M)) (S2 := (257, [(0, .ref m0), (1, .int i2_1), (2, .int (pa (Int32.toNatClampNeg i2_1))), (3, .int (f1 f (pa (Int32.toNatClampNeg i2_1))))], [], M)) rfl rfl rfl (fun c_254 => ?_) (fun c_254 => ?_)
                              · have c_254 : u170 = 0 := of_decide_eq_true c_254
                                refine ml_st (S' := (262, [(0, .ref m0), (1, .int i2_1), (2, .int (pa (Int32.toNatClampNeg i2_1))), (3, .int (f1 f (pa (Int32.toNatClampNeg i2_1))))], [.int 0], M)) rfl rfl rfl ?_
                                exact J_262 0 (Or.inl rfl)
                              · have c_254 : ¬ (u170 = 0) := of_decide_eq_false c_254
                                refine ml_st (S' := (258, [(0, .ref m0), (1, .int i2_1), (2, .int (pa (Int32.toNatClampNeg i2_1))), (3, .int (f1 f (pa (Int32.toNatClampNeg i2_1))))], [.int 1], M)) rfl rfl rfl ?_
                                refine ml_st (S' := (262, [(0, .ref m0), (1, .int i2_1), (2, .int (pa (Int32.toNatClampNeg i2_1))), (3, .int (f1 f (pa (Int32.toNatClampNeg i2_1))))], [.int 1], M)) rfl rfl rfl ?_
                                exact J_262 1 (Or.inr (fun _ => w166.resolve_left c_225))
                    · have c_207 : ¬ (¬ (f1 f (pa (Int32.toNatClampNeg i2_1))) = 9) := of_decide_eq_false c_207
                      refine ml_blk 2 (S' := (213, [(6, .int u148), (5, .int (pyf py (ixf f pa (ixf f pa i2_1 3) 3))), (4, .int (pyf py (ixf f pa (ixf f pa i2_1 3) 1))), (0, .ref m0), (1, .int i2_1), (2, .int (pa (Int32.toNatClampNeg i2_1))), (3, .int (f1 f (pa (Int32.toNatClampNeg i2_1))))], [.int (pyf py (ixf f pa (ixf f pa i2_1 3) 3)), .ref m0], M)) rfl ?_
                      refine ml_call (a := [.ref m0, .int (pyf py (ixf f pa (ixf f pa i2_1 3) 3))]) (rest := []) rfl (hR.okc rfl rfl rfl) rfl rfl (rm_isField hR hY (hyB.2.2.1) (hyB.2.2.2) (by omega)) (fun v172 M173 h174 => ?_)
                      obtain ⟨⟨u175, rfl, z176, w177⟩, h174⟩ := h174
                      rw [h174]
                      show ml _ _ _ (216, [(6, .int u148), (5, .int (pyf py (ixf f pa (ixf f pa i2_1 3) 3))), (4, .int (pyf py (ixf f pa (ixf f pa i2_1 3) 1))), (0, .ref m0), (1, .int i2_1), (2, .int (pa (Int32.toNatClampNeg i2_1))), (3, .int (f1 f (pa (Int32.toNatClampNeg i2_1))))], [.int u175], M) _
                      refine ml_st (S' := (262, [(0, .ref m0), (1, .int i2_1), (2, .int (pa (Int32.toNatClampNeg i2_1))), (3, .int (f1 f (pa (Int32.toNatClampNeg i2_1))))], [.int u175], M)) rfl rfl rfl ?_
                      exact J_262 u175 (Or.inr (fun h => by rcases h with h | h <;> exact absurd ((Decidable.not_not.mp c_207).symm.trans h) (by decide)))
              refine ml_if2 (S1 := (150, [(0, .ref m0), (1, .int i2_1), (2, .int (pa (Int32.toNatClampNeg i2_1))), (3, .int (f1 f (pa (Int32.toNatClampNeg i2_1))))], [], M)) (S2 := (90, [(0, .ref m0), (1, .int i2_1), (2, .int (pa (Int32.toNatClampNeg i2_1))), (3, .int (f1 f (pa (Int32.toNatClampNeg i2_1))))], [], M)) rfl rfl rfl (fun c_87 => ?_) (fun c_87 => ?_)
              · have c_87 : ¬ (f1 f (pa (Int32.toNatClampNeg i2_1))) = 12 := of_decide_eq_true c_87
                exact J_150 
              · have c_87 : ¬ (¬ (f1 f (pa (Int32.toNatClampNeg i2_1))) = 12) := of_decide_eq_false c_87
                have hi12 := hix.2.1 (Decidable.not_not.mp c_87)
                have hyA := hP.y hi12.1
                have hyB := hP.y hi12.2
                refine ml_blk 3 (S' := (93, [(0, .ref m0), (1, .int i2_1), (2, .int (pa (Int32.toNatClampNeg i2_1))), (3, .int (f1 f (pa (Int32.toNatClampNeg i2_1))))], [.ref m0, .ref m0, .ref m0], M)) rfl ?_
                refine ml_blk 2 (S' := (95, [(0, .ref m0), (1, .int i2_1), (2, .int (pa (Int32.toNatClampNeg i2_1))), (3, .int (f1 f (pa (Int32.toNatClampNeg i2_1))))], [.int 1, .int i2_1, .ref m0, .ref m0, .ref m0], M)) rfl ?_
                refine ml_call (a := [.ref m0, .int i2_1, .int 1]) (rest := [.ref m0, .ref m0]) rfl (hR.okc rfl rfl rfl) rfl rfl (rm_index hR hF hP ((hP.tg (htg.trans (Decidable.not_not.mp c_87)) (by decide)).1) ((hP.tg (htg.trans (Decidable.not_not.mp c_87)) (by decide)).2.1) ((hP.tg (htg.trans (Decidable.not_not.mp c_87)) (by decide)).2.2.1) (by decide) (by have q := (hP.tg (htg.trans (Decidable.not_not.mp c_87)) (by decide)).2.2.2.2; rw [show esz _ = 5 from rfl] at q; have : (1 : Int32).toInt = 1 := rfl; omega) (by omega)) (fun v178 M179 h180 => ?_)
                obtain ⟨rfl, h180⟩ := h180
                rw [h180]
                show ml _ _ _ (98, [(0, .ref m0), (1, .int i2_1), (2, .int (pa (Int32.toNatClampNeg i2_1))), (3, .int (f1 f (pa (Int32.toNatClampNeg i2_1))))], [.int (ixf f pa i2_1 1), .ref m0, .ref m0], M) _
                refine ml_call (a := [.ref m0, .int (ixf f pa i2_1 1)]) (rest := [.ref m0]) rfl (hR.okc rfl rfl rfl) rfl rfl (rm_symOf hR hP (hi12.1) (by omega)) (fun v181 M182 h183 => ?_)
                obtain ⟨rfl, h183⟩ := h183
                rw [h183]
                show ml _ _ _ (101, [(0, .ref m0), (1, .int i2_1), (2, .int (pa (Int32.toNatClampNeg i2_1))), (3, .int (f1 f (pa (Int32.toNatClampNeg i2_1))))], [.int (pyf py (ixf f pa i2_1 1)), .ref m0], M) _
                refine ml_st (S' := (102, [(0, .ref m0), (1, .int i2_1), (2, .int (pa (Int32.toNatClampNeg i2_1))), (3, .int (f1 f (pa (Int32.toNatClampNeg i2_1))))], [.int 1, .int (pyf py (ixf f pa i2_1 1)), .ref m0], M)) rfl rfl rfl ?_
                refine ml_call (a := [.ref m0, .int (pyf py (ixf f pa i2_1 1)), .int 1]) (rest := []) rfl (hR.okc rfl rfl rfl) rfl rfl (rm_unqualified hR hY (hyA.2.2.1) (hyA.2.2.2) (by omega)) (fun v184 M185 h186 => ?_)
                obtain ⟨⟨u187, rfl, z188⟩, h186⟩ := h186
                rw [h186]
                show ml _ _ _ (105, [(0, .ref m0), (1, .int i2_1), (2, .int (pa (Int32.toNatClampNeg i2_1))), (3, .int (f1 f (pa (Int32.toNatClampNeg i2_1))))], [.int u187], M) _
                refine ml_if (S1 := (142, [(0, .ref m0), (2, .int (pa (Int32.toNatClampNeg i2_1)))], [], M)) (S2 := (108, [(0, .ref m0), (1, .int i2_1), (2, .int (pa (Int32.toNatClampNeg i2_1))), (3, .int (f1 f (pa (Int32.toNatClampNeg i2_1))))], [], M)) rfl rfl rfl (fun c_105 => ?_) (fun c_105 => ?_)
                · have c_105 : u187 = 0 := of_decide_eq_true c_105
                  refine ml_blk 3 (S' := (146, [(0, .ref m0), (2, .int (pa (Int32.toNatClampNeg i2_1)))], [.int (pa (Int32.toNatClampNeg i2_1)), .int 11, .ref m0], M)) rfl ?_
                  refine ml_call (a := [.ref m0, .int 11, .int (pa (Int32.toNatClampNeg i2_1))]) (rest := []) rfl (hR.okc rfl rfl rfl) rfl rfl (rm_wrong hR (by omega)) (fun v189 M190 h191 => ?_)
                  obtain ⟨u197, I192, R193, rfl, hR194, hI195, hV196, z198, w199⟩ := h191
                  show ml _ _ _ (149, [(0, .ref m0), (2, .int (pa (Int32.toNatClampNeg i2_1)))], [.int u197], M190) _
                  exact ml_ret rfl (r_z (z198)) (⟨_, _, _, rfl, hR194, (eqI.rf.tr hI195 (by decide)), (eqR.rf.tr hV196 (by decide)), z198, Or.inl w199⟩)
                · have c_105 : ¬ (u187 = 0) := of_decide_eq_false c_105
                  refine ml_blk 3 (S' := (111, [(0, .ref m0), (1, .int i2_1), (2, .int (pa (Int32.toNatClampNeg i2_1))), (3, .int (f1 f (pa (Int32.toNatClampNeg i2_1))))], [.ref m0, .ref m0, .ref m0], M)) rfl ?_
                  refine ml_blk 2 (S' := (113, [(0, .ref m0), (1, .int i2_1), (2, .int (pa (Int32.toNatClampNeg i2_1))), (3, .int (f1 f (pa (Int32.toNatClampNeg i2_1))))], [.int 3, .int i2_1, .ref m0, .ref m0, .ref m0], M)) rfl ?_
                  refine ml_call (a := [.ref m0, .int i2_1, .int 3]) (rest := [.ref m0, .ref m0]) rfl (hR.okc rfl rfl rfl) rfl rfl (rm_index hR hF hP ((hP.tg (htg.trans (Decidable.not_not.mp c_87)) (by decide)).1) ((hP.tg (htg.trans (Decidable.not_not.mp c_87)) (by decide)).2.1) ((hP.tg (htg.trans (Decidable.not_not.mp c_87)) (by decide)).2.2.1) (by decide) (by have q := (hP.tg (htg.trans (Decidable.not_not.mp c_87)) (by decide)).2.2.2.2; rw [show esz _ = 5 from rfl] at q; have : (3 : Int32).toInt = 3 := rfl; omega) (by omega)) (fun v200 M201 h202 => ?_)
                  obtain ⟨rfl, h202⟩ := h202
                  rw [h202]
                  show ml _ _ _ (116, [(0, .ref m0), (1, .int i2_1), (2, .int (pa (Int32.toNatClampNeg i2_1))), (3, .int (f1 f (pa (Int32.toNatClampNeg i2_1))))], [.int (ixf f pa i2_1 3), .ref m0, .ref m0], M) _
                  refine ml_call (a := [.ref m0, .int (ixf f pa i2_1 3)]) (rest := [.ref m0]) rfl (hR.okc rfl rfl rfl) rfl rfl (rm_symOf hR hP (hi12.2) (by omega)) (fun v203 M204 h205 => ?_)
                  obtain ⟨rfl, h205⟩ := h205
                  rw [h205]
                  show ml _ _ _ (119, [(0, .ref m0), (1, .int i2_1), (2, .int (pa (Int32.toNatClampNeg i2_1))), (3, .int (f1 f (pa (Int32.toNatClampNeg i2_1))))], [.int (pyf py (ixf f pa i2_1 3)), .ref m0], M) _
                  refine ml_call (a := [.ref m0, .int (pyf py (ixf f pa i2_1 3))]) (rest := []) rfl (hR.okc rfl rfl rfl) rfl rfl (rm_isField hR hY (hyB.2.2.1) (hyB.2.2.2) (by omega)) (fun v206 M207 h208 => ?_)
                  obtain ⟨⟨u209, rfl, z210, w211⟩, h208⟩ := h208
                  rw [h208]
                  show ml _ _ _ (122, [(0, .ref m0), (1, .int i2_1), (2, .int (pa (Int32.toNatClampNeg i2_1))), (3, .int (f1 f (pa (Int32.toNatClampNeg i2_1))))], [.int u209], M) _
                  refine ml_if (S1 := (150, [(0, .ref m0), (1, .int i2_1), (2, .int (pa (Int32.toNatClampNeg i2_1))), (3, .int (f1 f (pa (Int32.toNatClampNeg i2_1))))], [], M)) (S2 := (125, [(0, .ref m0), (1, .int i2_1), (2, .int (pa (Int32.toNatClampNeg i2_1))), (3, .int (f1 f (pa (Int32.toNatClampNeg i2_1))))], [], M)) rfl rfl rfl (fun c_122 => ?_) (fun c_122 => ?_)
                  · have c_122 : ¬ u209 = 0 := of_decide_eq_true c_122
                    exact J_150 
                  · have c_122 : ¬ (¬ u209 = 0) := of_decide_eq_false c_122
                    refine ml_blk 3 (S' := (128, [(0, .ref m0), (1, .int i2_1), (2, .int (pa (Int32.toNatClampNeg i2_1))), (3, .int (f1 f (pa (Int32.toNatClampNeg i2_1))))], [.ref m0, .ref m0, .ref m0], M)) rfl ?_
                    refine ml_blk 2 (S' := (130, [(0, .ref m0), (1, .int i2_1), (2, .int (pa (Int32.toNatClampNeg i2_1))), (3, .int (f1 f (pa (Int32.toNatClampNeg i2_1))))], [.int 3, .int i2_1, .ref m0, .ref m0, .ref m0], M)) rfl ?_
                    refine ml_call (a := [.ref m0, .int i2_1, .int 3]) (rest := [.ref m0, .ref m0]) rfl (hR.okc rfl rfl rfl) rfl rfl (rm_index hR hF hP ((hP.tg (htg.trans (Decidable.not_not.mp c_87)) (by decide)).1) ((hP.tg (htg.trans (Decidable.not_not.mp c_87)) (by decide)).2.1) ((hP.tg (htg.trans (Decidable.not_not.mp c_87)) (by decide)).2.2.1) (by decide) (by have q := (hP.tg (htg.trans (Decidable.not_not.mp c_87)) (by decide)).2.2.2.2; rw [show esz _ = 5 from rfl] at q; have : (3 : Int32).toInt = 3 := rfl; omega) (by omega)) (fun v212 M213 h214 => ?_)
                    obtain ⟨rfl, h214⟩ := h214
                    rw [h214]
                    show ml _ _ _ (133, [(0, .ref m0), (1, .int i2_1), (2, .int (pa (Int32.toNatClampNeg i2_1))), (3, .int (f1 f (pa (Int32.toNatClampNeg i2_1))))], [.int (ixf f pa i2_1 3), .ref m0, .ref m0], M) _
                    refine ml_call (a := [.ref m0, .int (ixf f pa i2_1 3)]) (rest := [.ref m0]) rfl (hR.okc rfl rfl rfl) rfl rfl (rm_symOf hR hP (hi12.2) (by omega)) (fun v215 M216 h217 => ?_)
                    obtain ⟨rfl, h217⟩ := h217
                    rw [h217]
                    show ml _ _ _ (136, [(0, .ref m0), (1, .int i2_1), (2, .int (pa (Int32.toNatClampNeg i2_1))), (3, .int (f1 f (pa (Int32.toNatClampNeg i2_1))))], [.int (pyf py (ixf f pa i2_1 3)), .ref m0], M) _
                    refine ml_call (a := [.ref m0, .int (pyf py (ixf f pa i2_1 3))]) (rest := []) rfl (hR.okc rfl rfl rfl) rfl rfl (rm_isMethod hR hY (hyB.2.2.1) (hyB.2.2.2) (by omega)) (fun v218 M219 h220 => ?_)
                    obtain ⟨⟨u221, rfl, z222, w223⟩, h220⟩ := h220
                    rw [h220]
                    show ml _ _ _ (139, [(0, .ref m0), (1, .int i2_1), (2, .int (pa (Int32.toNatClampNeg i2_1))), (3, .int (f1 f (pa (Int32.toNatClampNeg i2_1))))], [.int u221], M) _
                    refine ml_if (S1 := (150, [(0, .ref m0), (1, .int i2_1), (2, .int (pa (Int32.toNatClampNeg i2_1))), (3, .int (f1 f (pa (Int32.toNatClampNeg i2_1))))], [], M)) (S2 := (142, [(0, .ref m0), (2, .int (pa (Int32.toNatClampNeg i2_1)))], [], M)) rfl rfl rfl (fun c_139 => ?_) (fun c_139 => ?_)
                    · have c_139 : ¬ u221 = 0 := of_decide_eq_true c_139
                      exact J_150 
                    · have c_139 : ¬ (¬ u221 = 0) := of_decide_eq_false c_139
                      refine ml_blk 3 (S' := (146, [(0, .ref m0), (2, .int (pa (Int32.toNatClampNeg i2_1)))], [.int (pa (Int32.toNatClampNeg i2_1)), .int 11, .ref m0], M)) rfl ?_
                      refine ml_call (a := [.ref m0, .int 11, .int (pa (Int32.toNatClampNeg i2_1))]) (rest := []) rfl (hR.okc rfl rfl rfl) rfl rfl (rm_wrong hR (by omega)) (fun v224 M225 h226 => ?_)
                      obtain ⟨u232, I227, R228, rfl, hR229, hI230, hV231, z233, w234⟩ := h226
                      show ml _ _ _ (149, [(0, .ref m0), (2, .int (pa (Int32.toNatClampNeg i2_1)))], [.int u232], M225) _
                      exact ml_ret rfl (r_z (z233)) (⟨_, _, _, rfl, hR229, (eqI.rf.tr hI230 (by decide)), (eqR.rf.tr hV231 (by decide)), z233, Or.inl w234⟩)
            refine ml_if2 (S1 := (84, [(0, .ref m0), (1, .int i2_1), (2, .int (pa (Int32.toNatClampNeg i2_1))), (3, .int (f1 f (pa (Int32.toNatClampNeg i2_1))))], [], M)) (S2 := (59, [(3, .int (f1 f (pa (Int32.toNatClampNeg i2_1)))), (2, .int (pa (Int32.toNatClampNeg i2_1))), (0, .ref m0), (1, .int i2_1)], [], M)) rfl rfl rfl (fun c_56 => ?_) (fun c_56 => ?_)
            · have c_56 : ¬ (f1 f (pa (Int32.toNatClampNeg i2_1))) = 7 := of_decide_eq_true c_56
              exact J_84  (fun e => absurd e c_56)
            · have c_56 : ¬ (¬ (f1 f (pa (Int32.toNatClampNeg i2_1))) = 7) := of_decide_eq_false c_56
              have hi7 := hix.1 (Or.inl (Decidable.not_not.mp c_56))
              have hy7 := hP.y hi7
              refine ml_blk 3 (S' := (62, [(3, .int (f1 f (pa (Int32.toNatClampNeg i2_1)))), (2, .int (pa (Int32.toNatClampNeg i2_1))), (0, .ref m0), (1, .int i2_1)], [.ref m0, .ref m0, .ref m0], M)) rfl ?_
              refine ml_blk 2 (S' := (64, [(3, .int (f1 f (pa (Int32.toNatClampNeg i2_1)))), (2, .int (pa (Int32.toNatClampNeg i2_1))), (0, .ref m0), (1, .int i2_1)], [.int 1, .int i2_1, .ref m0, .ref m0, .ref m0], M)) rfl ?_
              refine ml_call (a := [.ref m0, .int i2_1, .int 1]) (rest := [.ref m0, .ref m0]) rfl (hR.okc rfl rfl rfl) rfl rfl (rm_index hR hF hP ((hP.tg (htg.trans (Decidable.not_not.mp c_56)) (by decide)).1) ((hP.tg (htg.trans (Decidable.not_not.mp c_56)) (by decide)).2.1) ((hP.tg (htg.trans (Decidable.not_not.mp c_56)) (by decide)).2.2.1) (by decide) (by have q := (hP.tg (htg.trans (Decidable.not_not.mp c_56)) (by decide)).2.2.2.2; rw [show esz _ = 3 from rfl] at q; have : (1 : Int32).toInt = 1 := rfl; omega) (by omega)) (fun v235 M236 h237 => ?_)
              obtain ⟨rfl, h237⟩ := h237
              rw [h237]
              show ml _ _ _ (67, [(3, .int (f1 f (pa (Int32.toNatClampNeg i2_1)))), (2, .int (pa (Int32.toNatClampNeg i2_1))), (0, .ref m0), (1, .int i2_1)], [.int (ixf f pa i2_1 1), .ref m0, .ref m0], M) _
              refine ml_call (a := [.ref m0, .int (ixf f pa i2_1 1)]) (rest := [.ref m0]) rfl (hR.okc rfl rfl rfl) rfl rfl (rm_symOf hR hP (hi7) (by omega)) (fun v238 M239 h240 => ?_)
              obtain ⟨rfl, h240⟩ := h240
              rw [h240]
              show ml _ _ _ (70, [(3, .int (f1 f (pa (Int32.toNatClampNeg i2_1)))), (2, .int (pa (Int32.toNatClampNeg i2_1))), (0, .ref m0), (1, .int i2_1)], [.int (pyf py (ixf f pa i2_1 1)), .ref m0], M) _
              refine ml_call (a := [.ref m0, .int (pyf py (ixf f pa i2_1 1))]) (rest := []) rfl (hR.okc rfl rfl rfl) rfl rfl (rm_classText hR hY (hy7.2.2.1) (hy7.2.2.2) (by omega)) (fun v241 M242 h243 => ?_)
              obtain ⟨⟨u244, rfl, z245, w246⟩, h243⟩ := h243
              rw [h243]
              show ml _ _ _ (73, [(3, .int (f1 f (pa (Int32.toNatClampNeg i2_1)))), (2, .int (pa (Int32.toNatClampNeg i2_1))), (0, .ref m0), (1, .int i2_1)], [.int u244], M) _
              refine ml_if (S1 := (84, [(0, .ref m0), (1, .int i2_1), (2, .int (pa (Int32.toNatClampNeg i2_1))), (3, .int (f1 f (pa (Int32.toNatClampNeg i2_1))))], [], M)) (S2 := (76, [(3, .int (f1 f (pa (Int32.toNatClampNeg i2_1)))), (2, .int (pa (Int32.toNatClampNeg i2_1))), (0, .ref m0), (1, .int i2_1)], [], M)) rfl rfl rfl (fun c_73 => ?_) (fun c_73 => ?_)
              · have c_73 : ¬ u244 = 0 := of_decide_eq_true c_73
                exact J_84  (fun _ => w246.resolve_left c_73)
              · have c_73 : ¬ (¬ u244 = 0) := of_decide_eq_false c_73
                refine ml_blk 3 (S' := (80, [(3, .int (f1 f (pa (Int32.toNatClampNeg i2_1)))), (2, .int (pa (Int32.toNatClampNeg i2_1))), (0, .ref m0), (1, .int i2_1)], [.int (pa (Int32.toNatClampNeg i2_1)), .int 10, .ref m0], M)) rfl ?_
                refine ml_call (a := [.ref m0, .int 10, .int (pa (Int32.toNatClampNeg i2_1))]) (rest := []) rfl (hR.okc rfl rfl rfl) rfl rfl (rm_wrong hR (by omega)) (fun v247 M248 h249 => ?_)
                obtain ⟨u255, I250, R251, rfl, hR252, hI253, hV254, z256, w257⟩ := h249
                show ml _ _ _ (83, [(3, .int (f1 f (pa (Int32.toNatClampNeg i2_1)))), (2, .int (pa (Int32.toNatClampNeg i2_1))), (0, .ref m0), (1, .int i2_1)], [.int u255], M248) _
                exact ml_ret rfl (r_z (z256)) (⟨_, _, _, rfl, hR252, (eqI.rf.tr hI253 (by decide)), (eqR.rf.tr hV254 (by decide)), z256, Or.inl w257⟩)
          · have c_42 : ¬ (¬ u17 = 0) := of_decide_eq_false c_42
            refine ml_blk 3 (S' := (49, [(3, .int (f1 f (pa (Int32.toNatClampNeg i2_1)))), (2, .int (pa (Int32.toNatClampNeg i2_1))), (0, .ref m0), (1, .int i2_1)], [.int (pa (Int32.toNatClampNeg i2_1)), .int 9, .ref m0], M)) rfl ?_
            refine ml_call (a := [.ref m0, .int 9, .int (pa (Int32.toNatClampNeg i2_1))]) (rest := []) rfl (hR.okc rfl rfl rfl) rfl rfl (rm_wrong hR (by omega)) (fun v258 M259 h260 => ?_)
            obtain ⟨u266, I261, R262, rfl, hR263, hI264, hV265, z267, w268⟩ := h260
            show ml _ _ _ (52, [(3, .int (f1 f (pa (Int32.toNatClampNeg i2_1)))), (2, .int (pa (Int32.toNatClampNeg i2_1))), (0, .ref m0), (1, .int i2_1)], [.int u266], M259) _
            exact ml_ret rfl (r_z (z267)) (⟨_, _, _, rfl, hR263, (eqI.rf.tr hI264 (by decide)), (eqR.rf.tr hV265 (by decide)), z267, Or.inl w268⟩)
        · have c_23 : ¬ (0 ≤ (pa (Int32.toNatClampNeg i2_1))) := of_decide_eq_false c_23
          refine ml_st (S' := (420, [(0, .ref m0), (1, .int i2_1)], [], M)) rfl rfl rfl ?_
          exact J_420  (fun h => absurd (show tgf f cp pa i2_1 = 0 by rw [tgf, if_neg (fun q => by have := i_le q; have : (0 : Int32).toInt = 0 := rfl; omega), if_neg c_7, if_pos (Int32.not_le.mp c_23)]) h)
  exact L_2 _ 1 (Nat.le_refl _) (⟨by decide, hP.2.2.2.1.1, fun j h0 h1 => by have : (1 : Int32).toInt = 1 := rfl; omega⟩)
end
section
/-! the reference: attributes (my own text) -/
section MIO
def BS1 (f : Nat → Int32) (n : Nat) (a b : Int32) : Prop := 0 ≤ a.toInt ∧ a.toInt + 4 ≤ n ∧ a.toInt + 4 + 2 * (f2 f (a + 2)).toInt ≤ n ∧ b.toInt = a.toInt + 4 + 2 * (f2 f (a + 2)).toInt
def BSW (f : Nat → Int32) (n : Nat) (b c : Int32) : Prop := 0 ≤ b.toInt ∧ b.toInt + 2 ≤ n ∧ ∃ e, itr (BS1 f n) c.toInt.toNat (b + 2) e ∧ e.toInt ≤ n
def CM1 (f : Nat → Int32) (n : Nat) (a b : Int32) : Prop := 0 ≤ a.toInt ∧ a.toInt + 6 ≤ n ∧ itr (RA1 f n) (f2 f (a + 4)).toInt.toNat (a + 6) b
variable {f : Nat → Int32} {n : Nat} {a b k c N : Int32} {P : Int32 → Int32 → Prop}
theorem bs_of (hn : n ≤ 65540) (h0 : 0 ≤ a.toInt) (h1 : a.toInt + 4 ≤ n) : (a + (4 + 2 * f2 f (a + 2))).toInt = a.toInt + 4 + 2 * (f2 f (a + 2)).toInt ∧ (a + 4 + 2 * f2 f (a + 2)).toInt = a.toInt + 4 + 2 * (f2 f (a + 2)).toInt := by
  have hp := f2_pos (f := f) (x := a + 2)
  have hl := f2_le (f := f) (x := a + 2)
  have e2 : (2 : Int32).toInt = 2 := rfl
  have e4 : (4 : Int32).toInt = 4 := rfl
  have d2 : (2 * f2 f (a + 2)).toInt = 2 * (f2 f (a + 2)).toInt := by rw [i_mul (by rw [e2]; omega) (by rw [e2]; omega), e2]
  have d3 : (4 + 2 * f2 f (a + 2)).toInt = 4 + 2 * (f2 f (a + 2)).toInt := by rw [i_add (by omega) (by omega), d2, e4]
  have d4 : (a + 4).toInt = a.toInt + 4 := by rw [i_add (by omega) (by omega), e4]
  exact ⟨by rw [i_add (by omega) (by omega), d3]; omega, by rw [i_add (by omega) (by omega), d4, d2]⟩
theorem ra_of (hn : n ≤ 65540) (h0 : 0 ≤ a.toInt) (h1 : a.toInt + 6 + (f4 f (a + 2)).toInt ≤ n) : (a + (6 + Int64.toInt32 (f4 f (a + 2)))).toInt = a.toInt + 6 + (f4 f (a + 2)).toInt := by
  have hp := f4_pos (f := f) (x := a + 2)
  have e6 : (6 : Int32).toInt = 6 := rfl
  have di : (Int64.toInt32 (f4 f (a + 2))).toInt = (f4 f (a + 2)).toInt := i_of (by omega) (by omega)
  have d3 : (6 + Int64.toInt32 (f4 f (a + 2))).toInt = 6 + (f4 f (a + 2)).toInt := by rw [i_add (by omega) (by omega), di, e6]
  rw [i_add (by omega) (by omega), d3]
  omega
theorem itr_next {e : Int32} (h : itr P (N.toInt - k.toInt).toNat a e) (hk : ¬ N ≤ k) : ∃ c, P a c ∧ itr P (N.toInt - (k + 1).toInt).toNat c e := by
  have h1 := i_nle hk
  have h2 := inc_lt (Int32.not_le.mp hk)
  rw [show (N.toInt - k.toInt).toNat = (N.toInt - (k + 1).toInt).toNat + 1 by omega] at h
  exact h.front
theorem RA1.eq {b' : Int32} (h : RA1 f n a b) (h' : b'.toInt = a.toInt + 6 + (f4 f (a + 2)).toInt) : b = b' := Int32.toInt_inj.mp (h.2.2.2.trans h'.symm)
theorem BS1.eq {b' : Int32} (h : BS1 f n a b) (h' : b'.toInt = a.toInt + 4 + 2 * (f2 f (a + 2)).toInt) : b = b' := Int32.toInt_inj.mp (h.2.2.2.trans h'.symm)
theorem itr_one {m : Nat} {e : Int32} (h : itr P m a e) (hm : m = 0) : e = a := by
  subst hm
  exact h
theorem two_k {k : Int32} (h0 : 0 ≤ k.toInt) (h1 : k.toInt ≤ 1000000) : (2 * k).toInt = 2 * k.toInt := by
  have e2 : (2 : Int32).toInt = 2 := rfl
  rw [i_mul (by rw [e2]; omega) (by rw [e2]; omega), e2]
theorem eight_k {k : Int32} (h0 : 0 ≤ k.toInt) (h1 : k.toInt ≤ 1000000) : (8 * k).toInt = 8 * k.toInt := by
  have e8 : (8 : Int32).toInt = 8 := rfl
  rw [i_mul (by rw [e8]; omega) (by rw [e8]; omega), e8]
/-- rows are written at one place alone -/
def pw (o : Nat) (R R' : rR) : Prop := ∀ k b, b ≠ o → R' k b = R k b
theorem pw.rf {o : Nat} {R : rR} : pw o R R := fun _ _ _ => rfl
theorem pw.tr {o : Nat} {R R1 R2 : rR} (h : pw o R R1) (h' : pw o R1 R2) : pw o R R2 := fun k b hb => (h' k b hb).trans (h k b hb)
theorem pw.eq {o : Nat} {R R1 R2 : rR} (h : pw o R R1) (h' : eqR [] R1 R2) : pw o R R2 := fun k b hb => (congrFun (h' k (by simp)) b).trans (h k b hb)
theorem pw.st {o j : Nat} {R R1 R2 : rR} {k : Nat} (h : pw o R R1) (g : ∀ b, b ≠ j → R2 k b = R1 k b) (f : ∀ a, a ≠ k → R2 a = R1 a) (hj : j = o) : pw o R R2 := by
  subst hj
  intro a b hb
  by_cases e : a = k
  · subst e
    exact (g b hb).trans (h a b hb)
  · rw [f a e]
    exact h a b hb
/-- these rows are known at a place -/
def kn (ks : List Nat) (o : Nat) (R : rR) : Prop := ∀ k, k ∈ ks → ∃ v, R k o = some v
theorem kn.eq {ks V : List Nat} {o : Nat} {R R' : rR} (h : kn ks o R) (h' : eqR V R R') (hd : ∀ k, k ∈ ks → k ∉ V) : kn ks o R' := fun k hk => by
  rw [h' k (hd k hk)]
  exact h k hk
theorem kn.st {ks : List Nat} {o j : Nat} {R R' : rR} {k : Nat} {v : Int32} (h : kn ks o R) (e : R' k j = some v) (g : ∀ b, b ≠ j → R' k b = R k b) (f : ∀ a, a ≠ k → R' a = R a) : kn ks o R' := by
  intro a ha
  by_cases e1 : a = k
  · subst e1
    by_cases e2 : o = j
    · subst e2
      exact ⟨v, e⟩
    · rw [g o e2]
      exact h a ha
  · rw [f a e1]
    exact h a ha
/-- a method's code, where it has one, lies in the file -/
def MCD (f : Nat → Int32) (n : Nat) (o : Nat) (R : rR) : Prop := ∃ c, R 37 o = some c ∧ (c.toInt < 0 ∨ ∃ l r m s t : Int32, R 38 o = some l ∧ R 41 o = some r ∧ R 42 o = some m ∧ R 39 o = some s ∧ R 40 o = some t ∧ 0 ≤ l.toInt ∧ c.toInt + l.toInt ≤ n ∧ 0 ≤ r.toInt ∧ 0 ≤ m.toInt ∧ r.toInt + 8 * m.toInt ≤ n)
theorem MCD.fr {o : Nat} {R R' : rR} (h : MCD f n o R) (h' : ∀ k, k ∈ [37, 38, 39, 40, 41, 42] → R' k o = R k o) : MCD f n o R' := by
  unfold MCD at h ⊢
  rw [h' 37 (by decide), h' 38 (by decide), h' 39 (by decide), h' 40 (by decide), h' 41 (by decide), h' 42 (by decide)]
  exact h
/-- the known names: where each belongs, from when on -/
def kin (k : Int32) : Int32 := if k = 0 then 1 else if k = 1 ∨ k = 2 then 2 else if k = 3 then 3 else 4
def KW (I : rI) (R : rR) : Prop := (∀ k : Int32, 0 ≤ k.toInt → k.toInt < 10 → R 63 k.toNatClampNeg = some (kin k)) ∧ ∀ k : Int32, 0 ≤ k.toInt → k.toInt < 10 → ∃ v, R 64 k.toNatClampNeg = some v
theorem KW.mono {I I' : rI} {R R' : rR} (h : KW I R) (hI : ∀ k, k ∈ ([] : List Nat) → I' k = I k) (hR : ∀ k, k ∈ [63, 64] → R' k = R k) : KW I' R' := by
  unfold KW
  rw [hR 63 (by decide), hR 64 (by decide)]
  exact h
theorem ra_kn {g : xe_G} {m0 : Nat} {q : Nat → Nat} {z : Nat × Nat} {I : rI} {R : rR} {M : mi_H} {T : Nat → Option (Nat × mi_B)} {d pc : Nat} {tb : mi_B} {lv : List (Nat × Value)} {s0 : List Value} {Q : Option Value → mi_H → Prop} {i : Int32} {S' : mi_S} (h1 : tb.1 pc = some (.inl (o_ald (.object "java/lang/String")))) (hR : RS g m0 q z I R M) (h0 : 0 ≤ i.toInt) (h10 : i.toInt < 10) (e1 : mi_nk tb.2 (pc + 1, lv, .ref (g.2.1 (15 + i.toNatClampNeg)) :: s0, M) = S') (kk : ml T d tb S' Q) : ml T d tb (pc, lv, .int i :: .ref (q 62) :: s0, M) Q := by
  have hg : mi_ga M (q 62) (.object "java/lang/String") = some (10, fun i => (knl[i]?).map (fun j => Value.ref (g.2.1 j))) := by
    unfold mi_ga
    rw [hR.2.2.1]
    simp
  refine ml_ald h1 hg (vin_lt h0 (by omega)) ?_ e1 kk
  have hi : i.toNatClampNeg < 10 := by show i.toInt.toNat < 10; omega
  generalize i.toNatClampNeg = j at hi
  have : j = 0 ∨ j = 1 ∨ j = 2 ∨ j = 3 ∨ j = 4 ∨ j = 5 ∨ j = 6 ∨ j = 7 ∨ j = 8 ∨ j = 9 := by omega
  rcases this with rfl | rfl | rfl | rfl | rfl | rfl | rfl | rfl | rfl | rfl <;> rfl
theorem rl_kn {g : xe_G} {m0 : Nat} {q : Nat → Nat} {z : Nat × Nat} {I : rI} {R : rR} {M : mi_H} {T : Nat → Option (Nat × mi_B)} {d pc : Nat} {tb : mi_B} {lv : List (Nat × Value)} {s0 : List Value} {Q : Option Value → mi_H → Prop} {S' : mi_S} (h1 : tb.1 pc = some (.inl (o_alen (.object "java/lang/String")))) (hR : RS g m0 q z I R M) (e1 : mi_nk tb.2 (pc + 1, lv, .int (nI 10) :: s0, M) = S') (kk : ml T d tb S' Q) : ml T d tb (pc, lv, .ref (q 62) :: s0, M) Q := by
  have hg : mi_ga M (q 62) (.object "java/lang/String") = some (10, fun i => (knl[i]?).map (fun j => Value.ref (g.2.1 j))) := by
    unfold mi_ga
    rw [hR.2.2.1]
    simp
  exact ml_alen h1 hg e1 kk
def NW (f : Nat → Int32) (n : Nat) (I : rI) : Prop := (∀ k, k ∈ [65, 66, 67, 68, 69, 72] → ∃ v, I k = some v) ∧ ∃ b c : Int32, I 70 = some b ∧ I 71 = some c ∧ 0 ≤ c.toInt ∧ (c.toInt = 0 ∨ BSW f n b c)
theorem NW.fr {I I' : rI} (h : NW f n I) (h' : ∀ k, k ∈ [65, 66, 67, 68, 69, 70, 71, 72] → I' k = I k) : NW f n I' := by
  obtain ⟨h1, b, c, h2, h3, h4⟩ := h
  refine ⟨fun k hk => ?_, b, c, (h' 70 (by decide)).trans h2, (h' 71 (by decide)).trans h3, h4⟩
  rw [h' k (by simp only [List.mem_cons, List.not_mem_nil, or_false] at hk ⊢; omega)]
  exact h1 k hk
theorem NW.put {I I' : rI} {j : Nat} {v : Int32} (h : NW f n I) (hj : j ∈ [65, 66, 67, 68, 69, 72]) (e : I' j = some v) (g : ∀ k, k ≠ j → I' k = I k) : NW f n I' := by
  obtain ⟨h1, b, c, h2, h3, h4⟩ := h
  have e70 : (70 : Nat) ≠ j := by simp only [List.mem_cons, List.not_mem_nil, or_false] at hj; omega
  have e71 : (71 : Nat) ≠ j := by simp only [List.mem_cons, List.not_mem_nil, or_false] at hj; omega
  refine ⟨fun k hk => ?_, b, c, (g 70 e70).trans h2, (g 71 e71).trans h3, h4⟩
  by_cases q : k = j
  · subst q
    exact ⟨v, e⟩
  · rw [g k q]
    exact h1 k hk
end MIO
section MIO2
variable {w : Int32}
theorem kin_1 (h : kin w = 1) : w = 0 := by
  unfold kin at h
  split at h
  · assumption
  · split at h
    · exact absurd h (by decide)
    · split at h <;> exact absurd h (by decide)
theorem kin_2 (h : kin w = 2) : w = 1 ∨ w = 2 := by
  unfold kin at h
  split at h
  · exact absurd h (by decide)
  · split at h
    · assumption
    · split at h <;> exact absurd h (by decide)
theorem kin_3 (h : kin w = 3) : w = 3 := by
  unfold kin at h
  split at h
  · exact absurd h (by decide)
  · split at h
    · exact absurd h (by decide)
    · split at h
      · assumption
      · exact absurd h (by decide)
theorem kin_4 (h0 : 0 ≤ w.toInt) (h1 : w.toInt < 10) (h : kin w = 4) : 4 ≤ w.toInt ∧ w.toInt ≤ 9 := by
  unfold kin at h
  split at h
  · exact absurd h (by decide)
  · split at h
    · exact absurd h (by decide)
    · split at h
      · exact absurd h (by decide)
      · rename_i a b c
        have a1 : w.toInt ≠ 0 := fun e => a (Int32.toInt_inj.mp e)
        have b1 : w.toInt ≠ 1 := fun e => b (Or.inl (Int32.toInt_inj.mp e))
        have b2 : w.toInt ≠ 2 := fun e => b (Or.inr (Int32.toInt_inj.mp e))
        have c1 : w.toInt ≠ 3 := fun e => c (Int32.toInt_inj.mp e)
        omega
end MIO2
section MIO3
variable {f : Nat → Int32} {n : Nat} {I I' : rI} {x a : Int32}
theorem w49 (h : 4 ≤ x.toInt ∧ x.toInt ≤ 9) : x = 4 ∨ x = 5 ∨ x = 6 ∨ x = 7 ∨ x = 8 ∨ x = 9 := by
  have : x.toInt = 4 ∨ x.toInt = 5 ∨ x.toInt = 6 ∨ x.toInt = 7 ∨ x.toInt = 8 ∨ x.toInt = 9 := by omega
  rcases this with e | e | e | e | e | e
  · exact Or.inl (i_ofInt 4 (by omega) e)
  · exact Or.inr (Or.inl (i_ofInt 5 (by omega) e))
  · exact Or.inr (Or.inr (Or.inl (i_ofInt 6 (by omega) e)))
  · exact Or.inr (Or.inr (Or.inr (Or.inl (i_ofInt 7 (by omega) e))))
  · exact Or.inr (Or.inr (Or.inr (Or.inr (Or.inl (i_ofInt 8 (by omega) e)))))
  · exact Or.inr (Or.inr (Or.inr (Or.inr (Or.inr (i_ofInt 9 (by omega) e)))))
theorem nw_boot (h : NW f n I) (hI : eqI [70, 71] I I') (w : x ≠ 0 ∧ I' = I ∨ x = 0 ∧ I' 70 = some a ∧ I' 71 = some (f2 f a) ∧ BSW f n a (f2 f a)) : NW f n I' := by
  rcases w with ⟨-, e⟩ | ⟨-, h1, h2, h3⟩
  · rw [e]
    exact h
  · refine ⟨fun k hk => ?_, a, _, h1, h2, f2_pos, Or.inr h3⟩
    rw [hI k (by simp only [List.mem_cons, List.not_mem_nil, or_false] at hk ⊢; omega)]
    exact h.1 k hk
theorem nw_comp (h : NW f n I) (hI : eqI [47, 48, 72] I I') (w : x = 0 ∧ I' 72 = some a ∨ x ≠ 0 ∧ I' 72 = I 72) : NW f n I' := by
  obtain ⟨h1, b, c, h2, h3, h4⟩ := h
  refine ⟨fun k hk => ?_, b, c, (hI 70 (by decide)).trans h2, (hI 71 (by decide)).trans h3, h4⟩
  by_cases e : k = 72
  · subst e
    rcases w with ⟨-, w⟩ | ⟨-, w⟩
    · exact ⟨_, w⟩
    · rw [w]
      exact h1 72 (by decide)
  · rw [hI k (by simp only [List.mem_cons, List.not_mem_nil, or_false] at hk ⊢; omega)]
    exact h1 k hk
end MIO3
end
section
/-! the reference: the class, bootstraps, components (laid by wip/p2/c68.py) -/
theorem at_k {hA k : Int32} {n : Nat} (hn : n ≤ 65540) (h0 : 0 ≤ hA.toInt) (h1 : hA.toInt ≤ n) (k0 : 0 ≤ k.toInt) (k1 : k.toInt ≤ 65535) : (hA + 8 + 2 * k).toInt = hA.toInt + 8 + 2 * k.toInt := by
  have e8 : (8 : Int32).toInt = 8 := rfl
  have d8 : (hA + 8).toInt = hA.toInt + 8 := by rw [i_add (by omega) (by omega), e8]
  rw [i_add (by rw [two_k k0 (by omega)]; omega) (by rw [two_k k0 (by omega)]; omega), two_k k0 (by omega), d8]

set_option maxHeartbeats 2000000 in
theorem rm_checkClass {g : xe_G}  {m0 : Nat} {q : Nat → Nat} {z : Nat × Nat} {I : rI} {R : rR} {M : mi_H} {hA so : Int32} {n : Nat} {f : Nat → Int32} {S cN : Nat} {sa sl ch : Nat → Int32} {cp mj : Int32} {pa py : Nat → Int32}  (hR : RS g m0 q z I R M) (hk54 : I 54 = some hA) (hk11 : I 11 = some so) (hF : FK n f I R) (hY : SK S cN sa sl ch I R) (hP : PK n f S cp mj pa py I R) (hE : EK f cp pa py sa sl ch) (h0 : 0 ≤ hA.toInt) (h1 : hA.toInt + 8 + 2 * (f2 f (hA + 6)).toInt ≤ n) {d : Nat} (hd : 6 ≤ d) : mt (mT g) d 188 [.ref m0] M (fun v M' => ∃ (x : Int32) (I' : rI) (R' : rR), v = some (.int x) ∧ RS g m0 q z I' R' M' ∧ eqI [47, 48, 58, 59, 60, 61] I I' ∧ eqR [] R R' ∧ (x = 0 ∨ x = 1) ∧ (x = 0 ∨ (∃ v, I' 58 = some v) ∧ ∃ v, I' 61 = some v)) := by
  obtain ⟨d, rfl⟩ : ∃ e, d = e + 1 := ⟨d - 1, by omega⟩
  refine mt_in (b := mb_188 g) rfl rfl ?_
  show ml (mT g) d (mb_188 g).2 (0, [(0, .ref m0)], [], M) _
  have hn := hF.1
  have hc0 := f2_pos (f := f) (x := hA + 6)
  have hc1 := f2_le (f := f) (x := hA + 6)
  have a2 : (hA + 2).toInt = hA.toInt + 2 := i_add (by have : (2 : Int32).toInt = 2 := rfl; omega) (by have : (2 : Int32).toInt = 2 := rfl; omega)
  have a4 : (hA + 4).toInt = hA.toInt + 4 := i_add (by have : (4 : Int32).toInt = 4 := rfl; omega) (by have : (4 : Int32).toInt = 4 := rfl; omega)
  have a6 : (hA + 6).toInt = hA.toInt + 6 := i_add (by have : (6 : Int32).toInt = 6 := rfl; omega) (by have : (6 : Int32).toInt = 6 := rfl; omega)
  have a8 : (hA + 8).toInt = hA.toInt + 8 := i_add (by have : (8 : Int32).toInt = 8 := rfl; omega) (by have : (8 : Int32).toInt = 8 := rfl; omega)
  refine ml_blk 2 (S' := (2, [(0, .ref m0)], [.ref m0, .ref m0], M)) rfl ?_
  refine rg_int (S' := (5, [(0, .ref m0)], [.int hA, .ref m0], M)) rfl hR rfl (hk54) rfl ?_
  refine ml_call (a := [.ref m0, .int hA]) (rest := []) rfl (hR.okc rfl rfl rfl) rfl rfl (rm_u2 hR hF (by omega) (by omega) (by omega)) (fun v11 M12 h13 => ?_)
  obtain ⟨rfl, h13⟩ := h13
  rw [h13]
  show ml _ _ _ (8, [(0, .ref m0)], [.int (f2 f hA)], M) _
  refine ml_st (S' := (9, [(1, .int (f2 f hA)), (0, .ref m0)], [], M)) rfl rfl rfl ?_
  refine ml_blk 2 (S' := (11, [(1, .int (f2 f hA)), (0, .ref m0)], [.int (f2 f hA), .ref m0], M)) rfl ?_
  refine rp_int rfl hR rfl (fun M14 I15 hR16 e17 f18 => ?_)
  show ml _ _ _ (14, [(1, .int (f2 f hA)), (0, .ref m0)], [], M14) _
  refine ml_blk 3 (S' := (19, [(1, .int (f2 f hA)), (0, .ref m0)], [.int ((f2 f hA) &&& 512)], M14)) rfl ?_
  have J_27 : ∀ (s27_0 : Int32), ml (mT g) d (mb_188 g).2 (27, [(0, .ref m0), (1, .int (f2 f hA))], [.int s27_0], M14) (fun v M' => ∃ (x : Int32) (I' : rI) (R' : rR), v = some (.int x) ∧ RS g m0 q z I' R' M' ∧ eqI [47, 48, 58, 59, 60, 61] I I' ∧ eqR [] R R' ∧ (x = 0 ∨ x = 1) ∧ (x = 0 ∨ (∃ v, I' 58 = some v) ∧ ∃ v, I' 61 = some v)) := by
    intro s27_0
    refine ml_st (S' := (28, [(2, .int s27_0), (0, .ref m0), (1, .int (f2 f hA))], [], M14)) rfl rfl rfl ?_
    refine ml_blk 3 (S' := (33, [(2, .int s27_0), (0, .ref m0), (1, .int (f2 f hA))], [.int ((f2 f hA) &&& 32768)], M14)) rfl ?_
    have J_82 : ml (mT g) d (mb_188 g).2 (82, [(0, .ref m0), (1, .int (f2 f hA)), (2, .int s27_0)], [], M14) (fun v M' => ∃ (x : Int32) (I' : rI) (R' : rR), v = some (.int x) ∧ RS g m0 q z I' R' M' ∧ eqI [47, 48, 58, 59, 60, 61] I I' ∧ eqR [] R R' ∧ (x = 0 ∨ x = 1) ∧ (x = 0 ∨ (∃ v, I' 58 = some v) ∧ ∃ v, I' 61 = some v)) := by
      refine ml_st (S' := (83, [(0, .ref m0), (1, .int (f2 f hA)), (2, .int s27_0)], [.int s27_0], M14)) rfl rfl rfl ?_
      have J_110 : ml (mT g) d (mb_188 g).2 (110, [(0, .ref m0)], [], M14) (fun v M' => ∃ (x : Int32) (I' : rI) (R' : rR), v = some (.int x) ∧ RS g m0 q z I' R' M' ∧ eqI [47, 48, 58, 59, 60, 61] I I' ∧ eqR [] R R' ∧ (x = 0 ∨ x = 1) ∧ (x = 0 ∨ (∃ v, I' 58 = some v) ∧ ∃ v, I' 61 = some v)) := by
        refine ml_blk 3 (S' := (114, [(0, .ref m0)], [.ref m0, .int 15, .ref m0], M14)) rfl ?_
        refine rg_int (S' := (117, [(0, .ref m0)], [.int hA, .int 15, .ref m0], M14)) rfl hR16 rfl ((f18 54 (by decide)).trans (hk54)) rfl ?_
        refine ml_call (a := [.ref m0, .int 15, .int hA]) (rest := []) rfl (hR16.okc rfl rfl rfl) rfl rfl (rm_wrong hR16 (by omega)) (fun v19 M20 h21 => ?_)
        obtain ⟨u27, I22, R23, rfl, hR24, hI25, hV26, z28, w29⟩ := h21
        show ml _ _ _ (120, [(0, .ref m0)], [.int u27], M20) _
        exact ml_ret rfl (r_z (z28)) (⟨_, _, _, rfl, hR24, ((eqI.rf.put f18 (by decide)).tr hI25 (by decide)), (eqR.rf.tr hV26 (by decide)), z28, Or.inl w29⟩)
      refine ml_if (S1 := (110, [(0, .ref m0)], [], M14)) (S2 := (86, [(0, .ref m0), (1, .int (f2 f hA)), (2, .int s27_0)], [], M14)) rfl rfl rfl (fun c_83 => ?_) (fun c_83 => ?_)
      · have c_83 : s27_0 = 0 := of_decide_eq_true c_83
        exact J_110 
      · have c_83 : ¬ (s27_0 = 0) := of_decide_eq_false c_83
        refine ml_blk 3 (S' := (91, [(0, .ref m0), (1, .int (f2 f hA)), (2, .int s27_0)], [.int ((f2 f hA) &&& 32768)], M14)) rfl ?_
        refine ml_if (S1 := (110, [(0, .ref m0)], [], M14)) (S2 := (94, [(0, .ref m0), (1, .int (f2 f hA)), (2, .int s27_0)], [], M14)) rfl rfl rfl (fun c_91 => ?_) (fun c_91 => ?_)
        · have c_91 : ¬ ((f2 f hA) &&& 32768) = 0 := of_decide_eq_true c_91
          exact J_110 
        · have c_91 : ¬ (¬ ((f2 f hA) &&& 32768) = 0) := of_decide_eq_false c_91
          refine ml_blk 3 (S' := (99, [(0, .ref m0), (1, .int (f2 f hA)), (2, .int s27_0)], [.int ((f2 f hA) &&& 1024)], M14)) rfl ?_
          refine ml_if (S1 := (110, [(0, .ref m0)], [], M14)) (S2 := (102, [(0, .ref m0), (1, .int (f2 f hA)), (2, .int s27_0)], [], M14)) rfl rfl rfl (fun c_99 => ?_) (fun c_99 => ?_)
          · have c_99 : ((f2 f hA) &&& 1024) = 0 := of_decide_eq_true c_99
            exact J_110 
          · have c_99 : ¬ (((f2 f hA) &&& 1024) = 0) := of_decide_eq_false c_99
            refine ml_blk 3 (S' := (107, [(0, .ref m0), (1, .int (f2 f hA)), (2, .int s27_0)], [.int ((f2 f hA) &&& 16400)], M14)) rfl ?_
            refine ml_if (S1 := (110, [(0, .ref m0)], [], M14)) (S2 := (110, [(0, .ref m0)], [], M14)) rfl rfl rfl (fun c_107 => ?_) (fun c_107 => ?_)
            · have c_107 : ¬ ((f2 f hA) &&& 16400) = 0 := of_decide_eq_true c_107
              exact J_110 
            · have c_107 : ¬ (¬ ((f2 f hA) &&& 16400) = 0) := of_decide_eq_false c_107
              exact J_110 
    refine ml_if (S1 := (82, [(0, .ref m0), (1, .int (f2 f hA)), (2, .int s27_0)], [], M14)) (S2 := (36, [(2, .int s27_0), (0, .ref m0), (1, .int (f2 f hA))], [], M14)) rfl rfl rfl (fun c_33 => ?_) (fun c_33 => ?_)
    · have c_33 : ¬ ((f2 f hA) &&& 32768) = 0 := of_decide_eq_true c_33
      exact J_82 
    · have c_33 : ¬ (¬ ((f2 f hA) &&& 32768) = 0) := of_decide_eq_false c_33
      refine ml_st (S' := (37, [(2, .int s27_0), (0, .ref m0), (1, .int (f2 f hA))], [.int s27_0], M14)) rfl rfl rfl ?_
      have J_121 : ml (mT g) d (mb_188 g).2 (121, [(0, .ref m0), (2, .int s27_0)], [], M14) (fun v M' => ∃ (x : Int32) (I' : rI) (R' : rR), v = some (.int x) ∧ RS g m0 q z I' R' M' ∧ eqI [47, 48, 58, 59, 60, 61] I I' ∧ eqR [] R R' ∧ (x = 0 ∨ x = 1) ∧ (x = 0 ∨ (∃ v, I' 58 = some v) ∧ ∃ v, I' 61 = some v)) := by
        refine ml_blk 3 (S' := (124, [(0, .ref m0), (2, .int s27_0)], [.ref m0, .ref m0, .ref m0], M14)) rfl ?_
        refine rg_int (S' := (127, [(0, .ref m0), (2, .int s27_0)], [.int hA, .ref m0, .ref m0], M14)) rfl hR16 rfl ((f18 54 (by decide)).trans (hk54)) rfl ?_
        refine ml_blk 2 (S' := (129, [(0, .ref m0), (2, .int s27_0)], [.int (hA + 2), .ref m0, .ref m0], M14)) rfl ?_
        have hF30 : FK n f I15 R := (hF.mono (pIx f18 (by decide)) (fun _ _ => rfl))
        refine ml_call (a := [.ref m0, .int (hA + 2)]) (rest := [.ref m0]) rfl (hR16.okc rfl rfl rfl) rfl rfl (rm_u2 hR16 hF30 (by omega) (by omega) (by omega)) (fun v31 M32 h33 => ?_)
        obtain ⟨rfl, h33⟩ := h33
        rw [h33]
        show ml _ _ _ (132, [(0, .ref m0), (2, .int s27_0)], [.int (f2 f (hA + 2)), .ref m0], M14) _
        have hY34 : SK S cN sa sl ch I15 R := (hY.mono (pIx f18 (by decide)) (fun _ _ => rfl))
        have hP35 : PK n f S cp mj pa py I15 R := (hP.mono (pIx f18 (by decide)) (fun _ _ => rfl))
        refine ml_call (a := [.ref m0, .int (f2 f (hA + 2))]) (rest := []) rfl (hR16.okc rfl rfl rfl) rfl rfl (rm_plainClass hR16 hF30 hY34 hP35 hE (by omega)) (fun v36 M37 h38 => ?_)
        obtain ⟨⟨u39, rfl, z40, w41⟩, h38⟩ := h38
        rw [h38]
        show ml _ _ _ (135, [(0, .ref m0), (2, .int s27_0)], [.int u39], M14) _
        refine ml_if (S1 := (151, [(0, .ref m0), (2, .int s27_0)], [], M14)) (S2 := (138, [(0, .ref m0), (2, .int s27_0)], [], M14)) rfl rfl rfl (fun c_135 => ?_) (fun c_135 => ?_)
        · have c_135 : ¬ u39 = 0 := of_decide_eq_true c_135
          have hA7 := w41.resolve_left c_135
          refine ml_blk 3 (S' := (154, [(0, .ref m0), (2, .int s27_0)], [.ref m0, .ref m0, .ref m0], M14)) rfl ?_
          refine ml_st (S' := (155, [(0, .ref m0), (2, .int s27_0)], [.ref m0, .ref m0, .ref m0, .ref m0], M14)) rfl rfl rfl ?_
          refine rg_int (S' := (158, [(0, .ref m0), (2, .int s27_0)], [.int hA, .ref m0, .ref m0, .ref m0], M14)) rfl hR16 rfl ((f18 54 (by decide)).trans (hk54)) rfl ?_
          refine ml_blk 2 (S' := (160, [(0, .ref m0), (2, .int s27_0)], [.int (hA + 2), .ref m0, .ref m0, .ref m0], M14)) rfl ?_
          refine ml_call (a := [.ref m0, .int (hA + 2)]) (rest := [.ref m0, .ref m0]) rfl (hR16.okc rfl rfl rfl) rfl rfl (rm_u2 hR16 hF30 (by omega) (by omega) (by omega)) (fun v42 M43 h44 => ?_)
          obtain ⟨rfl, h44⟩ := h44
          rw [h44]
          show ml _ _ _ (163, [(0, .ref m0), (2, .int s27_0)], [.int (f2 f (hA + 2)), .ref m0, .ref m0], M14) _
          refine ml_call (a := [.ref m0, .int (f2 f (hA + 2))]) (rest := [.ref m0]) rfl (hR16.okc rfl rfl rfl) rfl rfl (rm_className hR16 hF30 hP35 (hA7) ((hE _ (by rw [hA7]; decide)).1.1 (by rw [hA7]; exact Or.inl rfl)) (by omega)) (fun v45 M46 h47 => ?_)
          obtain ⟨rfl, h47⟩ := h47
          rw [h47]
          show ml _ _ _ (166, [(0, .ref m0), (2, .int s27_0)], [.int (pyf py (ixf f pa (f2 f (hA + 2)) 1)), .ref m0], M14) _
          refine rp_int rfl hR16 rfl (fun M48 I49 hR50 e51 f52 => ?_)
          show ml _ _ _ (169, [(0, .ref m0), (2, .int s27_0)], [], M48) _
          refine ml_blk 2 (S' := (171, [(0, .ref m0), (2, .int s27_0)], [.ref m0, .ref m0], M48)) rfl ?_
          refine rg_int (S' := (174, [(0, .ref m0), (2, .int s27_0)], [.int hA, .ref m0], M48)) rfl hR50 rfl ((f52 54 (by decide)).trans ((f18 54 (by decide)).trans (hk54))) rfl ?_
          refine ml_blk 2 (S' := (176, [(0, .ref m0), (2, .int s27_0)], [.int (hA + 4), .ref m0], M48)) rfl ?_
          have hF53 : FK n f I49 R := (hF30.mono (pIx f52 (by decide)) (fun _ _ => rfl))
          refine ml_call (a := [.ref m0, .int (hA + 4)]) (rest := []) rfl (hR50.okc rfl rfl rfl) rfl rfl (rm_u2 hR50 hF53 (by omega) (by omega) (by omega)) (fun v54 M55 h56 => ?_)
          obtain ⟨rfl, h56⟩ := h56
          rw [h56]
          show ml _ _ _ (179, [(0, .ref m0), (2, .int s27_0)], [.int (f2 f (hA + 4))], M48) _
          refine ml_st (S' := (180, [(3, .int (f2 f (hA + 4))), (0, .ref m0), (2, .int s27_0)], [], M48)) rfl rfl rfl ?_
          refine ml_blk 2 (S' := (182, [(3, .int (f2 f (hA + 4))), (0, .ref m0), (2, .int s27_0)], [.int (f2 f (hA + 4)), .ref m0], M48)) rfl ?_
          have hY57 : SK S cN sa sl ch I49 R := (hY34.mono (pIx f52 (by decide)) (fun _ _ => rfl))
          have hP58 : PK n f S cp mj pa py I49 R := (hP35.mono (pIx f52 (by decide)) (fun _ _ => rfl))
          refine ml_call (a := [.ref m0, .int (f2 f (hA + 4))]) (rest := []) rfl (hR50.okc rfl rfl rfl) rfl rfl (rm_plainClass hR50 hF53 hY57 hP58 hE (by omega)) (fun v59 M60 h61 => ?_)
          obtain ⟨⟨u62, rfl, z63, w64⟩, h61⟩ := h61
          rw [h61]
          show ml _ _ _ (185, [(3, .int (f2 f (hA + 4))), (0, .ref m0), (2, .int s27_0)], [.int u62], M48) _
          refine ml_if (S1 := (204, [(0, .ref m0)], [], M48)) (S2 := (188, [(3, .int (f2 f (hA + 4))), (0, .ref m0), (2, .int s27_0)], [], M48)) rfl rfl rfl (fun c_185 => ?_) (fun c_185 => ?_)
          · have c_185 : u62 = 0 := of_decide_eq_true c_185
            refine ml_blk 3 (S' := (208, [(0, .ref m0)], [.ref m0, .int 17, .ref m0], M48)) rfl ?_
            refine rg_int (S' := (211, [(0, .ref m0)], [.int hA, .int 17, .ref m0], M48)) rfl hR50 rfl ((f52 54 (by decide)).trans ((f18 54 (by decide)).trans (hk54))) rfl ?_
            refine ml_blk 2 (S' := (213, [(0, .ref m0)], [.int (hA + 4), .int 17, .ref m0], M48)) rfl ?_
            refine ml_call (a := [.ref m0, .int 17, .int (hA + 4)]) (rest := []) rfl (hR50.okc rfl rfl rfl) rfl rfl (rm_wrong hR50 (by omega)) (fun v65 M66 h67 => ?_)
            obtain ⟨u73, I68, R69, rfl, hR70, hI71, hV72, z74, w75⟩ := h67
            show ml _ _ _ (216, [(0, .ref m0)], [.int u73], M66) _
            exact ml_ret rfl (r_z (z74)) (⟨_, _, _, rfl, hR70, (((eqI.rf.put f18 (by decide)).put f52 (by decide)).tr hI71 (by decide)), (eqR.rf.tr hV72 (by decide)), z74, Or.inl w75⟩)
          · have c_185 : ¬ (u62 = 0) := of_decide_eq_false c_185
            have hB7 := w64.resolve_left c_185
            refine ml_st (S' := (189, [(3, .int (f2 f (hA + 4))), (0, .ref m0), (2, .int s27_0)], [.int s27_0], M48)) rfl rfl rfl ?_
            have J_217 : (tgf f cp pa (f2 f (hA + 4)) = 7) → ml (mT g) d (mb_188 g).2 (217, [(0, .ref m0), (3, .int (f2 f (hA + 4)))], [], M48) (fun v M' => ∃ (x : Int32) (I' : rI) (R' : rR), v = some (.int x) ∧ RS g m0 q z I' R' M' ∧ eqI [47, 48, 58, 59, 60, 61] I I' ∧ eqR [] R R' ∧ (x = 0 ∨ x = 1) ∧ (x = 0 ∨ (∃ v, I' 58 = some v) ∧ ∃ v, I' 61 = some v)) := by
              intro hj_217
              refine ml_blk 3 (S' := (220, [(0, .ref m0), (3, .int (f2 f (hA + 4)))], [.int (f2 f (hA + 4)), .ref m0, .ref m0], M48)) rfl ?_
              refine ml_call (a := [.ref m0, .int (f2 f (hA + 4))]) (rest := [.ref m0]) rfl (hR50.okc rfl rfl rfl) rfl rfl (rm_className hR50 hF53 hP58 (hj_217) ((hE _ (by rw [hj_217]; decide)).1.1 (by rw [hj_217]; exact Or.inl rfl)) (by omega)) (fun v76 M77 h78 => ?_)
              obtain ⟨rfl, h78⟩ := h78
              rw [h78]
              show ml _ _ _ (223, [(0, .ref m0), (3, .int (f2 f (hA + 4)))], [.int (pyf py (ixf f pa (f2 f (hA + 4)) 1)), .ref m0], M48) _
              refine rp_int rfl hR50 rfl (fun M79 I80 hR81 e82 f83 => ?_)
              show ml _ _ _ (226, [(0, .ref m0), (3, .int (f2 f (hA + 4)))], [], M79) _
              refine ml_blk 2 (S' := (228, [(0, .ref m0), (3, .int (f2 f (hA + 4)))], [.ref m0, .ref m0], M79)) rfl ?_
              refine rg_int (S' := (231, [(0, .ref m0), (3, .int (f2 f (hA + 4)))], [.int hA, .ref m0], M79)) rfl hR81 rfl ((f83 54 (by decide)).trans ((f52 54 (by decide)).trans ((f18 54 (by decide)).trans (hk54)))) rfl ?_
              refine ml_blk 2 (S' := (234, [(0, .ref m0), (3, .int (f2 f (hA + 4)))], [.int (hA + 6), .ref m0], M79)) rfl ?_
              have hF84 : FK n f I80 R := (hF53.mono (pIx f83 (by decide)) (fun _ _ => rfl))
              refine ml_call (a := [.ref m0, .int (hA + 6)]) (rest := []) rfl (hR81.okc rfl rfl rfl) rfl rfl (rm_u2 hR81 hF84 (by omega) (by omega) (by omega)) (fun v85 M86 h87 => ?_)
              obtain ⟨rfl, h87⟩ := h87
              rw [h87]
              show ml _ _ _ (237, [(0, .ref m0), (3, .int (f2 f (hA + 4)))], [.int (f2 f (hA + 6))], M79) _
              refine ml_st (S' := (239, [(4, .int (f2 f (hA + 6))), (0, .ref m0), (3, .int (f2 f (hA + 4)))], [], M79)) rfl rfl rfl ?_
              refine ml_st (S' := (240, [(4, .int (f2 f (hA + 6))), (0, .ref m0), (3, .int (f2 f (hA + 4)))], [.int 0], M79)) rfl rfl rfl ?_
              refine ml_st (S' := (242, [(0, .ref m0), (4, .int (f2 f (hA + 6))), (5, .int 0)], [], M79)) rfl rfl rfl ?_
              have L_242 : ∀ (n_242 : Nat) (i242_5 : Int32), (2147483648 - i242_5.toInt).toNat ≤ n_242 → (0 ≤ i242_5.toInt ∧ i242_5.toInt ≤ (f2 f (hA + 6)).toInt ∧ ∀ j : Int32, 0 ≤ j.toInt → j.toInt < i242_5.toInt → tgf f cp pa (f2 f ((hA + 8) + (2 * j))) = 7) → ml (mT g) d (mb_188 g).2 (242, [(0, .ref m0), (4, .int (f2 f (hA + 6))), (5, .int i242_5)], [], M79) (fun v M' => ∃ (x : Int32) (I' : rI) (R' : rR), v = some (.int x) ∧ RS g m0 q z I' R' M' ∧ eqI [47, 48, 58, 59, 60, 61] I I' ∧ eqR [] R R' ∧ (x = 0 ∨ x = 1) ∧ (x = 0 ∨ (∃ v, I' 58 = some v) ∧ ∃ v, I' 61 = some v)) := by
                intro n_242
                induction n_242 with
                | zero => intro i242_5 hn; exact (loop_zero hn).elim
                | succ n_242 ih_242 =>
                  intro i242_5 hn_242 hi_242
                  obtain ⟨hk0, hk1, hall⟩ := hi_242
                  refine ml_blk 2 (S' := (246, [(0, .ref m0), (4, .int (f2 f (hA + 6))), (5, .int i242_5)], [.int (f2 f (hA + 6)), .int i242_5], M79)) rfl ?_
                  refine ml_if2 (S1 := (349, [(0, .ref m0), (4, .int (f2 f (hA + 6))), (5, .int i242_5)], [], M79)) (S2 := (249, [(0, .ref m0), (4, .int (f2 f (hA + 6))), (5, .int i242_5)], [], M79)) rfl rfl rfl (fun c_246 => ?_) (fun c_246 => ?_)
                  · have c_246 : (f2 f (hA + 6)) ≤ i242_5 := of_decide_eq_true c_246
                    refine ml_blk 2 (S' := (352, [(0, .ref m0), (4, .int (f2 f (hA + 6))), (5, .int i242_5)], [.int (f2 f (hA + 6)), .ref m0], M79)) rfl ?_
                    refine rp_int rfl hR81 rfl (fun M88 I89 hR90 e91 f92 => ?_)
                    show ml _ _ _ (355, [(0, .ref m0), (4, .int (f2 f (hA + 6))), (5, .int i242_5)], [], M88) _
                    refine ml_st (S' := (356, [(0, .ref m0), (4, .int (f2 f (hA + 6))), (5, .int i242_5)], [.int 1], M88)) rfl rfl rfl ?_
                    exact ml_ret rfl (r_z (Or.inr rfl)) (⟨_, _, _, rfl, hR90, ((((eqI.rf.put f18 (by decide)).put f52 (by decide)).put f83 (by decide)).put f92 (by decide)), eqR.rf, Or.inr rfl, Or.inr ⟨⟨_, (f92 58 (by decide)).trans ((f83 58 (by decide)).trans ((f52 58 (by decide)).trans (e17)))⟩, _, e91⟩⟩)
                  · have c_246 : ¬ ((f2 f (hA + 6)) ≤ i242_5) := of_decide_eq_false c_246
                    have hkl := i_nle c_246
                    have hak := at_k (hA := hA) (k := i242_5) hn (by omega) (by omega) hk0 (by omega)
                    refine ml_st (S' := (250, [(0, .ref m0), (4, .int (f2 f (hA + 6))), (5, .int i242_5)], [.ref m0], M79)) rfl rfl rfl ?_
                    refine rg_int (S' := (253, [(0, .ref m0), (4, .int (f2 f (hA + 6))), (5, .int i242_5)], [.int hA], M79)) rfl hR81 rfl ((f83 54 (by decide)).trans ((f52 54 (by decide)).trans ((f18 54 (by decide)).trans (hk54)))) rfl ?_
                    refine ml_blk 3 (S' := (257, [(0, .ref m0), (4, .int (f2 f (hA + 6))), (5, .int i242_5)], [.int 2, .int (hA + 8)], M79)) rfl ?_
                    refine ml_blk 3 (S' := (261, [(0, .ref m0), (4, .int (f2 f (hA + 6))), (5, .int i242_5)], [.int ((hA + 8) + (2 * i242_5))], M79)) rfl ?_
                    refine ml_st (S' := (263, [(6, .int ((hA + 8) + (2 * i242_5))), (0, .ref m0), (4, .int (f2 f (hA + 6))), (5, .int i242_5)], [], M79)) rfl rfl rfl ?_
                    refine ml_blk 3 (S' := (267, [(6, .int ((hA + 8) + (2 * i242_5))), (0, .ref m0), (4, .int (f2 f (hA + 6))), (5, .int i242_5)], [.int ((hA + 8) + (2 * i242_5)), .ref m0, .ref m0], M79)) rfl ?_
                    refine ml_call (a := [.ref m0, .int ((hA + 8) + (2 * i242_5))]) (rest := [.ref m0]) rfl (hR81.okc rfl rfl rfl) rfl rfl (rm_u2 hR81 hF84 (by omega) (by omega) (by omega)) (fun v93 M94 h95 => ?_)
                    obtain ⟨rfl, h95⟩ := h95
                    rw [h95]
                    show ml _ _ _ (270, [(6, .int ((hA + 8) + (2 * i242_5))), (0, .ref m0), (4, .int (f2 f (hA + 6))), (5, .int i242_5)], [.int (f2 f ((hA + 8) + (2 * i242_5))), .ref m0], M79) _
                    have hY96 : SK S cN sa sl ch I80 R := (hY57.mono (pIx f83 (by decide)) (fun _ _ => rfl))
                    have hP97 : PK n f S cp mj pa py I80 R := (hP58.mono (pIx f83 (by decide)) (fun _ _ => rfl))
                    refine ml_call (a := [.ref m0, .int (f2 f ((hA + 8) + (2 * i242_5)))]) (rest := []) rfl (hR81.okc rfl rfl rfl) rfl rfl (rm_plainClass hR81 hF84 hY96 hP97 hE (by omega)) (fun v98 M99 h100 => ?_)
                    obtain ⟨⟨u101, rfl, z102, w103⟩, h100⟩ := h100
                    rw [h100]
                    show ml _ _ _ (273, [(6, .int ((hA + 8) + (2 * i242_5))), (0, .ref m0), (4, .int (f2 f (hA + 6))), (5, .int i242_5)], [.int u101], M79) _
                    refine ml_if (S1 := (285, [(6, .int ((hA + 8) + (2 * i242_5))), (0, .ref m0), (4, .int (f2 f (hA + 6))), (5, .int i242_5)], [], M79)) (S2 := (276, [(6, .int ((hA + 8) + (2 * i242_5))), (0, .ref m0), (4, .int (f2 f (hA + 6))), (5, .int i242_5)], [], M79)) rfl rfl rfl (fun c_273 => ?_) (fun c_273 => ?_)
                    · have c_273 : ¬ u101 = 0 := of_decide_eq_true c_273
                      have hq7 := w103.resolve_left c_273
                      refine ml_st (S' := (286, [(6, .int ((hA + 8) + (2 * i242_5))), (0, .ref m0), (4, .int (f2 f (hA + 6))), (5, .int i242_5)], [.int 0], M79)) rfl rfl rfl ?_
                      refine ml_st (S' := (288, [(0, .ref m0), (4, .int (f2 f (hA + 6))), (5, .int i242_5), (6, .int ((hA + 8) + (2 * i242_5))), (7, .int 0)], [], M79)) rfl rfl rfl ?_
                      have L_288 : ∀ (n_288 : Nat) (i288_7 : Int32), (2147483648 - i288_7.toInt).toNat ≤ n_288 → 0 ≤ i288_7.toInt → ml (mT g) d (mb_188 g).2 (288, [(0, .ref m0), (4, .int (f2 f (hA + 6))), (5, .int i242_5), (6, .int ((hA + 8) + (2 * i242_5))), (7, .int i288_7)], [], M79) (fun v M' => ∃ (x : Int32) (I' : rI) (R' : rR), v = some (.int x) ∧ RS g m0 q z I' R' M' ∧ eqI [47, 48, 58, 59, 60, 61] I I' ∧ eqR [] R R' ∧ (x = 0 ∨ x = 1) ∧ (x = 0 ∨ (∃ v, I' 58 = some v) ∧ ∃ v, I' 61 = some v)) := by
                        intro n_288
                        induction n_288 with
                        | zero => intro i288_7 hn; exact (loop_zero hn).elim
                        | succ n_288 ih_288 =>
                          intro i288_7 hn_288 hi_288
                          refine ml_blk 2 (S' := (292, [(0, .ref m0), (4, .int (f2 f (hA + 6))), (5, .int i242_5), (6, .int ((hA + 8) + (2 * i242_5))), (7, .int i288_7)], [.int i242_5, .int i288_7], M79)) rfl ?_
                          refine ml_if2 (S1 := (343, [(0, .ref m0), (4, .int (f2 f (hA + 6))), (5, .int i242_5), (6, .int ((hA + 8) + (2 * i242_5))), (7, .int i288_7)], [], M79)) (S2 := (295, [(0, .ref m0), (4, .int (f2 f (hA + 6))), (5, .int i242_5), (6, .int ((hA + 8) + (2 * i242_5))), (7, .int i288_7)], [], M79)) rfl rfl rfl (fun c_292 => ?_) (fun c_292 => ?_)
                          · have c_292 : i242_5 ≤ i288_7 := of_decide_eq_true c_292
                            refine ml_st (S' := (346, [(5, .int (i242_5 + 1)), (0, .ref m0), (4, .int (f2 f (hA + 6))), (6, .int ((hA + 8) + (2 * i242_5))), (7, .int i288_7)], [], M79)) rfl rfl rfl ?_
                            refine ml_st (S' := (242, [(0, .ref m0), (4, .int (f2 f (hA + 6))), (5, .int (i242_5 + 1))], [], M79)) rfl rfl rfl ?_
                            exact ih_242 (i242_5 + 1) (loop_inc (Int32.not_le.mp c_246) hn_242) (⟨by rw [inc_lt (Int32.not_le.mp c_246)]; omega, by rw [inc_lt (Int32.not_le.mp c_246)]; omega, fun j h0 h1 => by rw [inc_lt (Int32.not_le.mp c_246)] at h1; by_cases e : j = i242_5; (rw [e]; exact hq7); (exact hall j h0 (by have : j.toInt ≠ i242_5.toInt := fun q => e (Int32.toInt_inj.mp q); omega))⟩)
                          · have c_292 : ¬ (i242_5 ≤ i288_7) := of_decide_eq_false c_292
                            have hjl := i_nle c_292
                            have hj7 := hall i288_7 hi_288 hjl
                            have haj := at_k (hA := hA) (k := i288_7) hn (by omega) (by omega) hi_288 (by omega)
                            refine ml_blk 3 (S' := (298, [(0, .ref m0), (4, .int (f2 f (hA + 6))), (5, .int i242_5), (6, .int ((hA + 8) + (2 * i242_5))), (7, .int i288_7)], [.ref m0, .ref m0, .ref m0], M79)) rfl ?_
                            refine rg_int (S' := (301, [(0, .ref m0), (4, .int (f2 f (hA + 6))), (5, .int i242_5), (6, .int ((hA + 8) + (2 * i242_5))), (7, .int i288_7)], [.int hA, .ref m0, .ref m0], M79)) rfl hR81 rfl ((f83 54 (by decide)).trans ((f52 54 (by decide)).trans ((f18 54 (by decide)).trans (hk54)))) rfl ?_
                            refine ml_blk 3 (S' := (305, [(0, .ref m0), (4, .int (f2 f (hA + 6))), (5, .int i242_5), (6, .int ((hA + 8) + (2 * i242_5))), (7, .int i288_7)], [.int 2, .int (hA + 8), .ref m0, .ref m0], M79)) rfl ?_
                            refine ml_blk 3 (S' := (309, [(0, .ref m0), (4, .int (f2 f (hA + 6))), (5, .int i242_5), (6, .int ((hA + 8) + (2 * i242_5))), (7, .int i288_7)], [.int ((hA + 8) + (2 * i288_7)), .ref m0, .ref m0], M79)) rfl ?_
                            refine ml_call (a := [.ref m0, .int ((hA + 8) + (2 * i288_7))]) (rest := [.ref m0]) rfl (hR81.okc rfl rfl rfl) rfl rfl (rm_u2 hR81 hF84 (by omega) (by omega) (by omega)) (fun v104 M105 h106 => ?_)
                            obtain ⟨rfl, h106⟩ := h106
                            rw [h106]
                            show ml _ _ _ (312, [(0, .ref m0), (4, .int (f2 f (hA + 6))), (5, .int i242_5), (6, .int ((hA + 8) + (2 * i242_5))), (7, .int i288_7)], [.int (f2 f ((hA + 8) + (2 * i288_7))), .ref m0], M79) _
                            refine ml_call (a := [.ref m0, .int (f2 f ((hA + 8) + (2 * i288_7)))]) (rest := []) rfl (hR81.okc rfl rfl rfl) rfl rfl (rm_className hR81 hF84 hP97 (hj7) ((hE _ (by rw [hj7]; decide)).1.1 (by rw [hj7]; exact Or.inl rfl)) (by omega)) (fun v107 M108 h109 => ?_)
                            obtain ⟨rfl, h109⟩ := h109
                            rw [h109]
                            show ml _ _ _ (315, [(0, .ref m0), (4, .int (f2 f (hA + 6))), (5, .int i242_5), (6, .int ((hA + 8) + (2 * i242_5))), (7, .int i288_7)], [.int (pyf py (ixf f pa (f2 f ((hA + 8) + (2 * i288_7))) 1))], M79) _
                            refine ml_blk 3 (S' := (319, [(0, .ref m0), (4, .int (f2 f (hA + 6))), (5, .int i242_5), (6, .int ((hA + 8) + (2 * i242_5))), (7, .int i288_7)], [.int ((hA + 8) + (2 * i242_5)), .ref m0, .ref m0, .int (pyf py (ixf f pa (f2 f ((hA + 8) + (2 * i288_7))) 1))], M79)) rfl ?_
                            refine ml_call (a := [.ref m0, .int ((hA + 8) + (2 * i242_5))]) (rest := [.ref m0, .int (pyf py (ixf f pa (f2 f ((hA + 8) + (2 * i288_7))) 1))]) rfl (hR81.okc rfl rfl rfl) rfl rfl (rm_u2 hR81 hF84 (by omega) (by omega) (by omega)) (fun v110 M111 h112 => ?_)
                            obtain ⟨rfl, h112⟩ := h112
                            rw [h112]
                            show ml _ _ _ (322, [(0, .ref m0), (4, .int (f2 f (hA + 6))), (5, .int i242_5), (6, .int ((hA + 8) + (2 * i242_5))), (7, .int i288_7)], [.int (f2 f ((hA + 8) + (2 * i242_5))), .ref m0, .int (pyf py (ixf f pa (f2 f ((hA + 8) + (2 * i288_7))) 1))], M79) _
                            refine ml_call (a := [.ref m0, .int (f2 f ((hA + 8) + (2 * i242_5)))]) (rest := [.int (pyf py (ixf f pa (f2 f ((hA + 8) + (2 * i288_7))) 1))]) rfl (hR81.okc rfl rfl rfl) rfl rfl (rm_className hR81 hF84 hP97 (hq7) ((hE _ (by rw [hq7]; decide)).1.1 (by rw [hq7]; exact Or.inl rfl)) (by omega)) (fun v113 M114 h115 => ?_)
                            obtain ⟨rfl, h115⟩ := h115
                            rw [h115]
                            show ml _ _ _ (325, [(0, .ref m0), (4, .int (f2 f (hA + 6))), (5, .int i242_5), (6, .int ((hA + 8) + (2 * i242_5))), (7, .int i288_7)], [.int (pyf py (ixf f pa (f2 f ((hA + 8) + (2 * i242_5))) 1)), .int (pyf py (ixf f pa (f2 f ((hA + 8) + (2 * i288_7))) 1))], M79) _
                            refine ml_if2 (S1 := (337, [(0, .ref m0), (4, .int (f2 f (hA + 6))), (5, .int i242_5), (6, .int ((hA + 8) + (2 * i242_5))), (7, .int i288_7)], [], M79)) (S2 := (328, [(0, .ref m0), (4, .int (f2 f (hA + 6))), (5, .int i242_5), (6, .int ((hA + 8) + (2 * i242_5))), (7, .int i288_7)], [], M79)) rfl rfl rfl (fun c_325 => ?_) (fun c_325 => ?_)
                            · have c_325 : ¬ (pyf py (ixf f pa (f2 f ((hA + 8) + (2 * i288_7))) 1)) = (pyf py (ixf f pa (f2 f ((hA + 8) + (2 * i242_5))) 1)) := of_decide_eq_true c_325
                              refine ml_st (S' := (340, [(7, .int (i288_7 + 1)), (0, .ref m0), (4, .int (f2 f (hA + 6))), (5, .int i242_5), (6, .int ((hA + 8) + (2 * i242_5)))], [], M79)) rfl rfl rfl ?_
                              refine ml_st (S' := (288, [(0, .ref m0), (4, .int (f2 f (hA + 6))), (5, .int i242_5), (6, .int ((hA + 8) + (2 * i242_5))), (7, .int (i288_7 + 1))], [], M79)) rfl rfl rfl ?_
                              exact ih_288 (i288_7 + 1) (loop_inc (Int32.not_le.mp c_292) hn_288) (by rw [inc_lt (Int32.not_le.mp c_292)]; omega)
                            · have c_325 : ¬ (¬ (pyf py (ixf f pa (f2 f ((hA + 8) + (2 * i288_7))) 1)) = (pyf py (ixf f pa (f2 f ((hA + 8) + (2 * i242_5))) 1))) := of_decide_eq_false c_325
                              refine ml_blk 3 (S' := (333, [(0, .ref m0), (4, .int (f2 f (hA + 6))), (5, .int i242_5), (6, .int ((hA + 8) + (2 * i242_5))), (7, .int i288_7)], [.int ((hA + 8) + (2 * i242_5)), .int 18, .ref m0], M79)) rfl ?_
                              refine ml_call (a := [.ref m0, .int 18, .int ((hA + 8) + (2 * i242_5))]) (rest := []) rfl (hR81.okc rfl rfl rfl) rfl rfl (rm_wrong hR81 (by omega)) (fun v116 M117 h118 => ?_)
                              obtain ⟨u124, I119, R120, rfl, hR121, hI122, hV123, z125, w126⟩ := h118
                              show ml _ _ _ (336, [(0, .ref m0), (4, .int (f2 f (hA + 6))), (5, .int i242_5), (6, .int ((hA + 8) + (2 * i242_5))), (7, .int i288_7)], [.int u124], M117) _
                              exact ml_ret rfl (r_z (z125)) (⟨_, _, _, rfl, hR121, ((((eqI.rf.put f18 (by decide)).put f52 (by decide)).put f83 (by decide)).tr hI122 (by decide)), (eqR.rf.tr hV123 (by decide)), z125, Or.inl w126⟩)
                      exact L_288 _ 0 (Nat.le_refl _) (by decide)
                    · have c_273 : ¬ (¬ u101 = 0) := of_decide_eq_false c_273
                      refine ml_blk 3 (S' := (281, [(6, .int ((hA + 8) + (2 * i242_5))), (0, .ref m0), (4, .int (f2 f (hA + 6))), (5, .int i242_5)], [.int ((hA + 8) + (2 * i242_5)), .int 18, .ref m0], M79)) rfl ?_
                      refine ml_call (a := [.ref m0, .int 18, .int ((hA + 8) + (2 * i242_5))]) (rest := []) rfl (hR81.okc rfl rfl rfl) rfl rfl (rm_wrong hR81 (by omega)) (fun v127 M128 h129 => ?_)
                      obtain ⟨u135, I130, R131, rfl, hR132, hI133, hV134, z136, w137⟩ := h129
                      show ml _ _ _ (284, [(6, .int ((hA + 8) + (2 * i242_5))), (0, .ref m0), (4, .int (f2 f (hA + 6))), (5, .int i242_5)], [.int u135], M128) _
                      exact ml_ret rfl (r_z (z136)) (⟨_, _, _, rfl, hR132, ((((eqI.rf.put f18 (by decide)).put f52 (by decide)).put f83 (by decide)).tr hI133 (by decide)), (eqR.rf.tr hV134 (by decide)), z136, Or.inl w137⟩)
              exact L_242 _ 0 (Nat.le_refl _) (⟨by decide, by show (0 : Int) ≤ _; omega, fun j h0 h1 => by have : (0 : Int32).toInt = 0 := rfl; omega⟩)
            refine ml_if (S1 := (217, [(0, .ref m0), (3, .int (f2 f (hA + 4)))], [], M48)) (S2 := (192, [(3, .int (f2 f (hA + 4))), (0, .ref m0), (2, .int s27_0)], [], M48)) rfl rfl rfl (fun c_189 => ?_) (fun c_189 => ?_)
            · have c_189 : s27_0 = 0 := of_decide_eq_true c_189
              exact J_217  (hB7)
            · have c_189 : ¬ (s27_0 = 0) := of_decide_eq_false c_189
              refine ml_blk 2 (S' := (194, [(3, .int (f2 f (hA + 4))), (0, .ref m0), (2, .int s27_0)], [.int (f2 f (hA + 4)), .ref m0], M48)) rfl ?_
              refine ml_call (a := [.ref m0, .int (f2 f (hA + 4))]) (rest := []) rfl (hR50.okc rfl rfl rfl) rfl rfl (rm_className hR50 hF53 hP58 (hB7) ((hE _ (by rw [hB7]; decide)).1.1 (by rw [hB7]; exact Or.inl rfl)) (by omega)) (fun v138 M139 h140 => ?_)
              obtain ⟨rfl, h140⟩ := h140
              rw [h140]
              show ml _ _ _ (197, [(3, .int (f2 f (hA + 4))), (0, .ref m0), (2, .int s27_0)], [.int (pyf py (ixf f pa (f2 f (hA + 4)) 1))], M48) _
              refine ml_st (S' := (198, [(3, .int (f2 f (hA + 4))), (0, .ref m0), (2, .int s27_0)], [.ref m0, .int (pyf py (ixf f pa (f2 f (hA + 4)) 1))], M48)) rfl rfl rfl ?_
              refine rg_int (S' := (201, [(3, .int (f2 f (hA + 4))), (0, .ref m0), (2, .int s27_0)], [.int so, .int (pyf py (ixf f pa (f2 f (hA + 4)) 1))], M48)) rfl hR50 rfl ((f52 11 (by decide)).trans ((f18 11 (by decide)).trans (hk11))) rfl ?_
              refine ml_if2 (S1 := (217, [(0, .ref m0), (3, .int (f2 f (hA + 4)))], [], M48)) (S2 := (204, [(0, .ref m0)], [], M48)) rfl rfl rfl (fun c_201 => ?_) (fun c_201 => ?_)
              · have c_201 : (pyf py (ixf f pa (f2 f (hA + 4)) 1)) = so := of_decide_eq_true c_201
                exact J_217  (hB7)
              · have c_201 : ¬ ((pyf py (ixf f pa (f2 f (hA + 4)) 1)) = so) := of_decide_eq_false c_201
                refine ml_blk 3 (S' := (208, [(0, .ref m0)], [.ref m0, .int 17, .ref m0], M48)) rfl ?_
                refine rg_int (S' := (211, [(0, .ref m0)], [.int hA, .int 17, .ref m0], M48)) rfl hR50 rfl ((f52 54 (by decide)).trans ((f18 54 (by decide)).trans (hk54))) rfl ?_
                refine ml_blk 2 (S' := (213, [(0, .ref m0)], [.int (hA + 4), .int 17, .ref m0], M48)) rfl ?_
                refine ml_call (a := [.ref m0, .int 17, .int (hA + 4)]) (rest := []) rfl (hR50.okc rfl rfl rfl) rfl rfl (rm_wrong hR50 (by omega)) (fun v141 M142 h143 => ?_)
                obtain ⟨u149, I144, R145, rfl, hR146, hI147, hV148, z150, w151⟩ := h143
                show ml _ _ _ (216, [(0, .ref m0)], [.int u149], M142) _
                exact ml_ret rfl (r_z (z150)) (⟨_, _, _, rfl, hR146, (((eqI.rf.put f18 (by decide)).put f52 (by decide)).tr hI147 (by decide)), (eqR.rf.tr hV148 (by decide)), z150, Or.inl w151⟩)
        · have c_135 : ¬ (¬ u39 = 0) := of_decide_eq_false c_135
          refine ml_blk 3 (S' := (142, [(0, .ref m0), (2, .int s27_0)], [.ref m0, .int 16, .ref m0], M14)) rfl ?_
          refine rg_int (S' := (145, [(0, .ref m0), (2, .int s27_0)], [.int hA, .int 16, .ref m0], M14)) rfl hR16 rfl ((f18 54 (by decide)).trans (hk54)) rfl ?_
          refine ml_blk 2 (S' := (147, [(0, .ref m0), (2, .int s27_0)], [.int (hA + 2), .int 16, .ref m0], M14)) rfl ?_
          refine ml_call (a := [.ref m0, .int 16, .int (hA + 2)]) (rest := []) rfl (hR16.okc rfl rfl rfl) rfl rfl (rm_wrong hR16 (by omega)) (fun v152 M153 h154 => ?_)
          obtain ⟨u160, I155, R156, rfl, hR157, hI158, hV159, z161, w162⟩ := h154
          show ml _ _ _ (150, [(0, .ref m0), (2, .int s27_0)], [.int u160], M153) _
          exact ml_ret rfl (r_z (z161)) (⟨_, _, _, rfl, hR157, ((eqI.rf.put f18 (by decide)).tr hI158 (by decide)), (eqR.rf.tr hV159 (by decide)), z161, Or.inl w162⟩)
      refine ml_if (S1 := (59, [(2, .int s27_0), (0, .ref m0), (1, .int (f2 f hA))], [], M14)) (S2 := (40, [(2, .int s27_0), (0, .ref m0), (1, .int (f2 f hA))], [], M14)) rfl rfl rfl (fun c_37 => ?_) (fun c_37 => ?_)
      · have c_37 : s27_0 = 0 := of_decide_eq_true c_37
        refine ml_blk 3 (S' := (64, [(2, .int s27_0), (0, .ref m0), (1, .int (f2 f hA))], [.int ((f2 f hA) &&& 8192)], M14)) rfl ?_
        refine ml_if (S1 := (82, [(0, .ref m0), (1, .int (f2 f hA)), (2, .int s27_0)], [], M14)) (S2 := (67, [(2, .int s27_0), (0, .ref m0), (1, .int (f2 f hA))], [], M14)) rfl rfl rfl (fun c_64 => ?_) (fun c_64 => ?_)
        · have c_64 : ¬ ((f2 f hA) &&& 8192) = 0 := of_decide_eq_true c_64
          exact J_82 
        · have c_64 : ¬ (¬ ((f2 f hA) &&& 8192) = 0) := of_decide_eq_false c_64
          refine ml_blk 3 (S' := (71, [(2, .int s27_0), (0, .ref m0), (1, .int (f2 f hA))], [.int ((f2 f hA) &&& 16)], M14)) rfl ?_
          refine ml_if (S1 := (121, [(0, .ref m0), (2, .int s27_0)], [], M14)) (S2 := (74, [(2, .int s27_0), (0, .ref m0), (1, .int (f2 f hA))], [], M14)) rfl rfl rfl (fun c_71 => ?_) (fun c_71 => ?_)
          · have c_71 : ((f2 f hA) &&& 16) = 0 := of_decide_eq_true c_71
            exact J_121 
          · have c_71 : ¬ (((f2 f hA) &&& 16) = 0) := of_decide_eq_false c_71
            refine ml_blk 3 (S' := (79, [(2, .int s27_0), (0, .ref m0), (1, .int (f2 f hA))], [.int ((f2 f hA) &&& 1024)], M14)) rfl ?_
            refine ml_if (S1 := (121, [(0, .ref m0), (2, .int s27_0)], [], M14)) (S2 := (82, [(0, .ref m0), (1, .int (f2 f hA)), (2, .int s27_0)], [], M14)) rfl rfl rfl (fun c_79 => ?_) (fun c_79 => ?_)
            · have c_79 : ((f2 f hA) &&& 1024) = 0 := of_decide_eq_true c_79
              exact J_121 
            · have c_79 : ¬ (((f2 f hA) &&& 1024) = 0) := of_decide_eq_false c_79
              exact J_82 
      · have c_37 : ¬ (s27_0 = 0) := of_decide_eq_false c_37
        refine ml_blk 3 (S' := (45, [(2, .int s27_0), (0, .ref m0), (1, .int (f2 f hA))], [.int ((f2 f hA) &&& 1024)], M14)) rfl ?_
        refine ml_if (S1 := (82, [(0, .ref m0), (1, .int (f2 f hA)), (2, .int s27_0)], [], M14)) (S2 := (48, [(2, .int s27_0), (0, .ref m0), (1, .int (f2 f hA))], [], M14)) rfl rfl rfl (fun c_45 => ?_) (fun c_45 => ?_)
        · have c_45 : ((f2 f hA) &&& 1024) = 0 := of_decide_eq_true c_45
          exact J_82 
        · have c_45 : ¬ (((f2 f hA) &&& 1024) = 0) := of_decide_eq_false c_45
          refine ml_blk 3 (S' := (53, [(2, .int s27_0), (0, .ref m0), (1, .int (f2 f hA))], [.int ((f2 f hA) &&& 16432)], M14)) rfl ?_
          refine ml_if (S1 := (121, [(0, .ref m0), (2, .int s27_0)], [], M14)) (S2 := (56, [(2, .int s27_0), (0, .ref m0), (1, .int (f2 f hA))], [], M14)) rfl rfl rfl (fun c_53 => ?_) (fun c_53 => ?_)
          · have c_53 : ((f2 f hA) &&& 16432) = 0 := of_decide_eq_true c_53
            exact J_121 
          · have c_53 : ¬ (((f2 f hA) &&& 16432) = 0) := of_decide_eq_false c_53
            refine ml_st (S' := (82, [(0, .ref m0), (1, .int (f2 f hA)), (2, .int s27_0)], [], M14)) rfl rfl rfl ?_
            exact J_82 
  refine ml_if (S1 := (26, [(1, .int (f2 f hA)), (0, .ref m0)], [], M14)) (S2 := (22, [(1, .int (f2 f hA)), (0, .ref m0)], [], M14)) rfl rfl rfl (fun c_19 => ?_) (fun c_19 => ?_)
  · have c_19 : ((f2 f hA) &&& 512) = 0 := of_decide_eq_true c_19
    refine ml_st (S' := (27, [(0, .ref m0), (1, .int (f2 f hA))], [.int 0], M14)) rfl rfl rfl ?_
    exact J_27 0
  · have c_19 : ¬ (((f2 f hA) &&& 512) = 0) := of_decide_eq_false c_19
    refine ml_st (S' := (23, [(1, .int (f2 f hA)), (0, .ref m0)], [.int 1], M14)) rfl rfl rfl ?_
    refine ml_st (S' := (27, [(0, .ref m0), (1, .int (f2 f hA))], [.int 1], M14)) rfl rfl rfl ?_
    exact J_27 1
set_option maxHeartbeats 2000000 in
theorem rm_bootstraps {g : xe_G}  {m0 : Nat} {q : Nat → Nat} {z : Nat × Nat} {I : rI} {R : rR} {M : mi_H} {x1 x2 : Int32} {n : Nat} {f : Nat → Int32} {S : Nat} {cp mj : Int32} {pa py : Nat → Int32}  (hR : RS g m0 q z I R M) (hF : FK n f I R) (hP : PK n f S cp mj pa py I R) (h0 : 0 ≤ x1.toInt) (h1 : x1.toInt ≤ x2.toInt) (h2 : x2.toInt ≤ n) {d : Nat} (hd : 3 ≤ d) : mt (mT g) d 185 [.ref m0, .int x1, .int x2] M (fun v M' => ∃ (x : Int32) (I' : rI) (R' : rR), v = some (.int x) ∧ RS g m0 q z I' R' M' ∧ eqI [70, 71] I I' ∧ eqR [] R R' ∧ (x ≠ 0 ∧ I' = I ∨ x = 0 ∧ I' 70 = some x1 ∧ I' 71 = some (f2 f x1) ∧ BSW f n x1 (f2 f x1))) := by
  obtain ⟨d, rfl⟩ : ∃ e, d = e + 1 := ⟨d - 1, by omega⟩
  refine mt_in (b := mb_185 g) rfl rfl ?_
  show ml (mT g) d (mb_185 g).2 (0, [(0, .ref m0), (1, .int x1), (2, .int x2)], [], M) _
  have hn := hF.1
  refine ml_blk 3 (S' := (3, [(0, .ref m0), (1, .int x1), (2, .int x2)], [.int (x2 - x1)], M)) rfl ?_
  refine ml_st (S' := (4, [(0, .ref m0), (1, .int x1), (2, .int x2)], [.int 2, .int (x2 - x1)], M)) rfl rfl rfl ?_
  refine ml_if2 (S1 := (10, [(0, .ref m0), (1, .int x1), (2, .int x2)], [], M)) (S2 := (7, [(0, .ref m0), (1, .int x1), (2, .int x2)], [], M)) rfl rfl rfl (fun c_4 => ?_) (fun c_4 => ?_)
  · have c_4 : 2 ≤ (x2 - x1) := of_decide_eq_true c_4
    have hd2 := i_le c_4
    rw [i_sub (by omega) (by omega)] at hd2
    have i2_ : (2 : Int32).toInt = 2 := rfl
    have ex2 : (x1 + 2).toInt = x1.toInt + 2 := i_add (by have : (2 : Int32).toInt = 2 := rfl; omega) (by have : (2 : Int32).toInt = 2 := rfl; omega)
    have hc0 := f2_pos (f := f) (x := x1)
    have hc1 := f2_le (f := f) (x := x1)
    refine ml_blk 2 (S' := (12, [(0, .ref m0), (1, .int x1), (2, .int x2)], [.int x1, .ref m0], M)) rfl ?_
    refine ml_call (a := [.ref m0, .int x1]) (rest := []) rfl (hR.okc rfl rfl rfl) rfl rfl (rm_u2 hR hF (h0) (by omega) (by omega)) (fun v11 M12 h13 => ?_)
    obtain ⟨rfl, h13⟩ := h13
    rw [h13]
    show ml _ _ _ (15, [(0, .ref m0), (1, .int x1), (2, .int x2)], [.int (f2 f x1)], M) _
    refine ml_st (S' := (16, [(3, .int (f2 f x1)), (0, .ref m0), (1, .int x1), (2, .int x2)], [], M)) rfl rfl rfl ?_
    refine ml_blk 3 (S' := (19, [(3, .int (f2 f x1)), (0, .ref m0), (1, .int x1), (2, .int x2)], [.int (x1 + 2)], M)) rfl ?_
    refine ml_st (S' := (21, [(4, .int (x1 + 2)), (3, .int (f2 f x1)), (0, .ref m0), (1, .int x1), (2, .int x2)], [], M)) rfl rfl rfl ?_
    refine ml_st (S' := (22, [(4, .int (x1 + 2)), (3, .int (f2 f x1)), (0, .ref m0), (1, .int x1), (2, .int x2)], [.int 0], M)) rfl rfl rfl ?_
    refine ml_st (S' := (24, [(0, .ref m0), (1, .int x1), (2, .int x2), (3, .int (f2 f x1)), (4, .int (x1 + 2)), (5, .int 0)], [], M)) rfl rfl rfl ?_
    have L_24 : ∀ (n_24 : Nat) (i24_4 : Int32) (i24_5 : Int32), (2147483648 - i24_5.toInt).toNat ≤ n_24 → (x1.toInt + 2 ≤ i24_4.toInt ∧ i24_4.toInt ≤ x2.toInt ∧ 0 ≤ i24_5.toInt ∧ i24_5.toInt ≤ (f2 f x1).toInt ∧ itr (BS1 f n) i24_5.toInt.toNat (x1 + 2) i24_4) → ml (mT g) d (mb_185 g).2 (24, [(0, .ref m0), (1, .int x1), (2, .int x2), (3, .int (f2 f x1)), (4, .int i24_4), (5, .int i24_5)], [], M) (fun v M' => ∃ (x : Int32) (I' : rI) (R' : rR), v = some (.int x) ∧ RS g m0 q z I' R' M' ∧ eqI [70, 71] I I' ∧ eqR [] R R' ∧ (x ≠ 0 ∧ I' = I ∨ x = 0 ∧ I' 70 = some x1 ∧ I' 71 = some (f2 f x1) ∧ BSW f n x1 (f2 f x1))) := by
      intro n_24
      induction n_24 with
      | zero => intro i24_4 i24_5 hn; exact (loop_zero hn).elim
      | succ n_24 ih_24 =>
        intro i24_4 i24_5 hn_24 hi_24
        obtain ⟨hp0, hp1, hk0, hk1, hit⟩ := hi_24
        refine ml_blk 2 (S' := (27, [(0, .ref m0), (1, .int x1), (2, .int x2), (3, .int (f2 f x1)), (4, .int i24_4), (5, .int i24_5)], [.int (f2 f x1), .int i24_5], M)) rfl ?_
        refine ml_if2 (S1 := (83, [(0, .ref m0), (1, .int x1), (2, .int x2), (3, .int (f2 f x1)), (4, .int i24_4), (5, .int i24_5)], [], M)) (S2 := (30, [(0, .ref m0), (1, .int x1), (2, .int x2), (3, .int (f2 f x1)), (4, .int i24_4), (5, .int i24_5)], [], M)) rfl rfl rfl (fun c_27 => ?_) (fun c_27 => ?_)
        · have c_27 : (f2 f x1) ≤ i24_5 := of_decide_eq_true c_27
          refine ml_blk 2 (S' := (86, [(0, .ref m0), (1, .int x1), (2, .int x2), (3, .int (f2 f x1)), (4, .int i24_4), (5, .int i24_5)], [.int x2, .int i24_4], M)) rfl ?_
          refine ml_if2 (S1 := (92, [(0, .ref m0), (1, .int x1), (2, .int x2), (3, .int (f2 f x1)), (4, .int i24_4), (5, .int i24_5)], [], M)) (S2 := (89, [(0, .ref m0), (1, .int x1), (2, .int x2), (3, .int (f2 f x1)), (4, .int i24_4), (5, .int i24_5)], [], M)) rfl rfl rfl (fun c_86 => ?_) (fun c_86 => ?_)
          · have c_86 : i24_4 = x2 := of_decide_eq_true c_86
            have hend : i24_4 = x2 := c_86
            have hit2 := itr_end hit hk1 c_27
            have hw : BSW f n x1 (f2 f x1) := ⟨h0, by omega, _, hit2, by omega⟩
            refine ml_blk 3 (S' := (95, [(0, .ref m0), (1, .int x1), (2, .int x2), (3, .int (f2 f x1)), (4, .int i24_4), (5, .int i24_5)], [.int (x1 + 2)], M)) rfl ?_
            refine ml_st (S' := (97, [(4, .int (x1 + 2)), (0, .ref m0), (1, .int x1), (2, .int x2), (3, .int (f2 f x1)), (5, .int i24_5)], [], M)) rfl rfl rfl ?_
            refine ml_st (S' := (98, [(4, .int (x1 + 2)), (0, .ref m0), (1, .int x1), (2, .int x2), (3, .int (f2 f x1)), (5, .int i24_5)], [.int 0], M)) rfl rfl rfl ?_
            refine ml_st (S' := (100, [(0, .ref m0), (1, .int x1), (3, .int (f2 f x1)), (4, .int (x1 + 2)), (5, .int 0)], [], M)) rfl rfl rfl ?_
            have L_100 : ∀ (n_100 : Nat) (i100_4 : Int32) (i100_5 : Int32), (2147483648 - i100_5.toInt).toNat ≤ n_100 → (0 ≤ i100_5.toInt ∧ itr (BS1 f n) ((f2 f x1).toInt - i100_5.toInt).toNat i100_4 i24_4) → ml (mT g) d (mb_185 g).2 (100, [(0, .ref m0), (1, .int x1), (3, .int (f2 f x1)), (4, .int i100_4), (5, .int i100_5)], [], M) (fun v M' => ∃ (x : Int32) (I' : rI) (R' : rR), v = some (.int x) ∧ RS g m0 q z I' R' M' ∧ eqI [70, 71] I I' ∧ eqR [] R R' ∧ (x ≠ 0 ∧ I' = I ∨ x = 0 ∧ I' 70 = some x1 ∧ I' 71 = some (f2 f x1) ∧ BSW f n x1 (f2 f x1))) := by
              intro n_100
              induction n_100 with
              | zero => intro i100_4 i100_5 hn; exact (loop_zero hn).elim
              | succ n_100 ih_100 =>
                intro i100_4 i100_5 hn_100 hi_100
                obtain ⟨hk0b, hitb⟩ := hi_100
                refine ml_blk 2 (S' := (103, [(0, .ref m0), (1, .int x1), (3, .int (f2 f x1)), (4, .int i100_4), (5, .int i100_5)], [.int (f2 f x1), .int i100_5], M)) rfl ?_
                refine ml_if2 (S1 := (218, [(0, .ref m0), (1, .int x1), (3, .int (f2 f x1)), (4, .int i100_4), (5, .int i100_5)], [], M)) (S2 := (106, [(0, .ref m0), (1, .int x1), (3, .int (f2 f x1)), (4, .int i100_4), (5, .int i100_5)], [], M)) rfl rfl rfl (fun c_103 => ?_) (fun c_103 => ?_)
                · have c_103 : (f2 f x1) ≤ i100_5 := of_decide_eq_true c_103
                  refine ml_blk 2 (S' := (220, [(0, .ref m0), (1, .int x1), (3, .int (f2 f x1)), (4, .int i100_4), (5, .int i100_5)], [.int x1, .ref m0], M)) rfl ?_
                  refine rp_int rfl hR rfl (fun M14 I15 hR16 e17 f18 => ?_)
                  show ml _ _ _ (223, [(0, .ref m0), (1, .int x1), (3, .int (f2 f x1)), (4, .int i100_4), (5, .int i100_5)], [], M14) _
                  refine ml_blk 2 (S' := (225, [(0, .ref m0), (1, .int x1), (3, .int (f2 f x1)), (4, .int i100_4), (5, .int i100_5)], [.int (f2 f x1), .ref m0], M14)) rfl ?_
                  refine rp_int rfl hR16 rfl (fun M19 I20 hR21 e22 f23 => ?_)
                  show ml _ _ _ (228, [(0, .ref m0), (1, .int x1), (3, .int (f2 f x1)), (4, .int i100_4), (5, .int i100_5)], [], M19) _
                  refine ml_st (S' := (229, [(0, .ref m0), (1, .int x1), (3, .int (f2 f x1)), (4, .int i100_4), (5, .int i100_5)], [.int 0], M19)) rfl rfl rfl ?_
                  exact ml_ret rfl (rfl) (⟨_, _, _, rfl, hR21, ((eqI.rf.put f18 (by decide)).put f23 (by decide)), eqR.rf, Or.inr ⟨rfl, (f23 70 (by decide)).trans (e17), e22, hw⟩⟩)
                · have c_103 : ¬ ((f2 f x1) ≤ i100_5) := of_decide_eq_false c_103
                  obtain ⟨b1, hb1, hnx⟩ := itr_next hitb c_103
                  have hb2 := hb1
                  obtain ⟨g0, g1, g2, g3⟩ := hb2
                  have eq2 : (i100_4 + 2).toInt = i100_4.toInt + 2 := i_add (by have : (2 : Int32).toInt = 2 := rfl; omega) (by have : (2 : Int32).toInt = 2 := rfl; omega)
                  have hbs2 := bs_of (f := f) hn g0 g1
                  have hm0 := f2_pos (f := f) (x := i100_4 + 2)
                  have hm1 := f2_le (f := f) (x := i100_4 + 2)
                  refine ml_blk 3 (S' := (110, [(0, .ref m0), (1, .int x1), (3, .int (f2 f x1)), (4, .int i100_4), (5, .int i100_5)], [.int i100_4, .ref m0, .ref m0], M)) rfl ?_
                  refine ml_call (a := [.ref m0, .int i100_4]) (rest := [.ref m0]) rfl (hR.okc rfl rfl rfl) rfl rfl (rm_u2 hR hF (g0) (by omega) (by omega)) (fun v24 M25 h26 => ?_)
                  obtain ⟨rfl, h26⟩ := h26
                  rw [h26]
                  show ml _ _ _ (113, [(0, .ref m0), (1, .int x1), (3, .int (f2 f x1)), (4, .int i100_4), (5, .int i100_5)], [.int (f2 f i100_4), .ref m0], M) _
                  refine ml_call (a := [.ref m0, .int (f2 f i100_4)]) (rest := []) rfl (hR.okc rfl rfl rfl) rfl rfl (rm_tag hR hF hP (by omega)) (fun v27 M28 h29 => ?_)
                  obtain ⟨rfl, h29⟩ := h29
                  rw [h29]
                  show ml _ _ _ (116, [(0, .ref m0), (1, .int x1), (3, .int (f2 f x1)), (4, .int i100_4), (5, .int i100_5)], [.int (tgf f cp pa (f2 f i100_4))], M) _
                  refine ml_st (S' := (118, [(0, .ref m0), (1, .int x1), (3, .int (f2 f x1)), (4, .int i100_4), (5, .int i100_5)], [.int 15, .int (tgf f cp pa (f2 f i100_4))], M)) rfl rfl rfl ?_
                  refine ml_if2 (S1 := (124, [(0, .ref m0), (1, .int x1), (3, .int (f2 f x1)), (4, .int i100_4), (5, .int i100_5)], [], M)) (S2 := (121, [(0, .ref m0), (1, .int x1), (3, .int (f2 f x1)), (4, .int i100_4), (5, .int i100_5)], [], M)) rfl rfl rfl (fun c_118 => ?_) (fun c_118 => ?_)
                  · have c_118 : (tgf f cp pa (f2 f i100_4)) = 15 := of_decide_eq_true c_118
                    refine ml_st (S' := (125, [(0, .ref m0), (1, .int x1), (3, .int (f2 f x1)), (4, .int i100_4), (5, .int i100_5)], [.int 0], M)) rfl rfl rfl ?_
                    refine ml_st (S' := (127, [(0, .ref m0), (1, .int x1), (3, .int (f2 f x1)), (4, .int i100_4), (5, .int i100_5), (6, .int 0)], [], M)) rfl rfl rfl ?_
                    have L_127 : ∀ (n_127 : Nat) (i127_6 : Int32), (2147483648 - i127_6.toInt).toNat ≤ n_127 → 0 ≤ i127_6.toInt → ml (mT g) d (mb_185 g).2 (127, [(0, .ref m0), (1, .int x1), (3, .int (f2 f x1)), (4, .int i100_4), (5, .int i100_5), (6, .int i127_6)], [], M) (fun v M' => ∃ (x : Int32) (I' : rI) (R' : rR), v = some (.int x) ∧ RS g m0 q z I' R' M' ∧ eqI [70, 71] I I' ∧ eqR [] R R' ∧ (x ≠ 0 ∧ I' = I ∨ x = 0 ∧ I' 70 = some x1 ∧ I' 71 = some (f2 f x1) ∧ BSW f n x1 (f2 f x1))) := by
                      intro n_127
                      induction n_127 with
                      | zero => intro i127_6 hn; exact (loop_zero hn).elim
                      | succ n_127 ih_127 =>
                        intro i127_6 hn_127 hi_127
                        refine ml_blk 3 (S' := (132, [(0, .ref m0), (1, .int x1), (3, .int (f2 f x1)), (4, .int i100_4), (5, .int i100_5), (6, .int i127_6)], [.int i100_4, .ref m0, .int i127_6], M)) rfl ?_
                        refine ml_blk 2 (S' := (134, [(0, .ref m0), (1, .int x1), (3, .int (f2 f x1)), (4, .int i100_4), (5, .int i100_5), (6, .int i127_6)], [.int (i100_4 + 2), .ref m0, .int i127_6], M)) rfl ?_
                        refine ml_call (a := [.ref m0, .int (i100_4 + 2)]) (rest := [.int i127_6]) rfl (hR.okc rfl rfl rfl) rfl rfl (rm_u2 hR hF (by omega) (by omega) (by omega)) (fun v30 M31 h32 => ?_)
                        obtain ⟨rfl, h32⟩ := h32
                        rw [h32]
                        show ml _ _ _ (137, [(0, .ref m0), (1, .int x1), (3, .int (f2 f x1)), (4, .int i100_4), (5, .int i100_5), (6, .int i127_6)], [.int (f2 f (i100_4 + 2)), .int i127_6], M) _
                        refine ml_if2 (S1 := (195, [(0, .ref m0), (1, .int x1), (3, .int (f2 f x1)), (4, .int i100_4), (5, .int i100_5), (6, .int i127_6)], [], M)) (S2 := (140, [(0, .ref m0), (1, .int x1), (3, .int (f2 f x1)), (4, .int i100_4), (5, .int i100_5), (6, .int i127_6)], [], M)) rfl rfl rfl (fun c_137 => ?_) (fun c_137 => ?_)
                        · have c_137 : (f2 f (i100_4 + 2)) ≤ i127_6 := of_decide_eq_true c_137
                          refine ml_blk 3 (S' := (199, [(0, .ref m0), (1, .int x1), (3, .int (f2 f x1)), (4, .int i100_4), (5, .int i100_5), (6, .int i127_6)], [.int 2, .int 4, .int i100_4], M)) rfl ?_
                          refine ml_blk 3 (S' := (203, [(0, .ref m0), (1, .int x1), (3, .int (f2 f x1)), (4, .int i100_4), (5, .int i100_5), (6, .int i127_6)], [.int 2, .int i100_4, .ref m0, .int 2, .int 4, .int i100_4], M)) rfl ?_
                          refine ml_st (S' := (204, [(0, .ref m0), (1, .int x1), (3, .int (f2 f x1)), (4, .int i100_4), (5, .int i100_5), (6, .int i127_6)], [.int (i100_4 + 2), .ref m0, .int 2, .int 4, .int i100_4], M)) rfl rfl rfl ?_
                          refine ml_call (a := [.ref m0, .int (i100_4 + 2)]) (rest := [.int 2, .int 4, .int i100_4]) rfl (hR.okc rfl rfl rfl) rfl rfl (rm_u2 hR hF (by omega) (by omega) (by omega)) (fun v33 M34 h35 => ?_)
                          obtain ⟨rfl, h35⟩ := h35
                          rw [h35]
                          show ml _ _ _ (207, [(0, .ref m0), (1, .int x1), (3, .int (f2 f x1)), (4, .int i100_4), (5, .int i100_5), (6, .int i127_6)], [.int (f2 f (i100_4 + 2)), .int 2, .int 4, .int i100_4], M) _
                          refine ml_blk 3 (S' := (210, [(0, .ref m0), (1, .int x1), (3, .int (f2 f x1)), (4, .int i100_4), (5, .int i100_5), (6, .int i127_6)], [.int (i100_4 + (4 + (2 * (f2 f (i100_4 + 2)))))], M)) rfl ?_
                          refine ml_st (S' := (212, [(4, .int (i100_4 + (4 + (2 * (f2 f (i100_4 + 2)))))), (0, .ref m0), (1, .int x1), (3, .int (f2 f x1)), (5, .int i100_5), (6, .int i127_6)], [], M)) rfl rfl rfl ?_
                          refine ml_st (S' := (215, [(5, .int (i100_5 + 1)), (4, .int (i100_4 + (4 + (2 * (f2 f (i100_4 + 2)))))), (0, .ref m0), (1, .int x1), (3, .int (f2 f x1)), (6, .int i127_6)], [], M)) rfl rfl rfl ?_
                          refine ml_st (S' := (100, [(0, .ref m0), (1, .int x1), (3, .int (f2 f x1)), (4, .int (i100_4 + (4 + (2 * (f2 f (i100_4 + 2)))))), (5, .int (i100_5 + 1))], [], M)) rfl rfl rfl ?_
                          exact ih_100 (i100_4 + (4 + (2 * (f2 f (i100_4 + 2))))) (i100_5 + 1) (loop_inc (Int32.not_le.mp c_103) hn_100) (⟨by rw [inc_lt (Int32.not_le.mp c_103)]; omega, hb1.eq hbs2.1 ▸ hnx⟩)
                        · have c_137 : ¬ ((f2 f (i100_4 + 2)) ≤ i127_6) := of_decide_eq_false c_137
                          have hjl := i_nle c_137
                          have e4j : (i100_4 + 4 + 2 * i127_6).toInt = i100_4.toInt + 4 + 2 * i127_6.toInt := by have d4 : (i100_4 + 4).toInt = i100_4.toInt + 4 := (by rw [i_add (by have : (4 : Int32).toInt = 4 := rfl; omega) (by have : (4 : Int32).toInt = 4 := rfl; omega)]; rfl); rw [i_add (by rw [two_k hi_127 (by omega)]; omega) (by rw [two_k hi_127 (by omega)]; omega), two_k hi_127 (by omega), d4]
                          refine ml_blk 3 (S' := (144, [(0, .ref m0), (1, .int x1), (3, .int (f2 f x1)), (4, .int i100_4), (5, .int i100_5), (6, .int i127_6)], [.int i100_4, .ref m0, .ref m0], M)) rfl ?_
                          refine ml_blk 3 (S' := (147, [(0, .ref m0), (1, .int x1), (3, .int (f2 f x1)), (4, .int i100_4), (5, .int i100_5), (6, .int i127_6)], [.int 2, .int (i100_4 + 4), .ref m0, .ref m0], M)) rfl ?_
                          refine ml_blk 3 (S' := (151, [(0, .ref m0), (1, .int x1), (3, .int (f2 f x1)), (4, .int i100_4), (5, .int i100_5), (6, .int i127_6)], [.int ((i100_4 + 4) + (2 * i127_6)), .ref m0, .ref m0], M)) rfl ?_
                          refine ml_call (a := [.ref m0, .int ((i100_4 + 4) + (2 * i127_6))]) (rest := [.ref m0]) rfl (hR.okc rfl rfl rfl) rfl rfl (rm_u2 hR hF (by omega) (by omega) (by omega)) (fun v36 M37 h38 => ?_)
                          obtain ⟨rfl, h38⟩ := h38
                          rw [h38]
                          show ml _ _ _ (154, [(0, .ref m0), (1, .int x1), (3, .int (f2 f x1)), (4, .int i100_4), (5, .int i100_5), (6, .int i127_6)], [.int (f2 f ((i100_4 + 4) + (2 * i127_6))), .ref m0], M) _
                          refine ml_call (a := [.ref m0, .int (f2 f ((i100_4 + 4) + (2 * i127_6)))]) (rest := []) rfl (hR.okc rfl rfl rfl) rfl rfl (rm_tag hR hF hP (by omega)) (fun v39 M40 h41 => ?_)
                          obtain ⟨rfl, h41⟩ := h41
                          rw [h41]
                          show ml _ _ _ (157, [(0, .ref m0), (1, .int x1), (3, .int (f2 f x1)), (4, .int i100_4), (5, .int i100_5), (6, .int i127_6)], [.int (tgf f cp pa (f2 f ((i100_4 + 4) + (2 * i127_6))))], M) _
                          refine ml_st (S' := (159, [(7, .int (tgf f cp pa (f2 f ((i100_4 + 4) + (2 * i127_6))))), (0, .ref m0), (1, .int x1), (3, .int (f2 f x1)), (4, .int i100_4), (5, .int i100_5), (6, .int i127_6)], [], M)) rfl rfl rfl ?_
                          refine ml_blk 2 (S' := (162, [(7, .int (tgf f cp pa (f2 f ((i100_4 + 4) + (2 * i127_6))))), (0, .ref m0), (1, .int x1), (3, .int (f2 f x1)), (4, .int i100_4), (5, .int i100_5), (6, .int i127_6)], [.int 3, .int (tgf f cp pa (f2 f ((i100_4 + 4) + (2 * i127_6))))], M)) rfl ?_
                          refine ml_if2 (S1 := (172, [(0, .ref m0), (1, .int x1), (3, .int (f2 f x1)), (4, .int i100_4), (5, .int i100_5), (6, .int i127_6), (7, .int (tgf f cp pa (f2 f ((i100_4 + 4) + (2 * i127_6)))))], [], M)) (S2 := (165, [(7, .int (tgf f cp pa (f2 f ((i100_4 + 4) + (2 * i127_6))))), (0, .ref m0), (1, .int x1), (3, .int (f2 f x1)), (4, .int i100_4), (5, .int i100_5), (6, .int i127_6)], [], M)) rfl rfl rfl (fun c_162 => ?_) (fun c_162 => ?_)
                          · have c_162 : (tgf f cp pa (f2 f ((i100_4 + 4) + (2 * i127_6)))) < 3 := of_decide_eq_true c_162
                            refine ml_blk 2 (S' := (176, [(0, .ref m0), (1, .int x1), (3, .int (f2 f x1)), (4, .int i100_4), (5, .int i100_5), (6, .int i127_6), (7, .int (tgf f cp pa (f2 f ((i100_4 + 4) + (2 * i127_6)))))], [.int 15, .int (tgf f cp pa (f2 f ((i100_4 + 4) + (2 * i127_6))))], M)) rfl ?_
                            refine ml_if2 (S1 := (186, [], [], M)) (S2 := (179, [(0, .ref m0), (1, .int x1), (3, .int (f2 f x1)), (4, .int i100_4), (5, .int i100_5), (6, .int i127_6), (7, .int (tgf f cp pa (f2 f ((i100_4 + 4) + (2 * i127_6)))))], [], M)) rfl rfl rfl (fun c_176 => ?_) (fun c_176 => ?_)
                            · have c_176 : (tgf f cp pa (f2 f ((i100_4 + 4) + (2 * i127_6)))) < 15 := of_decide_eq_true c_176
                              refine ml_st (S' := (188, [], [.int 38], M)) rfl rfl rfl ?_
                              exact ml_ret rfl (rfl) (⟨_, _, _, rfl, hR, eqI.rf, eqR.rf, Or.inl ⟨by decide, rfl⟩⟩)
                            · have c_176 : ¬ ((tgf f cp pa (f2 f ((i100_4 + 4) + (2 * i127_6)))) < 15) := of_decide_eq_false c_176
                              refine ml_blk 2 (S' := (183, [(0, .ref m0), (1, .int x1), (3, .int (f2 f x1)), (4, .int i100_4), (5, .int i100_5), (6, .int i127_6), (7, .int (tgf f cp pa (f2 f ((i100_4 + 4) + (2 * i127_6)))))], [.int 17, .int (tgf f cp pa (f2 f ((i100_4 + 4) + (2 * i127_6))))], M)) rfl ?_
                              refine ml_if2 (S1 := (189, [(0, .ref m0), (1, .int x1), (3, .int (f2 f x1)), (4, .int i100_4), (5, .int i100_5), (6, .int i127_6)], [], M)) (S2 := (186, [], [], M)) rfl rfl rfl (fun c_183 => ?_) (fun c_183 => ?_)
                              · have c_183 : (tgf f cp pa (f2 f ((i100_4 + 4) + (2 * i127_6)))) ≤ 17 := of_decide_eq_true c_183
                                refine ml_st (S' := (192, [(6, .int (i127_6 + 1)), (0, .ref m0), (1, .int x1), (3, .int (f2 f x1)), (4, .int i100_4), (5, .int i100_5)], [], M)) rfl rfl rfl ?_
                                refine ml_st (S' := (127, [(0, .ref m0), (1, .int x1), (3, .int (f2 f x1)), (4, .int i100_4), (5, .int i100_5), (6, .int (i127_6 + 1))], [], M)) rfl rfl rfl ?_
                                exact ih_127 (i127_6 + 1) (loop_inc (Int32.not_le.mp c_137) hn_127) (by rw [inc_lt (Int32.not_le.mp c_137)]; omega)
                              · have c_183 : ¬ ((tgf f cp pa (f2 f ((i100_4 + 4) + (2 * i127_6)))) ≤ 17) := of_decide_eq_false c_183
                                refine ml_st (S' := (188, [], [.int 38], M)) rfl rfl rfl ?_
                                exact ml_ret rfl (rfl) (⟨_, _, _, rfl, hR, eqI.rf, eqR.rf, Or.inl ⟨by decide, rfl⟩⟩)
                          · have c_162 : ¬ ((tgf f cp pa (f2 f ((i100_4 + 4) + (2 * i127_6)))) < 3) := of_decide_eq_false c_162
                            refine ml_blk 2 (S' := (169, [(7, .int (tgf f cp pa (f2 f ((i100_4 + 4) + (2 * i127_6))))), (0, .ref m0), (1, .int x1), (3, .int (f2 f x1)), (4, .int i100_4), (5, .int i100_5), (6, .int i127_6)], [.int 8, .int (tgf f cp pa (f2 f ((i100_4 + 4) + (2 * i127_6))))], M)) rfl ?_
                            refine ml_if2 (S1 := (189, [(0, .ref m0), (1, .int x1), (3, .int (f2 f x1)), (4, .int i100_4), (5, .int i100_5), (6, .int i127_6)], [], M)) (S2 := (172, [(0, .ref m0), (1, .int x1), (3, .int (f2 f x1)), (4, .int i100_4), (5, .int i100_5), (6, .int i127_6), (7, .int (tgf f cp pa (f2 f ((i100_4 + 4) + (2 * i127_6)))))], [], M)) rfl rfl rfl (fun c_169 => ?_) (fun c_169 => ?_)
                            · have c_169 : (tgf f cp pa (f2 f ((i100_4 + 4) + (2 * i127_6)))) ≤ 8 := of_decide_eq_true c_169
                              refine ml_st (S' := (192, [(6, .int (i127_6 + 1)), (0, .ref m0), (1, .int x1), (3, .int (f2 f x1)), (4, .int i100_4), (5, .int i100_5)], [], M)) rfl rfl rfl ?_
                              refine ml_st (S' := (127, [(0, .ref m0), (1, .int x1), (3, .int (f2 f x1)), (4, .int i100_4), (5, .int i100_5), (6, .int (i127_6 + 1))], [], M)) rfl rfl rfl ?_
                              exact ih_127 (i127_6 + 1) (loop_inc (Int32.not_le.mp c_137) hn_127) (by rw [inc_lt (Int32.not_le.mp c_137)]; omega)
                            · have c_169 : ¬ ((tgf f cp pa (f2 f ((i100_4 + 4) + (2 * i127_6)))) ≤ 8) := of_decide_eq_false c_169
                              refine ml_blk 2 (S' := (176, [(0, .ref m0), (1, .int x1), (3, .int (f2 f x1)), (4, .int i100_4), (5, .int i100_5), (6, .int i127_6), (7, .int (tgf f cp pa (f2 f ((i100_4 + 4) + (2 * i127_6)))))], [.int 15, .int (tgf f cp pa (f2 f ((i100_4 + 4) + (2 * i127_6))))], M)) rfl ?_
                              refine ml_if2 (S1 := (186, [], [], M)) (S2 := (179, [(0, .ref m0), (1, .int x1), (3, .int (f2 f x1)), (4, .int i100_4), (5, .int i100_5), (6, .int i127_6), (7, .int (tgf f cp pa (f2 f ((i100_4 + 4) + (2 * i127_6)))))], [], M)) rfl rfl rfl (fun c_176 => ?_) (fun c_176 => ?_)
                              · have c_176 : (tgf f cp pa (f2 f ((i100_4 + 4) + (2 * i127_6)))) < 15 := of_decide_eq_true c_176
                                refine ml_st (S' := (188, [], [.int 38], M)) rfl rfl rfl ?_
                                exact ml_ret rfl (rfl) (⟨_, _, _, rfl, hR, eqI.rf, eqR.rf, Or.inl ⟨by decide, rfl⟩⟩)
                              · have c_176 : ¬ ((tgf f cp pa (f2 f ((i100_4 + 4) + (2 * i127_6)))) < 15) := of_decide_eq_false c_176
                                refine ml_blk 2 (S' := (183, [(0, .ref m0), (1, .int x1), (3, .int (f2 f x1)), (4, .int i100_4), (5, .int i100_5), (6, .int i127_6), (7, .int (tgf f cp pa (f2 f ((i100_4 + 4) + (2 * i127_6)))))], [.int 17, .int (tgf f cp pa (f2 f ((i100_4 + 4) + (2 * i127_6))))], M)) rfl ?_
                                refine ml_if2 (S1 := (189, [(0, .ref m0), (1, .int x1), (3, .int (f2 f x1)), (4, .int i100_4), (5, .int i100_5), (6, .int i127_6)], [], M)) (S2 := (186, [], [], M)) rfl rfl rfl (fun c_183 => ?_) (fun c_183 => ?_)
                                · have c_183 : (tgf f cp pa (f2 f ((i100_4 + 4) + (2 * i127_6)))) ≤ 17 := of_decide_eq_true c_183
                                  refine ml_st (S' := (192, [(6, .int (i127_6 + 1)), (0, .ref m0), (1, .int x1), (3, .int (f2 f x1)), (4, .int i100_4), (5, .int i100_5)], [], M)) rfl rfl rfl ?_
                                  refine ml_st (S' := (127, [(0, .ref m0), (1, .int x1), (3, .int (f2 f x1)), (4, .int i100_4), (5, .int i100_5), (6, .int (i127_6 + 1))], [], M)) rfl rfl rfl ?_
                                  exact ih_127 (i127_6 + 1) (loop_inc (Int32.not_le.mp c_137) hn_127) (by rw [inc_lt (Int32.not_le.mp c_137)]; omega)
                                · have c_183 : ¬ ((tgf f cp pa (f2 f ((i100_4 + 4) + (2 * i127_6)))) ≤ 17) := of_decide_eq_false c_183
                                  refine ml_st (S' := (188, [], [.int 38], M)) rfl rfl rfl ?_
                                  exact ml_ret rfl (rfl) (⟨_, _, _, rfl, hR, eqI.rf, eqR.rf, Or.inl ⟨by decide, rfl⟩⟩)
                    exact L_127 _ 0 (Nat.le_refl _) (by decide)
                  · have c_118 : ¬ ((tgf f cp pa (f2 f i100_4)) = 15) := of_decide_eq_false c_118
                    refine ml_st (S' := (123, [(0, .ref m0), (1, .int x1), (3, .int (f2 f x1)), (4, .int i100_4), (5, .int i100_5)], [.int 38], M)) rfl rfl rfl ?_
                    exact ml_ret rfl (rfl) (⟨_, _, _, rfl, hR, eqI.rf, eqR.rf, Or.inl ⟨by decide, rfl⟩⟩)
            exact L_100 _ (x1 + 2) 0 (Nat.le_refl _) (⟨by decide, by rw [show ((f2 f x1).toInt - (0 : Int32).toInt).toNat = (f2 f x1).toInt.toNat by have : (0 : Int32).toInt = 0 := rfl; omega]; exact hit2⟩)
          · have c_86 : ¬ (i24_4 = x2) := of_decide_eq_false c_86
            refine ml_st (S' := (91, [(0, .ref m0), (1, .int x1), (2, .int x2), (3, .int (f2 f x1)), (4, .int i24_4), (5, .int i24_5)], [.int 30], M)) rfl rfl rfl ?_
            exact ml_ret rfl (rfl) (⟨_, _, _, rfl, hR, eqI.rf, eqR.rf, Or.inl ⟨by decide, rfl⟩⟩)
        · have c_27 : ¬ ((f2 f x1) ≤ i24_5) := of_decide_eq_false c_27
          refine ml_blk 3 (S' := (34, [(0, .ref m0), (1, .int x1), (2, .int x2), (3, .int (f2 f x1)), (4, .int i24_4), (5, .int i24_5)], [.int (i24_4 + 4)], M)) rfl ?_
          refine ml_st (S' := (35, [(0, .ref m0), (1, .int x1), (2, .int x2), (3, .int (f2 f x1)), (4, .int i24_4), (5, .int i24_5)], [.int x2, .int (i24_4 + 4)], M)) rfl rfl rfl ?_
          refine ml_if2 (S1 := (57, [], [], M)) (S2 := (38, [(0, .ref m0), (1, .int x1), (2, .int x2), (3, .int (f2 f x1)), (4, .int i24_4), (5, .int i24_5)], [], M)) rfl rfl rfl (fun c_35 => ?_) (fun c_35 => ?_)
          · have c_35 : x2 < (i24_4 + 4) := of_decide_eq_true c_35
            refine ml_st (S' := (59, [], [.int 30], M)) rfl rfl rfl ?_
            exact ml_ret rfl (rfl) (⟨_, _, _, rfl, hR, eqI.rf, eqR.rf, Or.inl ⟨by decide, rfl⟩⟩)
          · have c_35 : ¬ (x2 < (i24_4 + 4)) := of_decide_eq_false c_35
            have hq4 := i_nlt c_35
            rw [i_add (by have : (4 : Int32).toInt = 4 := rfl; omega) (by have : (4 : Int32).toInt = 4 := rfl; omega)] at hq4
            have i4_ : (4 : Int32).toInt = 4 := rfl
            have ep2 : (i24_4 + 2).toInt = i24_4.toInt + 2 := i_add (by have : (2 : Int32).toInt = 2 := rfl; omega) (by have : (2 : Int32).toInt = 2 := rfl; omega)
            have hbs := bs_of (f := f) hn (by omega : 0 ≤ i24_4.toInt) (by omega)
            refine ml_blk 3 (S' := (42, [(0, .ref m0), (1, .int x1), (2, .int x2), (3, .int (f2 f x1)), (4, .int i24_4), (5, .int i24_5)], [.int (i24_4 + 4)], M)) rfl ?_
            refine ml_blk 3 (S' := (46, [(0, .ref m0), (1, .int x1), (2, .int x2), (3, .int (f2 f x1)), (4, .int i24_4), (5, .int i24_5)], [.int i24_4, .ref m0, .int 2, .int (i24_4 + 4)], M)) rfl ?_
            refine ml_blk 2 (S' := (48, [(0, .ref m0), (1, .int x1), (2, .int x2), (3, .int (f2 f x1)), (4, .int i24_4), (5, .int i24_5)], [.int (i24_4 + 2), .ref m0, .int 2, .int (i24_4 + 4)], M)) rfl ?_
            refine ml_call (a := [.ref m0, .int (i24_4 + 2)]) (rest := [.int 2, .int (i24_4 + 4)]) rfl (hR.okc rfl rfl rfl) rfl rfl (rm_u2 hR hF (by omega) (by omega) (by omega)) (fun v42 M43 h44 => ?_)
            obtain ⟨rfl, h44⟩ := h44
            rw [h44]
            show ml _ _ _ (51, [(0, .ref m0), (1, .int x1), (2, .int x2), (3, .int (f2 f x1)), (4, .int i24_4), (5, .int i24_5)], [.int (f2 f (i24_4 + 2)), .int 2, .int (i24_4 + 4)], M) _
            refine ml_blk 3 (S' := (54, [(0, .ref m0), (1, .int x1), (2, .int x2), (3, .int (f2 f x1)), (4, .int i24_4), (5, .int i24_5)], [.int x2, .int ((i24_4 + 4) + (2 * (f2 f (i24_4 + 2))))], M)) rfl ?_
            refine ml_if2 (S1 := (60, [(0, .ref m0), (1, .int x1), (2, .int x2), (3, .int (f2 f x1)), (4, .int i24_4), (5, .int i24_5)], [], M)) (S2 := (57, [], [], M)) rfl rfl rfl (fun c_54 => ?_) (fun c_54 => ?_)
            · have c_54 : ((i24_4 + 4) + (2 * (f2 f (i24_4 + 2)))) ≤ x2 := of_decide_eq_true c_54
              have hq5 := i_le c_54
              rw [hbs.2] at hq5
              refine ml_blk 3 (S' := (64, [(0, .ref m0), (1, .int x1), (2, .int x2), (3, .int (f2 f x1)), (4, .int i24_4), (5, .int i24_5)], [.int 2, .int 4, .int i24_4], M)) rfl ?_
              refine ml_blk 3 (S' := (68, [(0, .ref m0), (1, .int x1), (2, .int x2), (3, .int (f2 f x1)), (4, .int i24_4), (5, .int i24_5)], [.int 2, .int i24_4, .ref m0, .int 2, .int 4, .int i24_4], M)) rfl ?_
              refine ml_st (S' := (69, [(0, .ref m0), (1, .int x1), (2, .int x2), (3, .int (f2 f x1)), (4, .int i24_4), (5, .int i24_5)], [.int (i24_4 + 2), .ref m0, .int 2, .int 4, .int i24_4], M)) rfl rfl rfl ?_
              refine ml_call (a := [.ref m0, .int (i24_4 + 2)]) (rest := [.int 2, .int 4, .int i24_4]) rfl (hR.okc rfl rfl rfl) rfl rfl (rm_u2 hR hF (by omega) (by omega) (by omega)) (fun v45 M46 h47 => ?_)
              obtain ⟨rfl, h47⟩ := h47
              rw [h47]
              show ml _ _ _ (72, [(0, .ref m0), (1, .int x1), (2, .int x2), (3, .int (f2 f x1)), (4, .int i24_4), (5, .int i24_5)], [.int (f2 f (i24_4 + 2)), .int 2, .int 4, .int i24_4], M) _
              refine ml_blk 3 (S' := (75, [(0, .ref m0), (1, .int x1), (2, .int x2), (3, .int (f2 f x1)), (4, .int i24_4), (5, .int i24_5)], [.int (i24_4 + (4 + (2 * (f2 f (i24_4 + 2)))))], M)) rfl ?_
              refine ml_st (S' := (77, [(4, .int (i24_4 + (4 + (2 * (f2 f (i24_4 + 2)))))), (0, .ref m0), (1, .int x1), (2, .int x2), (3, .int (f2 f x1)), (5, .int i24_5)], [], M)) rfl rfl rfl ?_
              refine ml_st (S' := (80, [(5, .int (i24_5 + 1)), (4, .int (i24_4 + (4 + (2 * (f2 f (i24_4 + 2)))))), (0, .ref m0), (1, .int x1), (2, .int x2), (3, .int (f2 f x1))], [], M)) rfl rfl rfl ?_
              refine ml_st (S' := (24, [(0, .ref m0), (1, .int x1), (2, .int x2), (3, .int (f2 f x1)), (4, .int (i24_4 + (4 + (2 * (f2 f (i24_4 + 2)))))), (5, .int (i24_5 + 1))], [], M)) rfl rfl rfl ?_
              exact ih_24 (i24_4 + (4 + (2 * (f2 f (i24_4 + 2))))) (i24_5 + 1) (loop_inc (Int32.not_le.mp c_27) hn_24) (⟨by rw [hbs.1]; have := f2_pos (f := f) (x := i24_4 + 2); omega, by rw [hbs.1]; omega, by rw [inc_lt (Int32.not_le.mp c_27)]; omega, by rw [inc_lt (Int32.not_le.mp c_27)]; have := i_nle c_27; omega, itr_inc hk0 c_27 hit ⟨by omega, by omega, by omega, hbs.1⟩⟩)
            · have c_54 : ¬ (((i24_4 + 4) + (2 * (f2 f (i24_4 + 2)))) ≤ x2) := of_decide_eq_false c_54
              refine ml_st (S' := (59, [], [.int 30], M)) rfl rfl rfl ?_
              exact ml_ret rfl (rfl) (⟨_, _, _, rfl, hR, eqI.rf, eqR.rf, Or.inl ⟨by decide, rfl⟩⟩)
    exact L_24 _ (x1 + 2) 0 (Nat.le_refl _) (⟨by omega, by omega, by decide, by show (0 : Int) ≤ _; omega, rfl⟩)
  · have c_4 : ¬ (2 ≤ (x2 - x1)) := of_decide_eq_false c_4
    refine ml_st (S' := (9, [(0, .ref m0), (1, .int x1), (2, .int x2)], [.int 30], M)) rfl rfl rfl ?_
    exact ml_ret rfl (rfl) (⟨_, _, _, rfl, hR, eqI.rf, eqR.rf, Or.inl ⟨by decide, rfl⟩⟩)
set_option maxHeartbeats 2000000 in
theorem rm_components {g : xe_G}  {m0 : Nat} {q : Nat → Nat} {z : Nat × Nat} {I : rI} {R : rR} {M : mi_H} {x1 x2 : Int32} {n : Nat} {f : Nat → Int32} {S cN : Nat} {sa sl ch : Nat → Int32} {cp mj : Int32} {pa py : Nat → Int32}  (hR : RS g m0 q z I R M) (hF : FK n f I R) (hY : SK S cN sa sl ch I R) (hP : PK n f S cp mj pa py I R) (h0 : 0 ≤ x1.toInt) (h1 : x1.toInt ≤ x2.toInt) (h2 : x2.toInt ≤ n) {d : Nat} (hd : 5 ≤ d) : mt (mT g) d 197 [.ref m0, .int x1, .int x2] M (fun v M' => ∃ (x : Int32) (I' : rI) (R' : rR), v = some (.int x) ∧ RS g m0 q z I' R' M' ∧ eqI [47, 48, 72] I I' ∧ eqR [] R R' ∧ (x = 0 ∧ I' 72 = some (f2 f x1) ∨ x ≠ 0 ∧ I' 72 = I 72)) := by
  obtain ⟨d, rfl⟩ : ∃ e, d = e + 1 := ⟨d - 1, by omega⟩
  refine mt_in (b := mb_197 g) rfl rfl ?_
  show ml (mT g) d (mb_197 g).2 (0, [(0, .ref m0), (1, .int x1), (2, .int x2)], [], M) _
  have hn := hF.1
  refine ml_blk 3 (S' := (3, [(0, .ref m0), (1, .int x1), (2, .int x2)], [.int (x2 - x1)], M)) rfl ?_
  refine ml_st (S' := (4, [(0, .ref m0), (1, .int x1), (2, .int x2)], [.int 2, .int (x2 - x1)], M)) rfl rfl rfl ?_
  refine ml_if2 (S1 := (10, [(0, .ref m0), (1, .int x1), (2, .int x2)], [], M)) (S2 := (7, [(0, .ref m0), (1, .int x1), (2, .int x2)], [], M)) rfl rfl rfl (fun c_4 => ?_) (fun c_4 => ?_)
  · have c_4 : 2 ≤ (x2 - x1) := of_decide_eq_true c_4
    have hd2 := i_le c_4
    rw [i_sub (by omega) (by omega)] at hd2
    have i2_ : (2 : Int32).toInt = 2 := rfl
    have ex2 : (x1 + 2).toInt = x1.toInt + 2 := i_add (by have : (2 : Int32).toInt = 2 := rfl; omega) (by have : (2 : Int32).toInt = 2 := rfl; omega)
    have hc0 := f2_pos (f := f) (x := x1)
    have hc1 := f2_le (f := f) (x := x1)
    refine ml_blk 2 (S' := (12, [(0, .ref m0), (1, .int x1), (2, .int x2)], [.int x1, .ref m0], M)) rfl ?_
    refine ml_call (a := [.ref m0, .int x1]) (rest := []) rfl (hR.okc rfl rfl rfl) rfl rfl (rm_u2 hR hF (h0) (by omega) (by omega)) (fun v11 M12 h13 => ?_)
    obtain ⟨rfl, h13⟩ := h13
    rw [h13]
    show ml _ _ _ (15, [(0, .ref m0), (1, .int x1), (2, .int x2)], [.int (f2 f x1)], M) _
    refine ml_st (S' := (16, [(3, .int (f2 f x1)), (0, .ref m0), (1, .int x1), (2, .int x2)], [], M)) rfl rfl rfl ?_
    refine ml_blk 3 (S' := (19, [(3, .int (f2 f x1)), (0, .ref m0), (1, .int x1), (2, .int x2)], [.int (x1 + 2)], M)) rfl ?_
    refine ml_st (S' := (21, [(4, .int (x1 + 2)), (3, .int (f2 f x1)), (0, .ref m0), (1, .int x1), (2, .int x2)], [], M)) rfl rfl rfl ?_
    refine ml_st (S' := (22, [(4, .int (x1 + 2)), (3, .int (f2 f x1)), (0, .ref m0), (1, .int x1), (2, .int x2)], [.int 0], M)) rfl rfl rfl ?_
    refine ml_st (S' := (24, [(0, .ref m0), (1, .int x1), (2, .int x2), (3, .int (f2 f x1)), (4, .int (x1 + 2)), (5, .int 0)], [], M)) rfl rfl rfl ?_
    have L_24 : ∀ (n_24 : Nat) (i24_4 : Int32) (i24_5 : Int32), (2147483648 - i24_5.toInt).toNat ≤ n_24 → (x1.toInt + 2 ≤ i24_4.toInt ∧ i24_4.toInt ≤ x2.toInt ∧ 0 ≤ i24_5.toInt ∧ i24_5.toInt ≤ (f2 f x1).toInt ∧ itr (CM1 f n) i24_5.toInt.toNat (x1 + 2) i24_4) → ml (mT g) d (mb_197 g).2 (24, [(0, .ref m0), (1, .int x1), (2, .int x2), (3, .int (f2 f x1)), (4, .int i24_4), (5, .int i24_5)], [], M) (fun v M' => ∃ (x : Int32) (I' : rI) (R' : rR), v = some (.int x) ∧ RS g m0 q z I' R' M' ∧ eqI [47, 48, 72] I I' ∧ eqR [] R R' ∧ (x = 0 ∧ I' 72 = some (f2 f x1) ∨ x ≠ 0 ∧ I' 72 = I 72)) := by
      intro n_24
      induction n_24 with
      | zero => intro i24_4 i24_5 hn; exact (loop_zero hn).elim
      | succ n_24 ih_24 =>
        intro i24_4 i24_5 hn_24 hi_24
        obtain ⟨hp0, hp1, hk0, hk1, hit⟩ := hi_24
        refine ml_blk 2 (S' := (27, [(0, .ref m0), (1, .int x1), (2, .int x2), (3, .int (f2 f x1)), (4, .int i24_4), (5, .int i24_5)], [.int (f2 f x1), .int i24_5], M)) rfl ?_
        refine ml_if2 (S1 := (126, [(0, .ref m0), (1, .int x1), (2, .int x2), (3, .int (f2 f x1)), (4, .int i24_4), (5, .int i24_5)], [], M)) (S2 := (30, [(0, .ref m0), (1, .int x1), (2, .int x2), (3, .int (f2 f x1)), (4, .int i24_4), (5, .int i24_5)], [], M)) rfl rfl rfl (fun c_27 => ?_) (fun c_27 => ?_)
        · have c_27 : (f2 f x1) ≤ i24_5 := of_decide_eq_true c_27
          refine ml_blk 2 (S' := (129, [(0, .ref m0), (1, .int x1), (2, .int x2), (3, .int (f2 f x1)), (4, .int i24_4), (5, .int i24_5)], [.int x2, .int i24_4], M)) rfl ?_
          refine ml_if2 (S1 := (135, [(0, .ref m0), (1, .int x1), (2, .int x2), (3, .int (f2 f x1)), (4, .int i24_4), (5, .int i24_5)], [], M)) (S2 := (132, [(0, .ref m0), (1, .int x1), (2, .int x2), (3, .int (f2 f x1)), (4, .int i24_4), (5, .int i24_5)], [], M)) rfl rfl rfl (fun c_129 => ?_) (fun c_129 => ?_)
          · have c_129 : i24_4 = x2 := of_decide_eq_true c_129
            have hend : i24_4 = x2 := c_129
            have hit2 := itr_end hit hk1 c_27
            refine ml_blk 3 (S' := (138, [(0, .ref m0), (1, .int x1), (2, .int x2), (3, .int (f2 f x1)), (4, .int i24_4), (5, .int i24_5)], [.int (x1 + 2)], M)) rfl ?_
            refine ml_st (S' := (140, [(4, .int (x1 + 2)), (0, .ref m0), (1, .int x1), (2, .int x2), (3, .int (f2 f x1)), (5, .int i24_5)], [], M)) rfl rfl rfl ?_
            refine ml_st (S' := (141, [(4, .int (x1 + 2)), (0, .ref m0), (1, .int x1), (2, .int x2), (3, .int (f2 f x1)), (5, .int i24_5)], [.int 0], M)) rfl rfl rfl ?_
            refine ml_st (S' := (143, [(0, .ref m0), (3, .int (f2 f x1)), (4, .int (x1 + 2)), (5, .int 0)], [], M)) rfl rfl rfl ?_
            have L_143 : ∀ (n_143 : Nat) (i143_4 : Int32) (i143_5 : Int32), (2147483648 - i143_5.toInt).toNat ≤ n_143 → (0 ≤ i143_5.toInt ∧ itr (CM1 f n) ((f2 f x1).toInt - i143_5.toInt).toNat i143_4 i24_4) → ml (mT g) d (mb_197 g).2 (143, [(0, .ref m0), (3, .int (f2 f x1)), (4, .int i143_4), (5, .int i143_5)], [], M) (fun v M' => ∃ (x : Int32) (I' : rI) (R' : rR), v = some (.int x) ∧ RS g m0 q z I' R' M' ∧ eqI [47, 48, 72] I I' ∧ eqR [] R R' ∧ (x = 0 ∧ I' 72 = some (f2 f x1) ∨ x ≠ 0 ∧ I' 72 = I 72)) := by
              intro n_143
              induction n_143 with
              | zero => intro i143_4 i143_5 hn; exact (loop_zero hn).elim
              | succ n_143 ih_143 =>
                intro i143_4 i143_5 hn_143 hi_143
                obtain ⟨hk0b, hitb⟩ := hi_143
                refine ml_blk 2 (S' := (146, [(0, .ref m0), (3, .int (f2 f x1)), (4, .int i143_4), (5, .int i143_5)], [.int (f2 f x1), .int i143_5], M)) rfl ?_
                refine ml_if2 (S1 := (296, [(0, .ref m0), (3, .int (f2 f x1)), (4, .int i143_4), (5, .int i143_5)], [], M)) (S2 := (149, [(0, .ref m0), (3, .int (f2 f x1)), (4, .int i143_4), (5, .int i143_5)], [], M)) rfl rfl rfl (fun c_146 => ?_) (fun c_146 => ?_)
                · have c_146 : (f2 f x1) ≤ i143_5 := of_decide_eq_true c_146
                  refine ml_blk 2 (S' := (298, [(0, .ref m0), (3, .int (f2 f x1)), (4, .int i143_4), (5, .int i143_5)], [.int (f2 f x1), .ref m0], M)) rfl ?_
                  refine rp_int rfl hR rfl (fun M14 I15 hR16 e17 f18 => ?_)
                  show ml _ _ _ (301, [(0, .ref m0), (3, .int (f2 f x1)), (4, .int i143_4), (5, .int i143_5)], [], M14) _
                  refine ml_st (S' := (302, [(0, .ref m0), (3, .int (f2 f x1)), (4, .int i143_4), (5, .int i143_5)], [.int 0], M14)) rfl rfl rfl ?_
                  exact ml_ret rfl (rfl) (⟨_, _, _, rfl, hR16, (eqI.rf.put f18 (by decide)), eqR.rf, Or.inl ⟨rfl, e17⟩⟩)
                · have c_146 : ¬ ((f2 f x1) ≤ i143_5) := of_decide_eq_false c_146
                  obtain ⟨b1, hb1, hnx⟩ := itr_next hitb c_146
                  obtain ⟨g0, g1, g2⟩ := hb1
                  have i6b : (6 : Int32).toInt = 6 := rfl
                  have eq2 : (i143_4 + 2).toInt = i143_4.toInt + 2 := i_add (by have : (2 : Int32).toInt = 2 := rfl; omega) (by have : (2 : Int32).toInt = 2 := rfl; omega)
                  have eq4 : (i143_4 + 4).toInt = i143_4.toInt + 4 := i_add (by have : (4 : Int32).toInt = 4 := rfl; omega) (by have : (4 : Int32).toInt = 4 := rfl; omega)
                  have hm0 := f2_pos (f := f) (x := i143_4 + 4)
                  refine ml_blk 3 (S' := (153, [(0, .ref m0), (3, .int (f2 f x1)), (4, .int i143_4), (5, .int i143_5)], [.int i143_4, .ref m0, .ref m0], M)) rfl ?_
                  refine ml_call (a := [.ref m0, .int i143_4]) (rest := [.ref m0]) rfl (hR.okc rfl rfl rfl) rfl rfl (rm_u2 hR hF (g0) (by omega) (by omega)) (fun v19 M20 h21 => ?_)
                  obtain ⟨rfl, h21⟩ := h21
                  rw [h21]
                  show ml _ _ _ (156, [(0, .ref m0), (3, .int (f2 f x1)), (4, .int i143_4), (5, .int i143_5)], [.int (f2 f i143_4), .ref m0], M) _
                  refine ml_call (a := [.ref m0, .int (f2 f i143_4)]) (rest := []) rfl (hR.okc rfl rfl rfl) rfl rfl (rm_tag hR hF hP (by omega)) (fun v22 M23 h24 => ?_)
                  obtain ⟨rfl, h24⟩ := h24
                  rw [h24]
                  show ml _ _ _ (159, [(0, .ref m0), (3, .int (f2 f x1)), (4, .int i143_4), (5, .int i143_5)], [.int (tgf f cp pa (f2 f i143_4))], M) _
                  refine ml_st (S' := (160, [(0, .ref m0), (3, .int (f2 f x1)), (4, .int i143_4), (5, .int i143_5)], [.int 1, .int (tgf f cp pa (f2 f i143_4))], M)) rfl rfl rfl ?_
                  refine ml_if2 (S1 := (216, [], [], M)) (S2 := (163, [(0, .ref m0), (3, .int (f2 f x1)), (4, .int i143_4), (5, .int i143_5)], [], M)) rfl rfl rfl (fun c_160 => ?_) (fun c_160 => ?_)
                  · have c_160 : ¬ (tgf f cp pa (f2 f i143_4)) = 1 := of_decide_eq_true c_160
                    refine ml_st (S' := (218, [], [.int 37], M)) rfl rfl rfl ?_
                    exact ml_ret rfl (rfl) (⟨_, _, _, rfl, hR, eqI.rf, eqR.rf, Or.inr ⟨by decide, rfl⟩⟩)
                  · have c_160 : ¬ (¬ (tgf f cp pa (f2 f i143_4)) = 1) := of_decide_eq_false c_160
                    have hy1 := hP.y (show tgf f cp pa (f2 f i143_4) = 1 from Decidable.not_not.mp c_160)
                    refine ml_blk 3 (S' := (166, [(0, .ref m0), (3, .int (f2 f x1)), (4, .int i143_4), (5, .int i143_5)], [.ref m0, .ref m0, .ref m0], M)) rfl ?_
                    refine ml_st (S' := (168, [(0, .ref m0), (3, .int (f2 f x1)), (4, .int i143_4), (5, .int i143_5)], [.int i143_4, .ref m0, .ref m0, .ref m0], M)) rfl rfl rfl ?_
                    refine ml_call (a := [.ref m0, .int i143_4]) (rest := [.ref m0, .ref m0]) rfl (hR.okc rfl rfl rfl) rfl rfl (rm_u2 hR hF (g0) (by omega) (by omega)) (fun v25 M26 h27 => ?_)
                    obtain ⟨rfl, h27⟩ := h27
                    rw [h27]
                    show ml _ _ _ (171, [(0, .ref m0), (3, .int (f2 f x1)), (4, .int i143_4), (5, .int i143_5)], [.int (f2 f i143_4), .ref m0, .ref m0], M) _
                    refine ml_call (a := [.ref m0, .int (f2 f i143_4)]) (rest := [.ref m0]) rfl (hR.okc rfl rfl rfl) rfl rfl (rm_symOf hR hP (Decidable.not_not.mp c_160) (by omega)) (fun v28 M29 h30 => ?_)
                    obtain ⟨rfl, h30⟩ := h30
                    rw [h30]
                    show ml _ _ _ (174, [(0, .ref m0), (3, .int (f2 f x1)), (4, .int i143_4), (5, .int i143_5)], [.int (pyf py (f2 f i143_4)), .ref m0], M) _
                    refine ml_st (S' := (175, [(0, .ref m0), (3, .int (f2 f x1)), (4, .int i143_4), (5, .int i143_5)], [.int 1, .int (pyf py (f2 f i143_4)), .ref m0], M)) rfl rfl rfl ?_
                    refine ml_call (a := [.ref m0, .int (pyf py (f2 f i143_4)), .int 1]) (rest := []) rfl (hR.okc rfl rfl rfl) rfl rfl (rm_unqualified hR hY (hy1.2.2.1) (hy1.2.2.2) (by omega)) (fun v31 M32 h33 => ?_)
                    obtain ⟨⟨u34, rfl, z35⟩, h33⟩ := h33
                    rw [h33]
                    show ml _ _ _ (178, [(0, .ref m0), (3, .int (f2 f x1)), (4, .int i143_4), (5, .int i143_5)], [.int u34], M) _
                    refine ml_if (S1 := (216, [], [], M)) (S2 := (181, [(0, .ref m0), (3, .int (f2 f x1)), (4, .int i143_4), (5, .int i143_5)], [], M)) rfl rfl rfl (fun c_178 => ?_) (fun c_178 => ?_)
                    · have c_178 : u34 = 0 := of_decide_eq_true c_178
                      refine ml_st (S' := (218, [], [.int 37], M)) rfl rfl rfl ?_
                      exact ml_ret rfl (rfl) (⟨_, _, _, rfl, hR, eqI.rf, eqR.rf, Or.inr ⟨by decide, rfl⟩⟩)
                    · have c_178 : ¬ (u34 = 0) := of_decide_eq_false c_178
                      refine ml_blk 3 (S' := (185, [(0, .ref m0), (3, .int (f2 f x1)), (4, .int i143_4), (5, .int i143_5)], [.int i143_4, .ref m0, .ref m0], M)) rfl ?_
                      refine ml_blk 2 (S' := (187, [(0, .ref m0), (3, .int (f2 f x1)), (4, .int i143_4), (5, .int i143_5)], [.int (i143_4 + 2), .ref m0, .ref m0], M)) rfl ?_
                      refine ml_call (a := [.ref m0, .int (i143_4 + 2)]) (rest := [.ref m0]) rfl (hR.okc rfl rfl rfl) rfl rfl (rm_u2 hR hF (by omega) (by omega) (by omega)) (fun v36 M37 h38 => ?_)
                      obtain ⟨rfl, h38⟩ := h38
                      rw [h38]
                      show ml _ _ _ (190, [(0, .ref m0), (3, .int (f2 f x1)), (4, .int i143_4), (5, .int i143_5)], [.int (f2 f (i143_4 + 2)), .ref m0], M) _
                      refine ml_call (a := [.ref m0, .int (f2 f (i143_4 + 2))]) (rest := []) rfl (hR.okc rfl rfl rfl) rfl rfl (rm_tag hR hF hP (by omega)) (fun v39 M40 h41 => ?_)
                      obtain ⟨rfl, h41⟩ := h41
                      rw [h41]
                      show ml _ _ _ (193, [(0, .ref m0), (3, .int (f2 f x1)), (4, .int i143_4), (5, .int i143_5)], [.int (tgf f cp pa (f2 f (i143_4 + 2)))], M) _
                      refine ml_st (S' := (194, [(0, .ref m0), (3, .int (f2 f x1)), (4, .int i143_4), (5, .int i143_5)], [.int 1, .int (tgf f cp pa (f2 f (i143_4 + 2)))], M)) rfl rfl rfl ?_
                      refine ml_if2 (S1 := (216, [], [], M)) (S2 := (197, [(0, .ref m0), (3, .int (f2 f x1)), (4, .int i143_4), (5, .int i143_5)], [], M)) rfl rfl rfl (fun c_194 => ?_) (fun c_194 => ?_)
                      · have c_194 : ¬ (tgf f cp pa (f2 f (i143_4 + 2))) = 1 := of_decide_eq_true c_194
                        refine ml_st (S' := (218, [], [.int 37], M)) rfl rfl rfl ?_
                        exact ml_ret rfl (rfl) (⟨_, _, _, rfl, hR, eqI.rf, eqR.rf, Or.inr ⟨by decide, rfl⟩⟩)
                      · have c_194 : ¬ (¬ (tgf f cp pa (f2 f (i143_4 + 2))) = 1) := of_decide_eq_false c_194
                        have hy2 := hP.y (show tgf f cp pa (f2 f (i143_4 + 2)) = 1 from Decidable.not_not.mp c_194)
                        refine ml_blk 3 (S' := (200, [(0, .ref m0), (3, .int (f2 f x1)), (4, .int i143_4), (5, .int i143_5)], [.ref m0, .ref m0, .ref m0], M)) rfl ?_
                        refine ml_blk 3 (S' := (204, [(0, .ref m0), (3, .int (f2 f x1)), (4, .int i143_4), (5, .int i143_5)], [.int (i143_4 + 2), .ref m0, .ref m0, .ref m0], M)) rfl ?_
                        refine ml_call (a := [.ref m0, .int (i143_4 + 2)]) (rest := [.ref m0, .ref m0]) rfl (hR.okc rfl rfl rfl) rfl rfl (rm_u2 hR hF (by omega) (by omega) (by omega)) (fun v42 M43 h44 => ?_)
                        obtain ⟨rfl, h44⟩ := h44
                        rw [h44]
                        show ml _ _ _ (207, [(0, .ref m0), (3, .int (f2 f x1)), (4, .int i143_4), (5, .int i143_5)], [.int (f2 f (i143_4 + 2)), .ref m0, .ref m0], M) _
                        refine ml_call (a := [.ref m0, .int (f2 f (i143_4 + 2))]) (rest := [.ref m0]) rfl (hR.okc rfl rfl rfl) rfl rfl (rm_symOf hR hP (Decidable.not_not.mp c_194) (by omega)) (fun v45 M46 h47 => ?_)
                        obtain ⟨rfl, h47⟩ := h47
                        rw [h47]
                        show ml _ _ _ (210, [(0, .ref m0), (3, .int (f2 f x1)), (4, .int i143_4), (5, .int i143_5)], [.int (pyf py (f2 f (i143_4 + 2))), .ref m0], M) _
                        refine ml_call (a := [.ref m0, .int (pyf py (f2 f (i143_4 + 2)))]) (rest := []) rfl (hR.okc rfl rfl rfl) rfl rfl (rm_isField hR hY (hy2.2.2.1) (hy2.2.2.2) (by omega)) (fun v48 M49 h50 => ?_)
                        obtain ⟨⟨u51, rfl, z52, w53⟩, h50⟩ := h50
                        rw [h50]
                        show ml _ _ _ (213, [(0, .ref m0), (3, .int (f2 f x1)), (4, .int i143_4), (5, .int i143_5)], [.int u51], M) _
                        refine ml_if (S1 := (219, [(0, .ref m0), (3, .int (f2 f x1)), (4, .int i143_4), (5, .int i143_5)], [], M)) (S2 := (216, [], [], M)) rfl rfl rfl (fun c_213 => ?_) (fun c_213 => ?_)
                        · have c_213 : ¬ u51 = 0 := of_decide_eq_true c_213
                          refine ml_blk 3 (S' := (223, [(0, .ref m0), (3, .int (f2 f x1)), (4, .int i143_4), (5, .int i143_5)], [.int 4, .int i143_4, .ref m0], M)) rfl ?_
                          refine ml_st (S' := (224, [(0, .ref m0), (3, .int (f2 f x1)), (4, .int i143_4), (5, .int i143_5)], [.int (i143_4 + 4), .ref m0], M)) rfl rfl rfl ?_
                          refine ml_call (a := [.ref m0, .int (i143_4 + 4)]) (rest := []) rfl (hR.okc rfl rfl rfl) rfl rfl (rm_u2 hR hF (by omega) (by omega) (by omega)) (fun v54 M55 h56 => ?_)
                          obtain ⟨rfl, h56⟩ := h56
                          rw [h56]
                          show ml _ _ _ (227, [(0, .ref m0), (3, .int (f2 f x1)), (4, .int i143_4), (5, .int i143_5)], [.int (f2 f (i143_4 + 4))], M) _
                          refine ml_st (S' := (229, [(6, .int (f2 f (i143_4 + 4))), (0, .ref m0), (3, .int (f2 f x1)), (4, .int i143_4), (5, .int i143_5)], [], M)) rfl rfl rfl ?_
                          refine ml_st (S' := (232, [(4, .int (i143_4 + 6)), (6, .int (f2 f (i143_4 + 4))), (0, .ref m0), (3, .int (f2 f x1)), (5, .int i143_5)], [], M)) rfl rfl rfl ?_
                          refine ml_st (S' := (233, [(4, .int (i143_4 + 6)), (6, .int (f2 f (i143_4 + 4))), (0, .ref m0), (3, .int (f2 f x1)), (5, .int i143_5)], [.int 0], M)) rfl rfl rfl ?_
                          refine ml_st (S' := (235, [(0, .ref m0), (3, .int (f2 f x1)), (4, .int (i143_4 + 6)), (5, .int i143_5), (6, .int (f2 f (i143_4 + 4))), (7, .int 0)], [], M)) rfl rfl rfl ?_
                          have L_235 : ∀ (n_235 : Nat) (i235_4 : Int32) (i235_7 : Int32), (2147483648 - i235_7.toInt).toNat ≤ n_235 → (0 ≤ i235_7.toInt ∧ itr (RA1 f n) ((f2 f (i143_4 + 4)).toInt - i235_7.toInt).toNat i235_4 b1) → ml (mT g) d (mb_197 g).2 (235, [(0, .ref m0), (3, .int (f2 f x1)), (4, .int i235_4), (5, .int i143_5), (6, .int (f2 f (i143_4 + 4))), (7, .int i235_7)], [], M) (fun v M' => ∃ (x : Int32) (I' : rI) (R' : rR), v = some (.int x) ∧ RS g m0 q z I' R' M' ∧ eqI [47, 48, 72] I I' ∧ eqR [] R R' ∧ (x = 0 ∧ I' 72 = some (f2 f x1) ∨ x ≠ 0 ∧ I' 72 = I 72)) := by
                            intro n_235
                            induction n_235 with
                            | zero => intro i235_4 i235_7 hn; exact (loop_zero hn).elim
                            | succ n_235 ih_235 =>
                              intro i235_4 i235_7 hn_235 hi_235
                              obtain ⟨hj0b, hit6⟩ := hi_235
                              refine ml_blk 2 (S' := (239, [(0, .ref m0), (3, .int (f2 f x1)), (4, .int i235_4), (5, .int i143_5), (6, .int (f2 f (i143_4 + 4))), (7, .int i235_7)], [.int (f2 f (i143_4 + 4)), .int i235_7], M)) rfl ?_
                              refine ml_if2 (S1 := (290, [(0, .ref m0), (3, .int (f2 f x1)), (4, .int i235_4), (5, .int i143_5), (6, .int (f2 f (i143_4 + 4))), (7, .int i235_7)], [], M)) (S2 := (242, [(0, .ref m0), (3, .int (f2 f x1)), (4, .int i235_4), (5, .int i143_5), (6, .int (f2 f (i143_4 + 4))), (7, .int i235_7)], [], M)) rfl rfl rfl (fun c_239 => ?_) (fun c_239 => ?_)
                              · have c_239 : (f2 f (i143_4 + 4)) ≤ i235_7 := of_decide_eq_true c_239
                                refine ml_st (S' := (293, [(5, .int (i143_5 + 1)), (0, .ref m0), (3, .int (f2 f x1)), (4, .int i235_4), (6, .int (f2 f (i143_4 + 4))), (7, .int i235_7)], [], M)) rfl rfl rfl ?_
                                refine ml_st (S' := (143, [(0, .ref m0), (3, .int (f2 f x1)), (4, .int i235_4), (5, .int (i143_5 + 1))], [], M)) rfl rfl rfl ?_
                                exact ih_143 i235_4 (i143_5 + 1) (loop_inc (Int32.not_le.mp c_146) hn_143) (⟨by rw [inc_lt (Int32.not_le.mp c_146)]; omega, itr_one hit6 (by have := i_le c_239; omega) ▸ hnx⟩)
                              · have c_239 : ¬ ((f2 f (i143_4 + 4)) ≤ i235_7) := of_decide_eq_false c_239
                                obtain ⟨r1, hr1, hrx⟩ := itr_next hit6 c_239
                                have hr2 := hr1
                                obtain ⟨u0, u1, u2, u3⟩ := hr2
                                have es2 : (i235_4 + 2).toInt = i235_4.toInt + 2 := i_add (by have : (2 : Int32).toInt = 2 := rfl; omega) (by have : (2 : Int32).toInt = 2 := rfl; omega)
                                have hra2 := ra_of (f := f) hn u0 u2
                                refine ml_blk 3 (S' := (246, [(0, .ref m0), (3, .int (f2 f x1)), (4, .int i235_4), (5, .int i143_5), (6, .int (f2 f (i143_4 + 4))), (7, .int i235_7)], [.int i235_4, .ref m0, .ref m0], M)) rfl ?_
                                refine ml_call (a := [.ref m0, .int i235_4]) (rest := [.ref m0]) rfl (hR.okc rfl rfl rfl) rfl rfl (rm_u2 hR hF (u0) (by omega) (by omega)) (fun v57 M58 h59 => ?_)
                                obtain ⟨rfl, h59⟩ := h59
                                rw [h59]
                                show ml _ _ _ (249, [(0, .ref m0), (3, .int (f2 f x1)), (4, .int i235_4), (5, .int i143_5), (6, .int (f2 f (i143_4 + 4))), (7, .int i235_7)], [.int (f2 f i235_4), .ref m0], M) _
                                refine ml_call (a := [.ref m0, .int (f2 f i235_4)]) (rest := []) rfl (hR.okc rfl rfl rfl) rfl rfl (rm_tag hR hF hP (by omega)) (fun v60 M61 h62 => ?_)
                                obtain ⟨rfl, h62⟩ := h62
                                rw [h62]
                                show ml _ _ _ (252, [(0, .ref m0), (3, .int (f2 f x1)), (4, .int i235_4), (5, .int i143_5), (6, .int (f2 f (i143_4 + 4))), (7, .int i235_7)], [.int (tgf f cp pa (f2 f i235_4))], M) _
                                refine ml_st (S' := (253, [(0, .ref m0), (3, .int (f2 f x1)), (4, .int i235_4), (5, .int i143_5), (6, .int (f2 f (i143_4 + 4))), (7, .int i235_7)], [.int 1, .int (tgf f cp pa (f2 f i235_4))], M)) rfl rfl rfl ?_
                                refine ml_if2 (S1 := (267, [(0, .ref m0), (3, .int (f2 f x1)), (4, .int i235_4), (5, .int i143_5), (6, .int (f2 f (i143_4 + 4))), (7, .int i235_7)], [], M)) (S2 := (256, [(0, .ref m0), (3, .int (f2 f x1)), (4, .int i235_4), (5, .int i143_5), (6, .int (f2 f (i143_4 + 4))), (7, .int i235_7)], [], M)) rfl rfl rfl (fun c_253 => ?_) (fun c_253 => ?_)
                                · have c_253 : (tgf f cp pa (f2 f i235_4)) = 1 := of_decide_eq_true c_253
                                  refine ml_blk 3 (S' := (272, [(0, .ref m0), (3, .int (f2 f x1)), (4, .int i235_4), (5, .int i143_5), (6, .int (f2 f (i143_4 + 4))), (7, .int i235_7)], [.ref m0, .int 6, .int i235_4], M)) rfl ?_
                                  refine ml_blk 3 (S' := (276, [(0, .ref m0), (3, .int (f2 f x1)), (4, .int i235_4), (5, .int i143_5), (6, .int (f2 f (i143_4 + 4))), (7, .int i235_7)], [.int (i235_4 + 2), .ref m0, .int 6, .int i235_4], M)) rfl ?_
                                  refine ml_call (a := [.ref m0, .int (i235_4 + 2)]) (rest := [.int 6, .int i235_4]) rfl (hR.okc rfl rfl rfl) rfl rfl (rm_u4 hR hF (by omega) (by omega) (by omega)) (fun v63 M64 h65 => ?_)
                                  obtain ⟨rfl, h65⟩ := h65
                                  rw [h65]
                                  show ml _ _ _ (279, [(0, .ref m0), (3, .int (f2 f x1)), (4, .int i235_4), (5, .int i143_5), (6, .int (f2 f (i143_4 + 4))), (7, .int i235_7)], [.long (f4 f (i235_4 + 2)), .int 6, .int i235_4], M) _
                                  refine ml_blk 3 (S' := (282, [(0, .ref m0), (3, .int (f2 f x1)), (4, .int i235_4), (5, .int i143_5), (6, .int (f2 f (i143_4 + 4))), (7, .int i235_7)], [.int (i235_4 + (6 + (Int64.toInt32 (f4 f (i235_4 + 2)))))], M)) rfl ?_
                                  refine ml_st (S' := (284, [(4, .int (i235_4 + (6 + (Int64.toInt32 (f4 f (i235_4 + 2)))))), (0, .ref m0), (3, .int (f2 f x1)), (5, .int i143_5), (6, .int (f2 f (i143_4 + 4))), (7, .int i235_7)], [], M)) rfl rfl rfl ?_
                                  refine ml_st (S' := (287, [(7, .int (i235_7 + 1)), (4, .int (i235_4 + (6 + (Int64.toInt32 (f4 f (i235_4 + 2)))))), (0, .ref m0), (3, .int (f2 f x1)), (5, .int i143_5), (6, .int (f2 f (i143_4 + 4)))], [], M)) rfl rfl rfl ?_
                                  refine ml_st (S' := (235, [(0, .ref m0), (3, .int (f2 f x1)), (4, .int (i235_4 + (6 + (Int64.toInt32 (f4 f (i235_4 + 2)))))), (5, .int i143_5), (6, .int (f2 f (i143_4 + 4))), (7, .int (i235_7 + 1))], [], M)) rfl rfl rfl ?_
                                  exact ih_235 (i235_4 + (6 + (Int64.toInt32 (f4 f (i235_4 + 2))))) (i235_7 + 1) (loop_inc (Int32.not_le.mp c_239) hn_235) (⟨by rw [inc_lt (Int32.not_le.mp c_239)]; omega, hr1.eq hra2 ▸ hrx⟩)
                                · have c_253 : ¬ ((tgf f cp pa (f2 f i235_4)) = 1) := of_decide_eq_false c_253
                                  refine ml_blk 3 (S' := (261, [(0, .ref m0), (3, .int (f2 f x1)), (4, .int i235_4), (5, .int i143_5), (6, .int (f2 f (i143_4 + 4))), (7, .int i235_7)], [.int i235_4, .int 28, .ref m0], M)) rfl ?_
                                  refine ml_call (a := [.ref m0, .int 28, .int i235_4]) (rest := []) rfl (hR.okc rfl rfl rfl) rfl rfl (rm_wrong hR (by omega)) (fun v66 M67 h68 => ?_)
                                  obtain ⟨u74, I69, R70, rfl, hR71, hI72, hV73, z75, w76⟩ := h68
                                  show ml _ _ _ (264, [(0, .ref m0), (3, .int (f2 f x1)), (4, .int i235_4), (5, .int i143_5), (6, .int (f2 f (i143_4 + 4))), (7, .int i235_7)], [.int u74], M67) _
                                  refine ml_blk 2 (S' := (266, [(0, .ref m0), (3, .int (f2 f x1)), (4, .int i235_4), (5, .int i143_5), (6, .int (f2 f (i143_4 + 4))), (7, .int i235_7)], [.int (-1)], M67)) rfl ?_
                                  exact ml_ret rfl (rfl) (⟨_, _, _, rfl, hR71, (eqI.rf.tr hI72 (by decide)), (eqR.rf.tr hV73 (by decide)), Or.inr ⟨by decide, hI72 72 (by decide)⟩⟩)
                          exact L_235 _ (i143_4 + 6) 0 (Nat.le_refl _) (⟨by decide, by rw [show ((f2 f (i143_4 + 4)).toInt - (0 : Int32).toInt).toNat = (f2 f (i143_4 + 4)).toInt.toNat by have : (0 : Int32).toInt = 0 := rfl; omega]; exact g2⟩)
                        · have c_213 : ¬ (¬ u51 = 0) := of_decide_eq_false c_213
                          refine ml_st (S' := (218, [], [.int 37], M)) rfl rfl rfl ?_
                          exact ml_ret rfl (rfl) (⟨_, _, _, rfl, hR, eqI.rf, eqR.rf, Or.inr ⟨by decide, rfl⟩⟩)
            exact L_143 _ (x1 + 2) 0 (Nat.le_refl _) (⟨by decide, by rw [show ((f2 f x1).toInt - (0 : Int32).toInt).toNat = (f2 f x1).toInt.toNat by have : (0 : Int32).toInt = 0 := rfl; omega]; exact hit2⟩)
          · have c_129 : ¬ (i24_4 = x2) := of_decide_eq_false c_129
            refine ml_st (S' := (134, [(0, .ref m0), (1, .int x1), (2, .int x2), (3, .int (f2 f x1)), (4, .int i24_4), (5, .int i24_5)], [.int 30], M)) rfl rfl rfl ?_
            exact ml_ret rfl (rfl) (⟨_, _, _, rfl, hR, eqI.rf, eqR.rf, Or.inr ⟨by decide, rfl⟩⟩)
        · have c_27 : ¬ ((f2 f x1) ≤ i24_5) := of_decide_eq_false c_27
          refine ml_blk 3 (S' := (35, [(0, .ref m0), (1, .int x1), (2, .int x2), (3, .int (f2 f x1)), (4, .int i24_4), (5, .int i24_5)], [.int (i24_4 + 6)], M)) rfl ?_
          refine ml_st (S' := (36, [(0, .ref m0), (1, .int x1), (2, .int x2), (3, .int (f2 f x1)), (4, .int i24_4), (5, .int i24_5)], [.int x2, .int (i24_4 + 6)], M)) rfl rfl rfl ?_
          refine ml_if2 (S1 := (42, [(0, .ref m0), (1, .int x1), (2, .int x2), (3, .int (f2 f x1)), (4, .int i24_4), (5, .int i24_5)], [], M)) (S2 := (39, [(0, .ref m0), (1, .int x1), (2, .int x2), (3, .int (f2 f x1)), (4, .int i24_4), (5, .int i24_5)], [], M)) rfl rfl rfl (fun c_36 => ?_) (fun c_36 => ?_)
          · have c_36 : (i24_4 + 6) ≤ x2 := of_decide_eq_true c_36
            have hq6 := i_le c_36
            rw [i_add (by have : (6 : Int32).toInt = 6 := rfl; omega) (by have : (6 : Int32).toInt = 6 := rfl; omega)] at hq6
            have i6_ : (6 : Int32).toInt = 6 := rfl
            have ep4 : (i24_4 + 4).toInt = i24_4.toInt + 4 := i_add (by have : (4 : Int32).toInt = 4 := rfl; omega) (by have : (4 : Int32).toInt = 4 := rfl; omega)
            have ep6 : (i24_4 + 6).toInt = i24_4.toInt + 6 := i_add (by have : (6 : Int32).toInt = 6 := rfl; omega) (by have : (6 : Int32).toInt = 6 := rfl; omega)
            have hd0 := f2_pos (f := f) (x := i24_4 + 4)
            refine ml_blk 3 (S' := (46, [(0, .ref m0), (1, .int x1), (2, .int x2), (3, .int (f2 f x1)), (4, .int i24_4), (5, .int i24_5)], [.int 4, .int i24_4, .ref m0], M)) rfl ?_
            refine ml_st (S' := (47, [(0, .ref m0), (1, .int x1), (2, .int x2), (3, .int (f2 f x1)), (4, .int i24_4), (5, .int i24_5)], [.int (i24_4 + 4), .ref m0], M)) rfl rfl rfl ?_
            refine ml_call (a := [.ref m0, .int (i24_4 + 4)]) (rest := []) rfl (hR.okc rfl rfl rfl) rfl rfl (rm_u2 hR hF (by omega) (by omega) (by omega)) (fun v77 M78 h79 => ?_)
            obtain ⟨rfl, h79⟩ := h79
            rw [h79]
            show ml _ _ _ (50, [(0, .ref m0), (1, .int x1), (2, .int x2), (3, .int (f2 f x1)), (4, .int i24_4), (5, .int i24_5)], [.int (f2 f (i24_4 + 4))], M) _
            refine ml_st (S' := (52, [(6, .int (f2 f (i24_4 + 4))), (0, .ref m0), (1, .int x1), (2, .int x2), (3, .int (f2 f x1)), (4, .int i24_4), (5, .int i24_5)], [], M)) rfl rfl rfl ?_
            refine ml_st (S' := (55, [(4, .int (i24_4 + 6)), (6, .int (f2 f (i24_4 + 4))), (0, .ref m0), (1, .int x1), (2, .int x2), (3, .int (f2 f x1)), (5, .int i24_5)], [], M)) rfl rfl rfl ?_
            refine ml_st (S' := (56, [(4, .int (i24_4 + 6)), (6, .int (f2 f (i24_4 + 4))), (0, .ref m0), (1, .int x1), (2, .int x2), (3, .int (f2 f x1)), (5, .int i24_5)], [.int 0], M)) rfl rfl rfl ?_
            refine ml_st (S' := (58, [(0, .ref m0), (1, .int x1), (2, .int x2), (3, .int (f2 f x1)), (4, .int (i24_4 + 6)), (5, .int i24_5), (6, .int (f2 f (i24_4 + 4))), (7, .int 0)], [], M)) rfl rfl rfl ?_
            have L_58 : ∀ (n_58 : Nat) (i58_4 : Int32) (i58_7 : Int32), (2147483648 - i58_7.toInt).toNat ≤ n_58 → (i24_4.toInt + 6 ≤ i58_4.toInt ∧ i58_4.toInt ≤ x2.toInt ∧ 0 ≤ i58_7.toInt ∧ i58_7.toInt ≤ (f2 f (i24_4 + 4)).toInt ∧ itr (RA1 f n) i58_7.toInt.toNat (i24_4 + 6) i58_4) → ml (mT g) d (mb_197 g).2 (58, [(0, .ref m0), (1, .int x1), (2, .int x2), (3, .int (f2 f x1)), (4, .int i58_4), (5, .int i24_5), (6, .int (f2 f (i24_4 + 4))), (7, .int i58_7)], [], M) (fun v M' => ∃ (x : Int32) (I' : rI) (R' : rR), v = some (.int x) ∧ RS g m0 q z I' R' M' ∧ eqI [47, 48, 72] I I' ∧ eqR [] R R' ∧ (x = 0 ∧ I' 72 = some (f2 f x1) ∨ x ≠ 0 ∧ I' 72 = I 72)) := by
              intro n_58
              induction n_58 with
              | zero => intro i58_4 i58_7 hn; exact (loop_zero hn).elim
              | succ n_58 ih_58 =>
                intro i58_4 i58_7 hn_58 hi_58
                obtain ⟨hq0, hq1, hj0, hj1, hit5⟩ := hi_58
                refine ml_blk 2 (S' := (62, [(0, .ref m0), (1, .int x1), (2, .int x2), (3, .int (f2 f x1)), (4, .int i58_4), (5, .int i24_5), (6, .int (f2 f (i24_4 + 4))), (7, .int i58_7)], [.int (f2 f (i24_4 + 4)), .int i58_7], M)) rfl ?_
                refine ml_if2 (S1 := (120, [(0, .ref m0), (1, .int x1), (2, .int x2), (3, .int (f2 f x1)), (4, .int i58_4), (5, .int i24_5), (6, .int (f2 f (i24_4 + 4))), (7, .int i58_7)], [], M)) (S2 := (65, [(0, .ref m0), (1, .int x1), (2, .int x2), (3, .int (f2 f x1)), (4, .int i58_4), (5, .int i24_5), (6, .int (f2 f (i24_4 + 4))), (7, .int i58_7)], [], M)) rfl rfl rfl (fun c_62 => ?_) (fun c_62 => ?_)
                · have c_62 : (f2 f (i24_4 + 4)) ≤ i58_7 := of_decide_eq_true c_62
                  refine ml_st (S' := (123, [(5, .int (i24_5 + 1)), (0, .ref m0), (1, .int x1), (2, .int x2), (3, .int (f2 f x1)), (4, .int i58_4), (6, .int (f2 f (i24_4 + 4))), (7, .int i58_7)], [], M)) rfl rfl rfl ?_
                  refine ml_st (S' := (24, [(0, .ref m0), (1, .int x1), (2, .int x2), (3, .int (f2 f x1)), (4, .int i58_4), (5, .int (i24_5 + 1))], [], M)) rfl rfl rfl ?_
                  exact ih_24 i58_4 (i24_5 + 1) (loop_inc (Int32.not_le.mp c_27) hn_24) (⟨by omega, by omega, by rw [inc_lt (Int32.not_le.mp c_27)]; omega, by rw [inc_lt (Int32.not_le.mp c_27)]; have := i_nle c_27; omega, itr_inc hk0 c_27 hit ⟨by omega, by omega, itr_end hit5 hj1 c_62⟩⟩)
                · have c_62 : ¬ ((f2 f (i24_4 + 4)) ≤ i58_7) := of_decide_eq_false c_62
                  refine ml_blk 3 (S' := (70, [(0, .ref m0), (1, .int x1), (2, .int x2), (3, .int (f2 f x1)), (4, .int i58_4), (5, .int i24_5), (6, .int (f2 f (i24_4 + 4))), (7, .int i58_7)], [.int (i58_4 + 6)], M)) rfl ?_
                  refine ml_st (S' := (71, [(0, .ref m0), (1, .int x1), (2, .int x2), (3, .int (f2 f x1)), (4, .int i58_4), (5, .int i24_5), (6, .int (f2 f (i24_4 + 4))), (7, .int i58_7)], [.int x2, .int (i58_4 + 6)], M)) rfl rfl rfl ?_
                  refine ml_if2 (S1 := (94, [], [], M)) (S2 := (74, [(0, .ref m0), (1, .int x1), (2, .int x2), (3, .int (f2 f x1)), (4, .int i58_4), (5, .int i24_5), (6, .int (f2 f (i24_4 + 4))), (7, .int i58_7)], [], M)) rfl rfl rfl (fun c_71 => ?_) (fun c_71 => ?_)
                  · have c_71 : x2 < (i58_4 + 6) := of_decide_eq_true c_71
                    refine ml_st (S' := (96, [], [.int 30], M)) rfl rfl rfl ?_
                    exact ml_ret rfl (rfl) (⟨_, _, _, rfl, hR, eqI.rf, eqR.rf, Or.inr ⟨by decide, rfl⟩⟩)
                  · have c_71 : ¬ (x2 < (i58_4 + 6)) := of_decide_eq_false c_71
                    have hr6 := i_nlt c_71
                    rw [i_add (by have : (6 : Int32).toInt = 6 := rfl; omega) (by have : (6 : Int32).toInt = 6 := rfl; omega)] at hr6
                    have er2 : (i58_4 + 2).toInt = i58_4.toInt + 2 := i_add (by have : (2 : Int32).toInt = 2 := rfl; omega) (by have : (2 : Int32).toInt = 2 := rfl; omega)
                    refine ml_blk 3 (S' := (78, [(0, .ref m0), (1, .int x1), (2, .int x2), (3, .int (f2 f x1)), (4, .int i58_4), (5, .int i24_5), (6, .int (f2 f (i24_4 + 4))), (7, .int i58_7)], [.int 2, .int i58_4, .ref m0], M)) rfl ?_
                    refine ml_st (S' := (79, [(0, .ref m0), (1, .int x1), (2, .int x2), (3, .int (f2 f x1)), (4, .int i58_4), (5, .int i24_5), (6, .int (f2 f (i24_4 + 4))), (7, .int i58_7)], [.int (i58_4 + 2), .ref m0], M)) rfl rfl rfl ?_
                    refine ml_call (a := [.ref m0, .int (i58_4 + 2)]) (rest := []) rfl (hR.okc rfl rfl rfl) rfl rfl (rm_u4 hR hF (by omega) (by omega) (by omega)) (fun v80 M81 h82 => ?_)
                    obtain ⟨rfl, h82⟩ := h82
                    rw [h82]
                    show ml _ _ _ (82, [(0, .ref m0), (1, .int x1), (2, .int x2), (3, .int (f2 f x1)), (4, .int i58_4), (5, .int i24_5), (6, .int (f2 f (i24_4 + 4))), (7, .int i58_7)], [.long (f4 f (i58_4 + 2))], M) _
                    refine ml_blk 3 (S' := (86, [(0, .ref m0), (1, .int x1), (2, .int x2), (3, .int (f2 f x1)), (4, .int i58_4), (5, .int i24_5), (6, .int (f2 f (i24_4 + 4))), (7, .int i58_7)], [.int (x2 - i58_4), .long (f4 f (i58_4 + 2))], M)) rfl ?_
                    refine ml_blk 3 (S' := (90, [(0, .ref m0), (1, .int x1), (2, .int x2), (3, .int (f2 f x1)), (4, .int i58_4), (5, .int i24_5), (6, .int (f2 f (i24_4 + 4))), (7, .int i58_7)], [.long (Int32.toInt64 ((x2 - i58_4) - 6)), .long (f4 f (i58_4 + 2))], M)) rfl ?_
                    refine ml_st (S' := (91, [(0, .ref m0), (1, .int x1), (2, .int x2), (3, .int (f2 f x1)), (4, .int i58_4), (5, .int i24_5), (6, .int (f2 f (i24_4 + 4))), (7, .int i58_7)], [.int (lg_cmp (f4 f (i58_4 + 2)) (Int32.toInt64 ((x2 - i58_4) - 6)))], M)) rfl rfl rfl ?_
                    refine ml_if (S1 := (97, [(0, .ref m0), (1, .int x1), (2, .int x2), (3, .int (f2 f x1)), (4, .int i58_4), (5, .int i24_5), (6, .int (f2 f (i24_4 + 4))), (7, .int i58_7)], [], M)) (S2 := (94, [], [], M)) rfl rfl rfl (fun c_91 => ?_) (fun c_91 => ?_)
                    · have c_91 : (lg_cmp (f4 f (i58_4 + 2)) (Int32.toInt64 ((x2 - i58_4) - 6))) ≤ 0 := of_decide_eq_true c_91
                      have hr7 := lc_le c_91
                      rw [l_of, i_sub (by rw [i_sub (by omega) (by omega)]; omega) (by rw [i_sub (by omega) (by omega)]; omega), i_sub (by omega) (by omega)] at hr7
                      have hra := ra_of (f := f) hn (by omega : 0 ≤ i58_4.toInt) (by omega)
                      refine ml_blk 3 (S' := (102, [(0, .ref m0), (1, .int x1), (2, .int x2), (3, .int (f2 f x1)), (4, .int i58_4), (5, .int i24_5), (6, .int (f2 f (i24_4 + 4))), (7, .int i58_7)], [.ref m0, .int 6, .int i58_4], M)) rfl ?_
                      refine ml_blk 3 (S' := (106, [(0, .ref m0), (1, .int x1), (2, .int x2), (3, .int (f2 f x1)), (4, .int i58_4), (5, .int i24_5), (6, .int (f2 f (i24_4 + 4))), (7, .int i58_7)], [.int (i58_4 + 2), .ref m0, .int 6, .int i58_4], M)) rfl ?_
                      refine ml_call (a := [.ref m0, .int (i58_4 + 2)]) (rest := [.int 6, .int i58_4]) rfl (hR.okc rfl rfl rfl) rfl rfl (rm_u4 hR hF (by omega) (by omega) (by omega)) (fun v83 M84 h85 => ?_)
                      obtain ⟨rfl, h85⟩ := h85
                      rw [h85]
                      show ml _ _ _ (109, [(0, .ref m0), (1, .int x1), (2, .int x2), (3, .int (f2 f x1)), (4, .int i58_4), (5, .int i24_5), (6, .int (f2 f (i24_4 + 4))), (7, .int i58_7)], [.long (f4 f (i58_4 + 2)), .int 6, .int i58_4], M) _
                      refine ml_blk 3 (S' := (112, [(0, .ref m0), (1, .int x1), (2, .int x2), (3, .int (f2 f x1)), (4, .int i58_4), (5, .int i24_5), (6, .int (f2 f (i24_4 + 4))), (7, .int i58_7)], [.int (i58_4 + (6 + (Int64.toInt32 (f4 f (i58_4 + 2)))))], M)) rfl ?_
                      refine ml_st (S' := (114, [(4, .int (i58_4 + (6 + (Int64.toInt32 (f4 f (i58_4 + 2)))))), (0, .ref m0), (1, .int x1), (2, .int x2), (3, .int (f2 f x1)), (5, .int i24_5), (6, .int (f2 f (i24_4 + 4))), (7, .int i58_7)], [], M)) rfl rfl rfl ?_
                      refine ml_st (S' := (117, [(7, .int (i58_7 + 1)), (4, .int (i58_4 + (6 + (Int64.toInt32 (f4 f (i58_4 + 2)))))), (0, .ref m0), (1, .int x1), (2, .int x2), (3, .int (f2 f x1)), (5, .int i24_5), (6, .int (f2 f (i24_4 + 4)))], [], M)) rfl rfl rfl ?_
                      refine ml_st (S' := (58, [(0, .ref m0), (1, .int x1), (2, .int x2), (3, .int (f2 f x1)), (4, .int (i58_4 + (6 + (Int64.toInt32 (f4 f (i58_4 + 2)))))), (5, .int i24_5), (6, .int (f2 f (i24_4 + 4))), (7, .int (i58_7 + 1))], [], M)) rfl rfl rfl ?_
                      exact ih_58 (i58_4 + (6 + (Int64.toInt32 (f4 f (i58_4 + 2))))) (i58_7 + 1) (loop_inc (Int32.not_le.mp c_62) hn_58) (⟨by rw [hra]; have := f4_pos (f := f) (x := i58_4 + 2); omega, by rw [hra]; omega, by rw [inc_lt (Int32.not_le.mp c_62)]; omega, by rw [inc_lt (Int32.not_le.mp c_62)]; have := i_nle c_62; omega, itr_inc hj0 c_62 hit5 ⟨by omega, by omega, by omega, hra⟩⟩)
                    · have c_91 : ¬ ((lg_cmp (f4 f (i58_4 + 2)) (Int32.toInt64 ((x2 - i58_4) - 6))) ≤ 0) := of_decide_eq_false c_91
                      refine ml_st (S' := (96, [], [.int 30], M)) rfl rfl rfl ?_
                      exact ml_ret rfl (rfl) (⟨_, _, _, rfl, hR, eqI.rf, eqR.rf, Or.inr ⟨by decide, rfl⟩⟩)
            exact L_58 _ (i24_4 + 6) 0 (Nat.le_refl _) (⟨by omega, by omega, by decide, by show (0 : Int) ≤ _; omega, rfl⟩)
          · have c_36 : ¬ ((i24_4 + 6) ≤ x2) := of_decide_eq_false c_36
            refine ml_st (S' := (41, [(0, .ref m0), (1, .int x1), (2, .int x2), (3, .int (f2 f x1)), (4, .int i24_4), (5, .int i24_5)], [.int 30], M)) rfl rfl rfl ?_
            exact ml_ret rfl (rfl) (⟨_, _, _, rfl, hR, eqI.rf, eqR.rf, Or.inr ⟨by decide, rfl⟩⟩)
    exact L_24 _ (x1 + 2) 0 (Nat.le_refl _) (⟨by omega, by omega, by decide, by show (0 : Int) ≤ _; omega, rfl⟩)
  · have c_4 : ¬ (2 ≤ (x2 - x1)) := of_decide_eq_false c_4
    refine ml_st (S' := (9, [(0, .ref m0), (1, .int x1), (2, .int x2)], [.int 30], M)) rfl rfl rfl ?_
    exact ml_ret rfl (rfl) (⟨_, _, _, rfl, hR, eqI.rf, eqR.rf, Or.inr ⟨by decide, rfl⟩⟩)
end
section
/-! the reference: attributes (laid by wip/p2/c69.py) -/
set_option maxHeartbeats 2000000 in
theorem rm_attr3 {g : xe_G}  {m0 : Nat} {q : Nat → Nat} {z : Nat × Nat} {I : rI} {R : rR} {M : mi_H} {x1 x2 x3 x4 x5 x6 : Int32}  (hR : RS g m0 q z I R M) (hw : x1 = 3) {d : Nat} (hd : 1 ≤ d) : mt (mT g) d 177 [.ref m0, .int x1, .int x2, .int x3, .int x4, .int x5, .int x6] M (fun v M' => v = some (.int 0) ∧ M' = M) := by
  obtain ⟨d, rfl⟩ : ∃ e, d = e + 1 := ⟨d - 1, by omega⟩
  refine mt_in (b := mb_177 g) rfl rfl ?_
  show ml (mT g) d (mb_177 g).2 (0, [(0, .ref m0), (1, .int x1), (2, .int x2), (3, .int x3), (4, .int x4), (5, .int x5), (6, .int x6)], [], M) _
  refine ml_st (S' := (1, [(0, .ref m0), (1, .int x1), (2, .int x2), (3, .int x3), (4, .int x4), (5, .int x5), (6, .int x6)], [.int x1], M)) rfl rfl rfl ?_
  refine ml_sw rfl (fun t_1 ht_1 => ?_)
  have kt_1 := ht_1
  have ht_1 : t_1 ∈ [56, 208, 219, 398, 400, 542, 550, 600] := mi_sw_sub ht_1 (by decide)
  simp only [List.mem_cons, List.not_mem_nil, or_false] at ht_1
  rcases ht_1 with rfl | rfl | rfl | rfl | rfl | rfl | rfl | rfl
  · show ml _ _ _ (56, [(0, .ref m0), (1, .int x1), (2, .int x2), (3, .int x3), (4, .int x4), (5, .int x5), (6, .int x6)], [], M) _
    exfalso
    rw [hw] at kt_1
    exact absurd kt_1 (by decide)
  · show ml _ _ _ (208, [(0, .ref m0), (1, .int x1), (2, .int x2), (3, .int x3), (4, .int x4), (5, .int x5), (6, .int x6)], [], M) _
    exfalso
    rw [hw] at kt_1
    exact absurd kt_1 (by decide)
  · show ml _ _ _ (219, [(0, .ref m0), (1, .int x1), (2, .int x2), (3, .int x3), (4, .int x4), (5, .int x5), (6, .int x6)], [], M) _
    exfalso
    rw [hw] at kt_1
    exact absurd kt_1 (by decide)
  · show ml _ _ _ (398, [(0, .ref m0), (1, .int x1), (2, .int x2), (3, .int x3), (4, .int x4), (5, .int x5), (6, .int x6)], [], M) _
    refine ml_st (S' := (399, [(0, .ref m0), (1, .int x1), (2, .int x2), (3, .int x3), (4, .int x4), (5, .int x5), (6, .int x6)], [.int 0], M)) rfl rfl rfl ?_
    exact ml_ret rfl (rfl) (⟨rfl, rfl⟩)
  · show ml _ _ _ (400, [(0, .ref m0), (1, .int x1), (2, .int x2), (3, .int x3), (4, .int x4), (5, .int x5), (6, .int x6)], [], M) _
    exfalso
    rw [hw] at kt_1
    exact absurd kt_1 (by decide)
  · show ml _ _ _ (542, [(0, .ref m0), (1, .int x1), (2, .int x2), (3, .int x3), (4, .int x4), (5, .int x5), (6, .int x6)], [], M) _
    exfalso
    rw [hw] at kt_1
    exact absurd kt_1 (by decide)
  · show ml _ _ _ (550, [(0, .ref m0), (1, .int x1), (2, .int x2), (3, .int x3), (4, .int x4), (5, .int x5), (6, .int x6)], [], M) _
    exfalso
    rw [hw] at kt_1
    exact absurd kt_1 (by decide)
  · show ml _ _ _ (600, [(0, .ref m0), (1, .int x1), (2, .int x2), (3, .int x3), (4, .int x4), (5, .int x5), (6, .int x6)], [], M) _
    exfalso
    rw [hw] at kt_1
    exact absurd kt_1 (by decide)
set_option maxHeartbeats 2000000 in
theorem rm_checkAttributes3 {g : xe_G}  {m0 : Nat} {q : Nat → Nat} {z : Nat × Nat} {I : rI} {R : rR} {M : mi_H} {x1 x2 x3 : Int32} {n : Nat} {f : Nat → Int32} {S cN : Nat} {sa sl ch : Nat → Int32} {cp mj : Int32} {pa py : Nat → Int32} {e : Int32}  (hR : RS g m0 q z I R M) (hF : FK n f I R) (hY : SK S cN sa sl ch I R) (hP : PK n f S cp mj pa py I R) (hK : KW I R) (hw : x2 = 3) (hat : AT f n x1 e) {d : Nat} (hd : 4 ≤ d) : mt (mT g) d 187 [.ref m0, .int x1, .int x2, .int x3] M (fun v M' => ∃ (x : Int32) (I' : rI) (R' : rR), v = some (.int x) ∧ RS g m0 q z I' R' M' ∧ eqI [47, 48] I I' ∧ eqR [] R R' ∧ (x.toInt < 0 ∨ x = e)) := by
  obtain ⟨d, rfl⟩ : ∃ e, d = e + 1 := ⟨d - 1, by omega⟩
  refine mt_in (b := mb_187 g) rfl rfl ?_
  show ml (mT g) d (mb_187 g).2 (0, [(0, .ref m0), (1, .int x1), (2, .int x2), (3, .int x3)], [], M) _
  have hn := hF.1
  refine ml_blk 2 (S' := (2, [(0, .ref m0), (1, .int x1), (2, .int x2), (3, .int x3)], [.int x1, .ref m0], M)) rfl ?_
  refine ml_call (a := [.ref m0, .int x1]) (rest := []) rfl (hR.okc rfl rfl rfl) rfl rfl (rm_u2 hR hF (hat.1) (hat.2.1) (by omega)) (fun v11 M12 h13 => ?_)
  obtain ⟨rfl, h13⟩ := h13
  rw [h13]
  show ml _ _ _ (5, [(0, .ref m0), (1, .int x1), (2, .int x2), (3, .int x3)], [.int (f2 f x1)], M) _
  refine ml_st (S' := (7, [(4, .int (f2 f x1)), (0, .ref m0), (1, .int x1), (2, .int x2), (3, .int x3)], [], M)) rfl rfl rfl ?_
  refine ml_blk 3 (S' := (10, [(4, .int (f2 f x1)), (0, .ref m0), (1, .int x1), (2, .int x2), (3, .int x3)], [.int (x1 + 2)], M)) rfl ?_
  refine ml_st (S' := (12, [(5, .int (x1 + 2)), (4, .int (f2 f x1)), (0, .ref m0), (1, .int x1), (2, .int x2), (3, .int x3)], [], M)) rfl rfl rfl ?_
  refine ml_st (S' := (13, [(5, .int (x1 + 2)), (4, .int (f2 f x1)), (0, .ref m0), (1, .int x1), (2, .int x2), (3, .int x3)], [.int 0], M)) rfl rfl rfl ?_
  refine ml_st (S' := (15, [(6, .int 0), (5, .int (x1 + 2)), (4, .int (f2 f x1)), (0, .ref m0), (1, .int x1), (2, .int x2), (3, .int x3)], [], M)) rfl rfl rfl ?_
  refine ml_st (S' := (16, [(6, .int 0), (5, .int (x1 + 2)), (4, .int (f2 f x1)), (0, .ref m0), (1, .int x1), (2, .int x2), (3, .int x3)], [.int 0], M)) rfl rfl rfl ?_
  refine ml_st (S' := (18, [(0, .ref m0), (2, .int x2), (3, .int x3), (4, .int (f2 f x1)), (5, .int (x1 + 2)), (6, .int 0), (7, .int 0)], [], M)) rfl rfl rfl ?_
  have L_18 : ∀ (n_18 : Nat) (i18_5 : Int32) (i18_6 : Int32) (i18_7 : Int32) (M_18 : mi_H) (I_18 : rI) (R_18 : rR), (2147483648 - i18_7.toInt).toNat ≤ n_18 → RS g m0 q z I_18 R_18 M_18 → eqI [47, 48] I I_18 → eqR [] R R_18 → (0 ≤ i18_7.toInt ∧ i18_7.toInt ≤ (f2 f x1).toInt ∧ itr (RA1 f n) ((f2 f x1).toInt - i18_7.toInt).toNat i18_5 e) → ml (mT g) d (mb_187 g).2 (18, [(0, .ref m0), (2, .int x2), (3, .int x3), (4, .int (f2 f x1)), (5, .int i18_5), (6, .int i18_6), (7, .int i18_7)], [], M_18) (fun v M' => ∃ (x : Int32) (I' : rI) (R' : rR), v = some (.int x) ∧ RS g m0 q z I' R' M' ∧ eqI [47, 48] I I' ∧ eqR [] R R' ∧ (x.toInt < 0 ∨ x = e)) := by
    intro n_18
    induction n_18 with
    | zero => intro i18_5 i18_6 i18_7 M_18 I_18 R_18 hn; exact (loop_zero hn).elim
    | succ n_18 ih_18 =>
      intro i18_5 i18_6 i18_7 M_18 I_18 R_18 hn_18 hR_18 hI_18 hV_18 hi_18
      obtain ⟨hk0, hk1, hit⟩ := hi_18
      refine ml_blk 2 (S' := (22, [(0, .ref m0), (2, .int x2), (3, .int x3), (4, .int (f2 f x1)), (5, .int i18_5), (6, .int i18_6), (7, .int i18_7)], [.int (f2 f x1), .int i18_7], M_18)) rfl ?_
      refine ml_if2 (S1 := (284, [(0, .ref m0), (2, .int x2), (3, .int x3), (4, .int (f2 f x1)), (5, .int i18_5), (6, .int i18_6), (7, .int i18_7)], [], M_18)) (S2 := (25, [(0, .ref m0), (2, .int x2), (3, .int x3), (4, .int (f2 f x1)), (5, .int i18_5), (6, .int i18_6), (7, .int i18_7)], [], M_18)) rfl rfl rfl (fun c_22 => ?_) (fun c_22 => ?_)
      · have c_22 : (f2 f x1) ≤ i18_7 := of_decide_eq_true c_22
        refine ml_st (S' := (286, [(0, .ref m0), (2, .int x2), (3, .int x3), (4, .int (f2 f x1)), (5, .int i18_5), (6, .int i18_6), (7, .int i18_7)], [.int i18_5], M_18)) rfl rfl rfl ?_
        exact ml_ret rfl (rfl) (⟨_, _, _, rfl, hR_18, (eqI.rf.tr hI_18 (by decide)), (eqR.rf.tr hV_18 (by decide)), Or.inr (itr_one hit (by have := i_le c_22; omega)).symm⟩)
      · have c_22 : ¬ ((f2 f x1) ≤ i18_7) := of_decide_eq_false c_22
        obtain ⟨b1, hb1, hnx⟩ := itr_next hit c_22
        have hb2 := hb1
        obtain ⟨g0, g1, g2, g3⟩ := hb2
        have ep2 : (i18_5 + 2).toInt = i18_5.toInt + 2 := i_add (by have : (2 : Int32).toInt = 2 := rfl; omega) (by have : (2 : Int32).toInt = 2 := rfl; omega)
        have ep6 : (i18_5 + 6).toInt = i18_5.toInt + 6 := i_add (by have : (6 : Int32).toInt = 6 := rfl; omega) (by have : (6 : Int32).toInt = 6 := rfl; omega)
        have hra := ra_of (f := f) hn g0 g2
        have hl0 := f4_pos (f := f) (x := i18_5 + 2)
        have hle : (i18_5 + 6 + Int64.toInt32 (f4 f (i18_5 + 2))).toInt = i18_5.toInt + 6 + (f4 f (i18_5 + 2)).toInt := by have di : (Int64.toInt32 (f4 f (i18_5 + 2))).toInt = (f4 f (i18_5 + 2)).toInt := i_of (by omega) (by omega); rw [i_add (by omega) (by omega), di, ep6]
        refine ml_blk 3 (S' := (29, [(0, .ref m0), (2, .int x2), (3, .int x3), (4, .int (f2 f x1)), (5, .int i18_5), (6, .int i18_6), (7, .int i18_7)], [.int 2, .int i18_5, .ref m0], M_18)) rfl ?_
        refine ml_st (S' := (30, [(0, .ref m0), (2, .int x2), (3, .int x3), (4, .int (f2 f x1)), (5, .int i18_5), (6, .int i18_6), (7, .int i18_7)], [.int (i18_5 + 2), .ref m0], M_18)) rfl rfl rfl ?_
        have hF14 : FK n f I_18 R_18 := (hF.mono (cIx hI_18 (by decide)) (cRx hV_18 (by decide)))
        refine ml_call (a := [.ref m0, .int (i18_5 + 2)]) (rest := []) rfl (hR_18.okc rfl rfl rfl) rfl rfl (rm_u4 hR_18 hF14 (by omega) (by omega) (by omega)) (fun v15 M16 h17 => ?_)
        obtain ⟨rfl, h17⟩ := h17
        rw [h17]
        show ml _ _ _ (33, [(0, .ref m0), (2, .int x2), (3, .int x3), (4, .int (f2 f x1)), (5, .int i18_5), (6, .int i18_6), (7, .int i18_7)], [.long (f4 f (i18_5 + 2))], M_18) _
        refine ml_st (S' := (34, [(0, .ref m0), (2, .int x2), (3, .int x3), (4, .int (f2 f x1)), (5, .int i18_5), (6, .int i18_6), (7, .int i18_7)], [.int (Int64.toInt32 (f4 f (i18_5 + 2)))], M_18)) rfl rfl rfl ?_
        refine ml_st (S' := (36, [(8, .int (Int64.toInt32 (f4 f (i18_5 + 2)))), (0, .ref m0), (2, .int x2), (3, .int x3), (4, .int (f2 f x1)), (5, .int i18_5), (6, .int i18_6), (7, .int i18_7)], [], M_18)) rfl rfl rfl ?_
        refine ml_blk 3 (S' := (40, [(8, .int (Int64.toInt32 (f4 f (i18_5 + 2)))), (0, .ref m0), (2, .int x2), (3, .int x3), (4, .int (f2 f x1)), (5, .int i18_5), (6, .int i18_6), (7, .int i18_7)], [.int i18_5, .ref m0, .ref m0], M_18)) rfl ?_
        refine ml_call (a := [.ref m0, .int i18_5]) (rest := [.ref m0]) rfl (hR_18.okc rfl rfl rfl) rfl rfl (rm_u2 hR_18 hF14 (g0) (by omega) (by omega)) (fun v18 M19 h20 => ?_)
        obtain ⟨rfl, h20⟩ := h20
        rw [h20]
        show ml _ _ _ (43, [(8, .int (Int64.toInt32 (f4 f (i18_5 + 2)))), (0, .ref m0), (2, .int x2), (3, .int x3), (4, .int (f2 f x1)), (5, .int i18_5), (6, .int i18_6), (7, .int i18_7)], [.int (f2 f i18_5), .ref m0], M_18) _
        have hP21 : PK n f S cp mj pa py I_18 R_18 := (hP.mono (cIx hI_18 (by decide)) (cRx hV_18 (by decide)))
        refine ml_call (a := [.ref m0, .int (f2 f i18_5)]) (rest := []) rfl (hR_18.okc rfl rfl rfl) rfl rfl (rm_tag hR_18 hF14 hP21 (by omega)) (fun v22 M23 h24 => ?_)
        obtain ⟨rfl, h24⟩ := h24
        rw [h24]
        show ml _ _ _ (46, [(8, .int (Int64.toInt32 (f4 f (i18_5 + 2)))), (0, .ref m0), (2, .int x2), (3, .int x3), (4, .int (f2 f x1)), (5, .int i18_5), (6, .int i18_6), (7, .int i18_7)], [.int (tgf f cp pa (f2 f i18_5))], M_18) _
        refine ml_st (S' := (47, [(8, .int (Int64.toInt32 (f4 f (i18_5 + 2)))), (0, .ref m0), (2, .int x2), (3, .int x3), (4, .int (f2 f x1)), (5, .int i18_5), (6, .int i18_6), (7, .int i18_7)], [.int 1, .int (tgf f cp pa (f2 f i18_5))], M_18)) rfl rfl rfl ?_
        refine ml_if2 (S1 := (61, [(8, .int (Int64.toInt32 (f4 f (i18_5 + 2)))), (0, .ref m0), (2, .int x2), (3, .int x3), (4, .int (f2 f x1)), (5, .int i18_5), (6, .int i18_6), (7, .int i18_7)], [], M_18)) (S2 := (50, [(8, .int (Int64.toInt32 (f4 f (i18_5 + 2)))), (0, .ref m0), (2, .int x2), (3, .int x3), (4, .int (f2 f x1)), (5, .int i18_5), (6, .int i18_6), (7, .int i18_7)], [], M_18)) rfl rfl rfl (fun c_47 => ?_) (fun c_47 => ?_)
        · have c_47 : (tgf f cp pa (f2 f i18_5)) = 1 := of_decide_eq_true c_47
          refine ml_blk 3 (S' := (65, [(8, .int (Int64.toInt32 (f4 f (i18_5 + 2)))), (0, .ref m0), (2, .int x2), (3, .int x3), (4, .int (f2 f x1)), (5, .int i18_5), (6, .int i18_6), (7, .int i18_7)], [.int i18_5, .ref m0, .ref m0], M_18)) rfl ?_
          refine ml_call (a := [.ref m0, .int i18_5]) (rest := [.ref m0]) rfl (hR_18.okc rfl rfl rfl) rfl rfl (rm_u2 hR_18 hF14 (g0) (by omega) (by omega)) (fun v25 M26 h27 => ?_)
          obtain ⟨rfl, h27⟩ := h27
          rw [h27]
          show ml _ _ _ (68, [(8, .int (Int64.toInt32 (f4 f (i18_5 + 2)))), (0, .ref m0), (2, .int x2), (3, .int x3), (4, .int (f2 f x1)), (5, .int i18_5), (6, .int i18_6), (7, .int i18_7)], [.int (f2 f i18_5), .ref m0], M_18) _
          refine ml_call (a := [.ref m0, .int (f2 f i18_5)]) (rest := []) rfl (hR_18.okc rfl rfl rfl) rfl rfl (rm_symOf hR_18 hP21 (c_47) (by omega)) (fun v28 M29 h30 => ?_)
          obtain ⟨rfl, h30⟩ := h30
          rw [h30]
          show ml _ _ _ (71, [(8, .int (Int64.toInt32 (f4 f (i18_5 + 2)))), (0, .ref m0), (2, .int x2), (3, .int x3), (4, .int (f2 f x1)), (5, .int i18_5), (6, .int i18_6), (7, .int i18_7)], [.int (pyf py (f2 f i18_5))], M_18) _
          refine ml_st (S' := (73, [(9, .int (pyf py (f2 f i18_5))), (8, .int (Int64.toInt32 (f4 f (i18_5 + 2)))), (0, .ref m0), (2, .int x2), (3, .int x3), (4, .int (f2 f x1)), (5, .int i18_5), (6, .int i18_6), (7, .int i18_7)], [], M_18)) rfl rfl rfl ?_
          have hy9 := hP.y (show tgf f cp pa (f2 f i18_5) = 1 from c_47)
          refine ml_st (S' := (74, [(9, .int (pyf py (f2 f i18_5))), (8, .int (Int64.toInt32 (f4 f (i18_5 + 2)))), (0, .ref m0), (2, .int x2), (3, .int x3), (4, .int (f2 f x1)), (5, .int i18_5), (6, .int i18_6), (7, .int i18_7)], [.int (-1)], M_18)) rfl rfl rfl ?_
          refine ml_st (S' := (76, [(10, .int (-1)), (9, .int (pyf py (f2 f i18_5))), (8, .int (Int64.toInt32 (f4 f (i18_5 + 2)))), (0, .ref m0), (2, .int x2), (3, .int x3), (4, .int (f2 f x1)), (5, .int i18_5), (6, .int i18_6), (7, .int i18_7)], [], M_18)) rfl rfl rfl ?_
          refine ml_st (S' := (77, [(10, .int (-1)), (9, .int (pyf py (f2 f i18_5))), (8, .int (Int64.toInt32 (f4 f (i18_5 + 2)))), (0, .ref m0), (2, .int x2), (3, .int x3), (4, .int (f2 f x1)), (5, .int i18_5), (6, .int i18_6), (7, .int i18_7)], [.int 0], M_18)) rfl rfl rfl ?_
          refine ml_st (S' := (79, [(0, .ref m0), (2, .int x2), (3, .int x3), (4, .int (f2 f x1)), (5, .int i18_5), (6, .int i18_6), (7, .int i18_7), (8, .int (Int64.toInt32 (f4 f (i18_5 + 2)))), (9, .int (pyf py (f2 f i18_5))), (10, .int (-1)), (11, .int 0)], [], M_18)) rfl rfl rfl ?_
          have L_79 : ∀ (n_79 : Nat) (i79_10 : Int32) (i79_11 : Int32), (2147483648 - i79_11.toInt).toNat ≤ n_79 → (0 ≤ i79_11.toInt ∧ (i79_10 < 0 ∨ (0 ≤ i79_10.toInt ∧ i79_10.toInt < 10 ∧ kin i79_10 = x2))) → ml (mT g) d (mb_187 g).2 (79, [(0, .ref m0), (2, .int x2), (3, .int x3), (4, .int (f2 f x1)), (5, .int i18_5), (6, .int i18_6), (7, .int i18_7), (8, .int (Int64.toInt32 (f4 f (i18_5 + 2)))), (9, .int (pyf py (f2 f i18_5))), (10, .int i79_10), (11, .int i79_11)], [], M_18) (fun v M' => ∃ (x : Int32) (I' : rI) (R' : rR), v = some (.int x) ∧ RS g m0 q z I' R' M' ∧ eqI [47, 48] I I' ∧ eqR [] R R' ∧ (x.toInt < 0 ∨ x = e)) := by
            intro n_79
            induction n_79 with
            | zero => intro i79_10 i79_11 hn; exact (loop_zero hn).elim
            | succ n_79 ih_79 =>
              intro i79_10 i79_11 hn_79 hi_79
              obtain ⟨hj0, hjw⟩ := hi_79
              refine ml_blk 2 (S' := (82, [(0, .ref m0), (2, .int x2), (3, .int x3), (4, .int (f2 f x1)), (5, .int i18_5), (6, .int i18_6), (7, .int i18_7), (8, .int (Int64.toInt32 (f4 f (i18_5 + 2)))), (9, .int (pyf py (f2 f i18_5))), (10, .int i79_10), (11, .int i79_11)], [.ref m0, .int i79_11], M_18)) rfl ?_
              refine rg_ref (S' := (85, [(0, .ref m0), (2, .int x2), (3, .int x3), (4, .int (f2 f x1)), (5, .int i18_5), (6, .int i18_6), (7, .int i18_7), (8, .int (Int64.toInt32 (f4 f (i18_5 + 2)))), (9, .int (pyf py (f2 f i18_5))), (10, .int i79_10), (11, .int i79_11)], [.ref (q 62), .int i79_11], M_18)) rfl hR_18 rfl rfl ?_
              refine rl_kn (S' := (86, [(0, .ref m0), (2, .int x2), (3, .int x3), (4, .int (f2 f x1)), (5, .int i18_5), (6, .int i18_6), (7, .int i18_7), (8, .int (Int64.toInt32 (f4 f (i18_5 + 2)))), (9, .int (pyf py (f2 f i18_5))), (10, .int i79_10), (11, .int i79_11)], [.int (nI 10), .int i79_11], M_18)) rfl hR_18 rfl ?_
              refine ml_if2 (S1 := (140, [(0, .ref m0), (2, .int x2), (3, .int x3), (4, .int (f2 f x1)), (5, .int i18_5), (6, .int i18_6), (7, .int i18_7), (8, .int (Int64.toInt32 (f4 f (i18_5 + 2)))), (9, .int (pyf py (f2 f i18_5))), (10, .int i79_10), (11, .int i79_11)], [], M_18)) (S2 := (89, [(0, .ref m0), (2, .int x2), (3, .int x3), (4, .int (f2 f x1)), (5, .int i18_5), (6, .int i18_6), (7, .int i18_7), (8, .int (Int64.toInt32 (f4 f (i18_5 + 2)))), (9, .int (pyf py (f2 f i18_5))), (10, .int i79_10), (11, .int i79_11)], [], M_18)) rfl rfl rfl (fun c_86 => ?_) (fun c_86 => ?_)
              · have c_86 : (nI 10) ≤ i79_11 := of_decide_eq_true c_86
                refine ml_st (S' := (142, [(0, .ref m0), (2, .int x2), (3, .int x3), (4, .int (f2 f x1)), (5, .int i18_5), (6, .int i18_6), (7, .int i18_7), (8, .int (Int64.toInt32 (f4 f (i18_5 + 2)))), (9, .int (pyf py (f2 f i18_5))), (10, .int i79_10), (11, .int i79_11)], [.int i79_10], M_18)) rfl rfl rfl ?_
                refine ml_if (S1 := (268, [(0, .ref m0), (2, .int x2), (3, .int x3), (4, .int (f2 f x1)), (5, .int i18_5), (6, .int i18_6), (7, .int i18_7), (8, .int (Int64.toInt32 (f4 f (i18_5 + 2))))], [], M_18)) (S2 := (145, [(0, .ref m0), (2, .int x2), (3, .int x3), (4, .int (f2 f x1)), (5, .int i18_5), (6, .int i18_6), (7, .int i18_7), (8, .int (Int64.toInt32 (f4 f (i18_5 + 2)))), (9, .int (pyf py (f2 f i18_5))), (10, .int i79_10), (11, .int i79_11)], [], M_18)) rfl rfl rfl (fun c_142 => ?_) (fun c_142 => ?_)
                · have c_142 : i79_10 < 0 := of_decide_eq_true c_142
                  refine ml_blk 3 (S' := (274, [(0, .ref m0), (2, .int x2), (3, .int x3), (4, .int (f2 f x1)), (5, .int i18_5), (6, .int i18_6), (7, .int i18_7), (8, .int (Int64.toInt32 (f4 f (i18_5 + 2))))], [.int (Int64.toInt32 (f4 f (i18_5 + 2))), .int 6, .int i18_5], M_18)) rfl ?_
                  refine ml_blk 2 (S' := (276, [(0, .ref m0), (2, .int x2), (3, .int x3), (4, .int (f2 f x1)), (5, .int i18_5), (6, .int i18_6), (7, .int i18_7), (8, .int (Int64.toInt32 (f4 f (i18_5 + 2))))], [.int (i18_5 + (6 + (Int64.toInt32 (f4 f (i18_5 + 2)))))], M_18)) rfl ?_
                  refine ml_st (S' := (278, [(5, .int (i18_5 + (6 + (Int64.toInt32 (f4 f (i18_5 + 2)))))), (0, .ref m0), (2, .int x2), (3, .int x3), (4, .int (f2 f x1)), (6, .int i18_6), (7, .int i18_7), (8, .int (Int64.toInt32 (f4 f (i18_5 + 2))))], [], M_18)) rfl rfl rfl ?_
                  refine ml_st (S' := (281, [(7, .int (i18_7 + 1)), (5, .int (i18_5 + (6 + (Int64.toInt32 (f4 f (i18_5 + 2)))))), (0, .ref m0), (2, .int x2), (3, .int x3), (4, .int (f2 f x1)), (6, .int i18_6), (8, .int (Int64.toInt32 (f4 f (i18_5 + 2))))], [], M_18)) rfl rfl rfl ?_
                  refine ml_st (S' := (18, [(0, .ref m0), (2, .int x2), (3, .int x3), (4, .int (f2 f x1)), (5, .int (i18_5 + (6 + (Int64.toInt32 (f4 f (i18_5 + 2)))))), (6, .int i18_6), (7, .int (i18_7 + 1))], [], M_18)) rfl rfl rfl ?_
                  exact ih_18 (i18_5 + (6 + (Int64.toInt32 (f4 f (i18_5 + 2))))) i18_6 (i18_7 + 1) _ _ _ (loop_inc (Int32.not_le.mp c_22) hn_18) hR_18 (eqI.rf.tr hI_18 (by decide)) (eqR.rf.tr hV_18 (by decide)) (⟨by rw [inc_lt (Int32.not_le.mp c_22)]; omega, by rw [inc_lt (Int32.not_le.mp c_22)]; have := i_nle c_22; omega, hb1.eq hra ▸ hnx⟩)
                · have c_142 : ¬ (i79_10 < 0) := of_decide_eq_false c_142
                  have hwn := hjw.resolve_left c_142
                  refine ml_blk 2 (S' := (147, [(0, .ref m0), (2, .int x2), (3, .int x3), (4, .int (f2 f x1)), (5, .int i18_5), (6, .int i18_6), (7, .int i18_7), (8, .int (Int64.toInt32 (f4 f (i18_5 + 2)))), (9, .int (pyf py (f2 f i18_5))), (10, .int i79_10), (11, .int i79_11)], [.int 1, .int x2], M_18)) rfl ?_
                  refine ml_if2 (S1 := (160, [(0, .ref m0), (2, .int x2), (3, .int x3), (4, .int (f2 f x1)), (5, .int i18_5), (6, .int i18_6), (7, .int i18_7), (8, .int (Int64.toInt32 (f4 f (i18_5 + 2)))), (10, .int i79_10)], [], M_18)) (S2 := (150, [(0, .ref m0), (2, .int x2), (3, .int x3), (4, .int (f2 f x1)), (5, .int i18_5), (6, .int i18_6), (7, .int i18_7), (8, .int (Int64.toInt32 (f4 f (i18_5 + 2)))), (9, .int (pyf py (f2 f i18_5))), (10, .int i79_10), (11, .int i79_11)], [], M_18)) rfl rfl rfl (fun c_147 => ?_) (fun c_147 => ?_)
                  rotate_left
                  · exact absurd ((by rw [hw]; decide : ¬ x2 = 1)) (of_decide_eq_false c_147)
                  refine ml_blk 2 (S' := (162, [(0, .ref m0), (2, .int x2), (3, .int x3), (4, .int (f2 f x1)), (5, .int i18_5), (6, .int i18_6), (7, .int i18_7), (8, .int (Int64.toInt32 (f4 f (i18_5 + 2)))), (10, .int i79_10)], [.int 2, .int x2], M_18)) rfl ?_
                  refine ml_if2 (S1 := (175, [(0, .ref m0), (2, .int x2), (3, .int x3), (4, .int (f2 f x1)), (5, .int i18_5), (6, .int i18_6), (7, .int i18_7), (8, .int (Int64.toInt32 (f4 f (i18_5 + 2)))), (10, .int i79_10)], [], M_18)) (S2 := (165, [(0, .ref m0), (2, .int x2), (3, .int x3), (4, .int (f2 f x1)), (5, .int i18_5), (6, .int i18_6), (7, .int i18_7), (8, .int (Int64.toInt32 (f4 f (i18_5 + 2)))), (10, .int i79_10)], [], M_18)) rfl rfl rfl (fun c_162 => ?_) (fun c_162 => ?_)
                  rotate_left
                  · exact absurd ((by rw [hw]; decide : ¬ x2 = 2)) (of_decide_eq_false c_162)
                  refine ml_blk 2 (S' := (177, [(0, .ref m0), (2, .int x2), (3, .int x3), (4, .int (f2 f x1)), (5, .int i18_5), (6, .int i18_6), (7, .int i18_7), (8, .int (Int64.toInt32 (f4 f (i18_5 + 2)))), (10, .int i79_10)], [.int 4, .int x2], M_18)) rfl ?_
                  refine ml_if2 (S1 := (190, [(0, .ref m0), (2, .int x2), (3, .int x3), (4, .int (f2 f x1)), (5, .int i18_5), (6, .int i18_6), (7, .int i18_7), (8, .int (Int64.toInt32 (f4 f (i18_5 + 2)))), (10, .int i79_10)], [], M_18)) (S2 := (180, [(0, .ref m0), (2, .int x2), (3, .int x3), (4, .int (f2 f x1)), (5, .int i18_5), (6, .int i18_6), (7, .int i18_7), (8, .int (Int64.toInt32 (f4 f (i18_5 + 2)))), (10, .int i79_10)], [], M_18)) rfl rfl rfl (fun c_177 => ?_) (fun c_177 => ?_)
                  rotate_left
                  · exact absurd ((by rw [hw]; decide : ¬ x2 = 4)) (of_decide_eq_false c_177)
                  refine ml_blk 3 (S' := (195, [(0, .ref m0), (2, .int x2), (3, .int x3), (4, .int (f2 f x1)), (5, .int i18_5), (6, .int i18_6), (7, .int i18_7), (8, .int (Int64.toInt32 (f4 f (i18_5 + 2)))), (10, .int i79_10)], [.int (i18_6 >>> (i79_10 &&& 31))], M_18)) rfl ?_
                  refine ml_blk 3 (S' := (198, [(0, .ref m0), (2, .int x2), (3, .int x3), (4, .int (f2 f x1)), (5, .int i18_5), (6, .int i18_6), (7, .int i18_7), (8, .int (Int64.toInt32 (f4 f (i18_5 + 2)))), (10, .int i79_10)], [.int 1, .int ((i18_6 >>> (i79_10 &&& 31)) &&& 1)], M_18)) rfl ?_
                  refine ml_if2 (S1 := (212, [(0, .ref m0), (2, .int x2), (3, .int x3), (4, .int (f2 f x1)), (5, .int i18_5), (6, .int i18_6), (7, .int i18_7), (8, .int (Int64.toInt32 (f4 f (i18_5 + 2)))), (10, .int i79_10)], [], M_18)) (S2 := (201, [(0, .ref m0), (2, .int x2), (3, .int x3), (4, .int (f2 f x1)), (5, .int i18_5), (6, .int i18_6), (7, .int i18_7), (8, .int (Int64.toInt32 (f4 f (i18_5 + 2)))), (10, .int i79_10)], [], M_18)) rfl rfl rfl (fun c_198 => ?_) (fun c_198 => ?_)
                  · have c_198 : ¬ ((i18_6 >>> (i79_10 &&& 31)) &&& 1) = 1 := of_decide_eq_true c_198
                    refine ml_blk 3 (S' := (217, [(0, .ref m0), (2, .int x2), (3, .int x3), (4, .int (f2 f x1)), (5, .int i18_5), (6, .int i18_6), (7, .int i18_7), (8, .int (Int64.toInt32 (f4 f (i18_5 + 2)))), (10, .int i79_10)], [.int i18_5, .int i79_10, .ref m0], M_18)) rfl ?_
                    refine ml_blk 3 (S' := (222, [(0, .ref m0), (2, .int x2), (3, .int x3), (4, .int (f2 f x1)), (5, .int i18_5), (6, .int i18_6), (7, .int i18_7), (8, .int (Int64.toInt32 (f4 f (i18_5 + 2)))), (10, .int i79_10)], [.int (i18_5 + 6), .int i18_5, .int i79_10, .ref m0], M_18)) rfl ?_
                    refine ml_blk 3 (S' := (227, [(0, .ref m0), (2, .int x2), (3, .int x3), (4, .int (f2 f x1)), (5, .int i18_5), (6, .int i18_6), (7, .int i18_7), (8, .int (Int64.toInt32 (f4 f (i18_5 + 2)))), (10, .int i79_10)], [.int (i18_5 + 6), .int (i18_5 + 6), .int i18_5, .int i79_10, .ref m0], M_18)) rfl ?_
                    refine ml_blk 3 (S' := (231, [(0, .ref m0), (2, .int x2), (3, .int x3), (4, .int (f2 f x1)), (5, .int i18_5), (6, .int i18_6), (7, .int i18_7), (8, .int (Int64.toInt32 (f4 f (i18_5 + 2)))), (10, .int i79_10)], [.int x3, .int ((i18_5 + 6) + (Int64.toInt32 (f4 f (i18_5 + 2)))), .int (i18_5 + 6), .int i18_5, .int i79_10, .ref m0], M_18)) rfl ?_
                    refine ml_st (S' := (233, [(0, .ref m0), (2, .int x2), (3, .int x3), (4, .int (f2 f x1)), (5, .int i18_5), (6, .int i18_6), (7, .int i18_7), (8, .int (Int64.toInt32 (f4 f (i18_5 + 2)))), (10, .int i79_10)], [.int i18_6, .int x3, .int ((i18_5 + 6) + (Int64.toInt32 (f4 f (i18_5 + 2)))), .int (i18_5 + 6), .int i18_5, .int i79_10, .ref m0], M_18)) rfl rfl rfl ?_
                    refine ml_call (a := [.ref m0, .int i79_10, .int i18_5, .int (i18_5 + 6), .int ((i18_5 + 6) + (Int64.toInt32 (f4 f (i18_5 + 2)))), .int x3, .int i18_6]) (rest := []) rfl (hR_18.okc rfl rfl rfl) rfl rfl (rm_attr3 hR_18 (kin_3 (hwn.2.2.trans hw)) (by omega)) (fun v31 M32 h33 => ?_)
                    obtain ⟨rfl, h33⟩ := h33
                    rw [h33]
                    show ml _ _ _ (236, [(0, .ref m0), (2, .int x2), (3, .int x3), (4, .int (f2 f x1)), (5, .int i18_5), (6, .int i18_6), (7, .int i18_7), (8, .int (Int64.toInt32 (f4 f (i18_5 + 2)))), (10, .int i79_10)], [.int 0], M_18) _
                    refine ml_st (S' := (238, [(11, .int 0), (0, .ref m0), (2, .int x2), (3, .int x3), (4, .int (f2 f x1)), (5, .int i18_5), (6, .int i18_6), (7, .int i18_7), (8, .int (Int64.toInt32 (f4 f (i18_5 + 2)))), (10, .int i79_10)], [], M_18)) rfl rfl rfl ?_
                    refine ml_blk 3 (S' := (243, [(11, .int 0), (0, .ref m0), (2, .int x2), (3, .int x3), (4, .int (f2 f x1)), (5, .int i18_5), (6, .int i18_6), (7, .int i18_7), (8, .int (Int64.toInt32 (f4 f (i18_5 + 2)))), (10, .int i79_10)], [.int i79_10, .int 1, .int i18_6], M_18)) rfl ?_
                    refine ml_blk 2 (S' := (245, [(11, .int 0), (0, .ref m0), (2, .int x2), (3, .int x3), (4, .int (f2 f x1)), (5, .int i18_5), (6, .int i18_6), (7, .int i18_7), (8, .int (Int64.toInt32 (f4 f (i18_5 + 2)))), (10, .int i79_10)], [.int (i18_6 ||| (1 <<< (i79_10 &&& 31)))], M_18)) rfl ?_
                    refine ml_st (S' := (247, [(6, .int (i18_6 ||| (1 <<< (i79_10 &&& 31)))), (11, .int 0), (0, .ref m0), (2, .int x2), (3, .int x3), (4, .int (f2 f x1)), (5, .int i18_5), (7, .int i18_7), (8, .int (Int64.toInt32 (f4 f (i18_5 + 2)))), (10, .int i79_10)], [], M_18)) rfl rfl rfl ?_
                    refine ml_st (S' := (249, [(6, .int (i18_6 ||| (1 <<< (i79_10 &&& 31)))), (11, .int 0), (0, .ref m0), (2, .int x2), (3, .int x3), (4, .int (f2 f x1)), (5, .int i18_5), (7, .int i18_7), (8, .int (Int64.toInt32 (f4 f (i18_5 + 2)))), (10, .int i79_10)], [.int 0], M_18)) rfl rfl rfl ?_
                    refine ml_if (S1 := (261, [(0, .ref m0), (2, .int x2), (3, .int x3), (4, .int (f2 f x1)), (5, .int i18_5), (6, .int (i18_6 ||| (1 <<< (i79_10 &&& 31)))), (7, .int i18_7), (8, .int (Int64.toInt32 (f4 f (i18_5 + 2)))), (11, .int 0)], [], M_18)) (S2 := (252, [(6, .int (i18_6 ||| (1 <<< (i79_10 &&& 31)))), (11, .int 0), (0, .ref m0), (2, .int x2), (3, .int x3), (4, .int (f2 f x1)), (5, .int i18_5), (7, .int i18_7), (8, .int (Int64.toInt32 (f4 f (i18_5 + 2)))), (10, .int i79_10)], [], M_18)) rfl rfl rfl (fun c_249 => ?_) (fun c_249 => ?_)
                    · have c_249 : 0 ≤ 0 := of_decide_eq_true c_249
                      refine ml_st (S' := (263, [(0, .ref m0), (2, .int x2), (3, .int x3), (4, .int (f2 f x1)), (5, .int i18_5), (6, .int (i18_6 ||| (1 <<< (i79_10 &&& 31)))), (7, .int i18_7), (8, .int (Int64.toInt32 (f4 f (i18_5 + 2)))), (11, .int 0)], [.int 0], M_18)) rfl rfl rfl ?_
                      refine ml_if (S1 := (268, [(0, .ref m0), (2, .int x2), (3, .int x3), (4, .int (f2 f x1)), (5, .int i18_5), (6, .int (i18_6 ||| (1 <<< (i79_10 &&& 31)))), (7, .int i18_7), (8, .int (Int64.toInt32 (f4 f (i18_5 + 2))))], [], M_18)) (S2 := (266, [(0, .ref m0), (2, .int x2), (3, .int x3), (4, .int (f2 f x1)), (5, .int i18_5), (6, .int (i18_6 ||| (1 <<< (i79_10 &&& 31)))), (7, .int i18_7), (8, .int (Int64.toInt32 (f4 f (i18_5 + 2)))), (11, .int 0)], [], M_18)) rfl rfl rfl (fun c_263 => ?_) (fun c_263 => ?_)
                      · have c_263 : 0 = 0 := of_decide_eq_true c_263
                        refine ml_blk 3 (S' := (274, [(0, .ref m0), (2, .int x2), (3, .int x3), (4, .int (f2 f x1)), (5, .int i18_5), (6, .int (i18_6 ||| (1 <<< (i79_10 &&& 31)))), (7, .int i18_7), (8, .int (Int64.toInt32 (f4 f (i18_5 + 2))))], [.int (Int64.toInt32 (f4 f (i18_5 + 2))), .int 6, .int i18_5], M_18)) rfl ?_
                        refine ml_blk 2 (S' := (276, [(0, .ref m0), (2, .int x2), (3, .int x3), (4, .int (f2 f x1)), (5, .int i18_5), (6, .int (i18_6 ||| (1 <<< (i79_10 &&& 31)))), (7, .int i18_7), (8, .int (Int64.toInt32 (f4 f (i18_5 + 2))))], [.int (i18_5 + (6 + (Int64.toInt32 (f4 f (i18_5 + 2)))))], M_18)) rfl ?_
                        refine ml_st (S' := (278, [(5, .int (i18_5 + (6 + (Int64.toInt32 (f4 f (i18_5 + 2)))))), (0, .ref m0), (2, .int x2), (3, .int x3), (4, .int (f2 f x1)), (6, .int (i18_6 ||| (1 <<< (i79_10 &&& 31)))), (7, .int i18_7), (8, .int (Int64.toInt32 (f4 f (i18_5 + 2))))], [], M_18)) rfl rfl rfl ?_
                        refine ml_st (S' := (281, [(7, .int (i18_7 + 1)), (5, .int (i18_5 + (6 + (Int64.toInt32 (f4 f (i18_5 + 2)))))), (0, .ref m0), (2, .int x2), (3, .int x3), (4, .int (f2 f x1)), (6, .int (i18_6 ||| (1 <<< (i79_10 &&& 31)))), (8, .int (Int64.toInt32 (f4 f (i18_5 + 2))))], [], M_18)) rfl rfl rfl ?_
                        refine ml_st (S' := (18, [(0, .ref m0), (2, .int x2), (3, .int x3), (4, .int (f2 f x1)), (5, .int (i18_5 + (6 + (Int64.toInt32 (f4 f (i18_5 + 2)))))), (6, .int (i18_6 ||| (1 <<< (i79_10 &&& 31)))), (7, .int (i18_7 + 1))], [], M_18)) rfl rfl rfl ?_
                        exact ih_18 (i18_5 + (6 + (Int64.toInt32 (f4 f (i18_5 + 2))))) (i18_6 ||| (1 <<< (i79_10 &&& 31))) (i18_7 + 1) _ _ _ (loop_inc (Int32.not_le.mp c_22) hn_18) hR_18 (eqI.rf.tr hI_18 (by decide)) (eqR.rf.tr hV_18 (by decide)) (⟨by rw [inc_lt (Int32.not_le.mp c_22)]; omega, by rw [inc_lt (Int32.not_le.mp c_22)]; have := i_nle c_22; omega, hb1.eq hra ▸ hnx⟩)
                      · have c_263 : ¬ (0 = 0) := of_decide_eq_false c_263
                        refine ml_st (S' := (267, [(0, .ref m0), (2, .int x2), (3, .int x3), (4, .int (f2 f x1)), (5, .int i18_5), (6, .int (i18_6 ||| (1 <<< (i79_10 &&& 31)))), (7, .int i18_7), (8, .int (Int64.toInt32 (f4 f (i18_5 + 2)))), (11, .int 0)], [.int (-1)], M_18)) rfl rfl rfl ?_
                        exact ml_ret rfl (rfl) (⟨_, _, _, rfl, hR_18, (eqI.rf.tr hI_18 (by decide)), (eqR.rf.tr hV_18 (by decide)), Or.inl (by decide)⟩)
                    · have c_249 : ¬ (0 ≤ 0) := of_decide_eq_false c_249
                      refine ml_blk 3 (S' := (257, [(6, .int (i18_6 ||| (1 <<< (i79_10 &&& 31)))), (11, .int 0), (0, .ref m0), (2, .int x2), (3, .int x3), (4, .int (f2 f x1)), (5, .int i18_5), (7, .int i18_7), (8, .int (Int64.toInt32 (f4 f (i18_5 + 2)))), (10, .int i79_10)], [.int i18_5, .int 0, .ref m0], M_18)) rfl ?_
                      refine ml_call (a := [.ref m0, .int 0, .int i18_5]) (rest := []) rfl (hR_18.okc rfl rfl rfl) rfl rfl (rm_wrong hR_18 (by omega)) (fun v34 M35 h36 => ?_)
                      obtain ⟨u42, I37, R38, rfl, hR39, hI40, hV41, z43, w44⟩ := h36
                      show ml _ _ _ (260, [(6, .int (i18_6 ||| (1 <<< (i79_10 &&& 31)))), (11, .int 0), (0, .ref m0), (2, .int x2), (3, .int x3), (4, .int (f2 f x1)), (5, .int i18_5), (7, .int i18_7), (8, .int (Int64.toInt32 (f4 f (i18_5 + 2)))), (10, .int i79_10)], [.int u42], M35) _
                      refine ml_st (S' := (261, [(0, .ref m0), (2, .int x2), (3, .int x3), (4, .int (f2 f x1)), (5, .int i18_5), (6, .int (i18_6 ||| (1 <<< (i79_10 &&& 31)))), (7, .int i18_7), (8, .int (Int64.toInt32 (f4 f (i18_5 + 2)))), (11, .int 0)], [], M35)) rfl rfl rfl ?_
                      refine ml_st (S' := (263, [(0, .ref m0), (2, .int x2), (3, .int x3), (4, .int (f2 f x1)), (5, .int i18_5), (6, .int (i18_6 ||| (1 <<< (i79_10 &&& 31)))), (7, .int i18_7), (8, .int (Int64.toInt32 (f4 f (i18_5 + 2)))), (11, .int 0)], [.int 0], M35)) rfl rfl rfl ?_
                      refine ml_if (S1 := (268, [(0, .ref m0), (2, .int x2), (3, .int x3), (4, .int (f2 f x1)), (5, .int i18_5), (6, .int (i18_6 ||| (1 <<< (i79_10 &&& 31)))), (7, .int i18_7), (8, .int (Int64.toInt32 (f4 f (i18_5 + 2))))], [], M35)) (S2 := (266, [(0, .ref m0), (2, .int x2), (3, .int x3), (4, .int (f2 f x1)), (5, .int i18_5), (6, .int (i18_6 ||| (1 <<< (i79_10 &&& 31)))), (7, .int i18_7), (8, .int (Int64.toInt32 (f4 f (i18_5 + 2)))), (11, .int 0)], [], M35)) rfl rfl rfl (fun c_263 => ?_) (fun c_263 => ?_)
                      · have c_263 : 0 = 0 := of_decide_eq_true c_263
                        refine ml_blk 3 (S' := (274, [(0, .ref m0), (2, .int x2), (3, .int x3), (4, .int (f2 f x1)), (5, .int i18_5), (6, .int (i18_6 ||| (1 <<< (i79_10 &&& 31)))), (7, .int i18_7), (8, .int (Int64.toInt32 (f4 f (i18_5 + 2))))], [.int (Int64.toInt32 (f4 f (i18_5 + 2))), .int 6, .int i18_5], M35)) rfl ?_
                        refine ml_blk 2 (S' := (276, [(0, .ref m0), (2, .int x2), (3, .int x3), (4, .int (f2 f x1)), (5, .int i18_5), (6, .int (i18_6 ||| (1 <<< (i79_10 &&& 31)))), (7, .int i18_7), (8, .int (Int64.toInt32 (f4 f (i18_5 + 2))))], [.int (i18_5 + (6 + (Int64.toInt32 (f4 f (i18_5 + 2)))))], M35)) rfl ?_
                        refine ml_st (S' := (278, [(5, .int (i18_5 + (6 + (Int64.toInt32 (f4 f (i18_5 + 2)))))), (0, .ref m0), (2, .int x2), (3, .int x3), (4, .int (f2 f x1)), (6, .int (i18_6 ||| (1 <<< (i79_10 &&& 31)))), (7, .int i18_7), (8, .int (Int64.toInt32 (f4 f (i18_5 + 2))))], [], M35)) rfl rfl rfl ?_
                        refine ml_st (S' := (281, [(7, .int (i18_7 + 1)), (5, .int (i18_5 + (6 + (Int64.toInt32 (f4 f (i18_5 + 2)))))), (0, .ref m0), (2, .int x2), (3, .int x3), (4, .int (f2 f x1)), (6, .int (i18_6 ||| (1 <<< (i79_10 &&& 31)))), (8, .int (Int64.toInt32 (f4 f (i18_5 + 2))))], [], M35)) rfl rfl rfl ?_
                        refine ml_st (S' := (18, [(0, .ref m0), (2, .int x2), (3, .int x3), (4, .int (f2 f x1)), (5, .int (i18_5 + (6 + (Int64.toInt32 (f4 f (i18_5 + 2)))))), (6, .int (i18_6 ||| (1 <<< (i79_10 &&& 31)))), (7, .int (i18_7 + 1))], [], M35)) rfl rfl rfl ?_
                        exact ih_18 (i18_5 + (6 + (Int64.toInt32 (f4 f (i18_5 + 2))))) (i18_6 ||| (1 <<< (i79_10 &&& 31))) (i18_7 + 1) _ _ _ (loop_inc (Int32.not_le.mp c_22) hn_18) hR39 ((eqI.rf.tr hI_18 (by decide)).tr hI40 (by decide)) ((eqR.rf.tr hV_18 (by decide)).tr hV41 (by decide)) (⟨by rw [inc_lt (Int32.not_le.mp c_22)]; omega, by rw [inc_lt (Int32.not_le.mp c_22)]; have := i_nle c_22; omega, hb1.eq hra ▸ hnx⟩)
                      · have c_263 : ¬ (0 = 0) := of_decide_eq_false c_263
                        refine ml_st (S' := (267, [(0, .ref m0), (2, .int x2), (3, .int x3), (4, .int (f2 f x1)), (5, .int i18_5), (6, .int (i18_6 ||| (1 <<< (i79_10 &&& 31)))), (7, .int i18_7), (8, .int (Int64.toInt32 (f4 f (i18_5 + 2)))), (11, .int 0)], [.int (-1)], M35)) rfl rfl rfl ?_
                        exact ml_ret rfl (rfl) (⟨_, _, _, rfl, hR39, ((eqI.rf.tr hI_18 (by decide)).tr hI40 (by decide)), ((eqR.rf.tr hV_18 (by decide)).tr hV41 (by decide)), Or.inl (by decide)⟩)
                  · have c_198 : ¬ (¬ ((i18_6 >>> (i79_10 &&& 31)) &&& 1) = 1) := of_decide_eq_false c_198
                    refine ml_blk 3 (S' := (206, [(0, .ref m0), (2, .int x2), (3, .int x3), (4, .int (f2 f x1)), (5, .int i18_5), (6, .int i18_6), (7, .int i18_7), (8, .int (Int64.toInt32 (f4 f (i18_5 + 2)))), (10, .int i79_10)], [.int i18_5, .int 29, .ref m0], M_18)) rfl ?_
                    refine ml_call (a := [.ref m0, .int 29, .int i18_5]) (rest := []) rfl (hR_18.okc rfl rfl rfl) rfl rfl (rm_wrong hR_18 (by omega)) (fun v45 M46 h47 => ?_)
                    obtain ⟨u53, I48, R49, rfl, hR50, hI51, hV52, z54, w55⟩ := h47
                    show ml _ _ _ (209, [(0, .ref m0), (2, .int x2), (3, .int x3), (4, .int (f2 f x1)), (5, .int i18_5), (6, .int i18_6), (7, .int i18_7), (8, .int (Int64.toInt32 (f4 f (i18_5 + 2)))), (10, .int i79_10)], [.int u53], M46) _
                    refine ml_blk 2 (S' := (211, [(0, .ref m0), (2, .int x2), (3, .int x3), (4, .int (f2 f x1)), (5, .int i18_5), (6, .int i18_6), (7, .int i18_7), (8, .int (Int64.toInt32 (f4 f (i18_5 + 2)))), (10, .int i79_10)], [.int (-1)], M46)) rfl ?_
                    exact ml_ret rfl (rfl) (⟨_, _, _, rfl, hR50, ((eqI.rf.tr hI_18 (by decide)).tr hI51 (by decide)), ((eqR.rf.tr hV_18 (by decide)).tr hV52 (by decide)), Or.inl (by decide)⟩)
              · have c_86 : ¬ ((nI 10) ≤ i79_11) := of_decide_eq_false c_86
                have hjl : i79_11.toInt < 10 := by have q := i_nle c_86; rw [nI_val (by decide)] at q; omega
                refine ml_st (S' := (90, [(0, .ref m0), (2, .int x2), (3, .int x3), (4, .int (f2 f x1)), (5, .int i18_5), (6, .int i18_6), (7, .int i18_7), (8, .int (Int64.toInt32 (f4 f (i18_5 + 2)))), (9, .int (pyf py (f2 f i18_5))), (10, .int i79_10), (11, .int i79_11)], [.ref m0], M_18)) rfl rfl rfl ?_
                refine rg_ref (S' := (93, [(0, .ref m0), (2, .int x2), (3, .int x3), (4, .int (f2 f x1)), (5, .int i18_5), (6, .int i18_6), (7, .int i18_7), (8, .int (Int64.toInt32 (f4 f (i18_5 + 2)))), (9, .int (pyf py (f2 f i18_5))), (10, .int i79_10), (11, .int i79_11)], [.ref (q 63)], M_18)) rfl hR_18 rfl rfl ?_
                refine ml_st (S' := (95, [(0, .ref m0), (2, .int x2), (3, .int x3), (4, .int (f2 f x1)), (5, .int i18_5), (6, .int i18_6), (7, .int i18_7), (8, .int (Int64.toInt32 (f4 f (i18_5 + 2)))), (9, .int (pyf py (f2 f i18_5))), (10, .int i79_10), (11, .int i79_11)], [.int i79_11, .ref (q 63)], M_18)) rfl rfl rfl ?_
                have hK56 : KW I_18 R_18 := (hK.mono (cIx hI_18 (by decide)) (cRx hV_18 (by decide)))
                refine ra_ld (k := 63) (S' := (96, [(0, .ref m0), (2, .int x2), (3, .int x3), (4, .int (f2 f x1)), (5, .int i18_5), (6, .int i18_6), (7, .int i18_7), (8, .int (Int64.toInt32 (f4 f (i18_5 + 2)))), (9, .int (pyf py (f2 f i18_5))), (10, .int i79_10), (11, .int i79_11)], [.int (kin i79_11)], M_18)) rfl hR_18 rfl (vin_lt hj0 (by omega)) (hK56.1 i79_11 hj0 hjl) rfl ?_
                refine ml_st (S' := (97, [(0, .ref m0), (2, .int x2), (3, .int x3), (4, .int (f2 f x1)), (5, .int i18_5), (6, .int i18_6), (7, .int i18_7), (8, .int (Int64.toInt32 (f4 f (i18_5 + 2)))), (9, .int (pyf py (f2 f i18_5))), (10, .int i79_10), (11, .int i79_11)], [.int x2, .int (kin i79_11)], M_18)) rfl rfl rfl ?_
                refine ml_if2 (S1 := (134, [(0, .ref m0), (2, .int x2), (3, .int x3), (4, .int (f2 f x1)), (5, .int i18_5), (6, .int i18_6), (7, .int i18_7), (8, .int (Int64.toInt32 (f4 f (i18_5 + 2)))), (9, .int (pyf py (f2 f i18_5))), (10, .int i79_10), (11, .int i79_11)], [], M_18)) (S2 := (100, [(0, .ref m0), (2, .int x2), (3, .int x3), (4, .int (f2 f x1)), (5, .int i18_5), (6, .int i18_6), (7, .int i18_7), (8, .int (Int64.toInt32 (f4 f (i18_5 + 2)))), (9, .int (pyf py (f2 f i18_5))), (10, .int i79_10), (11, .int i79_11)], [], M_18)) rfl rfl rfl (fun c_97 => ?_) (fun c_97 => ?_)
                · have c_97 : ¬ (kin i79_11) = x2 := of_decide_eq_true c_97
                  refine ml_st (S' := (137, [(11, .int (i79_11 + 1)), (0, .ref m0), (2, .int x2), (3, .int x3), (4, .int (f2 f x1)), (5, .int i18_5), (6, .int i18_6), (7, .int i18_7), (8, .int (Int64.toInt32 (f4 f (i18_5 + 2)))), (9, .int (pyf py (f2 f i18_5))), (10, .int i79_10)], [], M_18)) rfl rfl rfl ?_
                  refine ml_st (S' := (79, [(0, .ref m0), (2, .int x2), (3, .int x3), (4, .int (f2 f x1)), (5, .int i18_5), (6, .int i18_6), (7, .int i18_7), (8, .int (Int64.toInt32 (f4 f (i18_5 + 2)))), (9, .int (pyf py (f2 f i18_5))), (10, .int i79_10), (11, .int (i79_11 + 1))], [], M_18)) rfl rfl rfl ?_
                  exact ih_79 i79_10 (i79_11 + 1) (loop_inc (Int32.not_le.mp c_86) hn_79) (⟨by rw [inc_lt (Int32.not_le.mp c_86)]; omega, hjw⟩)
                · have c_97 : ¬ (¬ (kin i79_11) = x2) := of_decide_eq_false c_97
                  refine ml_st (S' := (101, [(0, .ref m0), (2, .int x2), (3, .int x3), (4, .int (f2 f x1)), (5, .int i18_5), (6, .int i18_6), (7, .int i18_7), (8, .int (Int64.toInt32 (f4 f (i18_5 + 2)))), (9, .int (pyf py (f2 f i18_5))), (10, .int i79_10), (11, .int i79_11)], [.ref m0], M_18)) rfl rfl rfl ?_
                  refine rg_int (S' := (104, [(0, .ref m0), (2, .int x2), (3, .int x3), (4, .int (f2 f x1)), (5, .int i18_5), (6, .int i18_6), (7, .int i18_7), (8, .int (Int64.toInt32 (f4 f (i18_5 + 2)))), (9, .int (pyf py (f2 f i18_5))), (10, .int i79_10), (11, .int i79_11)], [.int mj], M_18)) rfl hR_18 rfl ((hI_18 53 (by decide)).trans (hP.2.2.1)) rfl ?_
                  refine ml_st (S' := (105, [(0, .ref m0), (2, .int x2), (3, .int x3), (4, .int (f2 f x1)), (5, .int i18_5), (6, .int i18_6), (7, .int i18_7), (8, .int (Int64.toInt32 (f4 f (i18_5 + 2)))), (9, .int (pyf py (f2 f i18_5))), (10, .int i79_10), (11, .int i79_11)], [.ref m0, .int mj], M_18)) rfl rfl rfl ?_
                  refine rg_ref (S' := (108, [(0, .ref m0), (2, .int x2), (3, .int x3), (4, .int (f2 f x1)), (5, .int i18_5), (6, .int i18_6), (7, .int i18_7), (8, .int (Int64.toInt32 (f4 f (i18_5 + 2)))), (9, .int (pyf py (f2 f i18_5))), (10, .int i79_10), (11, .int i79_11)], [.ref (q 64), .int mj], M_18)) rfl hR_18 rfl rfl ?_
                  refine ml_st (S' := (110, [(0, .ref m0), (2, .int x2), (3, .int x3), (4, .int (f2 f x1)), (5, .int i18_5), (6, .int i18_6), (7, .int i18_7), (8, .int (Int64.toInt32 (f4 f (i18_5 + 2)))), (9, .int (pyf py (f2 f i18_5))), (10, .int i79_10), (11, .int i79_11)], [.int i79_11, .ref (q 64), .int mj], M_18)) rfl rfl rfl ?_
                  obtain ⟨v110, hv110⟩ := hK56.2 i79_11 hj0 hjl
                  refine ra_ld (k := 64) (S' := (111, [(0, .ref m0), (2, .int x2), (3, .int x3), (4, .int (f2 f x1)), (5, .int i18_5), (6, .int i18_6), (7, .int i18_7), (8, .int (Int64.toInt32 (f4 f (i18_5 + 2)))), (9, .int (pyf py (f2 f i18_5))), (10, .int i79_10), (11, .int i79_11)], [.int v110, .int mj], M_18)) rfl hR_18 rfl (vin_lt hj0 (by omega)) (hv110) rfl ?_
                  refine ml_if2 (S1 := (134, [(0, .ref m0), (2, .int x2), (3, .int x3), (4, .int (f2 f x1)), (5, .int i18_5), (6, .int i18_6), (7, .int i18_7), (8, .int (Int64.toInt32 (f4 f (i18_5 + 2)))), (9, .int (pyf py (f2 f i18_5))), (10, .int i79_10), (11, .int i79_11)], [], M_18)) (S2 := (114, [(0, .ref m0), (2, .int x2), (3, .int x3), (4, .int (f2 f x1)), (5, .int i18_5), (6, .int i18_6), (7, .int i18_7), (8, .int (Int64.toInt32 (f4 f (i18_5 + 2)))), (9, .int (pyf py (f2 f i18_5))), (10, .int i79_10), (11, .int i79_11)], [], M_18)) rfl rfl rfl (fun c_111 => ?_) (fun c_111 => ?_)
                  · have c_111 : mj < v110 := of_decide_eq_true c_111
                    refine ml_st (S' := (137, [(11, .int (i79_11 + 1)), (0, .ref m0), (2, .int x2), (3, .int x3), (4, .int (f2 f x1)), (5, .int i18_5), (6, .int i18_6), (7, .int i18_7), (8, .int (Int64.toInt32 (f4 f (i18_5 + 2)))), (9, .int (pyf py (f2 f i18_5))), (10, .int i79_10)], [], M_18)) rfl rfl rfl ?_
                    refine ml_st (S' := (79, [(0, .ref m0), (2, .int x2), (3, .int x3), (4, .int (f2 f x1)), (5, .int i18_5), (6, .int i18_6), (7, .int i18_7), (8, .int (Int64.toInt32 (f4 f (i18_5 + 2)))), (9, .int (pyf py (f2 f i18_5))), (10, .int i79_10), (11, .int (i79_11 + 1))], [], M_18)) rfl rfl rfl ?_
                    exact ih_79 i79_10 (i79_11 + 1) (loop_inc (Int32.not_le.mp c_86) hn_79) (⟨by rw [inc_lt (Int32.not_le.mp c_86)]; omega, hjw⟩)
                  · have c_111 : ¬ (mj < v110) := of_decide_eq_false c_111
                    refine ml_blk 3 (S' := (118, [(0, .ref m0), (2, .int x2), (3, .int x3), (4, .int (f2 f x1)), (5, .int i18_5), (6, .int i18_6), (7, .int i18_7), (8, .int (Int64.toInt32 (f4 f (i18_5 + 2)))), (9, .int (pyf py (f2 f i18_5))), (10, .int i79_10), (11, .int i79_11)], [.ref m0, .int (pyf py (f2 f i18_5)), .ref m0], M_18)) rfl ?_
                    refine rg_ref (S' := (121, [(0, .ref m0), (2, .int x2), (3, .int x3), (4, .int (f2 f x1)), (5, .int i18_5), (6, .int i18_6), (7, .int i18_7), (8, .int (Int64.toInt32 (f4 f (i18_5 + 2)))), (9, .int (pyf py (f2 f i18_5))), (10, .int i79_10), (11, .int i79_11)], [.ref (q 62), .int (pyf py (f2 f i18_5)), .ref m0], M_18)) rfl hR_18 rfl rfl ?_
                    refine ml_st (S' := (123, [(0, .ref m0), (2, .int x2), (3, .int x3), (4, .int (f2 f x1)), (5, .int i18_5), (6, .int i18_6), (7, .int i18_7), (8, .int (Int64.toInt32 (f4 f (i18_5 + 2)))), (9, .int (pyf py (f2 f i18_5))), (10, .int i79_10), (11, .int i79_11)], [.int i79_11, .ref (q 62), .int (pyf py (f2 f i18_5)), .ref m0], M_18)) rfl rfl rfl ?_
                    refine ra_kn (S' := (124, [(0, .ref m0), (2, .int x2), (3, .int x3), (4, .int (f2 f x1)), (5, .int i18_5), (6, .int i18_6), (7, .int i18_7), (8, .int (Int64.toInt32 (f4 f (i18_5 + 2)))), (9, .int (pyf py (f2 f i18_5))), (10, .int i79_10), (11, .int i79_11)], [.ref (g.2.1 (15 + Int32.toNatClampNeg i79_11)), .int (pyf py (f2 f i18_5)), .ref m0], M_18)) rfl hR_18 hj0 hjl rfl ?_
                    have hY57 : SK S cN sa sl ch I_18 R_18 := (hY.mono (cIx hI_18 (by decide)) (cRx hV_18 (by decide)))
                    refine ml_call (a := [.ref m0, .int (pyf py (f2 f i18_5)), .ref (g.2.1 (15 + Int32.toNatClampNeg i79_11))]) (rest := []) rfl (hR_18.okc rfl rfl rfl) rfl rfl (rm_is hR_18 hY57 (hy9.2.2.1) (hy9.2.2.2) (by show 15 ≤ 15 + i79_11.toInt.toNat ∧ 15 + i79_11.toInt.toNat < 30; omega) (by omega)) (fun v58 M59 h60 => ?_)
                    obtain ⟨⟨u61, rfl, z62⟩, h60⟩ := h60
                    rw [h60]
                    show ml _ _ _ (127, [(0, .ref m0), (2, .int x2), (3, .int x3), (4, .int (f2 f x1)), (5, .int i18_5), (6, .int i18_6), (7, .int i18_7), (8, .int (Int64.toInt32 (f4 f (i18_5 + 2)))), (9, .int (pyf py (f2 f i18_5))), (10, .int i79_10), (11, .int i79_11)], [.int u61], M_18) _
                    refine ml_if (S1 := (134, [(0, .ref m0), (2, .int x2), (3, .int x3), (4, .int (f2 f x1)), (5, .int i18_5), (6, .int i18_6), (7, .int i18_7), (8, .int (Int64.toInt32 (f4 f (i18_5 + 2)))), (9, .int (pyf py (f2 f i18_5))), (10, .int i79_10), (11, .int i79_11)], [], M_18)) (S2 := (130, [(0, .ref m0), (2, .int x2), (3, .int x3), (4, .int (f2 f x1)), (5, .int i18_5), (6, .int i18_6), (7, .int i18_7), (8, .int (Int64.toInt32 (f4 f (i18_5 + 2)))), (9, .int (pyf py (f2 f i18_5))), (10, .int i79_10), (11, .int i79_11)], [], M_18)) rfl rfl rfl (fun c_127 => ?_) (fun c_127 => ?_)
                    · have c_127 : u61 = 0 := of_decide_eq_true c_127
                      refine ml_st (S' := (137, [(11, .int (i79_11 + 1)), (0, .ref m0), (2, .int x2), (3, .int x3), (4, .int (f2 f x1)), (5, .int i18_5), (6, .int i18_6), (7, .int i18_7), (8, .int (Int64.toInt32 (f4 f (i18_5 + 2)))), (9, .int (pyf py (f2 f i18_5))), (10, .int i79_10)], [], M_18)) rfl rfl rfl ?_
                      refine ml_st (S' := (79, [(0, .ref m0), (2, .int x2), (3, .int x3), (4, .int (f2 f x1)), (5, .int i18_5), (6, .int i18_6), (7, .int i18_7), (8, .int (Int64.toInt32 (f4 f (i18_5 + 2)))), (9, .int (pyf py (f2 f i18_5))), (10, .int i79_10), (11, .int (i79_11 + 1))], [], M_18)) rfl rfl rfl ?_
                      exact ih_79 i79_10 (i79_11 + 1) (loop_inc (Int32.not_le.mp c_86) hn_79) (⟨by rw [inc_lt (Int32.not_le.mp c_86)]; omega, hjw⟩)
                    · have c_127 : ¬ (u61 = 0) := of_decide_eq_false c_127
                      refine ml_st (S' := (132, [(0, .ref m0), (2, .int x2), (3, .int x3), (4, .int (f2 f x1)), (5, .int i18_5), (6, .int i18_6), (7, .int i18_7), (8, .int (Int64.toInt32 (f4 f (i18_5 + 2)))), (9, .int (pyf py (f2 f i18_5))), (10, .int i79_10), (11, .int i79_11)], [.int i79_11], M_18)) rfl rfl rfl ?_
                      refine ml_st (S' := (134, [(0, .ref m0), (2, .int x2), (3, .int x3), (4, .int (f2 f x1)), (5, .int i18_5), (6, .int i18_6), (7, .int i18_7), (8, .int (Int64.toInt32 (f4 f (i18_5 + 2)))), (9, .int (pyf py (f2 f i18_5))), (10, .int i79_11), (11, .int i79_11)], [], M_18)) rfl rfl rfl ?_
                      refine ml_st (S' := (137, [(11, .int (i79_11 + 1)), (0, .ref m0), (2, .int x2), (3, .int x3), (4, .int (f2 f x1)), (5, .int i18_5), (6, .int i18_6), (7, .int i18_7), (8, .int (Int64.toInt32 (f4 f (i18_5 + 2)))), (9, .int (pyf py (f2 f i18_5))), (10, .int i79_11)], [], M_18)) rfl rfl rfl ?_
                      refine ml_st (S' := (79, [(0, .ref m0), (2, .int x2), (3, .int x3), (4, .int (f2 f x1)), (5, .int i18_5), (6, .int i18_6), (7, .int i18_7), (8, .int (Int64.toInt32 (f4 f (i18_5 + 2)))), (9, .int (pyf py (f2 f i18_5))), (10, .int i79_11), (11, .int (i79_11 + 1))], [], M_18)) rfl rfl rfl ?_
                      exact ih_79 i79_11 (i79_11 + 1) (loop_inc (Int32.not_le.mp c_86) hn_79) (⟨by rw [inc_lt (Int32.not_le.mp c_86)]; omega, Or.inr ⟨hj0, hjl, Decidable.not_not.mp c_97⟩⟩)
          exact L_79 _ (-1) 0 (Nat.le_refl _) (⟨by decide, Or.inl (by decide)⟩)
        · have c_47 : ¬ ((tgf f cp pa (f2 f i18_5)) = 1) := of_decide_eq_false c_47
          refine ml_blk 3 (S' := (55, [(8, .int (Int64.toInt32 (f4 f (i18_5 + 2)))), (0, .ref m0), (2, .int x2), (3, .int x3), (4, .int (f2 f x1)), (5, .int i18_5), (6, .int i18_6), (7, .int i18_7)], [.int i18_5, .int 28, .ref m0], M_18)) rfl ?_
          refine ml_call (a := [.ref m0, .int 28, .int i18_5]) (rest := []) rfl (hR_18.okc rfl rfl rfl) rfl rfl (rm_wrong hR_18 (by omega)) (fun v63 M64 h65 => ?_)
          obtain ⟨u71, I66, R67, rfl, hR68, hI69, hV70, z72, w73⟩ := h65
          show ml _ _ _ (58, [(8, .int (Int64.toInt32 (f4 f (i18_5 + 2)))), (0, .ref m0), (2, .int x2), (3, .int x3), (4, .int (f2 f x1)), (5, .int i18_5), (6, .int i18_6), (7, .int i18_7)], [.int u71], M64) _
          refine ml_blk 2 (S' := (60, [(8, .int (Int64.toInt32 (f4 f (i18_5 + 2)))), (0, .ref m0), (2, .int x2), (3, .int x3), (4, .int (f2 f x1)), (5, .int i18_5), (6, .int i18_6), (7, .int i18_7)], [.int (-1)], M64)) rfl ?_
          exact ml_ret rfl (rfl) (⟨_, _, _, rfl, hR68, ((eqI.rf.tr hI_18 (by decide)).tr hI69 (by decide)), ((eqR.rf.tr hV_18 (by decide)).tr hV70 (by decide)), Or.inl (by decide)⟩)
  exact L_18 _ (x1 + 2) 0 0 _ _ _ (Nat.le_refl _) hR eqI.rf eqR.rf (⟨by decide, by show (0 : Int) ≤ _; exact f2_pos, by rw [show ((f2 f x1).toInt - (0 : Int32).toInt).toNat = (f2 f x1).toInt.toNat by have : (0 : Int32).toInt = 0 := rfl; omega]; exact hat.2.2.1⟩)
end
section
theorem code_of {f : Nat → Int32} {n : Nat} {p e : Int32} (hn : n ≤ 65540) (h0 : 0 ≤ p.toInt) (h1 : p.toInt + 8 + (f4 f (p + 4)).toInt ≤ n) : (Int64.toInt32 (f4 f (p + 4))).toInt = (f4 f (p + 4)).toInt ∧ (p + 8 + Int64.toInt32 (f4 f (p + 4))).toInt = p.toInt + 8 + (f4 f (p + 4)).toInt := by
  have hp := f4_pos (f := f) (x := p + 4)
  have e8 : (8 : Int32).toInt = 8 := rfl
  have di : (Int64.toInt32 (f4 f (p + 4))).toInt = (f4 f (p + 4)).toInt := i_of (by omega) (by omega)
  have d8 : (p + 8).toInt = p.toInt + 8 := by rw [i_add (by omega) (by omega), e8]
  exact ⟨di, by rw [i_add (by omega) (by omega), di, d8]⟩

set_option maxHeartbeats 2000000 in
theorem rm_code {g : xe_G}  {m0 : Nat} {q : Nat → Nat} {z : Nat × Nat} {I : rI} {R : rR} {M : mi_H} {x1 x2 x3 x4 : Int32} {n : Nat} {f : Nat → Int32} {S cN : Nat} {sa sl ch : Nat → Int32} {cp mj : Int32} {pa py : Nat → Int32} {fl ds : Int32}  (hR : RS g m0 q z I R M) (hF : FK n f I R) (hY : SK S cN sa sl ch I R) (hP : PK n f S cp mj pa py I R) (hK : KW I R) (h0 : 0 ≤ x2.toInt) (h1 : x2.toInt ≤ x3.toInt) (h2 : x3.toInt ≤ n) (ho0 : 0 ≤ x4.toInt) (ho1 : x4.toInt < 8300) (hfl : R 34 x4.toNatClampNeg = some fl) (hds : R 36 x4.toNatClampNeg = some ds) (hd0 : 0 ≤ ds.toInt) (hd1 : ds.toInt < S) (hmt : MTX sa sl ch ds) (hmc : MCD f n x4.toNatClampNeg R) (hkn : kn [38, 39, 40, 42, 43, 44] x4.toNatClampNeg R) {d : Nat} (hd : 5 ≤ d) : mt (mT g) d 196 [.ref m0, .int x1, .int x2, .int x3, .int x4] M (fun v M' => ∃ (x : Int32) (I' : rI) (R' : rR), v = some (.int x) ∧ RS g m0 q z I' R' M' ∧ eqI [47, 48] I I' ∧ eqR [37, 38, 39, 40, 41, 42] R R' ∧ pw x4.toNatClampNeg R R' ∧ MCD f n x4.toNatClampNeg R' ∧ kn [38, 39, 40, 42, 43, 44] x4.toNatClampNeg R') := by
  obtain ⟨d, rfl⟩ : ∃ e, d = e + 1 := ⟨d - 1, by omega⟩
  refine mt_in (b := mb_196 g) rfl rfl ?_
  show ml (mT g) d (mb_196 g).2 (0, [(0, .ref m0), (1, .int x1), (2, .int x2), (3, .int x3), (4, .int x4)], [], M) _
  have hn := hF.1
  refine ml_blk 3 (S' := (3, [(0, .ref m0), (1, .int x1), (2, .int x2), (3, .int x3), (4, .int x4)], [.int (x3 - x2)], M)) rfl ?_
  refine ml_st (S' := (5, [(0, .ref m0), (1, .int x1), (2, .int x2), (3, .int x3), (4, .int x4)], [.int 8, .int (x3 - x2)], M)) rfl rfl rfl ?_
  refine ml_if2 (S1 := (11, [(0, .ref m0), (1, .int x1), (2, .int x2), (3, .int x3), (4, .int x4)], [], M)) (S2 := (8, [(0, .ref m0), (1, .int x1), (2, .int x2), (3, .int x3), (4, .int x4)], [], M)) rfl rfl rfl (fun c_5 => ?_) (fun c_5 => ?_)
  · have c_5 : 8 ≤ (x3 - x2) := of_decide_eq_true c_5
    have hd8 := i_le c_5
    rw [i_sub (by omega) (by omega)] at hd8
    have i8_ : (8 : Int32).toInt = 8 := rfl
    have i2_ : (2 : Int32).toInt = 2 := rfl
    have e4 : (x2 + 4).toInt = x2.toInt + 4 := i_add (by have : (4 : Int32).toInt = 4 := rfl; omega) (by have : (4 : Int32).toInt = 4 := rfl; omega)
    have e2 : (x2 + 2).toInt = x2.toInt + 2 := i_add (by have : (2 : Int32).toInt = 2 := rfl; omega) (by have : (2 : Int32).toInt = 2 := rfl; omega)
    have hl0 := f4_pos (f := f) (x := x2 + 4)
    refine ml_blk 3 (S' := (14, [(0, .ref m0), (1, .int x1), (2, .int x2), (3, .int x3), (4, .int x4)], [.int 4, .int x2, .ref m0], M)) rfl ?_
    refine ml_st (S' := (15, [(0, .ref m0), (1, .int x1), (2, .int x2), (3, .int x3), (4, .int x4)], [.int (x2 + 4), .ref m0], M)) rfl rfl rfl ?_
    refine ml_call (a := [.ref m0, .int (x2 + 4)]) (rest := []) rfl (hR.okc rfl rfl rfl) rfl rfl (rm_u4 hR hF (by omega) (by omega) (by omega)) (fun v11 M12 h13 => ?_)
    obtain ⟨rfl, h13⟩ := h13
    rw [h13]
    show ml _ _ _ (18, [(0, .ref m0), (1, .int x1), (2, .int x2), (3, .int x3), (4, .int x4)], [.long (f4 f (x2 + 4))], M) _
    refine ml_st (S' := (20, [(5, .long (f4 f (x2 + 4))), (0, .ref m0), (1, .int x1), (2, .int x2), (3, .int x3), (4, .int x4)], [], M)) rfl rfl rfl ?_
    refine ml_blk 3 (S' := (24, [(5, .long (f4 f (x2 + 4))), (0, .ref m0), (1, .int x1), (2, .int x2), (3, .int x3), (4, .int x4)], [.int x2, .int x3, .long (f4 f (x2 + 4))], M)) rfl ?_
    refine ml_blk 3 (S' := (28, [(5, .long (f4 f (x2 + 4))), (0, .ref m0), (1, .int x1), (2, .int x2), (3, .int x3), (4, .int x4)], [.int ((x3 - x2) - 8), .long (f4 f (x2 + 4))], M)) rfl ?_
    refine ml_blk 2 (S' := (30, [(5, .long (f4 f (x2 + 4))), (0, .ref m0), (1, .int x1), (2, .int x2), (3, .int x3), (4, .int x4)], [.int (lg_cmp (f4 f (x2 + 4)) (Int32.toInt64 ((x3 - x2) - 8)))], M)) rfl ?_
    refine ml_if (S1 := (36, [(5, .long (f4 f (x2 + 4))), (0, .ref m0), (1, .int x1), (2, .int x2), (3, .int x3), (4, .int x4)], [], M)) (S2 := (33, [(5, .long (f4 f (x2 + 4))), (0, .ref m0), (1, .int x1), (2, .int x2), (3, .int x3), (4, .int x4)], [], M)) rfl rfl rfl (fun c_30 => ?_) (fun c_30 => ?_)
    · have c_30 : (lg_cmp (f4 f (x2 + 4)) (Int32.toInt64 ((x3 - x2) - 8))) ≤ 0 := of_decide_eq_true c_30
      have hl1 := lc_le c_30
      rw [l_of, i_sub (by rw [i_sub (by omega) (by omega)]; omega) (by rw [i_sub (by omega) (by omega)]; omega), i_sub (by omega) (by omega)] at hl1
      have hco := code_of (f := f) (e := x3) hn h0 (by omega)
      obtain ⟨hdi, hq1⟩ := hco
      have hqr : ((x2 + 8 + Int64.toInt32 (f4 f (x2 + 4))) + 2).toInt = x2.toInt + 10 + (f4 f (x2 + 4)).toInt := by rw [i_add (by omega) (by omega), hq1]; omega
      refine ml_blk 3 (S' := (40, [(5, .long (f4 f (x2 + 4))), (0, .ref m0), (1, .int x1), (2, .int x2), (3, .int x3), (4, .int x4)], [.int (x2 + 8)], M)) rfl ?_
      refine ml_blk 3 (S' := (44, [(5, .long (f4 f (x2 + 4))), (0, .ref m0), (1, .int x1), (2, .int x2), (3, .int x3), (4, .int x4)], [.int ((x2 + 8) + (Int64.toInt32 (f4 f (x2 + 4))))], M)) rfl ?_
      refine ml_st (S' := (46, [(7, .int ((x2 + 8) + (Int64.toInt32 (f4 f (x2 + 4))))), (5, .long (f4 f (x2 + 4))), (0, .ref m0), (1, .int x1), (2, .int x2), (3, .int x3), (4, .int x4)], [], M)) rfl rfl rfl ?_
      refine ml_blk 3 (S' := (50, [(7, .int ((x2 + 8) + (Int64.toInt32 (f4 f (x2 + 4))))), (5, .long (f4 f (x2 + 4))), (0, .ref m0), (1, .int x1), (2, .int x2), (3, .int x3), (4, .int x4)], [.int (((x2 + 8) + (Int64.toInt32 (f4 f (x2 + 4)))) + 2)], M)) rfl ?_
      refine ml_st (S' := (51, [(7, .int ((x2 + 8) + (Int64.toInt32 (f4 f (x2 + 4))))), (5, .long (f4 f (x2 + 4))), (0, .ref m0), (1, .int x1), (2, .int x2), (3, .int x3), (4, .int x4)], [.int x3, .int (((x2 + 8) + (Int64.toInt32 (f4 f (x2 + 4)))) + 2)], M)) rfl rfl rfl ?_
      refine ml_if2 (S1 := (57, [(7, .int ((x2 + 8) + (Int64.toInt32 (f4 f (x2 + 4))))), (5, .long (f4 f (x2 + 4))), (0, .ref m0), (1, .int x1), (2, .int x2), (3, .int x3), (4, .int x4)], [], M)) (S2 := (54, [(7, .int ((x2 + 8) + (Int64.toInt32 (f4 f (x2 + 4))))), (5, .long (f4 f (x2 + 4))), (0, .ref m0), (1, .int x1), (2, .int x2), (3, .int x3), (4, .int x4)], [], M)) rfl rfl rfl (fun c_51 => ?_) (fun c_51 => ?_)
      · have c_51 : (((x2 + 8) + (Int64.toInt32 (f4 f (x2 + 4)))) + 2) ≤ x3 := of_decide_eq_true c_51
        have hq2 := i_le c_51
        rw [hqr] at hq2
        have hr0 := f2_pos (f := f) (x := (x2 + 8 + Int64.toInt32 (f4 f (x2 + 4))))
        have hr1 := f2_le (f := f) (x := (x2 + 8 + Int64.toInt32 (f4 f (x2 + 4))))
        have h8r := eight_k (k := (f2 f (x2 + 8 + Int64.toInt32 (f4 f (x2 + 4))))) hr0 (by omega)
        have hq3 : (((x2 + 8 + Int64.toInt32 (f4 f (x2 + 4))) + 2) + 8 * (f2 f (x2 + 8 + Int64.toInt32 (f4 f (x2 + 4))))).toInt = x2.toInt + 10 + (f4 f (x2 + 4)).toInt + 8 * (f2 f (x2 + 8 + Int64.toInt32 (f4 f (x2 + 4)))).toInt := by rw [i_add (by omega) (by omega), h8r, hqr]
        refine ml_blk 2 (S' := (60, [(7, .int ((x2 + 8) + (Int64.toInt32 (f4 f (x2 + 4))))), (5, .long (f4 f (x2 + 4))), (0, .ref m0), (1, .int x1), (2, .int x2), (3, .int x3), (4, .int x4)], [.int ((x2 + 8) + (Int64.toInt32 (f4 f (x2 + 4)))), .ref m0], M)) rfl ?_
        refine ml_call (a := [.ref m0, .int ((x2 + 8) + (Int64.toInt32 (f4 f (x2 + 4))))]) (rest := []) rfl (hR.okc rfl rfl rfl) rfl rfl (rm_u2 hR hF (by omega) (by omega) (by omega)) (fun v14 M15 h16 => ?_)
        obtain ⟨rfl, h16⟩ := h16
        rw [h16]
        show ml _ _ _ (63, [(7, .int ((x2 + 8) + (Int64.toInt32 (f4 f (x2 + 4))))), (5, .long (f4 f (x2 + 4))), (0, .ref m0), (1, .int x1), (2, .int x2), (3, .int x3), (4, .int x4)], [.int (f2 f ((x2 + 8) + (Int64.toInt32 (f4 f (x2 + 4)))))], M) _
        refine ml_st (S' := (65, [(8, .int (f2 f ((x2 + 8) + (Int64.toInt32 (f4 f (x2 + 4)))))), (7, .int ((x2 + 8) + (Int64.toInt32 (f4 f (x2 + 4))))), (5, .long (f4 f (x2 + 4))), (0, .ref m0), (1, .int x1), (2, .int x2), (3, .int x3), (4, .int x4)], [], M)) rfl rfl rfl ?_
        refine ml_blk 3 (S' := (69, [(8, .int (f2 f ((x2 + 8) + (Int64.toInt32 (f4 f (x2 + 4)))))), (7, .int ((x2 + 8) + (Int64.toInt32 (f4 f (x2 + 4))))), (5, .long (f4 f (x2 + 4))), (0, .ref m0), (1, .int x1), (2, .int x2), (3, .int x3), (4, .int x4)], [.int (((x2 + 8) + (Int64.toInt32 (f4 f (x2 + 4)))) + 2)], M)) rfl ?_
        refine ml_st (S' := (71, [(9, .int (((x2 + 8) + (Int64.toInt32 (f4 f (x2 + 4)))) + 2)), (8, .int (f2 f ((x2 + 8) + (Int64.toInt32 (f4 f (x2 + 4)))))), (7, .int ((x2 + 8) + (Int64.toInt32 (f4 f (x2 + 4))))), (5, .long (f4 f (x2 + 4))), (0, .ref m0), (1, .int x1), (2, .int x2), (3, .int x3), (4, .int x4)], [], M)) rfl rfl rfl ?_
        refine ml_blk 3 (S' := (77, [(9, .int (((x2 + 8) + (Int64.toInt32 (f4 f (x2 + 4)))) + 2)), (8, .int (f2 f ((x2 + 8) + (Int64.toInt32 (f4 f (x2 + 4)))))), (7, .int ((x2 + 8) + (Int64.toInt32 (f4 f (x2 + 4))))), (5, .long (f4 f (x2 + 4))), (0, .ref m0), (1, .int x1), (2, .int x2), (3, .int x3), (4, .int x4)], [.int (f2 f ((x2 + 8) + (Int64.toInt32 (f4 f (x2 + 4))))), .int 8, .int (((x2 + 8) + (Int64.toInt32 (f4 f (x2 + 4)))) + 2)], M)) rfl ?_
        refine ml_blk 2 (S' := (79, [(9, .int (((x2 + 8) + (Int64.toInt32 (f4 f (x2 + 4)))) + 2)), (8, .int (f2 f ((x2 + 8) + (Int64.toInt32 (f4 f (x2 + 4)))))), (7, .int ((x2 + 8) + (Int64.toInt32 (f4 f (x2 + 4))))), (5, .long (f4 f (x2 + 4))), (0, .ref m0), (1, .int x1), (2, .int x2), (3, .int x3), (4, .int x4)], [.int ((((x2 + 8) + (Int64.toInt32 (f4 f (x2 + 4)))) + 2) + (8 * (f2 f ((x2 + 8) + (Int64.toInt32 (f4 f (x2 + 4)))))))], M)) rfl ?_
        refine ml_st (S' := (81, [(7, .int ((((x2 + 8) + (Int64.toInt32 (f4 f (x2 + 4)))) + 2) + (8 * (f2 f ((x2 + 8) + (Int64.toInt32 (f4 f (x2 + 4)))))))), (9, .int (((x2 + 8) + (Int64.toInt32 (f4 f (x2 + 4)))) + 2)), (8, .int (f2 f ((x2 + 8) + (Int64.toInt32 (f4 f (x2 + 4)))))), (5, .long (f4 f (x2 + 4))), (0, .ref m0), (1, .int x1), (2, .int x2), (3, .int x3), (4, .int x4)], [], M)) rfl rfl rfl ?_
        refine ml_blk 3 (S' := (85, [(7, .int ((((x2 + 8) + (Int64.toInt32 (f4 f (x2 + 4)))) + 2) + (8 * (f2 f ((x2 + 8) + (Int64.toInt32 (f4 f (x2 + 4)))))))), (9, .int (((x2 + 8) + (Int64.toInt32 (f4 f (x2 + 4)))) + 2)), (8, .int (f2 f ((x2 + 8) + (Int64.toInt32 (f4 f (x2 + 4)))))), (5, .long (f4 f (x2 + 4))), (0, .ref m0), (1, .int x1), (2, .int x2), (3, .int x3), (4, .int x4)], [.int (((((x2 + 8) + (Int64.toInt32 (f4 f (x2 + 4)))) + 2) + (8 * (f2 f ((x2 + 8) + (Int64.toInt32 (f4 f (x2 + 4))))))) + 2)], M)) rfl ?_
        refine ml_st (S' := (86, [(7, .int ((((x2 + 8) + (Int64.toInt32 (f4 f (x2 + 4)))) + 2) + (8 * (f2 f ((x2 + 8) + (Int64.toInt32 (f4 f (x2 + 4)))))))), (9, .int (((x2 + 8) + (Int64.toInt32 (f4 f (x2 + 4)))) + 2)), (8, .int (f2 f ((x2 + 8) + (Int64.toInt32 (f4 f (x2 + 4)))))), (5, .long (f4 f (x2 + 4))), (0, .ref m0), (1, .int x1), (2, .int x2), (3, .int x3), (4, .int x4)], [.int x3, .int (((((x2 + 8) + (Int64.toInt32 (f4 f (x2 + 4)))) + 2) + (8 * (f2 f ((x2 + 8) + (Int64.toInt32 (f4 f (x2 + 4))))))) + 2)], M)) rfl rfl rfl ?_
        refine ml_if2 (S1 := (92, [(7, .int ((((x2 + 8) + (Int64.toInt32 (f4 f (x2 + 4)))) + 2) + (8 * (f2 f ((x2 + 8) + (Int64.toInt32 (f4 f (x2 + 4)))))))), (9, .int (((x2 + 8) + (Int64.toInt32 (f4 f (x2 + 4)))) + 2)), (8, .int (f2 f ((x2 + 8) + (Int64.toInt32 (f4 f (x2 + 4)))))), (5, .long (f4 f (x2 + 4))), (0, .ref m0), (1, .int x1), (2, .int x2), (3, .int x3), (4, .int x4)], [], M)) (S2 := (89, [(7, .int ((((x2 + 8) + (Int64.toInt32 (f4 f (x2 + 4)))) + 2) + (8 * (f2 f ((x2 + 8) + (Int64.toInt32 (f4 f (x2 + 4)))))))), (9, .int (((x2 + 8) + (Int64.toInt32 (f4 f (x2 + 4)))) + 2)), (8, .int (f2 f ((x2 + 8) + (Int64.toInt32 (f4 f (x2 + 4)))))), (5, .long (f4 f (x2 + 4))), (0, .ref m0), (1, .int x1), (2, .int x2), (3, .int x3), (4, .int x4)], [], M)) rfl rfl rfl (fun c_86 => ?_) (fun c_86 => ?_)
        · have c_86 : (((((x2 + 8) + (Int64.toInt32 (f4 f (x2 + 4)))) + 2) + (8 * (f2 f ((x2 + 8) + (Int64.toInt32 (f4 f (x2 + 4))))))) + 2) ≤ x3 := of_decide_eq_true c_86
          have hq4 := i_le c_86
          rw [i_add (by omega) (by omega)] at hq4
          have hq5 : ((((x2 + 8 + Int64.toInt32 (f4 f (x2 + 4))) + 2) + 8 * (f2 f (x2 + 8 + Int64.toInt32 (f4 f (x2 + 4))))) + 2).toInt = (((x2 + 8 + Int64.toInt32 (f4 f (x2 + 4))) + 2) + 8 * (f2 f (x2 + 8 + Int64.toInt32 (f4 f (x2 + 4))))).toInt + 2 := by rw [i_add (by omega) (by omega), i2_]
          have hn0 := f2_pos (f := f) (x := (((x2 + 8 + Int64.toInt32 (f4 f (x2 + 4))) + 2) + 8 * (f2 f (x2 + 8 + Int64.toInt32 (f4 f (x2 + 4))))))
          refine ml_st (S' := (94, [(7, .int ((((x2 + 8) + (Int64.toInt32 (f4 f (x2 + 4)))) + 2) + (8 * (f2 f ((x2 + 8) + (Int64.toInt32 (f4 f (x2 + 4)))))))), (9, .int (((x2 + 8) + (Int64.toInt32 (f4 f (x2 + 4)))) + 2)), (8, .int (f2 f ((x2 + 8) + (Int64.toInt32 (f4 f (x2 + 4)))))), (5, .long (f4 f (x2 + 4))), (0, .ref m0), (1, .int x1), (2, .int x2), (3, .int x3), (4, .int x4)], [.int ((((x2 + 8) + (Int64.toInt32 (f4 f (x2 + 4)))) + 2) + (8 * (f2 f ((x2 + 8) + (Int64.toInt32 (f4 f (x2 + 4)))))))], M)) rfl rfl rfl ?_
          refine ml_st (S' := (96, [(10, .int ((((x2 + 8) + (Int64.toInt32 (f4 f (x2 + 4)))) + 2) + (8 * (f2 f ((x2 + 8) + (Int64.toInt32 (f4 f (x2 + 4)))))))), (7, .int ((((x2 + 8) + (Int64.toInt32 (f4 f (x2 + 4)))) + 2) + (8 * (f2 f ((x2 + 8) + (Int64.toInt32 (f4 f (x2 + 4)))))))), (9, .int (((x2 + 8) + (Int64.toInt32 (f4 f (x2 + 4)))) + 2)), (8, .int (f2 f ((x2 + 8) + (Int64.toInt32 (f4 f (x2 + 4)))))), (5, .long (f4 f (x2 + 4))), (0, .ref m0), (1, .int x1), (2, .int x2), (3, .int x3), (4, .int x4)], [], M)) rfl rfl rfl ?_
          refine ml_blk 2 (S' := (99, [(10, .int ((((x2 + 8) + (Int64.toInt32 (f4 f (x2 + 4)))) + 2) + (8 * (f2 f ((x2 + 8) + (Int64.toInt32 (f4 f (x2 + 4)))))))), (7, .int ((((x2 + 8) + (Int64.toInt32 (f4 f (x2 + 4)))) + 2) + (8 * (f2 f ((x2 + 8) + (Int64.toInt32 (f4 f (x2 + 4)))))))), (9, .int (((x2 + 8) + (Int64.toInt32 (f4 f (x2 + 4)))) + 2)), (8, .int (f2 f ((x2 + 8) + (Int64.toInt32 (f4 f (x2 + 4)))))), (5, .long (f4 f (x2 + 4))), (0, .ref m0), (1, .int x1), (2, .int x2), (3, .int x3), (4, .int x4)], [.int ((((x2 + 8) + (Int64.toInt32 (f4 f (x2 + 4)))) + 2) + (8 * (f2 f ((x2 + 8) + (Int64.toInt32 (f4 f (x2 + 4))))))), .ref m0], M)) rfl ?_
          refine ml_call (a := [.ref m0, .int ((((x2 + 8) + (Int64.toInt32 (f4 f (x2 + 4)))) + 2) + (8 * (f2 f ((x2 + 8) + (Int64.toInt32 (f4 f (x2 + 4)))))))]) (rest := []) rfl (hR.okc rfl rfl rfl) rfl rfl (rm_u2 hR hF (by omega) (by omega) (by omega)) (fun v17 M18 h19 => ?_)
          obtain ⟨rfl, h19⟩ := h19
          rw [h19]
          show ml _ _ _ (102, [(10, .int ((((x2 + 8) + (Int64.toInt32 (f4 f (x2 + 4)))) + 2) + (8 * (f2 f ((x2 + 8) + (Int64.toInt32 (f4 f (x2 + 4)))))))), (7, .int ((((x2 + 8) + (Int64.toInt32 (f4 f (x2 + 4)))) + 2) + (8 * (f2 f ((x2 + 8) + (Int64.toInt32 (f4 f (x2 + 4)))))))), (9, .int (((x2 + 8) + (Int64.toInt32 (f4 f (x2 + 4)))) + 2)), (8, .int (f2 f ((x2 + 8) + (Int64.toInt32 (f4 f (x2 + 4)))))), (5, .long (f4 f (x2 + 4))), (0, .ref m0), (1, .int x1), (2, .int x2), (3, .int x3), (4, .int x4)], [.int (f2 f ((((x2 + 8) + (Int64.toInt32 (f4 f (x2 + 4)))) + 2) + (8 * (f2 f ((x2 + 8) + (Int64.toInt32 (f4 f (x2 + 4))))))))], M) _
          refine ml_st (S' := (104, [(11, .int (f2 f ((((x2 + 8) + (Int64.toInt32 (f4 f (x2 + 4)))) + 2) + (8 * (f2 f ((x2 + 8) + (Int64.toInt32 (f4 f (x2 + 4))))))))), (10, .int ((((x2 + 8) + (Int64.toInt32 (f4 f (x2 + 4)))) + 2) + (8 * (f2 f ((x2 + 8) + (Int64.toInt32 (f4 f (x2 + 4)))))))), (7, .int ((((x2 + 8) + (Int64.toInt32 (f4 f (x2 + 4)))) + 2) + (8 * (f2 f ((x2 + 8) + (Int64.toInt32 (f4 f (x2 + 4)))))))), (9, .int (((x2 + 8) + (Int64.toInt32 (f4 f (x2 + 4)))) + 2)), (8, .int (f2 f ((x2 + 8) + (Int64.toInt32 (f4 f (x2 + 4)))))), (5, .long (f4 f (x2 + 4))), (0, .ref m0), (1, .int x1), (2, .int x2), (3, .int x3), (4, .int x4)], [], M)) rfl rfl rfl ?_
          refine ml_st (S' := (107, [(7, .int (((((x2 + 8) + (Int64.toInt32 (f4 f (x2 + 4)))) + 2) + (8 * (f2 f ((x2 + 8) + (Int64.toInt32 (f4 f (x2 + 4))))))) + 2)), (11, .int (f2 f ((((x2 + 8) + (Int64.toInt32 (f4 f (x2 + 4)))) + 2) + (8 * (f2 f ((x2 + 8) + (Int64.toInt32 (f4 f (x2 + 4))))))))), (10, .int ((((x2 + 8) + (Int64.toInt32 (f4 f (x2 + 4)))) + 2) + (8 * (f2 f ((x2 + 8) + (Int64.toInt32 (f4 f (x2 + 4)))))))), (9, .int (((x2 + 8) + (Int64.toInt32 (f4 f (x2 + 4)))) + 2)), (8, .int (f2 f ((x2 + 8) + (Int64.toInt32 (f4 f (x2 + 4)))))), (5, .long (f4 f (x2 + 4))), (0, .ref m0), (1, .int x1), (2, .int x2), (3, .int x3), (4, .int x4)], [], M)) rfl rfl rfl ?_
          refine ml_st (S' := (108, [(7, .int (((((x2 + 8) + (Int64.toInt32 (f4 f (x2 + 4)))) + 2) + (8 * (f2 f ((x2 + 8) + (Int64.toInt32 (f4 f (x2 + 4))))))) + 2)), (11, .int (f2 f ((((x2 + 8) + (Int64.toInt32 (f4 f (x2 + 4)))) + 2) + (8 * (f2 f ((x2 + 8) + (Int64.toInt32 (f4 f (x2 + 4))))))))), (10, .int ((((x2 + 8) + (Int64.toInt32 (f4 f (x2 + 4)))) + 2) + (8 * (f2 f ((x2 + 8) + (Int64.toInt32 (f4 f (x2 + 4)))))))), (9, .int (((x2 + 8) + (Int64.toInt32 (f4 f (x2 + 4)))) + 2)), (8, .int (f2 f ((x2 + 8) + (Int64.toInt32 (f4 f (x2 + 4)))))), (5, .long (f4 f (x2 + 4))), (0, .ref m0), (1, .int x1), (2, .int x2), (3, .int x3), (4, .int x4)], [.int 0], M)) rfl rfl rfl ?_
          refine ml_st (S' := (110, [(0, .ref m0), (2, .int x2), (3, .int x3), (4, .int x4), (5, .long (f4 f (x2 + 4))), (7, .int (((((x2 + 8) + (Int64.toInt32 (f4 f (x2 + 4)))) + 2) + (8 * (f2 f ((x2 + 8) + (Int64.toInt32 (f4 f (x2 + 4))))))) + 2)), (8, .int (f2 f ((x2 + 8) + (Int64.toInt32 (f4 f (x2 + 4)))))), (9, .int (((x2 + 8) + (Int64.toInt32 (f4 f (x2 + 4)))) + 2)), (10, .int ((((x2 + 8) + (Int64.toInt32 (f4 f (x2 + 4)))) + 2) + (8 * (f2 f ((x2 + 8) + (Int64.toInt32 (f4 f (x2 + 4)))))))), (11, .int (f2 f ((((x2 + 8) + (Int64.toInt32 (f4 f (x2 + 4)))) + 2) + (8 * (f2 f ((x2 + 8) + (Int64.toInt32 (f4 f (x2 + 4))))))))), (12, .int 0)], [], M)) rfl rfl rfl ?_
          have L_110 : ∀ (n_110 : Nat) (i110_7 : Int32) (i110_12 : Int32), (2147483648 - i110_12.toInt).toNat ≤ n_110 → ((((x2 + 8 + Int64.toInt32 (f4 f (x2 + 4))) + 2) + 8 * (f2 f (x2 + 8 + Int64.toInt32 (f4 f (x2 + 4))))).toInt + 2 ≤ i110_7.toInt ∧ i110_7.toInt ≤ x3.toInt ∧ 0 ≤ i110_12.toInt ∧ i110_12.toInt ≤ (f2 f (((x2 + 8 + Int64.toInt32 (f4 f (x2 + 4))) + 2) + 8 * (f2 f (x2 + 8 + Int64.toInt32 (f4 f (x2 + 4)))))).toInt ∧ itr (RA1 f n) i110_12.toInt.toNat ((((x2 + 8 + Int64.toInt32 (f4 f (x2 + 4))) + 2) + 8 * (f2 f (x2 + 8 + Int64.toInt32 (f4 f (x2 + 4))))) + 2) i110_7) → ml (mT g) d (mb_196 g).2 (110, [(0, .ref m0), (2, .int x2), (3, .int x3), (4, .int x4), (5, .long (f4 f (x2 + 4))), (7, .int i110_7), (8, .int (f2 f ((x2 + 8) + (Int64.toInt32 (f4 f (x2 + 4)))))), (9, .int (((x2 + 8) + (Int64.toInt32 (f4 f (x2 + 4)))) + 2)), (10, .int ((((x2 + 8) + (Int64.toInt32 (f4 f (x2 + 4)))) + 2) + (8 * (f2 f ((x2 + 8) + (Int64.toInt32 (f4 f (x2 + 4)))))))), (11, .int (f2 f ((((x2 + 8) + (Int64.toInt32 (f4 f (x2 + 4)))) + 2) + (8 * (f2 f ((x2 + 8) + (Int64.toInt32 (f4 f (x2 + 4))))))))), (12, .int i110_12)], [], M) (fun v M' => ∃ (x : Int32) (I' : rI) (R' : rR), v = some (.int x) ∧ RS g m0 q z I' R' M' ∧ eqI [47, 48] I I' ∧ eqR [37, 38, 39, 40, 41, 42] R R' ∧ pw x4.toNatClampNeg R R' ∧ MCD f n x4.toNatClampNeg R' ∧ kn [38, 39, 40, 42, 43, 44] x4.toNatClampNeg R') := by
            intro n_110
            induction n_110 with
            | zero => intro i110_7 i110_12 hn; exact (loop_zero hn).elim
            | succ n_110 ih_110 =>
              intro i110_7 i110_12 hn_110 hi_110
              obtain ⟨hp0, hp1, hk0, hk1, hit⟩ := hi_110
              refine ml_blk 2 (S' := (114, [(0, .ref m0), (2, .int x2), (3, .int x3), (4, .int x4), (5, .long (f4 f (x2 + 4))), (7, .int i110_7), (8, .int (f2 f ((x2 + 8) + (Int64.toInt32 (f4 f (x2 + 4)))))), (9, .int (((x2 + 8) + (Int64.toInt32 (f4 f (x2 + 4)))) + 2)), (10, .int ((((x2 + 8) + (Int64.toInt32 (f4 f (x2 + 4)))) + 2) + (8 * (f2 f ((x2 + 8) + (Int64.toInt32 (f4 f (x2 + 4)))))))), (11, .int (f2 f ((((x2 + 8) + (Int64.toInt32 (f4 f (x2 + 4)))) + 2) + (8 * (f2 f ((x2 + 8) + (Int64.toInt32 (f4 f (x2 + 4))))))))), (12, .int i110_12)], [.int (f2 f ((((x2 + 8) + (Int64.toInt32 (f4 f (x2 + 4)))) + 2) + (8 * (f2 f ((x2 + 8) + (Int64.toInt32 (f4 f (x2 + 4)))))))), .int i110_12], M)) rfl ?_
              refine ml_if2 (S1 := (172, [(0, .ref m0), (2, .int x2), (3, .int x3), (4, .int x4), (5, .long (f4 f (x2 + 4))), (7, .int i110_7), (8, .int (f2 f ((x2 + 8) + (Int64.toInt32 (f4 f (x2 + 4)))))), (9, .int (((x2 + 8) + (Int64.toInt32 (f4 f (x2 + 4)))) + 2)), (10, .int ((((x2 + 8) + (Int64.toInt32 (f4 f (x2 + 4)))) + 2) + (8 * (f2 f ((x2 + 8) + (Int64.toInt32 (f4 f (x2 + 4)))))))), (11, .int (f2 f ((((x2 + 8) + (Int64.toInt32 (f4 f (x2 + 4)))) + 2) + (8 * (f2 f ((x2 + 8) + (Int64.toInt32 (f4 f (x2 + 4))))))))), (12, .int i110_12)], [], M)) (S2 := (117, [(0, .ref m0), (2, .int x2), (3, .int x3), (4, .int x4), (5, .long (f4 f (x2 + 4))), (7, .int i110_7), (8, .int (f2 f ((x2 + 8) + (Int64.toInt32 (f4 f (x2 + 4)))))), (9, .int (((x2 + 8) + (Int64.toInt32 (f4 f (x2 + 4)))) + 2)), (10, .int ((((x2 + 8) + (Int64.toInt32 (f4 f (x2 + 4)))) + 2) + (8 * (f2 f ((x2 + 8) + (Int64.toInt32 (f4 f (x2 + 4)))))))), (11, .int (f2 f ((((x2 + 8) + (Int64.toInt32 (f4 f (x2 + 4)))) + 2) + (8 * (f2 f ((x2 + 8) + (Int64.toInt32 (f4 f (x2 + 4))))))))), (12, .int i110_12)], [], M)) rfl rfl rfl (fun c_114 => ?_) (fun c_114 => ?_)
              · have c_114 : (f2 f ((((x2 + 8) + (Int64.toInt32 (f4 f (x2 + 4)))) + 2) + (8 * (f2 f ((x2 + 8) + (Int64.toInt32 (f4 f (x2 + 4)))))))) ≤ i110_12 := of_decide_eq_true c_114
                refine ml_blk 2 (S' := (175, [(0, .ref m0), (2, .int x2), (3, .int x3), (4, .int x4), (5, .long (f4 f (x2 + 4))), (7, .int i110_7), (8, .int (f2 f ((x2 + 8) + (Int64.toInt32 (f4 f (x2 + 4)))))), (9, .int (((x2 + 8) + (Int64.toInt32 (f4 f (x2 + 4)))) + 2)), (10, .int ((((x2 + 8) + (Int64.toInt32 (f4 f (x2 + 4)))) + 2) + (8 * (f2 f ((x2 + 8) + (Int64.toInt32 (f4 f (x2 + 4)))))))), (11, .int (f2 f ((((x2 + 8) + (Int64.toInt32 (f4 f (x2 + 4)))) + 2) + (8 * (f2 f ((x2 + 8) + (Int64.toInt32 (f4 f (x2 + 4))))))))), (12, .int i110_12)], [.int x3, .int i110_7], M)) rfl ?_
                refine ml_if2 (S1 := (181, [(0, .ref m0), (2, .int x2), (3, .int x3), (4, .int x4), (5, .long (f4 f (x2 + 4))), (7, .int i110_7), (8, .int (f2 f ((x2 + 8) + (Int64.toInt32 (f4 f (x2 + 4)))))), (9, .int (((x2 + 8) + (Int64.toInt32 (f4 f (x2 + 4)))) + 2)), (10, .int ((((x2 + 8) + (Int64.toInt32 (f4 f (x2 + 4)))) + 2) + (8 * (f2 f ((x2 + 8) + (Int64.toInt32 (f4 f (x2 + 4)))))))), (11, .int (f2 f ((((x2 + 8) + (Int64.toInt32 (f4 f (x2 + 4)))) + 2) + (8 * (f2 f ((x2 + 8) + (Int64.toInt32 (f4 f (x2 + 4))))))))), (12, .int i110_12)], [], M)) (S2 := (178, [(0, .ref m0), (2, .int x2), (3, .int x3), (4, .int x4), (5, .long (f4 f (x2 + 4))), (7, .int i110_7), (8, .int (f2 f ((x2 + 8) + (Int64.toInt32 (f4 f (x2 + 4)))))), (9, .int (((x2 + 8) + (Int64.toInt32 (f4 f (x2 + 4)))) + 2)), (10, .int ((((x2 + 8) + (Int64.toInt32 (f4 f (x2 + 4)))) + 2) + (8 * (f2 f ((x2 + 8) + (Int64.toInt32 (f4 f (x2 + 4)))))))), (11, .int (f2 f ((((x2 + 8) + (Int64.toInt32 (f4 f (x2 + 4)))) + 2) + (8 * (f2 f ((x2 + 8) + (Int64.toInt32 (f4 f (x2 + 4))))))))), (12, .int i110_12)], [], M)) rfl rfl rfl (fun c_175 => ?_) (fun c_175 => ?_)
                · have c_175 : i110_7 = x3 := of_decide_eq_true c_175
                  have hend : i110_7 = x3 := c_175
                  have hatt : AT f n (((x2 + 8 + Int64.toInt32 (f4 f (x2 + 4))) + 2) + 8 * (f2 f (x2 + 8 + Int64.toInt32 (f4 f (x2 + 4))))) x3 := ⟨by omega, by omega, hend ▸ itr_end hit hk1 c_114, h2⟩
                  refine ml_blk 3 (S' := (185, [(0, .ref m0), (2, .int x2), (3, .int x3), (4, .int x4), (5, .long (f4 f (x2 + 4))), (7, .int i110_7), (8, .int (f2 f ((x2 + 8) + (Int64.toInt32 (f4 f (x2 + 4)))))), (9, .int (((x2 + 8) + (Int64.toInt32 (f4 f (x2 + 4)))) + 2)), (10, .int ((((x2 + 8) + (Int64.toInt32 (f4 f (x2 + 4)))) + 2) + (8 * (f2 f ((x2 + 8) + (Int64.toInt32 (f4 f (x2 + 4)))))))), (11, .int (f2 f ((((x2 + 8) + (Int64.toInt32 (f4 f (x2 + 4)))) + 2) + (8 * (f2 f ((x2 + 8) + (Int64.toInt32 (f4 f (x2 + 4))))))))), (12, .int i110_12)], [.int (lg_cmp (f4 f (x2 + 4)) 0)], M)) rfl ?_
                  refine ml_if (S1 := (197, [], [], M)) (S2 := (188, [(0, .ref m0), (2, .int x2), (3, .int x3), (4, .int x4), (5, .long (f4 f (x2 + 4))), (7, .int i110_7), (8, .int (f2 f ((x2 + 8) + (Int64.toInt32 (f4 f (x2 + 4)))))), (9, .int (((x2 + 8) + (Int64.toInt32 (f4 f (x2 + 4)))) + 2)), (10, .int ((((x2 + 8) + (Int64.toInt32 (f4 f (x2 + 4)))) + 2) + (8 * (f2 f ((x2 + 8) + (Int64.toInt32 (f4 f (x2 + 4)))))))), (11, .int (f2 f ((((x2 + 8) + (Int64.toInt32 (f4 f (x2 + 4)))) + 2) + (8 * (f2 f ((x2 + 8) + (Int64.toInt32 (f4 f (x2 + 4))))))))), (12, .int i110_12)], [], M)) rfl rfl rfl (fun c_185 => ?_) (fun c_185 => ?_)
                  · have c_185 : (lg_cmp (f4 f (x2 + 4)) 0) = 0 := of_decide_eq_true c_185
                    refine ml_st (S' := (199, [], [.int 41], M)) rfl rfl rfl ?_
                    exact ml_ret rfl (rfl) (⟨_, _, _, rfl, hR, eqI.rf, eqR.rf, ⟨pw.rf, hmc, hkn⟩⟩)
                  · have c_185 : ¬ ((lg_cmp (f4 f (x2 + 4)) 0) = 0) := of_decide_eq_false c_185
                    refine ml_blk 3 (S' := (194, [(0, .ref m0), (2, .int x2), (3, .int x3), (4, .int x4), (5, .long (f4 f (x2 + 4))), (7, .int i110_7), (8, .int (f2 f ((x2 + 8) + (Int64.toInt32 (f4 f (x2 + 4)))))), (9, .int (((x2 + 8) + (Int64.toInt32 (f4 f (x2 + 4)))) + 2)), (10, .int ((((x2 + 8) + (Int64.toInt32 (f4 f (x2 + 4)))) + 2) + (8 * (f2 f ((x2 + 8) + (Int64.toInt32 (f4 f (x2 + 4)))))))), (11, .int (f2 f ((((x2 + 8) + (Int64.toInt32 (f4 f (x2 + 4)))) + 2) + (8 * (f2 f ((x2 + 8) + (Int64.toInt32 (f4 f (x2 + 4))))))))), (12, .int i110_12)], [.int (lg_cmp (f4 f (x2 + 4)) 65535)], M)) rfl ?_
                    refine ml_if (S1 := (200, [(0, .ref m0), (2, .int x2), (3, .int x3), (4, .int x4), (5, .long (f4 f (x2 + 4))), (7, .int i110_7), (8, .int (f2 f ((x2 + 8) + (Int64.toInt32 (f4 f (x2 + 4)))))), (9, .int (((x2 + 8) + (Int64.toInt32 (f4 f (x2 + 4)))) + 2)), (10, .int ((((x2 + 8) + (Int64.toInt32 (f4 f (x2 + 4)))) + 2) + (8 * (f2 f ((x2 + 8) + (Int64.toInt32 (f4 f (x2 + 4)))))))), (11, .int (f2 f ((((x2 + 8) + (Int64.toInt32 (f4 f (x2 + 4)))) + 2) + (8 * (f2 f ((x2 + 8) + (Int64.toInt32 (f4 f (x2 + 4))))))))), (12, .int i110_12)], [], M)) (S2 := (197, [], [], M)) rfl rfl rfl (fun c_194 => ?_) (fun c_194 => ?_)
                    · have c_194 : (lg_cmp (f4 f (x2 + 4)) 65535) ≤ 0 := of_decide_eq_true c_194
                      refine ml_blk 2 (S' := (202, [(0, .ref m0), (2, .int x2), (3, .int x3), (4, .int x4), (5, .long (f4 f (x2 + 4))), (7, .int i110_7), (8, .int (f2 f ((x2 + 8) + (Int64.toInt32 (f4 f (x2 + 4)))))), (9, .int (((x2 + 8) + (Int64.toInt32 (f4 f (x2 + 4)))) + 2)), (10, .int ((((x2 + 8) + (Int64.toInt32 (f4 f (x2 + 4)))) + 2) + (8 * (f2 f ((x2 + 8) + (Int64.toInt32 (f4 f (x2 + 4)))))))), (11, .int (f2 f ((((x2 + 8) + (Int64.toInt32 (f4 f (x2 + 4)))) + 2) + (8 * (f2 f ((x2 + 8) + (Int64.toInt32 (f4 f (x2 + 4))))))))), (12, .int i110_12)], [.ref m0, .ref m0], M)) rfl ?_
                      refine rg_ref (S' := (205, [(0, .ref m0), (2, .int x2), (3, .int x3), (4, .int x4), (5, .long (f4 f (x2 + 4))), (7, .int i110_7), (8, .int (f2 f ((x2 + 8) + (Int64.toInt32 (f4 f (x2 + 4)))))), (9, .int (((x2 + 8) + (Int64.toInt32 (f4 f (x2 + 4)))) + 2)), (10, .int ((((x2 + 8) + (Int64.toInt32 (f4 f (x2 + 4)))) + 2) + (8 * (f2 f ((x2 + 8) + (Int64.toInt32 (f4 f (x2 + 4)))))))), (11, .int (f2 f ((((x2 + 8) + (Int64.toInt32 (f4 f (x2 + 4)))) + 2) + (8 * (f2 f ((x2 + 8) + (Int64.toInt32 (f4 f (x2 + 4))))))))), (12, .int i110_12)], [.ref (q 36), .ref m0], M)) rfl hR rfl rfl ?_
                      refine ml_st (S' := (207, [(0, .ref m0), (2, .int x2), (3, .int x3), (4, .int x4), (5, .long (f4 f (x2 + 4))), (7, .int i110_7), (8, .int (f2 f ((x2 + 8) + (Int64.toInt32 (f4 f (x2 + 4)))))), (9, .int (((x2 + 8) + (Int64.toInt32 (f4 f (x2 + 4)))) + 2)), (10, .int ((((x2 + 8) + (Int64.toInt32 (f4 f (x2 + 4)))) + 2) + (8 * (f2 f ((x2 + 8) + (Int64.toInt32 (f4 f (x2 + 4)))))))), (11, .int (f2 f ((((x2 + 8) + (Int64.toInt32 (f4 f (x2 + 4)))) + 2) + (8 * (f2 f ((x2 + 8) + (Int64.toInt32 (f4 f (x2 + 4))))))))), (12, .int i110_12)], [.int x4, .ref (q 36), .ref m0], M)) rfl rfl rfl ?_
                      refine ra_ld (k := 36) (S' := (208, [(0, .ref m0), (2, .int x2), (3, .int x3), (4, .int x4), (5, .long (f4 f (x2 + 4))), (7, .int i110_7), (8, .int (f2 f ((x2 + 8) + (Int64.toInt32 (f4 f (x2 + 4)))))), (9, .int (((x2 + 8) + (Int64.toInt32 (f4 f (x2 + 4)))) + 2)), (10, .int ((((x2 + 8) + (Int64.toInt32 (f4 f (x2 + 4)))) + 2) + (8 * (f2 f ((x2 + 8) + (Int64.toInt32 (f4 f (x2 + 4)))))))), (11, .int (f2 f ((((x2 + 8) + (Int64.toInt32 (f4 f (x2 + 4)))) + 2) + (8 * (f2 f ((x2 + 8) + (Int64.toInt32 (f4 f (x2 + 4))))))))), (12, .int i110_12)], [.int ds, .ref m0], M)) rfl hR rfl (vin_lt ho0 (by omega)) (hds) rfl ?_
                      refine ml_call (a := [.ref m0, .int ds]) (rest := []) rfl (hR.okc rfl rfl rfl) rfl rfl (rm_places0 hR hY (hd0) (hd1) (hmt.1) (by omega)) (fun v20 M21 h22 => ?_)
                      obtain ⟨⟨u23, rfl⟩, h22⟩ := h22
                      rw [h22]
                      show ml _ _ _ (211, [(0, .ref m0), (2, .int x2), (3, .int x3), (4, .int x4), (5, .long (f4 f (x2 + 4))), (7, .int i110_7), (8, .int (f2 f ((x2 + 8) + (Int64.toInt32 (f4 f (x2 + 4)))))), (9, .int (((x2 + 8) + (Int64.toInt32 (f4 f (x2 + 4)))) + 2)), (10, .int ((((x2 + 8) + (Int64.toInt32 (f4 f (x2 + 4)))) + 2) + (8 * (f2 f ((x2 + 8) + (Int64.toInt32 (f4 f (x2 + 4)))))))), (11, .int (f2 f ((((x2 + 8) + (Int64.toInt32 (f4 f (x2 + 4)))) + 2) + (8 * (f2 f ((x2 + 8) + (Int64.toInt32 (f4 f (x2 + 4))))))))), (12, .int i110_12)], [.int u23], M) _
                      refine ml_st (S' := (212, [(0, .ref m0), (2, .int x2), (3, .int x3), (4, .int x4), (5, .long (f4 f (x2 + 4))), (7, .int i110_7), (8, .int (f2 f ((x2 + 8) + (Int64.toInt32 (f4 f (x2 + 4)))))), (9, .int (((x2 + 8) + (Int64.toInt32 (f4 f (x2 + 4)))) + 2)), (10, .int ((((x2 + 8) + (Int64.toInt32 (f4 f (x2 + 4)))) + 2) + (8 * (f2 f ((x2 + 8) + (Int64.toInt32 (f4 f (x2 + 4)))))))), (11, .int (f2 f ((((x2 + 8) + (Int64.toInt32 (f4 f (x2 + 4)))) + 2) + (8 * (f2 f ((x2 + 8) + (Int64.toInt32 (f4 f (x2 + 4))))))))), (12, .int i110_12)], [.ref m0, .int u23], M)) rfl rfl rfl ?_
                      refine rg_ref (S' := (215, [(0, .ref m0), (2, .int x2), (3, .int x3), (4, .int x4), (5, .long (f4 f (x2 + 4))), (7, .int i110_7), (8, .int (f2 f ((x2 + 8) + (Int64.toInt32 (f4 f (x2 + 4)))))), (9, .int (((x2 + 8) + (Int64.toInt32 (f4 f (x2 + 4)))) + 2)), (10, .int ((((x2 + 8) + (Int64.toInt32 (f4 f (x2 + 4)))) + 2) + (8 * (f2 f ((x2 + 8) + (Int64.toInt32 (f4 f (x2 + 4)))))))), (11, .int (f2 f ((((x2 + 8) + (Int64.toInt32 (f4 f (x2 + 4)))) + 2) + (8 * (f2 f ((x2 + 8) + (Int64.toInt32 (f4 f (x2 + 4))))))))), (12, .int i110_12)], [.ref (q 34), .int u23], M)) rfl hR rfl rfl ?_
                      refine ml_st (S' := (217, [(0, .ref m0), (2, .int x2), (3, .int x3), (4, .int x4), (5, .long (f4 f (x2 + 4))), (7, .int i110_7), (8, .int (f2 f ((x2 + 8) + (Int64.toInt32 (f4 f (x2 + 4)))))), (9, .int (((x2 + 8) + (Int64.toInt32 (f4 f (x2 + 4)))) + 2)), (10, .int ((((x2 + 8) + (Int64.toInt32 (f4 f (x2 + 4)))) + 2) + (8 * (f2 f ((x2 + 8) + (Int64.toInt32 (f4 f (x2 + 4)))))))), (11, .int (f2 f ((((x2 + 8) + (Int64.toInt32 (f4 f (x2 + 4)))) + 2) + (8 * (f2 f ((x2 + 8) + (Int64.toInt32 (f4 f (x2 + 4))))))))), (12, .int i110_12)], [.int x4, .ref (q 34), .int u23], M)) rfl rfl rfl ?_
                      refine ra_ld (k := 34) (S' := (218, [(0, .ref m0), (2, .int x2), (3, .int x3), (4, .int x4), (5, .long (f4 f (x2 + 4))), (7, .int i110_7), (8, .int (f2 f ((x2 + 8) + (Int64.toInt32 (f4 f (x2 + 4)))))), (9, .int (((x2 + 8) + (Int64.toInt32 (f4 f (x2 + 4)))) + 2)), (10, .int ((((x2 + 8) + (Int64.toInt32 (f4 f (x2 + 4)))) + 2) + (8 * (f2 f ((x2 + 8) + (Int64.toInt32 (f4 f (x2 + 4)))))))), (11, .int (f2 f ((((x2 + 8) + (Int64.toInt32 (f4 f (x2 + 4)))) + 2) + (8 * (f2 f ((x2 + 8) + (Int64.toInt32 (f4 f (x2 + 4))))))))), (12, .int i110_12)], [.int fl, .int u23], M)) rfl hR rfl (vin_lt ho0 (by omega)) (hfl) rfl ?_
                      refine ml_blk 2 (S' := (221, [(0, .ref m0), (2, .int x2), (3, .int x3), (4, .int x4), (5, .long (f4 f (x2 + 4))), (7, .int i110_7), (8, .int (f2 f ((x2 + 8) + (Int64.toInt32 (f4 f (x2 + 4)))))), (9, .int (((x2 + 8) + (Int64.toInt32 (f4 f (x2 + 4)))) + 2)), (10, .int ((((x2 + 8) + (Int64.toInt32 (f4 f (x2 + 4)))) + 2) + (8 * (f2 f ((x2 + 8) + (Int64.toInt32 (f4 f (x2 + 4)))))))), (11, .int (f2 f ((((x2 + 8) + (Int64.toInt32 (f4 f (x2 + 4)))) + 2) + (8 * (f2 f ((x2 + 8) + (Int64.toInt32 (f4 f (x2 + 4))))))))), (12, .int i110_12)], [.int (fl &&& 8), .int u23], M)) rfl ?_
                      have J_229 : ∀ (s229_0 : Int32), ml (mT g) d (mb_196 g).2 (229, [(0, .ref m0), (2, .int x2), (4, .int x4), (5, .long (f4 f (x2 + 4))), (8, .int (f2 f ((x2 + 8) + (Int64.toInt32 (f4 f (x2 + 4)))))), (9, .int (((x2 + 8) + (Int64.toInt32 (f4 f (x2 + 4)))) + 2)), (10, .int ((((x2 + 8) + (Int64.toInt32 (f4 f (x2 + 4)))) + 2) + (8 * (f2 f ((x2 + 8) + (Int64.toInt32 (f4 f (x2 + 4))))))))], [.int s229_0, .int u23], M) (fun v M' => ∃ (x : Int32) (I' : rI) (R' : rR), v = some (.int x) ∧ RS g m0 q z I' R' M' ∧ eqI [47, 48] I I' ∧ eqR [37, 38, 39, 40, 41, 42] R R' ∧ pw x4.toNatClampNeg R R' ∧ MCD f n x4.toNatClampNeg R' ∧ kn [38, 39, 40, 42, 43, 44] x4.toNatClampNeg R') := by
                        intro s229_0
                        refine ml_st (S' := (230, [(0, .ref m0), (2, .int x2), (4, .int x4), (5, .long (f4 f (x2 + 4))), (8, .int (f2 f ((x2 + 8) + (Int64.toInt32 (f4 f (x2 + 4)))))), (9, .int (((x2 + 8) + (Int64.toInt32 (f4 f (x2 + 4)))) + 2)), (10, .int ((((x2 + 8) + (Int64.toInt32 (f4 f (x2 + 4)))) + 2) + (8 * (f2 f ((x2 + 8) + (Int64.toInt32 (f4 f (x2 + 4))))))))], [.int (u23 + s229_0)], M)) rfl rfl rfl ?_
                        refine ml_st (S' := (232, [(12, .int (u23 + s229_0)), (0, .ref m0), (2, .int x2), (4, .int x4), (5, .long (f4 f (x2 + 4))), (8, .int (f2 f ((x2 + 8) + (Int64.toInt32 (f4 f (x2 + 4)))))), (9, .int (((x2 + 8) + (Int64.toInt32 (f4 f (x2 + 4)))) + 2)), (10, .int ((((x2 + 8) + (Int64.toInt32 (f4 f (x2 + 4)))) + 2) + (8 * (f2 f ((x2 + 8) + (Int64.toInt32 (f4 f (x2 + 4))))))))], [], M)) rfl rfl rfl ?_
                        refine ml_blk 3 (S' := (235, [(12, .int (u23 + s229_0)), (0, .ref m0), (2, .int x2), (4, .int x4), (5, .long (f4 f (x2 + 4))), (8, .int (f2 f ((x2 + 8) + (Int64.toInt32 (f4 f (x2 + 4)))))), (9, .int (((x2 + 8) + (Int64.toInt32 (f4 f (x2 + 4)))) + 2)), (10, .int ((((x2 + 8) + (Int64.toInt32 (f4 f (x2 + 4)))) + 2) + (8 * (f2 f ((x2 + 8) + (Int64.toInt32 (f4 f (x2 + 4))))))))], [.int 2, .int x2, .ref m0], M)) rfl ?_
                        refine ml_st (S' := (236, [(12, .int (u23 + s229_0)), (0, .ref m0), (2, .int x2), (4, .int x4), (5, .long (f4 f (x2 + 4))), (8, .int (f2 f ((x2 + 8) + (Int64.toInt32 (f4 f (x2 + 4)))))), (9, .int (((x2 + 8) + (Int64.toInt32 (f4 f (x2 + 4)))) + 2)), (10, .int ((((x2 + 8) + (Int64.toInt32 (f4 f (x2 + 4)))) + 2) + (8 * (f2 f ((x2 + 8) + (Int64.toInt32 (f4 f (x2 + 4))))))))], [.int (x2 + 2), .ref m0], M)) rfl rfl rfl ?_
                        refine ml_call (a := [.ref m0, .int (x2 + 2)]) (rest := []) rfl (hR.okc rfl rfl rfl) rfl rfl (rm_u2 hR hF (by omega) (by omega) (by omega)) (fun v24 M25 h26 => ?_)
                        obtain ⟨rfl, h26⟩ := h26
                        rw [h26]
                        show ml _ _ _ (239, [(12, .int (u23 + s229_0)), (0, .ref m0), (2, .int x2), (4, .int x4), (5, .long (f4 f (x2 + 4))), (8, .int (f2 f ((x2 + 8) + (Int64.toInt32 (f4 f (x2 + 4)))))), (9, .int (((x2 + 8) + (Int64.toInt32 (f4 f (x2 + 4)))) + 2)), (10, .int ((((x2 + 8) + (Int64.toInt32 (f4 f (x2 + 4)))) + 2) + (8 * (f2 f ((x2 + 8) + (Int64.toInt32 (f4 f (x2 + 4))))))))], [.int (f2 f (x2 + 2))], M) _
                        refine ml_st (S' := (241, [(12, .int (u23 + s229_0)), (0, .ref m0), (2, .int x2), (4, .int x4), (5, .long (f4 f (x2 + 4))), (8, .int (f2 f ((x2 + 8) + (Int64.toInt32 (f4 f (x2 + 4)))))), (9, .int (((x2 + 8) + (Int64.toInt32 (f4 f (x2 + 4)))) + 2)), (10, .int ((((x2 + 8) + (Int64.toInt32 (f4 f (x2 + 4)))) + 2) + (8 * (f2 f ((x2 + 8) + (Int64.toInt32 (f4 f (x2 + 4))))))))], [.int (u23 + s229_0), .int (f2 f (x2 + 2))], M)) rfl rfl rfl ?_
                        refine ml_if2 (S1 := (247, [(12, .int (u23 + s229_0)), (0, .ref m0), (2, .int x2), (4, .int x4), (5, .long (f4 f (x2 + 4))), (8, .int (f2 f ((x2 + 8) + (Int64.toInt32 (f4 f (x2 + 4)))))), (9, .int (((x2 + 8) + (Int64.toInt32 (f4 f (x2 + 4)))) + 2)), (10, .int ((((x2 + 8) + (Int64.toInt32 (f4 f (x2 + 4)))) + 2) + (8 * (f2 f ((x2 + 8) + (Int64.toInt32 (f4 f (x2 + 4))))))))], [], M)) (S2 := (244, [(12, .int (u23 + s229_0)), (0, .ref m0), (2, .int x2), (4, .int x4), (5, .long (f4 f (x2 + 4))), (8, .int (f2 f ((x2 + 8) + (Int64.toInt32 (f4 f (x2 + 4)))))), (9, .int (((x2 + 8) + (Int64.toInt32 (f4 f (x2 + 4)))) + 2)), (10, .int ((((x2 + 8) + (Int64.toInt32 (f4 f (x2 + 4)))) + 2) + (8 * (f2 f ((x2 + 8) + (Int64.toInt32 (f4 f (x2 + 4))))))))], [], M)) rfl rfl rfl (fun c_241 => ?_) (fun c_241 => ?_)
                        · have c_241 : (u23 + s229_0) ≤ (f2 f (x2 + 2)) := of_decide_eq_true c_241
                          refine ml_st (S' := (248, [(12, .int (u23 + s229_0)), (0, .ref m0), (2, .int x2), (4, .int x4), (5, .long (f4 f (x2 + 4))), (8, .int (f2 f ((x2 + 8) + (Int64.toInt32 (f4 f (x2 + 4)))))), (9, .int (((x2 + 8) + (Int64.toInt32 (f4 f (x2 + 4)))) + 2)), (10, .int ((((x2 + 8) + (Int64.toInt32 (f4 f (x2 + 4)))) + 2) + (8 * (f2 f ((x2 + 8) + (Int64.toInt32 (f4 f (x2 + 4))))))))], [.int 0], M)) rfl rfl rfl ?_
                          refine ml_st (S' := (250, [(0, .ref m0), (2, .int x2), (4, .int x4), (5, .long (f4 f (x2 + 4))), (8, .int (f2 f ((x2 + 8) + (Int64.toInt32 (f4 f (x2 + 4)))))), (9, .int (((x2 + 8) + (Int64.toInt32 (f4 f (x2 + 4)))) + 2)), (10, .int ((((x2 + 8) + (Int64.toInt32 (f4 f (x2 + 4)))) + 2) + (8 * (f2 f ((x2 + 8) + (Int64.toInt32 (f4 f (x2 + 4)))))))), (13, .int 0)], [], M)) rfl rfl rfl ?_
                          have L_250 : ∀ (n_250 : Nat) (i250_13 : Int32), (2147483648 - i250_13.toInt).toNat ≤ n_250 → 0 ≤ i250_13.toInt → ml (mT g) d (mb_196 g).2 (250, [(0, .ref m0), (2, .int x2), (4, .int x4), (5, .long (f4 f (x2 + 4))), (8, .int (f2 f ((x2 + 8) + (Int64.toInt32 (f4 f (x2 + 4)))))), (9, .int (((x2 + 8) + (Int64.toInt32 (f4 f (x2 + 4)))) + 2)), (10, .int ((((x2 + 8) + (Int64.toInt32 (f4 f (x2 + 4)))) + 2) + (8 * (f2 f ((x2 + 8) + (Int64.toInt32 (f4 f (x2 + 4)))))))), (13, .int i250_13)], [], M) (fun v M' => ∃ (x : Int32) (I' : rI) (R' : rR), v = some (.int x) ∧ RS g m0 q z I' R' M' ∧ eqI [47, 48] I I' ∧ eqR [37, 38, 39, 40, 41, 42] R R' ∧ pw x4.toNatClampNeg R R' ∧ MCD f n x4.toNatClampNeg R' ∧ kn [38, 39, 40, 42, 43, 44] x4.toNatClampNeg R') := by
                            intro n_250
                            induction n_250 with
                            | zero => intro i250_13 hn; exact (loop_zero hn).elim
                            | succ n_250 ih_250 =>
                              intro i250_13 hn_250 hi_250
                              refine ml_blk 2 (S' := (254, [(0, .ref m0), (2, .int x2), (4, .int x4), (5, .long (f4 f (x2 + 4))), (8, .int (f2 f ((x2 + 8) + (Int64.toInt32 (f4 f (x2 + 4)))))), (9, .int (((x2 + 8) + (Int64.toInt32 (f4 f (x2 + 4)))) + 2)), (10, .int ((((x2 + 8) + (Int64.toInt32 (f4 f (x2 + 4)))) + 2) + (8 * (f2 f ((x2 + 8) + (Int64.toInt32 (f4 f (x2 + 4)))))))), (13, .int i250_13)], [.int (f2 f ((x2 + 8) + (Int64.toInt32 (f4 f (x2 + 4))))), .int i250_13], M)) rfl ?_
                              refine ml_if2 (S1 := (353, [(0, .ref m0), (2, .int x2), (4, .int x4), (5, .long (f4 f (x2 + 4))), (8, .int (f2 f ((x2 + 8) + (Int64.toInt32 (f4 f (x2 + 4)))))), (9, .int (((x2 + 8) + (Int64.toInt32 (f4 f (x2 + 4)))) + 2)), (10, .int ((((x2 + 8) + (Int64.toInt32 (f4 f (x2 + 4)))) + 2) + (8 * (f2 f ((x2 + 8) + (Int64.toInt32 (f4 f (x2 + 4)))))))), (13, .int i250_13)], [], M)) (S2 := (257, [(0, .ref m0), (2, .int x2), (4, .int x4), (5, .long (f4 f (x2 + 4))), (8, .int (f2 f ((x2 + 8) + (Int64.toInt32 (f4 f (x2 + 4)))))), (9, .int (((x2 + 8) + (Int64.toInt32 (f4 f (x2 + 4)))) + 2)), (10, .int ((((x2 + 8) + (Int64.toInt32 (f4 f (x2 + 4)))) + 2) + (8 * (f2 f ((x2 + 8) + (Int64.toInt32 (f4 f (x2 + 4)))))))), (13, .int i250_13)], [], M)) rfl rfl rfl (fun c_254 => ?_) (fun c_254 => ?_)
                              · have c_254 : (f2 f ((x2 + 8) + (Int64.toInt32 (f4 f (x2 + 4))))) ≤ i250_13 := of_decide_eq_true c_254
                                refine ml_st (S' := (354, [(0, .ref m0), (2, .int x2), (4, .int x4), (5, .long (f4 f (x2 + 4))), (8, .int (f2 f ((x2 + 8) + (Int64.toInt32 (f4 f (x2 + 4)))))), (9, .int (((x2 + 8) + (Int64.toInt32 (f4 f (x2 + 4)))) + 2)), (10, .int ((((x2 + 8) + (Int64.toInt32 (f4 f (x2 + 4)))) + 2) + (8 * (f2 f ((x2 + 8) + (Int64.toInt32 (f4 f (x2 + 4)))))))), (13, .int i250_13)], [.ref m0], M)) rfl rfl rfl ?_
                                refine rg_ref (S' := (357, [(0, .ref m0), (2, .int x2), (4, .int x4), (5, .long (f4 f (x2 + 4))), (8, .int (f2 f ((x2 + 8) + (Int64.toInt32 (f4 f (x2 + 4)))))), (9, .int (((x2 + 8) + (Int64.toInt32 (f4 f (x2 + 4)))) + 2)), (10, .int ((((x2 + 8) + (Int64.toInt32 (f4 f (x2 + 4)))) + 2) + (8 * (f2 f ((x2 + 8) + (Int64.toInt32 (f4 f (x2 + 4)))))))), (13, .int i250_13)], [.ref (q 39)], M)) rfl hR rfl rfl ?_
                                refine ml_blk 3 (S' := (361, [(0, .ref m0), (2, .int x2), (4, .int x4), (5, .long (f4 f (x2 + 4))), (8, .int (f2 f ((x2 + 8) + (Int64.toInt32 (f4 f (x2 + 4)))))), (9, .int (((x2 + 8) + (Int64.toInt32 (f4 f (x2 + 4)))) + 2)), (10, .int ((((x2 + 8) + (Int64.toInt32 (f4 f (x2 + 4)))) + 2) + (8 * (f2 f ((x2 + 8) + (Int64.toInt32 (f4 f (x2 + 4)))))))), (13, .int i250_13)], [.int x2, .ref m0, .int x4, .ref (q 39)], M)) rfl ?_
                                refine ml_call (a := [.ref m0, .int x2]) (rest := [.int x4, .ref (q 39)]) rfl (hR.okc rfl rfl rfl) rfl rfl (rm_u2 hR hF (by omega) (by omega) (by omega)) (fun v27 M28 h29 => ?_)
                                obtain ⟨rfl, h29⟩ := h29
                                rw [h29]
                                show ml _ _ _ (364, [(0, .ref m0), (2, .int x2), (4, .int x4), (5, .long (f4 f (x2 + 4))), (8, .int (f2 f ((x2 + 8) + (Int64.toInt32 (f4 f (x2 + 4)))))), (9, .int (((x2 + 8) + (Int64.toInt32 (f4 f (x2 + 4)))) + 2)), (10, .int ((((x2 + 8) + (Int64.toInt32 (f4 f (x2 + 4)))) + 2) + (8 * (f2 f ((x2 + 8) + (Int64.toInt32 (f4 f (x2 + 4)))))))), (13, .int i250_13)], [.int (f2 f x2), .int x4, .ref (q 39)], M) _
                                refine ra_st (k := 39) rfl hR rfl (vin_lt ho0 (by omega)) (fun M30 R31 hR32 e33 g34 f35 => ?_)
                                show ml _ _ _ (365, [(0, .ref m0), (2, .int x2), (4, .int x4), (5, .long (f4 f (x2 + 4))), (8, .int (f2 f ((x2 + 8) + (Int64.toInt32 (f4 f (x2 + 4)))))), (9, .int (((x2 + 8) + (Int64.toInt32 (f4 f (x2 + 4)))) + 2)), (10, .int ((((x2 + 8) + (Int64.toInt32 (f4 f (x2 + 4)))) + 2) + (8 * (f2 f ((x2 + 8) + (Int64.toInt32 (f4 f (x2 + 4)))))))), (13, .int i250_13)], [], M30) _
                                refine ml_st (S' := (366, [(0, .ref m0), (2, .int x2), (4, .int x4), (5, .long (f4 f (x2 + 4))), (8, .int (f2 f ((x2 + 8) + (Int64.toInt32 (f4 f (x2 + 4)))))), (9, .int (((x2 + 8) + (Int64.toInt32 (f4 f (x2 + 4)))) + 2)), (10, .int ((((x2 + 8) + (Int64.toInt32 (f4 f (x2 + 4)))) + 2) + (8 * (f2 f ((x2 + 8) + (Int64.toInt32 (f4 f (x2 + 4)))))))), (13, .int i250_13)], [.ref m0], M30)) rfl rfl rfl ?_
                                refine rg_ref (S' := (369, [(0, .ref m0), (2, .int x2), (4, .int x4), (5, .long (f4 f (x2 + 4))), (8, .int (f2 f ((x2 + 8) + (Int64.toInt32 (f4 f (x2 + 4)))))), (9, .int (((x2 + 8) + (Int64.toInt32 (f4 f (x2 + 4)))) + 2)), (10, .int ((((x2 + 8) + (Int64.toInt32 (f4 f (x2 + 4)))) + 2) + (8 * (f2 f ((x2 + 8) + (Int64.toInt32 (f4 f (x2 + 4)))))))), (13, .int i250_13)], [.ref (q 40)], M30)) rfl hR32 rfl rfl ?_
                                refine ml_blk 3 (S' := (373, [(0, .ref m0), (2, .int x2), (4, .int x4), (5, .long (f4 f (x2 + 4))), (8, .int (f2 f ((x2 + 8) + (Int64.toInt32 (f4 f (x2 + 4)))))), (9, .int (((x2 + 8) + (Int64.toInt32 (f4 f (x2 + 4)))) + 2)), (10, .int ((((x2 + 8) + (Int64.toInt32 (f4 f (x2 + 4)))) + 2) + (8 * (f2 f ((x2 + 8) + (Int64.toInt32 (f4 f (x2 + 4)))))))), (13, .int i250_13)], [.int x2, .ref m0, .int x4, .ref (q 40)], M30)) rfl ?_
                                refine ml_blk 2 (S' := (375, [(0, .ref m0), (2, .int x2), (4, .int x4), (5, .long (f4 f (x2 + 4))), (8, .int (f2 f ((x2 + 8) + (Int64.toInt32 (f4 f (x2 + 4)))))), (9, .int (((x2 + 8) + (Int64.toInt32 (f4 f (x2 + 4)))) + 2)), (10, .int ((((x2 + 8) + (Int64.toInt32 (f4 f (x2 + 4)))) + 2) + (8 * (f2 f ((x2 + 8) + (Int64.toInt32 (f4 f (x2 + 4)))))))), (13, .int i250_13)], [.int (x2 + 2), .ref m0, .int x4, .ref (q 40)], M30)) rfl ?_
                                have hF36 : FK n f I R31 := (hF.mono (fun _ _ => rfl) (pRx f35 (by decide)))
                                refine ml_call (a := [.ref m0, .int (x2 + 2)]) (rest := [.int x4, .ref (q 40)]) rfl (hR32.okc rfl rfl rfl) rfl rfl (rm_u2 hR32 hF36 (by omega) (by omega) (by omega)) (fun v37 M38 h39 => ?_)
                                obtain ⟨rfl, h39⟩ := h39
                                rw [h39]
                                show ml _ _ _ (378, [(0, .ref m0), (2, .int x2), (4, .int x4), (5, .long (f4 f (x2 + 4))), (8, .int (f2 f ((x2 + 8) + (Int64.toInt32 (f4 f (x2 + 4)))))), (9, .int (((x2 + 8) + (Int64.toInt32 (f4 f (x2 + 4)))) + 2)), (10, .int ((((x2 + 8) + (Int64.toInt32 (f4 f (x2 + 4)))) + 2) + (8 * (f2 f ((x2 + 8) + (Int64.toInt32 (f4 f (x2 + 4)))))))), (13, .int i250_13)], [.int (f2 f (x2 + 2)), .int x4, .ref (q 40)], M30) _
                                refine ra_st (k := 40) rfl hR32 rfl (vin_lt ho0 (by omega)) (fun M40 R41 hR42 e43 g44 f45 => ?_)
                                show ml _ _ _ (379, [(0, .ref m0), (2, .int x2), (4, .int x4), (5, .long (f4 f (x2 + 4))), (8, .int (f2 f ((x2 + 8) + (Int64.toInt32 (f4 f (x2 + 4)))))), (9, .int (((x2 + 8) + (Int64.toInt32 (f4 f (x2 + 4)))) + 2)), (10, .int ((((x2 + 8) + (Int64.toInt32 (f4 f (x2 + 4)))) + 2) + (8 * (f2 f ((x2 + 8) + (Int64.toInt32 (f4 f (x2 + 4)))))))), (13, .int i250_13)], [], M40) _
                                refine ml_st (S' := (380, [(0, .ref m0), (2, .int x2), (4, .int x4), (5, .long (f4 f (x2 + 4))), (8, .int (f2 f ((x2 + 8) + (Int64.toInt32 (f4 f (x2 + 4)))))), (9, .int (((x2 + 8) + (Int64.toInt32 (f4 f (x2 + 4)))) + 2)), (10, .int ((((x2 + 8) + (Int64.toInt32 (f4 f (x2 + 4)))) + 2) + (8 * (f2 f ((x2 + 8) + (Int64.toInt32 (f4 f (x2 + 4)))))))), (13, .int i250_13)], [.ref m0], M40)) rfl rfl rfl ?_
                                refine rg_ref (S' := (383, [(0, .ref m0), (2, .int x2), (4, .int x4), (5, .long (f4 f (x2 + 4))), (8, .int (f2 f ((x2 + 8) + (Int64.toInt32 (f4 f (x2 + 4)))))), (9, .int (((x2 + 8) + (Int64.toInt32 (f4 f (x2 + 4)))) + 2)), (10, .int ((((x2 + 8) + (Int64.toInt32 (f4 f (x2 + 4)))) + 2) + (8 * (f2 f ((x2 + 8) + (Int64.toInt32 (f4 f (x2 + 4)))))))), (13, .int i250_13)], [.ref (q 38)], M40)) rfl hR42 rfl rfl ?_
                                refine ml_blk 3 (S' := (388, [(0, .ref m0), (2, .int x2), (4, .int x4), (5, .long (f4 f (x2 + 4))), (8, .int (f2 f ((x2 + 8) + (Int64.toInt32 (f4 f (x2 + 4)))))), (9, .int (((x2 + 8) + (Int64.toInt32 (f4 f (x2 + 4)))) + 2)), (10, .int ((((x2 + 8) + (Int64.toInt32 (f4 f (x2 + 4)))) + 2) + (8 * (f2 f ((x2 + 8) + (Int64.toInt32 (f4 f (x2 + 4)))))))), (13, .int i250_13)], [.int (Int64.toInt32 (f4 f (x2 + 4))), .int x4, .ref (q 38)], M40)) rfl ?_
                                refine ra_st (k := 38) rfl hR42 rfl (vin_lt ho0 (by omega)) (fun M46 R47 hR48 e49 g50 f51 => ?_)
                                show ml _ _ _ (389, [(0, .ref m0), (2, .int x2), (4, .int x4), (5, .long (f4 f (x2 + 4))), (8, .int (f2 f ((x2 + 8) + (Int64.toInt32 (f4 f (x2 + 4)))))), (9, .int (((x2 + 8) + (Int64.toInt32 (f4 f (x2 + 4)))) + 2)), (10, .int ((((x2 + 8) + (Int64.toInt32 (f4 f (x2 + 4)))) + 2) + (8 * (f2 f ((x2 + 8) + (Int64.toInt32 (f4 f (x2 + 4)))))))), (13, .int i250_13)], [], M46) _
                                refine ml_st (S' := (390, [(0, .ref m0), (2, .int x2), (4, .int x4), (5, .long (f4 f (x2 + 4))), (8, .int (f2 f ((x2 + 8) + (Int64.toInt32 (f4 f (x2 + 4)))))), (9, .int (((x2 + 8) + (Int64.toInt32 (f4 f (x2 + 4)))) + 2)), (10, .int ((((x2 + 8) + (Int64.toInt32 (f4 f (x2 + 4)))) + 2) + (8 * (f2 f ((x2 + 8) + (Int64.toInt32 (f4 f (x2 + 4)))))))), (13, .int i250_13)], [.ref m0], M46)) rfl rfl rfl ?_
                                refine rg_ref (S' := (393, [(0, .ref m0), (2, .int x2), (4, .int x4), (5, .long (f4 f (x2 + 4))), (8, .int (f2 f ((x2 + 8) + (Int64.toInt32 (f4 f (x2 + 4)))))), (9, .int (((x2 + 8) + (Int64.toInt32 (f4 f (x2 + 4)))) + 2)), (10, .int ((((x2 + 8) + (Int64.toInt32 (f4 f (x2 + 4)))) + 2) + (8 * (f2 f ((x2 + 8) + (Int64.toInt32 (f4 f (x2 + 4)))))))), (13, .int i250_13)], [.ref (q 37)], M46)) rfl hR48 rfl rfl ?_
                                refine ml_blk 2 (S' := (396, [(0, .ref m0), (2, .int x2), (4, .int x4), (5, .long (f4 f (x2 + 4))), (8, .int (f2 f ((x2 + 8) + (Int64.toInt32 (f4 f (x2 + 4)))))), (9, .int (((x2 + 8) + (Int64.toInt32 (f4 f (x2 + 4)))) + 2)), (10, .int ((((x2 + 8) + (Int64.toInt32 (f4 f (x2 + 4)))) + 2) + (8 * (f2 f ((x2 + 8) + (Int64.toInt32 (f4 f (x2 + 4)))))))), (13, .int i250_13)], [.ref m0, .int x4, .ref (q 37)], M46)) rfl ?_
                                refine rg_int (S' := (399, [(0, .ref m0), (2, .int x2), (4, .int x4), (5, .long (f4 f (x2 + 4))), (8, .int (f2 f ((x2 + 8) + (Int64.toInt32 (f4 f (x2 + 4)))))), (9, .int (((x2 + 8) + (Int64.toInt32 (f4 f (x2 + 4)))) + 2)), (10, .int ((((x2 + 8) + (Int64.toInt32 (f4 f (x2 + 4)))) + 2) + (8 * (f2 f ((x2 + 8) + (Int64.toInt32 (f4 f (x2 + 4)))))))), (13, .int i250_13)], [.int 0, .int x4, .ref (q 37)], M46)) rfl hR48 rfl (hF.2.1) rfl ?_
                                refine ml_blk 3 (S' := (403, [(0, .ref m0), (2, .int x2), (4, .int x4), (5, .long (f4 f (x2 + 4))), (8, .int (f2 f ((x2 + 8) + (Int64.toInt32 (f4 f (x2 + 4)))))), (9, .int (((x2 + 8) + (Int64.toInt32 (f4 f (x2 + 4)))) + 2)), (10, .int ((((x2 + 8) + (Int64.toInt32 (f4 f (x2 + 4)))) + 2) + (8 * (f2 f ((x2 + 8) + (Int64.toInt32 (f4 f (x2 + 4)))))))), (13, .int i250_13)], [.int 8, .int (0 + x2), .int x4, .ref (q 37)], M46)) rfl ?_
                                refine ml_st (S' := (404, [(0, .ref m0), (2, .int x2), (4, .int x4), (5, .long (f4 f (x2 + 4))), (8, .int (f2 f ((x2 + 8) + (Int64.toInt32 (f4 f (x2 + 4)))))), (9, .int (((x2 + 8) + (Int64.toInt32 (f4 f (x2 + 4)))) + 2)), (10, .int ((((x2 + 8) + (Int64.toInt32 (f4 f (x2 + 4)))) + 2) + (8 * (f2 f ((x2 + 8) + (Int64.toInt32 (f4 f (x2 + 4)))))))), (13, .int i250_13)], [.int ((0 + x2) + 8), .int x4, .ref (q 37)], M46)) rfl rfl rfl ?_
                                refine ra_st (k := 37) rfl hR48 rfl (vin_lt ho0 (by omega)) (fun M52 R53 hR54 e55 g56 f57 => ?_)
                                show ml _ _ _ (405, [(0, .ref m0), (2, .int x2), (4, .int x4), (5, .long (f4 f (x2 + 4))), (8, .int (f2 f ((x2 + 8) + (Int64.toInt32 (f4 f (x2 + 4)))))), (9, .int (((x2 + 8) + (Int64.toInt32 (f4 f (x2 + 4)))) + 2)), (10, .int ((((x2 + 8) + (Int64.toInt32 (f4 f (x2 + 4)))) + 2) + (8 * (f2 f ((x2 + 8) + (Int64.toInt32 (f4 f (x2 + 4)))))))), (13, .int i250_13)], [], M52) _
                                refine ml_st (S' := (406, [(0, .ref m0), (2, .int x2), (4, .int x4), (5, .long (f4 f (x2 + 4))), (8, .int (f2 f ((x2 + 8) + (Int64.toInt32 (f4 f (x2 + 4)))))), (9, .int (((x2 + 8) + (Int64.toInt32 (f4 f (x2 + 4)))) + 2)), (10, .int ((((x2 + 8) + (Int64.toInt32 (f4 f (x2 + 4)))) + 2) + (8 * (f2 f ((x2 + 8) + (Int64.toInt32 (f4 f (x2 + 4)))))))), (13, .int i250_13)], [.ref m0], M52)) rfl rfl rfl ?_
                                refine rg_ref (S' := (409, [(0, .ref m0), (2, .int x2), (4, .int x4), (5, .long (f4 f (x2 + 4))), (8, .int (f2 f ((x2 + 8) + (Int64.toInt32 (f4 f (x2 + 4)))))), (9, .int (((x2 + 8) + (Int64.toInt32 (f4 f (x2 + 4)))) + 2)), (10, .int ((((x2 + 8) + (Int64.toInt32 (f4 f (x2 + 4)))) + 2) + (8 * (f2 f ((x2 + 8) + (Int64.toInt32 (f4 f (x2 + 4)))))))), (13, .int i250_13)], [.ref (q 41)], M52)) rfl hR54 rfl rfl ?_
                                refine ml_blk 2 (S' := (412, [(0, .ref m0), (2, .int x2), (4, .int x4), (5, .long (f4 f (x2 + 4))), (8, .int (f2 f ((x2 + 8) + (Int64.toInt32 (f4 f (x2 + 4)))))), (9, .int (((x2 + 8) + (Int64.toInt32 (f4 f (x2 + 4)))) + 2)), (10, .int ((((x2 + 8) + (Int64.toInt32 (f4 f (x2 + 4)))) + 2) + (8 * (f2 f ((x2 + 8) + (Int64.toInt32 (f4 f (x2 + 4)))))))), (13, .int i250_13)], [.ref m0, .int x4, .ref (q 41)], M52)) rfl ?_
                                refine rg_int (S' := (415, [(0, .ref m0), (2, .int x2), (4, .int x4), (5, .long (f4 f (x2 + 4))), (8, .int (f2 f ((x2 + 8) + (Int64.toInt32 (f4 f (x2 + 4)))))), (9, .int (((x2 + 8) + (Int64.toInt32 (f4 f (x2 + 4)))) + 2)), (10, .int ((((x2 + 8) + (Int64.toInt32 (f4 f (x2 + 4)))) + 2) + (8 * (f2 f ((x2 + 8) + (Int64.toInt32 (f4 f (x2 + 4)))))))), (13, .int i250_13)], [.int 0, .int x4, .ref (q 41)], M52)) rfl hR54 rfl (hF.2.1) rfl ?_
                                refine ml_blk 2 (S' := (418, [(0, .ref m0), (2, .int x2), (4, .int x4), (5, .long (f4 f (x2 + 4))), (8, .int (f2 f ((x2 + 8) + (Int64.toInt32 (f4 f (x2 + 4)))))), (9, .int (((x2 + 8) + (Int64.toInt32 (f4 f (x2 + 4)))) + 2)), (10, .int ((((x2 + 8) + (Int64.toInt32 (f4 f (x2 + 4)))) + 2) + (8 * (f2 f ((x2 + 8) + (Int64.toInt32 (f4 f (x2 + 4)))))))), (13, .int i250_13)], [.int (0 + (((x2 + 8) + (Int64.toInt32 (f4 f (x2 + 4)))) + 2)), .int x4, .ref (q 41)], M52)) rfl ?_
                                refine ra_st (k := 41) rfl hR54 rfl (vin_lt ho0 (by omega)) (fun M58 R59 hR60 e61 g62 f63 => ?_)
                                show ml _ _ _ (419, [(0, .ref m0), (2, .int x2), (4, .int x4), (5, .long (f4 f (x2 + 4))), (8, .int (f2 f ((x2 + 8) + (Int64.toInt32 (f4 f (x2 + 4)))))), (9, .int (((x2 + 8) + (Int64.toInt32 (f4 f (x2 + 4)))) + 2)), (10, .int ((((x2 + 8) + (Int64.toInt32 (f4 f (x2 + 4)))) + 2) + (8 * (f2 f ((x2 + 8) + (Int64.toInt32 (f4 f (x2 + 4)))))))), (13, .int i250_13)], [], M58) _
                                refine ml_st (S' := (420, [(0, .ref m0), (2, .int x2), (4, .int x4), (5, .long (f4 f (x2 + 4))), (8, .int (f2 f ((x2 + 8) + (Int64.toInt32 (f4 f (x2 + 4)))))), (9, .int (((x2 + 8) + (Int64.toInt32 (f4 f (x2 + 4)))) + 2)), (10, .int ((((x2 + 8) + (Int64.toInt32 (f4 f (x2 + 4)))) + 2) + (8 * (f2 f ((x2 + 8) + (Int64.toInt32 (f4 f (x2 + 4)))))))), (13, .int i250_13)], [.ref m0], M58)) rfl rfl rfl ?_
                                refine rg_ref (S' := (423, [(0, .ref m0), (2, .int x2), (4, .int x4), (5, .long (f4 f (x2 + 4))), (8, .int (f2 f ((x2 + 8) + (Int64.toInt32 (f4 f (x2 + 4)))))), (9, .int (((x2 + 8) + (Int64.toInt32 (f4 f (x2 + 4)))) + 2)), (10, .int ((((x2 + 8) + (Int64.toInt32 (f4 f (x2 + 4)))) + 2) + (8 * (f2 f ((x2 + 8) + (Int64.toInt32 (f4 f (x2 + 4)))))))), (13, .int i250_13)], [.ref (q 42)], M58)) rfl hR60 rfl rfl ?_
                                refine ml_blk 2 (S' := (427, [(0, .ref m0), (2, .int x2), (4, .int x4), (5, .long (f4 f (x2 + 4))), (8, .int (f2 f ((x2 + 8) + (Int64.toInt32 (f4 f (x2 + 4)))))), (9, .int (((x2 + 8) + (Int64.toInt32 (f4 f (x2 + 4)))) + 2)), (10, .int ((((x2 + 8) + (Int64.toInt32 (f4 f (x2 + 4)))) + 2) + (8 * (f2 f ((x2 + 8) + (Int64.toInt32 (f4 f (x2 + 4)))))))), (13, .int i250_13)], [.int (f2 f ((x2 + 8) + (Int64.toInt32 (f4 f (x2 + 4))))), .int x4, .ref (q 42)], M58)) rfl ?_
                                refine ra_st (k := 42) rfl hR60 rfl (vin_lt ho0 (by omega)) (fun M64 R65 hR66 e67 g68 f69 => ?_)
                                show ml _ _ _ (428, [(0, .ref m0), (2, .int x2), (4, .int x4), (5, .long (f4 f (x2 + 4))), (8, .int (f2 f ((x2 + 8) + (Int64.toInt32 (f4 f (x2 + 4)))))), (9, .int (((x2 + 8) + (Int64.toInt32 (f4 f (x2 + 4)))) + 2)), (10, .int ((((x2 + 8) + (Int64.toInt32 (f4 f (x2 + 4)))) + 2) + (8 * (f2 f ((x2 + 8) + (Int64.toInt32 (f4 f (x2 + 4)))))))), (13, .int i250_13)], [], M64) _
                                refine ml_blk 3 (S' := (432, [(0, .ref m0), (2, .int x2), (4, .int x4), (5, .long (f4 f (x2 + 4))), (8, .int (f2 f ((x2 + 8) + (Int64.toInt32 (f4 f (x2 + 4)))))), (9, .int (((x2 + 8) + (Int64.toInt32 (f4 f (x2 + 4)))) + 2)), (10, .int ((((x2 + 8) + (Int64.toInt32 (f4 f (x2 + 4)))) + 2) + (8 * (f2 f ((x2 + 8) + (Int64.toInt32 (f4 f (x2 + 4)))))))), (13, .int i250_13)], [.int 3, .int ((((x2 + 8) + (Int64.toInt32 (f4 f (x2 + 4)))) + 2) + (8 * (f2 f ((x2 + 8) + (Int64.toInt32 (f4 f (x2 + 4))))))), .ref m0], M64)) rfl ?_
                                refine ml_st (S' := (434, [(0, .ref m0), (2, .int x2), (4, .int x4), (5, .long (f4 f (x2 + 4))), (8, .int (f2 f ((x2 + 8) + (Int64.toInt32 (f4 f (x2 + 4)))))), (9, .int (((x2 + 8) + (Int64.toInt32 (f4 f (x2 + 4)))) + 2)), (10, .int ((((x2 + 8) + (Int64.toInt32 (f4 f (x2 + 4)))) + 2) + (8 * (f2 f ((x2 + 8) + (Int64.toInt32 (f4 f (x2 + 4)))))))), (13, .int i250_13)], [.int x4, .int 3, .int ((((x2 + 8) + (Int64.toInt32 (f4 f (x2 + 4)))) + 2) + (8 * (f2 f ((x2 + 8) + (Int64.toInt32 (f4 f (x2 + 4))))))), .ref m0], M64)) rfl rfl rfl ?_
                                have hF70 : FK n f I R65 := (((((hF36.mono (fun _ _ => rfl) (pRx f45 (by decide))).mono (fun _ _ => rfl) (pRx f51 (by decide))).mono (fun _ _ => rfl) (pRx f57 (by decide))).mono (fun _ _ => rfl) (pRx f63 (by decide))).mono (fun _ _ => rfl) (pRx f69 (by decide)))
                                have hY71 : SK S cN sa sl ch I R65 := ((((((hY.mono (fun _ _ => rfl) (pRx f35 (by decide))).mono (fun _ _ => rfl) (pRx f45 (by decide))).mono (fun _ _ => rfl) (pRx f51 (by decide))).mono (fun _ _ => rfl) (pRx f57 (by decide))).mono (fun _ _ => rfl) (pRx f63 (by decide))).mono (fun _ _ => rfl) (pRx f69 (by decide)))
                                have hP72 : PK n f S cp mj pa py I R65 := ((((((hP.mono (fun _ _ => rfl) (pRx f35 (by decide))).mono (fun _ _ => rfl) (pRx f45 (by decide))).mono (fun _ _ => rfl) (pRx f51 (by decide))).mono (fun _ _ => rfl) (pRx f57 (by decide))).mono (fun _ _ => rfl) (pRx f63 (by decide))).mono (fun _ _ => rfl) (pRx f69 (by decide)))
                                have hK73 : KW I R65 := ((((((hK.mono (fun _ _ => rfl) (pRx f35 (by decide))).mono (fun _ _ => rfl) (pRx f45 (by decide))).mono (fun _ _ => rfl) (pRx f51 (by decide))).mono (fun _ _ => rfl) (pRx f57 (by decide))).mono (fun _ _ => rfl) (pRx f63 (by decide))).mono (fun _ _ => rfl) (pRx f69 (by decide)))
                                refine ml_call (a := [.ref m0, .int ((((x2 + 8) + (Int64.toInt32 (f4 f (x2 + 4)))) + 2) + (8 * (f2 f ((x2 + 8) + (Int64.toInt32 (f4 f (x2 + 4))))))), .int 3, .int x4]) (rest := []) rfl (hR66.okc rfl rfl rfl) rfl rfl (rm_checkAttributes3 hR66 hF70 hY71 hP72 hK73 (rfl) (hatt) (by omega)) (fun v74 M75 h76 => ?_)
                                obtain ⟨u82, I77, R78, rfl, hR79, hI80, hV81, w83⟩ := h76
                                show ml _ _ _ (437, [(0, .ref m0), (2, .int x2), (4, .int x4), (5, .long (f4 f (x2 + 4))), (8, .int (f2 f ((x2 + 8) + (Int64.toInt32 (f4 f (x2 + 4)))))), (9, .int (((x2 + 8) + (Int64.toInt32 (f4 f (x2 + 4)))) + 2)), (10, .int ((((x2 + 8) + (Int64.toInt32 (f4 f (x2 + 4)))) + 2) + (8 * (f2 f ((x2 + 8) + (Int64.toInt32 (f4 f (x2 + 4)))))))), (13, .int i250_13)], [.int u82], M75) _
                                refine ml_if (S1 := (444, [(0, .ref m0), (2, .int x2), (4, .int x4), (5, .long (f4 f (x2 + 4))), (8, .int (f2 f ((x2 + 8) + (Int64.toInt32 (f4 f (x2 + 4)))))), (9, .int (((x2 + 8) + (Int64.toInt32 (f4 f (x2 + 4)))) + 2)), (10, .int ((((x2 + 8) + (Int64.toInt32 (f4 f (x2 + 4)))) + 2) + (8 * (f2 f ((x2 + 8) + (Int64.toInt32 (f4 f (x2 + 4)))))))), (13, .int i250_13)], [], M75)) (S2 := (440, [(0, .ref m0), (2, .int x2), (4, .int x4), (5, .long (f4 f (x2 + 4))), (8, .int (f2 f ((x2 + 8) + (Int64.toInt32 (f4 f (x2 + 4)))))), (9, .int (((x2 + 8) + (Int64.toInt32 (f4 f (x2 + 4)))) + 2)), (10, .int ((((x2 + 8) + (Int64.toInt32 (f4 f (x2 + 4)))) + 2) + (8 * (f2 f ((x2 + 8) + (Int64.toInt32 (f4 f (x2 + 4)))))))), (13, .int i250_13)], [], M75)) rfl rfl rfl (fun c_437 => ?_) (fun c_437 => ?_)
                                · have c_437 : 0 ≤ u82 := of_decide_eq_true c_437
                                  refine ml_st (S' := (445, [], [.int 0], M75)) rfl rfl rfl ?_
                                  exact ml_ret rfl (rfl) (⟨_, _, _, rfl, hR79, (eqI.rf.tr hI80 (by decide)), (((((((eqR.rf.put f35 (by decide)).put f45 (by decide)).put f51 (by decide)).put f57 (by decide)).put f63 (by decide)).put f69 (by decide)).tr hV81 (by decide)), ⟨(((((((pw.rf.st g34 f35 rfl).st g44 f45 rfl).st g50 f51 rfl).st g56 f57 rfl).st g62 f63 rfl).st g68 f69 rfl).eq hV81), ⟨_, (congrFun ((hV81 37 (by decide)).trans ((f69 37 (by decide)).trans ((f63 37 (by decide))))) _).trans e55, Or.inr ⟨_, _, _, _, _, (congrFun ((hV81 38 (by decide)).trans ((f69 38 (by decide)).trans ((f63 38 (by decide)).trans ((f57 38 (by decide)))))) _).trans e49, (congrFun ((hV81 41 (by decide)).trans ((f69 41 (by decide)))) _).trans e61, (congrFun ((hV81 42 (by decide))) _).trans e67, (congrFun ((hV81 39 (by decide)).trans ((f69 39 (by decide)).trans ((f63 39 (by decide)).trans ((f57 39 (by decide)).trans ((f51 39 (by decide)).trans ((f45 39 (by decide)))))))) _).trans e33, (congrFun ((hV81 40 (by decide)).trans ((f69 40 (by decide)).trans ((f63 40 (by decide)).trans ((f57 40 (by decide)).trans ((f51 40 (by decide))))))) _).trans e43, by omega, by rw [z_add, i_add (by omega) (by omega), i8_, hdi]; omega, by rw [z_add]; omega, by omega, by rw [z_add]; omega⟩⟩, (kn.eq (kn.st (kn.st (kn.st (kn.st (kn.st (kn.st hkn e33 g34 f35) e43 g44 f45) e49 g50 f51) e55 g56 f57) e61 g62 f63) e67 g68 f69) hV81 (by decide))⟩⟩)
                                · have c_437 : ¬ (0 ≤ u82) := of_decide_eq_false c_437
                                  refine ml_st (S' := (441, [(0, .ref m0), (2, .int x2), (4, .int x4), (5, .long (f4 f (x2 + 4))), (8, .int (f2 f ((x2 + 8) + (Int64.toInt32 (f4 f (x2 + 4)))))), (9, .int (((x2 + 8) + (Int64.toInt32 (f4 f (x2 + 4)))) + 2)), (10, .int ((((x2 + 8) + (Int64.toInt32 (f4 f (x2 + 4)))) + 2) + (8 * (f2 f ((x2 + 8) + (Int64.toInt32 (f4 f (x2 + 4)))))))), (13, .int i250_13)], [.int (-1)], M75)) rfl rfl rfl ?_
                                  refine ml_st (S' := (445, [], [.int (-1)], M75)) rfl rfl rfl ?_
                                  exact ml_ret rfl (rfl) (⟨_, _, _, rfl, hR79, (eqI.rf.tr hI80 (by decide)), (((((((eqR.rf.put f35 (by decide)).put f45 (by decide)).put f51 (by decide)).put f57 (by decide)).put f63 (by decide)).put f69 (by decide)).tr hV81 (by decide)), ⟨(((((((pw.rf.st g34 f35 rfl).st g44 f45 rfl).st g50 f51 rfl).st g56 f57 rfl).st g62 f63 rfl).st g68 f69 rfl).eq hV81), ⟨_, (congrFun ((hV81 37 (by decide)).trans ((f69 37 (by decide)).trans ((f63 37 (by decide))))) _).trans e55, Or.inr ⟨_, _, _, _, _, (congrFun ((hV81 38 (by decide)).trans ((f69 38 (by decide)).trans ((f63 38 (by decide)).trans ((f57 38 (by decide)))))) _).trans e49, (congrFun ((hV81 41 (by decide)).trans ((f69 41 (by decide)))) _).trans e61, (congrFun ((hV81 42 (by decide))) _).trans e67, (congrFun ((hV81 39 (by decide)).trans ((f69 39 (by decide)).trans ((f63 39 (by decide)).trans ((f57 39 (by decide)).trans ((f51 39 (by decide)).trans ((f45 39 (by decide)))))))) _).trans e33, (congrFun ((hV81 40 (by decide)).trans ((f69 40 (by decide)).trans ((f63 40 (by decide)).trans ((f57 40 (by decide)).trans ((f51 40 (by decide))))))) _).trans e43, by omega, by rw [z_add, i_add (by omega) (by omega), i8_, hdi]; omega, by rw [z_add]; omega, by omega, by rw [z_add]; omega⟩⟩, (kn.eq (kn.st (kn.st (kn.st (kn.st (kn.st (kn.st hkn e33 g34 f35) e43 g44 f45) e49 g50 f51) e55 g56 f57) e61 g62 f63) e67 g68 f69) hV81 (by decide))⟩⟩)
                              · have c_254 : ¬ ((f2 f ((x2 + 8) + (Int64.toInt32 (f4 f (x2 + 4))))) ≤ i250_13) := of_decide_eq_false c_254
                                have hrl := i_nle c_254
                                have h8k := eight_k (k := i250_13) hi_250 (by omega)
                                have hrk : (((x2 + 8 + Int64.toInt32 (f4 f (x2 + 4))) + 2) + 8 * i250_13).toInt = x2.toInt + 10 + (f4 f (x2 + 4)).toInt + 8 * i250_13.toInt := by rw [i_add (by omega) (by omega), h8k, hqr]
                                have hk2 : ((((x2 + 8 + Int64.toInt32 (f4 f (x2 + 4))) + 2) + 8 * i250_13) + 2).toInt = (((x2 + 8 + Int64.toInt32 (f4 f (x2 + 4))) + 2) + 8 * i250_13).toInt + 2 := i_add (by have : (2 : Int32).toInt = 2 := rfl; omega) (by have : (2 : Int32).toInt = 2 := rfl; omega)
                                have hk4 : ((((x2 + 8 + Int64.toInt32 (f4 f (x2 + 4))) + 2) + 8 * i250_13) + 4).toInt = (((x2 + 8 + Int64.toInt32 (f4 f (x2 + 4))) + 2) + 8 * i250_13).toInt + 4 := i_add (by have : (4 : Int32).toInt = 4 := rfl; omega) (by have : (4 : Int32).toInt = 4 := rfl; omega)
                                have hk6 : ((((x2 + 8 + Int64.toInt32 (f4 f (x2 + 4))) + 2) + 8 * i250_13) + 6).toInt = (((x2 + 8 + Int64.toInt32 (f4 f (x2 + 4))) + 2) + 8 * i250_13).toInt + 6 := i_add (by have : (6 : Int32).toInt = 6 := rfl; omega) (by have : (6 : Int32).toInt = 6 := rfl; omega)
                                refine ml_blk 3 (S' := (263, [(0, .ref m0), (2, .int x2), (4, .int x4), (5, .long (f4 f (x2 + 4))), (8, .int (f2 f ((x2 + 8) + (Int64.toInt32 (f4 f (x2 + 4)))))), (9, .int (((x2 + 8) + (Int64.toInt32 (f4 f (x2 + 4)))) + 2)), (10, .int ((((x2 + 8) + (Int64.toInt32 (f4 f (x2 + 4)))) + 2) + (8 * (f2 f ((x2 + 8) + (Int64.toInt32 (f4 f (x2 + 4)))))))), (13, .int i250_13)], [.int i250_13, .int 8, .int (((x2 + 8) + (Int64.toInt32 (f4 f (x2 + 4)))) + 2)], M)) rfl ?_
                                refine ml_blk 2 (S' := (265, [(0, .ref m0), (2, .int x2), (4, .int x4), (5, .long (f4 f (x2 + 4))), (8, .int (f2 f ((x2 + 8) + (Int64.toInt32 (f4 f (x2 + 4)))))), (9, .int (((x2 + 8) + (Int64.toInt32 (f4 f (x2 + 4)))) + 2)), (10, .int ((((x2 + 8) + (Int64.toInt32 (f4 f (x2 + 4)))) + 2) + (8 * (f2 f ((x2 + 8) + (Int64.toInt32 (f4 f (x2 + 4)))))))), (13, .int i250_13)], [.int ((((x2 + 8) + (Int64.toInt32 (f4 f (x2 + 4)))) + 2) + (8 * i250_13))], M)) rfl ?_
                                refine ml_st (S' := (267, [(14, .int ((((x2 + 8) + (Int64.toInt32 (f4 f (x2 + 4)))) + 2) + (8 * i250_13))), (0, .ref m0), (2, .int x2), (4, .int x4), (5, .long (f4 f (x2 + 4))), (8, .int (f2 f ((x2 + 8) + (Int64.toInt32 (f4 f (x2 + 4)))))), (9, .int (((x2 + 8) + (Int64.toInt32 (f4 f (x2 + 4)))) + 2)), (10, .int ((((x2 + 8) + (Int64.toInt32 (f4 f (x2 + 4)))) + 2) + (8 * (f2 f ((x2 + 8) + (Int64.toInt32 (f4 f (x2 + 4)))))))), (13, .int i250_13)], [], M)) rfl rfl rfl ?_
                                refine ml_blk 2 (S' := (270, [(14, .int ((((x2 + 8) + (Int64.toInt32 (f4 f (x2 + 4)))) + 2) + (8 * i250_13))), (0, .ref m0), (2, .int x2), (4, .int x4), (5, .long (f4 f (x2 + 4))), (8, .int (f2 f ((x2 + 8) + (Int64.toInt32 (f4 f (x2 + 4)))))), (9, .int (((x2 + 8) + (Int64.toInt32 (f4 f (x2 + 4)))) + 2)), (10, .int ((((x2 + 8) + (Int64.toInt32 (f4 f (x2 + 4)))) + 2) + (8 * (f2 f ((x2 + 8) + (Int64.toInt32 (f4 f (x2 + 4)))))))), (13, .int i250_13)], [.int ((((x2 + 8) + (Int64.toInt32 (f4 f (x2 + 4)))) + 2) + (8 * i250_13)), .ref m0], M)) rfl ?_
                                refine ml_call (a := [.ref m0, .int ((((x2 + 8) + (Int64.toInt32 (f4 f (x2 + 4)))) + 2) + (8 * i250_13))]) (rest := []) rfl (hR.okc rfl rfl rfl) rfl rfl (rm_u2 hR hF (by omega) (by omega) (by omega)) (fun v84 M85 h86 => ?_)
                                obtain ⟨rfl, h86⟩ := h86
                                rw [h86]
                                show ml _ _ _ (273, [(14, .int ((((x2 + 8) + (Int64.toInt32 (f4 f (x2 + 4)))) + 2) + (8 * i250_13))), (0, .ref m0), (2, .int x2), (4, .int x4), (5, .long (f4 f (x2 + 4))), (8, .int (f2 f ((x2 + 8) + (Int64.toInt32 (f4 f (x2 + 4)))))), (9, .int (((x2 + 8) + (Int64.toInt32 (f4 f (x2 + 4)))) + 2)), (10, .int ((((x2 + 8) + (Int64.toInt32 (f4 f (x2 + 4)))) + 2) + (8 * (f2 f ((x2 + 8) + (Int64.toInt32 (f4 f (x2 + 4)))))))), (13, .int i250_13)], [.int (f2 f ((((x2 + 8) + (Int64.toInt32 (f4 f (x2 + 4)))) + 2) + (8 * i250_13)))], M) _
                                refine ml_blk 3 (S' := (277, [(14, .int ((((x2 + 8) + (Int64.toInt32 (f4 f (x2 + 4)))) + 2) + (8 * i250_13))), (0, .ref m0), (2, .int x2), (4, .int x4), (5, .long (f4 f (x2 + 4))), (8, .int (f2 f ((x2 + 8) + (Int64.toInt32 (f4 f (x2 + 4)))))), (9, .int (((x2 + 8) + (Int64.toInt32 (f4 f (x2 + 4)))) + 2)), (10, .int ((((x2 + 8) + (Int64.toInt32 (f4 f (x2 + 4)))) + 2) + (8 * (f2 f ((x2 + 8) + (Int64.toInt32 (f4 f (x2 + 4)))))))), (13, .int i250_13)], [.int 2, .int ((((x2 + 8) + (Int64.toInt32 (f4 f (x2 + 4)))) + 2) + (8 * i250_13)), .ref m0, .int (f2 f ((((x2 + 8) + (Int64.toInt32 (f4 f (x2 + 4)))) + 2) + (8 * i250_13)))], M)) rfl ?_
                                refine ml_st (S' := (278, [(14, .int ((((x2 + 8) + (Int64.toInt32 (f4 f (x2 + 4)))) + 2) + (8 * i250_13))), (0, .ref m0), (2, .int x2), (4, .int x4), (5, .long (f4 f (x2 + 4))), (8, .int (f2 f ((x2 + 8) + (Int64.toInt32 (f4 f (x2 + 4)))))), (9, .int (((x2 + 8) + (Int64.toInt32 (f4 f (x2 + 4)))) + 2)), (10, .int ((((x2 + 8) + (Int64.toInt32 (f4 f (x2 + 4)))) + 2) + (8 * (f2 f ((x2 + 8) + (Int64.toInt32 (f4 f (x2 + 4)))))))), (13, .int i250_13)], [.int (((((x2 + 8) + (Int64.toInt32 (f4 f (x2 + 4)))) + 2) + (8 * i250_13)) + 2), .ref m0, .int (f2 f ((((x2 + 8) + (Int64.toInt32 (f4 f (x2 + 4)))) + 2) + (8 * i250_13)))], M)) rfl rfl rfl ?_
                                refine ml_call (a := [.ref m0, .int (((((x2 + 8) + (Int64.toInt32 (f4 f (x2 + 4)))) + 2) + (8 * i250_13)) + 2)]) (rest := [.int (f2 f ((((x2 + 8) + (Int64.toInt32 (f4 f (x2 + 4)))) + 2) + (8 * i250_13)))]) rfl (hR.okc rfl rfl rfl) rfl rfl (rm_u2 hR hF (by omega) (by omega) (by omega)) (fun v87 M88 h89 => ?_)
                                obtain ⟨rfl, h89⟩ := h89
                                rw [h89]
                                show ml _ _ _ (281, [(14, .int ((((x2 + 8) + (Int64.toInt32 (f4 f (x2 + 4)))) + 2) + (8 * i250_13))), (0, .ref m0), (2, .int x2), (4, .int x4), (5, .long (f4 f (x2 + 4))), (8, .int (f2 f ((x2 + 8) + (Int64.toInt32 (f4 f (x2 + 4)))))), (9, .int (((x2 + 8) + (Int64.toInt32 (f4 f (x2 + 4)))) + 2)), (10, .int ((((x2 + 8) + (Int64.toInt32 (f4 f (x2 + 4)))) + 2) + (8 * (f2 f ((x2 + 8) + (Int64.toInt32 (f4 f (x2 + 4)))))))), (13, .int i250_13)], [.int (f2 f (((((x2 + 8) + (Int64.toInt32 (f4 f (x2 + 4)))) + 2) + (8 * i250_13)) + 2)), .int (f2 f ((((x2 + 8) + (Int64.toInt32 (f4 f (x2 + 4)))) + 2) + (8 * i250_13)))], M) _
                                have J_344 : ml (mT g) d (mb_196 g).2 (344, [], [], M) (fun v M' => ∃ (x : Int32) (I' : rI) (R' : rR), v = some (.int x) ∧ RS g m0 q z I' R' M' ∧ eqI [47, 48] I I' ∧ eqR [37, 38, 39, 40, 41, 42] R R' ∧ pw x4.toNatClampNeg R R' ∧ MCD f n x4.toNatClampNeg R' ∧ kn [38, 39, 40, 42, 43, 44] x4.toNatClampNeg R') := by
                                  refine ml_st (S' := (346, [], [.int 43], M)) rfl rfl rfl ?_
                                  exact ml_ret rfl (rfl) (⟨_, _, _, rfl, hR, eqI.rf, eqR.rf, ⟨pw.rf, hmc, hkn⟩⟩)
                                refine ml_if2 (S1 := (344, [], [], M)) (S2 := (284, [(14, .int ((((x2 + 8) + (Int64.toInt32 (f4 f (x2 + 4)))) + 2) + (8 * i250_13))), (0, .ref m0), (2, .int x2), (4, .int x4), (5, .long (f4 f (x2 + 4))), (8, .int (f2 f ((x2 + 8) + (Int64.toInt32 (f4 f (x2 + 4)))))), (9, .int (((x2 + 8) + (Int64.toInt32 (f4 f (x2 + 4)))) + 2)), (10, .int ((((x2 + 8) + (Int64.toInt32 (f4 f (x2 + 4)))) + 2) + (8 * (f2 f ((x2 + 8) + (Int64.toInt32 (f4 f (x2 + 4)))))))), (13, .int i250_13)], [], M)) rfl rfl rfl (fun c_281 => ?_) (fun c_281 => ?_)
                                · have c_281 : (f2 f (((((x2 + 8) + (Int64.toInt32 (f4 f (x2 + 4)))) + 2) + (8 * i250_13)) + 2)) ≤ (f2 f ((((x2 + 8) + (Int64.toInt32 (f4 f (x2 + 4)))) + 2) + (8 * i250_13))) := of_decide_eq_true c_281
                                  exact J_344 
                                · have c_281 : ¬ ((f2 f (((((x2 + 8) + (Int64.toInt32 (f4 f (x2 + 4)))) + 2) + (8 * i250_13)) + 2)) ≤ (f2 f ((((x2 + 8) + (Int64.toInt32 (f4 f (x2 + 4)))) + 2) + (8 * i250_13)))) := of_decide_eq_false c_281
                                  refine ml_blk 3 (S' := (288, [(14, .int ((((x2 + 8) + (Int64.toInt32 (f4 f (x2 + 4)))) + 2) + (8 * i250_13))), (0, .ref m0), (2, .int x2), (4, .int x4), (5, .long (f4 f (x2 + 4))), (8, .int (f2 f ((x2 + 8) + (Int64.toInt32 (f4 f (x2 + 4)))))), (9, .int (((x2 + 8) + (Int64.toInt32 (f4 f (x2 + 4)))) + 2)), (10, .int ((((x2 + 8) + (Int64.toInt32 (f4 f (x2 + 4)))) + 2) + (8 * (f2 f ((x2 + 8) + (Int64.toInt32 (f4 f (x2 + 4)))))))), (13, .int i250_13)], [.int 2, .int ((((x2 + 8) + (Int64.toInt32 (f4 f (x2 + 4)))) + 2) + (8 * i250_13)), .ref m0], M)) rfl ?_
                                  refine ml_st (S' := (289, [(14, .int ((((x2 + 8) + (Int64.toInt32 (f4 f (x2 + 4)))) + 2) + (8 * i250_13))), (0, .ref m0), (2, .int x2), (4, .int x4), (5, .long (f4 f (x2 + 4))), (8, .int (f2 f ((x2 + 8) + (Int64.toInt32 (f4 f (x2 + 4)))))), (9, .int (((x2 + 8) + (Int64.toInt32 (f4 f (x2 + 4)))) + 2)), (10, .int ((((x2 + 8) + (Int64.toInt32 (f4 f (x2 + 4)))) + 2) + (8 * (f2 f ((x2 + 8) + (Int64.toInt32 (f4 f (x2 + 4)))))))), (13, .int i250_13)], [.int (((((x2 + 8) + (Int64.toInt32 (f4 f (x2 + 4)))) + 2) + (8 * i250_13)) + 2), .ref m0], M)) rfl rfl rfl ?_
                                  refine ml_call (a := [.ref m0, .int (((((x2 + 8) + (Int64.toInt32 (f4 f (x2 + 4)))) + 2) + (8 * i250_13)) + 2)]) (rest := []) rfl (hR.okc rfl rfl rfl) rfl rfl (rm_u2 hR hF (by omega) (by omega) (by omega)) (fun v90 M91 h92 => ?_)
                                  obtain ⟨rfl, h92⟩ := h92
                                  rw [h92]
                                  show ml _ _ _ (292, [(14, .int ((((x2 + 8) + (Int64.toInt32 (f4 f (x2 + 4)))) + 2) + (8 * i250_13))), (0, .ref m0), (2, .int x2), (4, .int x4), (5, .long (f4 f (x2 + 4))), (8, .int (f2 f ((x2 + 8) + (Int64.toInt32 (f4 f (x2 + 4)))))), (9, .int (((x2 + 8) + (Int64.toInt32 (f4 f (x2 + 4)))) + 2)), (10, .int ((((x2 + 8) + (Int64.toInt32 (f4 f (x2 + 4)))) + 2) + (8 * (f2 f ((x2 + 8) + (Int64.toInt32 (f4 f (x2 + 4)))))))), (13, .int i250_13)], [.int (f2 f (((((x2 + 8) + (Int64.toInt32 (f4 f (x2 + 4)))) + 2) + (8 * i250_13)) + 2))], M) _
                                  refine ml_blk 3 (S' := (296, [(14, .int ((((x2 + 8) + (Int64.toInt32 (f4 f (x2 + 4)))) + 2) + (8 * i250_13))), (0, .ref m0), (2, .int x2), (4, .int x4), (5, .long (f4 f (x2 + 4))), (8, .int (f2 f ((x2 + 8) + (Int64.toInt32 (f4 f (x2 + 4)))))), (9, .int (((x2 + 8) + (Int64.toInt32 (f4 f (x2 + 4)))) + 2)), (10, .int ((((x2 + 8) + (Int64.toInt32 (f4 f (x2 + 4)))) + 2) + (8 * (f2 f ((x2 + 8) + (Int64.toInt32 (f4 f (x2 + 4)))))))), (13, .int i250_13)], [.int (lg_cmp (Int32.toInt64 (f2 f (((((x2 + 8) + (Int64.toInt32 (f4 f (x2 + 4)))) + 2) + (8 * i250_13)) + 2))) (f4 f (x2 + 4)))], M)) rfl ?_
                                  refine ml_if (S1 := (344, [], [], M)) (S2 := (299, [(14, .int ((((x2 + 8) + (Int64.toInt32 (f4 f (x2 + 4)))) + 2) + (8 * i250_13))), (0, .ref m0), (2, .int x2), (4, .int x4), (5, .long (f4 f (x2 + 4))), (8, .int (f2 f ((x2 + 8) + (Int64.toInt32 (f4 f (x2 + 4)))))), (9, .int (((x2 + 8) + (Int64.toInt32 (f4 f (x2 + 4)))) + 2)), (10, .int ((((x2 + 8) + (Int64.toInt32 (f4 f (x2 + 4)))) + 2) + (8 * (f2 f ((x2 + 8) + (Int64.toInt32 (f4 f (x2 + 4)))))))), (13, .int i250_13)], [], M)) rfl rfl rfl (fun c_296 => ?_) (fun c_296 => ?_)
                                  · have c_296 : 0 < (lg_cmp (Int32.toInt64 (f2 f (((((x2 + 8) + (Int64.toInt32 (f4 f (x2 + 4)))) + 2) + (8 * i250_13)) + 2))) (f4 f (x2 + 4))) := of_decide_eq_true c_296
                                    exact J_344 
                                  · have c_296 : ¬ (0 < (lg_cmp (Int32.toInt64 (f2 f (((((x2 + 8) + (Int64.toInt32 (f4 f (x2 + 4)))) + 2) + (8 * i250_13)) + 2))) (f4 f (x2 + 4)))) := of_decide_eq_false c_296
                                    refine ml_blk 3 (S' := (303, [(14, .int ((((x2 + 8) + (Int64.toInt32 (f4 f (x2 + 4)))) + 2) + (8 * i250_13))), (0, .ref m0), (2, .int x2), (4, .int x4), (5, .long (f4 f (x2 + 4))), (8, .int (f2 f ((x2 + 8) + (Int64.toInt32 (f4 f (x2 + 4)))))), (9, .int (((x2 + 8) + (Int64.toInt32 (f4 f (x2 + 4)))) + 2)), (10, .int ((((x2 + 8) + (Int64.toInt32 (f4 f (x2 + 4)))) + 2) + (8 * (f2 f ((x2 + 8) + (Int64.toInt32 (f4 f (x2 + 4)))))))), (13, .int i250_13)], [.int 4, .int ((((x2 + 8) + (Int64.toInt32 (f4 f (x2 + 4)))) + 2) + (8 * i250_13)), .ref m0], M)) rfl ?_
                                    refine ml_st (S' := (304, [(14, .int ((((x2 + 8) + (Int64.toInt32 (f4 f (x2 + 4)))) + 2) + (8 * i250_13))), (0, .ref m0), (2, .int x2), (4, .int x4), (5, .long (f4 f (x2 + 4))), (8, .int (f2 f ((x2 + 8) + (Int64.toInt32 (f4 f (x2 + 4)))))), (9, .int (((x2 + 8) + (Int64.toInt32 (f4 f (x2 + 4)))) + 2)), (10, .int ((((x2 + 8) + (Int64.toInt32 (f4 f (x2 + 4)))) + 2) + (8 * (f2 f ((x2 + 8) + (Int64.toInt32 (f4 f (x2 + 4)))))))), (13, .int i250_13)], [.int (((((x2 + 8) + (Int64.toInt32 (f4 f (x2 + 4)))) + 2) + (8 * i250_13)) + 4), .ref m0], M)) rfl rfl rfl ?_
                                    refine ml_call (a := [.ref m0, .int (((((x2 + 8) + (Int64.toInt32 (f4 f (x2 + 4)))) + 2) + (8 * i250_13)) + 4)]) (rest := []) rfl (hR.okc rfl rfl rfl) rfl rfl (rm_u2 hR hF (by omega) (by omega) (by omega)) (fun v93 M94 h95 => ?_)
                                    obtain ⟨rfl, h95⟩ := h95
                                    rw [h95]
                                    show ml _ _ _ (307, [(14, .int ((((x2 + 8) + (Int64.toInt32 (f4 f (x2 + 4)))) + 2) + (8 * i250_13))), (0, .ref m0), (2, .int x2), (4, .int x4), (5, .long (f4 f (x2 + 4))), (8, .int (f2 f ((x2 + 8) + (Int64.toInt32 (f4 f (x2 + 4)))))), (9, .int (((x2 + 8) + (Int64.toInt32 (f4 f (x2 + 4)))) + 2)), (10, .int ((((x2 + 8) + (Int64.toInt32 (f4 f (x2 + 4)))) + 2) + (8 * (f2 f ((x2 + 8) + (Int64.toInt32 (f4 f (x2 + 4)))))))), (13, .int i250_13)], [.int (f2 f (((((x2 + 8) + (Int64.toInt32 (f4 f (x2 + 4)))) + 2) + (8 * i250_13)) + 4))], M) _
                                    refine ml_blk 3 (S' := (311, [(14, .int ((((x2 + 8) + (Int64.toInt32 (f4 f (x2 + 4)))) + 2) + (8 * i250_13))), (0, .ref m0), (2, .int x2), (4, .int x4), (5, .long (f4 f (x2 + 4))), (8, .int (f2 f ((x2 + 8) + (Int64.toInt32 (f4 f (x2 + 4)))))), (9, .int (((x2 + 8) + (Int64.toInt32 (f4 f (x2 + 4)))) + 2)), (10, .int ((((x2 + 8) + (Int64.toInt32 (f4 f (x2 + 4)))) + 2) + (8 * (f2 f ((x2 + 8) + (Int64.toInt32 (f4 f (x2 + 4)))))))), (13, .int i250_13)], [.int (lg_cmp (Int32.toInt64 (f2 f (((((x2 + 8) + (Int64.toInt32 (f4 f (x2 + 4)))) + 2) + (8 * i250_13)) + 4))) (f4 f (x2 + 4)))], M)) rfl ?_
                                    refine ml_if (S1 := (344, [], [], M)) (S2 := (314, [(14, .int ((((x2 + 8) + (Int64.toInt32 (f4 f (x2 + 4)))) + 2) + (8 * i250_13))), (0, .ref m0), (2, .int x2), (4, .int x4), (5, .long (f4 f (x2 + 4))), (8, .int (f2 f ((x2 + 8) + (Int64.toInt32 (f4 f (x2 + 4)))))), (9, .int (((x2 + 8) + (Int64.toInt32 (f4 f (x2 + 4)))) + 2)), (10, .int ((((x2 + 8) + (Int64.toInt32 (f4 f (x2 + 4)))) + 2) + (8 * (f2 f ((x2 + 8) + (Int64.toInt32 (f4 f (x2 + 4)))))))), (13, .int i250_13)], [], M)) rfl rfl rfl (fun c_311 => ?_) (fun c_311 => ?_)
                                    · have c_311 : 0 ≤ (lg_cmp (Int32.toInt64 (f2 f (((((x2 + 8) + (Int64.toInt32 (f4 f (x2 + 4)))) + 2) + (8 * i250_13)) + 4))) (f4 f (x2 + 4))) := of_decide_eq_true c_311
                                      exact J_344 
                                    · have c_311 : ¬ (0 ≤ (lg_cmp (Int32.toInt64 (f2 f (((((x2 + 8) + (Int64.toInt32 (f4 f (x2 + 4)))) + 2) + (8 * i250_13)) + 4))) (f4 f (x2 + 4)))) := of_decide_eq_false c_311
                                      refine ml_blk 3 (S' := (319, [(14, .int ((((x2 + 8) + (Int64.toInt32 (f4 f (x2 + 4)))) + 2) + (8 * i250_13))), (0, .ref m0), (2, .int x2), (4, .int x4), (5, .long (f4 f (x2 + 4))), (8, .int (f2 f ((x2 + 8) + (Int64.toInt32 (f4 f (x2 + 4)))))), (9, .int (((x2 + 8) + (Int64.toInt32 (f4 f (x2 + 4)))) + 2)), (10, .int ((((x2 + 8) + (Int64.toInt32 (f4 f (x2 + 4)))) + 2) + (8 * (f2 f ((x2 + 8) + (Int64.toInt32 (f4 f (x2 + 4)))))))), (13, .int i250_13)], [.int 6, .int ((((x2 + 8) + (Int64.toInt32 (f4 f (x2 + 4)))) + 2) + (8 * i250_13)), .ref m0], M)) rfl ?_
                                      refine ml_st (S' := (320, [(14, .int ((((x2 + 8) + (Int64.toInt32 (f4 f (x2 + 4)))) + 2) + (8 * i250_13))), (0, .ref m0), (2, .int x2), (4, .int x4), (5, .long (f4 f (x2 + 4))), (8, .int (f2 f ((x2 + 8) + (Int64.toInt32 (f4 f (x2 + 4)))))), (9, .int (((x2 + 8) + (Int64.toInt32 (f4 f (x2 + 4)))) + 2)), (10, .int ((((x2 + 8) + (Int64.toInt32 (f4 f (x2 + 4)))) + 2) + (8 * (f2 f ((x2 + 8) + (Int64.toInt32 (f4 f (x2 + 4)))))))), (13, .int i250_13)], [.int (((((x2 + 8) + (Int64.toInt32 (f4 f (x2 + 4)))) + 2) + (8 * i250_13)) + 6), .ref m0], M)) rfl rfl rfl ?_
                                      refine ml_call (a := [.ref m0, .int (((((x2 + 8) + (Int64.toInt32 (f4 f (x2 + 4)))) + 2) + (8 * i250_13)) + 6)]) (rest := []) rfl (hR.okc rfl rfl rfl) rfl rfl (rm_u2 hR hF (by omega) (by omega) (by omega)) (fun v96 M97 h98 => ?_)
                                      obtain ⟨rfl, h98⟩ := h98
                                      rw [h98]
                                      show ml _ _ _ (323, [(14, .int ((((x2 + 8) + (Int64.toInt32 (f4 f (x2 + 4)))) + 2) + (8 * i250_13))), (0, .ref m0), (2, .int x2), (4, .int x4), (5, .long (f4 f (x2 + 4))), (8, .int (f2 f ((x2 + 8) + (Int64.toInt32 (f4 f (x2 + 4)))))), (9, .int (((x2 + 8) + (Int64.toInt32 (f4 f (x2 + 4)))) + 2)), (10, .int ((((x2 + 8) + (Int64.toInt32 (f4 f (x2 + 4)))) + 2) + (8 * (f2 f ((x2 + 8) + (Int64.toInt32 (f4 f (x2 + 4)))))))), (13, .int i250_13)], [.int (f2 f (((((x2 + 8) + (Int64.toInt32 (f4 f (x2 + 4)))) + 2) + (8 * i250_13)) + 6))], M) _
                                      refine ml_if (S1 := (347, [(0, .ref m0), (2, .int x2), (4, .int x4), (5, .long (f4 f (x2 + 4))), (8, .int (f2 f ((x2 + 8) + (Int64.toInt32 (f4 f (x2 + 4)))))), (9, .int (((x2 + 8) + (Int64.toInt32 (f4 f (x2 + 4)))) + 2)), (10, .int ((((x2 + 8) + (Int64.toInt32 (f4 f (x2 + 4)))) + 2) + (8 * (f2 f ((x2 + 8) + (Int64.toInt32 (f4 f (x2 + 4)))))))), (13, .int i250_13)], [], M)) (S2 := (326, [(14, .int ((((x2 + 8) + (Int64.toInt32 (f4 f (x2 + 4)))) + 2) + (8 * i250_13))), (0, .ref m0), (2, .int x2), (4, .int x4), (5, .long (f4 f (x2 + 4))), (8, .int (f2 f ((x2 + 8) + (Int64.toInt32 (f4 f (x2 + 4)))))), (9, .int (((x2 + 8) + (Int64.toInt32 (f4 f (x2 + 4)))) + 2)), (10, .int ((((x2 + 8) + (Int64.toInt32 (f4 f (x2 + 4)))) + 2) + (8 * (f2 f ((x2 + 8) + (Int64.toInt32 (f4 f (x2 + 4)))))))), (13, .int i250_13)], [], M)) rfl rfl rfl (fun c_323 => ?_) (fun c_323 => ?_)
                                      · have c_323 : (f2 f (((((x2 + 8) + (Int64.toInt32 (f4 f (x2 + 4)))) + 2) + (8 * i250_13)) + 6)) = 0 := of_decide_eq_true c_323
                                        refine ml_st (S' := (350, [(13, .int (i250_13 + 1)), (0, .ref m0), (2, .int x2), (4, .int x4), (5, .long (f4 f (x2 + 4))), (8, .int (f2 f ((x2 + 8) + (Int64.toInt32 (f4 f (x2 + 4)))))), (9, .int (((x2 + 8) + (Int64.toInt32 (f4 f (x2 + 4)))) + 2)), (10, .int ((((x2 + 8) + (Int64.toInt32 (f4 f (x2 + 4)))) + 2) + (8 * (f2 f ((x2 + 8) + (Int64.toInt32 (f4 f (x2 + 4))))))))], [], M)) rfl rfl rfl ?_
                                        refine ml_st (S' := (250, [(0, .ref m0), (2, .int x2), (4, .int x4), (5, .long (f4 f (x2 + 4))), (8, .int (f2 f ((x2 + 8) + (Int64.toInt32 (f4 f (x2 + 4)))))), (9, .int (((x2 + 8) + (Int64.toInt32 (f4 f (x2 + 4)))) + 2)), (10, .int ((((x2 + 8) + (Int64.toInt32 (f4 f (x2 + 4)))) + 2) + (8 * (f2 f ((x2 + 8) + (Int64.toInt32 (f4 f (x2 + 4)))))))), (13, .int (i250_13 + 1))], [], M)) rfl rfl rfl ?_
                                        exact ih_250 (i250_13 + 1) (loop_inc (Int32.not_le.mp c_254) hn_250) (by rw [inc_lt (Int32.not_le.mp c_254)]; omega)
                                      · have c_323 : ¬ ((f2 f (((((x2 + 8) + (Int64.toInt32 (f4 f (x2 + 4)))) + 2) + (8 * i250_13)) + 6)) = 0) := of_decide_eq_false c_323
                                        refine ml_blk 3 (S' := (330, [(14, .int ((((x2 + 8) + (Int64.toInt32 (f4 f (x2 + 4)))) + 2) + (8 * i250_13))), (0, .ref m0), (2, .int x2), (4, .int x4), (5, .long (f4 f (x2 + 4))), (8, .int (f2 f ((x2 + 8) + (Int64.toInt32 (f4 f (x2 + 4)))))), (9, .int (((x2 + 8) + (Int64.toInt32 (f4 f (x2 + 4)))) + 2)), (10, .int ((((x2 + 8) + (Int64.toInt32 (f4 f (x2 + 4)))) + 2) + (8 * (f2 f ((x2 + 8) + (Int64.toInt32 (f4 f (x2 + 4)))))))), (13, .int i250_13)], [.int ((((x2 + 8) + (Int64.toInt32 (f4 f (x2 + 4)))) + 2) + (8 * i250_13)), .ref m0, .ref m0], M)) rfl ?_
                                        refine ml_blk 2 (S' := (333, [(14, .int ((((x2 + 8) + (Int64.toInt32 (f4 f (x2 + 4)))) + 2) + (8 * i250_13))), (0, .ref m0), (2, .int x2), (4, .int x4), (5, .long (f4 f (x2 + 4))), (8, .int (f2 f ((x2 + 8) + (Int64.toInt32 (f4 f (x2 + 4)))))), (9, .int (((x2 + 8) + (Int64.toInt32 (f4 f (x2 + 4)))) + 2)), (10, .int ((((x2 + 8) + (Int64.toInt32 (f4 f (x2 + 4)))) + 2) + (8 * (f2 f ((x2 + 8) + (Int64.toInt32 (f4 f (x2 + 4)))))))), (13, .int i250_13)], [.int (((((x2 + 8) + (Int64.toInt32 (f4 f (x2 + 4)))) + 2) + (8 * i250_13)) + 6), .ref m0, .ref m0], M)) rfl ?_
                                        refine ml_call (a := [.ref m0, .int (((((x2 + 8) + (Int64.toInt32 (f4 f (x2 + 4)))) + 2) + (8 * i250_13)) + 6)]) (rest := [.ref m0]) rfl (hR.okc rfl rfl rfl) rfl rfl (rm_u2 hR hF (by omega) (by omega) (by omega)) (fun v99 M100 h101 => ?_)
                                        obtain ⟨rfl, h101⟩ := h101
                                        rw [h101]
                                        show ml _ _ _ (336, [(14, .int ((((x2 + 8) + (Int64.toInt32 (f4 f (x2 + 4)))) + 2) + (8 * i250_13))), (0, .ref m0), (2, .int x2), (4, .int x4), (5, .long (f4 f (x2 + 4))), (8, .int (f2 f ((x2 + 8) + (Int64.toInt32 (f4 f (x2 + 4)))))), (9, .int (((x2 + 8) + (Int64.toInt32 (f4 f (x2 + 4)))) + 2)), (10, .int ((((x2 + 8) + (Int64.toInt32 (f4 f (x2 + 4)))) + 2) + (8 * (f2 f ((x2 + 8) + (Int64.toInt32 (f4 f (x2 + 4)))))))), (13, .int i250_13)], [.int (f2 f (((((x2 + 8) + (Int64.toInt32 (f4 f (x2 + 4)))) + 2) + (8 * i250_13)) + 6)), .ref m0], M) _
                                        refine ml_call (a := [.ref m0, .int (f2 f (((((x2 + 8) + (Int64.toInt32 (f4 f (x2 + 4)))) + 2) + (8 * i250_13)) + 6))]) (rest := []) rfl (hR.okc rfl rfl rfl) rfl rfl (rm_tag hR hF hP (by omega)) (fun v102 M103 h104 => ?_)
                                        obtain ⟨rfl, h104⟩ := h104
                                        rw [h104]
                                        show ml _ _ _ (339, [(14, .int ((((x2 + 8) + (Int64.toInt32 (f4 f (x2 + 4)))) + 2) + (8 * i250_13))), (0, .ref m0), (2, .int x2), (4, .int x4), (5, .long (f4 f (x2 + 4))), (8, .int (f2 f ((x2 + 8) + (Int64.toInt32 (f4 f (x2 + 4)))))), (9, .int (((x2 + 8) + (Int64.toInt32 (f4 f (x2 + 4)))) + 2)), (10, .int ((((x2 + 8) + (Int64.toInt32 (f4 f (x2 + 4)))) + 2) + (8 * (f2 f ((x2 + 8) + (Int64.toInt32 (f4 f (x2 + 4)))))))), (13, .int i250_13)], [.int (tgf f cp pa (f2 f (((((x2 + 8) + (Int64.toInt32 (f4 f (x2 + 4)))) + 2) + (8 * i250_13)) + 6)))], M) _
                                        refine ml_st (S' := (341, [(14, .int ((((x2 + 8) + (Int64.toInt32 (f4 f (x2 + 4)))) + 2) + (8 * i250_13))), (0, .ref m0), (2, .int x2), (4, .int x4), (5, .long (f4 f (x2 + 4))), (8, .int (f2 f ((x2 + 8) + (Int64.toInt32 (f4 f (x2 + 4)))))), (9, .int (((x2 + 8) + (Int64.toInt32 (f4 f (x2 + 4)))) + 2)), (10, .int ((((x2 + 8) + (Int64.toInt32 (f4 f (x2 + 4)))) + 2) + (8 * (f2 f ((x2 + 8) + (Int64.toInt32 (f4 f (x2 + 4)))))))), (13, .int i250_13)], [.int 7, .int (tgf f cp pa (f2 f (((((x2 + 8) + (Int64.toInt32 (f4 f (x2 + 4)))) + 2) + (8 * i250_13)) + 6)))], M)) rfl rfl rfl ?_
                                        refine ml_if2 (S1 := (347, [(0, .ref m0), (2, .int x2), (4, .int x4), (5, .long (f4 f (x2 + 4))), (8, .int (f2 f ((x2 + 8) + (Int64.toInt32 (f4 f (x2 + 4)))))), (9, .int (((x2 + 8) + (Int64.toInt32 (f4 f (x2 + 4)))) + 2)), (10, .int ((((x2 + 8) + (Int64.toInt32 (f4 f (x2 + 4)))) + 2) + (8 * (f2 f ((x2 + 8) + (Int64.toInt32 (f4 f (x2 + 4)))))))), (13, .int i250_13)], [], M)) (S2 := (344, [], [], M)) rfl rfl rfl (fun c_341 => ?_) (fun c_341 => ?_)
                                        · have c_341 : (tgf f cp pa (f2 f (((((x2 + 8) + (Int64.toInt32 (f4 f (x2 + 4)))) + 2) + (8 * i250_13)) + 6))) = 7 := of_decide_eq_true c_341
                                          refine ml_st (S' := (350, [(13, .int (i250_13 + 1)), (0, .ref m0), (2, .int x2), (4, .int x4), (5, .long (f4 f (x2 + 4))), (8, .int (f2 f ((x2 + 8) + (Int64.toInt32 (f4 f (x2 + 4)))))), (9, .int (((x2 + 8) + (Int64.toInt32 (f4 f (x2 + 4)))) + 2)), (10, .int ((((x2 + 8) + (Int64.toInt32 (f4 f (x2 + 4)))) + 2) + (8 * (f2 f ((x2 + 8) + (Int64.toInt32 (f4 f (x2 + 4))))))))], [], M)) rfl rfl rfl ?_
                                          refine ml_st (S' := (250, [(0, .ref m0), (2, .int x2), (4, .int x4), (5, .long (f4 f (x2 + 4))), (8, .int (f2 f ((x2 + 8) + (Int64.toInt32 (f4 f (x2 + 4)))))), (9, .int (((x2 + 8) + (Int64.toInt32 (f4 f (x2 + 4)))) + 2)), (10, .int ((((x2 + 8) + (Int64.toInt32 (f4 f (x2 + 4)))) + 2) + (8 * (f2 f ((x2 + 8) + (Int64.toInt32 (f4 f (x2 + 4)))))))), (13, .int (i250_13 + 1))], [], M)) rfl rfl rfl ?_
                                          exact ih_250 (i250_13 + 1) (loop_inc (Int32.not_le.mp c_254) hn_250) (by rw [inc_lt (Int32.not_le.mp c_254)]; omega)
                                        · have c_341 : ¬ ((tgf f cp pa (f2 f (((((x2 + 8) + (Int64.toInt32 (f4 f (x2 + 4)))) + 2) + (8 * i250_13)) + 6))) = 7) := of_decide_eq_false c_341
                                          exact J_344 
                          exact L_250 _ 0 (Nat.le_refl _) (by decide)
                        · have c_241 : ¬ ((u23 + s229_0) ≤ (f2 f (x2 + 2))) := of_decide_eq_false c_241
                          refine ml_st (S' := (246, [(12, .int (u23 + s229_0)), (0, .ref m0), (2, .int x2), (4, .int x4), (5, .long (f4 f (x2 + 4))), (8, .int (f2 f ((x2 + 8) + (Int64.toInt32 (f4 f (x2 + 4)))))), (9, .int (((x2 + 8) + (Int64.toInt32 (f4 f (x2 + 4)))) + 2)), (10, .int ((((x2 + 8) + (Int64.toInt32 (f4 f (x2 + 4)))) + 2) + (8 * (f2 f ((x2 + 8) + (Int64.toInt32 (f4 f (x2 + 4))))))))], [.int 42], M)) rfl rfl rfl ?_
                          exact ml_ret rfl (rfl) (⟨_, _, _, rfl, hR, eqI.rf, eqR.rf, ⟨pw.rf, hmc, hkn⟩⟩)
                      refine ml_if (S1 := (228, [(0, .ref m0), (2, .int x2), (3, .int x3), (4, .int x4), (5, .long (f4 f (x2 + 4))), (7, .int i110_7), (8, .int (f2 f ((x2 + 8) + (Int64.toInt32 (f4 f (x2 + 4)))))), (9, .int (((x2 + 8) + (Int64.toInt32 (f4 f (x2 + 4)))) + 2)), (10, .int ((((x2 + 8) + (Int64.toInt32 (f4 f (x2 + 4)))) + 2) + (8 * (f2 f ((x2 + 8) + (Int64.toInt32 (f4 f (x2 + 4)))))))), (11, .int (f2 f ((((x2 + 8) + (Int64.toInt32 (f4 f (x2 + 4)))) + 2) + (8 * (f2 f ((x2 + 8) + (Int64.toInt32 (f4 f (x2 + 4))))))))), (12, .int i110_12)], [.int u23], M)) (S2 := (224, [(0, .ref m0), (2, .int x2), (3, .int x3), (4, .int x4), (5, .long (f4 f (x2 + 4))), (7, .int i110_7), (8, .int (f2 f ((x2 + 8) + (Int64.toInt32 (f4 f (x2 + 4)))))), (9, .int (((x2 + 8) + (Int64.toInt32 (f4 f (x2 + 4)))) + 2)), (10, .int ((((x2 + 8) + (Int64.toInt32 (f4 f (x2 + 4)))) + 2) + (8 * (f2 f ((x2 + 8) + (Int64.toInt32 (f4 f (x2 + 4)))))))), (11, .int (f2 f ((((x2 + 8) + (Int64.toInt32 (f4 f (x2 + 4)))) + 2) + (8 * (f2 f ((x2 + 8) + (Int64.toInt32 (f4 f (x2 + 4))))))))), (12, .int i110_12)], [.int u23], M)) rfl rfl rfl (fun c_221 => ?_) (fun c_221 => ?_)
                      · have c_221 : ¬ (fl &&& 8) = 0 := of_decide_eq_true c_221
                        refine ml_st (S' := (229, [(0, .ref m0), (2, .int x2), (4, .int x4), (5, .long (f4 f (x2 + 4))), (8, .int (f2 f ((x2 + 8) + (Int64.toInt32 (f4 f (x2 + 4)))))), (9, .int (((x2 + 8) + (Int64.toInt32 (f4 f (x2 + 4)))) + 2)), (10, .int ((((x2 + 8) + (Int64.toInt32 (f4 f (x2 + 4)))) + 2) + (8 * (f2 f ((x2 + 8) + (Int64.toInt32 (f4 f (x2 + 4))))))))], [.int 0, .int u23], M)) rfl rfl rfl ?_
                        exact J_229 0
                      · have c_221 : ¬ (¬ (fl &&& 8) = 0) := of_decide_eq_false c_221
                        refine ml_st (S' := (225, [(0, .ref m0), (2, .int x2), (3, .int x3), (4, .int x4), (5, .long (f4 f (x2 + 4))), (7, .int i110_7), (8, .int (f2 f ((x2 + 8) + (Int64.toInt32 (f4 f (x2 + 4)))))), (9, .int (((x2 + 8) + (Int64.toInt32 (f4 f (x2 + 4)))) + 2)), (10, .int ((((x2 + 8) + (Int64.toInt32 (f4 f (x2 + 4)))) + 2) + (8 * (f2 f ((x2 + 8) + (Int64.toInt32 (f4 f (x2 + 4)))))))), (11, .int (f2 f ((((x2 + 8) + (Int64.toInt32 (f4 f (x2 + 4)))) + 2) + (8 * (f2 f ((x2 + 8) + (Int64.toInt32 (f4 f (x2 + 4))))))))), (12, .int i110_12)], [.int 1, .int u23], M)) rfl rfl rfl ?_
                        refine ml_st (S' := (229, [(0, .ref m0), (2, .int x2), (4, .int x4), (5, .long (f4 f (x2 + 4))), (8, .int (f2 f ((x2 + 8) + (Int64.toInt32 (f4 f (x2 + 4)))))), (9, .int (((x2 + 8) + (Int64.toInt32 (f4 f (x2 + 4)))) + 2)), (10, .int ((((x2 + 8) + (Int64.toInt32 (f4 f (x2 + 4)))) + 2) + (8 * (f2 f ((x2 + 8) + (Int64.toInt32 (f4 f (x2 + 4))))))))], [.int 1, .int u23], M)) rfl rfl rfl ?_
                        exact J_229 1
                    · have c_194 : ¬ ((lg_cmp (f4 f (x2 + 4)) 65535) ≤ 0) := of_decide_eq_false c_194
                      refine ml_st (S' := (199, [], [.int 41], M)) rfl rfl rfl ?_
                      exact ml_ret rfl (rfl) (⟨_, _, _, rfl, hR, eqI.rf, eqR.rf, ⟨pw.rf, hmc, hkn⟩⟩)
                · have c_175 : ¬ (i110_7 = x3) := of_decide_eq_false c_175
                  refine ml_st (S' := (180, [(0, .ref m0), (2, .int x2), (3, .int x3), (4, .int x4), (5, .long (f4 f (x2 + 4))), (7, .int i110_7), (8, .int (f2 f ((x2 + 8) + (Int64.toInt32 (f4 f (x2 + 4)))))), (9, .int (((x2 + 8) + (Int64.toInt32 (f4 f (x2 + 4)))) + 2)), (10, .int ((((x2 + 8) + (Int64.toInt32 (f4 f (x2 + 4)))) + 2) + (8 * (f2 f ((x2 + 8) + (Int64.toInt32 (f4 f (x2 + 4)))))))), (11, .int (f2 f ((((x2 + 8) + (Int64.toInt32 (f4 f (x2 + 4)))) + 2) + (8 * (f2 f ((x2 + 8) + (Int64.toInt32 (f4 f (x2 + 4))))))))), (12, .int i110_12)], [.int 30], M)) rfl rfl rfl ?_
                  exact ml_ret rfl (rfl) (⟨_, _, _, rfl, hR, eqI.rf, eqR.rf, ⟨pw.rf, hmc, hkn⟩⟩)
              · have c_114 : ¬ ((f2 f ((((x2 + 8) + (Int64.toInt32 (f4 f (x2 + 4)))) + 2) + (8 * (f2 f ((x2 + 8) + (Int64.toInt32 (f4 f (x2 + 4)))))))) ≤ i110_12) := of_decide_eq_false c_114
                refine ml_blk 3 (S' := (122, [(0, .ref m0), (2, .int x2), (3, .int x3), (4, .int x4), (5, .long (f4 f (x2 + 4))), (7, .int i110_7), (8, .int (f2 f ((x2 + 8) + (Int64.toInt32 (f4 f (x2 + 4)))))), (9, .int (((x2 + 8) + (Int64.toInt32 (f4 f (x2 + 4)))) + 2)), (10, .int ((((x2 + 8) + (Int64.toInt32 (f4 f (x2 + 4)))) + 2) + (8 * (f2 f ((x2 + 8) + (Int64.toInt32 (f4 f (x2 + 4)))))))), (11, .int (f2 f ((((x2 + 8) + (Int64.toInt32 (f4 f (x2 + 4)))) + 2) + (8 * (f2 f ((x2 + 8) + (Int64.toInt32 (f4 f (x2 + 4))))))))), (12, .int i110_12)], [.int (i110_7 + 6)], M)) rfl ?_
                refine ml_st (S' := (123, [(0, .ref m0), (2, .int x2), (3, .int x3), (4, .int x4), (5, .long (f4 f (x2 + 4))), (7, .int i110_7), (8, .int (f2 f ((x2 + 8) + (Int64.toInt32 (f4 f (x2 + 4)))))), (9, .int (((x2 + 8) + (Int64.toInt32 (f4 f (x2 + 4)))) + 2)), (10, .int ((((x2 + 8) + (Int64.toInt32 (f4 f (x2 + 4)))) + 2) + (8 * (f2 f ((x2 + 8) + (Int64.toInt32 (f4 f (x2 + 4)))))))), (11, .int (f2 f ((((x2 + 8) + (Int64.toInt32 (f4 f (x2 + 4)))) + 2) + (8 * (f2 f ((x2 + 8) + (Int64.toInt32 (f4 f (x2 + 4))))))))), (12, .int i110_12)], [.int x3, .int (i110_7 + 6)], M)) rfl rfl rfl ?_
                refine ml_if2 (S1 := (146, [], [], M)) (S2 := (126, [(0, .ref m0), (2, .int x2), (3, .int x3), (4, .int x4), (5, .long (f4 f (x2 + 4))), (7, .int i110_7), (8, .int (f2 f ((x2 + 8) + (Int64.toInt32 (f4 f (x2 + 4)))))), (9, .int (((x2 + 8) + (Int64.toInt32 (f4 f (x2 + 4)))) + 2)), (10, .int ((((x2 + 8) + (Int64.toInt32 (f4 f (x2 + 4)))) + 2) + (8 * (f2 f ((x2 + 8) + (Int64.toInt32 (f4 f (x2 + 4)))))))), (11, .int (f2 f ((((x2 + 8) + (Int64.toInt32 (f4 f (x2 + 4)))) + 2) + (8 * (f2 f ((x2 + 8) + (Int64.toInt32 (f4 f (x2 + 4))))))))), (12, .int i110_12)], [], M)) rfl rfl rfl (fun c_123 => ?_) (fun c_123 => ?_)
                · have c_123 : x3 < (i110_7 + 6) := of_decide_eq_true c_123
                  refine ml_st (S' := (148, [], [.int 30], M)) rfl rfl rfl ?_
                  exact ml_ret rfl (rfl) (⟨_, _, _, rfl, hR, eqI.rf, eqR.rf, ⟨pw.rf, hmc, hkn⟩⟩)
                · have c_123 : ¬ (x3 < (i110_7 + 6)) := of_decide_eq_false c_123
                  have hs6 := i_nlt c_123
                  rw [i_add (by have : (6 : Int32).toInt = 6 := rfl; omega) (by have : (6 : Int32).toInt = 6 := rfl; omega)] at hs6
                  have i6_ : (6 : Int32).toInt = 6 := rfl
                  have er2 : (i110_7 + 2).toInt = i110_7.toInt + 2 := i_add (by have : (2 : Int32).toInt = 2 := rfl; omega) (by have : (2 : Int32).toInt = 2 := rfl; omega)
                  refine ml_blk 3 (S' := (130, [(0, .ref m0), (2, .int x2), (3, .int x3), (4, .int x4), (5, .long (f4 f (x2 + 4))), (7, .int i110_7), (8, .int (f2 f ((x2 + 8) + (Int64.toInt32 (f4 f (x2 + 4)))))), (9, .int (((x2 + 8) + (Int64.toInt32 (f4 f (x2 + 4)))) + 2)), (10, .int ((((x2 + 8) + (Int64.toInt32 (f4 f (x2 + 4)))) + 2) + (8 * (f2 f ((x2 + 8) + (Int64.toInt32 (f4 f (x2 + 4)))))))), (11, .int (f2 f ((((x2 + 8) + (Int64.toInt32 (f4 f (x2 + 4)))) + 2) + (8 * (f2 f ((x2 + 8) + (Int64.toInt32 (f4 f (x2 + 4))))))))), (12, .int i110_12)], [.int 2, .int i110_7, .ref m0], M)) rfl ?_
                  refine ml_st (S' := (131, [(0, .ref m0), (2, .int x2), (3, .int x3), (4, .int x4), (5, .long (f4 f (x2 + 4))), (7, .int i110_7), (8, .int (f2 f ((x2 + 8) + (Int64.toInt32 (f4 f (x2 + 4)))))), (9, .int (((x2 + 8) + (Int64.toInt32 (f4 f (x2 + 4)))) + 2)), (10, .int ((((x2 + 8) + (Int64.toInt32 (f4 f (x2 + 4)))) + 2) + (8 * (f2 f ((x2 + 8) + (Int64.toInt32 (f4 f (x2 + 4)))))))), (11, .int (f2 f ((((x2 + 8) + (Int64.toInt32 (f4 f (x2 + 4)))) + 2) + (8 * (f2 f ((x2 + 8) + (Int64.toInt32 (f4 f (x2 + 4))))))))), (12, .int i110_12)], [.int (i110_7 + 2), .ref m0], M)) rfl rfl rfl ?_
                  refine ml_call (a := [.ref m0, .int (i110_7 + 2)]) (rest := []) rfl (hR.okc rfl rfl rfl) rfl rfl (rm_u4 hR hF (by omega) (by omega) (by omega)) (fun v105 M106 h107 => ?_)
                  obtain ⟨rfl, h107⟩ := h107
                  rw [h107]
                  show ml _ _ _ (134, [(0, .ref m0), (2, .int x2), (3, .int x3), (4, .int x4), (5, .long (f4 f (x2 + 4))), (7, .int i110_7), (8, .int (f2 f ((x2 + 8) + (Int64.toInt32 (f4 f (x2 + 4)))))), (9, .int (((x2 + 8) + (Int64.toInt32 (f4 f (x2 + 4)))) + 2)), (10, .int ((((x2 + 8) + (Int64.toInt32 (f4 f (x2 + 4)))) + 2) + (8 * (f2 f ((x2 + 8) + (Int64.toInt32 (f4 f (x2 + 4)))))))), (11, .int (f2 f ((((x2 + 8) + (Int64.toInt32 (f4 f (x2 + 4)))) + 2) + (8 * (f2 f ((x2 + 8) + (Int64.toInt32 (f4 f (x2 + 4))))))))), (12, .int i110_12)], [.long (f4 f (i110_7 + 2))], M) _
                  refine ml_blk 3 (S' := (138, [(0, .ref m0), (2, .int x2), (3, .int x3), (4, .int x4), (5, .long (f4 f (x2 + 4))), (7, .int i110_7), (8, .int (f2 f ((x2 + 8) + (Int64.toInt32 (f4 f (x2 + 4)))))), (9, .int (((x2 + 8) + (Int64.toInt32 (f4 f (x2 + 4)))) + 2)), (10, .int ((((x2 + 8) + (Int64.toInt32 (f4 f (x2 + 4)))) + 2) + (8 * (f2 f ((x2 + 8) + (Int64.toInt32 (f4 f (x2 + 4)))))))), (11, .int (f2 f ((((x2 + 8) + (Int64.toInt32 (f4 f (x2 + 4)))) + 2) + (8 * (f2 f ((x2 + 8) + (Int64.toInt32 (f4 f (x2 + 4))))))))), (12, .int i110_12)], [.int (x3 - i110_7), .long (f4 f (i110_7 + 2))], M)) rfl ?_
                  refine ml_blk 3 (S' := (142, [(0, .ref m0), (2, .int x2), (3, .int x3), (4, .int x4), (5, .long (f4 f (x2 + 4))), (7, .int i110_7), (8, .int (f2 f ((x2 + 8) + (Int64.toInt32 (f4 f (x2 + 4)))))), (9, .int (((x2 + 8) + (Int64.toInt32 (f4 f (x2 + 4)))) + 2)), (10, .int ((((x2 + 8) + (Int64.toInt32 (f4 f (x2 + 4)))) + 2) + (8 * (f2 f ((x2 + 8) + (Int64.toInt32 (f4 f (x2 + 4)))))))), (11, .int (f2 f ((((x2 + 8) + (Int64.toInt32 (f4 f (x2 + 4)))) + 2) + (8 * (f2 f ((x2 + 8) + (Int64.toInt32 (f4 f (x2 + 4))))))))), (12, .int i110_12)], [.long (Int32.toInt64 ((x3 - i110_7) - 6)), .long (f4 f (i110_7 + 2))], M)) rfl ?_
                  refine ml_st (S' := (143, [(0, .ref m0), (2, .int x2), (3, .int x3), (4, .int x4), (5, .long (f4 f (x2 + 4))), (7, .int i110_7), (8, .int (f2 f ((x2 + 8) + (Int64.toInt32 (f4 f (x2 + 4)))))), (9, .int (((x2 + 8) + (Int64.toInt32 (f4 f (x2 + 4)))) + 2)), (10, .int ((((x2 + 8) + (Int64.toInt32 (f4 f (x2 + 4)))) + 2) + (8 * (f2 f ((x2 + 8) + (Int64.toInt32 (f4 f (x2 + 4)))))))), (11, .int (f2 f ((((x2 + 8) + (Int64.toInt32 (f4 f (x2 + 4)))) + 2) + (8 * (f2 f ((x2 + 8) + (Int64.toInt32 (f4 f (x2 + 4))))))))), (12, .int i110_12)], [.int (lg_cmp (f4 f (i110_7 + 2)) (Int32.toInt64 ((x3 - i110_7) - 6)))], M)) rfl rfl rfl ?_
                  refine ml_if (S1 := (149, [(0, .ref m0), (2, .int x2), (3, .int x3), (4, .int x4), (5, .long (f4 f (x2 + 4))), (7, .int i110_7), (8, .int (f2 f ((x2 + 8) + (Int64.toInt32 (f4 f (x2 + 4)))))), (9, .int (((x2 + 8) + (Int64.toInt32 (f4 f (x2 + 4)))) + 2)), (10, .int ((((x2 + 8) + (Int64.toInt32 (f4 f (x2 + 4)))) + 2) + (8 * (f2 f ((x2 + 8) + (Int64.toInt32 (f4 f (x2 + 4)))))))), (11, .int (f2 f ((((x2 + 8) + (Int64.toInt32 (f4 f (x2 + 4)))) + 2) + (8 * (f2 f ((x2 + 8) + (Int64.toInt32 (f4 f (x2 + 4))))))))), (12, .int i110_12)], [], M)) (S2 := (146, [], [], M)) rfl rfl rfl (fun c_143 => ?_) (fun c_143 => ?_)
                  · have c_143 : (lg_cmp (f4 f (i110_7 + 2)) (Int32.toInt64 ((x3 - i110_7) - 6))) ≤ 0 := of_decide_eq_true c_143
                    have hr7 := lc_le c_143
                    rw [l_of, i_sub (by rw [i_sub (by omega) (by omega)]; omega) (by rw [i_sub (by omega) (by omega)]; omega), i_sub (by omega) (by omega)] at hr7
                    have hra := ra_of (f := f) hn (by omega : 0 ≤ i110_7.toInt) (by omega)
                    refine ml_blk 3 (S' := (154, [(0, .ref m0), (2, .int x2), (3, .int x3), (4, .int x4), (5, .long (f4 f (x2 + 4))), (7, .int i110_7), (8, .int (f2 f ((x2 + 8) + (Int64.toInt32 (f4 f (x2 + 4)))))), (9, .int (((x2 + 8) + (Int64.toInt32 (f4 f (x2 + 4)))) + 2)), (10, .int ((((x2 + 8) + (Int64.toInt32 (f4 f (x2 + 4)))) + 2) + (8 * (f2 f ((x2 + 8) + (Int64.toInt32 (f4 f (x2 + 4)))))))), (11, .int (f2 f ((((x2 + 8) + (Int64.toInt32 (f4 f (x2 + 4)))) + 2) + (8 * (f2 f ((x2 + 8) + (Int64.toInt32 (f4 f (x2 + 4))))))))), (12, .int i110_12)], [.ref m0, .int 6, .int i110_7], M)) rfl ?_
                    refine ml_blk 3 (S' := (158, [(0, .ref m0), (2, .int x2), (3, .int x3), (4, .int x4), (5, .long (f4 f (x2 + 4))), (7, .int i110_7), (8, .int (f2 f ((x2 + 8) + (Int64.toInt32 (f4 f (x2 + 4)))))), (9, .int (((x2 + 8) + (Int64.toInt32 (f4 f (x2 + 4)))) + 2)), (10, .int ((((x2 + 8) + (Int64.toInt32 (f4 f (x2 + 4)))) + 2) + (8 * (f2 f ((x2 + 8) + (Int64.toInt32 (f4 f (x2 + 4)))))))), (11, .int (f2 f ((((x2 + 8) + (Int64.toInt32 (f4 f (x2 + 4)))) + 2) + (8 * (f2 f ((x2 + 8) + (Int64.toInt32 (f4 f (x2 + 4))))))))), (12, .int i110_12)], [.int (i110_7 + 2), .ref m0, .int 6, .int i110_7], M)) rfl ?_
                    refine ml_call (a := [.ref m0, .int (i110_7 + 2)]) (rest := [.int 6, .int i110_7]) rfl (hR.okc rfl rfl rfl) rfl rfl (rm_u4 hR hF (by omega) (by omega) (by omega)) (fun v108 M109 h110 => ?_)
                    obtain ⟨rfl, h110⟩ := h110
                    rw [h110]
                    show ml _ _ _ (161, [(0, .ref m0), (2, .int x2), (3, .int x3), (4, .int x4), (5, .long (f4 f (x2 + 4))), (7, .int i110_7), (8, .int (f2 f ((x2 + 8) + (Int64.toInt32 (f4 f (x2 + 4)))))), (9, .int (((x2 + 8) + (Int64.toInt32 (f4 f (x2 + 4)))) + 2)), (10, .int ((((x2 + 8) + (Int64.toInt32 (f4 f (x2 + 4)))) + 2) + (8 * (f2 f ((x2 + 8) + (Int64.toInt32 (f4 f (x2 + 4)))))))), (11, .int (f2 f ((((x2 + 8) + (Int64.toInt32 (f4 f (x2 + 4)))) + 2) + (8 * (f2 f ((x2 + 8) + (Int64.toInt32 (f4 f (x2 + 4))))))))), (12, .int i110_12)], [.long (f4 f (i110_7 + 2)), .int 6, .int i110_7], M) _
                    refine ml_blk 3 (S' := (164, [(0, .ref m0), (2, .int x2), (3, .int x3), (4, .int x4), (5, .long (f4 f (x2 + 4))), (7, .int i110_7), (8, .int (f2 f ((x2 + 8) + (Int64.toInt32 (f4 f (x2 + 4)))))), (9, .int (((x2 + 8) + (Int64.toInt32 (f4 f (x2 + 4)))) + 2)), (10, .int ((((x2 + 8) + (Int64.toInt32 (f4 f (x2 + 4)))) + 2) + (8 * (f2 f ((x2 + 8) + (Int64.toInt32 (f4 f (x2 + 4)))))))), (11, .int (f2 f ((((x2 + 8) + (Int64.toInt32 (f4 f (x2 + 4)))) + 2) + (8 * (f2 f ((x2 + 8) + (Int64.toInt32 (f4 f (x2 + 4))))))))), (12, .int i110_12)], [.int (i110_7 + (6 + (Int64.toInt32 (f4 f (i110_7 + 2)))))], M)) rfl ?_
                    refine ml_st (S' := (166, [(7, .int (i110_7 + (6 + (Int64.toInt32 (f4 f (i110_7 + 2)))))), (0, .ref m0), (2, .int x2), (3, .int x3), (4, .int x4), (5, .long (f4 f (x2 + 4))), (8, .int (f2 f ((x2 + 8) + (Int64.toInt32 (f4 f (x2 + 4)))))), (9, .int (((x2 + 8) + (Int64.toInt32 (f4 f (x2 + 4)))) + 2)), (10, .int ((((x2 + 8) + (Int64.toInt32 (f4 f (x2 + 4)))) + 2) + (8 * (f2 f ((x2 + 8) + (Int64.toInt32 (f4 f (x2 + 4)))))))), (11, .int (f2 f ((((x2 + 8) + (Int64.toInt32 (f4 f (x2 + 4)))) + 2) + (8 * (f2 f ((x2 + 8) + (Int64.toInt32 (f4 f (x2 + 4))))))))), (12, .int i110_12)], [], M)) rfl rfl rfl ?_
                    refine ml_st (S' := (169, [(12, .int (i110_12 + 1)), (7, .int (i110_7 + (6 + (Int64.toInt32 (f4 f (i110_7 + 2)))))), (0, .ref m0), (2, .int x2), (3, .int x3), (4, .int x4), (5, .long (f4 f (x2 + 4))), (8, .int (f2 f ((x2 + 8) + (Int64.toInt32 (f4 f (x2 + 4)))))), (9, .int (((x2 + 8) + (Int64.toInt32 (f4 f (x2 + 4)))) + 2)), (10, .int ((((x2 + 8) + (Int64.toInt32 (f4 f (x2 + 4)))) + 2) + (8 * (f2 f ((x2 + 8) + (Int64.toInt32 (f4 f (x2 + 4)))))))), (11, .int (f2 f ((((x2 + 8) + (Int64.toInt32 (f4 f (x2 + 4)))) + 2) + (8 * (f2 f ((x2 + 8) + (Int64.toInt32 (f4 f (x2 + 4)))))))))], [], M)) rfl rfl rfl ?_
                    refine ml_st (S' := (110, [(0, .ref m0), (2, .int x2), (3, .int x3), (4, .int x4), (5, .long (f4 f (x2 + 4))), (7, .int (i110_7 + (6 + (Int64.toInt32 (f4 f (i110_7 + 2)))))), (8, .int (f2 f ((x2 + 8) + (Int64.toInt32 (f4 f (x2 + 4)))))), (9, .int (((x2 + 8) + (Int64.toInt32 (f4 f (x2 + 4)))) + 2)), (10, .int ((((x2 + 8) + (Int64.toInt32 (f4 f (x2 + 4)))) + 2) + (8 * (f2 f ((x2 + 8) + (Int64.toInt32 (f4 f (x2 + 4)))))))), (11, .int (f2 f ((((x2 + 8) + (Int64.toInt32 (f4 f (x2 + 4)))) + 2) + (8 * (f2 f ((x2 + 8) + (Int64.toInt32 (f4 f (x2 + 4))))))))), (12, .int (i110_12 + 1))], [], M)) rfl rfl rfl ?_
                    exact ih_110 (i110_7 + (6 + (Int64.toInt32 (f4 f (i110_7 + 2))))) (i110_12 + 1) (loop_inc (Int32.not_le.mp c_114) hn_110) (⟨by rw [hra]; have := f4_pos (f := f) (x := i110_7 + 2); omega, by rw [hra]; omega, by rw [inc_lt (Int32.not_le.mp c_114)]; omega, by rw [inc_lt (Int32.not_le.mp c_114)]; have := i_nle c_114; omega, itr_inc hk0 c_114 hit ⟨by omega, by omega, by omega, hra⟩⟩)
                  · have c_143 : ¬ ((lg_cmp (f4 f (i110_7 + 2)) (Int32.toInt64 ((x3 - i110_7) - 6))) ≤ 0) := of_decide_eq_false c_143
                    refine ml_st (S' := (148, [], [.int 30], M)) rfl rfl rfl ?_
                    exact ml_ret rfl (rfl) (⟨_, _, _, rfl, hR, eqI.rf, eqR.rf, ⟨pw.rf, hmc, hkn⟩⟩)
          exact L_110 _ (((((x2 + 8) + (Int64.toInt32 (f4 f (x2 + 4)))) + 2) + (8 * (f2 f ((x2 + 8) + (Int64.toInt32 (f4 f (x2 + 4))))))) + 2) 0 (Nat.le_refl _) (⟨by omega, by omega, by decide, by show (0 : Int) ≤ _; omega, rfl⟩)
        · have c_86 : ¬ ((((((x2 + 8) + (Int64.toInt32 (f4 f (x2 + 4)))) + 2) + (8 * (f2 f ((x2 + 8) + (Int64.toInt32 (f4 f (x2 + 4))))))) + 2) ≤ x3) := of_decide_eq_false c_86
          refine ml_st (S' := (91, [(7, .int ((((x2 + 8) + (Int64.toInt32 (f4 f (x2 + 4)))) + 2) + (8 * (f2 f ((x2 + 8) + (Int64.toInt32 (f4 f (x2 + 4)))))))), (9, .int (((x2 + 8) + (Int64.toInt32 (f4 f (x2 + 4)))) + 2)), (8, .int (f2 f ((x2 + 8) + (Int64.toInt32 (f4 f (x2 + 4)))))), (5, .long (f4 f (x2 + 4))), (0, .ref m0), (1, .int x1), (2, .int x2), (3, .int x3), (4, .int x4)], [.int 30], M)) rfl rfl rfl ?_
          exact ml_ret rfl (rfl) (⟨_, _, _, rfl, hR, eqI.rf, eqR.rf, ⟨pw.rf, hmc, hkn⟩⟩)
      · have c_51 : ¬ ((((x2 + 8) + (Int64.toInt32 (f4 f (x2 + 4)))) + 2) ≤ x3) := of_decide_eq_false c_51
        refine ml_st (S' := (56, [(7, .int ((x2 + 8) + (Int64.toInt32 (f4 f (x2 + 4))))), (5, .long (f4 f (x2 + 4))), (0, .ref m0), (1, .int x1), (2, .int x2), (3, .int x3), (4, .int x4)], [.int 30], M)) rfl rfl rfl ?_
        exact ml_ret rfl (rfl) (⟨_, _, _, rfl, hR, eqI.rf, eqR.rf, ⟨pw.rf, hmc, hkn⟩⟩)
    · have c_30 : ¬ ((lg_cmp (f4 f (x2 + 4)) (Int32.toInt64 ((x3 - x2) - 8))) ≤ 0) := of_decide_eq_false c_30
      refine ml_st (S' := (35, [(5, .long (f4 f (x2 + 4))), (0, .ref m0), (1, .int x1), (2, .int x2), (3, .int x3), (4, .int x4)], [.int 30], M)) rfl rfl rfl ?_
      exact ml_ret rfl (rfl) (⟨_, _, _, rfl, hR, eqI.rf, eqR.rf, ⟨pw.rf, hmc, hkn⟩⟩)
  · have c_5 : ¬ (8 ≤ (x3 - x2)) := of_decide_eq_false c_5
    refine ml_st (S' := (10, [(0, .ref m0), (1, .int x1), (2, .int x2), (3, .int x3), (4, .int x4)], [.int 30], M)) rfl rfl rfl ?_
    exact ml_ret rfl (rfl) (⟨_, _, _, rfl, hR, eqI.rf, eqR.rf, ⟨pw.rf, hmc, hkn⟩⟩)
end
