/-! instructions, as the reference tells them (my own text) -/
section CXA
variable {f : Nat → Int32} {n : Nat} {E : List (Nat × Nat)} {cb L : Nat} {I I' : rI} {R R' : rR}
def loN (i k ml : Nat) : Nat := if i + k ≤ ml then 1 else 0
theorem le1_lo (i k ml : Nat) : loN i k ml < 2 := by unfold loN; split <;> decide
theorem lo_9 {i k ml : Nat} : loN i k ml = 0 ↔ ¬ i + k ≤ ml := by
  unfold loN
  split <;> omega
theorem pd_and {p : Nat} (h : p < 1073741824) : aN (p + 4) 4294967292 = pdN p := by
  rw [an_m4 (by omega)]
  unfold pdN
  omega
theorem nL_sub {a b : Nat} (h : b ≤ a) (ha : a < 1073741824) : nL a - nL b = nL (a - b) := Int64.toInt_inj.mp (by
  rw [Int64.toInt_sub, nL_val (by omega), nL_val (by omega), nL_val (by omega)]
  rw [Int.bmod_eq_of_le (by omega) (by omega)]
  omega)
theorem l2i_sub {a b : Nat} (h : b ≤ a) (ha : a < 1073741824) : Int64.toInt32 (nL a - nL b) = nI (a - b) := by
  rw [nL_sub h ha, l2i_nL (by omega)]
/-- whether an instruction begins there -/
def stN (S : List Nat) (t : Int64) : Nat := if 0 ≤ t.toInt ∧ t.toInt.toNat ∈ S then 1 else 0
theorem le1_st (S : List Nat) (t : Int64) : stN S t < 2 := by unfold stN; split <;> decide
theorem st_1 {S : List Nat} {k : Nat} (hSl : S.length < 65536) (hk : k < 65540) (h : ¬ nuA S k - 1 < 0) : 1 = stN S (nL k) := by
  have hv : (nL k).toInt = k := nL_val (by omega)
  rcases nu_m1 (S := S) (k := k) hSl with ⟨h1, h2⟩ | ⟨h1, h2⟩
  · unfold stN
    rw [if_pos ⟨by omega, by rw [hv]; exact h1⟩]
  · rw [h2] at h
    exact absurd (by decide) h
theorem st_0 {S : List Nat} {k : Nat} (hSl : S.length < 65536) (hk : k < 65540) (h : nuA S k - 1 < 0) : 0 = stN S (nL k) := by
  have hv : (nL k).toInt = k := nL_val (by omega)
  rcases nu_m1 (S := S) (k := k) hSl with ⟨h1, h2⟩ | ⟨h1, h2⟩
  · rw [h2] at h
    have := idx_lt h1
    exact absurd h (nI_n0 (by omega))
  · unfold stN
    rw [if_neg (fun h9 => h1 (by have h8 := h9.2; rw [hv] at h8; exact h8))]
/-- a wide instruction's size -/
def wfI (f : Nat → Int32) (cb L pc : Nat) : Int32 := if L ≤ pc + 1 then -1 else if by1 f (cb + pc + 1) = 132 then 6 else if lcO (by1 f (cb + pc + 1)) = 0 then -1 else 4
/-- the length of a table -/
theorem tn_val (lo hi : Nat) : (4 * ((Int32.toInt64 (nI hi)) - (Int32.toInt64 (nI lo)) + 1) + 12 : Int64).toInt = 4 * nuI lo hi + 12 := by
  have h1 := n64_val lo hi
  have h2 := nuI_bd lo hi
  rw [Int64.toInt_add, Int64.toInt_mul, h1, show (4 : Int64).toInt = 4 from rfl, show (12 : Int64).toInt = 12 from rfl, Int.bmod_eq_of_le (n := 4 * nuI lo hi) (by omega) (by omega)]
  exact Int.bmod_eq_of_le (by omega) (by omega)
theorem ln_val {np : Nat} (h : np < 2147483648) : (8 * (Int32.toInt64 (nI np)) + 8 : Int64) = nL (8 * np + 8) := Int64.toInt_inj.mp (by
  have h1 : (Int32.toInt64 (nI np)).toInt = np := by rw [i2l_val, nI_val31 h]
  rw [Int64.toInt_add, Int64.toInt_mul, h1, show (8 : Int64).toInt = 8 from rfl, nL_val (by omega), Int.bmod_eq_of_le (n := 8 * (np : Int)) (by omega) (by omega)]
  rw [Int.bmod_eq_of_le (by omega) (by omega)]
  omega)
theorem an_val {p : Nat} {x : Int64} {y : Int} (hp : p < 1073741824) (h : x.toInt = y) (hb : -42949672960 ≤ y ∧ y ≤ 42949672960) : (nL p + x).toInt = (p : Int) + y := by
  rw [Int64.toInt_add, nL_val (by omega), h]
  exact Int.bmod_eq_of_le (by omega) (by omega)
theorem nu_lo {lo hi : Nat} : 1 ≤ nuI lo hi ↔ nI lo ≤ nI hi := by
  rw [Int32.le_iff_toInt_le]
  unfold nuI
  omega
/-- how many ways a table has -/
theorem wy_t {lo hi nu : Nat} (h : nuI lo hi = nu) (hn : nu < 1073741823) : 1 + (nI hi - nI lo + 1) = nI (nu + 1) := Int32.toInt_inj.mp (by
  have h1 := i32_bd (nI hi)
  have h2 := i32_bd (nI lo)
  unfold nuI at h
  rw [nI_val (by omega), Int32.toInt_add, Int32.toInt_add, Int32.toInt_sub, show (1 : Int32).toInt = 1 from rfl]
  by_cases h3 : (nI hi).toInt - (nI lo).toInt < 2147483648
  · rw [Int.bmod_eq_of_le (n := (nI hi).toInt - (nI lo).toInt) (by omega) (by omega), Int.bmod_eq_of_le (n := (nI hi).toInt - (nI lo).toInt + 1) (by omega) (by omega), Int.bmod_eq_of_le (by omega) (by omega)]
    omega
  · omega)
def waN (o p i : Nat) : Nat := if i = 0 then p else if o = 170 then p + 8 + 4 * i else p + 4 + 8 * i
/-- a jump's place -/
theorem j16_val {pc x : Nat} (h : pc < 65540) : (Int32.toInt64 (nI pc + s16 x)).toInt = (pc : Int) + (s16 x).toInt := by
  have h1 : -32768 ≤ (s16 x).toInt ∧ (s16 x).toInt < 32768 := by
    unfold s16
    rw [Int16.toInt_toInt32]
    exact ⟨Int16.le_toInt _, Int16.toInt_lt _⟩
  rw [i2l_val, Int32.toInt_add, nI_val (by omega)]
  exact Int.bmod_eq_of_le (by omega) (by omega)
theorem th_1 {T : Nat → Int} {S : List Nat} {t : Int64} (h : t.toInt = T 0) : stN S t = thG T S 1 0 := by
  unfold stN thG thG
  rw [h]
end CXA
set_option maxHeartbeats 1000000 in
theorem rd_b1 {g : xe_G} {m0 : Nat} {q : Nat → Nat} {z : Nat × Nat} {I : rI} {R : rR} {M : mi_H} {n : Nat} {f : Nat → Int32} {cb : Nat} {p : Nat} (hR : RS g m0 q z I R M) (hi77 : I 77 = some (nI cb)) (hF : FK n f I R) (hin : cb + p + 1 ≤ n) : pt (mT g) 179 [.ref m0, .int (nI p)] M (fun v M' => (v = some (.int (nI (by1 f (cb + p)))) ∧ M = M')) := by
  refine pt_in (b := mb_179 g) rfl (fun kf => ?_)
  show pl (mT g) kf (mb_179 g).2 (0, [(0, .ref m0), (1, .int (nI p))], [], M) _
  have hn := hF.1
  refine ps_st (S' := (1, [(0, .ref m0), (1, .int (nI p))], [.ref m0], M)) rfl rfl rfl ?_
  refine pr_ref (j := 12) (S' := (4, [(0, .ref m0), (1, .int (nI p))], [.ref (q 12)], M)) rfl hR rfl rfl ?_
  refine ps_st (S' := (5, [(0, .ref m0), (1, .int (nI p))], [.ref m0, .ref (q 12)], M)) rfl rfl rfl ?_
  refine pr_int (j := 77) (S' := (8, [(0, .ref m0), (1, .int (nI p))], [.int (nI cb), .ref (q 12)], M)) rfl hR rfl hi77 rfl ?_
  refine ps_st (S' := (9, [(0, .ref m0), (1, .int (nI p))], [.int (nI p), .int (nI cb), .ref (q 12)], M)) rfl rfl rfl ?_
  refine ps_st (S' := (10, [(0, .ref m0), (1, .int (nI p))], [.int ((nI cb) + (nI p)), .ref (q 12)], M)) rfl rfl rfl ?_
  rw [nI_add1 (p := cb) (k := p) (x := (nI p)) rfl (by omega)]
  show pl _ _ _ (_, [(0, .ref m0), (1, .int (nI p))], [.int (nI (cb + p)), .ref (q 12)], M) _
  refine pr_ld (a := 12) (j := cb + p) (y := (f (cb + p))) (S' := (11, [(0, .ref m0), (1, .int (nI p))], [.int (f (cb + p))], M)) rfl hR rfl (by omega) (fun _ => hF.2.2.2 _ (by omega)) rfl (fun i1_10 => ?_)
  refine ps_st (S' := (14, [(0, .ref m0), (1, .int (nI p))], [.int 255, .int (f (cb + p))], M)) rfl rfl rfl ?_
  refine ps_st (S' := (15, [(0, .ref m0), (1, .int (nI p))], [.int ((f (cb + p)) &&& 255)], M)) rfl rfl rfl ?_
  exact ps_reti rfl (⟨by rw [by1_eq], rfl⟩)
set_option maxHeartbeats 1000000 in
theorem rd_b2 {g : xe_G} {m0 : Nat} {q : Nat → Nat} {z : Nat × Nat} {I : rI} {R : rR} {M : mi_H} {n : Nat} {f : Nat → Int32} {cb : Nat} {p : Nat} (hR : RS g m0 q z I R M) (hi77 : I 77 = some (nI cb)) (hF : FK n f I R) (hin : cb + p + 2 ≤ n) : pt (mT g) 180 [.ref m0, .int (nI p)] M (fun v M' => (v = some (.int (nI (by2 f (cb + p)))) ∧ M = M')) := by
  refine pt_in (b := mb_180 g) rfl (fun kf => ?_)
  show pl (mT g) kf (mb_180 g).2 (0, [(0, .ref m0), (1, .int (nI p))], [], M) _
  have hn := hF.1
  refine ps_st (S' := (1, [(0, .ref m0), (1, .int (nI p))], [.ref m0], M)) rfl rfl rfl ?_
  refine ps_st (S' := (2, [(0, .ref m0), (1, .int (nI p))], [.ref m0, .ref m0], M)) rfl rfl rfl ?_
  refine pr_int (j := 77) (S' := (5, [(0, .ref m0), (1, .int (nI p))], [.int (nI cb), .ref m0], M)) rfl hR rfl hi77 rfl ?_
  refine ps_st (S' := (6, [(0, .ref m0), (1, .int (nI p))], [.int (nI p), .int (nI cb), .ref m0], M)) rfl rfl rfl ?_
  refine ps_st (S' := (7, [(0, .ref m0), (1, .int (nI p))], [.int ((nI cb) + (nI p)), .ref m0], M)) rfl rfl rfl ?_
  rw [nI_add1 (p := cb) (k := p) (x := (nI p)) rfl (by omega)]
  show pl _ _ _ (_, [(0, .ref m0), (1, .int (nI p))], [.int (nI (cb + p)), .ref m0], M) _
  refine pl_call (a := [.ref m0, .int (nI (cb + p))]) (rest := []) rfl rfl rfl (rd_u2 (n := n) (f := f) (p := (cb + p)) hR hF (by omega)) (fun v1 M2 q3 => ?_)
  obtain ⟨rfl, rfl⟩ := q3
  show pl _ _ _ (10, [(0, .ref m0), (1, .int (nI p))], [.int (nI (by2 f (cb + p)))], M) _
  have hu_7 := by2_lt f (cb + p)
  exact ps_reti rfl (⟨rfl, rfl⟩)
set_option maxHeartbeats 1000000 in
theorem rd_b4 {g : xe_G} {m0 : Nat} {q : Nat → Nat} {z : Nat × Nat} {I : rI} {R : rR} {M : mi_H} {n : Nat} {f : Nat → Int32} {cb : Nat} {p : Nat} (hR : RS g m0 q z I R M) (hi77 : I 77 = some (nI cb)) (hF : FK n f I R) (hin : cb + p + 4 ≤ n) : pt (mT g) 181 [.ref m0, .int (nI p)] M (fun v M' => (v = some (.int (nI (by4 f (cb + p)))) ∧ M = M')) := by
  refine pt_in (b := mb_181 g) rfl (fun kf => ?_)
  show pl (mT g) kf (mb_181 g).2 (0, [(0, .ref m0), (1, .int (nI p))], [], M) _
  have hn := hF.1
  refine ps_st (S' := (1, [(0, .ref m0), (1, .int (nI p))], [.ref m0], M)) rfl rfl rfl ?_
  refine ps_st (S' := (2, [(0, .ref m0), (1, .int (nI p))], [.ref m0, .ref m0], M)) rfl rfl rfl ?_
  refine pr_int (j := 77) (S' := (5, [(0, .ref m0), (1, .int (nI p))], [.int (nI cb), .ref m0], M)) rfl hR rfl hi77 rfl ?_
  refine ps_st (S' := (6, [(0, .ref m0), (1, .int (nI p))], [.int (nI p), .int (nI cb), .ref m0], M)) rfl rfl rfl ?_
  refine ps_st (S' := (7, [(0, .ref m0), (1, .int (nI p))], [.int ((nI cb) + (nI p)), .ref m0], M)) rfl rfl rfl ?_
  rw [nI_add1 (p := cb) (k := p) (x := (nI p)) rfl (by omega)]
  show pl _ _ _ (_, [(0, .ref m0), (1, .int (nI p))], [.int (nI (cb + p)), .ref m0], M) _
  refine pl_call (a := [.ref m0, .int (nI (cb + p))]) (rest := []) rfl rfl rfl (rd_u4 (n := n) (f := f) (p := (cb + p)) hR hF (by omega)) (fun v1 M2 q3 => ?_)
  obtain ⟨rfl, rfl⟩ := q3
  show pl _ _ _ (10, [(0, .ref m0), (1, .int (nI p))], [.long (nL (by4 f (cb + p)))], M) _
  have hu_7 := by4_lt f (cb + p)
  refine ps_st (S' := (11, [(0, .ref m0), (1, .int (nI p))], [.int (Int64.toInt32 (nL (by4 f (cb + p))))], M)) rfl rfl rfl ?_
  exact ps_reti rfl (⟨by rw [l2i_all], rfl⟩)
set_option maxHeartbeats 1000000 in
theorem rd_s2 {g : xe_G} {m0 : Nat} {q : Nat → Nat} {z : Nat × Nat} {I : rI} {R : rR} {M : mi_H} {n : Nat} {f : Nat → Int32} {cb : Nat} {p : Nat} (hR : RS g m0 q z I R M) (hi77 : I 77 = some (nI cb)) (hF : FK n f I R) (hin : cb + p + 2 ≤ n) : pt (mT g) 240 [.ref m0, .int (nI p)] M (fun v M' => (v = some (.int (s16 (by2 f (cb + p)))) ∧ M = M')) := by
  refine pt_in (b := mb_240 g) rfl (fun kf => ?_)
  show pl (mT g) kf (mb_240 g).2 (0, [(0, .ref m0), (1, .int (nI p))], [], M) _
  have hn := hF.1
  refine ps_st (S' := (1, [(0, .ref m0), (1, .int (nI p))], [.ref m0], M)) rfl rfl rfl ?_
  refine ps_st (S' := (2, [(0, .ref m0), (1, .int (nI p))], [.int (nI p), .ref m0], M)) rfl rfl rfl ?_
  refine pl_call (a := [.ref m0, .int (nI p)]) (rest := []) rfl rfl rfl (rd_b2 (n := n) (f := f) (cb := cb) (p := p) hR hi77 hF (by omega)) (fun v1 M2 q3 => ?_)
  obtain ⟨rfl, rfl⟩ := q3
  show pl _ _ _ (5, [(0, .ref m0), (1, .int (nI p))], [.int (nI (by2 f (cb + p)))], M) _
  show pl _ _ _ (_, [(0, .ref m0), (1, .int (nI p))], [.int (nI (by2 f (cb + p)))], M) _
  have hb_2 := by2_lt f (cb + p)
  refine ps_st (S' := (6, [(0, .ref m0), (1, .int (nI p))], [.int ((nI (by2 f (cb + p))).toInt16.toInt32)], M)) rfl rfl rfl ?_
  exact ps_reti rfl (⟨rfl, rfl⟩)
set_option maxHeartbeats 1000000 in
theorem rd_pad {g : xe_G} {m0 : Nat} {q : Nat → Nat} {z : Nat × Nat} {I : rI} {R : rR} {M : mi_H} {p : Nat} (hR : RS g m0 q z I R M)   (hp : p < 65540) : pt (mT g) 229 [.int (nI p)] M (fun v M' => (v = some (.int (nI (pdN p))) ∧ M = M')) := by
  refine pt_in (b := mb_229 g) rfl (fun kf => ?_)
  show pl (mT g) kf (mb_229 g).2 (0, [(0, .int (nI p))], [], M) _
  refine ps_st (S' := (1, [(0, .int (nI p))], [.int (nI p)], M)) rfl rfl rfl ?_
  refine ps_st (S' := (2, [(0, .int (nI p))], [.int 4, .int (nI p)], M)) rfl rfl rfl ?_
  refine ps_st (S' := (3, [(0, .int (nI p))], [.int ((nI p) + 4)], M)) rfl rfl rfl ?_
  rw [nI_add1 (p := p) (k := 4) (x := 4) rfl (by omega)]
  show pl _ _ _ (_, [(0, .int (nI p))], [.int (nI (p + 4))], M) _
  refine ps_st (S' := (5, [(0, .int (nI p))], [.int (-4), .int (nI (p + 4))], M)) rfl rfl rfl ?_
  refine ps_st (S' := (6, [(0, .int (nI p))], [.int ((nI (p + 4)) &&& (-4))], M)) rfl rfl rfl ?_
  rw [nI_an (p := p + 4) (k := 4294967292) (x := (-4)) rfl]
  show pl _ _ _ (_, [(0, .int (nI p))], [.int (nI (aN (p + 4) 4294967292))], M) _
  exact ps_reti rfl (⟨by rw [pd_and (by omega)], rfl⟩)
set_option maxHeartbeats 1000000 in
theorem rd_local {g : xe_G} {m0 : Nat} {q : Nat → Nat} {z : Nat × Nat} {I : rI} {R : rR} {M : mi_H} {i k ml : Nat} (hR : RS g m0 q z I R M) (hi79 : I 79 = some (nI ml))  (hi : i < 65536) (hk : k < 65536) (hml : ml < 65536) : pt (mT g) 222 [.ref m0, .int (nI i), .int (nI k)] M (fun v M' => (v = some (.int (nI (loN i k ml))) ∧ M = M')) := by
  refine pt_in (b := mb_222 g) rfl (fun kf => ?_)
  show pl (mT g) kf (mb_222 g).2 (0, [(0, .ref m0), (1, .int (nI i)), (2, .int (nI k))], [], M) _
  refine ps_st (S' := (1, [(0, .ref m0), (1, .int (nI i)), (2, .int (nI k))], [.int (nI i)], M)) rfl rfl rfl ?_
  refine ps_st (S' := (2, [(0, .ref m0), (1, .int (nI i)), (2, .int (nI k))], [.int (nI k), .int (nI i)], M)) rfl rfl rfl ?_
  refine ps_st (S' := (3, [(0, .ref m0), (1, .int (nI i)), (2, .int (nI k))], [.int ((nI i) + (nI k))], M)) rfl rfl rfl ?_
  rw [nI_add1 (p := i) (k := k) (x := (nI k)) rfl (by omega)]
  show pl _ _ _ (_, [(0, .ref m0), (1, .int (nI i)), (2, .int (nI k))], [.int (nI (i + k))], M) _
  refine ps_st (S' := (4, [(0, .ref m0), (1, .int (nI i)), (2, .int (nI k))], [.ref m0, .int (nI (i + k))], M)) rfl rfl rfl ?_
  refine pr_int (j := 79) (S' := (7, [(0, .ref m0), (1, .int (nI i)), (2, .int (nI k))], [.int (nI ml), .int (nI (i + k))], M)) rfl hR rfl hi79 rfl ?_
  refine ps_if2 (S1 := (14, [(0, .ref m0), (1, .int (nI i)), (2, .int (nI k))], [], M)) (S2 := (10, [(0, .ref m0), (1, .int (nI i)), (2, .int (nI k))], [], M)) rfl rfl rfl (fun c_7 => ?_) (fun c_7 => ?_)
  · have c_7 : (nI ml) < (nI (i + k)) := of_decide_eq_true c_7
    have n_7 : ml < i + k := (lt_nI (p := ml) (n := i + k) (by omega) (by omega)).mp c_7
    refine ps_st (S' := (15, [], [.int 0], M)) rfl rfl rfl ?_
    exact ps_ret rfl rfl (⟨congrArg (fun x => some (Value.int (nI x))) (show 0 = loN i k ml from by
        unfold loN
        first | ((repeat first | rw [if_pos (by omega)] | rw [if_neg (by omega)]) <;> first | rfl | omega) | ((repeat' split) <;> first | rfl | (exfalso; omega) | omega)), rfl⟩)
  · have c_7 : ¬ ((nI ml) < (nI (i + k))) := of_decide_eq_false c_7
    have n_7 : ¬ (ml < i + k) := fun h9 => c_7 ((lt_nI (p := ml) (n := i + k) (by omega) (by omega)).mpr h9)
    refine ps_st (S' := (11, [(0, .ref m0), (1, .int (nI i)), (2, .int (nI k))], [.int 1], M)) rfl rfl rfl ?_
    refine ps_st (S' := (15, [], [.int 1], M)) rfl rfl rfl ?_
    exact ps_ret rfl rfl (⟨congrArg (fun x => some (Value.int (nI x))) (show 1 = loN i k ml from by
        unfold loN
        first | ((repeat first | rw [if_pos (by omega)] | rw [if_neg (by omega)]) <;> first | rfl | omega) | ((repeat' split) <;> first | rfl | (exfalso; omega) | omega)), rfl⟩)
set_option maxHeartbeats 1000000 in
theorem rd_starts {g : xe_G} {m0 : Nat} {q : Nat → Nat} {z : Nat × Nat} {I : rI} {R : rR} {M : mi_H} {L : Nat} {S : List Nat} {t : Int64} (hR : RS g m0 q z I R M) (hi78 : I 78 = some (nI L)) (hW : WH S L I R) (hL : L < 65536) (hSl : S.length < 65536) (hSL : ∀ p ∈ S, p < L) : pt (mT g) 243 [.ref m0, .long t] M (fun v M' => (v = some (.int (nI (stN S t))) ∧ M = M')) := by
  refine pt_in (b := mb_243 g) rfl (fun kf => ?_)
  show pl (mT g) kf (mb_243 g).2 (0, [(0, .ref m0), (1, .long t)], [], M) _
  refine ps_st (S' := (1, [(0, .ref m0), (1, .long t)], [.long t], M)) rfl rfl rfl ?_
  refine ps_st (S' := (2, [(0, .ref m0), (1, .long t)], [.long 0, .long t], M)) rfl rfl rfl ?_
  refine ps_st (S' := (3, [(0, .ref m0), (1, .long t)], [.int (lg_cmp t 0)], M)) rfl rfl rfl ?_
  refine ps_if (S1 := (30, [], [], M)) (S2 := (6, [(0, .ref m0), (1, .long t)], [], M)) rfl rfl rfl (fun c_3 => ?_) (fun c_3 => ?_)
  · have c_3 : (lg_cmp t 0) < 0 := of_decide_eq_true c_3
    refine ps_st (S' := (31, [], [.int 0], M)) rfl rfl rfl ?_
    exact ps_ret rfl rfl (⟨congrArg (fun x => some (Value.int (nI x))) (show 0 = stN S t from by unfold stN; rw [if_neg (fun h9 => by have h8 := lgc_lt.mp c_3; have e0 : (0 : Int64).toInt = 0 := rfl; omega)]), rfl⟩)
  · have c_3 : ¬ ((lg_cmp t 0) < 0) := of_decide_eq_false c_3
    refine ps_st (S' := (7, [(0, .ref m0), (1, .long t)], [.long t], M)) rfl rfl rfl ?_
    refine ps_st (S' := (8, [(0, .ref m0), (1, .long t)], [.ref m0, .long t], M)) rfl rfl rfl ?_
    refine pr_int (j := 78) (S' := (11, [(0, .ref m0), (1, .long t)], [.int (nI L), .long t], M)) rfl hR rfl hi78 rfl ?_
    refine ps_st (S' := (12, [(0, .ref m0), (1, .long t)], [.long (Int32.toInt64 (nI L)), .long t], M)) rfl rfl rfl ?_
    rw [i2l_nL (p := L) (by omega)]
    show pl _ _ _ (_, [(0, .ref m0), (1, .long t)], [.long (nL L), .long t], M) _
    refine ps_st (S' := (13, [(0, .ref m0), (1, .long t)], [.int (lg_cmp t (nL L))], M)) rfl rfl rfl ?_
    refine ps_if (S1 := (30, [], [], M)) (S2 := (16, [(0, .ref m0), (1, .long t)], [], M)) rfl rfl rfl (fun c_13 => ?_) (fun c_13 => ?_)
    · have c_13 : 0 ≤ (lg_cmp t (nL L)) := of_decide_eq_true c_13
      refine ps_st (S' := (31, [], [.int 0], M)) rfl rfl rfl ?_
      exact ps_ret rfl rfl (⟨congrArg (fun x => some (Value.int (nI x))) (show 0 = stN S t from by unfold stN; rw [if_neg (fun h9 => by have h8 := lgc_ge.mp c_13; rw [nL_val (by omega)] at h8; have h7 := hSL _ h9.2; omega)]), rfl⟩)
    · have c_13 : ¬ (0 ≤ (lg_cmp t (nL L))) := of_decide_eq_false c_13
      have h3 : ¬ t.toInt < 0 := fun h9 => c_3 (lgc_lt.mpr h9)
      have h13 : t.toInt < L := Int.not_le.mp (fun h9 => c_13 (lgc_ge.mpr (by rw [nL_val (by omega)]; exact h9)))
      obtain ⟨k, hk⟩ : ∃ k : Nat, t.toInt = (k : Int) := ⟨t.toInt.toNat, by omega⟩
      have et : t = nL k := Int64.toInt_inj.mp (by rw [nL_val (by omega)]; exact hk)
      subst et
      have hkL : k < L := by omega
      show pl _ _ _ (16, [(0, .ref m0), (1, .long (nL k))], [], M) _
      refine ps_st (S' := (17, [(0, .ref m0), (1, .long (nL k))], [.ref m0], M)) rfl rfl rfl ?_
      refine pr_ref (j := 81) (S' := (20, [(0, .ref m0), (1, .long (nL k))], [.ref (q 81)], M)) rfl hR rfl rfl ?_
      refine ps_st (S' := (21, [(0, .ref m0), (1, .long (nL k))], [.long (nL k), .ref (q 81)], M)) rfl rfl rfl ?_
      refine ps_st (S' := (22, [(0, .ref m0), (1, .long (nL k))], [.int (Int64.toInt32 (nL k)), .ref (q 81)], M)) rfl rfl rfl ?_
      rw [l2i_nL (p := k) (by omega)]
      show pl _ _ _ (_, [(0, .ref m0), (1, .long (nL k))], [.int (nI k), .ref (q 81)], M) _
      refine pr_ld (a := 81) (j := k) (y := (nuA S k - 1)) (S' := (23, [(0, .ref m0), (1, .long (nL k))], [.int (nuA S k - 1)], M)) rfl hR rfl (by omega) (fun _ => hW k (by omega)) rfl (fun i1_22 => ?_)
      refine ps_if (S1 := (30, [], [], M)) (S2 := (26, [(0, .ref m0), (1, .long (nL k))], [], M)) rfl rfl rfl (fun c_23 => ?_) (fun c_23 => ?_)
      · have c_23 : (nuA S k - 1) < 0 := of_decide_eq_true c_23
        refine ps_st (S' := (31, [], [.int 0], M)) rfl rfl rfl ?_
        exact ps_ret rfl rfl (⟨congrArg (fun x => some (Value.int (nI x))) (show 0 = stN S (nL k) from st_0 hSl (by omega) c_23), rfl⟩)
      · have c_23 : ¬ ((nuA S k - 1) < 0) := of_decide_eq_false c_23
        refine ps_st (S' := (27, [(0, .ref m0), (1, .long (nL k))], [.int 1], M)) rfl rfl rfl ?_
        refine ps_st (S' := (31, [], [.int 1], M)) rfl rfl rfl ?_
        exact ps_ret rfl rfl (⟨congrArg (fun x => some (Value.int (nI x))) (show 1 = stN S (nL k) from st_1 hSl (by omega) c_23), rfl⟩)
set_option maxHeartbeats 1000000 in
theorem rd_nameOf {g : xe_G} {m0 : Nat} {q : Nat → Nat} {z : Nat × Nat} {I : rI} {R : rR} {M : mi_H} {n : Nat} {f : Nat → Int32} {tx : List (List Nat)} {cN : Nat} {A : Nat → Nat} {N mj : Nat} {E : List (Nat × Nat)} {k : Nat} (hR : RS g m0 q z I R M) (hi51 : I 51 = some 0) (hi52 : I 52 = some (nI N)) (hi53 : I 53 = some (nI mj)) (hF : FK n f I R) (hY : SYT tx cN A I R) (hP : RPV f n E tx N I R) (hEP : EP f n E) (hN : N < 65536) (hmj : mj < 65536) (ht : (9 ≤ tg f E k ∧ tg f E k ≤ 11) ∨ tg f E k = 17 ∨ tg f E k = 18) (hp9 : tg f E (se f E k) = 12) (h19 : tg f E (fi f E (se f E k)) = 1) : pt (mT g) 225 [.ref m0, .int (nI k)] M (fun v M' => (∃ (s : Nat), (s < tx.length ∧ tx.getD s [] = tX f n E (fi f E (se f E k))) ∧ v = some (.int (nI s)) ∧ M = M')) := by
  refine pt_in (b := mb_225 g) rfl (fun kf => ?_)
  show pl (mT g) kf (mb_225 g).2 (0, [(0, .ref m0), (1, .int (nI k))], [], M) _
  have hn := hF.1
  refine ps_st (S' := (1, [(0, .ref m0), (1, .int (nI k))], [.ref m0], M)) rfl rfl rfl ?_
  refine ps_st (S' := (2, [(0, .ref m0), (1, .int (nI k))], [.ref m0, .ref m0], M)) rfl rfl rfl ?_
  refine ps_st (S' := (3, [(0, .ref m0), (1, .int (nI k))], [.ref m0, .ref m0, .ref m0], M)) rfl rfl rfl ?_
  refine ps_st (S' := (4, [(0, .ref m0), (1, .int (nI k))], [.int (nI k), .ref m0, .ref m0, .ref m0], M)) rfl rfl rfl ?_
  refine ps_st (S' := (5, [(0, .ref m0), (1, .int (nI k))], [.int 3, .int (nI k), .ref m0, .ref m0, .ref m0], M)) rfl rfl rfl ?_
  refine pl_call (a := [.ref m0, .int (nI k), .int 3]) (rest := [.ref m0, .ref m0]) rfl rfl rfl (rd_idx3 (n := n) (f := f) (tx := tx) (cN := cN) (A := A) (N := N) (mj := mj) (E := E) (k := k) hR hi51 hi52 hi53 hF hY hP (hEP) (hN) (hmj) (by omega)) (fun v1 M2 q3 => ?_)
  obtain ⟨rfl, rfl⟩ := q3
  show pl _ _ _ (8, [(0, .ref m0), (1, .int (nI k))], [.int (nI (se f E k)), .ref m0, .ref m0], M) _
  have hix_5 := se_lt f E k
  refine ps_st (S' := (9, [(0, .ref m0), (1, .int (nI k))], [.int 1, .int (nI (se f E k)), .ref m0, .ref m0], M)) rfl rfl rfl ?_
  refine pl_call (a := [.ref m0, .int (nI (se f E k)), .int 1]) (rest := [.ref m0]) rfl rfl rfl (rd_idx1 (n := n) (f := f) (tx := tx) (cN := cN) (A := A) (N := N) (mj := mj) (E := E) (k := (se f E k)) hR hi51 hi52 hi53 hF hY hP (hEP) (hN) (hmj) (by omega)) (fun v4 M5 q6 => ?_)
  obtain ⟨rfl, rfl⟩ := q6
  show pl _ _ _ (12, [(0, .ref m0), (1, .int (nI k))], [.int (nI (fi f E (se f E k))), .ref m0], M) _
  have hix_9 := fi_lt f E (se f E k)
  refine pl_call (a := [.ref m0, .int (nI (fi f E (se f E k)))]) (rest := []) rfl rfl rfl (rd_symOf (n := n) (f := f) (tx := tx) (cN := cN) (A := A) (N := N) (mj := mj) (E := E) (k := (fi f E (se f E k))) hR hi51 hi52 hi53 hF hY hP (hEP) (hN) (hmj) (by omega)) (fun v7 M8 q9 => ?_)
  obtain ⟨s10, q12_s, rfl, rfl⟩ := q9
  show pl _ _ _ (15, [(0, .ref m0), (1, .int (nI k))], [.int (nI s10)], M) _
  have hsl_12 := q12_s.1
  have htl_12 := hY.1.2.2.1
  exact ps_reti rfl (⟨s10, q12_s, rfl, rfl⟩)
set_option maxHeartbeats 1000000 in
theorem rd_descOf {g : xe_G} {m0 : Nat} {q : Nat → Nat} {z : Nat × Nat} {I : rI} {R : rR} {M : mi_H} {n : Nat} {f : Nat → Int32} {tx : List (List Nat)} {cN : Nat} {A : Nat → Nat} {N mj : Nat} {E : List (Nat × Nat)} {k : Nat} (hR : RS g m0 q z I R M) (hi51 : I 51 = some 0) (hi52 : I 52 = some (nI N)) (hi53 : I 53 = some (nI mj)) (hF : FK n f I R) (hY : SYT tx cN A I R) (hP : RPV f n E tx N I R) (hEP : EP f n E) (hN : N < 65536) (hmj : mj < 65536) (ht : (9 ≤ tg f E k ∧ tg f E k ≤ 11) ∨ tg f E k = 17 ∨ tg f E k = 18) (hp9 : tg f E (se f E k) = 12) (h19 : tg f E (se f E (se f E k)) = 1) : pt (mT g) 201 [.ref m0, .int (nI k)] M (fun v M' => (∃ (s : Nat), (s < tx.length ∧ tx.getD s [] = tX f n E (se f E (se f E k))) ∧ v = some (.int (nI s)) ∧ M = M')) := by
  refine pt_in (b := mb_201 g) rfl (fun kf => ?_)
  show pl (mT g) kf (mb_201 g).2 (0, [(0, .ref m0), (1, .int (nI k))], [], M) _
  have hn := hF.1
  refine ps_st (S' := (1, [(0, .ref m0), (1, .int (nI k))], [.ref m0], M)) rfl rfl rfl ?_
  refine ps_st (S' := (2, [(0, .ref m0), (1, .int (nI k))], [.ref m0, .ref m0], M)) rfl rfl rfl ?_
  refine ps_st (S' := (3, [(0, .ref m0), (1, .int (nI k))], [.ref m0, .ref m0, .ref m0], M)) rfl rfl rfl ?_
  refine ps_st (S' := (4, [(0, .ref m0), (1, .int (nI k))], [.int (nI k), .ref m0, .ref m0, .ref m0], M)) rfl rfl rfl ?_
  refine ps_st (S' := (5, [(0, .ref m0), (1, .int (nI k))], [.int 3, .int (nI k), .ref m0, .ref m0, .ref m0], M)) rfl rfl rfl ?_
  refine pl_call (a := [.ref m0, .int (nI k), .int 3]) (rest := [.ref m0, .ref m0]) rfl rfl rfl (rd_idx3 (n := n) (f := f) (tx := tx) (cN := cN) (A := A) (N := N) (mj := mj) (E := E) (k := k) hR hi51 hi52 hi53 hF hY hP (hEP) (hN) (hmj) (by omega)) (fun v1 M2 q3 => ?_)
  obtain ⟨rfl, rfl⟩ := q3
  show pl _ _ _ (8, [(0, .ref m0), (1, .int (nI k))], [.int (nI (se f E k)), .ref m0, .ref m0], M) _
  have hix_5 := se_lt f E k
  refine ps_st (S' := (9, [(0, .ref m0), (1, .int (nI k))], [.int 3, .int (nI (se f E k)), .ref m0, .ref m0], M)) rfl rfl rfl ?_
  refine pl_call (a := [.ref m0, .int (nI (se f E k)), .int 3]) (rest := [.ref m0]) rfl rfl rfl (rd_idx3 (n := n) (f := f) (tx := tx) (cN := cN) (A := A) (N := N) (mj := mj) (E := E) (k := (se f E k)) hR hi51 hi52 hi53 hF hY hP (hEP) (hN) (hmj) (by omega)) (fun v4 M5 q6 => ?_)
  obtain ⟨rfl, rfl⟩ := q6
  show pl _ _ _ (12, [(0, .ref m0), (1, .int (nI k))], [.int (nI (se f E (se f E k))), .ref m0], M) _
  have hix_9 := se_lt f E (se f E k)
  refine pl_call (a := [.ref m0, .int (nI (se f E (se f E k)))]) (rest := []) rfl rfl rfl (rd_symOf (n := n) (f := f) (tx := tx) (cN := cN) (A := A) (N := N) (mj := mj) (E := E) (k := (se f E (se f E k))) hR hi51 hi52 hi53 hF hY hP (hEP) (hN) (hmj) (by omega)) (fun v7 M8 q9 => ?_)
  obtain ⟨s10, q12_s, rfl, rfl⟩ := q9
  show pl _ _ _ (15, [(0, .ref m0), (1, .int (nI k))], [.int (nI s10)], M) _
  have hsl_12 := q12_s.1
  have htl_12 := hY.1.2.2.1
  exact ps_reti rfl (⟨s10, q12_s, rfl, rfl⟩)
set_option maxHeartbeats 1000000 in
theorem rd_formedW {g : xe_G} {m0 : Nat} {q : Nat → Nat} {z : Nat × Nat} {I : rI} {R : rR} {M : mi_H} {n : Nat} {f : Nat → Int32} {cb : Nat} {L pc : Nat} (hR : RS g m0 q z I R M) (hi77 : I 77 = some (nI cb)) (hi78 : I 78 = some (nI L)) (hF : FK n f I R) (hcl : cb + L + 4 ≤ n) (hpl : pc < L) : pt (mT g) 210 [.ref m0, .int (nI pc), .int 196] M (fun v M' => (v = some (.int (wfI f cb L pc)) ∧ M = M')) := by
  refine pt_in (b := mb_210 g) rfl (fun kf => ?_)
  show pl (mT g) kf (mb_210 g).2 (0, [(0, .ref m0), (1, .int (nI pc)), (2, .int 196)], [], M) _
  have hn := hF.1
  refine ps_st (S' := (1, [(0, .ref m0), (1, .int (nI pc)), (2, .int 196)], [.int 196], M)) rfl rfl rfl ?_
  refine ps_st (S' := (4, [(0, .ref m0), (1, .int (nI pc)), (2, .int 196)], [.int 196, .int 196], M)) rfl rfl rfl ?_
  refine ps_if2 (S1 := (76, [(0, .ref m0), (1, .int (nI pc)), (2, .int 196)], [], M)) (S2 := (7, [(0, .ref m0), (1, .int (nI pc)), (2, .int 196)], [], M)) rfl rfl rfl (fun c_4 => ?_) (fun c_4 => ?_)
  · exact absurd (of_decide_eq_true c_4) (by decide)
  refine ps_st (S' := (8, [(0, .ref m0), (1, .int (nI pc)), (2, .int 196)], [.int (nI pc)], M)) rfl rfl rfl ?_
  refine ps_st (S' := (9, [(0, .ref m0), (1, .int (nI pc)), (2, .int 196)], [.int 1, .int (nI pc)], M)) rfl rfl rfl ?_
  refine ps_st (S' := (10, [(0, .ref m0), (1, .int (nI pc)), (2, .int 196)], [.int ((nI pc) + 1)], M)) rfl rfl rfl ?_
  rw [nI_add1 (p := pc) (k := 1) (x := 1) rfl (by omega)]
  show pl _ _ _ (_, [(0, .ref m0), (1, .int (nI pc)), (2, .int 196)], [.int (nI (pc + 1))], M) _
  refine ps_st (S' := (11, [(0, .ref m0), (1, .int (nI pc)), (2, .int 196)], [.ref m0, .int (nI (pc + 1))], M)) rfl rfl rfl ?_
  refine pr_int (j := 78) (S' := (14, [(0, .ref m0), (1, .int (nI pc)), (2, .int 196)], [.int (nI L), .int (nI (pc + 1))], M)) rfl hR rfl hi78 rfl ?_
  refine ps_if2 (S1 := (19, [(0, .ref m0), (1, .int (nI pc)), (2, .int 196)], [], M)) (S2 := (17, [(0, .ref m0), (1, .int (nI pc)), (2, .int 196)], [], M)) rfl rfl rfl (fun c_14 => ?_) (fun c_14 => ?_)
  · have c_14 : (nI (pc + 1)) < (nI L) := of_decide_eq_true c_14
    have n_14 : pc + 1 < L := (lt_nI (p := pc + 1) (n := L) (by omega) (by omega)).mp c_14
    refine ps_st (S' := (20, [(0, .ref m0), (1, .int (nI pc)), (2, .int 196)], [.ref m0], M)) rfl rfl rfl ?_
    refine ps_st (S' := (21, [(0, .ref m0), (1, .int (nI pc)), (2, .int 196)], [.int (nI pc), .ref m0], M)) rfl rfl rfl ?_
    refine ps_st (S' := (22, [(0, .ref m0), (1, .int (nI pc)), (2, .int 196)], [.int 1, .int (nI pc), .ref m0], M)) rfl rfl rfl ?_
    refine ps_st (S' := (23, [(0, .ref m0), (1, .int (nI pc)), (2, .int 196)], [.int ((nI pc) + 1), .ref m0], M)) rfl rfl rfl ?_
    rw [nI_add1 (p := pc) (k := 1) (x := 1) rfl (by omega)]
    show pl _ _ _ (_, [(0, .ref m0), (1, .int (nI pc)), (2, .int 196)], [.int (nI (pc + 1)), .ref m0], M) _
    refine pl_call (a := [.ref m0, .int (nI (pc + 1))]) (rest := []) rfl rfl rfl (rd_b1 (n := n) (f := f) (cb := cb) (p := (pc + 1)) hR hi77 hF (by omega)) (fun v1 M2 q3 => ?_)
    obtain ⟨rfl, rfl⟩ := q3
    show pl _ _ _ (26, [(0, .ref m0), (1, .int (nI pc)), (2, .int 196)], [.int (nI (by1 f (cb + (pc + 1))))], M) _
    show pl _ _ _ (_, [(0, .ref m0), (1, .int (nI pc)), (2, .int 196)], [.int (nI (by1 f (cb + pc + 1)))], M) _
    have hb_23 := by1_lt f (cb + pc + 1)
    refine ps_st (S' := (27, [(3, .int (nI (by1 f (cb + pc + 1)))), (0, .ref m0), (1, .int (nI pc)), (2, .int 196)], [], M)) rfl rfl rfl ?_
    refine ps_st (S' := (28, [(3, .int (nI (by1 f (cb + pc + 1)))), (0, .ref m0), (1, .int (nI pc)), (2, .int 196)], [.int (nI (by1 f (cb + pc + 1)))], M)) rfl rfl rfl ?_
    refine ps_st (S' := (31, [(3, .int (nI (by1 f (cb + pc + 1)))), (0, .ref m0), (1, .int (nI pc)), (2, .int 196)], [.int 132, .int (nI (by1 f (cb + pc + 1)))], M)) rfl rfl rfl ?_
    refine ps_if2 (S1 := (39, [(3, .int (nI (by1 f (cb + pc + 1)))), (0, .ref m0), (1, .int (nI pc)), (2, .int 196)], [], M)) (S2 := (34, [(3, .int (nI (by1 f (cb + pc + 1)))), (0, .ref m0), (1, .int (nI pc)), (2, .int 196)], [], M)) rfl rfl rfl (fun c_31 => ?_) (fun c_31 => ?_)
    · have c_31 : ¬ (nI (by1 f (cb + pc + 1))) = 132 := of_decide_eq_true c_31
      have n_31 : ¬ (by1 f (cb + pc + 1) = 132) := fun h9 => c_31 ((eq_nI (p := by1 f (cb + pc + 1)) (n := 132) (Nat.lt_trans (by1_lt _ _) (by decide)) (by decide)).mpr h9)
      refine ps_st (S' := (40, [(3, .int (nI (by1 f (cb + pc + 1)))), (0, .ref m0), (1, .int (nI pc)), (2, .int 196)], [.int (nI (by1 f (cb + pc + 1)))], M)) rfl rfl rfl ?_
      refine ps_st (S' := (42, [(3, .int (nI (by1 f (cb + pc + 1)))), (0, .ref m0), (1, .int (nI pc)), (2, .int 196)], [.int 21, .int (nI (by1 f (cb + pc + 1)))], M)) rfl rfl rfl ?_
      refine ps_if2 (S1 := (51, [(3, .int (nI (by1 f (cb + pc + 1))))], [], M)) (S2 := (45, [(3, .int (nI (by1 f (cb + pc + 1)))), (0, .ref m0), (1, .int (nI pc)), (2, .int 196)], [], M)) rfl rfl rfl (fun c_42 => ?_) (fun c_42 => ?_)
      · have c_42 : (nI (by1 f (cb + pc + 1))) < 21 := of_decide_eq_true c_42
        have n_42 : by1 f (cb + pc + 1) < 21 := (lt_nI (p := by1 f (cb + pc + 1)) (n := 21) (Nat.lt_trans (by1_lt _ _) (by decide)) (by decide)).mp c_42
        refine ps_st (S' := (52, [(3, .int (nI (by1 f (cb + pc + 1))))], [.int (nI (by1 f (cb + pc + 1)))], M)) rfl rfl rfl ?_
        refine ps_st (S' := (54, [(3, .int (nI (by1 f (cb + pc + 1))))], [.int 54, .int (nI (by1 f (cb + pc + 1)))], M)) rfl rfl rfl ?_
        refine ps_if2 (S1 := (63, [(3, .int (nI (by1 f (cb + pc + 1))))], [], M)) (S2 := (57, [(3, .int (nI (by1 f (cb + pc + 1))))], [], M)) rfl rfl rfl (fun c_54 => ?_) (fun c_54 => ?_)
        rotate_left
        · exact absurd ((lt_nI (p := by1 f (cb + pc + 1)) (n := 54) (Nat.lt_trans (by1_lt _ _) (by decide)) (by decide)).mpr (by omega)) (of_decide_eq_false c_54)
        refine ps_st (S' := (64, [(3, .int (nI (by1 f (cb + pc + 1))))], [.int (nI (by1 f (cb + pc + 1)))], M)) rfl rfl rfl ?_
        refine ps_st (S' := (67, [(3, .int (nI (by1 f (cb + pc + 1))))], [.int 169, .int (nI (by1 f (cb + pc + 1)))], M)) rfl rfl rfl ?_
        refine ps_if2 (S1 := (74, [(3, .int (nI (by1 f (cb + pc + 1))))], [], M)) (S2 := (70, [], [], M)) rfl rfl rfl (fun c_67 => ?_) (fun c_67 => ?_)
        rotate_left
        · exact absurd (show ¬ ((nI (by1 f (cb + pc + 1))) = 169) from fun h9 => absurd ((eq_nI (p := by1 f (cb + pc + 1)) (n := 169) (Nat.lt_trans (by1_lt _ _) (by decide)) (by decide)).mp h9) (by omega)) (of_decide_eq_false c_67)
        have hl9 : lcO (by1 f (cb + pc + 1)) = 0 := if_neg (by omega)
        refine ps_st (S' := (75, [], [.int (-1)], M)) rfl rfl rfl ?_
        exact ps_ret rfl rfl (⟨by unfold wfI; rw [if_neg (by omega), if_neg (by omega), if_pos hl9], rfl⟩)
      · have c_42 : ¬ ((nI (by1 f (cb + pc + 1))) < 21) := of_decide_eq_false c_42
        have n_42 : ¬ (by1 f (cb + pc + 1) < 21) := fun h9 => c_42 ((lt_nI (p := by1 f (cb + pc + 1)) (n := 21) (Nat.lt_trans (by1_lt _ _) (by decide)) (by decide)).mpr h9)
        refine ps_st (S' := (46, [(3, .int (nI (by1 f (cb + pc + 1)))), (0, .ref m0), (1, .int (nI pc)), (2, .int 196)], [.int (nI (by1 f (cb + pc + 1)))], M)) rfl rfl rfl ?_
        refine ps_st (S' := (48, [(3, .int (nI (by1 f (cb + pc + 1)))), (0, .ref m0), (1, .int (nI pc)), (2, .int 196)], [.int 25, .int (nI (by1 f (cb + pc + 1)))], M)) rfl rfl rfl ?_
        refine ps_if2 (S1 := (70, [], [], M)) (S2 := (51, [(3, .int (nI (by1 f (cb + pc + 1))))], [], M)) rfl rfl rfl (fun c_48 => ?_) (fun c_48 => ?_)
        · have c_48 : (nI (by1 f (cb + pc + 1))) ≤ 25 := of_decide_eq_true c_48
          have n_48 : by1 f (cb + pc + 1) ≤ 25 := (le_nI (p := by1 f (cb + pc + 1)) (n := 25) (Nat.lt_trans (by1_lt _ _) (by decide)) (by decide)).mp c_48
          have hl9 : ¬ lcO (by1 f (cb + pc + 1)) = 0 := by unfold lcO; rw [if_pos (by omega)]; decide
          refine ps_st (S' := (71, [], [.int 4], M)) rfl rfl rfl ?_
          refine ps_st (S' := (75, [], [.int 4], M)) rfl rfl rfl ?_
          exact ps_ret rfl rfl (⟨by unfold wfI; rw [if_neg (by omega), if_neg (by omega), if_neg hl9], rfl⟩)
        · have c_48 : ¬ ((nI (by1 f (cb + pc + 1))) ≤ 25) := of_decide_eq_false c_48
          have n_48 : ¬ (by1 f (cb + pc + 1) ≤ 25) := fun h9 => c_48 ((le_nI (p := by1 f (cb + pc + 1)) (n := 25) (Nat.lt_trans (by1_lt _ _) (by decide)) (by decide)).mpr h9)
          refine ps_st (S' := (52, [(3, .int (nI (by1 f (cb + pc + 1))))], [.int (nI (by1 f (cb + pc + 1)))], M)) rfl rfl rfl ?_
          refine ps_st (S' := (54, [(3, .int (nI (by1 f (cb + pc + 1))))], [.int 54, .int (nI (by1 f (cb + pc + 1)))], M)) rfl rfl rfl ?_
          refine ps_if2 (S1 := (63, [(3, .int (nI (by1 f (cb + pc + 1))))], [], M)) (S2 := (57, [(3, .int (nI (by1 f (cb + pc + 1))))], [], M)) rfl rfl rfl (fun c_54 => ?_) (fun c_54 => ?_)
          · have c_54 : (nI (by1 f (cb + pc + 1))) < 54 := of_decide_eq_true c_54
            have n_54 : by1 f (cb + pc + 1) < 54 := (lt_nI (p := by1 f (cb + pc + 1)) (n := 54) (Nat.lt_trans (by1_lt _ _) (by decide)) (by decide)).mp c_54
            refine ps_st (S' := (64, [(3, .int (nI (by1 f (cb + pc + 1))))], [.int (nI (by1 f (cb + pc + 1)))], M)) rfl rfl rfl ?_
            refine ps_st (S' := (67, [(3, .int (nI (by1 f (cb + pc + 1))))], [.int 169, .int (nI (by1 f (cb + pc + 1)))], M)) rfl rfl rfl ?_
            refine ps_if2 (S1 := (74, [(3, .int (nI (by1 f (cb + pc + 1))))], [], M)) (S2 := (70, [], [], M)) rfl rfl rfl (fun c_67 => ?_) (fun c_67 => ?_)
            rotate_left
            · exact absurd (show ¬ ((nI (by1 f (cb + pc + 1))) = 169) from fun h9 => absurd ((eq_nI (p := by1 f (cb + pc + 1)) (n := 169) (Nat.lt_trans (by1_lt _ _) (by decide)) (by decide)).mp h9) (by omega)) (of_decide_eq_false c_67)
            have hl9 : lcO (by1 f (cb + pc + 1)) = 0 := if_neg (by omega)
            refine ps_st (S' := (75, [], [.int (-1)], M)) rfl rfl rfl ?_
            exact ps_ret rfl rfl (⟨by unfold wfI; rw [if_neg (by omega), if_neg (by omega), if_pos hl9], rfl⟩)
          · have c_54 : ¬ ((nI (by1 f (cb + pc + 1))) < 54) := of_decide_eq_false c_54
            have n_54 : ¬ (by1 f (cb + pc + 1) < 54) := fun h9 => c_54 ((lt_nI (p := by1 f (cb + pc + 1)) (n := 54) (Nat.lt_trans (by1_lt _ _) (by decide)) (by decide)).mpr h9)
            refine ps_st (S' := (58, [(3, .int (nI (by1 f (cb + pc + 1))))], [.int (nI (by1 f (cb + pc + 1)))], M)) rfl rfl rfl ?_
            refine ps_st (S' := (60, [(3, .int (nI (by1 f (cb + pc + 1))))], [.int 58, .int (nI (by1 f (cb + pc + 1)))], M)) rfl rfl rfl ?_
            refine ps_if2 (S1 := (70, [], [], M)) (S2 := (63, [(3, .int (nI (by1 f (cb + pc + 1))))], [], M)) rfl rfl rfl (fun c_60 => ?_) (fun c_60 => ?_)
            · have c_60 : (nI (by1 f (cb + pc + 1))) ≤ 58 := of_decide_eq_true c_60
              have n_60 : by1 f (cb + pc + 1) ≤ 58 := (le_nI (p := by1 f (cb + pc + 1)) (n := 58) (Nat.lt_trans (by1_lt _ _) (by decide)) (by decide)).mp c_60
              have hl9 : ¬ lcO (by1 f (cb + pc + 1)) = 0 := by unfold lcO; rw [if_pos (by omega)]; decide
              refine ps_st (S' := (71, [], [.int 4], M)) rfl rfl rfl ?_
              refine ps_st (S' := (75, [], [.int 4], M)) rfl rfl rfl ?_
              exact ps_ret rfl rfl (⟨by unfold wfI; rw [if_neg (by omega), if_neg (by omega), if_neg hl9], rfl⟩)
            · have c_60 : ¬ ((nI (by1 f (cb + pc + 1))) ≤ 58) := of_decide_eq_false c_60
              have n_60 : ¬ (by1 f (cb + pc + 1) ≤ 58) := fun h9 => c_60 ((le_nI (p := by1 f (cb + pc + 1)) (n := 58) (Nat.lt_trans (by1_lt _ _) (by decide)) (by decide)).mpr h9)
              refine ps_st (S' := (64, [(3, .int (nI (by1 f (cb + pc + 1))))], [.int (nI (by1 f (cb + pc + 1)))], M)) rfl rfl rfl ?_
              refine ps_st (S' := (67, [(3, .int (nI (by1 f (cb + pc + 1))))], [.int 169, .int (nI (by1 f (cb + pc + 1)))], M)) rfl rfl rfl ?_
              refine ps_if2 (S1 := (74, [(3, .int (nI (by1 f (cb + pc + 1))))], [], M)) (S2 := (70, [], [], M)) rfl rfl rfl (fun c_67 => ?_) (fun c_67 => ?_)
              · have c_67 : ¬ (nI (by1 f (cb + pc + 1))) = 169 := of_decide_eq_true c_67
                have n_67 : ¬ (by1 f (cb + pc + 1) = 169) := fun h9 => c_67 ((eq_nI (p := by1 f (cb + pc + 1)) (n := 169) (Nat.lt_trans (by1_lt _ _) (by decide)) (by decide)).mpr h9)
                have hl9 : lcO (by1 f (cb + pc + 1)) = 0 := if_neg (by omega)
                refine ps_st (S' := (75, [], [.int (-1)], M)) rfl rfl rfl ?_
                exact ps_ret rfl rfl (⟨by unfold wfI; rw [if_neg (by omega), if_neg (by omega), if_pos hl9], rfl⟩)
              · have c_67 : ¬ (¬ (nI (by1 f (cb + pc + 1))) = 169) := of_decide_eq_false c_67
                have n_67 : by1 f (cb + pc + 1) = 169 := (eq_nI (p := by1 f (cb + pc + 1)) (n := 169) (Nat.lt_trans (by1_lt _ _) (by decide)) (by decide)).mp (Decidable.not_not.mp c_67)
                have hl9 : ¬ lcO (by1 f (cb + pc + 1)) = 0 := by unfold lcO; rw [if_pos (by omega)]; decide
                refine ps_st (S' := (71, [], [.int 4], M)) rfl rfl rfl ?_
                refine ps_st (S' := (75, [], [.int 4], M)) rfl rfl rfl ?_
                exact ps_ret rfl rfl (⟨by unfold wfI; rw [if_neg (by omega), if_neg (by omega), if_neg hl9], rfl⟩)
    · have c_31 : ¬ (¬ (nI (by1 f (cb + pc + 1))) = 132) := of_decide_eq_false c_31
      have n_31 : by1 f (cb + pc + 1) = 132 := (eq_nI (p := by1 f (cb + pc + 1)) (n := 132) (Nat.lt_trans (by1_lt _ _) (by decide)) (by decide)).mp (Decidable.not_not.mp c_31)
      refine ps_st (S' := (36, [(3, .int (nI (by1 f (cb + pc + 1)))), (0, .ref m0), (1, .int (nI pc)), (2, .int 196)], [.int 6], M)) rfl rfl rfl ?_
      refine ps_st (S' := (75, [], [.int 6], M)) rfl rfl rfl ?_
      exact ps_ret rfl rfl (⟨by unfold wfI; rw [if_neg (by omega), if_pos (by omega)], rfl⟩)
  · have c_14 : ¬ ((nI (pc + 1)) < (nI L)) := of_decide_eq_false c_14
    have n_14 : ¬ (pc + 1 < L) := fun h9 => c_14 ((lt_nI (p := pc + 1) (n := L) (by omega) (by omega)).mpr h9)
    refine ps_st (S' := (18, [(0, .ref m0), (1, .int (nI pc)), (2, .int 196)], [.int (-1)], M)) rfl rfl rfl ?_
    exact ps_ret rfl rfl (⟨by unfold wfI; rw [if_pos (by omega)], rfl⟩)
set_option maxHeartbeats 1000000 in
theorem rd_formedT {g : xe_G} {m0 : Nat} {q : Nat → Nat} {z : Nat × Nat} {I : rI} {R : rR} {M : mi_H} {n : Nat} {f : Nat → Int32} {cb : Nat} {L pc : Nat} (hR : RS g m0 q z I R M) (hi77 : I 77 = some (nI cb)) (hi78 : I 78 = some (nI L)) (hF : FK n f I R) (hcl : cb + L + 4 ≤ n) (hpl : pc < L) : pt (mT g) 210 [.ref m0, .int (nI pc), .int 170] M (fun v M' => (∃ (x : Nat × Int32 × Int32 × Nat), (swS f cb L pc 170 = some x) ∧ v = some (.int (nI x.1)) ∧ M = M') ∨ ((swS f cb L pc 170 = none) ∧ v = some (.int (-1)) ∧ M = M')) := by
  refine pt_in (b := mb_210 g) rfl (fun kf => ?_)
  show pl (mT g) kf (mb_210 g).2 (0, [(0, .ref m0), (1, .int (nI pc)), (2, .int 170)], [], M) _
  have hn := hF.1
  have LL : ∀ (kf : Nat), (∀ (i : Nat), (pc + 1 ≤ i ∧ i ≤ pdN pc) → (zrN f cb (pdN pc - i) i = zrN f cb (pdN pc - (pc + 1)) (pc + 1)) → (pdN pc + 12 ≤ L) →  pl (mT g) kf (mb_210 g).2 (111, [(0, .ref m0), (1, .int (nI pc)), (2, .int 170), (3, .int (nI (pdN pc))), (4, .int (nI i))], [], M) (fun v M' => (∃ (x : Nat × Int32 × Int32 × Nat), (swS f cb L pc 170 = some x) ∧ v = some (.int (nI x.1)) ∧ M = M') ∨ ((swS f cb L pc 170 = none) ∧ v = some (.int (-1)) ∧ M = M'))) := by
    intro kf
    induction kf with
    | zero => exact (by intros; exact pl_0)
    | succ kf ih =>
      intro i hi hz hw9
      have hpd := pd_le pc
      refine ps_st1 (S' := (113, [(0, .ref m0), (1, .int (nI pc)), (2, .int 170), (3, .int (nI (pdN pc))), (4, .int (nI i))], [.int (nI i)], M)) rfl rfl rfl ?_
      refine ps_st (S' := (114, [(0, .ref m0), (1, .int (nI pc)), (2, .int 170), (3, .int (nI (pdN pc))), (4, .int (nI i))], [.int (nI (pdN pc)), .int (nI i)], M)) rfl rfl rfl ?_
      refine ps_if2 (S1 := (134, [(0, .ref m0), (1, .int (nI pc)), (2, .int 170), (3, .int (nI (pdN pc))), (4, .int (nI i))], [], M)) (S2 := (117, [(0, .ref m0), (1, .int (nI pc)), (2, .int 170), (3, .int (nI (pdN pc))), (4, .int (nI i))], [], M)) rfl rfl rfl (fun c_114 => ?_) (fun c_114 => ?_)
      · have c_114 : (nI (pdN pc)) ≤ (nI i) := of_decide_eq_true c_114
        have n_114 : pdN pc ≤ i := (le_nI (p := pdN pc) (n := i) (by omega) (by omega)).mp c_114
        refine ps_st (S' := (135, [(0, .ref m0), (1, .int (nI pc)), (2, .int 170), (3, .int (nI (pdN pc))), (4, .int (nI i))], [.int 170], M)) rfl rfl rfl ?_
        refine ps_st (S' := (138, [(0, .ref m0), (1, .int (nI pc)), (2, .int 170), (3, .int (nI (pdN pc))), (4, .int (nI i))], [.int 170, .int 170], M)) rfl rfl rfl ?_
        refine ps_if2 (S1 := (162, [(0, .ref m0), (1, .int (nI pc)), (2, .int 170), (3, .int (nI (pdN pc))), (4, .int (nI i))], [], M)) (S2 := (141, [(0, .ref m0), (1, .int (nI pc)), (2, .int 170), (3, .int (nI (pdN pc))), (4, .int (nI i))], [], M)) rfl rfl rfl (fun c_138 => ?_) (fun c_138 => ?_)
        · exact absurd (of_decide_eq_true c_138) (by decide)
        refine ps_st (S' := (142, [(0, .ref m0), (1, .int (nI pc)), (2, .int 170), (3, .int (nI (pdN pc))), (4, .int (nI i))], [.ref m0], M)) rfl rfl rfl ?_
        refine ps_st (S' := (143, [(0, .ref m0), (1, .int (nI pc)), (2, .int 170), (3, .int (nI (pdN pc))), (4, .int (nI i))], [.int (nI (pdN pc)), .ref m0], M)) rfl rfl rfl ?_
        refine ps_st (S' := (144, [(0, .ref m0), (1, .int (nI pc)), (2, .int 170), (3, .int (nI (pdN pc))), (4, .int (nI i))], [.int 4, .int (nI (pdN pc)), .ref m0], M)) rfl rfl rfl ?_
        refine ps_st (S' := (145, [(0, .ref m0), (1, .int (nI pc)), (2, .int 170), (3, .int (nI (pdN pc))), (4, .int (nI i))], [.int ((nI (pdN pc)) + 4), .ref m0], M)) rfl rfl rfl ?_
        rw [nI_add1 (p := pdN pc) (k := 4) (x := 4) rfl (by omega)]
        show pl _ _ _ (_, [(0, .ref m0), (1, .int (nI pc)), (2, .int 170), (3, .int (nI (pdN pc))), (4, .int (nI i))], [.int (nI (pdN pc + 4)), .ref m0], M) _
        refine pl_call (a := [.ref m0, .int (nI (pdN pc + 4))]) (rest := []) rfl rfl rfl (rd_b4 (n := n) (f := f) (cb := cb) (p := (pdN pc + 4)) hR hi77 hF (by omega)) (fun v1 M2 q3 => ?_)
        obtain ⟨rfl, rfl⟩ := q3
        show pl _ _ _ (148, [(0, .ref m0), (1, .int (nI pc)), (2, .int 170), (3, .int (nI (pdN pc))), (4, .int (nI i))], [.int (nI (by4 f (cb + (pdN pc + 4))))], M) _
        show pl _ _ _ (_, [(0, .ref m0), (1, .int (nI pc)), (2, .int 170), (3, .int (nI (pdN pc))), (4, .int (nI i))], [.int (nI (by4 f (cb + pdN pc + 4)))], M) _
        have hb_145 := by4_lt f (cb + pdN pc + 4)
        refine ps_st (S' := (149, [(0, .ref m0), (1, .int (nI pc)), (2, .int 170), (3, .int (nI (pdN pc))), (4, .int (nI i))], [.ref m0, .int (nI (by4 f (cb + pdN pc + 4)))], M)) rfl rfl rfl ?_
        refine ps_st (S' := (150, [(0, .ref m0), (1, .int (nI pc)), (2, .int 170), (3, .int (nI (pdN pc))), (4, .int (nI i))], [.int (nI (pdN pc)), .ref m0, .int (nI (by4 f (cb + pdN pc + 4)))], M)) rfl rfl rfl ?_
        refine ps_st (S' := (152, [(0, .ref m0), (1, .int (nI pc)), (2, .int 170), (3, .int (nI (pdN pc))), (4, .int (nI i))], [.int 8, .int (nI (pdN pc)), .ref m0, .int (nI (by4 f (cb + pdN pc + 4)))], M)) rfl rfl rfl ?_
        refine ps_st (S' := (153, [(0, .ref m0), (1, .int (nI pc)), (2, .int 170), (3, .int (nI (pdN pc))), (4, .int (nI i))], [.int ((nI (pdN pc)) + 8), .ref m0, .int (nI (by4 f (cb + pdN pc + 4)))], M)) rfl rfl rfl ?_
        rw [nI_add1 (p := pdN pc) (k := 8) (x := 8) rfl (by omega)]
        show pl _ _ _ (_, [(0, .ref m0), (1, .int (nI pc)), (2, .int 170), (3, .int (nI (pdN pc))), (4, .int (nI i))], [.int (nI (pdN pc + 8)), .ref m0, .int (nI (by4 f (cb + pdN pc + 4)))], M) _
        refine pl_call (a := [.ref m0, .int (nI (pdN pc + 8))]) (rest := [.int (nI (by4 f (cb + pdN pc + 4)))]) rfl rfl rfl (rd_b4 (n := n) (f := f) (cb := cb) (p := (pdN pc + 8)) hR hi77 hF (by omega)) (fun v4 M5 q6 => ?_)
        obtain ⟨rfl, rfl⟩ := q6
        show pl _ _ _ (156, [(0, .ref m0), (1, .int (nI pc)), (2, .int 170), (3, .int (nI (pdN pc))), (4, .int (nI i))], [.int (nI (by4 f (cb + (pdN pc + 8)))), .int (nI (by4 f (cb + pdN pc + 4)))], M) _
        show pl _ _ _ (_, [(0, .ref m0), (1, .int (nI pc)), (2, .int 170), (3, .int (nI (pdN pc))), (4, .int (nI i))], [.int (nI (by4 f (cb + pdN pc + 8))), .int (nI (by4 f (cb + pdN pc + 4)))], M) _
        have hb_153 := by4_lt f (cb + pdN pc + 8)
        refine ps_if2 (S1 := (174, [(0, .ref m0), (1, .int (nI pc)), (2, .int 170), (3, .int (nI (pdN pc)))], [], M)) (S2 := (159, [(0, .ref m0), (1, .int (nI pc)), (2, .int 170), (3, .int (nI (pdN pc))), (4, .int (nI i))], [], M)) rfl rfl rfl (fun c_156 => ?_) (fun c_156 => ?_)
        · have c_156 : (nI (by4 f (cb + pdN pc + 4))) ≤ (nI (by4 f (cb + pdN pc + 8))) := of_decide_eq_true c_156
          refine ps_st (S' := (175, [(0, .ref m0), (1, .int (nI pc)), (2, .int 170), (3, .int (nI (pdN pc)))], [.int 170], M)) rfl rfl rfl ?_
          refine ps_st (S' := (178, [(0, .ref m0), (1, .int (nI pc)), (2, .int 170), (3, .int (nI (pdN pc)))], [.int 170, .int 170], M)) rfl rfl rfl ?_
          refine ps_if2 (S1 := (212, [(0, .ref m0), (1, .int (nI pc)), (2, .int 170), (3, .int (nI (pdN pc)))], [], M)) (S2 := (181, [(0, .ref m0), (1, .int (nI pc)), (2, .int 170), (3, .int (nI (pdN pc)))], [], M)) rfl rfl rfl (fun c_178 => ?_) (fun c_178 => ?_)
          · exact absurd (of_decide_eq_true c_178) (by decide)
          refine ps_st (S' := (184, [(0, .ref m0), (1, .int (nI pc)), (2, .int 170), (3, .int (nI (pdN pc)))], [.long 4], M)) rfl rfl rfl ?_
          refine ps_st (S' := (185, [(0, .ref m0), (1, .int (nI pc)), (2, .int 170), (3, .int (nI (pdN pc)))], [.ref m0, .long 4], M)) rfl rfl rfl ?_
          refine ps_st (S' := (186, [(0, .ref m0), (1, .int (nI pc)), (2, .int 170), (3, .int (nI (pdN pc)))], [.int (nI (pdN pc)), .ref m0, .long 4], M)) rfl rfl rfl ?_
          refine ps_st (S' := (188, [(0, .ref m0), (1, .int (nI pc)), (2, .int 170), (3, .int (nI (pdN pc)))], [.int 8, .int (nI (pdN pc)), .ref m0, .long 4], M)) rfl rfl rfl ?_
          refine ps_st (S' := (189, [(0, .ref m0), (1, .int (nI pc)), (2, .int 170), (3, .int (nI (pdN pc)))], [.int ((nI (pdN pc)) + 8), .ref m0, .long 4], M)) rfl rfl rfl ?_
          rw [nI_add1 (p := pdN pc) (k := 8) (x := 8) rfl (by omega)]
          show pl _ _ _ (_, [(0, .ref m0), (1, .int (nI pc)), (2, .int 170), (3, .int (nI (pdN pc)))], [.int (nI (pdN pc + 8)), .ref m0, .long 4], M) _
          refine pl_call (a := [.ref m0, .int (nI (pdN pc + 8))]) (rest := [.long 4]) rfl rfl rfl (rd_b4 (n := n) (f := f) (cb := cb) (p := (pdN pc + 8)) hR hi77 hF (by omega)) (fun v7 M8 q9 => ?_)
          obtain ⟨rfl, rfl⟩ := q9
          show pl _ _ _ (192, [(0, .ref m0), (1, .int (nI pc)), (2, .int 170), (3, .int (nI (pdN pc)))], [.int (nI (by4 f (cb + (pdN pc + 8)))), .long 4], M) _
          show pl _ _ _ (_, [(0, .ref m0), (1, .int (nI pc)), (2, .int 170), (3, .int (nI (pdN pc)))], [.int (nI (by4 f (cb + pdN pc + 8))), .long 4], M) _
          have hb_189 := by4_lt f (cb + pdN pc + 8)
          refine ps_st (S' := (193, [(0, .ref m0), (1, .int (nI pc)), (2, .int 170), (3, .int (nI (pdN pc)))], [.long (Int32.toInt64 (nI (by4 f (cb + pdN pc + 8)))), .long 4], M)) rfl rfl rfl ?_
          refine ps_st (S' := (194, [(0, .ref m0), (1, .int (nI pc)), (2, .int 170), (3, .int (nI (pdN pc)))], [.ref m0, .long (Int32.toInt64 (nI (by4 f (cb + pdN pc + 8)))), .long 4], M)) rfl rfl rfl ?_
          refine ps_st (S' := (195, [(0, .ref m0), (1, .int (nI pc)), (2, .int 170), (3, .int (nI (pdN pc)))], [.int (nI (pdN pc)), .ref m0, .long (Int32.toInt64 (nI (by4 f (cb + pdN pc + 8)))), .long 4], M)) rfl rfl rfl ?_
          refine ps_st (S' := (196, [(0, .ref m0), (1, .int (nI pc)), (2, .int 170), (3, .int (nI (pdN pc)))], [.int 4, .int (nI (pdN pc)), .ref m0, .long (Int32.toInt64 (nI (by4 f (cb + pdN pc + 8)))), .long 4], M)) rfl rfl rfl ?_
          refine ps_st (S' := (197, [(0, .ref m0), (1, .int (nI pc)), (2, .int 170), (3, .int (nI (pdN pc)))], [.int ((nI (pdN pc)) + 4), .ref m0, .long (Int32.toInt64 (nI (by4 f (cb + pdN pc + 8)))), .long 4], M)) rfl rfl rfl ?_
          rw [nI_add1 (p := pdN pc) (k := 4) (x := 4) rfl (by omega)]
          show pl _ _ _ (_, [(0, .ref m0), (1, .int (nI pc)), (2, .int 170), (3, .int (nI (pdN pc)))], [.int (nI (pdN pc + 4)), .ref m0, .long (Int32.toInt64 (nI (by4 f (cb + pdN pc + 8)))), .long 4], M) _
          refine pl_call (a := [.ref m0, .int (nI (pdN pc + 4))]) (rest := [.long (Int32.toInt64 (nI (by4 f (cb + pdN pc + 8)))), .long 4]) rfl rfl rfl (rd_b4 (n := n) (f := f) (cb := cb) (p := (pdN pc + 4)) hR hi77 hF (by omega)) (fun v10 M11 q12 => ?_)
          obtain ⟨rfl, rfl⟩ := q12
          show pl _ _ _ (200, [(0, .ref m0), (1, .int (nI pc)), (2, .int 170), (3, .int (nI (pdN pc)))], [.int (nI (by4 f (cb + (pdN pc + 4)))), .long (Int32.toInt64 (nI (by4 f (cb + pdN pc + 8)))), .long 4], M) _
          show pl _ _ _ (_, [(0, .ref m0), (1, .int (nI pc)), (2, .int 170), (3, .int (nI (pdN pc)))], [.int (nI (by4 f (cb + pdN pc + 4))), .long (Int32.toInt64 (nI (by4 f (cb + pdN pc + 8)))), .long 4], M) _
          have hb_197 := by4_lt f (cb + pdN pc + 4)
          refine ps_st (S' := (201, [(0, .ref m0), (1, .int (nI pc)), (2, .int 170), (3, .int (nI (pdN pc)))], [.long (Int32.toInt64 (nI (by4 f (cb + pdN pc + 4)))), .long (Int32.toInt64 (nI (by4 f (cb + pdN pc + 8)))), .long 4], M)) rfl rfl rfl ?_
          refine ps_st (S' := (202, [(0, .ref m0), (1, .int (nI pc)), (2, .int 170), (3, .int (nI (pdN pc)))], [.long ((Int32.toInt64 (nI (by4 f (cb + pdN pc + 8)))) - (Int32.toInt64 (nI (by4 f (cb + pdN pc + 4))))), .long 4], M)) rfl rfl rfl ?_
          refine ps_st (S' := (203, [(0, .ref m0), (1, .int (nI pc)), (2, .int 170), (3, .int (nI (pdN pc)))], [.long 1, .long ((Int32.toInt64 (nI (by4 f (cb + pdN pc + 8)))) - (Int32.toInt64 (nI (by4 f (cb + pdN pc + 4))))), .long 4], M)) rfl rfl rfl ?_
          refine ps_st (S' := (204, [(0, .ref m0), (1, .int (nI pc)), (2, .int 170), (3, .int (nI (pdN pc)))], [.long (((Int32.toInt64 (nI (by4 f (cb + pdN pc + 8)))) - (Int32.toInt64 (nI (by4 f (cb + pdN pc + 4))))) + 1), .long 4], M)) rfl rfl rfl ?_
          refine ps_st (S' := (205, [(0, .ref m0), (1, .int (nI pc)), (2, .int 170), (3, .int (nI (pdN pc)))], [.long (4 * (((Int32.toInt64 (nI (by4 f (cb + pdN pc + 8)))) - (Int32.toInt64 (nI (by4 f (cb + pdN pc + 4))))) + 1))], M)) rfl rfl rfl ?_
          refine ps_st (S' := (208, [(0, .ref m0), (1, .int (nI pc)), (2, .int 170), (3, .int (nI (pdN pc)))], [.long 12, .long (4 * (((Int32.toInt64 (nI (by4 f (cb + pdN pc + 8)))) - (Int32.toInt64 (nI (by4 f (cb + pdN pc + 4))))) + 1))], M)) rfl rfl rfl ?_
          refine ps_st (S' := (209, [(0, .ref m0), (1, .int (nI pc)), (2, .int 170), (3, .int (nI (pdN pc)))], [.long ((4 * (((Int32.toInt64 (nI (by4 f (cb + pdN pc + 8)))) - (Int32.toInt64 (nI (by4 f (cb + pdN pc + 4))))) + 1)) + 12)], M)) rfl rfl rfl ?_
          refine ps_st (S' := (228, [(0, .ref m0), (1, .int (nI pc)), (2, .int 170), (3, .int (nI (pdN pc)))], [.long ((4 * (((Int32.toInt64 (nI (by4 f (cb + pdN pc + 8)))) - (Int32.toInt64 (nI (by4 f (cb + pdN pc + 4))))) + 1)) + 12)], M)) rfl rfl rfl ?_
          refine ps_st (S' := (230, [(4, .long ((4 * (((Int32.toInt64 (nI (by4 f (cb + pdN pc + 8)))) - (Int32.toInt64 (nI (by4 f (cb + pdN pc + 4))))) + 1)) + 12)), (0, .ref m0), (1, .int (nI pc)), (2, .int 170), (3, .int (nI (pdN pc)))], [], M)) rfl rfl rfl ?_
          obtain ⟨n64, hn64⟩ : ∃ n64 : Int64, n64 = ((4 * (((Int32.toInt64 (nI (by4 f (cb + pdN pc + 8)))) - (Int32.toInt64 (nI (by4 f (cb + pdN pc + 4))))) + 1)) + 12) := ⟨_, rfl⟩
          have hv64 : n64.toInt = 4 * nuI (by4 f (cb + pdN pc + 4)) (by4 f (cb + pdN pc + 8)) + 12 := by rw [hn64]; exact tn_val _ _
          have hnb := nuI_bd (by4 f (cb + pdN pc + 4)) (by4 f (cb + pdN pc + 8))
          have hn1 : 1 ≤ nuI (by4 f (cb + pdN pc + 4)) (by4 f (cb + pdN pc + 8)) := nu_lo.mpr c_156
          rw [← hn64]
          show pl _ _ _ (230, [(4, .long n64), (0, .ref m0), (1, .int (nI pc)), (2, .int 170), (3, .int (nI (pdN pc)))], [], M) _
          refine ps_st (S' := (231, [(4, .long n64), (0, .ref m0), (1, .int (nI pc)), (2, .int 170), (3, .int (nI (pdN pc)))], [.int (nI (pdN pc))], M)) rfl rfl rfl ?_
          refine ps_st (S' := (232, [(4, .long n64), (0, .ref m0), (1, .int (nI pc)), (2, .int 170), (3, .int (nI (pdN pc)))], [.long (Int32.toInt64 (nI (pdN pc)))], M)) rfl rfl rfl ?_
          rw [i2l_nL (p := pdN pc) (by omega)]
          show pl _ _ _ (_, [(4, .long n64), (0, .ref m0), (1, .int (nI pc)), (2, .int 170), (3, .int (nI (pdN pc)))], [.long (nL (pdN pc))], M) _
          refine ps_st (S' := (234, [(4, .long n64), (0, .ref m0), (1, .int (nI pc)), (2, .int 170), (3, .int (nI (pdN pc)))], [.long n64, .long (nL (pdN pc))], M)) rfl rfl rfl ?_
          refine ps_st (S' := (235, [(4, .long n64), (0, .ref m0), (1, .int (nI pc)), (2, .int 170), (3, .int (nI (pdN pc)))], [.long ((nL (pdN pc)) + n64)], M)) rfl rfl rfl ?_
          refine ps_st (S' := (236, [(4, .long n64), (0, .ref m0), (1, .int (nI pc)), (2, .int 170), (3, .int (nI (pdN pc)))], [.ref m0, .long ((nL (pdN pc)) + n64)], M)) rfl rfl rfl ?_
          refine pr_int (j := 78) (S' := (239, [(4, .long n64), (0, .ref m0), (1, .int (nI pc)), (2, .int 170), (3, .int (nI (pdN pc)))], [.int (nI L), .long ((nL (pdN pc)) + n64)], M)) rfl hR rfl hi78 rfl ?_
          refine ps_st (S' := (240, [(4, .long n64), (0, .ref m0), (1, .int (nI pc)), (2, .int 170), (3, .int (nI (pdN pc)))], [.long (Int32.toInt64 (nI L)), .long ((nL (pdN pc)) + n64)], M)) rfl rfl rfl ?_
          rw [i2l_nL (p := L) (by omega)]
          show pl _ _ _ (_, [(4, .long n64), (0, .ref m0), (1, .int (nI pc)), (2, .int 170), (3, .int (nI (pdN pc)))], [.long (nL L), .long ((nL (pdN pc)) + n64)], M) _
          refine ps_st (S' := (241, [(4, .long n64), (0, .ref m0), (1, .int (nI pc)), (2, .int 170), (3, .int (nI (pdN pc)))], [.int (lg_cmp ((nL (pdN pc)) + n64) (nL L))], M)) rfl rfl rfl ?_
          refine ps_if (S1 := (246, [(4, .long n64), (0, .ref m0), (1, .int (nI pc)), (2, .int 170), (3, .int (nI (pdN pc)))], [], M)) (S2 := (244, [(4, .long n64), (0, .ref m0), (1, .int (nI pc)), (2, .int 170), (3, .int (nI (pdN pc)))], [], M)) rfl rfl rfl (fun c_241 => ?_) (fun c_241 => ?_)
          · have c_241 : (lg_cmp ((nL (pdN pc)) + n64) (nL L)) ≤ 0 := of_decide_eq_true c_241
            have h241 : ((pdN pc : Nat) : Int) + (4 * nuI (by4 f (cb + pdN pc + 4)) (by4 f (cb + pdN pc + 8)) + 12) ≤ L := by have h9 := lgc_le.mp c_241; rw [an_val (by omega) hv64 (by omega), nL_val (by omega)] at h9; exact h9
            obtain ⟨nu, hnu⟩ : ∃ nu : Nat, (nu : Int) = nuI (by4 f (cb + pdN pc + 4)) (by4 f (cb + pdN pc + 8)) := ⟨(nuI (by4 f (cb + pdN pc + 4)) (by4 f (cb + pdN pc + 8))).toNat, by omega⟩
            have hnu2 : nu = (nuI (by4 f (cb + pdN pc + 4)) (by4 f (cb + pdN pc + 8))).toNat := by omega
            have e64 : n64 = nL (4 * nu + 12) := Int64.toInt_inj.mp (by rw [hv64, nL_val (by omega)]; omega)
            rw [e64]
            show pl _ _ _ (246, [(4, .long (nL (4 * nu + 12))), (0, .ref m0), (1, .int (nI pc)), (2, .int 170), (3, .int (nI (pdN pc)))], [], M) _
            refine ps_st (S' := (247, [(4, .long (nL (4 * nu + 12))), (0, .ref m0), (1, .int (nI pc)), (2, .int 170), (3, .int (nI (pdN pc)))], [.int 170], M)) rfl rfl rfl ?_
            refine ps_st (S' := (250, [(4, .long (nL (4 * nu + 12))), (0, .ref m0), (1, .int (nI pc)), (2, .int 170), (3, .int (nI (pdN pc)))], [.int 171, .int 170], M)) rfl rfl rfl ?_
            refine ps_if2 (S1 := (304, [(1, .int (nI pc)), (3, .int (nI (pdN pc))), (4, .long (nL (4 * nu + 12)))], [], M)) (S2 := (253, [(4, .long (nL (4 * nu + 12))), (0, .ref m0), (1, .int (nI pc)), (2, .int 170), (3, .int (nI (pdN pc)))], [], M)) rfl rfl rfl (fun c_250 => ?_) (fun c_250 => ?_)
            rotate_left
            · exact absurd (by decide) (of_decide_eq_false c_250)
            refine ps_st (S' := (305, [(1, .int (nI pc)), (3, .int (nI (pdN pc))), (4, .long (nL (4 * nu + 12)))], [.int (nI (pdN pc))], M)) rfl rfl rfl ?_
            refine ps_st (S' := (306, [(1, .int (nI pc)), (3, .int (nI (pdN pc))), (4, .long (nL (4 * nu + 12)))], [.long (Int32.toInt64 (nI (pdN pc)))], M)) rfl rfl rfl ?_
            rw [i2l_nL (p := pdN pc) (by omega)]
            show pl _ _ _ (_, [(1, .int (nI pc)), (3, .int (nI (pdN pc))), (4, .long (nL (4 * nu + 12)))], [.long (nL (pdN pc))], M) _
            refine ps_st (S' := (308, [(1, .int (nI pc)), (3, .int (nI (pdN pc))), (4, .long (nL (4 * nu + 12)))], [.long (nL (4 * nu + 12)), .long (nL (pdN pc))], M)) rfl rfl rfl ?_
            refine ps_st (S' := (309, [(1, .int (nI pc)), (3, .int (nI (pdN pc))), (4, .long (nL (4 * nu + 12)))], [.long ((nL (pdN pc)) + (nL (4 * nu + 12)))], M)) rfl rfl rfl ?_
            rw [nL_add (p := pdN pc) (k := 4 * nu + 12) (x := (nL (4 * nu + 12))) rfl (by omega)]
            show pl _ _ _ (_, [(1, .int (nI pc)), (3, .int (nI (pdN pc))), (4, .long (nL (4 * nu + 12)))], [.long (nL (pdN pc + (4 * nu + 12)))], M) _
            refine ps_st (S' := (310, [(1, .int (nI pc)), (3, .int (nI (pdN pc))), (4, .long (nL (4 * nu + 12)))], [.int (nI pc), .long (nL (pdN pc + (4 * nu + 12)))], M)) rfl rfl rfl ?_
            refine ps_st (S' := (311, [(1, .int (nI pc)), (3, .int (nI (pdN pc))), (4, .long (nL (4 * nu + 12)))], [.long (Int32.toInt64 (nI pc)), .long (nL (pdN pc + (4 * nu + 12)))], M)) rfl rfl rfl ?_
            rw [i2l_nL (p := pc) (by omega)]
            show pl _ _ _ (_, [(1, .int (nI pc)), (3, .int (nI (pdN pc))), (4, .long (nL (4 * nu + 12)))], [.long (nL pc), .long (nL (pdN pc + (4 * nu + 12)))], M) _
            refine ps_st (S' := (312, [(1, .int (nI pc)), (3, .int (nI (pdN pc))), (4, .long (nL (4 * nu + 12)))], [.long ((nL (pdN pc + (4 * nu + 12))) - (nL pc))], M)) rfl rfl rfl ?_
            refine ps_st (S' := (313, [(1, .int (nI pc)), (3, .int (nI (pdN pc))), (4, .long (nL (4 * nu + 12)))], [.int (Int64.toInt32 ((nL (pdN pc + (4 * nu + 12))) - (nL pc)))], M)) rfl rfl rfl ?_
            exact ps_reti rfl (Or.inl ⟨(pdN pc + 12 + 4 * nu - pc, nI (by4 f (cb + pdN pc + 4)), nI (by4 f (cb + pdN pc + 8)), nu + 1), by
                unfold swS
                rw [if_neg (by rw [← hz, show pdN pc - i = 0 by omega]; exact Nat.one_ne_zero), if_pos rfl]
                unfold tbS
                rw [if_neg (by omega), show by4 f (cb + (pdN pc + 4)) = by4 f (cb + pdN pc + 4) from rfl, show by4 f (cb + (pdN pc + 8)) = by4 f (cb + pdN pc + 8) from rfl]
                rw [if_neg (by omega), ← hnu2], by
                rw [l2i_sub (by omega) (by omega)]
                exact congrArg (fun x => some (Value.int (nI x))) (by show _ = pdN pc + 12 + 4 * nu - pc; omega), rfl⟩)
          · have c_241 : ¬ ((lg_cmp ((nL (pdN pc)) + n64) (nL L)) ≤ 0) := of_decide_eq_false c_241
            have h241 : ¬ ((pdN pc : Nat) : Int) + (4 * nuI (by4 f (cb + pdN pc + 4)) (by4 f (cb + pdN pc + 8)) + 12) ≤ L := fun h8 => c_241 (lgc_le.mpr (by rw [an_val (by omega) hv64 (by omega), nL_val (by omega)]; exact h8))
            refine ps_st (S' := (245, [(4, .long n64), (0, .ref m0), (1, .int (nI pc)), (2, .int 170), (3, .int (nI (pdN pc)))], [.int (-1)], M)) rfl rfl rfl ?_
            exact ps_ret rfl rfl (Or.inr ⟨by
                unfold swS
                rw [if_neg (by rw [← hz, show pdN pc - i = 0 by omega]; exact Nat.one_ne_zero), if_pos rfl]
                unfold tbS
                rw [if_neg (by omega), show by4 f (cb + (pdN pc + 4)) = by4 f (cb + pdN pc + 4) from rfl, show by4 f (cb + (pdN pc + 8)) = by4 f (cb + pdN pc + 8) from rfl]
                rw [if_pos (Or.inr (by omega))], rfl, rfl⟩)
        · have c_156 : ¬ ((nI (by4 f (cb + pdN pc + 4))) ≤ (nI (by4 f (cb + pdN pc + 8)))) := of_decide_eq_false c_156
          refine ps_st (S' := (172, [], [], M)) rfl rfl rfl ?_
          refine ps_st (S' := (173, [], [.int (-1)], M)) rfl rfl rfl ?_
          exact ps_ret rfl rfl (Or.inr ⟨by
              unfold swS
              rw [if_neg (by rw [← hz, show pdN pc - i = 0 by omega]; exact Nat.one_ne_zero), if_pos rfl]
              unfold tbS
              rw [if_neg (by omega), show by4 f (cb + (pdN pc + 4)) = by4 f (cb + pdN pc + 4) from rfl, show by4 f (cb + (pdN pc + 8)) = by4 f (cb + pdN pc + 8) from rfl]
              rw [if_pos (Or.inl (Int.not_le.mp (fun h9 => c_156 (nu_lo.mp h9))))], rfl, rfl⟩)
      · have c_114 : ¬ ((nI (pdN pc)) ≤ (nI i)) := of_decide_eq_false c_114
        have n_114 : ¬ (pdN pc ≤ i) := fun h9 => c_114 ((le_nI (p := pdN pc) (n := i) (by omega) (by omega)).mpr h9)
        refine ps_st (S' := (118, [(0, .ref m0), (1, .int (nI pc)), (2, .int 170), (3, .int (nI (pdN pc))), (4, .int (nI i))], [.ref m0], M)) rfl rfl rfl ?_
        refine ps_st (S' := (120, [(0, .ref m0), (1, .int (nI pc)), (2, .int 170), (3, .int (nI (pdN pc))), (4, .int (nI i))], [.int (nI i), .ref m0], M)) rfl rfl rfl ?_
        refine pl_call (a := [.ref m0, .int (nI i)]) (rest := []) rfl rfl rfl (rd_b1 (n := n) (f := f) (cb := cb) (p := i) hR hi77 hF (by omega)) (fun v13 M14 q15 => ?_)
        obtain ⟨rfl, rfl⟩ := q15
        show pl _ _ _ (123, [(0, .ref m0), (1, .int (nI pc)), (2, .int 170), (3, .int (nI (pdN pc))), (4, .int (nI i))], [.int (nI (by1 f (cb + i)))], M) _
        show pl _ _ _ (_, [(0, .ref m0), (1, .int (nI pc)), (2, .int 170), (3, .int (nI (pdN pc))), (4, .int (nI i))], [.int (nI (by1 f (cb + i)))], M) _
        have hb_120 := by1_lt f (cb + i)
        refine ps_if (S1 := (128, [(0, .ref m0), (1, .int (nI pc)), (2, .int 170), (3, .int (nI (pdN pc))), (4, .int (nI i))], [], M)) (S2 := (126, [(0, .ref m0), (1, .int (nI pc)), (2, .int 170), (3, .int (nI (pdN pc))), (4, .int (nI i))], [], M)) rfl rfl rfl (fun c_123 => ?_) (fun c_123 => ?_)
        · have c_123 : (nI (by1 f (cb + i))) = 0 := of_decide_eq_true c_123
          have n_123 : by1 f (cb + i) = 0 := (eq_nI (p := by1 f (cb + i)) (n := 0) (Nat.lt_trans (by1_lt _ _) (by decide)) (by decide)).mp c_123
          refine ps_st (S' := (131, [(4, .int ((nI i) + 1)), (0, .ref m0), (1, .int (nI pc)), (2, .int 170), (3, .int (nI (pdN pc)))], [], M)) rfl rfl rfl ?_
          rw [nI_add1 (p := i) (k := 1) (x := 1) rfl (by omega)]
          show pl _ _ _ (_, [(4, .int (nI (i + 1))), (0, .ref m0), (1, .int (nI pc)), (2, .int 170), (3, .int (nI (pdN pc)))], [], M) _
          refine ps_st (S' := (111, [(0, .ref m0), (1, .int (nI pc)), (2, .int 170), (3, .int (nI (pdN pc))), (4, .int (nI (i + 1)))], [], M)) rfl rfl rfl ?_
          exact ih (i + 1)  (by omega) (by
              rw [← hz, zrN_st (c := pdN pc) (i := i) (j := i) (by omega), if_pos (by omega)]) (hw9)
        · have c_123 : ¬ ((nI (by1 f (cb + i))) = 0) := of_decide_eq_false c_123
          have n_123 : ¬ (by1 f (cb + i) = 0) := fun h9 => c_123 ((eq_nI (p := by1 f (cb + i)) (n := 0) (Nat.lt_trans (by1_lt _ _) (by decide)) (by decide)).mpr h9)
          refine ps_st (S' := (127, [(0, .ref m0), (1, .int (nI pc)), (2, .int 170), (3, .int (nI (pdN pc))), (4, .int (nI i))], [.int (-1)], M)) rfl rfl rfl ?_
          exact ps_ret rfl rfl (Or.inr ⟨by
              unfold swS
              rw [if_pos (by rw [← hz, zrN_st (c := pdN pc) (i := i) (j := i) (by omega), if_neg (by omega)])], rfl, rfl⟩)
  refine ps_st (S' := (1, [(0, .ref m0), (1, .int (nI pc)), (2, .int 170)], [.int 170], M)) rfl rfl rfl ?_
  refine ps_st (S' := (4, [(0, .ref m0), (1, .int (nI pc)), (2, .int 170)], [.int 196, .int 170], M)) rfl rfl rfl ?_
  refine ps_if2 (S1 := (76, [(0, .ref m0), (1, .int (nI pc)), (2, .int 170)], [], M)) (S2 := (7, [(0, .ref m0), (1, .int (nI pc)), (2, .int 170)], [], M)) rfl rfl rfl (fun c_4 => ?_) (fun c_4 => ?_)
  rotate_left
  · exact absurd (by decide) (of_decide_eq_false c_4)
  refine ps_st (S' := (77, [(0, .ref m0), (1, .int (nI pc)), (2, .int 170)], [.int (nI pc)], M)) rfl rfl rfl ?_
  refine pl_call (a := [.int (nI pc)]) (rest := []) rfl rfl rfl (rd_pad (p := pc) hR (by omega)) (fun v16 M17 q18 => ?_)
  obtain ⟨rfl, rfl⟩ := q18
  show pl _ _ _ (80, [(0, .ref m0), (1, .int (nI pc)), (2, .int 170)], [.int (nI (pdN pc))], M) _
  have hpd_77 := pd_le pc
  refine ps_st (S' := (81, [(3, .int (nI (pdN pc))), (0, .ref m0), (1, .int (nI pc)), (2, .int 170)], [], M)) rfl rfl rfl ?_
  refine ps_st (S' := (82, [(3, .int (nI (pdN pc))), (0, .ref m0), (1, .int (nI pc)), (2, .int 170)], [.int (nI (pdN pc))], M)) rfl rfl rfl ?_
  refine ps_st (S' := (83, [(3, .int (nI (pdN pc))), (0, .ref m0), (1, .int (nI pc)), (2, .int 170)], [.int 170, .int (nI (pdN pc))], M)) rfl rfl rfl ?_
  refine ps_st (S' := (86, [(3, .int (nI (pdN pc))), (0, .ref m0), (1, .int (nI pc)), (2, .int 170)], [.int 170, .int 170, .int (nI (pdN pc))], M)) rfl rfl rfl ?_
  refine ps_if2 (S1 := (94, [(3, .int (nI (pdN pc))), (0, .ref m0), (1, .int (nI pc)), (2, .int 170)], [.int (nI (pdN pc))], M)) (S2 := (89, [(3, .int (nI (pdN pc))), (0, .ref m0), (1, .int (nI pc)), (2, .int 170)], [.int (nI (pdN pc))], M)) rfl rfl rfl (fun c_86 => ?_) (fun c_86 => ?_)
  · exact absurd (of_decide_eq_true c_86) (by decide)
  refine ps_st (S' := (91, [(3, .int (nI (pdN pc))), (0, .ref m0), (1, .int (nI pc)), (2, .int 170)], [.int 12, .int (nI (pdN pc))], M)) rfl rfl rfl ?_
  refine ps_st (S' := (96, [(0, .ref m0), (1, .int (nI pc)), (2, .int 170), (3, .int (nI (pdN pc)))], [.int 12, .int (nI (pdN pc))], M)) rfl rfl rfl ?_
  refine ps_st (S' := (97, [(0, .ref m0), (1, .int (nI pc)), (2, .int 170), (3, .int (nI (pdN pc)))], [.int ((nI (pdN pc)) + 12)], M)) rfl rfl rfl ?_
  rw [nI_add1 (p := pdN pc) (k := 12) (x := 12) rfl (by omega)]
  show pl _ _ _ (_, [(0, .ref m0), (1, .int (nI pc)), (2, .int 170), (3, .int (nI (pdN pc)))], [.int (nI (pdN pc + 12))], M) _
  refine ps_st (S' := (98, [(0, .ref m0), (1, .int (nI pc)), (2, .int 170), (3, .int (nI (pdN pc)))], [.ref m0, .int (nI (pdN pc + 12))], M)) rfl rfl rfl ?_
  refine pr_int (j := 78) (S' := (101, [(0, .ref m0), (1, .int (nI pc)), (2, .int 170), (3, .int (nI (pdN pc)))], [.int (nI L), .int (nI (pdN pc + 12))], M)) rfl hR rfl hi78 rfl ?_
  refine ps_if2 (S1 := (106, [(0, .ref m0), (1, .int (nI pc)), (2, .int 170), (3, .int (nI (pdN pc)))], [], M)) (S2 := (104, [(0, .ref m0), (1, .int (nI pc)), (2, .int 170), (3, .int (nI (pdN pc)))], [], M)) rfl rfl rfl (fun c_101 => ?_) (fun c_101 => ?_)
  · have c_101 : (nI (pdN pc + 12)) ≤ (nI L) := of_decide_eq_true c_101
    have n_101 : pdN pc + 12 ≤ L := (le_nI (p := pdN pc + 12) (n := L) (by omega) (by omega)).mp c_101
    refine ps_st (S' := (107, [(0, .ref m0), (1, .int (nI pc)), (2, .int 170), (3, .int (nI (pdN pc)))], [.int (nI pc)], M)) rfl rfl rfl ?_
    refine ps_st (S' := (108, [(0, .ref m0), (1, .int (nI pc)), (2, .int 170), (3, .int (nI (pdN pc)))], [.int 1, .int (nI pc)], M)) rfl rfl rfl ?_
    refine ps_st (S' := (109, [(0, .ref m0), (1, .int (nI pc)), (2, .int 170), (3, .int (nI (pdN pc)))], [.int ((nI pc) + 1)], M)) rfl rfl rfl ?_
    rw [nI_add1 (p := pc) (k := 1) (x := 1) rfl (by omega)]
    show pl _ _ _ (_, [(0, .ref m0), (1, .int (nI pc)), (2, .int 170), (3, .int (nI (pdN pc)))], [.int (nI (pc + 1))], M) _
    refine ps_st (S' := (111, [(0, .ref m0), (1, .int (nI pc)), (2, .int 170), (3, .int (nI (pdN pc))), (4, .int (nI (pc + 1)))], [], M)) rfl rfl rfl ?_
    exact (LL kf) (pc + 1)  (by omega) (rfl) (by omega)
  · have c_101 : ¬ ((nI (pdN pc + 12)) ≤ (nI L)) := of_decide_eq_false c_101
    have n_101 : ¬ (pdN pc + 12 ≤ L) := fun h9 => c_101 ((le_nI (p := pdN pc + 12) (n := L) (by omega) (by omega)).mpr h9)
    refine ps_st (S' := (105, [(0, .ref m0), (1, .int (nI pc)), (2, .int 170), (3, .int (nI (pdN pc)))], [.int (-1)], M)) rfl rfl rfl ?_
    exact ps_ret rfl rfl (Or.inr ⟨by
        unfold swS
        split
        rfl
        rw [if_pos rfl]
        unfold tbS
        rw [if_pos (by omega)], rfl, rfl⟩)
set_option maxHeartbeats 1000000 in
theorem rd_formedK {g : xe_G} {m0 : Nat} {q : Nat → Nat} {z : Nat × Nat} {I : rI} {R : rR} {M : mi_H} {n : Nat} {f : Nat → Int32} {cb : Nat} {L pc : Nat} (hR : RS g m0 q z I R M) (hi77 : I 77 = some (nI cb)) (hi78 : I 78 = some (nI L)) (hF : FK n f I R) (hcl : cb + L + 4 ≤ n) (hpl : pc < L) : pt (mT g) 210 [.ref m0, .int (nI pc), .int 171] M (fun v M' => (∃ (x : Nat × Int32 × Int32 × Nat), (swS f cb L pc 171 = some x) ∧ v = some (.int (nI x.1)) ∧ M = M') ∨ ((swS f cb L pc 171 = none) ∧ v = some (.int (-1)) ∧ M = M')) := by
  refine pt_in (b := mb_210 g) rfl (fun kf => ?_)
  show pl (mT g) kf (mb_210 g).2 (0, [(0, .ref m0), (1, .int (nI pc)), (2, .int 171)], [], M) _
  have hn := hF.1
  have LL : ∀ (kf : Nat), (∀ (i : Nat), (pc + 1 ≤ i ∧ i ≤ pdN pc) → (zrN f cb (pdN pc - i) i = zrN f cb (pdN pc - (pc + 1)) (pc + 1)) → (pdN pc + 8 ≤ L) →  pl (mT g) kf (mb_210 g).2 (111, [(0, .ref m0), (1, .int (nI pc)), (2, .int 171), (3, .int (nI (pdN pc))), (4, .int (nI i))], [], M) (fun v M' => (∃ (x : Nat × Int32 × Int32 × Nat), (swS f cb L pc 171 = some x) ∧ v = some (.int (nI x.1)) ∧ M = M') ∨ ((swS f cb L pc 171 = none) ∧ v = some (.int (-1)) ∧ M = M'))) ∧ (∀ (k : Nat), (¬ zrN f cb (pdN pc - (pc + 1)) (pc + 1) = 0) → (pdN pc + (8 * by4 f (cb + pdN pc + 4) + 8) ≤ L) → (by4 f (cb + pdN pc + 4) < 2147483648) → (1 ≤ k ∧ (k ≤ by4 f (cb + pdN pc + 4) ∨ k = 1)) → (keA f cb (pdN pc) (by4 f (cb + pdN pc + 4) - k) (k + 1) = keA f cb (pdN pc) (by4 f (cb + pdN pc + 4) - 1) 2) →  pl (mT g) kf (mb_210 g).2 (256, [(0, .ref m0), (1, .int (nI pc)), (3, .int (nI (pdN pc))), (4, .long (nL (8 * by4 f (cb + pdN pc + 4) + 8))), (6, .int (nI k))], [], M) (fun v M' => (∃ (x : Nat × Int32 × Int32 × Nat), (swS f cb L pc 171 = some x) ∧ v = some (.int (nI x.1)) ∧ M = M') ∨ ((swS f cb L pc 171 = none) ∧ v = some (.int (-1)) ∧ M = M'))) := by
    intro kf
    induction kf with
    | zero => exact ⟨by intros; exact pl_0, by intros; exact pl_0⟩
    | succ kf ih =>
      refine ⟨?_, ?_⟩
      · skip
        intro i hi hz hw9
        have hpd := pd_le pc
        refine ps_st1 (S' := (113, [(0, .ref m0), (1, .int (nI pc)), (2, .int 171), (3, .int (nI (pdN pc))), (4, .int (nI i))], [.int (nI i)], M)) rfl rfl rfl ?_
        refine ps_st (S' := (114, [(0, .ref m0), (1, .int (nI pc)), (2, .int 171), (3, .int (nI (pdN pc))), (4, .int (nI i))], [.int (nI (pdN pc)), .int (nI i)], M)) rfl rfl rfl ?_
        refine ps_if2 (S1 := (134, [(0, .ref m0), (1, .int (nI pc)), (2, .int 171), (3, .int (nI (pdN pc))), (4, .int (nI i))], [], M)) (S2 := (117, [(0, .ref m0), (1, .int (nI pc)), (2, .int 171), (3, .int (nI (pdN pc))), (4, .int (nI i))], [], M)) rfl rfl rfl (fun c_114 => ?_) (fun c_114 => ?_)
        · have c_114 : (nI (pdN pc)) ≤ (nI i) := of_decide_eq_true c_114
          have n_114 : pdN pc ≤ i := (le_nI (p := pdN pc) (n := i) (by omega) (by omega)).mp c_114
          refine ps_st (S' := (135, [(0, .ref m0), (1, .int (nI pc)), (2, .int 171), (3, .int (nI (pdN pc))), (4, .int (nI i))], [.int 171], M)) rfl rfl rfl ?_
          refine ps_st (S' := (138, [(0, .ref m0), (1, .int (nI pc)), (2, .int 171), (3, .int (nI (pdN pc))), (4, .int (nI i))], [.int 170, .int 171], M)) rfl rfl rfl ?_
          refine ps_if2 (S1 := (162, [(0, .ref m0), (1, .int (nI pc)), (2, .int 171), (3, .int (nI (pdN pc))), (4, .int (nI i))], [], M)) (S2 := (141, [(0, .ref m0), (1, .int (nI pc)), (2, .int 171), (3, .int (nI (pdN pc))), (4, .int (nI i))], [], M)) rfl rfl rfl (fun c_138 => ?_) (fun c_138 => ?_)
          rotate_left
          · exact absurd (by decide) (of_decide_eq_false c_138)
          refine ps_st (S' := (163, [(0, .ref m0), (1, .int (nI pc)), (2, .int 171), (3, .int (nI (pdN pc))), (4, .int (nI i))], [.ref m0], M)) rfl rfl rfl ?_
          refine ps_st (S' := (164, [(0, .ref m0), (1, .int (nI pc)), (2, .int 171), (3, .int (nI (pdN pc))), (4, .int (nI i))], [.int (nI (pdN pc)), .ref m0], M)) rfl rfl rfl ?_
          refine ps_st (S' := (165, [(0, .ref m0), (1, .int (nI pc)), (2, .int 171), (3, .int (nI (pdN pc))), (4, .int (nI i))], [.int 4, .int (nI (pdN pc)), .ref m0], M)) rfl rfl rfl ?_
          refine ps_st (S' := (166, [(0, .ref m0), (1, .int (nI pc)), (2, .int 171), (3, .int (nI (pdN pc))), (4, .int (nI i))], [.int ((nI (pdN pc)) + 4), .ref m0], M)) rfl rfl rfl ?_
          rw [nI_add1 (p := pdN pc) (k := 4) (x := 4) rfl (by omega)]
          show pl _ _ _ (_, [(0, .ref m0), (1, .int (nI pc)), (2, .int 171), (3, .int (nI (pdN pc))), (4, .int (nI i))], [.int (nI (pdN pc + 4)), .ref m0], M) _
          refine pl_call (a := [.ref m0, .int (nI (pdN pc + 4))]) (rest := []) rfl rfl rfl (rd_b4 (n := n) (f := f) (cb := cb) (p := (pdN pc + 4)) hR hi77 hF (by omega)) (fun v1 M2 q3 => ?_)
          obtain ⟨rfl, rfl⟩ := q3
          show pl _ _ _ (169, [(0, .ref m0), (1, .int (nI pc)), (2, .int 171), (3, .int (nI (pdN pc))), (4, .int (nI i))], [.int (nI (by4 f (cb + (pdN pc + 4))))], M) _
          show pl _ _ _ (_, [(0, .ref m0), (1, .int (nI pc)), (2, .int 171), (3, .int (nI (pdN pc))), (4, .int (nI i))], [.int (nI (by4 f (cb + pdN pc + 4)))], M) _
          have hb_166 := by4_lt f (cb + pdN pc + 4)
          refine ps_if (S1 := (174, [(0, .ref m0), (1, .int (nI pc)), (2, .int 171), (3, .int (nI (pdN pc)))], [], M)) (S2 := (172, [], [], M)) rfl rfl rfl (fun c_169 => ?_) (fun c_169 => ?_)
          · have c_169 : 0 ≤ (nI (by4 f (cb + pdN pc + 4))) := of_decide_eq_true c_169
            have hnp : by4 f (cb + pdN pc + 4) < 2147483648 := Nat.not_le.mp (fun h9 => absurd ((neg_nI (by4_lt _ _)).mpr h9) (Int32.not_lt.mpr c_169))
            refine ps_st (S' := (175, [(0, .ref m0), (1, .int (nI pc)), (2, .int 171), (3, .int (nI (pdN pc)))], [.int 171], M)) rfl rfl rfl ?_
            refine ps_st (S' := (178, [(0, .ref m0), (1, .int (nI pc)), (2, .int 171), (3, .int (nI (pdN pc)))], [.int 170, .int 171], M)) rfl rfl rfl ?_
            refine ps_if2 (S1 := (212, [(0, .ref m0), (1, .int (nI pc)), (2, .int 171), (3, .int (nI (pdN pc)))], [], M)) (S2 := (181, [(0, .ref m0), (1, .int (nI pc)), (2, .int 171), (3, .int (nI (pdN pc)))], [], M)) rfl rfl rfl (fun c_178 => ?_) (fun c_178 => ?_)
            rotate_left
            · exact absurd (by decide) (of_decide_eq_false c_178)
            refine ps_st (S' := (215, [(0, .ref m0), (1, .int (nI pc)), (2, .int 171), (3, .int (nI (pdN pc)))], [.long 8], M)) rfl rfl rfl ?_
            refine ps_st (S' := (216, [(0, .ref m0), (1, .int (nI pc)), (2, .int 171), (3, .int (nI (pdN pc)))], [.ref m0, .long 8], M)) rfl rfl rfl ?_
            refine ps_st (S' := (217, [(0, .ref m0), (1, .int (nI pc)), (2, .int 171), (3, .int (nI (pdN pc)))], [.int (nI (pdN pc)), .ref m0, .long 8], M)) rfl rfl rfl ?_
            refine ps_st (S' := (218, [(0, .ref m0), (1, .int (nI pc)), (2, .int 171), (3, .int (nI (pdN pc)))], [.int 4, .int (nI (pdN pc)), .ref m0, .long 8], M)) rfl rfl rfl ?_
            refine ps_st (S' := (219, [(0, .ref m0), (1, .int (nI pc)), (2, .int 171), (3, .int (nI (pdN pc)))], [.int ((nI (pdN pc)) + 4), .ref m0, .long 8], M)) rfl rfl rfl ?_
            rw [nI_add1 (p := pdN pc) (k := 4) (x := 4) rfl (by omega)]
            show pl _ _ _ (_, [(0, .ref m0), (1, .int (nI pc)), (2, .int 171), (3, .int (nI (pdN pc)))], [.int (nI (pdN pc + 4)), .ref m0, .long 8], M) _
            refine pl_call (a := [.ref m0, .int (nI (pdN pc + 4))]) (rest := [.long 8]) rfl rfl rfl (rd_b4 (n := n) (f := f) (cb := cb) (p := (pdN pc + 4)) hR hi77 hF (by omega)) (fun v4 M5 q6 => ?_)
            obtain ⟨rfl, rfl⟩ := q6
            show pl _ _ _ (222, [(0, .ref m0), (1, .int (nI pc)), (2, .int 171), (3, .int (nI (pdN pc)))], [.int (nI (by4 f (cb + (pdN pc + 4)))), .long 8], M) _
            show pl _ _ _ (_, [(0, .ref m0), (1, .int (nI pc)), (2, .int 171), (3, .int (nI (pdN pc)))], [.int (nI (by4 f (cb + pdN pc + 4))), .long 8], M) _
            have hb_219 := by4_lt f (cb + pdN pc + 4)
            refine ps_st (S' := (223, [(0, .ref m0), (1, .int (nI pc)), (2, .int 171), (3, .int (nI (pdN pc)))], [.long (Int32.toInt64 (nI (by4 f (cb + pdN pc + 4)))), .long 8], M)) rfl rfl rfl ?_
            refine ps_st (S' := (224, [(0, .ref m0), (1, .int (nI pc)), (2, .int 171), (3, .int (nI (pdN pc)))], [.long (8 * (Int32.toInt64 (nI (by4 f (cb + pdN pc + 4)))))], M)) rfl rfl rfl ?_
            refine ps_st (S' := (227, [(0, .ref m0), (1, .int (nI pc)), (2, .int 171), (3, .int (nI (pdN pc)))], [.long 8, .long (8 * (Int32.toInt64 (nI (by4 f (cb + pdN pc + 4)))))], M)) rfl rfl rfl ?_
            refine ps_st (S' := (228, [(0, .ref m0), (1, .int (nI pc)), (2, .int 171), (3, .int (nI (pdN pc)))], [.long ((8 * (Int32.toInt64 (nI (by4 f (cb + pdN pc + 4))))) + 8)], M)) rfl rfl rfl ?_
            refine ps_st (S' := (230, [(4, .long ((8 * (Int32.toInt64 (nI (by4 f (cb + pdN pc + 4))))) + 8)), (0, .ref m0), (1, .int (nI pc)), (2, .int 171), (3, .int (nI (pdN pc)))], [], M)) rfl rfl rfl ?_
            rw [ln_val hnp]
            show pl _ _ _ (230, [(4, .long (nL (8 * by4 f (cb + pdN pc + 4) + 8))), (0, .ref m0), (1, .int (nI pc)), (2, .int 171), (3, .int (nI (pdN pc)))], [], M) _
            refine ps_st (S' := (231, [(4, .long (nL (8 * by4 f (cb + pdN pc + 4) + 8))), (0, .ref m0), (1, .int (nI pc)), (2, .int 171), (3, .int (nI (pdN pc)))], [.int (nI (pdN pc))], M)) rfl rfl rfl ?_
            refine ps_st (S' := (232, [(4, .long (nL (8 * by4 f (cb + pdN pc + 4) + 8))), (0, .ref m0), (1, .int (nI pc)), (2, .int 171), (3, .int (nI (pdN pc)))], [.long (Int32.toInt64 (nI (pdN pc)))], M)) rfl rfl rfl ?_
            rw [i2l_nL (p := pdN pc) (by omega)]
            show pl _ _ _ (_, [(4, .long (nL (8 * by4 f (cb + pdN pc + 4) + 8))), (0, .ref m0), (1, .int (nI pc)), (2, .int 171), (3, .int (nI (pdN pc)))], [.long (nL (pdN pc))], M) _
            refine ps_st (S' := (234, [(4, .long (nL (8 * by4 f (cb + pdN pc + 4) + 8))), (0, .ref m0), (1, .int (nI pc)), (2, .int 171), (3, .int (nI (pdN pc)))], [.long (nL (8 * by4 f (cb + pdN pc + 4) + 8)), .long (nL (pdN pc))], M)) rfl rfl rfl ?_
            refine ps_st (S' := (235, [(4, .long (nL (8 * by4 f (cb + pdN pc + 4) + 8))), (0, .ref m0), (1, .int (nI pc)), (2, .int 171), (3, .int (nI (pdN pc)))], [.long ((nL (pdN pc)) + (nL (8 * by4 f (cb + pdN pc + 4) + 8)))], M)) rfl rfl rfl ?_
            rw [nL_add (p := pdN pc) (k := 8 * by4 f (cb + pdN pc + 4) + 8) (x := (nL (8 * by4 f (cb + pdN pc + 4) + 8))) rfl (by omega)]
            show pl _ _ _ (_, [(4, .long (nL (8 * by4 f (cb + pdN pc + 4) + 8))), (0, .ref m0), (1, .int (nI pc)), (2, .int 171), (3, .int (nI (pdN pc)))], [.long (nL (pdN pc + (8 * by4 f (cb + pdN pc + 4) + 8)))], M) _
            refine ps_st (S' := (236, [(4, .long (nL (8 * by4 f (cb + pdN pc + 4) + 8))), (0, .ref m0), (1, .int (nI pc)), (2, .int 171), (3, .int (nI (pdN pc)))], [.ref m0, .long (nL (pdN pc + (8 * by4 f (cb + pdN pc + 4) + 8)))], M)) rfl rfl rfl ?_
            refine pr_int (j := 78) (S' := (239, [(4, .long (nL (8 * by4 f (cb + pdN pc + 4) + 8))), (0, .ref m0), (1, .int (nI pc)), (2, .int 171), (3, .int (nI (pdN pc)))], [.int (nI L), .long (nL (pdN pc + (8 * by4 f (cb + pdN pc + 4) + 8)))], M)) rfl hR rfl hi78 rfl ?_
            refine ps_st (S' := (240, [(4, .long (nL (8 * by4 f (cb + pdN pc + 4) + 8))), (0, .ref m0), (1, .int (nI pc)), (2, .int 171), (3, .int (nI (pdN pc)))], [.long (Int32.toInt64 (nI L)), .long (nL (pdN pc + (8 * by4 f (cb + pdN pc + 4) + 8)))], M)) rfl rfl rfl ?_
            rw [i2l_nL (p := L) (by omega)]
            show pl _ _ _ (_, [(4, .long (nL (8 * by4 f (cb + pdN pc + 4) + 8))), (0, .ref m0), (1, .int (nI pc)), (2, .int 171), (3, .int (nI (pdN pc)))], [.long (nL L), .long (nL (pdN pc + (8 * by4 f (cb + pdN pc + 4) + 8)))], M) _
            refine ps_st (S' := (241, [(4, .long (nL (8 * by4 f (cb + pdN pc + 4) + 8))), (0, .ref m0), (1, .int (nI pc)), (2, .int 171), (3, .int (nI (pdN pc)))], [.int (lg_cmp (nL (pdN pc + (8 * by4 f (cb + pdN pc + 4) + 8))) (nL L))], M)) rfl rfl rfl ?_
            refine ps_if (S1 := (246, [(4, .long (nL (8 * by4 f (cb + pdN pc + 4) + 8))), (0, .ref m0), (1, .int (nI pc)), (2, .int 171), (3, .int (nI (pdN pc)))], [], M)) (S2 := (244, [(4, .long (nL (8 * by4 f (cb + pdN pc + 4) + 8))), (0, .ref m0), (1, .int (nI pc)), (2, .int 171), (3, .int (nI (pdN pc)))], [], M)) rfl rfl rfl (fun c_241 => ?_) (fun c_241 => ?_)
            · have n_241 : pdN pc + (8 * by4 f (cb + pdN pc + 4) + 8) ≤ L := (cL_le (p := pdN pc + (8 * by4 f (cb + pdN pc + 4) + 8)) (k := L) (x := (nL (pdN pc + (8 * by4 f (cb + pdN pc + 4) + 8)))) (y := (nL L)) rfl rfl (by omega) (by omega)).mp (of_decide_eq_true c_241)
              refine ps_st (S' := (247, [(4, .long (nL (8 * by4 f (cb + pdN pc + 4) + 8))), (0, .ref m0), (1, .int (nI pc)), (2, .int 171), (3, .int (nI (pdN pc)))], [.int 171], M)) rfl rfl rfl ?_
              refine ps_st (S' := (250, [(4, .long (nL (8 * by4 f (cb + pdN pc + 4) + 8))), (0, .ref m0), (1, .int (nI pc)), (2, .int 171), (3, .int (nI (pdN pc)))], [.int 171, .int 171], M)) rfl rfl rfl ?_
              refine ps_if2 (S1 := (304, [(1, .int (nI pc)), (3, .int (nI (pdN pc))), (4, .long (nL (8 * by4 f (cb + pdN pc + 4) + 8)))], [], M)) (S2 := (253, [(4, .long (nL (8 * by4 f (cb + pdN pc + 4) + 8))), (0, .ref m0), (1, .int (nI pc)), (2, .int 171), (3, .int (nI (pdN pc)))], [], M)) rfl rfl rfl (fun c_250 => ?_) (fun c_250 => ?_)
              · exact absurd (of_decide_eq_true c_250) (by decide)
              refine ps_st (S' := (254, [(4, .long (nL (8 * by4 f (cb + pdN pc + 4) + 8))), (0, .ref m0), (1, .int (nI pc)), (2, .int 171), (3, .int (nI (pdN pc)))], [.int 1], M)) rfl rfl rfl ?_
              refine ps_st (S' := (256, [(0, .ref m0), (1, .int (nI pc)), (3, .int (nI (pdN pc))), (4, .long (nL (8 * by4 f (cb + pdN pc + 4) + 8))), (6, .int 1)], [], M)) rfl rfl rfl ?_
              exact ih.2 (1)  (by rw [← hz, show pdN pc - i = 0 by omega]; exact Nat.one_ne_zero) (by omega) (hnp) (by omega) (rfl)
            · have n_241 : ¬ (pdN pc + (8 * by4 f (cb + pdN pc + 4) + 8) ≤ L) := fun h9 => of_decide_eq_false c_241 ((cL_le (p := pdN pc + (8 * by4 f (cb + pdN pc + 4) + 8)) (k := L) (x := (nL (pdN pc + (8 * by4 f (cb + pdN pc + 4) + 8)))) (y := (nL L)) rfl rfl (by omega) (by omega)).mpr h9)
              refine ps_st (S' := (245, [(4, .long (nL (8 * by4 f (cb + pdN pc + 4) + 8))), (0, .ref m0), (1, .int (nI pc)), (2, .int 171), (3, .int (nI (pdN pc)))], [.int (-1)], M)) rfl rfl rfl ?_
              exact ps_ret rfl rfl (Or.inr ⟨by
                  unfold swS
                  rw [if_neg (by rw [← hz, show pdN pc - i = 0 by omega]; exact Nat.one_ne_zero), if_neg (by decide)]
                  unfold lkS
                  rw [if_neg (by omega), show by4 f (cb + (pdN pc + 4)) = by4 f (cb + pdN pc + 4) from rfl]
                  rw [if_pos (by omega)], rfl, rfl⟩)
          · have c_169 : ¬ (0 ≤ (nI (by4 f (cb + pdN pc + 4)))) := of_decide_eq_false c_169
            have hnp : 2147483648 ≤ by4 f (cb + pdN pc + 4) := (neg_nI (by4_lt _ _)).mp (Int32.not_le.mp c_169)
            refine ps_st (S' := (173, [], [.int (-1)], M)) rfl rfl rfl ?_
            exact ps_ret rfl rfl (Or.inr ⟨by
                unfold swS
                rw [if_neg (by rw [← hz, show pdN pc - i = 0 by omega]; exact Nat.one_ne_zero), if_neg (by decide)]
                unfold lkS
                rw [if_neg (by omega), show by4 f (cb + (pdN pc + 4)) = by4 f (cb + pdN pc + 4) from rfl]
                rw [if_pos (by omega)], rfl, rfl⟩)
        · have c_114 : ¬ ((nI (pdN pc)) ≤ (nI i)) := of_decide_eq_false c_114
          have n_114 : ¬ (pdN pc ≤ i) := fun h9 => c_114 ((le_nI (p := pdN pc) (n := i) (by omega) (by omega)).mpr h9)
          refine ps_st (S' := (118, [(0, .ref m0), (1, .int (nI pc)), (2, .int 171), (3, .int (nI (pdN pc))), (4, .int (nI i))], [.ref m0], M)) rfl rfl rfl ?_
          refine ps_st (S' := (120, [(0, .ref m0), (1, .int (nI pc)), (2, .int 171), (3, .int (nI (pdN pc))), (4, .int (nI i))], [.int (nI i), .ref m0], M)) rfl rfl rfl ?_
          refine pl_call (a := [.ref m0, .int (nI i)]) (rest := []) rfl rfl rfl (rd_b1 (n := n) (f := f) (cb := cb) (p := i) hR hi77 hF (by omega)) (fun v7 M8 q9 => ?_)
          obtain ⟨rfl, rfl⟩ := q9
          show pl _ _ _ (123, [(0, .ref m0), (1, .int (nI pc)), (2, .int 171), (3, .int (nI (pdN pc))), (4, .int (nI i))], [.int (nI (by1 f (cb + i)))], M) _
          show pl _ _ _ (_, [(0, .ref m0), (1, .int (nI pc)), (2, .int 171), (3, .int (nI (pdN pc))), (4, .int (nI i))], [.int (nI (by1 f (cb + i)))], M) _
          have hb_120 := by1_lt f (cb + i)
          refine ps_if (S1 := (128, [(0, .ref m0), (1, .int (nI pc)), (2, .int 171), (3, .int (nI (pdN pc))), (4, .int (nI i))], [], M)) (S2 := (126, [(0, .ref m0), (1, .int (nI pc)), (2, .int 171), (3, .int (nI (pdN pc))), (4, .int (nI i))], [], M)) rfl rfl rfl (fun c_123 => ?_) (fun c_123 => ?_)
          · have c_123 : (nI (by1 f (cb + i))) = 0 := of_decide_eq_true c_123
            have n_123 : by1 f (cb + i) = 0 := (eq_nI (p := by1 f (cb + i)) (n := 0) (Nat.lt_trans (by1_lt _ _) (by decide)) (by decide)).mp c_123
            refine ps_st (S' := (131, [(4, .int ((nI i) + 1)), (0, .ref m0), (1, .int (nI pc)), (2, .int 171), (3, .int (nI (pdN pc)))], [], M)) rfl rfl rfl ?_
            rw [nI_add1 (p := i) (k := 1) (x := 1) rfl (by omega)]
            show pl _ _ _ (_, [(4, .int (nI (i + 1))), (0, .ref m0), (1, .int (nI pc)), (2, .int 171), (3, .int (nI (pdN pc)))], [], M) _
            refine ps_st (S' := (111, [(0, .ref m0), (1, .int (nI pc)), (2, .int 171), (3, .int (nI (pdN pc))), (4, .int (nI (i + 1)))], [], M)) rfl rfl rfl ?_
            exact ih.1 (i + 1)  (by omega) (by
                rw [← hz, zrN_st (c := pdN pc) (i := i) (j := i) (by omega), if_pos (by omega)]) (hw9)
          · have c_123 : ¬ ((nI (by1 f (cb + i))) = 0) := of_decide_eq_false c_123
            have n_123 : ¬ (by1 f (cb + i) = 0) := fun h9 => c_123 ((eq_nI (p := by1 f (cb + i)) (n := 0) (Nat.lt_trans (by1_lt _ _) (by decide)) (by decide)).mpr h9)
            refine ps_st (S' := (127, [(0, .ref m0), (1, .int (nI pc)), (2, .int 171), (3, .int (nI (pdN pc))), (4, .int (nI i))], [.int (-1)], M)) rfl rfl rfl ?_
            exact ps_ret rfl rfl (Or.inr ⟨by
                unfold swS
                rw [if_pos (by rw [← hz, zrN_st (c := pdN pc) (i := i) (j := i) (by omega), if_neg (by omega)])], rfl, rfl⟩)
      · skip
        intro k hz0 hle hnp hk1 hk
        have hpd := pd_le pc
        refine ps_st1 (S' := (258, [(0, .ref m0), (1, .int (nI pc)), (3, .int (nI (pdN pc))), (4, .long (nL (8 * by4 f (cb + pdN pc + 4) + 8))), (6, .int (nI k))], [.int (nI k)], M)) rfl rfl rfl ?_
        refine ps_st (S' := (259, [(0, .ref m0), (1, .int (nI pc)), (3, .int (nI (pdN pc))), (4, .long (nL (8 * by4 f (cb + pdN pc + 4) + 8))), (6, .int (nI k))], [.ref m0, .int (nI k)], M)) rfl rfl rfl ?_
        refine ps_st (S' := (260, [(0, .ref m0), (1, .int (nI pc)), (3, .int (nI (pdN pc))), (4, .long (nL (8 * by4 f (cb + pdN pc + 4) + 8))), (6, .int (nI k))], [.int (nI (pdN pc)), .ref m0, .int (nI k)], M)) rfl rfl rfl ?_
        refine ps_st (S' := (261, [(0, .ref m0), (1, .int (nI pc)), (3, .int (nI (pdN pc))), (4, .long (nL (8 * by4 f (cb + pdN pc + 4) + 8))), (6, .int (nI k))], [.int 4, .int (nI (pdN pc)), .ref m0, .int (nI k)], M)) rfl rfl rfl ?_
        refine ps_st (S' := (262, [(0, .ref m0), (1, .int (nI pc)), (3, .int (nI (pdN pc))), (4, .long (nL (8 * by4 f (cb + pdN pc + 4) + 8))), (6, .int (nI k))], [.int ((nI (pdN pc)) + 4), .ref m0, .int (nI k)], M)) rfl rfl rfl ?_
        rw [nI_add1 (p := pdN pc) (k := 4) (x := 4) rfl (by omega)]
        show pl _ _ _ (_, [(0, .ref m0), (1, .int (nI pc)), (3, .int (nI (pdN pc))), (4, .long (nL (8 * by4 f (cb + pdN pc + 4) + 8))), (6, .int (nI k))], [.int (nI (pdN pc + 4)), .ref m0, .int (nI k)], M) _
        refine pl_call (a := [.ref m0, .int (nI (pdN pc + 4))]) (rest := [.int (nI k)]) rfl rfl rfl (rd_b4 (n := n) (f := f) (cb := cb) (p := (pdN pc + 4)) hR hi77 hF (by omega)) (fun v10 M11 q12 => ?_)
        obtain ⟨rfl, rfl⟩ := q12
        show pl _ _ _ (265, [(0, .ref m0), (1, .int (nI pc)), (3, .int (nI (pdN pc))), (4, .long (nL (8 * by4 f (cb + pdN pc + 4) + 8))), (6, .int (nI k))], [.int (nI (by4 f (cb + (pdN pc + 4)))), .int (nI k)], M) _
        show pl _ _ _ (_, [(0, .ref m0), (1, .int (nI pc)), (3, .int (nI (pdN pc))), (4, .long (nL (8 * by4 f (cb + pdN pc + 4) + 8))), (6, .int (nI k))], [.int (nI (by4 f (cb + pdN pc + 4))), .int (nI k)], M) _
        have hb_262 := by4_lt f (cb + pdN pc + 4)
        refine ps_if2 (S1 := (304, [(1, .int (nI pc)), (3, .int (nI (pdN pc))), (4, .long (nL (8 * by4 f (cb + pdN pc + 4) + 8)))], [], M)) (S2 := (268, [(0, .ref m0), (1, .int (nI pc)), (3, .int (nI (pdN pc))), (4, .long (nL (8 * by4 f (cb + pdN pc + 4) + 8))), (6, .int (nI k))], [], M)) rfl rfl rfl (fun c_265 => ?_) (fun c_265 => ?_)
        · have c_265 : (nI (by4 f (cb + pdN pc + 4))) ≤ (nI k) := of_decide_eq_true c_265
          have n265 : by4 f (cb + pdN pc + 4) ≤ k := (le_nI31 (p := by4 f (cb + pdN pc + 4)) (n := k) (by omega) (by omega)).mp c_265
          refine ps_st (S' := (305, [(1, .int (nI pc)), (3, .int (nI (pdN pc))), (4, .long (nL (8 * by4 f (cb + pdN pc + 4) + 8)))], [.int (nI (pdN pc))], M)) rfl rfl rfl ?_
          refine ps_st (S' := (306, [(1, .int (nI pc)), (3, .int (nI (pdN pc))), (4, .long (nL (8 * by4 f (cb + pdN pc + 4) + 8)))], [.long (Int32.toInt64 (nI (pdN pc)))], M)) rfl rfl rfl ?_
          rw [i2l_nL (p := pdN pc) (by omega)]
          show pl _ _ _ (_, [(1, .int (nI pc)), (3, .int (nI (pdN pc))), (4, .long (nL (8 * by4 f (cb + pdN pc + 4) + 8)))], [.long (nL (pdN pc))], M) _
          refine ps_st (S' := (308, [(1, .int (nI pc)), (3, .int (nI (pdN pc))), (4, .long (nL (8 * by4 f (cb + pdN pc + 4) + 8)))], [.long (nL (8 * by4 f (cb + pdN pc + 4) + 8)), .long (nL (pdN pc))], M)) rfl rfl rfl ?_
          refine ps_st (S' := (309, [(1, .int (nI pc)), (3, .int (nI (pdN pc))), (4, .long (nL (8 * by4 f (cb + pdN pc + 4) + 8)))], [.long ((nL (pdN pc)) + (nL (8 * by4 f (cb + pdN pc + 4) + 8)))], M)) rfl rfl rfl ?_
          rw [nL_add (p := pdN pc) (k := 8 * by4 f (cb + pdN pc + 4) + 8) (x := (nL (8 * by4 f (cb + pdN pc + 4) + 8))) rfl (by omega)]
          show pl _ _ _ (_, [(1, .int (nI pc)), (3, .int (nI (pdN pc))), (4, .long (nL (8 * by4 f (cb + pdN pc + 4) + 8)))], [.long (nL (pdN pc + (8 * by4 f (cb + pdN pc + 4) + 8)))], M) _
          refine ps_st (S' := (310, [(1, .int (nI pc)), (3, .int (nI (pdN pc))), (4, .long (nL (8 * by4 f (cb + pdN pc + 4) + 8)))], [.int (nI pc), .long (nL (pdN pc + (8 * by4 f (cb + pdN pc + 4) + 8)))], M)) rfl rfl rfl ?_
          refine ps_st (S' := (311, [(1, .int (nI pc)), (3, .int (nI (pdN pc))), (4, .long (nL (8 * by4 f (cb + pdN pc + 4) + 8)))], [.long (Int32.toInt64 (nI pc)), .long (nL (pdN pc + (8 * by4 f (cb + pdN pc + 4) + 8)))], M)) rfl rfl rfl ?_
          rw [i2l_nL (p := pc) (by omega)]
          show pl _ _ _ (_, [(1, .int (nI pc)), (3, .int (nI (pdN pc))), (4, .long (nL (8 * by4 f (cb + pdN pc + 4) + 8)))], [.long (nL pc), .long (nL (pdN pc + (8 * by4 f (cb + pdN pc + 4) + 8)))], M) _
          refine ps_st (S' := (312, [(1, .int (nI pc)), (3, .int (nI (pdN pc))), (4, .long (nL (8 * by4 f (cb + pdN pc + 4) + 8)))], [.long ((nL (pdN pc + (8 * by4 f (cb + pdN pc + 4) + 8))) - (nL pc))], M)) rfl rfl rfl ?_
          refine ps_st (S' := (313, [(1, .int (nI pc)), (3, .int (nI (pdN pc))), (4, .long (nL (8 * by4 f (cb + pdN pc + 4) + 8)))], [.int (Int64.toInt32 ((nL (pdN pc + (8 * by4 f (cb + pdN pc + 4) + 8))) - (nL pc)))], M)) rfl rfl rfl ?_
          exact ps_reti rfl (Or.inl ⟨(pdN pc + 8 + 8 * by4 f (cb + pdN pc + 4) - pc, nI (by4 f (cb + pdN pc + 4)), 0, by4 f (cb + pdN pc + 4) + 1), by
              unfold swS
              rw [if_neg hz0, if_neg (by decide)]
              unfold lkS
              rw [if_neg (by omega), show by4 f (cb + (pdN pc + 4)) = by4 f (cb + pdN pc + 4) from rfl]
              rw [if_neg (by omega), if_neg (by rw [← hk, show by4 f (cb + pdN pc + 4) - k = 0 by omega]; exact Nat.one_ne_zero)], by
              rw [l2i_sub (by omega) (by omega)]
              exact congrArg (fun x => some (Value.int (nI x))) (by show _ = pdN pc + 8 + 8 * by4 f (cb + pdN pc + 4) - pc; omega), rfl⟩)
        · have c_265 : ¬ ((nI (by4 f (cb + pdN pc + 4))) ≤ (nI k)) := of_decide_eq_false c_265
          have n265 : k < by4 f (cb + pdN pc + 4) := Nat.not_le.mp (fun h9 => c_265 ((le_nI31 (p := by4 f (cb + pdN pc + 4)) (n := k) (by omega) (by omega)).mpr h9))
          refine ps_st (S' := (269, [(0, .ref m0), (1, .int (nI pc)), (3, .int (nI (pdN pc))), (4, .long (nL (8 * by4 f (cb + pdN pc + 4) + 8))), (6, .int (nI k))], [.ref m0], M)) rfl rfl rfl ?_
          refine ps_st (S' := (270, [(0, .ref m0), (1, .int (nI pc)), (3, .int (nI (pdN pc))), (4, .long (nL (8 * by4 f (cb + pdN pc + 4) + 8))), (6, .int (nI k))], [.int (nI (pdN pc)), .ref m0], M)) rfl rfl rfl ?_
          refine ps_st (S' := (272, [(0, .ref m0), (1, .int (nI pc)), (3, .int (nI (pdN pc))), (4, .long (nL (8 * by4 f (cb + pdN pc + 4) + 8))), (6, .int (nI k))], [.int 8, .int (nI (pdN pc)), .ref m0], M)) rfl rfl rfl ?_
          refine ps_st (S' := (273, [(0, .ref m0), (1, .int (nI pc)), (3, .int (nI (pdN pc))), (4, .long (nL (8 * by4 f (cb + pdN pc + 4) + 8))), (6, .int (nI k))], [.int ((nI (pdN pc)) + 8), .ref m0], M)) rfl rfl rfl ?_
          rw [nI_add1 (p := pdN pc) (k := 8) (x := 8) rfl (by omega)]
          show pl _ _ _ (_, [(0, .ref m0), (1, .int (nI pc)), (3, .int (nI (pdN pc))), (4, .long (nL (8 * by4 f (cb + pdN pc + 4) + 8))), (6, .int (nI k))], [.int (nI (pdN pc + 8)), .ref m0], M) _
          refine ps_st (S' := (275, [(0, .ref m0), (1, .int (nI pc)), (3, .int (nI (pdN pc))), (4, .long (nL (8 * by4 f (cb + pdN pc + 4) + 8))), (6, .int (nI k))], [.int 8, .int (nI (pdN pc + 8)), .ref m0], M)) rfl rfl rfl ?_
          refine ps_st (S' := (277, [(0, .ref m0), (1, .int (nI pc)), (3, .int (nI (pdN pc))), (4, .long (nL (8 * by4 f (cb + pdN pc + 4) + 8))), (6, .int (nI k))], [.int (nI k), .int 8, .int (nI (pdN pc + 8)), .ref m0], M)) rfl rfl rfl ?_
          refine ps_st (S' := (278, [(0, .ref m0), (1, .int (nI pc)), (3, .int (nI (pdN pc))), (4, .long (nL (8 * by4 f (cb + pdN pc + 4) + 8))), (6, .int (nI k))], [.int (8 * (nI k)), .int (nI (pdN pc + 8)), .ref m0], M)) rfl rfl rfl ?_
          rw [nI_mul1 (p := 8) (k := k) (x := 8) (y := (nI k)) rfl rfl (by omega)]
          show pl _ _ _ (_, [(0, .ref m0), (1, .int (nI pc)), (3, .int (nI (pdN pc))), (4, .long (nL (8 * by4 f (cb + pdN pc + 4) + 8))), (6, .int (nI k))], [.int (nI (8 * k)), .int (nI (pdN pc + 8)), .ref m0], M) _
          refine ps_st (S' := (279, [(0, .ref m0), (1, .int (nI pc)), (3, .int (nI (pdN pc))), (4, .long (nL (8 * by4 f (cb + pdN pc + 4) + 8))), (6, .int (nI k))], [.int ((nI (pdN pc + 8)) + (nI (8 * k))), .ref m0], M)) rfl rfl rfl ?_
          rw [nI_add1 (p := pdN pc + 8) (k := 8 * k) (x := (nI (8 * k))) rfl (by omega)]
          show pl _ _ _ (_, [(0, .ref m0), (1, .int (nI pc)), (3, .int (nI (pdN pc))), (4, .long (nL (8 * by4 f (cb + pdN pc + 4) + 8))), (6, .int (nI k))], [.int (nI (pdN pc + 8 + 8 * k)), .ref m0], M) _
          refine pl_call (a := [.ref m0, .int (nI (pdN pc + 8 + 8 * k))]) (rest := []) rfl rfl rfl (rd_b4 (n := n) (f := f) (cb := cb) (p := (pdN pc + 8 + 8 * k)) hR hi77 hF (by omega)) (fun v13 M14 q15 => ?_)
          obtain ⟨rfl, rfl⟩ := q15
          show pl _ _ _ (282, [(0, .ref m0), (1, .int (nI pc)), (3, .int (nI (pdN pc))), (4, .long (nL (8 * by4 f (cb + pdN pc + 4) + 8))), (6, .int (nI k))], [.int (nI (by4 f (cb + (pdN pc + 8 + 8 * k))))], M) _
          show pl _ _ _ (_, [(0, .ref m0), (1, .int (nI pc)), (3, .int (nI (pdN pc))), (4, .long (nL (8 * by4 f (cb + pdN pc + 4) + 8))), (6, .int (nI k))], [.int (nI (by4 f (cb + (pdN pc + 8 + 8 * k))))], M) _
          have hb_279 := by4_lt f (cb + (pdN pc + 8 + 8 * k))
          refine ps_st (S' := (283, [(0, .ref m0), (1, .int (nI pc)), (3, .int (nI (pdN pc))), (4, .long (nL (8 * by4 f (cb + pdN pc + 4) + 8))), (6, .int (nI k))], [.ref m0, .int (nI (by4 f (cb + (pdN pc + 8 + 8 * k))))], M)) rfl rfl rfl ?_
          refine ps_st (S' := (284, [(0, .ref m0), (1, .int (nI pc)), (3, .int (nI (pdN pc))), (4, .long (nL (8 * by4 f (cb + pdN pc + 4) + 8))), (6, .int (nI k))], [.int (nI (pdN pc)), .ref m0, .int (nI (by4 f (cb + (pdN pc + 8 + 8 * k))))], M)) rfl rfl rfl ?_
          refine ps_st (S' := (286, [(0, .ref m0), (1, .int (nI pc)), (3, .int (nI (pdN pc))), (4, .long (nL (8 * by4 f (cb + pdN pc + 4) + 8))), (6, .int (nI k))], [.int 8, .int (nI (pdN pc)), .ref m0, .int (nI (by4 f (cb + (pdN pc + 8 + 8 * k))))], M)) rfl rfl rfl ?_
          refine ps_st (S' := (288, [(0, .ref m0), (1, .int (nI pc)), (3, .int (nI (pdN pc))), (4, .long (nL (8 * by4 f (cb + pdN pc + 4) + 8))), (6, .int (nI k))], [.int (nI k), .int 8, .int (nI (pdN pc)), .ref m0, .int (nI (by4 f (cb + (pdN pc + 8 + 8 * k))))], M)) rfl rfl rfl ?_
          refine ps_st (S' := (289, [(0, .ref m0), (1, .int (nI pc)), (3, .int (nI (pdN pc))), (4, .long (nL (8 * by4 f (cb + pdN pc + 4) + 8))), (6, .int (nI k))], [.int (8 * (nI k)), .int (nI (pdN pc)), .ref m0, .int (nI (by4 f (cb + (pdN pc + 8 + 8 * k))))], M)) rfl rfl rfl ?_
          rw [nI_mul1 (p := 8) (k := k) (x := 8) (y := (nI k)) rfl rfl (by omega)]
          show pl _ _ _ (_, [(0, .ref m0), (1, .int (nI pc)), (3, .int (nI (pdN pc))), (4, .long (nL (8 * by4 f (cb + pdN pc + 4) + 8))), (6, .int (nI k))], [.int (nI (8 * k)), .int (nI (pdN pc)), .ref m0, .int (nI (by4 f (cb + (pdN pc + 8 + 8 * k))))], M) _
          refine ps_st (S' := (290, [(0, .ref m0), (1, .int (nI pc)), (3, .int (nI (pdN pc))), (4, .long (nL (8 * by4 f (cb + pdN pc + 4) + 8))), (6, .int (nI k))], [.int ((nI (pdN pc)) + (nI (8 * k))), .ref m0, .int (nI (by4 f (cb + (pdN pc + 8 + 8 * k))))], M)) rfl rfl rfl ?_
          rw [nI_add1 (p := pdN pc) (k := 8 * k) (x := (nI (8 * k))) rfl (by omega)]
          show pl _ _ _ (_, [(0, .ref m0), (1, .int (nI pc)), (3, .int (nI (pdN pc))), (4, .long (nL (8 * by4 f (cb + pdN pc + 4) + 8))), (6, .int (nI k))], [.int (nI (pdN pc + 8 * k)), .ref m0, .int (nI (by4 f (cb + (pdN pc + 8 + 8 * k))))], M) _
          refine pl_call (a := [.ref m0, .int (nI (pdN pc + 8 * k))]) (rest := [.int (nI (by4 f (cb + (pdN pc + 8 + 8 * k))))]) rfl rfl rfl (rd_b4 (n := n) (f := f) (cb := cb) (p := (pdN pc + 8 * k)) hR hi77 hF (by omega)) (fun v16 M17 q18 => ?_)
          obtain ⟨rfl, rfl⟩ := q18
          show pl _ _ _ (293, [(0, .ref m0), (1, .int (nI pc)), (3, .int (nI (pdN pc))), (4, .long (nL (8 * by4 f (cb + pdN pc + 4) + 8))), (6, .int (nI k))], [.int (nI (by4 f (cb + (pdN pc + 8 * k)))), .int (nI (by4 f (cb + (pdN pc + 8 + 8 * k))))], M) _
          show pl _ _ _ (_, [(0, .ref m0), (1, .int (nI pc)), (3, .int (nI (pdN pc))), (4, .long (nL (8 * by4 f (cb + pdN pc + 4) + 8))), (6, .int (nI k))], [.int (nI (by4 f (cb + (pdN pc + 8 * k)))), .int (nI (by4 f (cb + (pdN pc + 8 + 8 * k))))], M) _
          have hb_290 := by4_lt f (cb + (pdN pc + 8 * k))
          refine ps_if2 (S1 := (298, [(0, .ref m0), (1, .int (nI pc)), (3, .int (nI (pdN pc))), (4, .long (nL (8 * by4 f (cb + pdN pc + 4) + 8))), (6, .int (nI k))], [], M)) (S2 := (296, [(0, .ref m0), (1, .int (nI pc)), (3, .int (nI (pdN pc))), (4, .long (nL (8 * by4 f (cb + pdN pc + 4) + 8))), (6, .int (nI k))], [], M)) rfl rfl rfl (fun c_293 => ?_) (fun c_293 => ?_)
          · have c_293 : (nI (by4 f (cb + (pdN pc + 8 * k)))) < (nI (by4 f (cb + (pdN pc + 8 + 8 * k)))) := of_decide_eq_true c_293
            refine ps_st (S' := (301, [(6, .int ((nI k) + 1)), (0, .ref m0), (1, .int (nI pc)), (3, .int (nI (pdN pc))), (4, .long (nL (8 * by4 f (cb + pdN pc + 4) + 8)))], [], M)) rfl rfl rfl ?_
            rw [nI_add1 (p := k) (k := 1) (x := 1) rfl (by omega)]
            show pl _ _ _ (_, [(6, .int (nI (k + 1))), (0, .ref m0), (1, .int (nI pc)), (3, .int (nI (pdN pc))), (4, .long (nL (8 * by4 f (cb + pdN pc + 4) + 8)))], [], M) _
            refine ps_st (S' := (256, [(0, .ref m0), (1, .int (nI pc)), (3, .int (nI (pdN pc))), (4, .long (nL (8 * by4 f (cb + pdN pc + 4) + 8))), (6, .int (nI (k + 1)))], [], M)) rfl rfl rfl ?_
            exact ih.2 (k + 1)  (hz0) (hle) (hnp) (by omega) (by
                rw [← hk, keA_st (c := by4 f (cb + pdN pc + 4)) (i := k) (j := k + 1) (by omega), show cb + (pdN pc + 8 * (k + 1 - 1)) = cb + (pdN pc + 8 * k) by omega, show cb + (pdN pc + 8 * (k + 1)) = cb + (pdN pc + 8 + 8 * k) by omega, if_pos c_293])
          · have c_293 : ¬ ((nI (by4 f (cb + (pdN pc + 8 * k)))) < (nI (by4 f (cb + (pdN pc + 8 + 8 * k))))) := of_decide_eq_false c_293
            refine ps_st (S' := (297, [(0, .ref m0), (1, .int (nI pc)), (3, .int (nI (pdN pc))), (4, .long (nL (8 * by4 f (cb + pdN pc + 4) + 8))), (6, .int (nI k))], [.int (-1)], M)) rfl rfl rfl ?_
            exact ps_ret rfl rfl (Or.inr ⟨by
                unfold swS
                rw [if_neg hz0, if_neg (by decide)]
                unfold lkS
                rw [if_neg (by omega), show by4 f (cb + (pdN pc + 4)) = by4 f (cb + pdN pc + 4) from rfl]
                rw [if_neg (by omega), if_pos (by rw [← hk, keA_st (c := by4 f (cb + pdN pc + 4)) (i := k) (j := k + 1) (by omega), show cb + (pdN pc + 8 * (k + 1 - 1)) = cb + (pdN pc + 8 * k) by omega, show cb + (pdN pc + 8 * (k + 1)) = cb + (pdN pc + 8 + 8 * k) by omega, if_neg c_293])], rfl, rfl⟩)
  refine ps_st (S' := (1, [(0, .ref m0), (1, .int (nI pc)), (2, .int 171)], [.int 171], M)) rfl rfl rfl ?_
  refine ps_st (S' := (4, [(0, .ref m0), (1, .int (nI pc)), (2, .int 171)], [.int 196, .int 171], M)) rfl rfl rfl ?_
  refine ps_if2 (S1 := (76, [(0, .ref m0), (1, .int (nI pc)), (2, .int 171)], [], M)) (S2 := (7, [(0, .ref m0), (1, .int (nI pc)), (2, .int 171)], [], M)) rfl rfl rfl (fun c_4 => ?_) (fun c_4 => ?_)
  rotate_left
  · exact absurd (by decide) (of_decide_eq_false c_4)
  refine ps_st (S' := (77, [(0, .ref m0), (1, .int (nI pc)), (2, .int 171)], [.int (nI pc)], M)) rfl rfl rfl ?_
  refine pl_call (a := [.int (nI pc)]) (rest := []) rfl rfl rfl (rd_pad (p := pc) hR (by omega)) (fun v19 M20 q21 => ?_)
  obtain ⟨rfl, rfl⟩ := q21
  show pl _ _ _ (80, [(0, .ref m0), (1, .int (nI pc)), (2, .int 171)], [.int (nI (pdN pc))], M) _
  have hpd_77 := pd_le pc
  refine ps_st (S' := (81, [(3, .int (nI (pdN pc))), (0, .ref m0), (1, .int (nI pc)), (2, .int 171)], [], M)) rfl rfl rfl ?_
  refine ps_st (S' := (82, [(3, .int (nI (pdN pc))), (0, .ref m0), (1, .int (nI pc)), (2, .int 171)], [.int (nI (pdN pc))], M)) rfl rfl rfl ?_
  refine ps_st (S' := (83, [(3, .int (nI (pdN pc))), (0, .ref m0), (1, .int (nI pc)), (2, .int 171)], [.int 171, .int (nI (pdN pc))], M)) rfl rfl rfl ?_
  refine ps_st (S' := (86, [(3, .int (nI (pdN pc))), (0, .ref m0), (1, .int (nI pc)), (2, .int 171)], [.int 170, .int 171, .int (nI (pdN pc))], M)) rfl rfl rfl ?_
  refine ps_if2 (S1 := (94, [(3, .int (nI (pdN pc))), (0, .ref m0), (1, .int (nI pc)), (2, .int 171)], [.int (nI (pdN pc))], M)) (S2 := (89, [(3, .int (nI (pdN pc))), (0, .ref m0), (1, .int (nI pc)), (2, .int 171)], [.int (nI (pdN pc))], M)) rfl rfl rfl (fun c_86 => ?_) (fun c_86 => ?_)
  rotate_left
  · exact absurd (by decide) (of_decide_eq_false c_86)
  refine ps_st (S' := (96, [(0, .ref m0), (1, .int (nI pc)), (2, .int 171), (3, .int (nI (pdN pc)))], [.int 8, .int (nI (pdN pc))], M)) rfl rfl rfl ?_
  refine ps_st (S' := (97, [(0, .ref m0), (1, .int (nI pc)), (2, .int 171), (3, .int (nI (pdN pc)))], [.int ((nI (pdN pc)) + 8)], M)) rfl rfl rfl ?_
  rw [nI_add1 (p := pdN pc) (k := 8) (x := 8) rfl (by omega)]
  show pl _ _ _ (_, [(0, .ref m0), (1, .int (nI pc)), (2, .int 171), (3, .int (nI (pdN pc)))], [.int (nI (pdN pc + 8))], M) _
  refine ps_st (S' := (98, [(0, .ref m0), (1, .int (nI pc)), (2, .int 171), (3, .int (nI (pdN pc)))], [.ref m0, .int (nI (pdN pc + 8))], M)) rfl rfl rfl ?_
  refine pr_int (j := 78) (S' := (101, [(0, .ref m0), (1, .int (nI pc)), (2, .int 171), (3, .int (nI (pdN pc)))], [.int (nI L), .int (nI (pdN pc + 8))], M)) rfl hR rfl hi78 rfl ?_
  refine ps_if2 (S1 := (106, [(0, .ref m0), (1, .int (nI pc)), (2, .int 171), (3, .int (nI (pdN pc)))], [], M)) (S2 := (104, [(0, .ref m0), (1, .int (nI pc)), (2, .int 171), (3, .int (nI (pdN pc)))], [], M)) rfl rfl rfl (fun c_101 => ?_) (fun c_101 => ?_)
  · have c_101 : (nI (pdN pc + 8)) ≤ (nI L) := of_decide_eq_true c_101
    have n_101 : pdN pc + 8 ≤ L := (le_nI (p := pdN pc + 8) (n := L) (by omega) (by omega)).mp c_101
    refine ps_st (S' := (107, [(0, .ref m0), (1, .int (nI pc)), (2, .int 171), (3, .int (nI (pdN pc)))], [.int (nI pc)], M)) rfl rfl rfl ?_
    refine ps_st (S' := (108, [(0, .ref m0), (1, .int (nI pc)), (2, .int 171), (3, .int (nI (pdN pc)))], [.int 1, .int (nI pc)], M)) rfl rfl rfl ?_
    refine ps_st (S' := (109, [(0, .ref m0), (1, .int (nI pc)), (2, .int 171), (3, .int (nI (pdN pc)))], [.int ((nI pc) + 1)], M)) rfl rfl rfl ?_
    rw [nI_add1 (p := pc) (k := 1) (x := 1) rfl (by omega)]
    show pl _ _ _ (_, [(0, .ref m0), (1, .int (nI pc)), (2, .int 171), (3, .int (nI (pdN pc)))], [.int (nI (pc + 1))], M) _
    refine ps_st (S' := (111, [(0, .ref m0), (1, .int (nI pc)), (2, .int 171), (3, .int (nI (pdN pc))), (4, .int (nI (pc + 1)))], [], M)) rfl rfl rfl ?_
    exact (LL kf).1 (pc + 1)  (by omega) (rfl) (by omega)
  · have c_101 : ¬ ((nI (pdN pc + 8)) ≤ (nI L)) := of_decide_eq_false c_101
    have n_101 : ¬ (pdN pc + 8 ≤ L) := fun h9 => c_101 ((le_nI (p := pdN pc + 8) (n := L) (by omega) (by omega)).mpr h9)
    refine ps_st (S' := (105, [(0, .ref m0), (1, .int (nI pc)), (2, .int 171), (3, .int (nI (pdN pc)))], [.int (-1)], M)) rfl rfl rfl ?_
    exact ps_ret rfl rfl (Or.inr ⟨by
        unfold swS
        split
        rfl
        rw [if_neg (by decide)]
        unfold lkS
        rw [if_pos (by omega)], rfl, rfl⟩)
