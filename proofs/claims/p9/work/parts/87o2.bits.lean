/-! the bits of a number, as both sides tell them (my own text) -/
section BIA
variable {f : Nat → Int32} {n : Nat} {E : List (Nat × Nat)} {j : Nat}
def bL4 (f : Nat → Int32) (p : Nat) : Int64 := Int32.toInt64 (nI (by4 f (p + 1)))
def bL8 (f : Nat → Int32) (p : Nat) : Int64 := (nL (by4 f (p + 1)) <<< (Int32.toInt64 32 &&& 63)) ||| nL (by4 f (p + 5))
def plc (E : List (Nat × Nat)) (j : Nat) : Nat := (lk E j).getD 0
def biI (f : Nat → Int32) (E : List (Nat × Nat)) (k : Int32) : Int64 := if tg f E k.toNatClampNeg = 3 ∨ tg f E k.toNatClampNeg = 4 then bL4 f (plc E k.toNatClampNeg) else if tg f E k.toNatClampNeg = 5 ∨ tg f E k.toNatClampNeg = 6 then bL8 f (plc E k.toNatClampNeg) else 0
/-- what is kept tells it -/
def biK (ko : Option (Nat × (Nat → Int32))) (k : Int32) : Int64 := match ko with
  | none => 0
  | some r => match s_whole r.2 r.1 with
    | .inl _ => 0
    | .inr y => biI r.2 y.1 k
theorem biK_is {r : Nat × (Nat → Int32)} {k : Int32} {y : Nat × Nat × Nat × Nat} (h : s_whole r.2 r.1 = .inr (E, y)) : biK (some r) k = biI r.2 E k := by
  show (match s_whole r.2 r.1 with | .inl _ => 0 | .inr y => biI r.2 y.1 k) = _
  rw [h]
theorem nL_bv {x : Nat} : (nL x).toBitVec = BitVec.ofNat 64 x := rfl
theorem l2i_all {p : Nat} : Int64.toInt32 (nL p) = nI p := by
  apply Int32.toBitVec_inj.mp
  rw [Int64.toBitVec_toInt32, nL_bv, nI_bv, BitVec.signExtend_eq_setWidth_of_le _ (by decide)]
  apply BitVec.eq_of_toNat_eq
  simp only [BitVec.toNat_setWidth, BitVec.toNat_ofNat]
  omega
theorem msk32 (i : Nat) (h : i < 64) : (4294967295 : Int64).toBitVec.getLsbD i = decide (i < 32) := by
  have e : (4294967295 : Int64).toBitVec = BitVec.ofNat 64 (2 ^ 32 - 1) := by decide
  rw [e, BitVec.getLsbD_ofNat, Nat.testBit_two_pow_sub_one]
  simp only [h, decide_true, Bool.true_and]
theorem bits8 {a b : Nat} (ha : a < 4294967296) (hb : b < 4294967296) : ((Int32.toInt64 (nI a)) <<< (Int32.toInt64 32 &&& 63)) ||| ((Int32.toInt64 (nI b)) &&& 4294967295) = (nL a <<< (Int32.toInt64 32 &&& 63)) ||| nL b := by
  apply Int64.toBitVec_inj.mp
  have e32 : (Int32.toInt64 32 &&& 63).toBitVec.smod 64 = 32#64 := by decide
  rw [Int64.toBitVec_or, Int64.toBitVec_or, Int64.toBitVec_and, Int64.toBitVec_shiftLeft, Int64.toBitVec_shiftLeft, Int32.toBitVec_toInt64, Int32.toBitVec_toInt64, nI_bv, nI_bv, nL_bv, nL_bv, e32]
  apply BitVec.eq_of_getLsbD_eq
  intro i hi
  have e3 : (32#64).toNat = 32 := by decide
  rw [BitVec.getLsbD_or, BitVec.getLsbD_or, BitVec.getLsbD_and, msk32 i hi, BitVec.shiftLeft_eq', BitVec.shiftLeft_eq', e3, BitVec.getLsbD_shiftLeft, BitVec.getLsbD_shiftLeft]
  by_cases h : i < 32
  · have h2 : (BitVec.signExtend 64 (BitVec.ofNat 32 b)).getLsbD i = (BitVec.ofNat 64 b).getLsbD i := by
      rw [BitVec.getLsbD_signExtend, BitVec.getLsbD_ofNat, BitVec.getLsbD_ofNat]
      simp only [h, hi, decide_true, Bool.true_and, if_true]
    rw [h2]
    simp only [h, decide_true, Bool.not_true, Bool.and_false, Bool.false_and, Bool.false_or, Bool.and_true]
  · have h3 : (BitVec.ofNat 64 b).getLsbD i = false := by
      rw [BitVec.getLsbD_ofNat, Nat.testBit_lt_two_pow (Nat.lt_of_lt_of_le hb (by
        have : 2 ^ 32 ≤ 2 ^ i := Nat.pow_le_pow_right (by decide) (by omega)
        omega))]
      exact Bool.and_false _
    have h4 : (BitVec.signExtend 64 (BitVec.ofNat 32 a)).getLsbD (i - 32) = (BitVec.ofNat 64 a).getLsbD (i - 32) := by
      have q1 : i - 32 < 32 := by omega
      have q2 : i - 32 < 64 := by omega
      rw [BitVec.getLsbD_signExtend, BitVec.getLsbD_ofNat, BitVec.getLsbD_ofNat]
      simp only [q1, q2, decide_true, Bool.true_and, if_true]
    rw [h3, h4]
    simp only [h, decide_false, Bool.and_false, Bool.or_false]
/-- numbers lie within the file -/
def nu1 (f : Nat → Int32) (n p : Nat) : Prop := (by1 f p = 3 ∨ by1 f p = 4 → p + 5 ≤ n) ∧ (by1 f p = 5 ∨ by1 f p = 6 → p + 9 ≤ n)
theorem nums_ok {mj N : Nat} : ∀ {r k p p' : Nat} {E0 E : List (Nat × Nat)}, (∀ q ∈ E0, nu1 f n q.2) → s_ents f n mj N r k p E0 = .inr (p', E) → ∀ q ∈ E, nu1 f n q.2 := by
  intro r
  induction r with
  | zero => intro k p p' E0 E h0 h; cases h; exact h0
  | succ r ih =>
    intro k p p' E0 E h0 h
    unfold s_ents at h
    split at h
    · cases h; exact h0
    · cases he : s_entry f n mj N k p with
      | inl e => rw [he] at h; cases h
      | inr y =>
        obtain ⟨p2, x⟩ := y
        rw [he] at h
        refine ih ?_ h
        intro q hq
        rcases List.mem_append.mp hq with hq | hq
        · exact h0 q hq
        · have e : q = (k, p) := by simpa using hq
          rw [e]
          refine ⟨fun h9 => ?_, fun h9 => ?_⟩
          · refine Nat.not_lt.mp (fun h8 => ?_)
            dsimp only at h9 h8
            unfold s_entry at he
            rw [if_neg (show ¬ ((by1 f p = 5 ∨ by1 f p = 6) ∧ N ≤ k + 1) by omega), if_neg (show ¬ by1 f p = 1 by omega), if_pos h9, if_pos h8] at he
            split at he
            · cases he
            · split at he <;> cases he
          · refine Nat.not_lt.mp (fun h8 => ?_)
            dsimp only at h9 h8
            unfold s_entry at he
            rw [if_neg (show ¬ by1 f p = 1 by omega), if_neg (show ¬ (by1 f p = 3 ∨ by1 f p = 4) by omega), if_pos h9] at he
            repeat' split at he
            all_goals first | cases he | omega
theorem nums_of {mj p' p : Nat} (h : s_pool f n mj = .inr (p', E)) (hp : lk E j = some p) : nu1 f n p := by
  unfold s_pool at h
  split at h
  · cases h
  · split at h
    · cases h
    · exact nums_ok (fun q hq => by cases hq) h _ (lk_in hp)
theorem plc_of {p : Nat} (h : lk E j = some p) : plc E j = p := by
  unfold plc
  rw [h]
  rfl
end BIA
theorem dz_tagOf {g : xe_G} {M : mi_H} {f : Nat → Int32} {n N q : Nat} {E : List (Nat × Nat)} {k : Int32}  (hV : PV g f n N E q M) (h0 : tg f E 0 = 0) : pt (mT g) 138 [.ref q, .int k] M (fun v M' => (v = some (.int (nI (tg f E k.toNatClampNeg))) ∧ M = M')) := by
  obtain ⟨hL9, H, m, qq, F, cc, hP9, hT9, -, hb9, hVF, -⟩ := id hV
  exact (ct_tagOf hP9 (d := 3) (by decide)).pt.mono (fun v M' h => ⟨by rw [h.1, hVF.tagR hb9.1 h0], h.2.symm⟩)
theorem dz_tagPlace {g : xe_G} {M : mi_H} {f : Nat → Int32} {n N q : Nat} {E : List (Nat × Nat)} {k : Int32}  (hV : PV g f n N E q M) : pt (mT g) 139 [.ref q, .int k] M (fun v M' => (∃ (x : Int32), v = some (.int x) ∧ M = M')) := by
  obtain ⟨hL9, H, m, qq, F, cc, hP9, hT9, -, hb9, hVF, -⟩ := id hV
  exact (ct_tagPlace hP9 (d := 3) (by decide)).pt.mono (fun v M' h => ⟨_, h.1, h.2.symm⟩)
set_option maxHeartbeats 1000000 in
theorem dk_bits0 {g : xe_G} {M : mi_H} {o ca fl : Nat} {cn wp k : Int32} (h_o : M.1 o = some (ob 11 [.ref ca, .int cn, .ref fl, .null, .int wp]))  : pt (mT g) 1 [.ref o, .int k] M (fun v M' => (v = some (.long 0) ∧ M = M')) := by
  refine pt_in (b := mb_1 g) rfl (fun kf => ?_)
  show pl (mT g) kf (mb_1 g).2 (0, [(0, .ref o), (1, .int k)], [], M) _
  refine ps_st (S' := (1, [(0, .ref o), (1, .int k)], [.ref o], M)) rfl rfl rfl ?_
  refine ps_get (S' := (4, [(0, .ref o), (1, .int k)], [.null], M)) rfl h_o rfl rfl ?_
  refine ps_st (S' := (7, [(0, .ref o), (1, .int k)], [], M)) rfl rfl rfl ?_
  refine ps_st (S' := (8, [(0, .ref o), (1, .int k)], [.long 0], M)) rfl rfl rfl ?_
  exact ps_ret rfl rfl (⟨rfl, rfl⟩)
set_option maxHeartbeats 1000000 in
theorem dk_bitsT {g : xe_G} {M : mi_H} {f : Nat → Int32} {n N q : Nat} {E : List (Nat × Nat)} {o ca fl c b : Nat} {cn wp : Int32} {w : List Value} {k : Int32} (h_o : M.1 o = some (ob 11 [.ref ca, .int cn, .ref fl, .ref c, .int wp])) (h_c : M.1 c = some (ob 3 (.ref b :: .ref q :: w))) (hV : PV g f n N E q M) (h0 : tg f E 0 = 0) (ht : ¬ (3 ≤ tg f E k.toNatClampNeg ∧ tg f E k.toNatClampNeg ≤ 6)) : pt (mT g) 1 [.ref o, .int k] M (fun v M' => (v = some (.long 0) ∧ M = M')) := by
  refine pt_in (b := mb_1 g) rfl (fun kf => ?_)
  show pl (mT g) kf (mb_1 g).2 (0, [(0, .ref o), (1, .int k)], [], M) _
  obtain ⟨hL9, H, m, qq, F, cc, hP9, -, -, hb9, -⟩ := id hV
  have h_q := hP9.1
  have hN9 := hb9.2.2.1
  have htl9 := tg_lt f E k.toNatClampNeg
  refine ps_st (S' := (1, [(0, .ref o), (1, .int k)], [.ref o], M)) rfl rfl rfl ?_
  refine ps_get (S' := (4, [(0, .ref o), (1, .int k)], [.ref c], M)) rfl h_o rfl rfl ?_
  refine ps_st (S' := (9, [(0, .ref o), (1, .int k)], [], M)) rfl rfl rfl ?_
  refine ps_st (S' := (10, [(0, .ref o), (1, .int k)], [.ref o], M)) rfl rfl rfl ?_
  refine ps_get (S' := (13, [(0, .ref o), (1, .int k)], [.ref c], M)) rfl h_o rfl rfl ?_
  refine ps_get (S' := (16, [(0, .ref o), (1, .int k)], [.ref q], M)) rfl h_c rfl rfl ?_
  refine ps_st (S' := (17, [(0, .ref o), (1, .int k)], [.int k, .ref q], M)) rfl rfl rfl ?_
  refine pl_call (a := [.ref q, .int k]) (rest := []) rfl rfl rfl (dz_tagOf (f := f) (n := n) (N := N) (q := q) (E := E) (k := k) (hV) (h0)) (fun v1 M2 q3 => ?_)
  obtain ⟨rfl, rfl⟩ := q3
  show pl _ _ _ (20, [(0, .ref o), (1, .int k)], [.int (nI (tg f E k.toNatClampNeg))], M) _
  refine ps_st (S' := (21, [(2, .int (nI (tg f E k.toNatClampNeg))), (0, .ref o), (1, .int k)], [], M)) rfl rfl rfl ?_
  refine ps_st (S' := (22, [(2, .int (nI (tg f E k.toNatClampNeg))), (0, .ref o), (1, .int k)], [.ref o], M)) rfl rfl rfl ?_
  refine ps_get (S' := (25, [(2, .int (nI (tg f E k.toNatClampNeg))), (0, .ref o), (1, .int k)], [.ref c], M)) rfl h_o rfl rfl ?_
  refine ps_get (S' := (28, [(2, .int (nI (tg f E k.toNatClampNeg))), (0, .ref o), (1, .int k)], [.ref q], M)) rfl h_c rfl rfl ?_
  refine ps_st (S' := (29, [(2, .int (nI (tg f E k.toNatClampNeg))), (0, .ref o), (1, .int k)], [.int k, .ref q], M)) rfl rfl rfl ?_
  refine pl_call (a := [.ref q, .int k]) (rest := []) rfl rfl rfl (dz_tagPlace (f := f) (n := n) (N := N) (q := q) (E := E) (k := k) (hV)) (fun v4 M5 q6 => ?_)
  obtain ⟨x7, rfl, rfl⟩ := q6
  show pl _ _ _ (32, [(2, .int (nI (tg f E k.toNatClampNeg))), (0, .ref o), (1, .int k)], [.int x7], M) _
  refine ps_st (S' := (33, [(2, .int (nI (tg f E k.toNatClampNeg))), (0, .ref o), (1, .int k)], [.int 1, .int x7], M)) rfl rfl rfl ?_
  refine ps_st (S' := (34, [(2, .int (nI (tg f E k.toNatClampNeg))), (0, .ref o), (1, .int k)], [.int (x7 + 1)], M)) rfl rfl rfl ?_
  refine ps_st (S' := (35, [(3, .int (x7 + 1)), (2, .int (nI (tg f E k.toNatClampNeg))), (0, .ref o), (1, .int k)], [], M)) rfl rfl rfl ?_
  refine ps_st (S' := (36, [(3, .int (x7 + 1)), (2, .int (nI (tg f E k.toNatClampNeg))), (0, .ref o), (1, .int k)], [.int (nI (tg f E k.toNatClampNeg))], M)) rfl rfl rfl ?_
  refine ps_st (S' := (37, [(3, .int (x7 + 1)), (2, .int (nI (tg f E k.toNatClampNeg))), (0, .ref o), (1, .int k)], [.int 3, .int (nI (tg f E k.toNatClampNeg))], M)) rfl rfl rfl ?_
  refine ps_if2 (S1 := (45, [(0, .ref o), (3, .int (x7 + 1))], [], M)) (S2 := (40, [(3, .int (x7 + 1)), (2, .int (nI (tg f E k.toNatClampNeg))), (0, .ref o), (1, .int k)], [], M)) rfl rfl rfl (fun c_37 => ?_) (fun c_37 => ?_)
  · exact absurd (of_decide_eq_true c_37) (fun h9 => ht (by have h8 := (eq_nI (p := tg f E k.toNatClampNeg) (n := 3) (by omega) (by decide)).mp h9; omega))
  refine ps_st (S' := (41, [(3, .int (x7 + 1)), (2, .int (nI (tg f E k.toNatClampNeg))), (0, .ref o), (1, .int k)], [.int (nI (tg f E k.toNatClampNeg))], M)) rfl rfl rfl ?_
  refine ps_st (S' := (42, [(3, .int (x7 + 1)), (2, .int (nI (tg f E k.toNatClampNeg))), (0, .ref o), (1, .int k)], [.int 4, .int (nI (tg f E k.toNatClampNeg))], M)) rfl rfl rfl ?_
  refine ps_if2 (S1 := (58, [(3, .int (x7 + 1)), (2, .int (nI (tg f E k.toNatClampNeg))), (0, .ref o), (1, .int k)], [], M)) (S2 := (45, [(0, .ref o), (3, .int (x7 + 1))], [], M)) rfl rfl rfl (fun c_42 => ?_) (fun c_42 => ?_)
  rotate_left
  · exact absurd (show ¬ (nI (tg f E k.toNatClampNeg)) = 4 from fun h9 => ht (by have h8 := (eq_nI (p := tg f E k.toNatClampNeg) (n := 4) (by omega) (by decide)).mp h9; omega)) (of_decide_eq_false c_42)
  refine ps_st (S' := (59, [(3, .int (x7 + 1)), (2, .int (nI (tg f E k.toNatClampNeg))), (0, .ref o), (1, .int k)], [.int (nI (tg f E k.toNatClampNeg))], M)) rfl rfl rfl ?_
  refine ps_st (S' := (60, [(3, .int (x7 + 1)), (2, .int (nI (tg f E k.toNatClampNeg))), (0, .ref o), (1, .int k)], [.int 5, .int (nI (tg f E k.toNatClampNeg))], M)) rfl rfl rfl ?_
  refine ps_if2 (S1 := (69, [(0, .ref o), (3, .int (x7 + 1))], [], M)) (S2 := (63, [(3, .int (x7 + 1)), (2, .int (nI (tg f E k.toNatClampNeg))), (0, .ref o), (1, .int k)], [], M)) rfl rfl rfl (fun c_60 => ?_) (fun c_60 => ?_)
  · exact absurd (of_decide_eq_true c_60) (fun h9 => ht (by have h8 := (eq_nI (p := tg f E k.toNatClampNeg) (n := 5) (by omega) (by decide)).mp h9; omega))
  refine ps_st (S' := (64, [(3, .int (x7 + 1)), (2, .int (nI (tg f E k.toNatClampNeg))), (0, .ref o), (1, .int k)], [.int (nI (tg f E k.toNatClampNeg))], M)) rfl rfl rfl ?_
  refine ps_st (S' := (66, [(3, .int (x7 + 1)), (2, .int (nI (tg f E k.toNatClampNeg))), (0, .ref o), (1, .int k)], [.int 6, .int (nI (tg f E k.toNatClampNeg))], M)) rfl rfl rfl ?_
  refine ps_if2 (S1 := (104, [(3, .int (x7 + 1)), (2, .int (nI (tg f E k.toNatClampNeg))), (0, .ref o), (1, .int k)], [], M)) (S2 := (69, [(0, .ref o), (3, .int (x7 + 1))], [], M)) rfl rfl rfl (fun c_66 => ?_) (fun c_66 => ?_)
  rotate_left
  · exact absurd (show ¬ (nI (tg f E k.toNatClampNeg)) = 6 from fun h9 => ht (by have h8 := (eq_nI (p := tg f E k.toNatClampNeg) (n := 6) (by omega) (by decide)).mp h9; omega)) (of_decide_eq_false c_66)
  refine ps_st (S' := (105, [(3, .int (x7 + 1)), (2, .int (nI (tg f E k.toNatClampNeg))), (0, .ref o), (1, .int k)], [.long 0], M)) rfl rfl rfl ?_
  exact ps_ret rfl rfl (⟨rfl, rfl⟩)
set_option maxHeartbeats 1000000 in
theorem dk_bits4 {g : xe_G} {M : mi_H} {f : Nat → Int32} {n N q : Nat} {E : List (Nat × Nat)} {o ca fl c b : Nat} {cn wp : Int32} {w : List Value} {da j p : Nat} (h_o : M.1 o = some (ob 11 [.ref ca, .int cn, .ref fl, .ref c, .int wp])) (h_c : M.1 c = some (ob 3 (.ref b :: .ref q :: w))) (h_b : M.1 b = some (ob 1 [.ref da])) (h_da : M.1 da = some (ar .byte n f)) (hV : PV g f n N E q M) (hj : j < 65536) (hn : n ≤ 65540) (hp : lk E j = some p) (htt : tg f E j = 3 ∨ tg f E j = 4) (hin : p + 5 ≤ n) : pt (mT g) 1 [.ref o, .int (nI j)] M (fun v M' => (v = some (.long (bL4 f p)) ∧ M = M')) := by
  refine pt_in (b := mb_1 g) rfl (fun kf => ?_)
  show pl (mT g) kf (mb_1 g).2 (0, [(0, .ref o), (1, .int (nI j))], [], M) _
  obtain ⟨hL9, H, m, qq, F, cc, hP9, -, -, hb9, -⟩ := id hV
  have h_q := hP9.1
  have hN9 := hb9.2.2.1
  have htl9 := tg_lt f E j
  refine ps_st (S' := (1, [(0, .ref o), (1, .int (nI j))], [.ref o], M)) rfl rfl rfl ?_
  refine ps_get (S' := (4, [(0, .ref o), (1, .int (nI j))], [.ref c], M)) rfl h_o rfl rfl ?_
  refine ps_st (S' := (9, [(0, .ref o), (1, .int (nI j))], [], M)) rfl rfl rfl ?_
  refine ps_st (S' := (10, [(0, .ref o), (1, .int (nI j))], [.ref o], M)) rfl rfl rfl ?_
  refine ps_get (S' := (13, [(0, .ref o), (1, .int (nI j))], [.ref c], M)) rfl h_o rfl rfl ?_
  refine ps_get (S' := (16, [(0, .ref o), (1, .int (nI j))], [.ref q], M)) rfl h_c rfl rfl ?_
  refine ps_st (S' := (17, [(0, .ref o), (1, .int (nI j))], [.int (nI j), .ref q], M)) rfl rfl rfl ?_
  refine pl_call (a := [.ref q, .int (nI j)]) (rest := []) rfl rfl rfl (dy_tagOf (f := f) (n := n) (N := N) (q := q) (E := E) (j := j) (hV) (hj)) (fun v1 M2 q3 => ?_)
  obtain ⟨rfl, rfl⟩ := q3
  show pl _ _ _ (20, [(0, .ref o), (1, .int (nI j))], [.int (nI (tg f E j))], M) _
  refine ps_st (S' := (21, [(2, .int (nI (tg f E j))), (0, .ref o), (1, .int (nI j))], [], M)) rfl rfl rfl ?_
  refine ps_st (S' := (22, [(2, .int (nI (tg f E j))), (0, .ref o), (1, .int (nI j))], [.ref o], M)) rfl rfl rfl ?_
  refine ps_get (S' := (25, [(2, .int (nI (tg f E j))), (0, .ref o), (1, .int (nI j))], [.ref c], M)) rfl h_o rfl rfl ?_
  refine ps_get (S' := (28, [(2, .int (nI (tg f E j))), (0, .ref o), (1, .int (nI j))], [.ref q], M)) rfl h_c rfl rfl ?_
  refine ps_st (S' := (29, [(2, .int (nI (tg f E j))), (0, .ref o), (1, .int (nI j))], [.int (nI j), .ref q], M)) rfl rfl rfl ?_
  refine pl_call (a := [.ref q, .int (nI j)]) (rest := []) rfl rfl rfl (dy_tagPlace (f := f) (n := n) (N := N) (q := q) (E := E) (j := j) (p := p) (hV) (hj) (hp) (by omega)) (fun v4 M5 q6 => ?_)
  obtain ⟨rfl, rfl⟩ := q6
  show pl _ _ _ (32, [(2, .int (nI (tg f E j))), (0, .ref o), (1, .int (nI j))], [.int (nI (p))], M) _
  refine ps_st (S' := (33, [(2, .int (nI (tg f E j))), (0, .ref o), (1, .int (nI j))], [.int 1, .int (nI (p))], M)) rfl rfl rfl ?_
  refine ps_st (S' := (34, [(2, .int (nI (tg f E j))), (0, .ref o), (1, .int (nI j))], [.int ((nI (p)) + 1)], M)) rfl rfl rfl ?_
  rw [nI_add1 (p := p) (k := 1) (x := 1) rfl (by omega)]
  show pl _ _ _ (_, [(2, .int (nI (tg f E j))), (0, .ref o), (1, .int (nI j))], [.int (nI (p + 1))], M) _
  refine ps_st (S' := (35, [(3, .int (nI (p + 1))), (2, .int (nI (tg f E j))), (0, .ref o), (1, .int (nI j))], [], M)) rfl rfl rfl ?_
  refine ps_st (S' := (36, [(3, .int (nI (p + 1))), (2, .int (nI (tg f E j))), (0, .ref o), (1, .int (nI j))], [.int (nI (tg f E j))], M)) rfl rfl rfl ?_
  refine ps_st (S' := (37, [(3, .int (nI (p + 1))), (2, .int (nI (tg f E j))), (0, .ref o), (1, .int (nI j))], [.int 3, .int (nI (tg f E j))], M)) rfl rfl rfl ?_
  refine ps_if2 (S1 := (45, [(0, .ref o), (3, .int (nI (p + 1)))], [], M)) (S2 := (40, [(3, .int (nI (p + 1))), (2, .int (nI (tg f E j))), (0, .ref o), (1, .int (nI j))], [], M)) rfl rfl rfl (fun c_37 => ?_) (fun c_37 => ?_)
  · have c_37 : (nI (tg f E j)) = 3 := of_decide_eq_true c_37
    have n_37 : tg f E j = 3 := (eq_nI (p := tg f E j) (n := 3) (Nat.lt_trans (tg_lt _ _ _) (by decide)) (by decide)).mp c_37
    refine ps_st (S' := (46, [(0, .ref o), (3, .int (nI (p + 1)))], [.ref o], M)) rfl rfl rfl ?_
    refine ps_get (S' := (49, [(0, .ref o), (3, .int (nI (p + 1)))], [.ref c], M)) rfl h_o rfl rfl ?_
    refine ps_get (S' := (52, [(0, .ref o), (3, .int (nI (p + 1)))], [.ref b], M)) rfl h_c rfl rfl ?_
    refine ps_st (S' := (53, [(0, .ref o), (3, .int (nI (p + 1)))], [.int (nI (p + 1)), .ref b], M)) rfl rfl rfl ?_
    refine pl_call (a := [.ref b, .int (nI (p + 1))]) (rest := []) rfl rfl rfl (dk_u4 (f := f) (n := n) (b := b) (da := da) (p := (p + 1)) h_b h_da (hn) (by omega)) (fun v7 M8 q9 => ?_)
    obtain ⟨rfl, rfl⟩ := q9
    show pl _ _ _ (56, [(0, .ref o), (3, .int (nI (p + 1)))], [.int (nI (by4 f (p + 1)))], M) _
    refine ps_st (S' := (57, [(0, .ref o), (3, .int (nI (p + 1)))], [.long (Int32.toInt64 (nI (by4 f (p + 1))))], M)) rfl rfl rfl ?_
    exact ps_ret rfl rfl (⟨rfl, rfl⟩)
  · have c_37 : ¬ ((nI (tg f E j)) = 3) := of_decide_eq_false c_37
    have n_37 : ¬ (tg f E j = 3) := fun h9 => c_37 ((eq_nI (p := tg f E j) (n := 3) (Nat.lt_trans (tg_lt _ _ _) (by decide)) (by decide)).mpr h9)
    refine ps_st (S' := (41, [(3, .int (nI (p + 1))), (2, .int (nI (tg f E j))), (0, .ref o), (1, .int (nI j))], [.int (nI (tg f E j))], M)) rfl rfl rfl ?_
    refine ps_st (S' := (42, [(3, .int (nI (p + 1))), (2, .int (nI (tg f E j))), (0, .ref o), (1, .int (nI j))], [.int 4, .int (nI (tg f E j))], M)) rfl rfl rfl ?_
    refine ps_if2 (S1 := (58, [(3, .int (nI (p + 1))), (2, .int (nI (tg f E j))), (0, .ref o), (1, .int (nI j))], [], M)) (S2 := (45, [(0, .ref o), (3, .int (nI (p + 1)))], [], M)) rfl rfl rfl (fun c_42 => ?_) (fun c_42 => ?_)
    · exact absurd (of_decide_eq_true c_42) (fun h9 => h9 ((eq_nI (p := tg f E j) (n := 4) (Nat.lt_trans (tg_lt _ _ _) (by decide)) (by decide)).mpr (by omega)))
    refine ps_st (S' := (46, [(0, .ref o), (3, .int (nI (p + 1)))], [.ref o], M)) rfl rfl rfl ?_
    refine ps_get (S' := (49, [(0, .ref o), (3, .int (nI (p + 1)))], [.ref c], M)) rfl h_o rfl rfl ?_
    refine ps_get (S' := (52, [(0, .ref o), (3, .int (nI (p + 1)))], [.ref b], M)) rfl h_c rfl rfl ?_
    refine ps_st (S' := (53, [(0, .ref o), (3, .int (nI (p + 1)))], [.int (nI (p + 1)), .ref b], M)) rfl rfl rfl ?_
    refine pl_call (a := [.ref b, .int (nI (p + 1))]) (rest := []) rfl rfl rfl (dk_u4 (f := f) (n := n) (b := b) (da := da) (p := (p + 1)) h_b h_da (hn) (by omega)) (fun v10 M11 q12 => ?_)
    obtain ⟨rfl, rfl⟩ := q12
    show pl _ _ _ (56, [(0, .ref o), (3, .int (nI (p + 1)))], [.int (nI (by4 f (p + 1)))], M) _
    refine ps_st (S' := (57, [(0, .ref o), (3, .int (nI (p + 1)))], [.long (Int32.toInt64 (nI (by4 f (p + 1))))], M)) rfl rfl rfl ?_
    exact ps_ret rfl rfl (⟨rfl, rfl⟩)
set_option maxHeartbeats 1000000 in
theorem dk_bits8 {g : xe_G} {M : mi_H} {f : Nat → Int32} {n N q : Nat} {E : List (Nat × Nat)} {o ca fl c b : Nat} {cn wp : Int32} {w : List Value} {da j p : Nat} (h_o : M.1 o = some (ob 11 [.ref ca, .int cn, .ref fl, .ref c, .int wp])) (h_c : M.1 c = some (ob 3 (.ref b :: .ref q :: w))) (h_b : M.1 b = some (ob 1 [.ref da])) (h_da : M.1 da = some (ar .byte n f)) (hV : PV g f n N E q M) (hj : j < 65536) (hn : n ≤ 65540) (hp : lk E j = some p) (htt : tg f E j = 5 ∨ tg f E j = 6) (hin : p + 9 ≤ n) : pt (mT g) 1 [.ref o, .int (nI j)] M (fun v M' => (v = some (.long (bL8 f p)) ∧ M = M')) := by
  refine pt_in (b := mb_1 g) rfl (fun kf => ?_)
  show pl (mT g) kf (mb_1 g).2 (0, [(0, .ref o), (1, .int (nI j))], [], M) _
  obtain ⟨hL9, H, m, qq, F, cc, hP9, -, -, hb9, -⟩ := id hV
  have h_q := hP9.1
  have hN9 := hb9.2.2.1
  have htl9 := tg_lt f E j
  refine ps_st (S' := (1, [(0, .ref o), (1, .int (nI j))], [.ref o], M)) rfl rfl rfl ?_
  refine ps_get (S' := (4, [(0, .ref o), (1, .int (nI j))], [.ref c], M)) rfl h_o rfl rfl ?_
  refine ps_st (S' := (9, [(0, .ref o), (1, .int (nI j))], [], M)) rfl rfl rfl ?_
  refine ps_st (S' := (10, [(0, .ref o), (1, .int (nI j))], [.ref o], M)) rfl rfl rfl ?_
  refine ps_get (S' := (13, [(0, .ref o), (1, .int (nI j))], [.ref c], M)) rfl h_o rfl rfl ?_
  refine ps_get (S' := (16, [(0, .ref o), (1, .int (nI j))], [.ref q], M)) rfl h_c rfl rfl ?_
  refine ps_st (S' := (17, [(0, .ref o), (1, .int (nI j))], [.int (nI j), .ref q], M)) rfl rfl rfl ?_
  refine pl_call (a := [.ref q, .int (nI j)]) (rest := []) rfl rfl rfl (dy_tagOf (f := f) (n := n) (N := N) (q := q) (E := E) (j := j) (hV) (hj)) (fun v1 M2 q3 => ?_)
  obtain ⟨rfl, rfl⟩ := q3
  show pl _ _ _ (20, [(0, .ref o), (1, .int (nI j))], [.int (nI (tg f E j))], M) _
  refine ps_st (S' := (21, [(2, .int (nI (tg f E j))), (0, .ref o), (1, .int (nI j))], [], M)) rfl rfl rfl ?_
  refine ps_st (S' := (22, [(2, .int (nI (tg f E j))), (0, .ref o), (1, .int (nI j))], [.ref o], M)) rfl rfl rfl ?_
  refine ps_get (S' := (25, [(2, .int (nI (tg f E j))), (0, .ref o), (1, .int (nI j))], [.ref c], M)) rfl h_o rfl rfl ?_
  refine ps_get (S' := (28, [(2, .int (nI (tg f E j))), (0, .ref o), (1, .int (nI j))], [.ref q], M)) rfl h_c rfl rfl ?_
  refine ps_st (S' := (29, [(2, .int (nI (tg f E j))), (0, .ref o), (1, .int (nI j))], [.int (nI j), .ref q], M)) rfl rfl rfl ?_
  refine pl_call (a := [.ref q, .int (nI j)]) (rest := []) rfl rfl rfl (dy_tagPlace (f := f) (n := n) (N := N) (q := q) (E := E) (j := j) (p := p) (hV) (hj) (hp) (by omega)) (fun v4 M5 q6 => ?_)
  obtain ⟨rfl, rfl⟩ := q6
  show pl _ _ _ (32, [(2, .int (nI (tg f E j))), (0, .ref o), (1, .int (nI j))], [.int (nI (p))], M) _
  refine ps_st (S' := (33, [(2, .int (nI (tg f E j))), (0, .ref o), (1, .int (nI j))], [.int 1, .int (nI (p))], M)) rfl rfl rfl ?_
  refine ps_st (S' := (34, [(2, .int (nI (tg f E j))), (0, .ref o), (1, .int (nI j))], [.int ((nI (p)) + 1)], M)) rfl rfl rfl ?_
  rw [nI_add1 (p := p) (k := 1) (x := 1) rfl (by omega)]
  show pl _ _ _ (_, [(2, .int (nI (tg f E j))), (0, .ref o), (1, .int (nI j))], [.int (nI (p + 1))], M) _
  refine ps_st (S' := (35, [(3, .int (nI (p + 1))), (2, .int (nI (tg f E j))), (0, .ref o), (1, .int (nI j))], [], M)) rfl rfl rfl ?_
  refine ps_st (S' := (36, [(3, .int (nI (p + 1))), (2, .int (nI (tg f E j))), (0, .ref o), (1, .int (nI j))], [.int (nI (tg f E j))], M)) rfl rfl rfl ?_
  refine ps_st (S' := (37, [(3, .int (nI (p + 1))), (2, .int (nI (tg f E j))), (0, .ref o), (1, .int (nI j))], [.int 3, .int (nI (tg f E j))], M)) rfl rfl rfl ?_
  refine ps_if2 (S1 := (45, [(0, .ref o), (3, .int (nI (p + 1)))], [], M)) (S2 := (40, [(3, .int (nI (p + 1))), (2, .int (nI (tg f E j))), (0, .ref o), (1, .int (nI j))], [], M)) rfl rfl rfl (fun c_37 => ?_) (fun c_37 => ?_)
  · exact absurd (of_decide_eq_true c_37) (show ¬ ((nI (tg f E j)) = 3) from fun h9 => absurd ((eq_nI (p := tg f E j) (n := 3) (Nat.lt_trans (tg_lt _ _ _) (by decide)) (by decide)).mp h9) (by omega))
  refine ps_st (S' := (41, [(3, .int (nI (p + 1))), (2, .int (nI (tg f E j))), (0, .ref o), (1, .int (nI j))], [.int (nI (tg f E j))], M)) rfl rfl rfl ?_
  refine ps_st (S' := (42, [(3, .int (nI (p + 1))), (2, .int (nI (tg f E j))), (0, .ref o), (1, .int (nI j))], [.int 4, .int (nI (tg f E j))], M)) rfl rfl rfl ?_
  refine ps_if2 (S1 := (58, [(3, .int (nI (p + 1))), (2, .int (nI (tg f E j))), (0, .ref o), (1, .int (nI j))], [], M)) (S2 := (45, [(0, .ref o), (3, .int (nI (p + 1)))], [], M)) rfl rfl rfl (fun c_42 => ?_) (fun c_42 => ?_)
  rotate_left
  · exact absurd (show ¬ ((nI (tg f E j)) = 4) from fun h9 => absurd ((eq_nI (p := tg f E j) (n := 4) (Nat.lt_trans (tg_lt _ _ _) (by decide)) (by decide)).mp h9) (by omega)) (of_decide_eq_false c_42)
  refine ps_st (S' := (59, [(3, .int (nI (p + 1))), (2, .int (nI (tg f E j))), (0, .ref o), (1, .int (nI j))], [.int (nI (tg f E j))], M)) rfl rfl rfl ?_
  refine ps_st (S' := (60, [(3, .int (nI (p + 1))), (2, .int (nI (tg f E j))), (0, .ref o), (1, .int (nI j))], [.int 5, .int (nI (tg f E j))], M)) rfl rfl rfl ?_
  refine ps_if2 (S1 := (69, [(0, .ref o), (3, .int (nI (p + 1)))], [], M)) (S2 := (63, [(3, .int (nI (p + 1))), (2, .int (nI (tg f E j))), (0, .ref o), (1, .int (nI j))], [], M)) rfl rfl rfl (fun c_60 => ?_) (fun c_60 => ?_)
  · have c_60 : (nI (tg f E j)) = 5 := of_decide_eq_true c_60
    have n_60 : tg f E j = 5 := (eq_nI (p := tg f E j) (n := 5) (Nat.lt_trans (tg_lt _ _ _) (by decide)) (by decide)).mp c_60
    refine ps_st (S' := (70, [(0, .ref o), (3, .int (nI (p + 1)))], [.ref o], M)) rfl rfl rfl ?_
    refine ps_get (S' := (73, [(0, .ref o), (3, .int (nI (p + 1)))], [.ref c], M)) rfl h_o rfl rfl ?_
    refine ps_get (S' := (76, [(0, .ref o), (3, .int (nI (p + 1)))], [.ref b], M)) rfl h_c rfl rfl ?_
    refine ps_st (S' := (77, [(0, .ref o), (3, .int (nI (p + 1)))], [.int (nI (p + 1)), .ref b], M)) rfl rfl rfl ?_
    refine pl_call (a := [.ref b, .int (nI (p + 1))]) (rest := []) rfl rfl rfl (dk_u4 (f := f) (n := n) (b := b) (da := da) (p := (p + 1)) h_b h_da (hn) (by omega)) (fun v7 M8 q9 => ?_)
    obtain ⟨rfl, rfl⟩ := q9
    show pl _ _ _ (80, [(0, .ref o), (3, .int (nI (p + 1)))], [.int (nI (by4 f (p + 1)))], M) _
    refine ps_st (S' := (81, [(0, .ref o), (3, .int (nI (p + 1)))], [.long (Int32.toInt64 (nI (by4 f (p + 1))))], M)) rfl rfl rfl ?_
    refine ps_st (S' := (83, [(0, .ref o), (3, .int (nI (p + 1)))], [.int 32, .long (Int32.toInt64 (nI (by4 f (p + 1))))], M)) rfl rfl rfl ?_
    refine ps_st (S' := (84, [(0, .ref o), (3, .int (nI (p + 1)))], [.long ((Int32.toInt64 (nI (by4 f (p + 1)))) <<< (Int32.toInt64 32 &&& 63))], M)) rfl rfl rfl ?_
    refine ps_st (S' := (85, [(0, .ref o), (3, .int (nI (p + 1)))], [.ref o, .long ((Int32.toInt64 (nI (by4 f (p + 1)))) <<< (Int32.toInt64 32 &&& 63))], M)) rfl rfl rfl ?_
    refine ps_get (S' := (88, [(0, .ref o), (3, .int (nI (p + 1)))], [.ref c, .long ((Int32.toInt64 (nI (by4 f (p + 1)))) <<< (Int32.toInt64 32 &&& 63))], M)) rfl h_o rfl rfl ?_
    refine ps_get (S' := (91, [(0, .ref o), (3, .int (nI (p + 1)))], [.ref b, .long ((Int32.toInt64 (nI (by4 f (p + 1)))) <<< (Int32.toInt64 32 &&& 63))], M)) rfl h_c rfl rfl ?_
    refine ps_st (S' := (92, [(0, .ref o), (3, .int (nI (p + 1)))], [.int (nI (p + 1)), .ref b, .long ((Int32.toInt64 (nI (by4 f (p + 1)))) <<< (Int32.toInt64 32 &&& 63))], M)) rfl rfl rfl ?_
    refine ps_st (S' := (93, [(0, .ref o), (3, .int (nI (p + 1)))], [.int 4, .int (nI (p + 1)), .ref b, .long ((Int32.toInt64 (nI (by4 f (p + 1)))) <<< (Int32.toInt64 32 &&& 63))], M)) rfl rfl rfl ?_
    refine ps_st (S' := (94, [(0, .ref o), (3, .int (nI (p + 1)))], [.int ((nI (p + 1)) + 4), .ref b, .long ((Int32.toInt64 (nI (by4 f (p + 1)))) <<< (Int32.toInt64 32 &&& 63))], M)) rfl rfl rfl ?_
    rw [nI_add1 (p := p + 1) (k := 4) (x := 4) rfl (by omega)]
    show pl _ _ _ (_, [(0, .ref o), (3, .int (nI (p + 1)))], [.int (nI (p + 5)), .ref b, .long ((Int32.toInt64 (nI (by4 f (p + 1)))) <<< (Int32.toInt64 32 &&& 63))], M) _
    refine pl_call (a := [.ref b, .int (nI (p + 5))]) (rest := [.long ((Int32.toInt64 (nI (by4 f (p + 1)))) <<< (Int32.toInt64 32 &&& 63))]) rfl rfl rfl (dk_u4 (f := f) (n := n) (b := b) (da := da) (p := (p + 5)) h_b h_da (hn) (by omega)) (fun v10 M11 q12 => ?_)
    obtain ⟨rfl, rfl⟩ := q12
    show pl _ _ _ (97, [(0, .ref o), (3, .int (nI (p + 1)))], [.int (nI (by4 f (p + 5))), .long ((Int32.toInt64 (nI (by4 f (p + 1)))) <<< (Int32.toInt64 32 &&& 63))], M) _
    refine ps_st (S' := (98, [(0, .ref o), (3, .int (nI (p + 1)))], [.long (Int32.toInt64 (nI (by4 f (p + 5)))), .long ((Int32.toInt64 (nI (by4 f (p + 1)))) <<< (Int32.toInt64 32 &&& 63))], M)) rfl rfl rfl ?_
    refine ps_st (S' := (101, [(0, .ref o), (3, .int (nI (p + 1)))], [.long 4294967295, .long (Int32.toInt64 (nI (by4 f (p + 5)))), .long ((Int32.toInt64 (nI (by4 f (p + 1)))) <<< (Int32.toInt64 32 &&& 63))], M)) rfl rfl rfl ?_
    refine ps_st (S' := (102, [(0, .ref o), (3, .int (nI (p + 1)))], [.long ((Int32.toInt64 (nI (by4 f (p + 5)))) &&& 4294967295), .long ((Int32.toInt64 (nI (by4 f (p + 1)))) <<< (Int32.toInt64 32 &&& 63))], M)) rfl rfl rfl ?_
    refine ps_st (S' := (103, [(0, .ref o), (3, .int (nI (p + 1)))], [.long (((Int32.toInt64 (nI (by4 f (p + 1)))) <<< (Int32.toInt64 32 &&& 63)) ||| ((Int32.toInt64 (nI (by4 f (p + 5)))) &&& 4294967295))], M)) rfl rfl rfl ?_
    exact ps_ret rfl rfl (⟨congrArg (fun x => some (Value.long x)) (bits8 (by4_lt _ _) (by4_lt _ _)), rfl⟩)
  · have c_60 : ¬ ((nI (tg f E j)) = 5) := of_decide_eq_false c_60
    have n_60 : ¬ (tg f E j = 5) := fun h9 => c_60 ((eq_nI (p := tg f E j) (n := 5) (Nat.lt_trans (tg_lt _ _ _) (by decide)) (by decide)).mpr h9)
    refine ps_st (S' := (64, [(3, .int (nI (p + 1))), (2, .int (nI (tg f E j))), (0, .ref o), (1, .int (nI j))], [.int (nI (tg f E j))], M)) rfl rfl rfl ?_
    refine ps_st (S' := (66, [(3, .int (nI (p + 1))), (2, .int (nI (tg f E j))), (0, .ref o), (1, .int (nI j))], [.int 6, .int (nI (tg f E j))], M)) rfl rfl rfl ?_
    refine ps_if2 (S1 := (104, [(3, .int (nI (p + 1))), (2, .int (nI (tg f E j))), (0, .ref o), (1, .int (nI j))], [], M)) (S2 := (69, [(0, .ref o), (3, .int (nI (p + 1)))], [], M)) rfl rfl rfl (fun c_66 => ?_) (fun c_66 => ?_)
    · exact absurd (of_decide_eq_true c_66) (fun h9 => h9 ((eq_nI (p := tg f E j) (n := 6) (Nat.lt_trans (tg_lt _ _ _) (by decide)) (by decide)).mpr (by omega)))
    refine ps_st (S' := (70, [(0, .ref o), (3, .int (nI (p + 1)))], [.ref o], M)) rfl rfl rfl ?_
    refine ps_get (S' := (73, [(0, .ref o), (3, .int (nI (p + 1)))], [.ref c], M)) rfl h_o rfl rfl ?_
    refine ps_get (S' := (76, [(0, .ref o), (3, .int (nI (p + 1)))], [.ref b], M)) rfl h_c rfl rfl ?_
    refine ps_st (S' := (77, [(0, .ref o), (3, .int (nI (p + 1)))], [.int (nI (p + 1)), .ref b], M)) rfl rfl rfl ?_
    refine pl_call (a := [.ref b, .int (nI (p + 1))]) (rest := []) rfl rfl rfl (dk_u4 (f := f) (n := n) (b := b) (da := da) (p := (p + 1)) h_b h_da (hn) (by omega)) (fun v13 M14 q15 => ?_)
    obtain ⟨rfl, rfl⟩ := q15
    show pl _ _ _ (80, [(0, .ref o), (3, .int (nI (p + 1)))], [.int (nI (by4 f (p + 1)))], M) _
    refine ps_st (S' := (81, [(0, .ref o), (3, .int (nI (p + 1)))], [.long (Int32.toInt64 (nI (by4 f (p + 1))))], M)) rfl rfl rfl ?_
    refine ps_st (S' := (83, [(0, .ref o), (3, .int (nI (p + 1)))], [.int 32, .long (Int32.toInt64 (nI (by4 f (p + 1))))], M)) rfl rfl rfl ?_
    refine ps_st (S' := (84, [(0, .ref o), (3, .int (nI (p + 1)))], [.long ((Int32.toInt64 (nI (by4 f (p + 1)))) <<< (Int32.toInt64 32 &&& 63))], M)) rfl rfl rfl ?_
    refine ps_st (S' := (85, [(0, .ref o), (3, .int (nI (p + 1)))], [.ref o, .long ((Int32.toInt64 (nI (by4 f (p + 1)))) <<< (Int32.toInt64 32 &&& 63))], M)) rfl rfl rfl ?_
    refine ps_get (S' := (88, [(0, .ref o), (3, .int (nI (p + 1)))], [.ref c, .long ((Int32.toInt64 (nI (by4 f (p + 1)))) <<< (Int32.toInt64 32 &&& 63))], M)) rfl h_o rfl rfl ?_
    refine ps_get (S' := (91, [(0, .ref o), (3, .int (nI (p + 1)))], [.ref b, .long ((Int32.toInt64 (nI (by4 f (p + 1)))) <<< (Int32.toInt64 32 &&& 63))], M)) rfl h_c rfl rfl ?_
    refine ps_st (S' := (92, [(0, .ref o), (3, .int (nI (p + 1)))], [.int (nI (p + 1)), .ref b, .long ((Int32.toInt64 (nI (by4 f (p + 1)))) <<< (Int32.toInt64 32 &&& 63))], M)) rfl rfl rfl ?_
    refine ps_st (S' := (93, [(0, .ref o), (3, .int (nI (p + 1)))], [.int 4, .int (nI (p + 1)), .ref b, .long ((Int32.toInt64 (nI (by4 f (p + 1)))) <<< (Int32.toInt64 32 &&& 63))], M)) rfl rfl rfl ?_
    refine ps_st (S' := (94, [(0, .ref o), (3, .int (nI (p + 1)))], [.int ((nI (p + 1)) + 4), .ref b, .long ((Int32.toInt64 (nI (by4 f (p + 1)))) <<< (Int32.toInt64 32 &&& 63))], M)) rfl rfl rfl ?_
    rw [nI_add1 (p := p + 1) (k := 4) (x := 4) rfl (by omega)]
    show pl _ _ _ (_, [(0, .ref o), (3, .int (nI (p + 1)))], [.int (nI (p + 5)), .ref b, .long ((Int32.toInt64 (nI (by4 f (p + 1)))) <<< (Int32.toInt64 32 &&& 63))], M) _
    refine pl_call (a := [.ref b, .int (nI (p + 5))]) (rest := [.long ((Int32.toInt64 (nI (by4 f (p + 1)))) <<< (Int32.toInt64 32 &&& 63))]) rfl rfl rfl (dk_u4 (f := f) (n := n) (b := b) (da := da) (p := (p + 5)) h_b h_da (hn) (by omega)) (fun v16 M17 q18 => ?_)
    obtain ⟨rfl, rfl⟩ := q18
    show pl _ _ _ (97, [(0, .ref o), (3, .int (nI (p + 1)))], [.int (nI (by4 f (p + 5))), .long ((Int32.toInt64 (nI (by4 f (p + 1)))) <<< (Int32.toInt64 32 &&& 63))], M) _
    refine ps_st (S' := (98, [(0, .ref o), (3, .int (nI (p + 1)))], [.long (Int32.toInt64 (nI (by4 f (p + 5)))), .long ((Int32.toInt64 (nI (by4 f (p + 1)))) <<< (Int32.toInt64 32 &&& 63))], M)) rfl rfl rfl ?_
    refine ps_st (S' := (101, [(0, .ref o), (3, .int (nI (p + 1)))], [.long 4294967295, .long (Int32.toInt64 (nI (by4 f (p + 5)))), .long ((Int32.toInt64 (nI (by4 f (p + 1)))) <<< (Int32.toInt64 32 &&& 63))], M)) rfl rfl rfl ?_
    refine ps_st (S' := (102, [(0, .ref o), (3, .int (nI (p + 1)))], [.long ((Int32.toInt64 (nI (by4 f (p + 5)))) &&& 4294967295), .long ((Int32.toInt64 (nI (by4 f (p + 1)))) <<< (Int32.toInt64 32 &&& 63))], M)) rfl rfl rfl ?_
    refine ps_st (S' := (103, [(0, .ref o), (3, .int (nI (p + 1)))], [.long (((Int32.toInt64 (nI (by4 f (p + 1)))) <<< (Int32.toInt64 32 &&& 63)) ||| ((Int32.toInt64 (nI (by4 f (p + 5)))) &&& 4294967295))], M)) rfl rfl rfl ?_
    exact ps_ret rfl rfl (⟨congrArg (fun x => some (Value.long x)) (bits8 (by4_lt _ _) (by4_lt _ _)), rfl⟩)
theorem dk_bits {g : xe_G} {M : mi_H} {ko : Option (Nat × (Nat → Int32))} {kv : Value} {cm o fl : Nat} {cn wp k : Int32} (hx : M.1 o = some (ob 11 [.ref cm, .int cn, .ref fl, kv, .int wp])) (hK : KPC g ko kv cm M) : pt (mT g) 1 [.ref o, .int k] M (fun v M' => v = some (.long (biK ko k)) ∧ M = M') := by
  cases ko with
  | none =>
    have e : kv = .null := hK
    subst e
    exact dk_bits0 hx
  | some r =>
    obtain ⟨c, da, rfl, ⟨b, q, N, E, p1, pF, pM, pA, w, h1, h2, h3, h4, h5, rfl, h6, h7, -⟩, -, -⟩ := hK
    rw [biK_is h5]
    have hpl := whole_in h5
    have h0 := tg_0 hpl
    by_cases ht : 3 ≤ tg r.2 E k.toNatClampNeg ∧ tg r.2 E k.toNatClampNeg ≤ 6
    · have hk0 : ¬ k < 0 := fun h9 => by rw [i32_cl h9, h0] at ht; omega
      have e := i32_nn hk0
      unfold biI
      obtain ⟨j, ej⟩ : ∃ j, j = k.toNatClampNeg := ⟨_, rfl⟩
      rw [← ej] at e ht ⊢
      have hj : j < 65536 := by
        obtain ⟨hL9, H, m, qq, F, cc, hP9, hT9, -, hb9, hVF, -⟩ := id h4
        refine Nat.not_le.mp (fun h9 => ?_)
        have h8 := hVF.2.1 j (by omega)
        omega
      subst e
      obtain ⟨p, hk9, hb9⟩ := tg_lk (f := r.2) (E := E) (k := j) (by omega)
      obtain ⟨u1, u2⟩ := nums_of hpl hk9
      rw [plc_of hk9]
      by_cases h34 : tg r.2 E j = 3 ∨ tg r.2 E j = 4
      · rw [if_pos h34]
        exact dk_bits4 hx h1 h2 h3 h4 hj h7 hk9 h34 (u1 (by omega))
      · have h56 : tg r.2 E j = 5 ∨ tg r.2 E j = 6 := by omega
        rw [if_neg h34, if_pos h56]
        exact dk_bits8 hx h1 h2 h3 h4 hj h7 hk9 h56 (u2 (by omega))
    · have e : biI r.2 E k = 0 := by
        unfold biI
        rw [if_neg (by omega), if_neg (by omega)]
      rw [e]
      exact dk_bitsT hx h1 h4 h0 ht
