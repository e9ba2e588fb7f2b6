/-! forms of attributes (laid by wip/p4/d11.py) -/
/-! forms of attributes (my own text) -/
section FMA
/-- where c attributes end that begin at p; none: beyond e -/
def s_atE (f : Nat → Int32) (e : Nat) : Nat → Nat → Option Nat
  | 0, p => some p
  | c + 1, p => if e < p + 6 then none else if e < p + 6 + by4 f (p + 2) then none else s_atE f e c (p + 6 + by4 f (p + 2))
def s_bsE (f : Nat → Int32) (e : Nat) : Nat → Nat → Option Nat
  | 0, p => some p
  | c + 1, p => if e < p + 4 then none else s_bsE f e c (p + 4 + 2 * by2 f (p + 2))
def s_rcE (f : Nat → Int32) (e : Nat) : Nat → Nat → Option Nat
  | 0, p => some p
  | c + 1, p => if e < p + 6 then none else match s_atE f e (by2 f (p + 4)) (p + 6) with
    | none => none
    | some p' => s_rcE f e c p'
def s_cdE (f : Nat → Int32) (e p : Nat) : Option Nat :=
  if e < p + 8 then none else if e < p + 8 + by4 f (p + 4) then none else if e < p + 8 + by4 f (p + 4) + 2 + 8 * by2 f (p + 8 + by4 f (p + 4)) + 2 then none else
  s_atE f e (by2 f (p + 8 + by4 f (p + 4) + 2 + 8 * by2 f (p + 8 + by4 f (p + 4)))) (p + 8 + by4 f (p + 4) + 2 + 8 * by2 f (p + 8 + by4 f (p + 4)) + 2)
/-- where the form of aN attribute of this kind ends -/
def s_fe (f : Nat → Int32) (k p e : Nat) : Option Nat :=
  if e < p + 2 then none else if k = 1 ∨ k = 7 then some (p + 2) else if k = 3 ∨ k = 8 ∨ k = 10 then some (p + 2 + 2 * by2 f p) else if k = 5 then some (p + 2 + 8 * by2 f p) else
  if k = 6 then s_bsE f e (by2 f p) (p + 2) else if k = 9 then s_rcE f e (by2 f p) (p + 2) else s_cdE f e p
theorem s_atE_st {f : Nat → Int32} {e c i p : Nat} (h : i < c) : s_atE f e (c - i) p = if e < p + 6 then none else if e < p + 6 + by4 f (p + 2) then none else s_atE f e (c - (i + 1)) (p + 6 + by4 f (p + 2)) := by
  rw [show c - i = (c - (i + 1)) + 1 by omega]
  rfl
theorem s_bsE_st {f : Nat → Int32} {e c i p : Nat} (h : i < c) : s_bsE f e (c - i) p = if e < p + 4 then none else s_bsE f e (c - (i + 1)) (p + 4 + 2 * by2 f (p + 2)) := by
  rw [show c - i = (c - (i + 1)) + 1 by omega]
  rfl
theorem s_rcE_st {f : Nat → Int32} {e c i p : Nat} (h : i < c) : s_rcE f e (c - i) p = if e < p + 6 then none else match s_atE f e (by2 f (p + 4)) (p + 6) with
    | none => none
    | some p' => s_rcE f e (c - (i + 1)) p' := by
  rw [show c - i = (c - (i + 1)) + 1 by omega]
  rfl
theorem s_atE_le {f : Nat → Int32} {e : Nat} : ∀ {c p x : Nat}, p ≤ e → s_atE f e c p = some x → p ≤ x ∧ x ≤ e := by
  intro c
  induction c with
  | zero => intro p x hp h; cases h; omega
  | succ c ih =>
    intro p x hp h
    unfold s_atE at h
    split at h
    · cases h
    · split at h
      · cases h
      · have := ih (by omega) h
        omega
end FMA
section FMB
/-- kinds that were seen, as bits -/
def sb (s k : Nat) : Nat := if s.testBit k then 1 else 0
def so (s k : Nat) : Nat := s ||| 2 ^ k
theorem sb_lt (s k : Nat) : sb s k < 2 := by unfold sb; split <;> decide
theorem sb_so {s k j : Nat} : sb (so s k) j = if j = k then 1 else sb s j := by
  unfold sb so
  rw [Nat.testBit_or, Nat.testBit_two_pow]
  by_cases h : j = k
  · subst h
    simp
  · rw [if_neg h]
    simp [Ne.symm h]
theorem so_lt {s k : Nat} (hs : s < 2048) (hk : k < 11) : so s k < 2048 := Nat.or_lt_two_pow (n := 11) hs (Nat.pow_lt_pow_right (by decide) hk)
theorem sb0 (k : Nat) : sb 0 k = 0 := by unfold sb; simp
theorem shr_k (s : Nat) (hs : s < 2048) : ∀ k, k < 11 → (nI s >>> (nI k &&& 31)) &&& 1 = nI (sb s k) := by
  intro k hk
  have h1 : (nI k &&& 31 : Int32) = nI k := by
    have : ∀ k, k < 11 → (nI k &&& 31 : Int32) = nI k := by decide +kernel
    exact this k hk
  rw [h1]
  apply Int32.toBitVec_inj.mp
  apply BitVec.eq_of_toNat_eq
  rw [Int32.toBitVec_and, BitVec.toNat_and]
  have e1 : (nI s >>> nI k).toBitVec.toNat = s >>> k := by
    rw [Int32.toBitVec_shiftRight, nI_bv, nI_bv]
    have e2 : (BitVec.ofNat 32 k).smod 32 = BitVec.ofNat 32 k := by
      have hsm : ∀ s, s < 32 → (BitVec.ofNat 32 s).smod 32 = BitVec.ofNat 32 s := by decide +kernel
      exact hsm k (by omega)
    rw [e2]
    have hm : (BitVec.ofNat 32 s).msb = false := by
      rw [BitVec.msb_eq_decide]
      simp only [BitVec.toNat_ofNat]
      rw [Nat.mod_eq_of_lt (by omega)]
      simp
      omega
    rw [BitVec.sshiftRight_eq', BitVec.sshiftRight_eq_of_msb_false hm]
    simp only [BitVec.toNat_ushiftRight, BitVec.toNat_ofNat]
    rw [Nat.mod_eq_of_lt (show s < 2 ^ 32 by omega), Nat.mod_eq_of_lt (show k < 2 ^ 32 by omega)]
  rw [e1]
  show s >>> k &&& 1 = sb s k % 2 ^ 32
  unfold sb
  rw [Nat.and_one_is_mod]
  rw [Nat.testBit_eq_decide_div_mod_eq]
  rw [Nat.shiftRight_eq_div_pow]
  have h3 : s / 2 ^ k % 2 = 0 ∨ s / 2 ^ k % 2 = 1 := by omega
  rcases h3 with h3 | h3
  · rw [h3]
    simp
  · rw [h3]
    simp
theorem or_k (s : Nat) : ∀ k, k < 11 → (nI s ||| ((1 : Int32) <<< (nI k &&& 31))) = nI (so s k) := by
  intro k hk
  have h1 : ((1 : Int32) <<< (nI k &&& 31)) = nI (2 ^ k) := by
    have : ∀ k, k < 11 → ((1 : Int32) <<< (nI k &&& 31)) = nI (2 ^ k) := by decide +kernel
    exact this k hk
  rw [h1, nI_or]
  rfl
end FMB
set_option maxHeartbeats 1000000 in
theorem dk_attributesEnd {g : xe_G} {M : mi_H} {f : Nat → Int32} {n b da : Nat} {p0 e t : Nat} (h_b : M.1 b = some (ob 1 [.ref da])) (h_da : M.1 da = some (ar .byte n f)) (hn : n ≤ 65540) (he : e ≤ n ∧ p0 ≤ e) (ht : t < 65536) : pt (mT g) 45 [.ref b, .int (nI p0), .int (nI t), .int (nI e)] M (fun v M' => ((s_atE f e t p0 = none) ∧ v = some (.int (-1)) ∧ M = M') ∨ (∃ (x : Nat), (s_atE f e t p0 = some x) ∧ (x < 1000000) ∧ v = some (.int (nI x)) ∧ M = M')) := by
  refine pt_in (b := mb_45 g) rfl (fun kf => ?_)
  show pl (mT g) kf (mb_45 g).2 (0, [(0, .ref b), (1, .int (nI p0)), (2, .int (nI t)), (3, .int (nI e))], [], M) _
  have LL : ∀ (kf : Nat), (∀ (i p : Nat), (i ≤ t) → (p0 ≤ p ∧ p ≤ e) → (s_atE f e (t - i) p = s_atE f e t p0) →  pl (mT g) kf (mb_45 g).2 (6, [(0, .ref b), (2, .int (nI t)), (3, .int (nI e)), (4, .int (nI p)), (5, .int (nI i))], [], M) (fun v M' => ((s_atE f e t p0 = none) ∧ v = some (.int (-1)) ∧ M = M') ∨ (∃ (x : Nat), (s_atE f e t p0 = some x) ∧ (x < 1000000) ∧ v = some (.int (nI x)) ∧ M = M'))) := by
    intro kf
    induction kf with
    | zero => exact (by intros; exact pl_0)
    | succ kf ih =>
      intro i p hi hp hs
      refine ps_st1 (S' := (8, [(0, .ref b), (2, .int (nI t)), (3, .int (nI e)), (4, .int (nI p)), (5, .int (nI i))], [.int (nI i)], M)) rfl rfl rfl ?_
      refine ps_st (S' := (9, [(0, .ref b), (2, .int (nI t)), (3, .int (nI e)), (4, .int (nI p)), (5, .int (nI i))], [.int (nI t), .int (nI i)], M)) rfl rfl rfl ?_
      refine ps_if2 (S1 := (68, [(0, .ref b), (2, .int (nI t)), (3, .int (nI e)), (4, .int (nI p)), (5, .int (nI i))], [], M)) (S2 := (12, [(0, .ref b), (2, .int (nI t)), (3, .int (nI e)), (4, .int (nI p)), (5, .int (nI i))], [], M)) rfl rfl rfl (fun c_9 => ?_) (fun c_9 => ?_)
      · have c_9 : (nI t) ≤ (nI i) := of_decide_eq_true c_9
        have n_9 : t ≤ i := (le_nI (p := t) (n := i) (by omega) (by omega)).mp c_9
        refine ps_st (S' := (70, [(0, .ref b), (2, .int (nI t)), (3, .int (nI e)), (4, .int (nI p)), (5, .int (nI i))], [.int (nI p)], M)) rfl rfl rfl ?_
        exact ps_reti rfl (Or.inr ⟨p, by
            rw [← hs]
            rw [show t - i = 0 by omega]
            rfl, by omega, rfl, rfl⟩)
      · have c_9 : ¬ ((nI t) ≤ (nI i)) := of_decide_eq_false c_9
        have n_9 : ¬ (t ≤ i) := fun h9 => c_9 ((le_nI (p := t) (n := i) (by omega) (by omega)).mpr h9)
        refine ps_st (S' := (13, [(0, .ref b), (2, .int (nI t)), (3, .int (nI e)), (4, .int (nI p)), (5, .int (nI i))], [.int (nI e)], M)) rfl rfl rfl ?_
        refine ps_st (S' := (15, [(0, .ref b), (2, .int (nI t)), (3, .int (nI e)), (4, .int (nI p)), (5, .int (nI i))], [.int (nI p), .int (nI e)], M)) rfl rfl rfl ?_
        refine ps_st (S' := (16, [(0, .ref b), (2, .int (nI t)), (3, .int (nI e)), (4, .int (nI p)), (5, .int (nI i))], [.int ((nI e) - (nI p))], M)) rfl rfl rfl ?_
        refine ps_st (S' := (18, [(0, .ref b), (2, .int (nI t)), (3, .int (nI e)), (4, .int (nI p)), (5, .int (nI i))], [.int 6, .int ((nI e) - (nI p))], M)) rfl rfl rfl ?_
        refine ps_if2 (S1 := (23, [(0, .ref b), (2, .int (nI t)), (3, .int (nI e)), (4, .int (nI p)), (5, .int (nI i))], [], M)) (S2 := (21, [(0, .ref b), (2, .int (nI t)), (3, .int (nI e)), (4, .int (nI p)), (5, .int (nI i))], [], M)) rfl rfl rfl (fun c_18 => ?_) (fun c_18 => ?_)
        · have c_18 : 6 ≤ ((nI e) - (nI p)) := of_decide_eq_true c_18
          have n_18 : 6 + p ≤ e := (le_sub1 (e := e) (p := p) (k := 6) (by omega) (by omega) (by omega)).mp c_18
          refine ps_st (S' := (24, [(0, .ref b), (2, .int (nI t)), (3, .int (nI e)), (4, .int (nI p)), (5, .int (nI i))], [.ref b], M)) rfl rfl rfl ?_
          refine ps_st (S' := (26, [(0, .ref b), (2, .int (nI t)), (3, .int (nI e)), (4, .int (nI p)), (5, .int (nI i))], [.int (nI p), .ref b], M)) rfl rfl rfl ?_
          refine ps_st (S' := (27, [(0, .ref b), (2, .int (nI t)), (3, .int (nI e)), (4, .int (nI p)), (5, .int (nI i))], [.int 2, .int (nI p), .ref b], M)) rfl rfl rfl ?_
          refine ps_st (S' := (28, [(0, .ref b), (2, .int (nI t)), (3, .int (nI e)), (4, .int (nI p)), (5, .int (nI i))], [.int ((nI p) + 2), .ref b], M)) rfl rfl rfl ?_
          rw [nI_add1 (p := p) (k := 2) (x := 2) rfl (by omega)]
          show pl _ _ _ (_, [(0, .ref b), (2, .int (nI t)), (3, .int (nI e)), (4, .int (nI p)), (5, .int (nI i))], [.int (nI (p + 2)), .ref b], M) _
          refine pl_call (a := [.ref b, .int (nI (p + 2))]) (rest := []) rfl rfl rfl (dk_u4 (f := f) (n := n) (b := b) (da := da) (p := (p + 2)) h_b h_da (hn) (by omega)) (fun v1 M2 q3 => ?_)
          obtain ⟨rfl, rfl⟩ := q3
          show pl _ _ _ (31, [(0, .ref b), (2, .int (nI t)), (3, .int (nI e)), (4, .int (nI p)), (5, .int (nI i))], [.int (nI (by4 f (p + 2)))], M) _
          have hu_28 := by4_lt f (p + 2)
          refine ps_st (S' := (33, [(6, .int (nI (by4 f (p + 2)))), (0, .ref b), (2, .int (nI t)), (3, .int (nI e)), (4, .int (nI p)), (5, .int (nI i))], [], M)) rfl rfl rfl ?_
          refine ps_st (S' := (35, [(6, .int (nI (by4 f (p + 2)))), (0, .ref b), (2, .int (nI t)), (3, .int (nI e)), (4, .int (nI p)), (5, .int (nI i))], [.int (nI (by4 f (p + 2)))], M)) rfl rfl rfl ?_
          refine ps_if (S1 := (50, [], [], M)) (S2 := (38, [(6, .int (nI (by4 f (p + 2)))), (0, .ref b), (2, .int (nI t)), (3, .int (nI e)), (4, .int (nI p)), (5, .int (nI i))], [], M)) rfl rfl rfl (fun c_35 => ?_) (fun c_35 => ?_)
          · have c_35 : (nI (by4 f (p + 2))) < 0 := of_decide_eq_true c_35
            have n_35 : 2147483648 ≤ by4 f (p + 2) := (neg_nI (by4_lt _ _)).mp c_35
            refine ps_st (S' := (51, [], [.int (-1)], M)) rfl rfl rfl ?_
            exact ps_ret rfl rfl (Or.inl ⟨by
                rw [← hs]
                rw [s_atE_st (i := i) (p := p) (by omega)]
                first | ((repeat first | rw [if_pos (by omega)] | rw [if_neg (by omega)]) <;> first | rfl | omega) | ((repeat' split) <;> first | rfl | (exfalso; omega) | omega), rfl, rfl⟩)
          · have c_35 : ¬ ((nI (by4 f (p + 2))) < 0) := of_decide_eq_false c_35
            have n_35 : ¬ (2147483648 ≤ by4 f (p + 2)) := fun h9 => c_35 ((neg_nI (by4_lt _ _)).mpr h9)
            refine ps_st (S' := (40, [(6, .int (nI (by4 f (p + 2)))), (0, .ref b), (2, .int (nI t)), (3, .int (nI e)), (4, .int (nI p)), (5, .int (nI i))], [.int (nI (by4 f (p + 2)))], M)) rfl rfl rfl ?_
            refine ps_st (S' := (41, [(6, .int (nI (by4 f (p + 2)))), (0, .ref b), (2, .int (nI t)), (3, .int (nI e)), (4, .int (nI p)), (5, .int (nI i))], [.int (nI e), .int (nI (by4 f (p + 2)))], M)) rfl rfl rfl ?_
            refine ps_st (S' := (43, [(6, .int (nI (by4 f (p + 2)))), (0, .ref b), (2, .int (nI t)), (3, .int (nI e)), (4, .int (nI p)), (5, .int (nI i))], [.int (nI p), .int (nI e), .int (nI (by4 f (p + 2)))], M)) rfl rfl rfl ?_
            refine ps_st (S' := (44, [(6, .int (nI (by4 f (p + 2)))), (0, .ref b), (2, .int (nI t)), (3, .int (nI e)), (4, .int (nI p)), (5, .int (nI i))], [.int ((nI e) - (nI p)), .int (nI (by4 f (p + 2)))], M)) rfl rfl rfl ?_
            refine ps_st (S' := (46, [(6, .int (nI (by4 f (p + 2)))), (0, .ref b), (2, .int (nI t)), (3, .int (nI e)), (4, .int (nI p)), (5, .int (nI i))], [.int 6, .int ((nI e) - (nI p)), .int (nI (by4 f (p + 2)))], M)) rfl rfl rfl ?_
            refine ps_st (S' := (47, [(6, .int (nI (by4 f (p + 2)))), (0, .ref b), (2, .int (nI t)), (3, .int (nI e)), (4, .int (nI p)), (5, .int (nI i))], [.int (((nI e) - (nI p)) - 6), .int (nI (by4 f (p + 2)))], M)) rfl rfl rfl ?_
            refine ps_if2 (S1 := (52, [(6, .int (nI (by4 f (p + 2)))), (0, .ref b), (2, .int (nI t)), (3, .int (nI e)), (4, .int (nI p)), (5, .int (nI i))], [], M)) (S2 := (50, [], [], M)) rfl rfl rfl (fun c_47 => ?_) (fun c_47 => ?_)
            · have c_47 : (nI (by4 f (p + 2))) ≤ (((nI e) - (nI p)) - 6) := of_decide_eq_true c_47
              have n_47 : (by4 f (p + 2)) + (p + 6) ≤ e := (le_sub2 (e := e) (p := p) (p2 := 6) (k := by4 f (p + 2)) (by omega) (by omega) (by omega)).mp c_47
              refine ps_st (S' := (54, [(6, .int (nI (by4 f (p + 2)))), (0, .ref b), (2, .int (nI t)), (3, .int (nI e)), (4, .int (nI p)), (5, .int (nI i))], [.int (nI p)], M)) rfl rfl rfl ?_
              refine ps_st (S' := (56, [(6, .int (nI (by4 f (p + 2)))), (0, .ref b), (2, .int (nI t)), (3, .int (nI e)), (4, .int (nI p)), (5, .int (nI i))], [.int 6, .int (nI p)], M)) rfl rfl rfl ?_
              refine ps_st (S' := (58, [(6, .int (nI (by4 f (p + 2)))), (0, .ref b), (2, .int (nI t)), (3, .int (nI e)), (4, .int (nI p)), (5, .int (nI i))], [.int (nI (by4 f (p + 2))), .int 6, .int (nI p)], M)) rfl rfl rfl ?_
              refine ps_st (S' := (59, [(6, .int (nI (by4 f (p + 2)))), (0, .ref b), (2, .int (nI t)), (3, .int (nI e)), (4, .int (nI p)), (5, .int (nI i))], [.int (6 + (nI (by4 f (p + 2)))), .int (nI p)], M)) rfl rfl rfl ?_
              rw [nI_add2 (p := 6) (k := by4 f (p + 2)) (x := 6) (y := (nI (by4 f (p + 2)))) rfl rfl (by omega)]
              show pl _ _ _ (_, [(6, .int (nI (by4 f (p + 2)))), (0, .ref b), (2, .int (nI t)), (3, .int (nI e)), (4, .int (nI p)), (5, .int (nI i))], [.int (nI (6 + by4 f (p + 2))), .int (nI p)], M) _
              refine ps_st (S' := (60, [(6, .int (nI (by4 f (p + 2)))), (0, .ref b), (2, .int (nI t)), (3, .int (nI e)), (4, .int (nI p)), (5, .int (nI i))], [.int ((nI p) + (nI (6 + by4 f (p + 2))))], M)) rfl rfl rfl ?_
              rw [nI_add1 (p := p) (k := 6 + by4 f (p + 2)) (x := (nI (6 + by4 f (p + 2)))) rfl (by omega)]
              rw [show nI (p + (6 + by4 f (p + 2))) = nI (p + 6 + by4 f (p + 2)) from congrArg nI (by omega)]
              show pl _ _ _ (_, [(6, .int (nI (by4 f (p + 2)))), (0, .ref b), (2, .int (nI t)), (3, .int (nI e)), (4, .int (nI p)), (5, .int (nI i))], [.int (nI (p + 6 + by4 f (p + 2)))], M) _
              refine ps_st (S' := (62, [(4, .int (nI (p + 6 + by4 f (p + 2)))), (6, .int (nI (by4 f (p + 2)))), (0, .ref b), (2, .int (nI t)), (3, .int (nI e)), (5, .int (nI i))], [], M)) rfl rfl rfl ?_
              refine ps_st (S' := (65, [(5, .int ((nI i) + 1)), (4, .int (nI (p + 6 + by4 f (p + 2)))), (6, .int (nI (by4 f (p + 2)))), (0, .ref b), (2, .int (nI t)), (3, .int (nI e))], [], M)) rfl rfl rfl ?_
              rw [nI_add1 (p := i) (k := 1) (x := 1) rfl (by omega)]
              show pl _ _ _ (_, [(5, .int (nI (i + 1))), (4, .int (nI (p + 6 + by4 f (p + 2)))), (6, .int (nI (by4 f (p + 2)))), (0, .ref b), (2, .int (nI t)), (3, .int (nI e))], [], M) _
              refine ps_st (S' := (6, [(0, .ref b), (2, .int (nI t)), (3, .int (nI e)), (4, .int (nI (p + 6 + by4 f (p + 2)))), (5, .int (nI (i + 1)))], [], M)) rfl rfl rfl ?_
              exact ih (i + 1) (p + 6 + by4 f (p + 2))  (by omega) (by omega) (by
                  rw [← hs, s_atE_st (i := i) (p := p) (by omega), if_neg (by omega), if_neg (by omega)])
            · have c_47 : ¬ ((nI (by4 f (p + 2))) ≤ (((nI e) - (nI p)) - 6)) := of_decide_eq_false c_47
              have n_47 : ¬ ((by4 f (p + 2)) + (p + 6) ≤ e) := fun h8 => c_47 ((le_sub2 (e := e) (p := p) (p2 := 6) (k := by4 f (p + 2)) (by omega) (by omega) (by omega)).mpr h8)
              refine ps_st (S' := (51, [], [.int (-1)], M)) rfl rfl rfl ?_
              exact ps_ret rfl rfl (Or.inl ⟨by
                  rw [← hs]
                  rw [s_atE_st (i := i) (p := p) (by omega)]
                  first | ((repeat first | rw [if_pos (by omega)] | rw [if_neg (by omega)]) <;> first | rfl | omega) | ((repeat' split) <;> first | rfl | (exfalso; omega) | omega), rfl, rfl⟩)
        · have c_18 : ¬ (6 ≤ ((nI e) - (nI p))) := of_decide_eq_false c_18
          have n_18 : ¬ (6 + p ≤ e) := fun h8 => c_18 ((le_sub1 (e := e) (p := p) (k := 6) (by omega) (by omega) (by omega)).mpr h8)
          refine ps_st (S' := (22, [(0, .ref b), (2, .int (nI t)), (3, .int (nI e)), (4, .int (nI p)), (5, .int (nI i))], [.int (-1)], M)) rfl rfl rfl ?_
          exact ps_ret rfl rfl (Or.inl ⟨by
              rw [← hs]
              rw [s_atE_st (i := i) (p := p) (by omega)]
              first | ((repeat first | rw [if_pos (by omega)] | rw [if_neg (by omega)]) <;> first | rfl | omega) | ((repeat' split) <;> first | rfl | (exfalso; omega) | omega), rfl, rfl⟩)
  refine ps_st (S' := (1, [(0, .ref b), (1, .int (nI p0)), (2, .int (nI t)), (3, .int (nI e))], [.int (nI p0)], M)) rfl rfl rfl ?_
  refine ps_st (S' := (3, [(4, .int (nI p0)), (0, .ref b), (1, .int (nI p0)), (2, .int (nI t)), (3, .int (nI e))], [], M)) rfl rfl rfl ?_
  refine ps_st (S' := (4, [(4, .int (nI p0)), (0, .ref b), (1, .int (nI p0)), (2, .int (nI t)), (3, .int (nI e))], [.int 0], M)) rfl rfl rfl ?_
  refine ps_st (S' := (6, [(0, .ref b), (2, .int (nI t)), (3, .int (nI e)), (4, .int (nI p0)), (5, .int 0)], [], M)) rfl rfl rfl ?_
  exact (LL kf) (0) (p0)  (by omega) (by omega) (rfl)
set_option maxHeartbeats 1000000 in
theorem dk_bootstrapsEnd {g : xe_G} {M : mi_H} {f : Nat → Int32} {n q ac c b da vd : Nat} {s1 : Int32} {p0 e : Nat} (h_ac : M.1 ac = some (ob 0 [.ref c, .ref b, .ref q, .ref vd, .int s1])) (h_b : M.1 b = some (ob 1 [.ref da])) (h_da : M.1 da = some (ar .byte n f)) (hn : n ≤ 65540) (he : e ≤ n ∧ p0 + 2 ≤ e) : pt (mT g) 24 [.ref ac, .int (nI p0), .int (nI e)] M (fun v M' => ((s_bsE f e (by2 f p0) (p0 + 2) = none) ∧ v = some (.int (-1)) ∧ M = M') ∨ (∃ (x : Nat), (s_bsE f e (by2 f p0) (p0 + 2) = some x) ∧ (x < 1000000) ∧ v = some (.int (nI x)) ∧ M = M')) := by
  refine pt_in (b := mb_24 g) rfl (fun kf => ?_)
  show pl (mT g) kf (mb_24 g).2 (0, [(0, .ref ac), (1, .int (nI p0)), (2, .int (nI e))], [], M) _
  have LL : ∀ (kf : Nat), (∀ (i p : Nat), (i ≤ by2 f p0) → (p0 ≤ p ∧ p ≤ n + 131080) → (s_bsE f e (by2 f p0 - i) p = s_bsE f e (by2 f p0) (p0 + 2)) →  pl (mT g) kf (mb_24 g).2 (17, [(0, .ref ac), (2, .int (nI e)), (3, .int (nI (by2 f p0))), (4, .int (nI p)), (5, .int (nI i))], [], M) (fun v M' => ((s_bsE f e (by2 f p0) (p0 + 2) = none) ∧ v = some (.int (-1)) ∧ M = M') ∨ (∃ (x : Nat), (s_bsE f e (by2 f p0) (p0 + 2) = some x) ∧ (x < 1000000) ∧ v = some (.int (nI x)) ∧ M = M'))) := by
    intro kf
    induction kf with
    | zero => exact (by intros; exact pl_0)
    | succ kf ih =>
      intro i p hi hp hs
      have hu9 := by2_lt f p0
      refine ps_st1 (S' := (19, [(0, .ref ac), (2, .int (nI e)), (3, .int (nI (by2 f p0))), (4, .int (nI p)), (5, .int (nI i))], [.int (nI i)], M)) rfl rfl rfl ?_
      refine ps_st (S' := (20, [(0, .ref ac), (2, .int (nI e)), (3, .int (nI (by2 f p0))), (4, .int (nI p)), (5, .int (nI i))], [.int (nI (by2 f p0)), .int (nI i)], M)) rfl rfl rfl ?_
      refine ps_if2 (S1 := (59, [(0, .ref ac), (2, .int (nI e)), (3, .int (nI (by2 f p0))), (4, .int (nI p)), (5, .int (nI i))], [], M)) (S2 := (23, [(0, .ref ac), (2, .int (nI e)), (3, .int (nI (by2 f p0))), (4, .int (nI p)), (5, .int (nI i))], [], M)) rfl rfl rfl (fun c_20 => ?_) (fun c_20 => ?_)
      · have c_20 : (nI (by2 f p0)) ≤ (nI i) := of_decide_eq_true c_20
        have n_20 : by2 f p0 ≤ i := (le_nI (p := by2 f p0) (n := i) (Nat.lt_trans (by2_lt _ _) (by decide)) (by omega)).mp c_20
        refine ps_st (S' := (61, [(0, .ref ac), (2, .int (nI e)), (3, .int (nI (by2 f p0))), (4, .int (nI p)), (5, .int (nI i))], [.int (nI p)], M)) rfl rfl rfl ?_
        exact ps_reti rfl (Or.inr ⟨p, by
            rw [← hs]
            rw [show by2 f p0 - i = 0 by omega]
            rfl, by omega, rfl, rfl⟩)
      · have c_20 : ¬ ((nI (by2 f p0)) ≤ (nI i)) := of_decide_eq_false c_20
        have n_20 : ¬ (by2 f p0 ≤ i) := fun h9 => c_20 ((le_nI (p := by2 f p0) (n := i) (Nat.lt_trans (by2_lt _ _) (by decide)) (by omega)).mpr h9)
        refine ps_st (S' := (24, [(0, .ref ac), (2, .int (nI e)), (3, .int (nI (by2 f p0))), (4, .int (nI p)), (5, .int (nI i))], [.int (nI e)], M)) rfl rfl rfl ?_
        refine ps_st (S' := (26, [(0, .ref ac), (2, .int (nI e)), (3, .int (nI (by2 f p0))), (4, .int (nI p)), (5, .int (nI i))], [.int (nI p), .int (nI e)], M)) rfl rfl rfl ?_
        refine ps_st (S' := (27, [(0, .ref ac), (2, .int (nI e)), (3, .int (nI (by2 f p0))), (4, .int (nI p)), (5, .int (nI i))], [.int ((nI e) - (nI p))], M)) rfl rfl rfl ?_
        refine ps_st (S' := (28, [(0, .ref ac), (2, .int (nI e)), (3, .int (nI (by2 f p0))), (4, .int (nI p)), (5, .int (nI i))], [.int 4, .int ((nI e) - (nI p))], M)) rfl rfl rfl ?_
        refine ps_if2 (S1 := (33, [(0, .ref ac), (2, .int (nI e)), (3, .int (nI (by2 f p0))), (4, .int (nI p)), (5, .int (nI i))], [], M)) (S2 := (31, [(0, .ref ac), (2, .int (nI e)), (3, .int (nI (by2 f p0))), (4, .int (nI p)), (5, .int (nI i))], [], M)) rfl rfl rfl (fun c_28 => ?_) (fun c_28 => ?_)
        · have c_28 : 4 ≤ ((nI e) - (nI p)) := of_decide_eq_true c_28
          have n_28 : 4 + p ≤ e := (le_sub1 (e := e) (p := p) (k := 4) (by omega) (by omega) (by omega)).mp c_28
          refine ps_st (S' := (35, [(0, .ref ac), (2, .int (nI e)), (3, .int (nI (by2 f p0))), (4, .int (nI p)), (5, .int (nI i))], [.int (nI p)], M)) rfl rfl rfl ?_
          refine ps_st (S' := (36, [(0, .ref ac), (2, .int (nI e)), (3, .int (nI (by2 f p0))), (4, .int (nI p)), (5, .int (nI i))], [.int 4, .int (nI p)], M)) rfl rfl rfl ?_
          refine ps_st (S' := (37, [(0, .ref ac), (2, .int (nI e)), (3, .int (nI (by2 f p0))), (4, .int (nI p)), (5, .int (nI i))], [.int 2, .int 4, .int (nI p)], M)) rfl rfl rfl ?_
          refine ps_st (S' := (38, [(0, .ref ac), (2, .int (nI e)), (3, .int (nI (by2 f p0))), (4, .int (nI p)), (5, .int (nI i))], [.ref ac, .int 2, .int 4, .int (nI p)], M)) rfl rfl rfl ?_
          refine ps_get (S' := (41, [(0, .ref ac), (2, .int (nI e)), (3, .int (nI (by2 f p0))), (4, .int (nI p)), (5, .int (nI i))], [.ref b, .int 2, .int 4, .int (nI p)], M)) rfl h_ac rfl rfl ?_
          refine ps_st (S' := (43, [(0, .ref ac), (2, .int (nI e)), (3, .int (nI (by2 f p0))), (4, .int (nI p)), (5, .int (nI i))], [.int (nI p), .ref b, .int 2, .int 4, .int (nI p)], M)) rfl rfl rfl ?_
          refine ps_st (S' := (44, [(0, .ref ac), (2, .int (nI e)), (3, .int (nI (by2 f p0))), (4, .int (nI p)), (5, .int (nI i))], [.int 2, .int (nI p), .ref b, .int 2, .int 4, .int (nI p)], M)) rfl rfl rfl ?_
          refine ps_st (S' := (45, [(0, .ref ac), (2, .int (nI e)), (3, .int (nI (by2 f p0))), (4, .int (nI p)), (5, .int (nI i))], [.int ((nI p) + 2), .ref b, .int 2, .int 4, .int (nI p)], M)) rfl rfl rfl ?_
          rw [nI_add1 (p := p) (k := 2) (x := 2) rfl (by omega)]
          show pl _ _ _ (_, [(0, .ref ac), (2, .int (nI e)), (3, .int (nI (by2 f p0))), (4, .int (nI p)), (5, .int (nI i))], [.int (nI (p + 2)), .ref b, .int 2, .int 4, .int (nI p)], M) _
          refine pl_call (a := [.ref b, .int (nI (p + 2))]) (rest := [.int 2, .int 4, .int (nI p)]) rfl rfl rfl (dk_u2 (f := f) (n := n) (b := b) (da := da) (p := (p + 2)) h_b h_da (hn) (by omega)) (fun v1 M2 q3 => ?_)
          obtain ⟨rfl, rfl⟩ := q3
          show pl _ _ _ (48, [(0, .ref ac), (2, .int (nI e)), (3, .int (nI (by2 f p0))), (4, .int (nI p)), (5, .int (nI i))], [.int (nI (by2 f (p + 2))), .int 2, .int 4, .int (nI p)], M) _
          have hu_45 := by2_lt f (p + 2)
          refine ps_st (S' := (49, [(0, .ref ac), (2, .int (nI e)), (3, .int (nI (by2 f p0))), (4, .int (nI p)), (5, .int (nI i))], [.int (2 * (nI (by2 f (p + 2)))), .int 4, .int (nI p)], M)) rfl rfl rfl ?_
          rw [nI_mul1 (p := 2) (k := by2 f (p + 2)) (x := 2) (y := (nI (by2 f (p + 2)))) rfl rfl (by omega)]
          show pl _ _ _ (_, [(0, .ref ac), (2, .int (nI e)), (3, .int (nI (by2 f p0))), (4, .int (nI p)), (5, .int (nI i))], [.int (nI (2 * (by2 f (p + 2)))), .int 4, .int (nI p)], M) _
          refine ps_st (S' := (50, [(0, .ref ac), (2, .int (nI e)), (3, .int (nI (by2 f p0))), (4, .int (nI p)), (5, .int (nI i))], [.int (4 + (nI (2 * (by2 f (p + 2))))), .int (nI p)], M)) rfl rfl rfl ?_
          rw [nI_add2 (p := 4) (k := 2 * (by2 f (p + 2))) (x := 4) (y := (nI (2 * (by2 f (p + 2))))) rfl rfl (by omega)]
          show pl _ _ _ (_, [(0, .ref ac), (2, .int (nI e)), (3, .int (nI (by2 f p0))), (4, .int (nI p)), (5, .int (nI i))], [.int (nI (4 + 2 * (by2 f (p + 2)))), .int (nI p)], M) _
          refine ps_st (S' := (51, [(0, .ref ac), (2, .int (nI e)), (3, .int (nI (by2 f p0))), (4, .int (nI p)), (5, .int (nI i))], [.int ((nI p) + (nI (4 + 2 * (by2 f (p + 2)))))], M)) rfl rfl rfl ?_
          rw [nI_add1 (p := p) (k := 4 + 2 * (by2 f (p + 2))) (x := (nI (4 + 2 * (by2 f (p + 2))))) rfl (by omega)]
          rw [show nI (p + (4 + 2 * (by2 f (p + 2)))) = nI (p + 4 + 2 * (by2 f (p + 2))) from congrArg nI (by omega)]
          show pl _ _ _ (_, [(0, .ref ac), (2, .int (nI e)), (3, .int (nI (by2 f p0))), (4, .int (nI p)), (5, .int (nI i))], [.int (nI (p + 4 + 2 * (by2 f (p + 2))))], M) _
          refine ps_st (S' := (53, [(4, .int (nI (p + 4 + 2 * (by2 f (p + 2))))), (0, .ref ac), (2, .int (nI e)), (3, .int (nI (by2 f p0))), (5, .int (nI i))], [], M)) rfl rfl rfl ?_
          refine ps_st (S' := (56, [(5, .int ((nI i) + 1)), (4, .int (nI (p + 4 + 2 * (by2 f (p + 2))))), (0, .ref ac), (2, .int (nI e)), (3, .int (nI (by2 f p0)))], [], M)) rfl rfl rfl ?_
          rw [nI_add1 (p := i) (k := 1) (x := 1) rfl (by omega)]
          show pl _ _ _ (_, [(5, .int (nI (i + 1))), (4, .int (nI (p + 4 + 2 * (by2 f (p + 2))))), (0, .ref ac), (2, .int (nI e)), (3, .int (nI (by2 f p0)))], [], M) _
          refine ps_st (S' := (17, [(0, .ref ac), (2, .int (nI e)), (3, .int (nI (by2 f p0))), (4, .int (nI (p + 4 + 2 * (by2 f (p + 2))))), (5, .int (nI (i + 1)))], [], M)) rfl rfl rfl ?_
          exact ih (i + 1) (p + 4 + 2 * by2 f (p + 2))  (by omega) (by omega) (by
              rw [← hs, s_bsE_st (i := i) (p := p) (by omega), if_neg (by omega)])
        · have c_28 : ¬ (4 ≤ ((nI e) - (nI p))) := of_decide_eq_false c_28
          have n_28 : ¬ (4 + p ≤ e) := fun h8 => c_28 ((le_sub1 (e := e) (p := p) (k := 4) (by omega) (by omega) (by omega)).mpr h8)
          refine ps_st (S' := (32, [(0, .ref ac), (2, .int (nI e)), (3, .int (nI (by2 f p0))), (4, .int (nI p)), (5, .int (nI i))], [.int (-1)], M)) rfl rfl rfl ?_
          exact ps_ret rfl rfl (Or.inl ⟨by
              rw [← hs]
              rw [s_bsE_st (i := i) (p := p) (by omega)]
              first | ((repeat first | rw [if_pos (by omega)] | rw [if_neg (by omega)]) <;> first | rfl | omega) | ((repeat' split) <;> first | rfl | (exfalso; omega) | omega), rfl, rfl⟩)
  refine ps_st (S' := (1, [(0, .ref ac), (1, .int (nI p0)), (2, .int (nI e))], [.ref ac], M)) rfl rfl rfl ?_
  refine ps_get (S' := (4, [(0, .ref ac), (1, .int (nI p0)), (2, .int (nI e))], [.ref b], M)) rfl h_ac rfl rfl ?_
  refine ps_st (S' := (5, [(0, .ref ac), (1, .int (nI p0)), (2, .int (nI e))], [.int (nI p0), .ref b], M)) rfl rfl rfl ?_
  refine pl_call (a := [.ref b, .int (nI p0)]) (rest := []) rfl rfl rfl (dk_u2 (f := f) (n := n) (b := b) (da := da) (p := p0) h_b h_da (hn) (by omega)) (fun v4 M5 q6 => ?_)
  obtain ⟨rfl, rfl⟩ := q6
  show pl _ _ _ (8, [(0, .ref ac), (1, .int (nI p0)), (2, .int (nI e))], [.int (nI (by2 f p0))], M) _
  have hu_5 := by2_lt f p0
  refine ps_st (S' := (9, [(3, .int (nI (by2 f p0))), (0, .ref ac), (1, .int (nI p0)), (2, .int (nI e))], [], M)) rfl rfl rfl ?_
  refine ps_st (S' := (10, [(3, .int (nI (by2 f p0))), (0, .ref ac), (1, .int (nI p0)), (2, .int (nI e))], [.int (nI p0)], M)) rfl rfl rfl ?_
  refine ps_st (S' := (11, [(3, .int (nI (by2 f p0))), (0, .ref ac), (1, .int (nI p0)), (2, .int (nI e))], [.int 2, .int (nI p0)], M)) rfl rfl rfl ?_
  refine ps_st (S' := (12, [(3, .int (nI (by2 f p0))), (0, .ref ac), (1, .int (nI p0)), (2, .int (nI e))], [.int ((nI p0) + 2)], M)) rfl rfl rfl ?_
  rw [nI_add1 (p := p0) (k := 2) (x := 2) rfl (by omega)]
  show pl _ _ _ (_, [(3, .int (nI (by2 f p0))), (0, .ref ac), (1, .int (nI p0)), (2, .int (nI e))], [.int (nI (p0 + 2))], M) _
  refine ps_st (S' := (14, [(4, .int (nI (p0 + 2))), (3, .int (nI (by2 f p0))), (0, .ref ac), (1, .int (nI p0)), (2, .int (nI e))], [], M)) rfl rfl rfl ?_
  refine ps_st (S' := (15, [(4, .int (nI (p0 + 2))), (3, .int (nI (by2 f p0))), (0, .ref ac), (1, .int (nI p0)), (2, .int (nI e))], [.int 0], M)) rfl rfl rfl ?_
  refine ps_st (S' := (17, [(0, .ref ac), (2, .int (nI e)), (3, .int (nI (by2 f p0))), (4, .int (nI (p0 + 2))), (5, .int 0)], [], M)) rfl rfl rfl ?_
  exact (LL kf) (0) (p0 + 2)  (by omega) (by omega) (rfl)
set_option maxHeartbeats 1000000 in
theorem dk_recordEnd {g : xe_G} {M : mi_H} {f : Nat → Int32} {n q ac c b da vd : Nat} {s1 : Int32} {p0 e : Nat} (h_ac : M.1 ac = some (ob 0 [.ref c, .ref b, .ref q, .ref vd, .int s1])) (h_b : M.1 b = some (ob 1 [.ref da])) (h_da : M.1 da = some (ar .byte n f)) (hn : n ≤ 65540) (he : e ≤ n ∧ p0 + 2 ≤ e) : pt (mT g) 41 [.ref ac, .int (nI p0), .int (nI e)] M (fun v M' => ((s_rcE f e (by2 f p0) (p0 + 2) = none) ∧ v = some (.int (-1)) ∧ M = M') ∨ (∃ (x : Nat), (s_rcE f e (by2 f p0) (p0 + 2) = some x) ∧ (x < 1000000) ∧ v = some (.int (nI x)) ∧ M = M')) := by
  refine pt_in (b := mb_41 g) rfl (fun kf => ?_)
  show pl (mT g) kf (mb_41 g).2 (0, [(0, .ref ac), (1, .int (nI p0)), (2, .int (nI e))], [], M) _
  have LL : ∀ (kf : Nat), (∀ (i p : Nat), (i ≤ by2 f p0) → (p0 ≤ p ∧ p ≤ e) → (s_rcE f e (by2 f p0 - i) p = s_rcE f e (by2 f p0) (p0 + 2)) →  pl (mT g) kf (mb_41 g).2 (17, [(0, .ref ac), (2, .int (nI e)), (3, .int (nI (by2 f p0))), (4, .int (nI p)), (5, .int (nI i))], [], M) (fun v M' => ((s_rcE f e (by2 f p0) (p0 + 2) = none) ∧ v = some (.int (-1)) ∧ M = M') ∨ (∃ (x : Nat), (s_rcE f e (by2 f p0) (p0 + 2) = some x) ∧ (x < 1000000) ∧ v = some (.int (nI x)) ∧ M = M'))) := by
    intro kf
    induction kf with
    | zero => exact (by intros; exact pl_0)
    | succ kf ih =>
      intro i p hi hp hs
      have hu9 := by2_lt f p0
      refine ps_st1 (S' := (19, [(0, .ref ac), (2, .int (nI e)), (3, .int (nI (by2 f p0))), (4, .int (nI p)), (5, .int (nI i))], [.int (nI i)], M)) rfl rfl rfl ?_
      refine ps_st (S' := (20, [(0, .ref ac), (2, .int (nI e)), (3, .int (nI (by2 f p0))), (4, .int (nI p)), (5, .int (nI i))], [.int (nI (by2 f p0)), .int (nI i)], M)) rfl rfl rfl ?_
      refine ps_if2 (S1 := (73, [(0, .ref ac), (2, .int (nI e)), (3, .int (nI (by2 f p0))), (4, .int (nI p)), (5, .int (nI i))], [], M)) (S2 := (23, [(0, .ref ac), (2, .int (nI e)), (3, .int (nI (by2 f p0))), (4, .int (nI p)), (5, .int (nI i))], [], M)) rfl rfl rfl (fun c_20 => ?_) (fun c_20 => ?_)
      · have c_20 : (nI (by2 f p0)) ≤ (nI i) := of_decide_eq_true c_20
        have n_20 : by2 f p0 ≤ i := (le_nI (p := by2 f p0) (n := i) (Nat.lt_trans (by2_lt _ _) (by decide)) (by omega)).mp c_20
        refine ps_st (S' := (75, [(0, .ref ac), (2, .int (nI e)), (3, .int (nI (by2 f p0))), (4, .int (nI p)), (5, .int (nI i))], [.int (nI p)], M)) rfl rfl rfl ?_
        exact ps_reti rfl (Or.inr ⟨p, by
            rw [← hs]
            rw [show by2 f p0 - i = 0 by omega]
            rfl, by omega, rfl, rfl⟩)
      · have c_20 : ¬ ((nI (by2 f p0)) ≤ (nI i)) := of_decide_eq_false c_20
        have n_20 : ¬ (by2 f p0 ≤ i) := fun h9 => c_20 ((le_nI (p := by2 f p0) (n := i) (Nat.lt_trans (by2_lt _ _) (by decide)) (by omega)).mpr h9)
        refine ps_st (S' := (24, [(0, .ref ac), (2, .int (nI e)), (3, .int (nI (by2 f p0))), (4, .int (nI p)), (5, .int (nI i))], [.int (nI e)], M)) rfl rfl rfl ?_
        refine ps_st (S' := (26, [(0, .ref ac), (2, .int (nI e)), (3, .int (nI (by2 f p0))), (4, .int (nI p)), (5, .int (nI i))], [.int (nI p), .int (nI e)], M)) rfl rfl rfl ?_
        refine ps_st (S' := (27, [(0, .ref ac), (2, .int (nI e)), (3, .int (nI (by2 f p0))), (4, .int (nI p)), (5, .int (nI i))], [.int ((nI e) - (nI p))], M)) rfl rfl rfl ?_
        refine ps_st (S' := (29, [(0, .ref ac), (2, .int (nI e)), (3, .int (nI (by2 f p0))), (4, .int (nI p)), (5, .int (nI i))], [.int 6, .int ((nI e) - (nI p))], M)) rfl rfl rfl ?_
        refine ps_if2 (S1 := (34, [(0, .ref ac), (2, .int (nI e)), (3, .int (nI (by2 f p0))), (4, .int (nI p)), (5, .int (nI i))], [], M)) (S2 := (32, [(0, .ref ac), (2, .int (nI e)), (3, .int (nI (by2 f p0))), (4, .int (nI p)), (5, .int (nI i))], [], M)) rfl rfl rfl (fun c_29 => ?_) (fun c_29 => ?_)
        · have c_29 : 6 ≤ ((nI e) - (nI p)) := of_decide_eq_true c_29
          have n_29 : 6 + p ≤ e := (le_sub1 (e := e) (p := p) (k := 6) (by omega) (by omega) (by omega)).mp c_29
          refine ps_st (S' := (35, [(0, .ref ac), (2, .int (nI e)), (3, .int (nI (by2 f p0))), (4, .int (nI p)), (5, .int (nI i))], [.ref ac], M)) rfl rfl rfl ?_
          refine ps_get (S' := (38, [(0, .ref ac), (2, .int (nI e)), (3, .int (nI (by2 f p0))), (4, .int (nI p)), (5, .int (nI i))], [.ref b], M)) rfl h_ac rfl rfl ?_
          refine ps_st (S' := (40, [(0, .ref ac), (2, .int (nI e)), (3, .int (nI (by2 f p0))), (4, .int (nI p)), (5, .int (nI i))], [.int (nI p), .ref b], M)) rfl rfl rfl ?_
          refine ps_st (S' := (42, [(0, .ref ac), (2, .int (nI e)), (3, .int (nI (by2 f p0))), (4, .int (nI p)), (5, .int (nI i))], [.int 6, .int (nI p), .ref b], M)) rfl rfl rfl ?_
          refine ps_st (S' := (43, [(0, .ref ac), (2, .int (nI e)), (3, .int (nI (by2 f p0))), (4, .int (nI p)), (5, .int (nI i))], [.int ((nI p) + 6), .ref b], M)) rfl rfl rfl ?_
          rw [nI_add1 (p := p) (k := 6) (x := 6) rfl (by omega)]
          show pl _ _ _ (_, [(0, .ref ac), (2, .int (nI e)), (3, .int (nI (by2 f p0))), (4, .int (nI p)), (5, .int (nI i))], [.int (nI (p + 6)), .ref b], M) _
          refine ps_st (S' := (44, [(0, .ref ac), (2, .int (nI e)), (3, .int (nI (by2 f p0))), (4, .int (nI p)), (5, .int (nI i))], [.ref ac, .int (nI (p + 6)), .ref b], M)) rfl rfl rfl ?_
          refine ps_get (S' := (47, [(0, .ref ac), (2, .int (nI e)), (3, .int (nI (by2 f p0))), (4, .int (nI p)), (5, .int (nI i))], [.ref b, .int (nI (p + 6)), .ref b], M)) rfl h_ac rfl rfl ?_
          refine ps_st (S' := (49, [(0, .ref ac), (2, .int (nI e)), (3, .int (nI (by2 f p0))), (4, .int (nI p)), (5, .int (nI i))], [.int (nI p), .ref b, .int (nI (p + 6)), .ref b], M)) rfl rfl rfl ?_
          refine ps_st (S' := (50, [(0, .ref ac), (2, .int (nI e)), (3, .int (nI (by2 f p0))), (4, .int (nI p)), (5, .int (nI i))], [.int 4, .int (nI p), .ref b, .int (nI (p + 6)), .ref b], M)) rfl rfl rfl ?_
          refine ps_st (S' := (51, [(0, .ref ac), (2, .int (nI e)), (3, .int (nI (by2 f p0))), (4, .int (nI p)), (5, .int (nI i))], [.int ((nI p) + 4), .ref b, .int (nI (p + 6)), .ref b], M)) rfl rfl rfl ?_
          rw [nI_add1 (p := p) (k := 4) (x := 4) rfl (by omega)]
          show pl _ _ _ (_, [(0, .ref ac), (2, .int (nI e)), (3, .int (nI (by2 f p0))), (4, .int (nI p)), (5, .int (nI i))], [.int (nI (p + 4)), .ref b, .int (nI (p + 6)), .ref b], M) _
          refine pl_call (a := [.ref b, .int (nI (p + 4))]) (rest := [.int (nI (p + 6)), .ref b]) rfl rfl rfl (dk_u2 (f := f) (n := n) (b := b) (da := da) (p := (p + 4)) h_b h_da (hn) (by omega)) (fun v1 M2 q3 => ?_)
          obtain ⟨rfl, rfl⟩ := q3
          show pl _ _ _ (54, [(0, .ref ac), (2, .int (nI e)), (3, .int (nI (by2 f p0))), (4, .int (nI p)), (5, .int (nI i))], [.int (nI (by2 f (p + 4))), .int (nI (p + 6)), .ref b], M) _
          have hu_51 := by2_lt f (p + 4)
          refine ps_st (S' := (55, [(0, .ref ac), (2, .int (nI e)), (3, .int (nI (by2 f p0))), (4, .int (nI p)), (5, .int (nI i))], [.int (nI e), .int (nI (by2 f (p + 4))), .int (nI (p + 6)), .ref b], M)) rfl rfl rfl ?_
          refine pl_call (a := [.ref b, .int (nI (p + 6)), .int (nI (by2 f (p + 4))), .int (nI e)]) (rest := []) rfl rfl rfl (dk_attributesEnd (f := f) (n := n) (b := b) (da := da) (p0 := (p + 6)) (e := e) (t := (by2 f (p + 4))) h_b h_da (hn) (by omega) (by2_lt _ _)) (fun v4 M5 q6 => ?_)
          rcases q6 with q6 | q6
          · skip
            obtain ⟨q55_s, rfl, rfl⟩ := q6
            show pl _ _ _ (58, [(0, .ref ac), (2, .int (nI e)), (3, .int (nI (by2 f p0))), (4, .int (nI p)), (5, .int (nI i))], [.int (-1)], M) _
            refine ps_st (S' := (60, [(4, .int (-1)), (0, .ref ac), (2, .int (nI e)), (3, .int (nI (by2 f p0))), (5, .int (nI i))], [], M)) rfl rfl rfl ?_
            refine ps_st (S' := (62, [(4, .int (-1)), (0, .ref ac), (2, .int (nI e)), (3, .int (nI (by2 f p0))), (5, .int (nI i))], [.int (-1)], M)) rfl rfl rfl ?_
            refine ps_if (S1 := (67, [(4, .int (-1)), (0, .ref ac), (2, .int (nI e)), (3, .int (nI (by2 f p0))), (5, .int (nI i))], [], M)) (S2 := (65, [(4, .int (-1)), (0, .ref ac), (2, .int (nI e)), (3, .int (nI (by2 f p0))), (5, .int (nI i))], [], M)) rfl rfl rfl (fun c_62 => ?_) (fun c_62 => ?_)
            · exact absurd (of_decide_eq_true c_62) (by decide)
            refine ps_st (S' := (66, [(4, .int (-1)), (0, .ref ac), (2, .int (nI e)), (3, .int (nI (by2 f p0))), (5, .int (nI i))], [.int (-1)], M)) rfl rfl rfl ?_
            exact ps_ret rfl rfl (Or.inl ⟨by
                rw [← hs]
                rw [s_rcE_st (i := i) (p := p) (by omega)]
                rw [q55_s]
                dsimp only
                first | ((repeat first | rw [if_pos (by omega)] | rw [if_neg (by omega)]) <;> first | rfl | omega) | ((repeat' split) <;> first | rfl | (exfalso; omega) | omega), rfl, rfl⟩)
          · skip
            obtain ⟨x7, q55_s, q55_l, rfl, rfl⟩ := q6
            show pl _ _ _ (58, [(0, .ref ac), (2, .int (nI e)), (3, .int (nI (by2 f p0))), (4, .int (nI p)), (5, .int (nI i))], [.int (nI x7)], M) _
            have hl_55 := s_atE_le (by omega) q55_s
            refine ps_st (S' := (60, [(4, .int (nI x7)), (0, .ref ac), (2, .int (nI e)), (3, .int (nI (by2 f p0))), (5, .int (nI i))], [], M)) rfl rfl rfl ?_
            refine ps_st (S' := (62, [(4, .int (nI x7)), (0, .ref ac), (2, .int (nI e)), (3, .int (nI (by2 f p0))), (5, .int (nI i))], [.int (nI x7)], M)) rfl rfl rfl ?_
            refine ps_if (S1 := (67, [(4, .int (nI x7)), (0, .ref ac), (2, .int (nI e)), (3, .int (nI (by2 f p0))), (5, .int (nI i))], [], M)) (S2 := (65, [(4, .int (nI x7)), (0, .ref ac), (2, .int (nI e)), (3, .int (nI (by2 f p0))), (5, .int (nI i))], [], M)) rfl rfl rfl (fun c_62 => ?_) (fun c_62 => ?_)
            rotate_left
            · exact absurd (Int32.not_lt.mp (nI_n0 (by omega))) (of_decide_eq_false c_62)
            refine ps_st (S' := (70, [(5, .int ((nI i) + 1)), (4, .int (nI x7)), (0, .ref ac), (2, .int (nI e)), (3, .int (nI (by2 f p0)))], [], M)) rfl rfl rfl ?_
            rw [nI_add1 (p := i) (k := 1) (x := 1) rfl (by omega)]
            show pl _ _ _ (_, [(5, .int (nI (i + 1))), (4, .int (nI x7)), (0, .ref ac), (2, .int (nI e)), (3, .int (nI (by2 f p0)))], [], M) _
            refine ps_st (S' := (17, [(0, .ref ac), (2, .int (nI e)), (3, .int (nI (by2 f p0))), (4, .int (nI x7)), (5, .int (nI (i + 1)))], [], M)) rfl rfl rfl ?_
            exact ih (i + 1) (x7)  (by omega) (by omega) (by
                rw [← hs, s_rcE_st (i := i) (p := p) (by omega), if_neg (by omega), q55_s])
        · have c_29 : ¬ (6 ≤ ((nI e) - (nI p))) := of_decide_eq_false c_29
          have n_29 : ¬ (6 + p ≤ e) := fun h8 => c_29 ((le_sub1 (e := e) (p := p) (k := 6) (by omega) (by omega) (by omega)).mpr h8)
          refine ps_st (S' := (33, [(0, .ref ac), (2, .int (nI e)), (3, .int (nI (by2 f p0))), (4, .int (nI p)), (5, .int (nI i))], [.int (-1)], M)) rfl rfl rfl ?_
          exact ps_ret rfl rfl (Or.inl ⟨by
              rw [← hs]
              rw [s_rcE_st (i := i) (p := p) (by omega)]
              first | ((repeat first | rw [if_pos (by omega)] | rw [if_neg (by omega)]) <;> first | rfl | omega) | ((repeat' split) <;> first | rfl | (exfalso; omega) | omega), rfl, rfl⟩)
  refine ps_st (S' := (1, [(0, .ref ac), (1, .int (nI p0)), (2, .int (nI e))], [.ref ac], M)) rfl rfl rfl ?_
  refine ps_get (S' := (4, [(0, .ref ac), (1, .int (nI p0)), (2, .int (nI e))], [.ref b], M)) rfl h_ac rfl rfl ?_
  refine ps_st (S' := (5, [(0, .ref ac), (1, .int (nI p0)), (2, .int (nI e))], [.int (nI p0), .ref b], M)) rfl rfl rfl ?_
  refine pl_call (a := [.ref b, .int (nI p0)]) (rest := []) rfl rfl rfl (dk_u2 (f := f) (n := n) (b := b) (da := da) (p := p0) h_b h_da (hn) (by omega)) (fun v8 M9 q10 => ?_)
  obtain ⟨rfl, rfl⟩ := q10
  show pl _ _ _ (8, [(0, .ref ac), (1, .int (nI p0)), (2, .int (nI e))], [.int (nI (by2 f p0))], M) _
  have hu_5 := by2_lt f p0
  refine ps_st (S' := (9, [(3, .int (nI (by2 f p0))), (0, .ref ac), (1, .int (nI p0)), (2, .int (nI e))], [], M)) rfl rfl rfl ?_
  refine ps_st (S' := (10, [(3, .int (nI (by2 f p0))), (0, .ref ac), (1, .int (nI p0)), (2, .int (nI e))], [.int (nI p0)], M)) rfl rfl rfl ?_
  refine ps_st (S' := (11, [(3, .int (nI (by2 f p0))), (0, .ref ac), (1, .int (nI p0)), (2, .int (nI e))], [.int 2, .int (nI p0)], M)) rfl rfl rfl ?_
  refine ps_st (S' := (12, [(3, .int (nI (by2 f p0))), (0, .ref ac), (1, .int (nI p0)), (2, .int (nI e))], [.int ((nI p0) + 2)], M)) rfl rfl rfl ?_
  rw [nI_add1 (p := p0) (k := 2) (x := 2) rfl (by omega)]
  show pl _ _ _ (_, [(3, .int (nI (by2 f p0))), (0, .ref ac), (1, .int (nI p0)), (2, .int (nI e))], [.int (nI (p0 + 2))], M) _
  refine ps_st (S' := (14, [(4, .int (nI (p0 + 2))), (3, .int (nI (by2 f p0))), (0, .ref ac), (1, .int (nI p0)), (2, .int (nI e))], [], M)) rfl rfl rfl ?_
  refine ps_st (S' := (15, [(4, .int (nI (p0 + 2))), (3, .int (nI (by2 f p0))), (0, .ref ac), (1, .int (nI p0)), (2, .int (nI e))], [.int 0], M)) rfl rfl rfl ?_
  refine ps_st (S' := (17, [(0, .ref ac), (2, .int (nI e)), (3, .int (nI (by2 f p0))), (4, .int (nI (p0 + 2))), (5, .int 0)], [], M)) rfl rfl rfl ?_
  exact (LL kf) (0) (p0 + 2)  (by omega) (by omega) (rfl)
set_option maxHeartbeats 1000000 in
theorem dk_codeEnd {g : xe_G} {M : mi_H} {f : Nat → Int32} {n q ac c b da vd : Nat} {s1 : Int32} {p0 e : Nat} (h_ac : M.1 ac = some (ob 0 [.ref c, .ref b, .ref q, .ref vd, .int s1])) (h_b : M.1 b = some (ob 1 [.ref da])) (h_da : M.1 da = some (ar .byte n f)) (hn : n ≤ 65540) (he : e ≤ n ∧ p0 + 2 ≤ e) : pt (mT g) 29 [.ref ac, .int (nI p0), .int (nI e)] M (fun v M' => ((s_cdE f e p0 = none) ∧ v = some (.int (-1)) ∧ M = M') ∨ (∃ (x : Nat), (s_cdE f e p0 = some x) ∧ (x < 1000000) ∧ v = some (.int (nI x)) ∧ M = M')) := by
  refine pt_in (b := mb_29 g) rfl (fun kf => ?_)
  show pl (mT g) kf (mb_29 g).2 (0, [(0, .ref ac), (1, .int (nI p0)), (2, .int (nI e))], [], M) _
  refine ps_st (S' := (1, [(0, .ref ac), (1, .int (nI p0)), (2, .int (nI e))], [.int (nI e)], M)) rfl rfl rfl ?_
  refine ps_st (S' := (2, [(0, .ref ac), (1, .int (nI p0)), (2, .int (nI e))], [.int (nI p0), .int (nI e)], M)) rfl rfl rfl ?_
  refine ps_st (S' := (3, [(0, .ref ac), (1, .int (nI p0)), (2, .int (nI e))], [.int ((nI e) - (nI p0))], M)) rfl rfl rfl ?_
  refine ps_st (S' := (5, [(0, .ref ac), (1, .int (nI p0)), (2, .int (nI e))], [.int 8, .int ((nI e) - (nI p0))], M)) rfl rfl rfl ?_
  refine ps_if2 (S1 := (10, [(0, .ref ac), (1, .int (nI p0)), (2, .int (nI e))], [], M)) (S2 := (8, [(0, .ref ac), (1, .int (nI p0)), (2, .int (nI e))], [], M)) rfl rfl rfl (fun c_5 => ?_) (fun c_5 => ?_)
  · have c_5 : 8 ≤ ((nI e) - (nI p0)) := of_decide_eq_true c_5
    have n_5 : 8 + p0 ≤ e := (le_sub1 (e := e) (p := p0) (k := 8) (by omega) (by omega) (by omega)).mp c_5
    refine ps_st (S' := (11, [(0, .ref ac), (1, .int (nI p0)), (2, .int (nI e))], [.ref ac], M)) rfl rfl rfl ?_
    refine ps_get (S' := (14, [(0, .ref ac), (1, .int (nI p0)), (2, .int (nI e))], [.ref b], M)) rfl h_ac rfl rfl ?_
    refine ps_st (S' := (15, [(0, .ref ac), (1, .int (nI p0)), (2, .int (nI e))], [.int (nI p0), .ref b], M)) rfl rfl rfl ?_
    refine ps_st (S' := (16, [(0, .ref ac), (1, .int (nI p0)), (2, .int (nI e))], [.int 4, .int (nI p0), .ref b], M)) rfl rfl rfl ?_
    refine ps_st (S' := (17, [(0, .ref ac), (1, .int (nI p0)), (2, .int (nI e))], [.int ((nI p0) + 4), .ref b], M)) rfl rfl rfl ?_
    rw [nI_add1 (p := p0) (k := 4) (x := 4) rfl (by omega)]
    show pl _ _ _ (_, [(0, .ref ac), (1, .int (nI p0)), (2, .int (nI e))], [.int (nI (p0 + 4)), .ref b], M) _
    refine pl_call (a := [.ref b, .int (nI (p0 + 4))]) (rest := []) rfl rfl rfl (dk_u4 (f := f) (n := n) (b := b) (da := da) (p := (p0 + 4)) h_b h_da (hn) (by omega)) (fun v1 M2 q3 => ?_)
    obtain ⟨rfl, rfl⟩ := q3
    show pl _ _ _ (20, [(0, .ref ac), (1, .int (nI p0)), (2, .int (nI e))], [.int (nI (by4 f (p0 + 4)))], M) _
    have hu_17 := by4_lt f (p0 + 4)
    refine ps_st (S' := (21, [(3, .int (nI (by4 f (p0 + 4)))), (0, .ref ac), (1, .int (nI p0)), (2, .int (nI e))], [], M)) rfl rfl rfl ?_
    refine ps_st (S' := (22, [(3, .int (nI (by4 f (p0 + 4)))), (0, .ref ac), (1, .int (nI p0)), (2, .int (nI e))], [.int (nI (by4 f (p0 + 4)))], M)) rfl rfl rfl ?_
    refine ps_if (S1 := (35, [], [], M)) (S2 := (25, [(3, .int (nI (by4 f (p0 + 4)))), (0, .ref ac), (1, .int (nI p0)), (2, .int (nI e))], [], M)) rfl rfl rfl (fun c_22 => ?_) (fun c_22 => ?_)
    · have c_22 : (nI (by4 f (p0 + 4))) < 0 := of_decide_eq_true c_22
      have n_22 : 2147483648 ≤ by4 f (p0 + 4) := (neg_nI (by4_lt _ _)).mp c_22
      refine ps_st (S' := (36, [], [.int (-1)], M)) rfl rfl rfl ?_
      exact ps_ret rfl rfl (Or.inl ⟨by
          unfold s_cdE
          first | ((repeat first | rw [if_pos (by omega)] | rw [if_neg (by omega)]) <;> first | rfl | omega) | ((repeat' split) <;> first | rfl | (exfalso; omega) | omega), rfl, rfl⟩)
    · have c_22 : ¬ ((nI (by4 f (p0 + 4))) < 0) := of_decide_eq_false c_22
      have n_22 : ¬ (2147483648 ≤ by4 f (p0 + 4)) := fun h9 => c_22 ((neg_nI (by4_lt _ _)).mpr h9)
      refine ps_st (S' := (26, [(3, .int (nI (by4 f (p0 + 4)))), (0, .ref ac), (1, .int (nI p0)), (2, .int (nI e))], [.int (nI (by4 f (p0 + 4)))], M)) rfl rfl rfl ?_
      refine ps_st (S' := (27, [(3, .int (nI (by4 f (p0 + 4)))), (0, .ref ac), (1, .int (nI p0)), (2, .int (nI e))], [.int (nI e), .int (nI (by4 f (p0 + 4)))], M)) rfl rfl rfl ?_
      refine ps_st (S' := (28, [(3, .int (nI (by4 f (p0 + 4)))), (0, .ref ac), (1, .int (nI p0)), (2, .int (nI e))], [.int (nI p0), .int (nI e), .int (nI (by4 f (p0 + 4)))], M)) rfl rfl rfl ?_
      refine ps_st (S' := (29, [(3, .int (nI (by4 f (p0 + 4)))), (0, .ref ac), (1, .int (nI p0)), (2, .int (nI e))], [.int ((nI e) - (nI p0)), .int (nI (by4 f (p0 + 4)))], M)) rfl rfl rfl ?_
      refine ps_st (S' := (31, [(3, .int (nI (by4 f (p0 + 4)))), (0, .ref ac), (1, .int (nI p0)), (2, .int (nI e))], [.int 8, .int ((nI e) - (nI p0)), .int (nI (by4 f (p0 + 4)))], M)) rfl rfl rfl ?_
      refine ps_st (S' := (32, [(3, .int (nI (by4 f (p0 + 4)))), (0, .ref ac), (1, .int (nI p0)), (2, .int (nI e))], [.int (((nI e) - (nI p0)) - 8), .int (nI (by4 f (p0 + 4)))], M)) rfl rfl rfl ?_
      refine ps_if2 (S1 := (37, [(3, .int (nI (by4 f (p0 + 4)))), (0, .ref ac), (1, .int (nI p0)), (2, .int (nI e))], [], M)) (S2 := (35, [], [], M)) rfl rfl rfl (fun c_32 => ?_) (fun c_32 => ?_)
      · have c_32 : (nI (by4 f (p0 + 4))) ≤ (((nI e) - (nI p0)) - 8) := of_decide_eq_true c_32
        have n_32 : (by4 f (p0 + 4)) + (p0 + 8) ≤ e := (le_sub2 (e := e) (p := p0) (p2 := 8) (k := by4 f (p0 + 4)) (by omega) (by omega) (by omega)).mp c_32
        refine ps_st (S' := (38, [(3, .int (nI (by4 f (p0 + 4)))), (0, .ref ac), (1, .int (nI p0)), (2, .int (nI e))], [.int (nI p0)], M)) rfl rfl rfl ?_
        refine ps_st (S' := (40, [(3, .int (nI (by4 f (p0 + 4)))), (0, .ref ac), (1, .int (nI p0)), (2, .int (nI e))], [.int 8, .int (nI p0)], M)) rfl rfl rfl ?_
        refine ps_st (S' := (41, [(3, .int (nI (by4 f (p0 + 4)))), (0, .ref ac), (1, .int (nI p0)), (2, .int (nI e))], [.int ((nI p0) + 8)], M)) rfl rfl rfl ?_
        rw [nI_add1 (p := p0) (k := 8) (x := 8) rfl (by omega)]
        show pl _ _ _ (_, [(3, .int (nI (by4 f (p0 + 4)))), (0, .ref ac), (1, .int (nI p0)), (2, .int (nI e))], [.int (nI (p0 + 8))], M) _
        refine ps_st (S' := (42, [(3, .int (nI (by4 f (p0 + 4)))), (0, .ref ac), (1, .int (nI p0)), (2, .int (nI e))], [.int (nI (by4 f (p0 + 4))), .int (nI (p0 + 8))], M)) rfl rfl rfl ?_
        refine ps_st (S' := (43, [(3, .int (nI (by4 f (p0 + 4)))), (0, .ref ac), (1, .int (nI p0)), (2, .int (nI e))], [.int ((nI (p0 + 8)) + (nI (by4 f (p0 + 4))))], M)) rfl rfl rfl ?_
        rw [nI_add1 (p := p0 + 8) (k := by4 f (p0 + 4)) (x := (nI (by4 f (p0 + 4)))) rfl (by omega)]
        show pl _ _ _ (_, [(3, .int (nI (by4 f (p0 + 4)))), (0, .ref ac), (1, .int (nI p0)), (2, .int (nI e))], [.int (nI (p0 + 8 + by4 f (p0 + 4)))], M) _
        refine ps_st (S' := (45, [(4, .int (nI (p0 + 8 + by4 f (p0 + 4)))), (3, .int (nI (by4 f (p0 + 4)))), (0, .ref ac), (1, .int (nI p0)), (2, .int (nI e))], [], M)) rfl rfl rfl ?_
        refine ps_st (S' := (46, [(4, .int (nI (p0 + 8 + by4 f (p0 + 4)))), (3, .int (nI (by4 f (p0 + 4)))), (0, .ref ac), (1, .int (nI p0)), (2, .int (nI e))], [.int (nI e)], M)) rfl rfl rfl ?_
        refine ps_st (S' := (48, [(4, .int (nI (p0 + 8 + by4 f (p0 + 4)))), (3, .int (nI (by4 f (p0 + 4)))), (0, .ref ac), (1, .int (nI p0)), (2, .int (nI e))], [.int (nI (p0 + 8 + by4 f (p0 + 4))), .int (nI e)], M)) rfl rfl rfl ?_
        refine ps_st (S' := (49, [(4, .int (nI (p0 + 8 + by4 f (p0 + 4)))), (3, .int (nI (by4 f (p0 + 4)))), (0, .ref ac), (1, .int (nI p0)), (2, .int (nI e))], [.int ((nI e) - (nI (p0 + 8 + by4 f (p0 + 4))))], M)) rfl rfl rfl ?_
        refine ps_st (S' := (50, [(4, .int (nI (p0 + 8 + by4 f (p0 + 4)))), (3, .int (nI (by4 f (p0 + 4)))), (0, .ref ac), (1, .int (nI p0)), (2, .int (nI e))], [.int 2, .int ((nI e) - (nI (p0 + 8 + by4 f (p0 + 4))))], M)) rfl rfl rfl ?_
        refine ps_if2 (S1 := (74, [], [], M)) (S2 := (53, [(4, .int (nI (p0 + 8 + by4 f (p0 + 4)))), (3, .int (nI (by4 f (p0 + 4)))), (0, .ref ac), (1, .int (nI p0)), (2, .int (nI e))], [], M)) rfl rfl rfl (fun c_50 => ?_) (fun c_50 => ?_)
        · have c_50 : ((nI e) - (nI (p0 + 8 + by4 f (p0 + 4)))) < 2 := of_decide_eq_true c_50
          have n_50 : e < p0 + 8 + by4 f (p0 + 4) + 2 := (sub_lt1 (e := e) (p := p0 + 8 + by4 f (p0 + 4)) (k := 2) (by omega) (by omega) (by omega)).mp c_50
          refine ps_st (S' := (75, [], [.int (-1)], M)) rfl rfl rfl ?_
          exact ps_ret rfl rfl (Or.inl ⟨by
              unfold s_cdE
              first | ((repeat first | rw [if_pos (by omega)] | rw [if_neg (by omega)]) <;> first | rfl | omega) | ((repeat' split) <;> first | rfl | (exfalso; omega) | omega), rfl, rfl⟩)
        · have c_50 : ¬ (((nI e) - (nI (p0 + 8 + by4 f (p0 + 4)))) < 2) := of_decide_eq_false c_50
          have n_50 : ¬ (e < p0 + 8 + by4 f (p0 + 4) + 2) := fun h8 => c_50 ((sub_lt1 (e := e) (p := p0 + 8 + by4 f (p0 + 4)) (k := 2) (by omega) (by omega) (by omega)).mpr h8)
          refine ps_st (S' := (54, [(4, .int (nI (p0 + 8 + by4 f (p0 + 4)))), (3, .int (nI (by4 f (p0 + 4)))), (0, .ref ac), (1, .int (nI p0)), (2, .int (nI e))], [.int (nI e)], M)) rfl rfl rfl ?_
          refine ps_st (S' := (56, [(4, .int (nI (p0 + 8 + by4 f (p0 + 4)))), (3, .int (nI (by4 f (p0 + 4)))), (0, .ref ac), (1, .int (nI p0)), (2, .int (nI e))], [.int (nI (p0 + 8 + by4 f (p0 + 4))), .int (nI e)], M)) rfl rfl rfl ?_
          refine ps_st (S' := (57, [(4, .int (nI (p0 + 8 + by4 f (p0 + 4)))), (3, .int (nI (by4 f (p0 + 4)))), (0, .ref ac), (1, .int (nI p0)), (2, .int (nI e))], [.int ((nI e) - (nI (p0 + 8 + by4 f (p0 + 4))))], M)) rfl rfl rfl ?_
          refine ps_st (S' := (58, [(4, .int (nI (p0 + 8 + by4 f (p0 + 4)))), (3, .int (nI (by4 f (p0 + 4)))), (0, .ref ac), (1, .int (nI p0)), (2, .int (nI e))], [.int 2, .int ((nI e) - (nI (p0 + 8 + by4 f (p0 + 4))))], M)) rfl rfl rfl ?_
          refine ps_st (S' := (59, [(4, .int (nI (p0 + 8 + by4 f (p0 + 4)))), (3, .int (nI (by4 f (p0 + 4)))), (0, .ref ac), (1, .int (nI p0)), (2, .int (nI e))], [.int (((nI e) - (nI (p0 + 8 + by4 f (p0 + 4)))) - 2)], M)) rfl rfl rfl ?_
          refine ps_st (S' := (61, [(4, .int (nI (p0 + 8 + by4 f (p0 + 4)))), (3, .int (nI (by4 f (p0 + 4)))), (0, .ref ac), (1, .int (nI p0)), (2, .int (nI e))], [.int 8, .int (((nI e) - (nI (p0 + 8 + by4 f (p0 + 4)))) - 2)], M)) rfl rfl rfl ?_
          refine ps_st (S' := (62, [(4, .int (nI (p0 + 8 + by4 f (p0 + 4)))), (3, .int (nI (by4 f (p0 + 4)))), (0, .ref ac), (1, .int (nI p0)), (2, .int (nI e))], [.ref ac, .int 8, .int (((nI e) - (nI (p0 + 8 + by4 f (p0 + 4)))) - 2)], M)) rfl rfl rfl ?_
          refine ps_get (S' := (65, [(4, .int (nI (p0 + 8 + by4 f (p0 + 4)))), (3, .int (nI (by4 f (p0 + 4)))), (0, .ref ac), (1, .int (nI p0)), (2, .int (nI e))], [.ref b, .int 8, .int (((nI e) - (nI (p0 + 8 + by4 f (p0 + 4)))) - 2)], M)) rfl h_ac rfl rfl ?_
          refine ps_st (S' := (67, [(4, .int (nI (p0 + 8 + by4 f (p0 + 4)))), (3, .int (nI (by4 f (p0 + 4)))), (0, .ref ac), (1, .int (nI p0)), (2, .int (nI e))], [.int (nI (p0 + 8 + by4 f (p0 + 4))), .ref b, .int 8, .int (((nI e) - (nI (p0 + 8 + by4 f (p0 + 4)))) - 2)], M)) rfl rfl rfl ?_
          refine pl_call (a := [.ref b, .int (nI (p0 + 8 + by4 f (p0 + 4)))]) (rest := [.int 8, .int (((nI e) - (nI (p0 + 8 + by4 f (p0 + 4)))) - 2)]) rfl rfl rfl (dk_u2 (f := f) (n := n) (b := b) (da := da) (p := (p0 + 8 + by4 f (p0 + 4))) h_b h_da (hn) (by omega)) (fun v4 M5 q6 => ?_)
          obtain ⟨rfl, rfl⟩ := q6
          show pl _ _ _ (70, [(4, .int (nI (p0 + 8 + by4 f (p0 + 4)))), (3, .int (nI (by4 f (p0 + 4)))), (0, .ref ac), (1, .int (nI p0)), (2, .int (nI e))], [.int (nI (by2 f (p0 + 8 + by4 f (p0 + 4)))), .int 8, .int (((nI e) - (nI (p0 + 8 + by4 f (p0 + 4)))) - 2)], M) _
          have hu_67 := by2_lt f (p0 + 8 + by4 f (p0 + 4))
          refine ps_st (S' := (71, [(4, .int (nI (p0 + 8 + by4 f (p0 + 4)))), (3, .int (nI (by4 f (p0 + 4)))), (0, .ref ac), (1, .int (nI p0)), (2, .int (nI e))], [.int (8 * (nI (by2 f (p0 + 8 + by4 f (p0 + 4))))), .int (((nI e) - (nI (p0 + 8 + by4 f (p0 + 4)))) - 2)], M)) rfl rfl rfl ?_
          rw [nI_mul1 (p := 8) (k := by2 f (p0 + 8 + by4 f (p0 + 4))) (x := 8) (y := (nI (by2 f (p0 + 8 + by4 f (p0 + 4))))) rfl rfl (by omega)]
          show pl _ _ _ (_, [(4, .int (nI (p0 + 8 + by4 f (p0 + 4)))), (3, .int (nI (by4 f (p0 + 4)))), (0, .ref ac), (1, .int (nI p0)), (2, .int (nI e))], [.int (nI (8 * (by2 f (p0 + 8 + by4 f (p0 + 4))))), .int (((nI e) - (nI (p0 + 8 + by4 f (p0 + 4)))) - 2)], M) _
          refine ps_if2 (S1 := (76, [(4, .int (nI (p0 + 8 + by4 f (p0 + 4)))), (3, .int (nI (by4 f (p0 + 4)))), (0, .ref ac), (1, .int (nI p0)), (2, .int (nI e))], [], M)) (S2 := (74, [], [], M)) rfl rfl rfl (fun c_71 => ?_) (fun c_71 => ?_)
          · have c_71 : (nI (8 * (by2 f (p0 + 8 + by4 f (p0 + 4))))) ≤ (((nI e) - (nI (p0 + 8 + by4 f (p0 + 4)))) - 2) := of_decide_eq_true c_71
            have n_71 : (8 * (by2 f (p0 + 8 + by4 f (p0 + 4)))) + (p0 + 8 + by4 f (p0 + 4) + 2) ≤ e := (le_sub2 (e := e) (p := p0 + 8 + by4 f (p0 + 4)) (p2 := 2) (k := 8 * (by2 f (p0 + 8 + by4 f (p0 + 4)))) (by omega) (by omega) (by omega)).mp c_71
            refine ps_st (S' := (78, [(4, .int (nI (p0 + 8 + by4 f (p0 + 4)))), (3, .int (nI (by4 f (p0 + 4)))), (0, .ref ac), (1, .int (nI p0)), (2, .int (nI e))], [.int (nI (p0 + 8 + by4 f (p0 + 4)))], M)) rfl rfl rfl ?_
            refine ps_st (S' := (79, [(4, .int (nI (p0 + 8 + by4 f (p0 + 4)))), (3, .int (nI (by4 f (p0 + 4)))), (0, .ref ac), (1, .int (nI p0)), (2, .int (nI e))], [.int 2, .int (nI (p0 + 8 + by4 f (p0 + 4)))], M)) rfl rfl rfl ?_
            refine ps_st (S' := (80, [(4, .int (nI (p0 + 8 + by4 f (p0 + 4)))), (3, .int (nI (by4 f (p0 + 4)))), (0, .ref ac), (1, .int (nI p0)), (2, .int (nI e))], [.int ((nI (p0 + 8 + by4 f (p0 + 4))) + 2)], M)) rfl rfl rfl ?_
            rw [nI_add1 (p := p0 + 8 + by4 f (p0 + 4)) (k := 2) (x := 2) rfl (by omega)]
            show pl _ _ _ (_, [(4, .int (nI (p0 + 8 + by4 f (p0 + 4)))), (3, .int (nI (by4 f (p0 + 4)))), (0, .ref ac), (1, .int (nI p0)), (2, .int (nI e))], [.int (nI (p0 + 8 + by4 f (p0 + 4) + 2))], M) _
            refine ps_st (S' := (82, [(4, .int (nI (p0 + 8 + by4 f (p0 + 4)))), (3, .int (nI (by4 f (p0 + 4)))), (0, .ref ac), (1, .int (nI p0)), (2, .int (nI e))], [.int 8, .int (nI (p0 + 8 + by4 f (p0 + 4) + 2))], M)) rfl rfl rfl ?_
            refine ps_st (S' := (83, [(4, .int (nI (p0 + 8 + by4 f (p0 + 4)))), (3, .int (nI (by4 f (p0 + 4)))), (0, .ref ac), (1, .int (nI p0)), (2, .int (nI e))], [.ref ac, .int 8, .int (nI (p0 + 8 + by4 f (p0 + 4) + 2))], M)) rfl rfl rfl ?_
            refine ps_get (S' := (86, [(4, .int (nI (p0 + 8 + by4 f (p0 + 4)))), (3, .int (nI (by4 f (p0 + 4)))), (0, .ref ac), (1, .int (nI p0)), (2, .int (nI e))], [.ref b, .int 8, .int (nI (p0 + 8 + by4 f (p0 + 4) + 2))], M)) rfl h_ac rfl rfl ?_
            refine ps_st (S' := (88, [(4, .int (nI (p0 + 8 + by4 f (p0 + 4)))), (3, .int (nI (by4 f (p0 + 4)))), (0, .ref ac), (1, .int (nI p0)), (2, .int (nI e))], [.int (nI (p0 + 8 + by4 f (p0 + 4))), .ref b, .int 8, .int (nI (p0 + 8 + by4 f (p0 + 4) + 2))], M)) rfl rfl rfl ?_
            refine pl_call (a := [.ref b, .int (nI (p0 + 8 + by4 f (p0 + 4)))]) (rest := [.int 8, .int (nI (p0 + 8 + by4 f (p0 + 4) + 2))]) rfl rfl rfl (dk_u2 (f := f) (n := n) (b := b) (da := da) (p := (p0 + 8 + by4 f (p0 + 4))) h_b h_da (hn) (by omega)) (fun v7 M8 q9 => ?_)
            obtain ⟨rfl, rfl⟩ := q9
            show pl _ _ _ (91, [(4, .int (nI (p0 + 8 + by4 f (p0 + 4)))), (3, .int (nI (by4 f (p0 + 4)))), (0, .ref ac), (1, .int (nI p0)), (2, .int (nI e))], [.int (nI (by2 f (p0 + 8 + by4 f (p0 + 4)))), .int 8, .int (nI (p0 + 8 + by4 f (p0 + 4) + 2))], M) _
            have hu_88 := by2_lt f (p0 + 8 + by4 f (p0 + 4))
            refine ps_st (S' := (92, [(4, .int (nI (p0 + 8 + by4 f (p0 + 4)))), (3, .int (nI (by4 f (p0 + 4)))), (0, .ref ac), (1, .int (nI p0)), (2, .int (nI e))], [.int (8 * (nI (by2 f (p0 + 8 + by4 f (p0 + 4))))), .int (nI (p0 + 8 + by4 f (p0 + 4) + 2))], M)) rfl rfl rfl ?_
            rw [nI_mul1 (p := 8) (k := by2 f (p0 + 8 + by4 f (p0 + 4))) (x := 8) (y := (nI (by2 f (p0 + 8 + by4 f (p0 + 4))))) rfl rfl (by omega)]
            show pl _ _ _ (_, [(4, .int (nI (p0 + 8 + by4 f (p0 + 4)))), (3, .int (nI (by4 f (p0 + 4)))), (0, .ref ac), (1, .int (nI p0)), (2, .int (nI e))], [.int (nI (8 * (by2 f (p0 + 8 + by4 f (p0 + 4))))), .int (nI (p0 + 8 + by4 f (p0 + 4) + 2))], M) _
            refine ps_st (S' := (93, [(4, .int (nI (p0 + 8 + by4 f (p0 + 4)))), (3, .int (nI (by4 f (p0 + 4)))), (0, .ref ac), (1, .int (nI p0)), (2, .int (nI e))], [.int ((nI (p0 + 8 + by4 f (p0 + 4) + 2)) + (nI (8 * (by2 f (p0 + 8 + by4 f (p0 + 4))))))], M)) rfl rfl rfl ?_
            rw [nI_add1 (p := p0 + 8 + by4 f (p0 + 4) + 2) (k := 8 * (by2 f (p0 + 8 + by4 f (p0 + 4)))) (x := (nI (8 * (by2 f (p0 + 8 + by4 f (p0 + 4)))))) rfl (by omega)]
            show pl _ _ _ (_, [(4, .int (nI (p0 + 8 + by4 f (p0 + 4)))), (3, .int (nI (by4 f (p0 + 4)))), (0, .ref ac), (1, .int (nI p0)), (2, .int (nI e))], [.int (nI (p0 + 8 + by4 f (p0 + 4) + 2 + 8 * (by2 f (p0 + 8 + by4 f (p0 + 4)))))], M) _
            refine ps_st (S' := (95, [(5, .int (nI (p0 + 8 + by4 f (p0 + 4) + 2 + 8 * (by2 f (p0 + 8 + by4 f (p0 + 4)))))), (4, .int (nI (p0 + 8 + by4 f (p0 + 4)))), (3, .int (nI (by4 f (p0 + 4)))), (0, .ref ac), (1, .int (nI p0)), (2, .int (nI e))], [], M)) rfl rfl rfl ?_
            refine ps_st (S' := (96, [(5, .int (nI (p0 + 8 + by4 f (p0 + 4) + 2 + 8 * (by2 f (p0 + 8 + by4 f (p0 + 4)))))), (4, .int (nI (p0 + 8 + by4 f (p0 + 4)))), (3, .int (nI (by4 f (p0 + 4)))), (0, .ref ac), (1, .int (nI p0)), (2, .int (nI e))], [.int (nI e)], M)) rfl rfl rfl ?_
            refine ps_st (S' := (98, [(5, .int (nI (p0 + 8 + by4 f (p0 + 4) + 2 + 8 * (by2 f (p0 + 8 + by4 f (p0 + 4)))))), (4, .int (nI (p0 + 8 + by4 f (p0 + 4)))), (3, .int (nI (by4 f (p0 + 4)))), (0, .ref ac), (1, .int (nI p0)), (2, .int (nI e))], [.int (nI (p0 + 8 + by4 f (p0 + 4) + 2 + 8 * (by2 f (p0 + 8 + by4 f (p0 + 4))))), .int (nI e)], M)) rfl rfl rfl ?_
            refine ps_st (S' := (99, [(5, .int (nI (p0 + 8 + by4 f (p0 + 4) + 2 + 8 * (by2 f (p0 + 8 + by4 f (p0 + 4)))))), (4, .int (nI (p0 + 8 + by4 f (p0 + 4)))), (3, .int (nI (by4 f (p0 + 4)))), (0, .ref ac), (1, .int (nI p0)), (2, .int (nI e))], [.int ((nI e) - (nI (p0 + 8 + by4 f (p0 + 4) + 2 + 8 * (by2 f (p0 + 8 + by4 f (p0 + 4))))))], M)) rfl rfl rfl ?_
            refine ps_st (S' := (100, [(5, .int (nI (p0 + 8 + by4 f (p0 + 4) + 2 + 8 * (by2 f (p0 + 8 + by4 f (p0 + 4)))))), (4, .int (nI (p0 + 8 + by4 f (p0 + 4)))), (3, .int (nI (by4 f (p0 + 4)))), (0, .ref ac), (1, .int (nI p0)), (2, .int (nI e))], [.int 2, .int ((nI e) - (nI (p0 + 8 + by4 f (p0 + 4) + 2 + 8 * (by2 f (p0 + 8 + by4 f (p0 + 4))))))], M)) rfl rfl rfl ?_
            refine ps_if2 (S1 := (105, [(5, .int (nI (p0 + 8 + by4 f (p0 + 4) + 2 + 8 * (by2 f (p0 + 8 + by4 f (p0 + 4)))))), (4, .int (nI (p0 + 8 + by4 f (p0 + 4)))), (3, .int (nI (by4 f (p0 + 4)))), (0, .ref ac), (1, .int (nI p0)), (2, .int (nI e))], [], M)) (S2 := (103, [(5, .int (nI (p0 + 8 + by4 f (p0 + 4) + 2 + 8 * (by2 f (p0 + 8 + by4 f (p0 + 4)))))), (4, .int (nI (p0 + 8 + by4 f (p0 + 4)))), (3, .int (nI (by4 f (p0 + 4)))), (0, .ref ac), (1, .int (nI p0)), (2, .int (nI e))], [], M)) rfl rfl rfl (fun c_100 => ?_) (fun c_100 => ?_)
            · have c_100 : 2 ≤ ((nI e) - (nI (p0 + 8 + by4 f (p0 + 4) + 2 + 8 * (by2 f (p0 + 8 + by4 f (p0 + 4)))))) := of_decide_eq_true c_100
              have n_100 : 2 + (p0 + 8 + by4 f (p0 + 4) + 2 + 8 * (by2 f (p0 + 8 + by4 f (p0 + 4)))) ≤ e := (le_sub1 (e := e) (p := p0 + 8 + by4 f (p0 + 4) + 2 + 8 * (by2 f (p0 + 8 + by4 f (p0 + 4)))) (k := 2) (by omega) (by omega) (by omega)).mp c_100
              refine ps_st (S' := (106, [(5, .int (nI (p0 + 8 + by4 f (p0 + 4) + 2 + 8 * (by2 f (p0 + 8 + by4 f (p0 + 4)))))), (4, .int (nI (p0 + 8 + by4 f (p0 + 4)))), (3, .int (nI (by4 f (p0 + 4)))), (0, .ref ac), (1, .int (nI p0)), (2, .int (nI e))], [.ref ac], M)) rfl rfl rfl ?_
              refine ps_get (S' := (109, [(5, .int (nI (p0 + 8 + by4 f (p0 + 4) + 2 + 8 * (by2 f (p0 + 8 + by4 f (p0 + 4)))))), (4, .int (nI (p0 + 8 + by4 f (p0 + 4)))), (3, .int (nI (by4 f (p0 + 4)))), (0, .ref ac), (1, .int (nI p0)), (2, .int (nI e))], [.ref b], M)) rfl h_ac rfl rfl ?_
              refine ps_st (S' := (111, [(5, .int (nI (p0 + 8 + by4 f (p0 + 4) + 2 + 8 * (by2 f (p0 + 8 + by4 f (p0 + 4)))))), (4, .int (nI (p0 + 8 + by4 f (p0 + 4)))), (3, .int (nI (by4 f (p0 + 4)))), (0, .ref ac), (1, .int (nI p0)), (2, .int (nI e))], [.int (nI (p0 + 8 + by4 f (p0 + 4) + 2 + 8 * (by2 f (p0 + 8 + by4 f (p0 + 4))))), .ref b], M)) rfl rfl rfl ?_
              refine ps_st (S' := (112, [(5, .int (nI (p0 + 8 + by4 f (p0 + 4) + 2 + 8 * (by2 f (p0 + 8 + by4 f (p0 + 4)))))), (4, .int (nI (p0 + 8 + by4 f (p0 + 4)))), (3, .int (nI (by4 f (p0 + 4)))), (0, .ref ac), (1, .int (nI p0)), (2, .int (nI e))], [.int 2, .int (nI (p0 + 8 + by4 f (p0 + 4) + 2 + 8 * (by2 f (p0 + 8 + by4 f (p0 + 4))))), .ref b], M)) rfl rfl rfl ?_
              refine ps_st (S' := (113, [(5, .int (nI (p0 + 8 + by4 f (p0 + 4) + 2 + 8 * (by2 f (p0 + 8 + by4 f (p0 + 4)))))), (4, .int (nI (p0 + 8 + by4 f (p0 + 4)))), (3, .int (nI (by4 f (p0 + 4)))), (0, .ref ac), (1, .int (nI p0)), (2, .int (nI e))], [.int ((nI (p0 + 8 + by4 f (p0 + 4) + 2 + 8 * (by2 f (p0 + 8 + by4 f (p0 + 4))))) + 2), .ref b], M)) rfl rfl rfl ?_
              rw [nI_add1 (p := p0 + 8 + by4 f (p0 + 4) + 2 + 8 * (by2 f (p0 + 8 + by4 f (p0 + 4)))) (k := 2) (x := 2) rfl (by omega)]
              show pl _ _ _ (_, [(5, .int (nI (p0 + 8 + by4 f (p0 + 4) + 2 + 8 * (by2 f (p0 + 8 + by4 f (p0 + 4)))))), (4, .int (nI (p0 + 8 + by4 f (p0 + 4)))), (3, .int (nI (by4 f (p0 + 4)))), (0, .ref ac), (1, .int (nI p0)), (2, .int (nI e))], [.int (nI (p0 + 8 + by4 f (p0 + 4) + 2 + 8 * (by2 f (p0 + 8 + by4 f (p0 + 4))) + 2)), .ref b], M) _
              refine ps_st (S' := (114, [(5, .int (nI (p0 + 8 + by4 f (p0 + 4) + 2 + 8 * (by2 f (p0 + 8 + by4 f (p0 + 4)))))), (4, .int (nI (p0 + 8 + by4 f (p0 + 4)))), (3, .int (nI (by4 f (p0 + 4)))), (0, .ref ac), (1, .int (nI p0)), (2, .int (nI e))], [.ref ac, .int (nI (p0 + 8 + by4 f (p0 + 4) + 2 + 8 * (by2 f (p0 + 8 + by4 f (p0 + 4))) + 2)), .ref b], M)) rfl rfl rfl ?_
              refine ps_get (S' := (117, [(5, .int (nI (p0 + 8 + by4 f (p0 + 4) + 2 + 8 * (by2 f (p0 + 8 + by4 f (p0 + 4)))))), (4, .int (nI (p0 + 8 + by4 f (p0 + 4)))), (3, .int (nI (by4 f (p0 + 4)))), (0, .ref ac), (1, .int (nI p0)), (2, .int (nI e))], [.ref b, .int (nI (p0 + 8 + by4 f (p0 + 4) + 2 + 8 * (by2 f (p0 + 8 + by4 f (p0 + 4))) + 2)), .ref b], M)) rfl h_ac rfl rfl ?_
              refine ps_st (S' := (119, [(5, .int (nI (p0 + 8 + by4 f (p0 + 4) + 2 + 8 * (by2 f (p0 + 8 + by4 f (p0 + 4)))))), (4, .int (nI (p0 + 8 + by4 f (p0 + 4)))), (3, .int (nI (by4 f (p0 + 4)))), (0, .ref ac), (1, .int (nI p0)), (2, .int (nI e))], [.int (nI (p0 + 8 + by4 f (p0 + 4) + 2 + 8 * (by2 f (p0 + 8 + by4 f (p0 + 4))))), .ref b, .int (nI (p0 + 8 + by4 f (p0 + 4) + 2 + 8 * (by2 f (p0 + 8 + by4 f (p0 + 4))) + 2)), .ref b], M)) rfl rfl rfl ?_
              refine pl_call (a := [.ref b, .int (nI (p0 + 8 + by4 f (p0 + 4) + 2 + 8 * (by2 f (p0 + 8 + by4 f (p0 + 4)))))]) (rest := [.int (nI (p0 + 8 + by4 f (p0 + 4) + 2 + 8 * (by2 f (p0 + 8 + by4 f (p0 + 4))) + 2)), .ref b]) rfl rfl rfl (dk_u2 (f := f) (n := n) (b := b) (da := da) (p := (p0 + 8 + by4 f (p0 + 4) + 2 + 8 * (by2 f (p0 + 8 + by4 f (p0 + 4))))) h_b h_da (hn) (by omega)) (fun v10 M11 q12 => ?_)
              obtain ⟨rfl, rfl⟩ := q12
              show pl _ _ _ (122, [(5, .int (nI (p0 + 8 + by4 f (p0 + 4) + 2 + 8 * (by2 f (p0 + 8 + by4 f (p0 + 4)))))), (4, .int (nI (p0 + 8 + by4 f (p0 + 4)))), (3, .int (nI (by4 f (p0 + 4)))), (0, .ref ac), (1, .int (nI p0)), (2, .int (nI e))], [.int (nI (by2 f (p0 + 8 + by4 f (p0 + 4) + 2 + 8 * (by2 f (p0 + 8 + by4 f (p0 + 4)))))), .int (nI (p0 + 8 + by4 f (p0 + 4) + 2 + 8 * (by2 f (p0 + 8 + by4 f (p0 + 4))) + 2)), .ref b], M) _
              have hu_119 := by2_lt f (p0 + 8 + by4 f (p0 + 4) + 2 + 8 * (by2 f (p0 + 8 + by4 f (p0 + 4))))
              refine ps_st (S' := (123, [(5, .int (nI (p0 + 8 + by4 f (p0 + 4) + 2 + 8 * (by2 f (p0 + 8 + by4 f (p0 + 4)))))), (4, .int (nI (p0 + 8 + by4 f (p0 + 4)))), (3, .int (nI (by4 f (p0 + 4)))), (0, .ref ac), (1, .int (nI p0)), (2, .int (nI e))], [.int (nI e), .int (nI (by2 f (p0 + 8 + by4 f (p0 + 4) + 2 + 8 * (by2 f (p0 + 8 + by4 f (p0 + 4)))))), .int (nI (p0 + 8 + by4 f (p0 + 4) + 2 + 8 * (by2 f (p0 + 8 + by4 f (p0 + 4))) + 2)), .ref b], M)) rfl rfl rfl ?_
              refine pl_call (a := [.ref b, .int (nI (p0 + 8 + by4 f (p0 + 4) + 2 + 8 * (by2 f (p0 + 8 + by4 f (p0 + 4))) + 2)), .int (nI (by2 f (p0 + 8 + by4 f (p0 + 4) + 2 + 8 * (by2 f (p0 + 8 + by4 f (p0 + 4)))))), .int (nI e)]) (rest := []) rfl rfl rfl (dk_attributesEnd (f := f) (n := n) (b := b) (da := da) (p0 := (p0 + 8 + by4 f (p0 + 4) + 2 + 8 * (by2 f (p0 + 8 + by4 f (p0 + 4))) + 2)) (e := e) (t := (by2 f (p0 + 8 + by4 f (p0 + 4) + 2 + 8 * (by2 f (p0 + 8 + by4 f (p0 + 4)))))) h_b h_da (hn) (by omega) (by2_lt _ _)) (fun v13 M14 q15 => ?_)
              rcases q15 with q15 | q15
              · skip
                obtain ⟨q123_s, rfl, rfl⟩ := q15
                show pl _ _ _ (126, [(5, .int (nI (p0 + 8 + by4 f (p0 + 4) + 2 + 8 * (by2 f (p0 + 8 + by4 f (p0 + 4)))))), (4, .int (nI (p0 + 8 + by4 f (p0 + 4)))), (3, .int (nI (by4 f (p0 + 4)))), (0, .ref ac), (1, .int (nI p0)), (2, .int (nI e))], [.int (-1)], M) _
                exact ps_ret rfl rfl (Or.inl ⟨by
                    unfold s_cdE
                    rw [if_neg (by omega), if_neg (by omega), if_neg (by omega)]
                    exact q123_s, rfl, rfl⟩)
              · skip
                obtain ⟨x16, q123_s, q123_l, rfl, rfl⟩ := q15
                show pl _ _ _ (126, [(5, .int (nI (p0 + 8 + by4 f (p0 + 4) + 2 + 8 * (by2 f (p0 + 8 + by4 f (p0 + 4)))))), (4, .int (nI (p0 + 8 + by4 f (p0 + 4)))), (3, .int (nI (by4 f (p0 + 4)))), (0, .ref ac), (1, .int (nI p0)), (2, .int (nI e))], [.int (nI x16)], M) _
                have hl_123 := s_atE_le (by omega) q123_s
                exact ps_reti rfl (Or.inr ⟨x16, by
                    unfold s_cdE
                    rw [if_neg (by omega), if_neg (by omega), if_neg (by omega)]
                    exact q123_s, by omega, rfl, rfl⟩)
            · have c_100 : ¬ (2 ≤ ((nI e) - (nI (p0 + 8 + by4 f (p0 + 4) + 2 + 8 * (by2 f (p0 + 8 + by4 f (p0 + 4))))))) := of_decide_eq_false c_100
              have n_100 : ¬ (2 + (p0 + 8 + by4 f (p0 + 4) + 2 + 8 * (by2 f (p0 + 8 + by4 f (p0 + 4)))) ≤ e) := fun h8 => c_100 ((le_sub1 (e := e) (p := p0 + 8 + by4 f (p0 + 4) + 2 + 8 * (by2 f (p0 + 8 + by4 f (p0 + 4)))) (k := 2) (by omega) (by omega) (by omega)).mpr h8)
              refine ps_st (S' := (104, [(5, .int (nI (p0 + 8 + by4 f (p0 + 4) + 2 + 8 * (by2 f (p0 + 8 + by4 f (p0 + 4)))))), (4, .int (nI (p0 + 8 + by4 f (p0 + 4)))), (3, .int (nI (by4 f (p0 + 4)))), (0, .ref ac), (1, .int (nI p0)), (2, .int (nI e))], [.int (-1)], M)) rfl rfl rfl ?_
              exact ps_ret rfl rfl (Or.inl ⟨by
                  unfold s_cdE
                  first | ((repeat first | rw [if_pos (by omega)] | rw [if_neg (by omega)]) <;> first | rfl | omega) | ((repeat' split) <;> first | rfl | (exfalso; omega) | omega), rfl, rfl⟩)
          · have c_71 : ¬ ((nI (8 * (by2 f (p0 + 8 + by4 f (p0 + 4))))) ≤ (((nI e) - (nI (p0 + 8 + by4 f (p0 + 4)))) - 2)) := of_decide_eq_false c_71
            have n_71 : ¬ ((8 * (by2 f (p0 + 8 + by4 f (p0 + 4)))) + (p0 + 8 + by4 f (p0 + 4) + 2) ≤ e) := fun h8 => c_71 ((le_sub2 (e := e) (p := p0 + 8 + by4 f (p0 + 4)) (p2 := 2) (k := 8 * (by2 f (p0 + 8 + by4 f (p0 + 4)))) (by omega) (by omega) (by omega)).mpr h8)
            refine ps_st (S' := (75, [], [.int (-1)], M)) rfl rfl rfl ?_
            exact ps_ret rfl rfl (Or.inl ⟨by
                unfold s_cdE
                first | ((repeat first | rw [if_pos (by omega)] | rw [if_neg (by omega)]) <;> first | rfl | omega) | ((repeat' split) <;> first | rfl | (exfalso; omega) | omega), rfl, rfl⟩)
      · have c_32 : ¬ ((nI (by4 f (p0 + 4))) ≤ (((nI e) - (nI p0)) - 8)) := of_decide_eq_false c_32
        have n_32 : ¬ ((by4 f (p0 + 4)) + (p0 + 8) ≤ e) := fun h8 => c_32 ((le_sub2 (e := e) (p := p0) (p2 := 8) (k := by4 f (p0 + 4)) (by omega) (by omega) (by omega)).mpr h8)
        refine ps_st (S' := (36, [], [.int (-1)], M)) rfl rfl rfl ?_
        exact ps_ret rfl rfl (Or.inl ⟨by
            unfold s_cdE
            first | ((repeat first | rw [if_pos (by omega)] | rw [if_neg (by omega)]) <;> first | rfl | omega) | ((repeat' split) <;> first | rfl | (exfalso; omega) | omega), rfl, rfl⟩)
  · have c_5 : ¬ (8 ≤ ((nI e) - (nI p0))) := of_decide_eq_false c_5
    have n_5 : ¬ (8 + p0 ≤ e) := fun h8 => c_5 ((le_sub1 (e := e) (p := p0) (k := 8) (by omega) (by omega) (by omega)).mpr h8)
    refine ps_st (S' := (9, [(0, .ref ac), (1, .int (nI p0)), (2, .int (nI e))], [.int (-1)], M)) rfl rfl rfl ?_
    exact ps_ret rfl rfl (Or.inl ⟨by
        unfold s_cdE
        first | ((repeat first | rw [if_pos (by omega)] | rw [if_neg (by omega)]) <;> first | rfl | omega) | ((repeat' split) <;> first | rfl | (exfalso; omega) | omega), rfl, rfl⟩)
set_option maxHeartbeats 1000000 in
theorem dk_formEnd {g : xe_G} {M : mi_H} {f : Nat → Int32} {n q ac c b da vd : Nat} {s1 : Int32} {k p0 e : Nat} (h_ac : M.1 ac = some (ob 0 [.ref c, .ref b, .ref q, .ref vd, .int s1])) (h_b : M.1 b = some (ob 1 [.ref da])) (h_da : M.1 da = some (ar .byte n f)) (hn : n ≤ 65540) (he : e ≤ n ∧ p0 ≤ e) (hk : k < 11) : pt (mT g) 32 [.ref ac, .int (nI k), .int (nI p0), .int (nI e)] M (fun v M' => ((s_fe f k p0 e = none) ∧ v = some (.int (-1)) ∧ M = M') ∨ (∃ (x : Nat), (s_fe f k p0 e = some x) ∧ (x < 1000000) ∧ v = some (.int (nI x)) ∧ M = M')) := by
  refine pt_in (b := mb_32 g) rfl (fun kf => ?_)
  show pl (mT g) kf (mb_32 g).2 (0, [(0, .ref ac), (1, .int (nI k)), (2, .int (nI p0)), (3, .int (nI e))], [], M) _
  refine ps_st (S' := (1, [(0, .ref ac), (1, .int (nI k)), (2, .int (nI p0)), (3, .int (nI e))], [.int (nI e)], M)) rfl rfl rfl ?_
  refine ps_st (S' := (2, [(0, .ref ac), (1, .int (nI k)), (2, .int (nI p0)), (3, .int (nI e))], [.int (nI p0), .int (nI e)], M)) rfl rfl rfl ?_
  refine ps_st (S' := (3, [(0, .ref ac), (1, .int (nI k)), (2, .int (nI p0)), (3, .int (nI e))], [.int ((nI e) - (nI p0))], M)) rfl rfl rfl ?_
  refine ps_st (S' := (4, [(0, .ref ac), (1, .int (nI k)), (2, .int (nI p0)), (3, .int (nI e))], [.int 2, .int ((nI e) - (nI p0))], M)) rfl rfl rfl ?_
  refine ps_if2 (S1 := (9, [(0, .ref ac), (1, .int (nI k)), (2, .int (nI p0)), (3, .int (nI e))], [], M)) (S2 := (7, [(0, .ref ac), (1, .int (nI k)), (2, .int (nI p0)), (3, .int (nI e))], [], M)) rfl rfl rfl (fun c_4 => ?_) (fun c_4 => ?_)
  · have c_4 : 2 ≤ ((nI e) - (nI p0)) := of_decide_eq_true c_4
    have n_4 : 2 + p0 ≤ e := (le_sub1 (e := e) (p := p0) (k := 2) (by omega) (by omega) (by omega)).mp c_4
    refine ps_st (S' := (10, [(0, .ref ac), (1, .int (nI k)), (2, .int (nI p0)), (3, .int (nI e))], [.int (nI k)], M)) rfl rfl rfl ?_
    refine pl_sw rfl (fun t_10 et_10 => ?_)
    have ht_10 : t_10 ∈ [64, 68, 83, 99, 106, 113] := mi_sw_sub et_10 (by decide)
    simp only [List.mem_cons, List.not_mem_nil, or_false] at ht_10
    rcases ht_10 with rfl | rfl | rfl | rfl | rfl | rfl
    · show pl _ _ _ (64, [(0, .ref ac), (1, .int (nI k)), (2, .int (nI p0)), (3, .int (nI e))], [], M) _
      have m_10 := sw_nat (t := k) (by omega) et_10
      simp at m_10
      refine ps_st (S' := (65, [(0, .ref ac), (1, .int (nI k)), (2, .int (nI p0)), (3, .int (nI e))], [.int (nI p0)], M)) rfl rfl rfl ?_
      refine ps_st (S' := (66, [(0, .ref ac), (1, .int (nI k)), (2, .int (nI p0)), (3, .int (nI e))], [.int 2, .int (nI p0)], M)) rfl rfl rfl ?_
      refine ps_st (S' := (67, [(0, .ref ac), (1, .int (nI k)), (2, .int (nI p0)), (3, .int (nI e))], [.int ((nI p0) + 2)], M)) rfl rfl rfl ?_
      rw [nI_add1 (p := p0) (k := 2) (x := 2) rfl (by omega)]
      show pl _ _ _ (_, [(0, .ref ac), (1, .int (nI k)), (2, .int (nI p0)), (3, .int (nI e))], [.int (nI (p0 + 2))], M) _
      exact ps_reti rfl (Or.inr ⟨p0 + 2, by
          unfold s_fe
          first | ((repeat first | rw [if_pos (by omega)] | rw [if_neg (by omega)]) <;> first | rfl | omega) | ((repeat' split) <;> first | rfl | (exfalso; omega) | omega), by omega, rfl, rfl⟩)
    · show pl _ _ _ (68, [(0, .ref ac), (1, .int (nI k)), (2, .int (nI p0)), (3, .int (nI e))], [], M) _
      have m_10 := sw_nat (t := k) (by omega) et_10
      simp at m_10
      refine ps_st (S' := (69, [(0, .ref ac), (1, .int (nI k)), (2, .int (nI p0)), (3, .int (nI e))], [.int (nI p0)], M)) rfl rfl rfl ?_
      refine ps_st (S' := (70, [(0, .ref ac), (1, .int (nI k)), (2, .int (nI p0)), (3, .int (nI e))], [.int 2, .int (nI p0)], M)) rfl rfl rfl ?_
      refine ps_st (S' := (71, [(0, .ref ac), (1, .int (nI k)), (2, .int (nI p0)), (3, .int (nI e))], [.int ((nI p0) + 2)], M)) rfl rfl rfl ?_
      rw [nI_add1 (p := p0) (k := 2) (x := 2) rfl (by omega)]
      show pl _ _ _ (_, [(0, .ref ac), (1, .int (nI k)), (2, .int (nI p0)), (3, .int (nI e))], [.int (nI (p0 + 2))], M) _
      refine ps_st (S' := (72, [(0, .ref ac), (1, .int (nI k)), (2, .int (nI p0)), (3, .int (nI e))], [.int 2, .int (nI (p0 + 2))], M)) rfl rfl rfl ?_
      refine ps_st (S' := (73, [(0, .ref ac), (1, .int (nI k)), (2, .int (nI p0)), (3, .int (nI e))], [.ref ac, .int 2, .int (nI (p0 + 2))], M)) rfl rfl rfl ?_
      refine ps_get (S' := (76, [(0, .ref ac), (1, .int (nI k)), (2, .int (nI p0)), (3, .int (nI e))], [.ref b, .int 2, .int (nI (p0 + 2))], M)) rfl h_ac rfl rfl ?_
      refine ps_st (S' := (77, [(0, .ref ac), (1, .int (nI k)), (2, .int (nI p0)), (3, .int (nI e))], [.int (nI p0), .ref b, .int 2, .int (nI (p0 + 2))], M)) rfl rfl rfl ?_
      refine pl_call (a := [.ref b, .int (nI p0)]) (rest := [.int 2, .int (nI (p0 + 2))]) rfl rfl rfl (dk_u2 (f := f) (n := n) (b := b) (da := da) (p := p0) h_b h_da (hn) (by omega)) (fun v1 M2 q3 => ?_)
      obtain ⟨rfl, rfl⟩ := q3
      show pl _ _ _ (80, [(0, .ref ac), (1, .int (nI k)), (2, .int (nI p0)), (3, .int (nI e))], [.int (nI (by2 f p0)), .int 2, .int (nI (p0 + 2))], M) _
      have hu_77 := by2_lt f p0
      refine ps_st (S' := (81, [(0, .ref ac), (1, .int (nI k)), (2, .int (nI p0)), (3, .int (nI e))], [.int (2 * (nI (by2 f p0))), .int (nI (p0 + 2))], M)) rfl rfl rfl ?_
      rw [nI_mul1 (p := 2) (k := by2 f p0) (x := 2) (y := (nI (by2 f p0))) rfl rfl (by omega)]
      show pl _ _ _ (_, [(0, .ref ac), (1, .int (nI k)), (2, .int (nI p0)), (3, .int (nI e))], [.int (nI (2 * (by2 f p0))), .int (nI (p0 + 2))], M) _
      refine ps_st (S' := (82, [(0, .ref ac), (1, .int (nI k)), (2, .int (nI p0)), (3, .int (nI e))], [.int ((nI (p0 + 2)) + (nI (2 * (by2 f p0))))], M)) rfl rfl rfl ?_
      rw [nI_add1 (p := p0 + 2) (k := 2 * (by2 f p0)) (x := (nI (2 * (by2 f p0)))) rfl (by omega)]
      show pl _ _ _ (_, [(0, .ref ac), (1, .int (nI k)), (2, .int (nI p0)), (3, .int (nI e))], [.int (nI (p0 + 2 + 2 * (by2 f p0)))], M) _
      exact ps_reti rfl (Or.inr ⟨p0 + 2 + 2 * (by2 f p0), by
          unfold s_fe
          first | ((repeat first | rw [if_pos (by omega)] | rw [if_neg (by omega)]) <;> first | rfl | omega) | ((repeat' split) <;> first | rfl | (exfalso; omega) | omega), by omega, rfl, rfl⟩)
    · show pl _ _ _ (83, [(0, .ref ac), (1, .int (nI k)), (2, .int (nI p0)), (3, .int (nI e))], [], M) _
      have m_10 := sw_nat (t := k) (by omega) et_10
      simp at m_10
      refine ps_st (S' := (84, [(0, .ref ac), (1, .int (nI k)), (2, .int (nI p0)), (3, .int (nI e))], [.int (nI p0)], M)) rfl rfl rfl ?_
      refine ps_st (S' := (85, [(0, .ref ac), (1, .int (nI k)), (2, .int (nI p0)), (3, .int (nI e))], [.int 2, .int (nI p0)], M)) rfl rfl rfl ?_
      refine ps_st (S' := (86, [(0, .ref ac), (1, .int (nI k)), (2, .int (nI p0)), (3, .int (nI e))], [.int ((nI p0) + 2)], M)) rfl rfl rfl ?_
      rw [nI_add1 (p := p0) (k := 2) (x := 2) rfl (by omega)]
      show pl _ _ _ (_, [(0, .ref ac), (1, .int (nI k)), (2, .int (nI p0)), (3, .int (nI e))], [.int (nI (p0 + 2))], M) _
      refine ps_st (S' := (88, [(0, .ref ac), (1, .int (nI k)), (2, .int (nI p0)), (3, .int (nI e))], [.int 8, .int (nI (p0 + 2))], M)) rfl rfl rfl ?_
      refine ps_st (S' := (89, [(0, .ref ac), (1, .int (nI k)), (2, .int (nI p0)), (3, .int (nI e))], [.ref ac, .int 8, .int (nI (p0 + 2))], M)) rfl rfl rfl ?_
      refine ps_get (S' := (92, [(0, .ref ac), (1, .int (nI k)), (2, .int (nI p0)), (3, .int (nI e))], [.ref b, .int 8, .int (nI (p0 + 2))], M)) rfl h_ac rfl rfl ?_
      refine ps_st (S' := (93, [(0, .ref ac), (1, .int (nI k)), (2, .int (nI p0)), (3, .int (nI e))], [.int (nI p0), .ref b, .int 8, .int (nI (p0 + 2))], M)) rfl rfl rfl ?_
      refine pl_call (a := [.ref b, .int (nI p0)]) (rest := [.int 8, .int (nI (p0 + 2))]) rfl rfl rfl (dk_u2 (f := f) (n := n) (b := b) (da := da) (p := p0) h_b h_da (hn) (by omega)) (fun v4 M5 q6 => ?_)
      obtain ⟨rfl, rfl⟩ := q6
      show pl _ _ _ (96, [(0, .ref ac), (1, .int (nI k)), (2, .int (nI p0)), (3, .int (nI e))], [.int (nI (by2 f p0)), .int 8, .int (nI (p0 + 2))], M) _
      have hu_93 := by2_lt f p0
      refine ps_st (S' := (97, [(0, .ref ac), (1, .int (nI k)), (2, .int (nI p0)), (3, .int (nI e))], [.int (8 * (nI (by2 f p0))), .int (nI (p0 + 2))], M)) rfl rfl rfl ?_
      rw [nI_mul1 (p := 8) (k := by2 f p0) (x := 8) (y := (nI (by2 f p0))) rfl rfl (by omega)]
      show pl _ _ _ (_, [(0, .ref ac), (1, .int (nI k)), (2, .int (nI p0)), (3, .int (nI e))], [.int (nI (8 * (by2 f p0))), .int (nI (p0 + 2))], M) _
      refine ps_st (S' := (98, [(0, .ref ac), (1, .int (nI k)), (2, .int (nI p0)), (3, .int (nI e))], [.int ((nI (p0 + 2)) + (nI (8 * (by2 f p0))))], M)) rfl rfl rfl ?_
      rw [nI_add1 (p := p0 + 2) (k := 8 * (by2 f p0)) (x := (nI (8 * (by2 f p0)))) rfl (by omega)]
      show pl _ _ _ (_, [(0, .ref ac), (1, .int (nI k)), (2, .int (nI p0)), (3, .int (nI e))], [.int (nI (p0 + 2 + 8 * (by2 f p0)))], M) _
      exact ps_reti rfl (Or.inr ⟨p0 + 2 + 8 * (by2 f p0), by
          unfold s_fe
          first | ((repeat first | rw [if_pos (by omega)] | rw [if_neg (by omega)]) <;> first | rfl | omega) | ((repeat' split) <;> first | rfl | (exfalso; omega) | omega), by omega, rfl, rfl⟩)
    · show pl _ _ _ (99, [(0, .ref ac), (1, .int (nI k)), (2, .int (nI p0)), (3, .int (nI e))], [], M) _
      have m_10 := sw_nat (t := k) (by omega) et_10
      simp at m_10
      refine ps_st (S' := (100, [(0, .ref ac), (1, .int (nI k)), (2, .int (nI p0)), (3, .int (nI e))], [.ref ac], M)) rfl rfl rfl ?_
      refine ps_st (S' := (101, [(0, .ref ac), (1, .int (nI k)), (2, .int (nI p0)), (3, .int (nI e))], [.int (nI p0), .ref ac], M)) rfl rfl rfl ?_
      refine ps_st (S' := (102, [(0, .ref ac), (1, .int (nI k)), (2, .int (nI p0)), (3, .int (nI e))], [.int (nI e), .int (nI p0), .ref ac], M)) rfl rfl rfl ?_
      refine pl_call (a := [.ref ac, .int (nI p0), .int (nI e)]) (rest := []) rfl rfl rfl (dk_bootstrapsEnd (f := f) (n := n) (q := q) (ac := ac) (c := c) (b := b) (da := da) (vd := vd) (s1 := s1) (p0 := p0) (e := e) h_ac h_b h_da (hn) (by omega)) (fun v7 M8 q9 => ?_)
      rcases q9 with q9 | q9
      · skip
        obtain ⟨q102_s, rfl, rfl⟩ := q9
        show pl _ _ _ (105, [(0, .ref ac), (1, .int (nI k)), (2, .int (nI p0)), (3, .int (nI e))], [.int (-1)], M) _
        exact ps_ret rfl rfl (Or.inl ⟨by
            unfold s_fe
            rw [if_neg (by omega), if_neg (by omega), if_neg (by omega), if_neg (by omega), if_pos (by omega)]
            exact q102_s, rfl, rfl⟩)
      · skip
        obtain ⟨x10, q102_s, q102_l, rfl, rfl⟩ := q9
        show pl _ _ _ (105, [(0, .ref ac), (1, .int (nI k)), (2, .int (nI p0)), (3, .int (nI e))], [.int (nI x10)], M) _
        exact ps_reti rfl (Or.inr ⟨x10, by
            unfold s_fe
            rw [if_neg (by omega), if_neg (by omega), if_neg (by omega), if_neg (by omega), if_pos (by omega)]
            exact q102_s, by omega, rfl, rfl⟩)
    · show pl _ _ _ (106, [(0, .ref ac), (1, .int (nI k)), (2, .int (nI p0)), (3, .int (nI e))], [], M) _
      have m_10 := sw_nat (t := k) (by omega) et_10
      simp at m_10
      refine ps_st (S' := (107, [(0, .ref ac), (1, .int (nI k)), (2, .int (nI p0)), (3, .int (nI e))], [.ref ac], M)) rfl rfl rfl ?_
      refine ps_st (S' := (108, [(0, .ref ac), (1, .int (nI k)), (2, .int (nI p0)), (3, .int (nI e))], [.int (nI p0), .ref ac], M)) rfl rfl rfl ?_
      refine ps_st (S' := (109, [(0, .ref ac), (1, .int (nI k)), (2, .int (nI p0)), (3, .int (nI e))], [.int (nI e), .int (nI p0), .ref ac], M)) rfl rfl rfl ?_
      refine pl_call (a := [.ref ac, .int (nI p0), .int (nI e)]) (rest := []) rfl rfl rfl (dk_recordEnd (f := f) (n := n) (q := q) (ac := ac) (c := c) (b := b) (da := da) (vd := vd) (s1 := s1) (p0 := p0) (e := e) h_ac h_b h_da (hn) (by omega)) (fun v11 M12 q13 => ?_)
      rcases q13 with q13 | q13
      · skip
        obtain ⟨q109_s, rfl, rfl⟩ := q13
        show pl _ _ _ (112, [(0, .ref ac), (1, .int (nI k)), (2, .int (nI p0)), (3, .int (nI e))], [.int (-1)], M) _
        exact ps_ret rfl rfl (Or.inl ⟨by
            unfold s_fe
            rw [if_neg (by omega), if_neg (by omega), if_neg (by omega), if_neg (by omega), if_neg (by omega), if_pos (by omega)]
            exact q109_s, rfl, rfl⟩)
      · skip
        obtain ⟨x14, q109_s, q109_l, rfl, rfl⟩ := q13
        show pl _ _ _ (112, [(0, .ref ac), (1, .int (nI k)), (2, .int (nI p0)), (3, .int (nI e))], [.int (nI x14)], M) _
        exact ps_reti rfl (Or.inr ⟨x14, by
            unfold s_fe
            rw [if_neg (by omega), if_neg (by omega), if_neg (by omega), if_neg (by omega), if_neg (by omega), if_pos (by omega)]
            exact q109_s, by omega, rfl, rfl⟩)
    · show pl _ _ _ (113, [(0, .ref ac), (1, .int (nI k)), (2, .int (nI p0)), (3, .int (nI e))], [], M) _
      have m_10 := sw_nat (t := k) (by omega) et_10
      simp at m_10
      refine ps_st (S' := (114, [(0, .ref ac), (1, .int (nI k)), (2, .int (nI p0)), (3, .int (nI e))], [.ref ac], M)) rfl rfl rfl ?_
      refine ps_st (S' := (115, [(0, .ref ac), (1, .int (nI k)), (2, .int (nI p0)), (3, .int (nI e))], [.int (nI p0), .ref ac], M)) rfl rfl rfl ?_
      refine ps_st (S' := (116, [(0, .ref ac), (1, .int (nI k)), (2, .int (nI p0)), (3, .int (nI e))], [.int (nI e), .int (nI p0), .ref ac], M)) rfl rfl rfl ?_
      refine pl_call (a := [.ref ac, .int (nI p0), .int (nI e)]) (rest := []) rfl rfl rfl (dk_codeEnd (f := f) (n := n) (q := q) (ac := ac) (c := c) (b := b) (da := da) (vd := vd) (s1 := s1) (p0 := p0) (e := e) h_ac h_b h_da (hn) (by omega)) (fun v15 M16 q17 => ?_)
      rcases q17 with q17 | q17
      · skip
        obtain ⟨q116_s, rfl, rfl⟩ := q17
        show pl _ _ _ (119, [(0, .ref ac), (1, .int (nI k)), (2, .int (nI p0)), (3, .int (nI e))], [.int (-1)], M) _
        exact ps_ret rfl rfl (Or.inl ⟨by
            unfold s_fe
            rw [if_neg (by omega), if_neg (by omega), if_neg (by omega), if_neg (by omega), if_neg (by omega), if_neg (by omega)]
            exact q116_s, rfl, rfl⟩)
      · skip
        obtain ⟨x18, q116_s, q116_l, rfl, rfl⟩ := q17
        show pl _ _ _ (119, [(0, .ref ac), (1, .int (nI k)), (2, .int (nI p0)), (3, .int (nI e))], [.int (nI x18)], M) _
        exact ps_reti rfl (Or.inr ⟨x18, by
            unfold s_fe
            rw [if_neg (by omega), if_neg (by omega), if_neg (by omega), if_neg (by omega), if_neg (by omega), if_neg (by omega)]
            exact q116_s, by omega, rfl, rfl⟩)
  · have c_4 : ¬ (2 ≤ ((nI e) - (nI p0))) := of_decide_eq_false c_4
    have n_4 : ¬ (2 + p0 ≤ e) := fun h8 => c_4 ((le_sub1 (e := e) (p := p0) (k := 2) (by omega) (by omega) (by omega)).mpr h8)
    refine ps_st (S' := (8, [(0, .ref ac), (1, .int (nI k)), (2, .int (nI p0)), (3, .int (nI e))], [.int (-1)], M)) rfl rfl rfl ?_
    exact ps_ret rfl rfl (Or.inl ⟨by
        unfold s_fe
        first | ((repeat first | rw [if_pos (by omega)] | rw [if_neg (by omega)]) <;> first | rfl | omega) | ((repeat' split) <;> first | rfl | (exfalso; omega) | omega), rfl, rfl⟩)
set_option maxHeartbeats 1000000 in
theorem dk_behind {g : xe_G} {M : mi_H} {f : Nat → Int32} {n q ac c b da vd : Nat} {s1 : Int32} {p : Nat} (h_ac : M.1 ac = some (ob 0 [.ref c, .ref b, .ref q, .ref vd, .int s1])) (h_b : M.1 b = some (ob 1 [.ref da])) (h_da : M.1 da = some (ar .byte n f)) (hn : n ≤ 65540) (hin : p + 6 + by4 f (p + 2) ≤ n) : pt (mT g) 23 [.ref ac, .int (nI p)] M (fun v M' => (v = some (.int (nI (p + 6 + by4 f (p + 2)))) ∧ M = M')) := by
  refine pt_in (b := mb_23 g) rfl (fun kf => ?_)
  show pl (mT g) kf (mb_23 g).2 (0, [(0, .ref ac), (1, .int (nI p))], [], M) _
  refine ps_st (S' := (1, [(0, .ref ac), (1, .int (nI p))], [.int (nI p)], M)) rfl rfl rfl ?_
  refine ps_st (S' := (3, [(0, .ref ac), (1, .int (nI p))], [.int 6, .int (nI p)], M)) rfl rfl rfl ?_
  refine ps_st (S' := (4, [(0, .ref ac), (1, .int (nI p))], [.int ((nI p) + 6)], M)) rfl rfl rfl ?_
  rw [nI_add1 (p := p) (k := 6) (x := 6) rfl (by omega)]
  show pl _ _ _ (_, [(0, .ref ac), (1, .int (nI p))], [.int (nI (p + 6))], M) _
  refine ps_st (S' := (5, [(0, .ref ac), (1, .int (nI p))], [.ref ac, .int (nI (p + 6))], M)) rfl rfl rfl ?_
  refine ps_get (S' := (8, [(0, .ref ac), (1, .int (nI p))], [.ref b, .int (nI (p + 6))], M)) rfl h_ac rfl rfl ?_
  refine ps_st (S' := (9, [(0, .ref ac), (1, .int (nI p))], [.int (nI p), .ref b, .int (nI (p + 6))], M)) rfl rfl rfl ?_
  refine ps_st (S' := (10, [(0, .ref ac), (1, .int (nI p))], [.int 2, .int (nI p), .ref b, .int (nI (p + 6))], M)) rfl rfl rfl ?_
  refine ps_st (S' := (11, [(0, .ref ac), (1, .int (nI p))], [.int ((nI p) + 2), .ref b, .int (nI (p + 6))], M)) rfl rfl rfl ?_
  rw [nI_add1 (p := p) (k := 2) (x := 2) rfl (by omega)]
  show pl _ _ _ (_, [(0, .ref ac), (1, .int (nI p))], [.int (nI (p + 2)), .ref b, .int (nI (p + 6))], M) _
  refine pl_call (a := [.ref b, .int (nI (p + 2))]) (rest := [.int (nI (p + 6))]) rfl rfl rfl (dk_u4 (f := f) (n := n) (b := b) (da := da) (p := (p + 2)) h_b h_da (hn) (by omega)) (fun v1 M2 q3 => ?_)
  obtain ⟨rfl, rfl⟩ := q3
  show pl _ _ _ (14, [(0, .ref ac), (1, .int (nI p))], [.int (nI (by4 f (p + 2))), .int (nI (p + 6))], M) _
  have hu_11 := by4_lt f (p + 2)
  refine ps_st (S' := (15, [(0, .ref ac), (1, .int (nI p))], [.int ((nI (p + 6)) + (nI (by4 f (p + 2))))], M)) rfl rfl rfl ?_
  rw [nI_add1 (p := p + 6) (k := by4 f (p + 2)) (x := (nI (by4 f (p + 2)))) rfl (by omega)]
  show pl _ _ _ (_, [(0, .ref ac), (1, .int (nI p))], [.int (nI (p + 6 + by4 f (p + 2)))], M) _
  exact ps_reti rfl (⟨rfl, rfl⟩)
set_option maxHeartbeats 1000000 in
theorem dk_hasSeen {g : xe_G} {M : mi_H} {q ac c b vd : Nat} {s k : Nat} (h_ac : M.1 ac = some (ob 0 [.ref c, .ref b, .ref q, .ref vd, .int (nI s)])) (hs : s < 2048) (hk : k < 11) : pt (mT g) 33 [.ref ac, .int (nI k)] M (fun v M' => (v = some (.int (nI (sb s k))) ∧ M = M')) := by
  refine pt_in (b := mb_33 g) rfl (fun kf => ?_)
  show pl (mT g) kf (mb_33 g).2 (0, [(0, .ref ac), (1, .int (nI k))], [], M) _
  refine ps_st (S' := (1, [(0, .ref ac), (1, .int (nI k))], [.ref ac], M)) rfl rfl rfl ?_
  refine ps_get (S' := (4, [(0, .ref ac), (1, .int (nI k))], [.int (nI s)], M)) rfl h_ac rfl rfl ?_
  refine ps_st (S' := (5, [(0, .ref ac), (1, .int (nI k))], [.int (nI k), .int (nI s)], M)) rfl rfl rfl ?_
  refine ps_st (S' := (6, [(0, .ref ac), (1, .int (nI k))], [.int ((nI s) >>> ((nI k) &&& 31))], M)) rfl rfl rfl ?_
  refine ps_st (S' := (7, [(0, .ref ac), (1, .int (nI k))], [.int 1, .int ((nI s) >>> ((nI k) &&& 31))], M)) rfl rfl rfl ?_
  refine ps_st (S' := (8, [(0, .ref ac), (1, .int (nI k))], [.int (((nI s) >>> ((nI k) &&& 31)) &&& 1)], M)) rfl rfl rfl ?_
  rw [shr_k s (by omega) k (by omega)]
  show pl _ _ _ (_, [(0, .ref ac), (1, .int (nI k))], [.int (nI (sb s k))], M) _
  refine ps_if (S1 := (15, [(0, .ref ac), (1, .int (nI k))], [], M)) (S2 := (11, [(0, .ref ac), (1, .int (nI k))], [], M)) rfl rfl rfl (fun c_8 => ?_) (fun c_8 => ?_)
  · have c_8 : (nI (sb s k)) = 0 := of_decide_eq_true c_8
    have n_8 : sb s k = 0 := (eq_nI (p := sb s k) (n := 0) (Nat.lt_trans (sb_lt _ _) (by decide)) (by decide)).mp c_8
    refine ps_st (S' := (16, [], [.int 0], M)) rfl rfl rfl ?_
    exact ps_ret rfl rfl (⟨congrArg (fun x => some (Value.int (nI x))) (show 0 = sb s k from by have h9 := sb_lt s k; omega), rfl⟩)
  · have c_8 : ¬ ((nI (sb s k)) = 0) := of_decide_eq_false c_8
    have n_8 : ¬ (sb s k = 0) := fun h9 => c_8 ((eq_nI (p := sb s k) (n := 0) (Nat.lt_trans (sb_lt _ _) (by decide)) (by decide)).mpr h9)
    refine ps_st (S' := (12, [(0, .ref ac), (1, .int (nI k))], [.int 1], M)) rfl rfl rfl ?_
    refine ps_st (S' := (16, [], [.int 1], M)) rfl rfl rfl ?_
    exact ps_ret rfl rfl (⟨congrArg (fun x => some (Value.int (nI x))) (show 1 = sb s k from by have h9 := sb_lt s k; omega), rfl⟩)
