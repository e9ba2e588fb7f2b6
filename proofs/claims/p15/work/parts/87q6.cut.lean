
def ijN (tc o : Nat) : Nat := if 0 < tc ∧ swN o = 0 then 1 else 0
theorem le1_ij (tc o : Nat) : ijN tc o < 2 := by
  unfold ijN
  split <;> decide
theorem in_tc8 {f : Nat → Int32} {cb L pc o sz lp tc : Nat} {fi se : Int32} {of : Option Int32} {sw : Option Nat} (h : inC f cb L pc = some (o, sz, fi, se, lp, tc, of, sw)) (hL : L < 65536) : tc < 131076 := by
  obtain ⟨-, -, hs, -⟩ := in_in h
  dsimp only at hs
  rcases hs with ⟨-, -, h1⟩ | ⟨-, h2, -, h4⟩
  · omega
  · have := (sw_in h4 h2).2.1
    dsimp only at this
    omega
theorem na_nb {F : Nat → Int32} {L : Nat} {S : List Nat} {t : Int64} (hF : ∀ j, j < L → F j = nuA S j) (hSL : ∀ p ∈ S, p < L) (hSl : S.length < 65536) : naI F L t = nbI S t.toInt := by
  unfold naI nbI
  by_cases h : 0 ≤ t.toInt ∧ t.toInt < L
  · rw [if_pos h, hF _ (by omega)]
    rcases nu_m1 (S := S) (k := t.toInt.toNat) hSl with ⟨h1, h2⟩ | ⟨h1, h2⟩
    · rw [h2, if_pos ⟨h.1, h1⟩]
    · rw [h2, if_neg (fun h9 => h1 h9.2)]
  · rw [if_neg h, if_neg (fun h9 => h ⟨h9.1, by have := hSL _ h9.2; omega⟩)]
section JV8
variable {f : Nat → Int32} {n : Nat} {E : List (Nat × Nat)} {mj cb L ml : Nat} {kk i ky : Int32}
theorem jv_lo (h : kk < 0) : jvI f n E mj cb L ml kk i ky = -1 := by
  unfold jvI
  split
  · rfl
  · rw [if_pos (Or.inl h)]
theorem jv_hi (h : ¬ kk < cutV f n E mj cb L ml) : jvI f n E mj cb L ml kk i ky = -1 := by
  unfold jvI
  unfold cutV at h
  split
  · rfl
  · rename_i S hS
    rw [hS] at h
    rw [if_pos (Or.inr (Int32.not_lt.mp h))]
theorem jv_in {S : List Nat} {j : Nat} (hS : cutS f n E mj cb L ml = .inr S) (hj : j < S.length) (hl : S.length < 65536) : jvI f n E mj cb L ml (nI j) i ky = jpI f cb L S (S.getD j 0) i ky := by
  unfold jvI
  rw [hS]
  dsimp only
  rw [if_neg (fun h9 => h9.elim (nI_n0 (by omega)) (fun h8 => absurd ((le_nI (p := S.length) (n := j) (by omega) (by omega)).mp h8) (by omega))), nI_toNat (by omega)]
end JV8
set_option maxHeartbeats 1000000 in
theorem dk_startOf {g : xe_G} {M : mi_H} {cd q on ra rb L ml mj : Nat} {c0 c3 c4 x8 : Int32} {F9 : Nat → Int32} {k p : Nat} (h_cd : M.1 cd = some (ob 4 [.int c0, .int (nI ml), .int (nI L), .int c3, .int c4, .ref q, .int (nI mj), .ref on, .int x8, .ref ra, .ref rb])) (h_ra : M.1 ra = some (ar .int L F9)) (hk : k < L) (hL : L < 65536) (hp : F9 k = nI p) : pt (mT g) 83 [.ref cd, .int (nI k)] M (fun v M' => (v = some (.int (nI p)) ∧ M = M')) := by
  refine pt_in (b := mb_83 g) rfl (fun kf => ?_)
  show pl (mT g) kf (mb_83 g).2 (0, [(0, .ref cd), (1, .int (nI k))], [], M) _
  refine ps_st (S' := (1, [(0, .ref cd), (1, .int (nI k))], [.ref cd], M)) rfl rfl rfl ?_
  refine ps_get (S' := (4, [(0, .ref cd), (1, .int (nI k))], [.ref ra], M)) rfl h_cd rfl rfl ?_
  refine ps_st (S' := (7, [(0, .ref cd), (1, .int (nI k))], [], M)) rfl rfl rfl ?_
  refine ps_st (S' := (8, [(0, .ref cd), (1, .int (nI k))], [.int (nI k)], M)) rfl rfl rfl ?_
  refine ps_if (S1 := (20, [], [], M)) (S2 := (11, [(0, .ref cd), (1, .int (nI k))], [], M)) rfl rfl rfl (fun c_8 => ?_) (fun c_8 => ?_)
  · exact absurd (of_decide_eq_true c_8) (nI_n0 (by omega))
  refine ps_st (S' := (12, [(0, .ref cd), (1, .int (nI k))], [.int (nI k)], M)) rfl rfl rfl ?_
  refine ps_st (S' := (13, [(0, .ref cd), (1, .int (nI k))], [.ref cd, .int (nI k)], M)) rfl rfl rfl ?_
  refine ps_get (S' := (16, [(0, .ref cd), (1, .int (nI k))], [.ref ra, .int (nI k)], M)) rfl h_cd rfl rfl ?_
  refine ps_alen (S' := (17, [(0, .ref cd), (1, .int (nI k))], [.int (nI L), .int (nI k)], M)) rfl h_ra rfl ?_
  refine ps_if2 (S1 := (24, [(0, .ref cd), (1, .int (nI k))], [], M)) (S2 := (20, [], [], M)) rfl rfl rfl (fun c_17 => ?_) (fun c_17 => ?_)
  rotate_left
  · exact absurd ((lt_nI (p := k) (n := L) (by omega) (by omega)).mpr hk) (of_decide_eq_false c_17)
  refine ps_st (S' := (25, [(0, .ref cd), (1, .int (nI k))], [.ref cd], M)) rfl rfl rfl ?_
  refine ps_get (S' := (28, [(0, .ref cd), (1, .int (nI k))], [.ref ra], M)) rfl h_cd rfl rfl ?_
  refine ps_st (S' := (29, [(0, .ref cd), (1, .int (nI k))], [.int (nI k), .ref ra], M)) rfl rfl rfl ?_
  refine ps_ald (S' := (30, [], [.int (F9 (Int32.toNatClampNeg (nI k)))], M)) rfl h_ra rfl (fun i0_29 i1_29 => ?_)
  rw [show (F9 (Int32.toNatClampNeg (nI k))) = (nI p) from (congrArg F9 (nI_toNat (k := k) (by omega))).trans (hp)]
  show pl _ _ _ (_, [], [.int (nI p)], M) _
  exact ps_reti rfl (⟨rfl, rfl⟩)
set_option maxHeartbeats 1000000 in
theorem dk_isJump {g : xe_G} {M : mi_H} {on b cb L : Nat} {y4 y5 y6 y7 y9 y10 y11 : Int32} {o tc : Nat} (h_on : M.1 on = some (ob 5 [.ref b, .int (nI cb), .int (nI L), .int (nI o), .int y4, .int y5, .int y6, .int y7, .int (nI tc), .int y9, .int y10, .int y11])) (ho : o < 65536) (htc : tc < 1048576) : pt (mT g) 89 [.ref on] M (fun v M' => (v = some (.int (nI (ijN tc o))) ∧ M = M')) := by
  refine pt_in (b := mb_89 g) rfl (fun kf => ?_)
  show pl (mT g) kf (mb_89 g).2 (0, [(0, .ref on)], [], M) _
  refine ps_st (S' := (1, [(0, .ref on)], [.ref on], M)) rfl rfl rfl ?_
  refine ps_get (S' := (4, [(0, .ref on)], [.int (nI tc)], M)) rfl h_on rfl rfl ?_
  refine ps_if (S1 := (18, [], [], M)) (S2 := (7, [(0, .ref on)], [], M)) rfl rfl rfl (fun c_4 => ?_) (fun c_4 => ?_)
  · have c_4 : (nI tc) ≤ 0 := of_decide_eq_true c_4
    have n_4 : tc ≤ 0 := (le_nI (p := tc) (n := 0) (by omega) (by decide)).mp c_4
    refine ps_st (S' := (19, [], [.int 0], M)) rfl rfl rfl ?_
    exact ps_ret rfl rfl (⟨congrArg (fun x => some (Value.int (nI x))) (show 0 = ijN tc o from by unfold ijN; first | ((repeat first | rw [if_pos (by omega)] | rw [if_neg (by omega)]) <;> first | rfl | omega) | ((repeat' split) <;> first | rfl | (exfalso; omega) | omega)), rfl⟩)
  · have c_4 : ¬ ((nI tc) ≤ 0) := of_decide_eq_false c_4
    have n_4 : ¬ (tc ≤ 0) := fun h9 => c_4 ((le_nI (p := tc) (n := 0) (by omega) (by decide)).mpr h9)
    refine ps_st (S' := (8, [(0, .ref on)], [.ref on], M)) rfl rfl rfl ?_
    refine pl_call (a := [.ref on]) (rest := []) rfl rfl rfl (dk_isSwitch (on := on) (b := b) (cb := cb) (L := L) (y4 := y4) (y5 := y5) (y6 := y6) (y7 := y7) (y8 := (nI tc)) (y9 := y9) (y10 := y10) (y11 := y11) (o := o) h_on (by omega)) (fun v1 M2 q3 => ?_)
    obtain ⟨rfl, rfl⟩ := q3
    show pl _ _ _ (11, [(0, .ref on)], [.int (nI (swN o))], M) _
    have hsw_8 := swO_le o
    refine ps_if (S1 := (18, [], [], M)) (S2 := (14, [(0, .ref on)], [], M)) rfl rfl rfl (fun c_11 => ?_) (fun c_11 => ?_)
    · have c_11 : ¬ (nI (swN o)) = 0 := of_decide_eq_true c_11
      have n_11 : ¬ (swN o = 0) := fun h9 => c_11 ((eq_nI (p := swN o) (n := 0) (by omega) (by decide)).mpr h9)
      refine ps_st (S' := (19, [], [.int 0], M)) rfl rfl rfl ?_
      exact ps_ret rfl rfl (⟨congrArg (fun x => some (Value.int (nI x))) (show 0 = ijN tc o from by unfold ijN; first | ((repeat first | rw [if_pos (by omega)] | rw [if_neg (by omega)]) <;> first | rfl | omega) | ((repeat' split) <;> first | rfl | (exfalso; omega) | omega)), rfl⟩)
    · have c_11 : ¬ (¬ (nI (swN o)) = 0) := of_decide_eq_false c_11
      have n_11 : swN o = 0 := (eq_nI (p := swN o) (n := 0) (by omega) (by decide)).mp (Decidable.not_not.mp c_11)
      refine ps_st (S' := (15, [(0, .ref on)], [.int 1], M)) rfl rfl rfl ?_
      refine ps_st (S' := (19, [], [.int 1], M)) rfl rfl rfl ?_
      exact ps_ret rfl rfl (⟨congrArg (fun x => some (Value.int (nI x))) (show 1 = ijN tc o from by unfold ijN; first | ((repeat first | rw [if_pos (by omega)] | rw [if_neg (by omega)]) <;> first | rfl | omega) | ((repeat' split) <;> first | rfl | (exfalso; omega) | omega)), rfl⟩)
set_option maxHeartbeats 1000000 in
theorem dk_keyOf8 {g : xe_G} {M : mi_H} {f : Nat → Int32} {n on b da cb L : Nat} {y4 y6 y7 y8 y9 y10 : Int32} {o sw i : Nat} {lo : Int32} (h_on : M.1 on = some (ob 5 [.ref b, .int (nI cb), .int (nI L), .int (nI o), .int y4, .int lo, .int y6, .int y7, .int y8, .int y9, .int y10, .int (nI sw)])) (h_b : M.1 b = some (ob 1 [.ref da])) (h_da : M.1 da = some (ar .byte n f)) (hn : n ≤ 65540) (ho : o = 170 ∨ o = 171) (hi : i < 65536) (hsw : sw < 65540 ∧ cb < 65540) (hin : o = 171 → cb + (sw + 8 * i) + 4 ≤ n) : pt (mT g) 100 [.ref on, .int (nI i)] M (fun v M' => (v = some (.int (kyI f cb o sw lo i)) ∧ M = M')) := by
  refine pt_in (b := mb_100 g) rfl (fun kf => ?_)
  show pl (mT g) kf (mb_100 g).2 (0, [(0, .ref on), (1, .int (nI i))], [], M) _
  refine ps_st (S' := (1, [(0, .ref on), (1, .int (nI i))], [.int (nI i)], M)) rfl rfl rfl ?_
  refine ps_if (S1 := (6, [(0, .ref on), (1, .int (nI i))], [], M)) (S2 := (4, [(0, .ref on), (1, .int (nI i))], [], M)) rfl rfl rfl (fun c_1 => ?_) (fun c_1 => ?_)
  · have c_1 : ¬ (nI i) = 0 := of_decide_eq_true c_1
    have n_1 : ¬ (i = 0) := fun h9 => c_1 ((eq_nI (p := i) (n := 0) (by omega) (by decide)).mpr h9)
    refine ps_st (S' := (7, [(0, .ref on), (1, .int (nI i))], [.ref on], M)) rfl rfl rfl ?_
    refine ps_get (S' := (10, [(0, .ref on), (1, .int (nI i))], [.int (nI o)], M)) rfl h_on rfl rfl ?_
    refine ps_st (S' := (13, [(0, .ref on), (1, .int (nI i))], [.int 170, .int (nI o)], M)) rfl rfl rfl ?_
    refine ps_if2 (S1 := (27, [(0, .ref on), (1, .int (nI i))], [], M)) (S2 := (16, [(0, .ref on), (1, .int (nI i))], [], M)) rfl rfl rfl (fun c_13 => ?_) (fun c_13 => ?_)
    · have c_13 : ¬ (nI o) = 170 := of_decide_eq_true c_13
      have n_13 : ¬ (o = 170) := fun h9 => c_13 ((eq_nI (p := o) (n := 170) (by omega) (by decide)).mpr h9)
      have hin := hin (by omega)
      refine ps_st (S' := (28, [(0, .ref on), (1, .int (nI i))], [.ref on], M)) rfl rfl rfl ?_
      refine ps_st (S' := (29, [(0, .ref on), (1, .int (nI i))], [.ref on, .ref on], M)) rfl rfl rfl ?_
      refine ps_get (S' := (32, [(0, .ref on), (1, .int (nI i))], [.int (nI sw), .ref on], M)) rfl h_on rfl rfl ?_
      refine ps_st (S' := (34, [(0, .ref on), (1, .int (nI i))], [.int 8, .int (nI sw), .ref on], M)) rfl rfl rfl ?_
      refine ps_st (S' := (35, [(0, .ref on), (1, .int (nI i))], [.int (nI i), .int 8, .int (nI sw), .ref on], M)) rfl rfl rfl ?_
      refine ps_st (S' := (36, [(0, .ref on), (1, .int (nI i))], [.int (8 * (nI i)), .int (nI sw), .ref on], M)) rfl rfl rfl ?_
      rw [nI_mul1 (p := 8) (k := i) (x := 8) (y := (nI i)) rfl rfl (by omega)]
      show pl _ _ _ (_, [(0, .ref on), (1, .int (nI i))], [.int (nI (8 * i)), .int (nI sw), .ref on], M) _
      refine ps_st (S' := (37, [(0, .ref on), (1, .int (nI i))], [.int ((nI sw) + (nI (8 * i))), .ref on], M)) rfl rfl rfl ?_
      rw [nI_add1 (p := sw) (k := 8 * i) (x := (nI (8 * i))) rfl (by omega)]
      show pl _ _ _ (_, [(0, .ref on), (1, .int (nI i))], [.int (nI (sw + 8 * i)), .ref on], M) _
      refine pl_call (a := [.ref on, .int (nI (sw + 8 * i))]) (rest := []) rfl rfl rfl (dk_is4 (f := f) (n := n) (on := on) (b := b) (da := da) (cb := cb) (L := L) (y3 := (nI o)) (y4 := y4) (y5 := lo) (y6 := y6) (y7 := y7) (y8 := y8) (y9 := y9) (y10 := y10) (y11 := (nI sw)) (a := (sw + 8 * i)) h_on h_b h_da (hn) (by omega)) (fun v1 M2 q3 => ?_)
      obtain ⟨rfl, rfl⟩ := q3
      show pl _ _ _ (40, [], [.int (nI (by4 f (cb + (sw + 8 * i))))], M) _
      have hb_37 := by4_lt f (cb + (sw + 8 * i))
      exact ps_reti rfl (⟨by unfold kyI; rw [if_neg (by omega), if_neg (by omega)], rfl⟩)
    · have c_13 : ¬ (¬ (nI o) = 170) := of_decide_eq_false c_13
      have n_13 : o = 170 := (eq_nI (p := o) (n := 170) (by omega) (by decide)).mp (Decidable.not_not.mp c_13)
      refine ps_st (S' := (17, [(0, .ref on), (1, .int (nI i))], [.ref on], M)) rfl rfl rfl ?_
      refine ps_get (S' := (20, [(0, .ref on), (1, .int (nI i))], [.int lo], M)) rfl h_on rfl rfl ?_
      refine ps_st (S' := (21, [(0, .ref on), (1, .int (nI i))], [.int (nI i), .int lo], M)) rfl rfl rfl ?_
      refine ps_st (S' := (22, [(0, .ref on), (1, .int (nI i))], [.int (lo + (nI i))], M)) rfl rfl rfl ?_
      refine ps_st (S' := (23, [(0, .ref on), (1, .int (nI i))], [.int 1, .int (lo + (nI i))], M)) rfl rfl rfl ?_
      refine ps_st (S' := (24, [(0, .ref on), (1, .int (nI i))], [.int ((lo + (nI i)) - 1)], M)) rfl rfl rfl ?_
      refine ps_st (S' := (40, [], [.int ((lo + (nI i)) - 1)], M)) rfl rfl rfl ?_
      exact ps_reti rfl (⟨by unfold kyI; rw [if_neg (by omega), if_pos (by omega)], rfl⟩)
  · have c_1 : ¬ (¬ (nI i) = 0) := of_decide_eq_false c_1
    have n_1 : i = 0 := (eq_nI (p := i) (n := 0) (by omega) (by decide)).mp (Decidable.not_not.mp c_1)
    refine ps_st (S' := (5, [(0, .ref on), (1, .int (nI i))], [.int 0], M)) rfl rfl rfl ?_
    exact ps_ret rfl rfl (⟨by unfold kyI; rw [if_pos (by omega)], rfl⟩)
set_option maxHeartbeats 1000000 in
theorem dk_number8 {g : xe_G} {M : mi_H} {f : Nat → Int32} {n cd q on b da ra rb cb L ml mj k p : Nat} {c0 c3 c4 x8 : Int32} {F9 F10 : Nat → Int32} {y3 y4 y5 y6 y7 y8 y9 y10 y11 : Int32} {w : Int32} (h_cd : M.1 cd = some (ob 4 [.int c0, .int (nI ml), .int (nI L), .int c3, .int c4, .ref q, .int (nI mj), .ref on, .int x8, .ref ra, .ref rb])) (h_on : M.1 on = some (ob 5 [.ref b, .int (nI cb), .int (nI L), .int y3, .int y4, .int y5, .int y6, .int y7, .int y8, .int y9, .int y10, .int y11])) (h_b : M.1 b = some (ob 1 [.ref da])) (h_da : M.1 da = some (ar .byte n f)) (h_ra : M.1 ra = some (ar .int L F9)) (h_rb : M.1 rb = some (ar .int L F10)) (hn : n ≤ 65540) (hcl : cb + L + 4 ≤ n) (hk : k < L) (hL : L < 65536) (hp : F9 k = nI p) (hpl : p < L) : pt (mT g) 80 [.ref cd, .int (nI k), .int w] M (fun v M' => (∃ (y z3 z4 z5 z6 z7 z8 z9 z10 z11 : Int32), v = some (.int y) ∧ M'.1 on = some (ob 5 [.ref b, .int (nI cb), .int (nI L), .int z3, .int z4, .int z5, .int z6, .int z7, .int z8, .int z9, .int z10, .int z11]) ∧ fm [on] M M')) := by
  refine pt_in (b := mb_80 g) rfl (fun kf => ?_)
  show pl (mT g) kf (mb_80 g).2 (0, [(0, .ref cd), (1, .int (nI k)), (2, .int w)], [], M) _
  have hF : fm [on] M M := fm.rf
  refine ps_st (S' := (1, [(0, .ref cd), (1, .int (nI k)), (2, .int w)], [.ref cd], M)) rfl rfl rfl ?_
  refine ps_st (S' := (2, [(0, .ref cd), (1, .int (nI k)), (2, .int w)], [.int (nI k), .ref cd], M)) rfl rfl rfl ?_
  refine pl_call (a := [.ref cd, .int (nI k)]) (rest := []) rfl rfl rfl (dk_startOf (cd := cd) (q := q) (on := on) (ra := ra) (rb := rb) (L := L) (ml := ml) (mj := mj) (c0 := c0) (c3 := c3) (c4 := c4) (x8 := x8) (F9 := F9) (k := k) (p := p) h_cd h_ra (hk) (hL) (hp)) (fun v1 M2 q3 => ?_)
  obtain ⟨rfl, rfl⟩ := q3
  show pl _ _ _ (5, [(0, .ref cd), (1, .int (nI k)), (2, .int w)], [.int (nI p)], M) _
  refine ps_st (S' := (6, [(3, .int (nI p)), (0, .ref cd), (1, .int (nI k)), (2, .int w)], [], M)) rfl rfl rfl ?_
  refine ps_st (S' := (7, [(3, .int (nI p)), (0, .ref cd), (1, .int (nI k)), (2, .int w)], [.ref cd], M)) rfl rfl rfl ?_
  refine ps_get (S' := (10, [(3, .int (nI p)), (0, .ref cd), (1, .int (nI k)), (2, .int w)], [.ref on], M)) rfl h_cd rfl rfl ?_
  refine ps_st (S' := (11, [(3, .int (nI p)), (0, .ref cd), (1, .int (nI k)), (2, .int w)], [.int (nI p), .ref on], M)) rfl rfl rfl ?_
  refine pl_call (a := [.ref on, .int (nI p)]) (rest := []) rfl rfl rfl (dk_isTakenApart (f := f) (n := n) (on := on) (b := b) (da := da) (cb := cb) (L := L) (y3 := y3) (y4 := y4) (y5 := y5) (y6 := y6) (y7 := y7) (y8 := y8) (y9 := y9) (y10 := y10) (y11 := y11) (pc := p) h_on h_b h_da (hn) (hcl) (hpl)) (fun v4 M5 q6 => ?_)
  rcases q6 with q6 | q6
  · skip
    obtain ⟨x7, q11_s, rfl, h8, f9⟩ := q6
    have h11 := (f9.1 cd (nin1 (ob_ne h_cd h_on (by decide)))).trans h_cd
    have h12 := (f9.1 b (nin1 (ob_ne h_b h_on (by decide)))).trans h_b
    have h13 := (f9.1 da (nin1 (Ne.symm (ob_ar h_on h_da)))).trans h_da
    have h14 := (f9.1 ra (nin1 (Ne.symm (ob_ar h_on h_ra)))).trans h_ra
    have h15 := (f9.1 rb (nin1 (Ne.symm (ob_ar h_on h_rb)))).trans h_rb
    have hF16 := hF.tr f9 (by simp)
    show pl _ _ _ (14, [(3, .int (nI p)), (0, .ref cd), (1, .int (nI k)), (2, .int w)], [.int 1], M5) _
    obtain ⟨xo, xz, xf, xs, xl, xt, xm, xw⟩ := x7
    obtain ⟨ho9, -, hs9, -⟩ := in_in q11_s
    dsimp only at ho9 hs9
    have ht9 : xt < 131076 := in_tc8 q11_s hL
    have h17 : M5.1 on = some (ob 5 [.ref b, .int (nI cb), .int (nI L), .int (nI xo), .int (nI xz), .int xf, .int xs, .int (nI xl), .int (nI xt), .int (nI p), .int (xm.getD y10), .int ((xw.map nI).getD y11)]) := h8
    refine ps_if (S1 := (19, [(3, .int (nI p)), (0, .ref cd), (1, .int (nI k)), (2, .int w)], [], M5)) (S2 := (17, [(3, .int (nI p)), (0, .ref cd), (1, .int (nI k)), (2, .int w)], [], M5)) rfl rfl rfl (fun c_14 => ?_) (fun c_14 => ?_)
    rotate_left
    · exact absurd (by decide) (of_decide_eq_false c_14)
    refine ps_st (S' := (20, [(3, .int (nI p)), (0, .ref cd), (1, .int (nI k)), (2, .int w)], [.int w], M5)) rfl rfl rfl ?_
    refine pl_sw rfl (fun t_20 et_20 => ?_)
    have ht_20 : t_20 ∈ [52, 60, 62, 95, 103] := mi_sw_sub et_20 (by decide)
    simp only [List.mem_cons, List.not_mem_nil, or_false] at ht_20
    rcases ht_20 with rfl | rfl | rfl | rfl | rfl
    · show pl _ _ _ (52, [(3, .int (nI p)), (0, .ref cd), (1, .int (nI k)), (2, .int w)], [], M5) _
      refine ps_st (S' := (53, [(3, .int (nI p)), (0, .ref cd), (1, .int (nI k)), (2, .int w)], [.ref cd], M5)) rfl rfl rfl ?_
      refine ps_get (S' := (56, [(3, .int (nI p)), (0, .ref cd), (1, .int (nI k)), (2, .int w)], [.ref on], M5)) rfl h11 rfl rfl ?_
      refine ps_get (S' := (59, [(3, .int (nI p)), (0, .ref cd), (1, .int (nI k)), (2, .int w)], [.int (nI xo)], M5)) rfl h17 rfl rfl ?_
      exact ps_reti rfl (⟨_, _, _, _, _, _, _, _, _, _, rfl, h17, hF16⟩)
    · show pl _ _ _ (60, [(3, .int (nI p)), (0, .ref cd), (1, .int (nI k)), (2, .int w)], [], M5) _
      refine ps_st (S' := (61, [(3, .int (nI p)), (0, .ref cd), (1, .int (nI k)), (2, .int w)], [.int (nI p)], M5)) rfl rfl rfl ?_
      exact ps_reti rfl (⟨_, _, _, _, _, _, _, _, _, _, rfl, h17, hF16⟩)
    · show pl _ _ _ (62, [(3, .int (nI p)), (0, .ref cd), (1, .int (nI k)), (2, .int w)], [], M5) _
      refine ps_st (S' := (63, [(3, .int (nI p)), (0, .ref cd), (1, .int (nI k)), (2, .int w)], [.ref cd], M5)) rfl rfl rfl ?_
      refine ps_get (S' := (66, [(3, .int (nI p)), (0, .ref cd), (1, .int (nI k)), (2, .int w)], [.ref on], M5)) rfl h11 rfl rfl ?_
      refine pl_call (a := [.ref on]) (rest := []) rfl rfl rfl (dk_isJump (on := on) (b := b) (cb := cb) (L := L) (y4 := (nI xz)) (y5 := xf) (y6 := xs) (y7 := (nI xl)) (y9 := (nI p)) (y10 := (xm.getD y10)) (y11 := ((xw.map nI).getD y11)) (o := xo) (tc := xt) h17 (by omega) (by omega)) (fun v18 M19 q20 => ?_)
      obtain ⟨rfl, rfl⟩ := q20
      show pl _ _ _ (69, [(3, .int (nI p)), (0, .ref cd), (1, .int (nI k)), (2, .int w)], [.int (nI (ijN xt xo))], M5) _
      refine ps_if (S1 := (87, [(3, .int (nI p)), (0, .ref cd), (1, .int (nI k)), (2, .int w)], [], M5)) (S2 := (72, [(3, .int (nI p)), (0, .ref cd), (1, .int (nI k)), (2, .int w)], [], M5)) rfl rfl rfl (fun c_69 => ?_) (fun c_69 => ?_)
      · have c_69 : (nI (ijN xt xo)) = 0 := of_decide_eq_true c_69
        have n_69 : ijN xt xo = 0 := (eq_nI (p := ijN xt xo) (n := 0) (Nat.lt_trans (le1_ij _ _) (by decide)) (by decide)).mp c_69
        refine ps_st (S' := (88, [(3, .int (nI p)), (0, .ref cd), (1, .int (nI k)), (2, .int w)], [.ref cd], M5)) rfl rfl rfl ?_
        refine ps_get (S' := (91, [(3, .int (nI p)), (0, .ref cd), (1, .int (nI k)), (2, .int w)], [.ref on], M5)) rfl h11 rfl rfl ?_
        refine ps_get (S' := (94, [], [.int xf], M5)) rfl h17 rfl rfl ?_
        exact ps_reti rfl (⟨_, _, _, _, _, _, _, _, _, _, rfl, h17, hF16⟩)
      · have c_69 : ¬ ((nI (ijN xt xo)) = 0) := of_decide_eq_false c_69
        have n_69 : ¬ (ijN xt xo = 0) := fun h9 => c_69 ((eq_nI (p := ijN xt xo) (n := 0) (Nat.lt_trans (le1_ij _ _) (by decide)) (by decide)).mpr h9)
        refine ps_st (S' := (73, [(3, .int (nI p)), (0, .ref cd), (1, .int (nI k)), (2, .int w)], [.ref cd], M5)) rfl rfl rfl ?_
        refine ps_st (S' := (74, [(3, .int (nI p)), (0, .ref cd), (1, .int (nI k)), (2, .int w)], [.ref cd, .ref cd], M5)) rfl rfl rfl ?_
        refine ps_get (S' := (77, [(3, .int (nI p)), (0, .ref cd), (1, .int (nI k)), (2, .int w)], [.ref on, .ref cd], M5)) rfl h11 rfl rfl ?_
        refine ps_st (S' := (78, [(3, .int (nI p)), (0, .ref cd), (1, .int (nI k)), (2, .int w)], [.int 0, .ref on, .ref cd], M5)) rfl rfl rfl ?_
        refine pl_call (a := [.ref on, .int 0]) (rest := [.ref cd]) rfl rfl rfl (dk_targetJ (on := on) (b := b) (cb := cb) (L := L) (y4 := (nI xz)) (y5 := xf) (y6 := xs) (y7 := (nI xl)) (y8 := (nI xt)) (y10 := (xm.getD y10)) (y11 := ((xw.map nI).getD y11)) (o := xo) (pc := p) (i := 0) h17 (by omega) (by have h9 := n_69; unfold ijN at h9; split at h9; rename_i h8; exact h8.2; exact absurd rfl h9)) (fun v21 M22 q23 => ?_)
        obtain ⟨rfl, rfl⟩ := q23
        show pl _ _ _ (81, [(3, .int (nI p)), (0, .ref cd), (1, .int (nI k)), (2, .int w)], [.long ((Int32.toInt64 (nI p)) + (Int32.toInt64 (xm.getD y10))), .ref cd], M5) _
        refine pl_call (a := [.ref cd, .long ((Int32.toInt64 (nI p)) + (Int32.toInt64 (xm.getD y10)))]) (rest := []) rfl rfl rfl (dk_numberAt (cd := cd) (q := q) (on := on) (t9 := rb) (L := L) (ml := ml) (mj := mj) (F := F10) (c0 := c0) (c2 := (nI L)) (c3 := c3) (c4 := c4) (v8 := (.int x8)) (v9 := (.ref ra)) (t := ((Int32.toInt64 (nI p)) + (Int32.toInt64 (xm.getD y10)))) h11 h15 (hL)) (fun v24 M25 q26 => ?_)
        obtain ⟨rfl, rfl⟩ := q26
        show pl _ _ _ (84, [(3, .int (nI p)), (0, .ref cd), (1, .int (nI k)), (2, .int w)], [.int (naI F10 L ((Int32.toInt64 (nI p)) + (Int32.toInt64 (xm.getD y10))))], M5) _
        refine ps_st (S' := (94, [], [.int (naI F10 L ((Int32.toInt64 (nI p)) + (Int32.toInt64 (xm.getD y10))))], M5)) rfl rfl rfl ?_
        exact ps_reti rfl (⟨_, _, _, _, _, _, _, _, _, _, rfl, h17, hF16⟩)
    · show pl _ _ _ (95, [(3, .int (nI p)), (0, .ref cd), (1, .int (nI k)), (2, .int w)], [], M5) _
      refine ps_st (S' := (96, [(3, .int (nI p)), (0, .ref cd), (1, .int (nI k)), (2, .int w)], [.ref cd], M5)) rfl rfl rfl ?_
      refine ps_get (S' := (99, [(3, .int (nI p)), (0, .ref cd), (1, .int (nI k)), (2, .int w)], [.ref on], M5)) rfl h11 rfl rfl ?_
      refine ps_get (S' := (102, [(3, .int (nI p)), (0, .ref cd), (1, .int (nI k)), (2, .int w)], [.int xs], M5)) rfl h17 rfl rfl ?_
      exact ps_reti rfl (⟨_, _, _, _, _, _, _, _, _, _, rfl, h17, hF16⟩)
    · show pl _ _ _ (103, [(3, .int (nI p)), (0, .ref cd), (1, .int (nI k)), (2, .int w)], [], M5) _
      refine ps_st (S' := (104, [(3, .int (nI p)), (0, .ref cd), (1, .int (nI k)), (2, .int w)], [.ref cd], M5)) rfl rfl rfl ?_
      refine ps_get (S' := (107, [(3, .int (nI p)), (0, .ref cd), (1, .int (nI k)), (2, .int w)], [.ref on], M5)) rfl h11 rfl rfl ?_
      refine pl_call (a := [.ref on]) (rest := []) rfl rfl rfl (dk_isSwitch (on := on) (b := b) (cb := cb) (L := L) (y4 := (nI xz)) (y5 := xf) (y6 := xs) (y7 := (nI xl)) (y8 := (nI xt)) (y9 := (nI p)) (y10 := (xm.getD y10)) (y11 := ((xw.map nI).getD y11)) (o := xo) h17 (by omega)) (fun v27 M28 q29 => ?_)
      obtain ⟨rfl, rfl⟩ := q29
      show pl _ _ _ (110, [(3, .int (nI p)), (0, .ref cd), (1, .int (nI k)), (2, .int w)], [.int (nI (swN xo))], M5) _
      have hsw_107 := swO_le xo
      refine ps_if (S1 := (123, [(3, .int (nI p)), (0, .ref cd), (1, .int (nI k)), (2, .int w)], [], M5)) (S2 := (113, [(3, .int (nI p)), (0, .ref cd), (1, .int (nI k)), (2, .int w)], [], M5)) rfl rfl rfl (fun c_110 => ?_) (fun c_110 => ?_)
      · have c_110 : (nI (swN xo)) = 0 := of_decide_eq_true c_110
        have n_110 : swN xo = 0 := (eq_nI (p := swN xo) (n := 0) (by omega) (by decide)).mp c_110
        refine ps_st (S' := (124, [], [.int 0], M5)) rfl rfl rfl ?_
        exact ps_ret rfl rfl (⟨_, _, _, _, _, _, _, _, _, _, rfl, h17, hF16⟩)
      · have c_110 : ¬ ((nI (swN xo)) = 0) := of_decide_eq_false c_110
        have n_110 : ¬ (swN xo = 0) := fun h9 => c_110 ((eq_nI (p := swN xo) (n := 0) (by omega) (by decide)).mpr h9)
        refine ps_st (S' := (114, [(3, .int (nI p)), (0, .ref cd), (1, .int (nI k)), (2, .int w)], [.ref cd], M5)) rfl rfl rfl ?_
        refine ps_get (S' := (117, [(3, .int (nI p)), (0, .ref cd), (1, .int (nI k)), (2, .int w)], [.ref on], M5)) rfl h11 rfl rfl ?_
        refine ps_get (S' := (120, [(3, .int (nI p)), (0, .ref cd), (1, .int (nI k)), (2, .int w)], [.int (nI xt)], M5)) rfl h17 rfl rfl ?_
        refine ps_st (S' := (124, [], [.int (nI xt)], M5)) rfl rfl rfl ?_
        exact ps_reti rfl (⟨_, _, _, _, _, _, _, _, _, _, rfl, h17, hF16⟩)
  · skip
    obtain ⟨z330, z431, z532, z633, z734, z835, z936, z1037, z1138, q11_s, rfl, h39, f40⟩ := q6
    have h42 := (f40.1 cd (nin1 (ob_ne h_cd h_on (by decide)))).trans h_cd
    have h43 := (f40.1 b (nin1 (ob_ne h_b h_on (by decide)))).trans h_b
    have h44 := (f40.1 da (nin1 (Ne.symm (ob_ar h_on h_da)))).trans h_da
    have h45 := (f40.1 ra (nin1 (Ne.symm (ob_ar h_on h_ra)))).trans h_ra
    have h46 := (f40.1 rb (nin1 (Ne.symm (ob_ar h_on h_rb)))).trans h_rb
    have hF47 := hF.tr f40 (by simp)
    show pl _ _ _ (14, [(3, .int (nI p)), (0, .ref cd), (1, .int (nI k)), (2, .int w)], [.int 0], M5) _
    refine ps_if (S1 := (19, [(3, .int (nI p)), (0, .ref cd), (1, .int (nI k)), (2, .int w)], [], M5)) (S2 := (17, [(3, .int (nI p)), (0, .ref cd), (1, .int (nI k)), (2, .int w)], [], M5)) rfl rfl rfl (fun c_14 => ?_) (fun c_14 => ?_)
    · exact absurd (of_decide_eq_true c_14) (by decide)
    refine ps_st (S' := (18, [(3, .int (nI p)), (0, .ref cd), (1, .int (nI k)), (2, .int w)], [.int (-1)], M5)) rfl rfl rfl ?_
    exact ps_ret rfl rfl (⟨_, _, _, _, _, _, _, _, _, _, rfl, h39, hF47⟩)
set_option maxHeartbeats 1000000 in
theorem dk_switchPlace8 {g : xe_G} {M : mi_H} {f : Nat → Int32} {n cd q on b da ra rb cb L ml mj k p : Nat} {c0 c3 c4 x8 : Int32} {F9 F10 : Nat → Int32} {y3 y4 y5 y6 y7 y8 y9 y10 y11 : Int32} {i ky : Int32} {S : List Nat} (h_cd : M.1 cd = some (ob 4 [.int c0, .int (nI ml), .int (nI L), .int c3, .int c4, .ref q, .int (nI mj), .ref on, .int x8, .ref ra, .ref rb])) (h_on : M.1 on = some (ob 5 [.ref b, .int (nI cb), .int (nI L), .int y3, .int y4, .int y5, .int y6, .int y7, .int y8, .int y9, .int y10, .int y11])) (h_b : M.1 b = some (ob 1 [.ref da])) (h_da : M.1 da = some (ar .byte n f)) (h_ra : M.1 ra = some (ar .int L F9)) (h_rb : M.1 rb = some (ar .int L F10)) (hn : n ≤ 65540) (hcl : cb + L + 4 ≤ n) (hk : k < L) (hL : L < 65536) (hp : F9 k = nI p) (hpl : p < L) (hF10 : ∀ j, j < L → F10 j = nuA S j) (hSL : ∀ p ∈ S, p < L) (hSl : S.length < 65536) : pt (mT g) 84 [.ref cd, .int (nI k), .int i, .int ky] M (fun v M' => (∃ (z3 z4 z5 z6 z7 z8 z9 z10 z11 : Int32), v = some (.int (jpI f cb L S p i ky)) ∧ M'.1 on = some (ob 5 [.ref b, .int (nI cb), .int (nI L), .int z3, .int z4, .int z5, .int z6, .int z7, .int z8, .int z9, .int z10, .int z11]) ∧ fm [on] M M')) := by
  refine pt_in (b := mb_84 g) rfl (fun kf => ?_)
  show pl (mT g) kf (mb_84 g).2 (0, [(0, .ref cd), (1, .int (nI k)), (2, .int i), (3, .int ky)], [], M) _
  have hF : fm [on] M M := fm.rf
  refine ps_st (S' := (1, [(0, .ref cd), (1, .int (nI k)), (2, .int i), (3, .int ky)], [.ref cd], M)) rfl rfl rfl ?_
  refine ps_get (S' := (4, [(0, .ref cd), (1, .int (nI k)), (2, .int i), (3, .int ky)], [.ref on], M)) rfl h_cd rfl rfl ?_
  refine ps_st (S' := (5, [(0, .ref cd), (1, .int (nI k)), (2, .int i), (3, .int ky)], [.ref cd, .ref on], M)) rfl rfl rfl ?_
  refine ps_st (S' := (6, [(0, .ref cd), (1, .int (nI k)), (2, .int i), (3, .int ky)], [.int (nI k), .ref cd, .ref on], M)) rfl rfl rfl ?_
  refine pl_call (a := [.ref cd, .int (nI k)]) (rest := [.ref on]) rfl rfl rfl (dk_startOf (cd := cd) (q := q) (on := on) (ra := ra) (rb := rb) (L := L) (ml := ml) (mj := mj) (c0 := c0) (c3 := c3) (c4 := c4) (x8 := x8) (F9 := F9) (k := k) (p := p) h_cd h_ra (hk) (hL) (hp)) (fun v1 M2 q3 => ?_)
  obtain ⟨rfl, rfl⟩ := q3
  show pl _ _ _ (9, [(0, .ref cd), (1, .int (nI k)), (2, .int i), (3, .int ky)], [.int (nI p), .ref on], M) _
  refine pl_call (a := [.ref on, .int (nI p)]) (rest := []) rfl rfl rfl (dk_isTakenApart (f := f) (n := n) (on := on) (b := b) (da := da) (cb := cb) (L := L) (y3 := y3) (y4 := y4) (y5 := y5) (y6 := y6) (y7 := y7) (y8 := y8) (y9 := y9) (y10 := y10) (y11 := y11) (pc := p) h_on h_b h_da (hn) (hcl) (hpl)) (fun v4 M5 q6 => ?_)
  rcases q6 with q6 | q6
  · skip
    obtain ⟨x7, q9_s, rfl, h8, f9⟩ := q6
    have h11 := (f9.1 cd (nin1 (ob_ne h_cd h_on (by decide)))).trans h_cd
    have h12 := (f9.1 b (nin1 (ob_ne h_b h_on (by decide)))).trans h_b
    have h13 := (f9.1 da (nin1 (Ne.symm (ob_ar h_on h_da)))).trans h_da
    have h14 := (f9.1 ra (nin1 (Ne.symm (ob_ar h_on h_ra)))).trans h_ra
    have h15 := (f9.1 rb (nin1 (Ne.symm (ob_ar h_on h_rb)))).trans h_rb
    have hF16 := hF.tr f9 (by simp)
    show pl _ _ _ (12, [(0, .ref cd), (1, .int (nI k)), (2, .int i), (3, .int ky)], [.int 1], M5) _
    obtain ⟨xo, xz, xf, xs, xl, xt, xm, xw⟩ := x7
    obtain ⟨ho9, -, hs9, -⟩ := in_in q9_s
    dsimp only at ho9 hs9
    have ht9 : xt < 131076 := in_tc8 q9_s hL
    have h17 : M5.1 on = some (ob 5 [.ref b, .int (nI cb), .int (nI L), .int (nI xo), .int (nI xz), .int xf, .int xs, .int (nI xl), .int (nI xt), .int (nI p), .int (xm.getD y10), .int ((xw.map nI).getD y11)]) := h8
    refine ps_if (S1 := (40, [], [], M5)) (S2 := (15, [(0, .ref cd), (1, .int (nI k)), (2, .int i), (3, .int ky)], [], M5)) rfl rfl rfl (fun c_12 => ?_) (fun c_12 => ?_)
    · exact absurd (of_decide_eq_true c_12) (by decide)
    refine ps_st (S' := (16, [(0, .ref cd), (1, .int (nI k)), (2, .int i), (3, .int ky)], [.ref cd], M5)) rfl rfl rfl ?_
    refine ps_get (S' := (19, [(0, .ref cd), (1, .int (nI k)), (2, .int i), (3, .int ky)], [.ref on], M5)) rfl h11 rfl rfl ?_
    refine pl_call (a := [.ref on]) (rest := []) rfl rfl rfl (dk_isSwitch (on := on) (b := b) (cb := cb) (L := L) (y4 := (nI xz)) (y5 := xf) (y6 := xs) (y7 := (nI xl)) (y8 := (nI xt)) (y9 := (nI p)) (y10 := (xm.getD y10)) (y11 := ((xw.map nI).getD y11)) (o := xo) h17 (by omega)) (fun v18 M19 q20 => ?_)
    obtain ⟨rfl, rfl⟩ := q20
    show pl _ _ _ (22, [(0, .ref cd), (1, .int (nI k)), (2, .int i), (3, .int ky)], [.int (nI (swN xo))], M5) _
    have hsw_19 := swO_le xo
    refine ps_if (S1 := (40, [], [], M5)) (S2 := (25, [(0, .ref cd), (1, .int (nI k)), (2, .int i), (3, .int ky)], [], M5)) rfl rfl rfl (fun c_22 => ?_) (fun c_22 => ?_)
    · have c_22 : (nI (swN xo)) = 0 := of_decide_eq_true c_22
      have n_22 : swN xo = 0 := (eq_nI (p := swN xo) (n := 0) (by omega) (by decide)).mp c_22
      refine ps_st (S' := (41, [], [.int (-1)], M5)) rfl rfl rfl ?_
      exact ps_ret rfl rfl (⟨_, _, _, _, _, _, _, _, _, by
          unfold jpI
          rw [q9_s]
          dsimp only
          rw [if_pos (Or.inl n_22)], h17, hF16⟩)
    · have c_22 : ¬ ((nI (swN xo)) = 0) := of_decide_eq_false c_22
      have n_22 : ¬ (swN xo = 0) := fun h9 => c_22 ((eq_nI (p := swN xo) (n := 0) (by omega) (by decide)).mpr h9)
      refine ps_st (S' := (26, [(0, .ref cd), (1, .int (nI k)), (2, .int i), (3, .int ky)], [.int i], M5)) rfl rfl rfl ?_
      refine ps_if (S1 := (40, [], [], M5)) (S2 := (29, [(0, .ref cd), (1, .int (nI k)), (2, .int i), (3, .int ky)], [], M5)) rfl rfl rfl (fun c_26 => ?_) (fun c_26 => ?_)
      · have c_26 : i < 0 := of_decide_eq_true c_26
        refine ps_st (S' := (41, [], [.int (-1)], M5)) rfl rfl rfl ?_
        exact ps_ret rfl rfl (⟨_, _, _, _, _, _, _, _, _, by
            unfold jpI
            rw [q9_s]
            dsimp only
            rw [if_pos (Or.inr (Or.inl c_26))], h17, hF16⟩)
      · have c_26 : ¬ (i < 0) := of_decide_eq_false c_26
        refine ps_st (S' := (30, [(0, .ref cd), (1, .int (nI k)), (2, .int i), (3, .int ky)], [.int i], M5)) rfl rfl rfl ?_
        refine ps_st (S' := (31, [(0, .ref cd), (1, .int (nI k)), (2, .int i), (3, .int ky)], [.ref cd, .int i], M5)) rfl rfl rfl ?_
        refine ps_get (S' := (34, [(0, .ref cd), (1, .int (nI k)), (2, .int i), (3, .int ky)], [.ref on, .int i], M5)) rfl h11 rfl rfl ?_
        refine ps_get (S' := (37, [(0, .ref cd), (1, .int (nI k)), (2, .int i), (3, .int ky)], [.int (nI xt), .int i], M5)) rfl h17 rfl rfl ?_
        refine ps_if2 (S1 := (42, [(0, .ref cd), (1, .int (nI k)), (2, .int i), (3, .int ky)], [], M5)) (S2 := (40, [], [], M5)) rfl rfl rfl (fun c_37 => ?_) (fun c_37 => ?_)
        · have c_37 : i < (nI xt) := of_decide_eq_true c_37
          have hs8 := hs9.resolve_left (fun h9 => n_22 h9.2.1)
          obtain ⟨e8, g2, g3, g4⟩ := hs8
          subst e8
          obtain ⟨a1, a2, a3⟩ := sw_in g4 g2
          dsimp only at a2 a3
          have hpd := pd_le p
          have htc : xt < 65536 := Nat.not_le.mp (fun h9 => by
            have := a3 65535 (by omega)
            split at this <;> omega)
          obtain ⟨ei, lj⟩ := i32_in htc (show ¬ (i < 0 ∨ nI xt ≤ i) from fun h9 => h9.elim c_26 (fun h8 => Int32.not_lt.mpr h8 c_37))
          obtain ⟨j, ej⟩ : ∃ j, j = i.toNatClampNeg := ⟨_, rfl⟩
          rw [← ej] at ei lj
          clear ej
          subst ei
          have hnj : ¬ (swN xo = 0 ∨ nI j < 0 ∨ nI xt ≤ nI j) := fun h9 => h9.elim n_22 (fun h9 => h9.elim c_26 (fun h8 => Int32.not_lt.mpr h8 c_37))
          have hjt : (nI j).toNatClampNeg = j := nI_toNat (by omega)
          have h21 : M5.1 on = some (ob 5 [.ref b, .int (nI cb), .int (nI L), .int (nI xo), .int (nI xz), .int xf, .int xs, .int (nI xl), .int (nI xt), .int (nI p), .int (xm.getD y10), .int (nI (pdN p))]) := h17
          show pl _ _ _ (42, [(0, .ref cd), (1, .int (nI k)), (2, .int (nI j)), (3, .int ky)], [], M5) _
          refine ps_st (S' := (43, [(0, .ref cd), (1, .int (nI k)), (2, .int (nI j)), (3, .int ky)], [.int ky], M5)) rfl rfl rfl ?_
          refine ps_if (S1 := (57, [(0, .ref cd), (1, .int (nI k)), (2, .int (nI j)), (3, .int ky)], [], M5)) (S2 := (46, [(0, .ref cd), (1, .int (nI k)), (2, .int (nI j)), (3, .int ky)], [], M5)) rfl rfl rfl (fun c_43 => ?_) (fun c_43 => ?_)
          · have c_43 : ky = 0 := of_decide_eq_true c_43
            refine ps_st (S' := (58, [(0, .ref cd), (1, .int (nI k)), (2, .int (nI j)), (3, .int ky)], [.ref cd], M5)) rfl rfl rfl ?_
            refine ps_st (S' := (59, [(0, .ref cd), (1, .int (nI k)), (2, .int (nI j)), (3, .int ky)], [.ref cd, .ref cd], M5)) rfl rfl rfl ?_
            refine ps_get (S' := (62, [(0, .ref cd), (1, .int (nI k)), (2, .int (nI j)), (3, .int ky)], [.ref on, .ref cd], M5)) rfl h11 rfl rfl ?_
            refine ps_st (S' := (63, [(0, .ref cd), (1, .int (nI k)), (2, .int (nI j)), (3, .int ky)], [.int (nI j), .ref on, .ref cd], M5)) rfl rfl rfl ?_
            refine pl_call (a := [.ref on, .int (nI j)]) (rest := [.ref cd]) rfl rfl rfl (dk_targetS (f := f) (n := n) (on := on) (b := b) (da := da) (cb := cb) (L := L) (y4 := (nI xz)) (y5 := xf) (y6 := xs) (y7 := (nI xl)) (y8 := (nI xt)) (y10 := (xm.getD y10)) (o := xo) (pc := p) (sw := (pdN p)) (i := j) h21 h12 h13 (hn) (g2) (by omega) (by omega) (by have h8 := a3 j lj; split at h8 <;> rename_i hq <;> first | (rw [if_pos hq]; omega) | (rw [if_neg hq]; omega)) (by omega)) (fun v22 M23 q24 => ?_)
            obtain ⟨rfl, rfl⟩ := q24
            show pl _ _ _ (66, [(0, .ref cd), (1, .int (nI k)), (2, .int (nI j)), (3, .int ky)], [.long ((Int32.toInt64 (nI p)) + (Int32.toInt64 (tdS f cb xo (pdN p) j))), .ref cd], M5) _
            refine pl_call (a := [.ref cd, .long ((Int32.toInt64 (nI p)) + (Int32.toInt64 (tdS f cb xo (pdN p) j)))]) (rest := []) rfl rfl rfl (dk_numberAt (cd := cd) (q := q) (on := on) (t9 := rb) (L := L) (ml := ml) (mj := mj) (F := F10) (c0 := c0) (c2 := (nI L)) (c3 := c3) (c4 := c4) (v8 := (.int x8)) (v9 := (.ref ra)) (t := ((Int32.toInt64 (nI p)) + (Int32.toInt64 (tdS f cb xo (pdN p) j)))) h11 h15 (hL)) (fun v25 M26 q27 => ?_)
            obtain ⟨rfl, rfl⟩ := q27
            show pl _ _ _ (69, [], [.int (naI F10 L ((Int32.toInt64 (nI p)) + (Int32.toInt64 (tdS f cb xo (pdN p) j))))], M5) _
            exact ps_reti rfl (⟨_, _, _, _, _, _, _, _, _, by
                unfold jpI
                rw [q9_s]
                dsimp only
                rw [if_neg hnj, if_pos c_43, hjt, na_nb hF10 hSL hSl, t64_val (by omega)]
                rfl, h21, hF16⟩)
          · have c_43 : ¬ (ky = 0) := of_decide_eq_false c_43
            refine ps_st (S' := (47, [(0, .ref cd), (1, .int (nI k)), (2, .int (nI j)), (3, .int ky)], [.ref cd], M5)) rfl rfl rfl ?_
            refine ps_get (S' := (50, [(0, .ref cd), (1, .int (nI k)), (2, .int (nI j)), (3, .int ky)], [.ref on], M5)) rfl h11 rfl rfl ?_
            refine ps_st (S' := (51, [(0, .ref cd), (1, .int (nI k)), (2, .int (nI j)), (3, .int ky)], [.int (nI j), .ref on], M5)) rfl rfl rfl ?_
            refine pl_call (a := [.ref on, .int (nI j)]) (rest := []) rfl rfl rfl (dk_keyOf8 (f := f) (n := n) (on := on) (b := b) (da := da) (cb := cb) (L := L) (y4 := (nI xz)) (y6 := xs) (y7 := (nI xl)) (y8 := (nI xt)) (y9 := (nI p)) (y10 := (xm.getD y10)) (o := xo) (sw := (pdN p)) (i := j) (lo := xf) h21 h12 h13 (hn) (g2) (by omega) (by omega) (fun hq => (by have h8 := a3 j lj; rw [if_neg (by omega)] at h8; omega))) (fun v28 M29 q30 => ?_)
            obtain ⟨rfl, rfl⟩ := q30
            show pl _ _ _ (54, [(0, .ref cd), (1, .int (nI k)), (2, .int (nI j)), (3, .int ky)], [.int (kyI f cb xo (pdN p) xf j)], M5) _
            refine ps_st (S' := (69, [], [.int (kyI f cb xo (pdN p) xf j)], M5)) rfl rfl rfl ?_
            exact ps_reti rfl (⟨_, _, _, _, _, _, _, _, _, by
                unfold jpI
                rw [q9_s]
                dsimp only
                rw [if_neg hnj, if_neg c_43, hjt], h21, hF16⟩)
        · have c_37 : ¬ (i < (nI xt)) := of_decide_eq_false c_37
          refine ps_st (S' := (41, [], [.int (-1)], M5)) rfl rfl rfl ?_
          exact ps_ret rfl rfl (⟨_, _, _, _, _, _, _, _, _, by
              unfold jpI
              rw [q9_s]
              dsimp only
              rw [if_pos (Or.inr (Or.inr (Int32.not_lt.mp c_37)))], h17, hF16⟩)
  · skip
    obtain ⟨z331, z432, z533, z634, z735, z836, z937, z1038, z1139, q9_s, rfl, h40, f41⟩ := q6
    have h43 := (f41.1 cd (nin1 (ob_ne h_cd h_on (by decide)))).trans h_cd
    have h44 := (f41.1 b (nin1 (ob_ne h_b h_on (by decide)))).trans h_b
    have h45 := (f41.1 da (nin1 (Ne.symm (ob_ar h_on h_da)))).trans h_da
    have h46 := (f41.1 ra (nin1 (Ne.symm (ob_ar h_on h_ra)))).trans h_ra
    have h47 := (f41.1 rb (nin1 (Ne.symm (ob_ar h_on h_rb)))).trans h_rb
    have hF48 := hF.tr f41 (by simp)
    show pl _ _ _ (12, [(0, .ref cd), (1, .int (nI k)), (2, .int i), (3, .int ky)], [.int 0], M5) _
    refine ps_if (S1 := (40, [], [], M5)) (S2 := (15, [(0, .ref cd), (1, .int (nI k)), (2, .int i), (3, .int ky)], [], M5)) rfl rfl rfl (fun c_12 => ?_) (fun c_12 => ?_)
    rotate_left
    · exact absurd (by decide) (of_decide_eq_false c_12)
    refine ps_st (S' := (41, [], [.int (-1)], M5)) rfl rfl rfl ?_
    exact ps_ret rfl rfl (⟨_, _, _, _, _, _, _, _, _, by
        unfold jpI
        rw [q9_s], h40, hF48⟩)
theorem dk_cutUp8 {g : xe_G} {M : mi_H} {f : Nat → Int32} {n N q : Nat} {E : List (Nat × Nat)} {cd on b da cb L ml mj : Nat} {c0 c3 c4 : Int32} {y3 y4 y5 y6 y7 y8 y9 y10 y11 : Int32} {x8 : Int32} {v9 v10 : Value} (h_cd : M.1 cd = some (ob 4 [.int c0, .int (nI ml), .int (nI L), .int c3, .int c4, .ref q, .int (nI mj), .ref on, .int x8, v9, v10])) (h_on : M.1 on = some (ob 5 [.ref b, .int (nI cb), .int (nI L), .int y3, .int y4, .int y5, .int y6, .int y7, .int y8, .int y9, .int y10, .int y11])) (h_b : M.1 b = some (ob 1 [.ref da])) (h_da : M.1 da = some (ar .byte n f)) (hn : n ≤ 65540) (hmj : mj < 65536) (hml : ml < 65536) (hcl : cb + L + 4 ≤ n) (hL : 1 ≤ L ∧ L < 65536) (h0 : tg f E 0 = 0) (hCP : CP f n E) (hV : PV g f n N E q M) (l_cd : cd < M.2.1) (l_on : on < M.2.1) (l_b : b < M.2.1) (l_da : da < M.2.1) (l_q : q < M.2.1) (hst : CT8 f n E mj cb L ml x8 v9 v10 M) : pt (mT g) 76 [.ref cd] M (fun v M' => (∃ (ra rb : Nat) (F9 F10 : Nat → Int32) (z3 z4 z5 z6 z7 z8 z9 z10 z11 : Int32), (ra < M'.2.1 ∧ rb < M'.2.1) ∧ (∀ S, cutS f n E mj cb L ml = .inr S → (∀ i, i < S.length → F9 i = nI (S.getD i 0)) ∧ ∀ j, j < L → F10 j = nuA S j) ∧ v = some (.int (cutV f n E mj cb L ml)) ∧ M'.1 cd = some (ob 4 [.int c0, .int (nI ml), .int (nI L), .int c3, .int c4, .ref q, .int (nI mj), .ref on, .int (cutV f n E mj cb L ml), .ref ra, .ref rb]) ∧ M'.1 on = some (ob 5 [.ref b, .int (nI cb), .int (nI L), .int z3, .int z4, .int z5, .int z6, .int z7, .int z8, .int z9, .int z10, .int z11]) ∧ M'.1 ra = some (ar .int L F9) ∧ M'.1 rb = some (ar .int L F10) ∧ gm [cd, on] M M' ∧ M.2.1 ≤ M'.2.1)) := by
  rcases hst with rfl | ⟨e8, ra, rb, F9, F10, rfl, rfl, hl8, r1, r2, hr⟩
  · refine (dk_cutUp7 h_cd h_on h_b h_da hn hmj hml hcl hL h0 hCP hV l_cd l_on l_b l_da l_q).mono (fun v M' h => ?_)
    obtain ⟨F9, F10, z3, z4, z5, z6, z7, z8, z9, z10, z11, a1, a2, a3, a4, a5, a6, a7, a8⟩ := h
    exact ⟨_, _, F9, F10, z3, z4, z5, z6, z7, z8, z9, z10, z11, by omega, a1, a2, a3, a4, a5, a6, a7, a7.2⟩
  · subst e8
    refine (dk_cutUpC h_cd (cutV_n0 hL)).mono (fun v M' h => ?_)
    obtain ⟨h1, h2⟩ := h
    subst h2
    exact ⟨ra, rb, F9, F10, _, _, _, _, _, _, _, _, _, hl8, hr, h1, h_cd, h_on, r1, r2, gm.rf, Nat.le_refl _⟩
set_option maxHeartbeats 1000000 in
theorem dk_cutG {g : xe_G} {M : mi_H} {o ca fl : Nat} {cn wp : Int32} {c b q fr mr l : Nat} {u2 u3 u4 u5 : Int32} {w : List Value} {R : Nat → Value} {a : Nat} {m0 m1 m2 m3 m4 m5 m6 m7 m8 m9 : Int32} {f : Nat → Int32} {n N : Nat} {E : List (Nat × Nat)} {cd on da cb L ml mj : Nat} {c0 c3 c4 : Int32} {y3 y4 y5 y6 y7 y8 y9 y10 y11 : Int32} {x8 : Int32} {v9 v10 : Value} {k : Nat} (h_o : M.1 o = some (ob 11 [.ref ca, .int cn, .ref fl, .ref c, .int wp])) (h_c : M.1 c = some (ob 3 (.ref b :: .ref q :: .int u2 :: .int u3 :: .int u4 :: .int u5 :: .ref fr :: .ref mr :: w))) (h_mr : M.1 mr = some (ro "ClassGate$Member" l R)) (h_a : M.1 a = some (ob 6 [.int m0, .int m1, .int m2, .int m3, .int m4, .int m5, .int m6, .int m7, .int m8, .int m9, .ref cd])) (h_cd : M.1 cd = some (ob 4 [.int c0, .int (nI ml), .int (nI L), .int c3, .int c4, .ref q, .int (nI mj), .ref on, .int x8, v9, v10])) (h_on : M.1 on = some (ob 5 [.ref b, .int (nI cb), .int (nI L), .int y3, .int y4, .int y5, .int y6, .int y7, .int y8, .int y9, .int y10, .int y11])) (h_b : M.1 b = some (ob 1 [.ref da])) (h_da : M.1 da = some (ar .byte n f)) (hn : n ≤ 65540) (hmj : mj < 65536) (hml : ml < 65536) (hcl : cb + L + 4 ≤ n) (hL : 1 ≤ L ∧ L < 65536) (h0 : tg f E 0 = 0) (hCP : CP f n E) (hV : PV g f n N E q M) (l_o : o < M.2.1) (l_c : c < M.2.1) (l_mr : mr < M.2.1) (l_a : a < M.2.1) (l_cd : cd < M.2.1) (l_on : on < M.2.1) (l_b : b < M.2.1) (l_da : da < M.2.1) (l_q : q < M.2.1) (hst : CT8 f n E mj cb L ml x8 v9 v10 M) (hk : k < l) (hl : l < 65536) (hR : R k = .ref a) : pt (mT g) 6 [.ref o, .int (nI k)] M (fun v M' => (∃ (x9 z3 z4 z5 z6 z7 z8 z9 z10 z11 : Int32) (w9 w10 : Value), (CT8 f n E mj cb L ml x9 w9 w10 M') ∧ v = some (.int (cutV f n E mj cb L ml)) ∧ M'.1 cd = some (ob 4 [.int c0, .int (nI ml), .int (nI L), .int c3, .int c4, .ref q, .int (nI mj), .ref on, .int x9, w9, w10]) ∧ M'.1 on = some (ob 5 [.ref b, .int (nI cb), .int (nI L), .int z3, .int z4, .int z5, .int z6, .int z7, .int z8, .int z9, .int z10, .int z11]) ∧ gm [cd, on] M M' ∧ M.2.1 ≤ M'.2.1)) := by
  refine pt_in (b := mb_6 g) rfl (fun kf => ?_)
  show pl (mT g) kf (mb_6 g).2 (0, [(0, .ref o), (1, .int (nI k))], [], M) _
  have hF : gm [cd, on] M M := gm.rf
  obtain ⟨z0, tp0⟩ : ∃ z0, M.2.1 = z0 := ⟨_, rfl⟩
  refine ps_st (S' := (1, [(0, .ref o), (1, .int (nI k))], [.ref o], M)) rfl rfl rfl ?_
  refine ps_st (S' := (2, [(0, .ref o), (1, .int (nI k))], [.int (nI k), .ref o], M)) rfl rfl rfl ?_
  refine pl_call (a := [.ref o, .int (nI k)]) (rest := []) rfl rfl rfl (dk_codeOfC (o := o) (ca := ca) (fl := fl) (cn := cn) (wp := wp) (c := c) (b := b) (q := q) (fr := fr) (mr := mr) (l := l) (u2 := u2) (u3 := u3) (u4 := u4) (u5 := u5) (w := w) (R := R) (a := a) (m0 := m0) (m1 := m1) (m2 := m2) (m3 := m3) (m4 := m4) (m5 := m5) (m6 := m6) (m7 := m7) (m8 := m8) (m9 := m9) (k := k) (z := cd) h_o h_c h_mr h_a (hk) (hl) (hR)) (fun v1 M2 q3 => ?_)
  obtain ⟨rfl, rfl⟩ := q3
  show pl _ _ _ (5, [(0, .ref o), (1, .int (nI k))], [.ref cd], M) _
  refine ps_st (S' := (6, [(2, .ref cd), (0, .ref o), (1, .int (nI k))], [], M)) rfl rfl rfl ?_
  refine ps_st (S' := (7, [(2, .ref cd), (0, .ref o), (1, .int (nI k))], [.ref cd], M)) rfl rfl rfl ?_
  refine ps_st (S' := (14, [(2, .ref cd), (0, .ref o), (1, .int (nI k))], [], M)) rfl rfl rfl ?_
  refine ps_st (S' := (15, [(2, .ref cd), (0, .ref o), (1, .int (nI k))], [.ref cd], M)) rfl rfl rfl ?_
  refine pl_call (a := [.ref cd]) (rest := []) rfl rfl rfl (dk_cutUp8 (f := f) (n := n) (N := N) (q := q) (E := E) (cd := cd) (on := on) (b := b) (da := da) (cb := cb) (L := L) (ml := ml) (mj := mj) (c0 := c0) (c3 := c3) (c4 := c4) (y3 := y3) (y4 := y4) (y5 := y5) (y6 := y6) (y7 := y7) (y8 := y8) (y9 := y9) (y10 := y10) (y11 := y11) (x8 := x8) (v9 := v9) (v10 := v10) h_cd h_on h_b h_da (hn) (hmj) (hml) (hcl) (hL) (h0) (hCP) (hV) (l_cd) (l_on) (l_b) (l_da) (l_q) (hst)) (fun v4 M5 q6 => ?_)
  obtain ⟨ra7, rb8, F99, F1010, z311, z412, z513, z614, z715, z816, z917, z1018, z1119, q15_l, q15_r, rfl, h20, h21, h22, h23, f24, tp25⟩ := q6
  have h26 := (f24.1 o (by omega) (nin2 (ob_ne h_o h_cd (by decide)) (ob_ne h_o h_on (by decide)))).trans h_o
  have h27 := (f24.1 c (by omega) (nin2 (ob_ne h_c h_cd (by decide)) (ob_ne h_c h_on (by decide)))).trans h_c
  have h28 := (f24.1 mr (by omega) (nin2 (Ne.symm (ob_ro h_cd h_mr)) (Ne.symm (ob_ro h_on h_mr)))).trans h_mr
  have h29 := (f24.1 a (by omega) (nin2 (ob_ne h_a h_cd (by decide)) (ob_ne h_a h_on (by decide)))).trans h_a
  have h30 := (f24.1 b (by omega) (nin2 (ob_ne h_b h_cd (by decide)) (ob_ne h_b h_on (by decide)))).trans h_b
  have h31 := (f24.1 da (by omega) (nin2 (Ne.symm (ob_ar h_cd h_da)) (Ne.symm (ob_ar h_on h_da)))).trans h_da
  obtain ⟨t33, tp34⟩ : ∃ t9, M5.2.1 = t9 := ⟨_, rfl⟩
  rw [tp0, tp34] at tp25
  have hF32 := hF.tr f24 (by intro z hz; simp only [List.mem_cons, List.not_mem_nil, or_false] at hz ⊢; try omega)
  show pl _ _ _ (18, [], [.int (cutV f n E mj cb L ml)], M5) _
  rw [tp34] at q15_l
  exact ps_reti rfl (⟨(cutV f n E mj cb L ml), z311, z412, z513, z614, z715, z816, z917, z1018, z1119, (.ref ra7), (.ref rb8), Or.inr ⟨rfl, ra7, rb8, F99, F1010, rfl, rfl, by rw [tp34]; exact q15_l, h22, h23, q15_r⟩, rfl, h20, h21, hF32, hF32.2⟩)
set_option maxHeartbeats 1000000 in
theorem dk_instrG {g : xe_G} {M : mi_H} {o ca fl : Nat} {cn wp : Int32} {c b q fr mr l : Nat} {u2 u3 u4 u5 : Int32} {w : List Value} {R : Nat → Value} {a : Nat} {m0 m1 m2 m3 m4 m5 m6 m7 m8 m9 : Int32} {f : Nat → Int32} {n N : Nat} {E : List (Nat × Nat)} {cd on da cb L ml mj : Nat} {c0 c3 c4 : Int32} {y3 y4 y5 y6 y7 y8 y9 y10 y11 : Int32} {x8 : Int32} {v9 v10 : Value} {k : Nat} {kk w9x : Int32} (h_o : M.1 o = some (ob 11 [.ref ca, .int cn, .ref fl, .ref c, .int wp])) (h_c : M.1 c = some (ob 3 (.ref b :: .ref q :: .int u2 :: .int u3 :: .int u4 :: .int u5 :: .ref fr :: .ref mr :: w))) (h_mr : M.1 mr = some (ro "ClassGate$Member" l R)) (h_a : M.1 a = some (ob 6 [.int m0, .int m1, .int m2, .int m3, .int m4, .int m5, .int m6, .int m7, .int m8, .int m9, .ref cd])) (h_cd : M.1 cd = some (ob 4 [.int c0, .int (nI ml), .int (nI L), .int c3, .int c4, .ref q, .int (nI mj), .ref on, .int x8, v9, v10])) (h_on : M.1 on = some (ob 5 [.ref b, .int (nI cb), .int (nI L), .int y3, .int y4, .int y5, .int y6, .int y7, .int y8, .int y9, .int y10, .int y11])) (h_b : M.1 b = some (ob 1 [.ref da])) (h_da : M.1 da = some (ar .byte n f)) (hn : n ≤ 65540) (hmj : mj < 65536) (hml : ml < 65536) (hcl : cb + L + 4 ≤ n) (hL : 1 ≤ L ∧ L < 65536) (h0 : tg f E 0 = 0) (hCP : CP f n E) (hV : PV g f n N E q M) (l_o : o < M.2.1) (l_c : c < M.2.1) (l_mr : mr < M.2.1) (l_a : a < M.2.1) (l_cd : cd < M.2.1) (l_on : on < M.2.1) (l_b : b < M.2.1) (l_da : da < M.2.1) (l_q : q < M.2.1) (hst : CT8 f n E mj cb L ml x8 v9 v10 M) (hk : k < l) (hl : l < 65536) (hR : R k = .ref a) (hw0 : ¬ w9x < 0) (hw4 : w9x ≤ 4) : pt (mT g) 12 [.ref o, .int (nI k), .int kk, .int w9x] M (fun v M' => (∃ (y x9 z3 z4 z5 z6 z7 z8 z9 z10 z11 : Int32) (w9 w10 : Value), (CT8 f n E mj cb L ml x9 w9 w10 M') ∧ v = some (.int y) ∧ M'.1 cd = some (ob 4 [.int c0, .int (nI ml), .int (nI L), .int c3, .int c4, .ref q, .int (nI mj), .ref on, .int x9, w9, w10]) ∧ M'.1 on = some (ob 5 [.ref b, .int (nI cb), .int (nI L), .int z3, .int z4, .int z5, .int z6, .int z7, .int z8, .int z9, .int z10, .int z11]) ∧ gm [cd, on] M M' ∧ M.2.1 ≤ M'.2.1)) := by
  refine pt_in (b := mb_12 g) rfl (fun kf => ?_)
  show pl (mT g) kf (mb_12 g).2 (0, [(0, .ref o), (1, .int (nI k)), (2, .int kk), (3, .int w9x)], [], M) _
  have hF : gm [cd, on] M M := gm.rf
  obtain ⟨z0, tp0⟩ : ∃ z0, M.2.1 = z0 := ⟨_, rfl⟩
  refine ps_st (S' := (1, [(0, .ref o), (1, .int (nI k)), (2, .int kk), (3, .int w9x)], [.int w9x], M)) rfl rfl rfl ?_
  refine ps_if (S1 := (9, [(0, .ref o), (1, .int (nI k)), (2, .int kk), (3, .int w9x)], [], M)) (S2 := (4, [(0, .ref o), (1, .int (nI k)), (2, .int kk), (3, .int w9x)], [], M)) rfl rfl rfl (fun c_1 => ?_) (fun c_1 => ?_)
  · exact absurd (of_decide_eq_true c_1) (hw0)
  refine ps_st (S' := (5, [(0, .ref o), (1, .int (nI k)), (2, .int kk), (3, .int w9x)], [.int w9x], M)) rfl rfl rfl ?_
  refine ps_st (S' := (6, [(0, .ref o), (1, .int (nI k)), (2, .int kk), (3, .int w9x)], [.int 4, .int w9x], M)) rfl rfl rfl ?_
  refine ps_if2 (S1 := (19, [(0, .ref o), (1, .int (nI k)), (2, .int kk), (3, .int w9x)], [], M)) (S2 := (9, [(0, .ref o), (1, .int (nI k)), (2, .int kk), (3, .int w9x)], [], M)) rfl rfl rfl (fun c_6 => ?_) (fun c_6 => ?_)
  rotate_left
  · exact absurd (hw4) (of_decide_eq_false c_6)
  refine ps_st (S' := (20, [(0, .ref o), (1, .int (nI k)), (2, .int kk), (3, .int w9x)], [.ref o], M)) rfl rfl rfl ?_
  refine ps_st (S' := (21, [(0, .ref o), (1, .int (nI k)), (2, .int kk), (3, .int w9x)], [.int (nI k), .ref o], M)) rfl rfl rfl ?_
  refine pl_call (a := [.ref o, .int (nI k)]) (rest := []) rfl rfl rfl (dk_codeOfC (o := o) (ca := ca) (fl := fl) (cn := cn) (wp := wp) (c := c) (b := b) (q := q) (fr := fr) (mr := mr) (l := l) (u2 := u2) (u3 := u3) (u4 := u4) (u5 := u5) (w := w) (R := R) (a := a) (m0 := m0) (m1 := m1) (m2 := m2) (m3 := m3) (m4 := m4) (m5 := m5) (m6 := m6) (m7 := m7) (m8 := m8) (m9 := m9) (k := k) (z := cd) h_o h_c h_mr h_a (hk) (hl) (hR)) (fun v1 M2 q3 => ?_)
  obtain ⟨rfl, rfl⟩ := q3
  show pl _ _ _ (24, [(0, .ref o), (1, .int (nI k)), (2, .int kk), (3, .int w9x)], [.ref cd], M) _
  refine ps_st (S' := (26, [(4, .ref cd), (0, .ref o), (1, .int (nI k)), (2, .int kk), (3, .int w9x)], [], M)) rfl rfl rfl ?_
  refine ps_st (S' := (28, [(4, .ref cd), (0, .ref o), (1, .int (nI k)), (2, .int kk), (3, .int w9x)], [.ref cd], M)) rfl rfl rfl ?_
  refine ps_st (S' := (31, [(4, .ref cd), (0, .ref o), (1, .int (nI k)), (2, .int kk), (3, .int w9x)], [], M)) rfl rfl rfl ?_
  refine ps_st (S' := (32, [(4, .ref cd), (0, .ref o), (1, .int (nI k)), (2, .int kk), (3, .int w9x)], [.int kk], M)) rfl rfl rfl ?_
  refine ps_if (S1 := (44, [], [], M)) (S2 := (35, [(4, .ref cd), (0, .ref o), (1, .int (nI k)), (2, .int kk), (3, .int w9x)], [], M)) rfl rfl rfl (fun c_32 => ?_) (fun c_32 => ?_)
  · have c_32 : kk < 0 := of_decide_eq_true c_32
    refine ps_st (S' := (45, [], [.int (-1)], M)) rfl rfl rfl ?_
    refine ps_st (S' := (55, [], [.int (-1)], M)) rfl rfl rfl ?_
    exact ps_ret rfl rfl (⟨_, x8, y3, y4, y5, y6, y7, y8, y9, y10, y11, v9, v10, hst, rfl, h_cd, h_on, hF, hF.2⟩)
  · have c_32 : ¬ (kk < 0) := of_decide_eq_false c_32
    refine ps_st (S' := (36, [(4, .ref cd), (0, .ref o), (1, .int (nI k)), (2, .int kk), (3, .int w9x)], [.int kk], M)) rfl rfl rfl ?_
    refine ps_st (S' := (38, [(4, .ref cd), (0, .ref o), (1, .int (nI k)), (2, .int kk), (3, .int w9x)], [.ref cd, .int kk], M)) rfl rfl rfl ?_
    refine pl_call (a := [.ref cd]) (rest := [.int kk]) rfl rfl rfl (dk_cutUp8 (f := f) (n := n) (N := N) (q := q) (E := E) (cd := cd) (on := on) (b := b) (da := da) (cb := cb) (L := L) (ml := ml) (mj := mj) (c0 := c0) (c3 := c3) (c4 := c4) (y3 := y3) (y4 := y4) (y5 := y5) (y6 := y6) (y7 := y7) (y8 := y8) (y9 := y9) (y10 := y10) (y11 := y11) (x8 := x8) (v9 := v9) (v10 := v10) h_cd h_on h_b h_da (hn) (hmj) (hml) (hcl) (hL) (h0) (hCP) (hV) (l_cd) (l_on) (l_b) (l_da) (l_q) (hst)) (fun v4 M5 q6 => ?_)
    obtain ⟨ra7, rb8, F99, F1010, z311, z412, z513, z614, z715, z816, z917, z1018, z1119, q38_l, q38_r, rfl, h20, h21, h22, h23, f24, tp25⟩ := q6
    have h26 := (f24.1 o (by omega) (nin2 (ob_ne h_o h_cd (by decide)) (ob_ne h_o h_on (by decide)))).trans h_o
    have h27 := (f24.1 c (by omega) (nin2 (ob_ne h_c h_cd (by decide)) (ob_ne h_c h_on (by decide)))).trans h_c
    have h28 := (f24.1 mr (by omega) (nin2 (Ne.symm (ob_ro h_cd h_mr)) (Ne.symm (ob_ro h_on h_mr)))).trans h_mr
    have h29 := (f24.1 a (by omega) (nin2 (ob_ne h_a h_cd (by decide)) (ob_ne h_a h_on (by decide)))).trans h_a
    have h30 := (f24.1 b (by omega) (nin2 (ob_ne h_b h_cd (by decide)) (ob_ne h_b h_on (by decide)))).trans h_b
    have h31 := (f24.1 da (by omega) (nin2 (Ne.symm (ob_ar h_cd h_da)) (Ne.symm (ob_ar h_on h_da)))).trans h_da
    obtain ⟨t33, tp34⟩ : ∃ t9, M5.2.1 = t9 := ⟨_, rfl⟩
    rw [tp0, tp34] at tp25
    have hF32 := hF.tr f24 (by intro z hz; simp only [List.mem_cons, List.not_mem_nil, or_false] at hz ⊢; try omega)
    show pl _ _ _ (41, [(4, .ref cd), (0, .ref o), (1, .int (nI k)), (2, .int kk), (3, .int w9x)], [.int (cutV f n E mj cb L ml), .int kk], M5) _
    rw [tp34] at q38_l
    refine ps_if2 (S1 := (48, [(4, .ref cd), (0, .ref o), (1, .int (nI k)), (2, .int kk), (3, .int w9x)], [], M5)) (S2 := (44, [], [], M5)) rfl rfl rfl (fun c_41 => ?_) (fun c_41 => ?_)
    · have c_41 : kk < (cutV f n E mj cb L ml) := of_decide_eq_true c_41
      obtain ⟨S, j9, hS9, ej9, hj9⟩ := cut_k hL.2 c_32 c_41
      obtain ⟨hf9, hf10⟩ := q38_r S hS9
      obtain ⟨hSL, hSl, -⟩ := cutS_in hS9
      have hf9j := hf9 j9 hj9
      have hpl9 : S.getD j9 0 < L := hSL _ (getD_mem hj9)
      subst ej9
      show pl _ _ _ (48, [(4, .ref cd), (0, .ref o), (1, .int (nI k)), (2, .int (nI j9)), (3, .int w9x)], [], M5) _
      refine ps_st (S' := (50, [(4, .ref cd), (0, .ref o), (1, .int (nI k)), (2, .int (nI j9)), (3, .int w9x)], [.ref cd], M5)) rfl rfl rfl ?_
      refine ps_st (S' := (51, [(4, .ref cd), (0, .ref o), (1, .int (nI k)), (2, .int (nI j9)), (3, .int w9x)], [.int (nI j9), .ref cd], M5)) rfl rfl rfl ?_
      refine ps_st (S' := (52, [(4, .ref cd), (0, .ref o), (1, .int (nI k)), (2, .int (nI j9)), (3, .int w9x)], [.int w9x, .int (nI j9), .ref cd], M5)) rfl rfl rfl ?_
      refine pl_call (a := [.ref cd, .int (nI j9), .int w9x]) (rest := []) rfl rfl rfl (dk_number8 (f := f) (n := n) (cd := cd) (q := q) (on := on) (b := b) (da := da) (ra := ra7) (rb := rb8) (cb := cb) (L := L) (ml := ml) (mj := mj) (k := j9) (p := (S.getD j9 0)) (c0 := c0) (c3 := c3) (c4 := c4) (x8 := (cutV f n E mj cb L ml)) (F9 := F99) (F10 := F1010) (y3 := z311) (y4 := z412) (y5 := z513) (y6 := z614) (y7 := z715) (y8 := z816) (y9 := z917) (y10 := z1018) (y11 := z1119) (w := w9x) h20 h21 h30 h31 h22 h23 (hn) (hcl) (by omega) (hL.2) (hf9j) (hpl9)) (fun v35 M36 q37 => ?_)
      obtain ⟨y38, z339, z440, z541, z642, z743, z844, z945, z1046, z1147, rfl, h48, f49⟩ := q37
      have h51 := (f49.1 o (nin1 (ob_ne h26 h21 (by decide)))).trans h26
      have h52 := (f49.1 c (nin1 (ob_ne h27 h21 (by decide)))).trans h27
      have h53 := (f49.1 mr (nin1 (Ne.symm (ob_ro h21 h28)))).trans h28
      have h54 := (f49.1 a (nin1 (ob_ne h29 h21 (by decide)))).trans h29
      have h55 := (f49.1 cd (nin1 (ob_ne h20 h21 (by decide)))).trans h20
      have h56 := (f49.1 b (nin1 (ob_ne h30 h21 (by decide)))).trans h30
      have h57 := (f49.1 da (nin1 (Ne.symm (ob_ar h21 h31)))).trans h31
      have h58 := (f49.1 ra7 (nin1 (Ne.symm (ob_ar h21 h22)))).trans h22
      have h59 := (f49.1 rb8 (nin1 (Ne.symm (ob_ar h21 h23)))).trans h23
      have hF60 := hF32.trf f49 (by intro z hz; simp only [List.mem_cons, List.not_mem_nil, or_false] at hz ⊢; try omega)
      have tp61 : M36.2.1 = t33 := by rw [f49.2]; exact tp34
      show pl _ _ _ (55, [], [.int y38], M36) _
      exact ps_reti rfl (⟨_, (cutV f n E mj cb L ml), z339, z440, z541, z642, z743, z844, z945, z1046, z1147, (.ref ra7), (.ref rb8), Or.inr ⟨rfl, ra7, rb8, F99, F1010, rfl, rfl, by rw [tp61]; exact q38_l, h58, h59, q38_r⟩, rfl, h55, h48, hF60, hF60.2⟩)
    · have c_41 : ¬ (kk < (cutV f n E mj cb L ml)) := of_decide_eq_false c_41
      refine ps_st (S' := (45, [], [.int (-1)], M5)) rfl rfl rfl ?_
      refine ps_st (S' := (55, [], [.int (-1)], M5)) rfl rfl rfl ?_
      exact ps_ret rfl rfl (⟨_, (cutV f n E mj cb L ml), z311, z412, z513, z614, z715, z816, z917, z1018, z1119, (.ref ra7), (.ref rb8), Or.inr ⟨rfl, ra7, rb8, F99, F1010, rfl, rfl, by rw [tp34]; exact q38_l, h22, h23, q38_r⟩, rfl, h20, h21, hF32, hF32.2⟩)
set_option maxHeartbeats 1000000 in
theorem dk_jumpG {g : xe_G} {M : mi_H} {o ca fl : Nat} {cn wp : Int32} {c b q fr mr l : Nat} {u2 u3 u4 u5 : Int32} {w : List Value} {R : Nat → Value} {a : Nat} {m0 m1 m2 m3 m4 m5 m6 m7 m8 m9 : Int32} {f : Nat → Int32} {n N : Nat} {E : List (Nat × Nat)} {cd on da cb L ml mj : Nat} {c0 c3 c4 : Int32} {y3 y4 y5 y6 y7 y8 y9 y10 y11 : Int32} {x8 : Int32} {v9 v10 : Value} {k : Nat} {kk i ky : Int32} (h_o : M.1 o = some (ob 11 [.ref ca, .int cn, .ref fl, .ref c, .int wp])) (h_c : M.1 c = some (ob 3 (.ref b :: .ref q :: .int u2 :: .int u3 :: .int u4 :: .int u5 :: .ref fr :: .ref mr :: w))) (h_mr : M.1 mr = some (ro "ClassGate$Member" l R)) (h_a : M.1 a = some (ob 6 [.int m0, .int m1, .int m2, .int m3, .int m4, .int m5, .int m6, .int m7, .int m8, .int m9, .ref cd])) (h_cd : M.1 cd = some (ob 4 [.int c0, .int (nI ml), .int (nI L), .int c3, .int c4, .ref q, .int (nI mj), .ref on, .int x8, v9, v10])) (h_on : M.1 on = some (ob 5 [.ref b, .int (nI cb), .int (nI L), .int y3, .int y4, .int y5, .int y6, .int y7, .int y8, .int y9, .int y10, .int y11])) (h_b : M.1 b = some (ob 1 [.ref da])) (h_da : M.1 da = some (ar .byte n f)) (hn : n ≤ 65540) (hmj : mj < 65536) (hml : ml < 65536) (hcl : cb + L + 4 ≤ n) (hL : 1 ≤ L ∧ L < 65536) (h0 : tg f E 0 = 0) (hCP : CP f n E) (hV : PV g f n N E q M) (l_o : o < M.2.1) (l_c : c < M.2.1) (l_mr : mr < M.2.1) (l_a : a < M.2.1) (l_cd : cd < M.2.1) (l_on : on < M.2.1) (l_b : b < M.2.1) (l_da : da < M.2.1) (l_q : q < M.2.1) (hst : CT8 f n E mj cb L ml x8 v9 v10 M) (hk : k < l) (hl : l < 65536) (hR : R k = .ref a) : pt (mT g) 14 [.ref o, .int (nI k), .int kk, .int i, .int ky] M (fun v M' => (∃ (x9 z3 z4 z5 z6 z7 z8 z9 z10 z11 : Int32) (w9 w10 : Value), (CT8 f n E mj cb L ml x9 w9 w10 M') ∧ v = some (.int (jvI f n E mj cb L ml kk i ky)) ∧ M'.1 cd = some (ob 4 [.int c0, .int (nI ml), .int (nI L), .int c3, .int c4, .ref q, .int (nI mj), .ref on, .int x9, w9, w10]) ∧ M'.1 on = some (ob 5 [.ref b, .int (nI cb), .int (nI L), .int z3, .int z4, .int z5, .int z6, .int z7, .int z8, .int z9, .int z10, .int z11]) ∧ gm [cd, on] M M' ∧ M.2.1 ≤ M'.2.1)) := by
  refine pt_in (b := mb_14 g) rfl (fun kf => ?_)
  show pl (mT g) kf (mb_14 g).2 (0, [(0, .ref o), (1, .int (nI k)), (2, .int kk), (3, .int i), (4, .int ky)], [], M) _
  have hF : gm [cd, on] M M := gm.rf
  obtain ⟨z0, tp0⟩ : ∃ z0, M.2.1 = z0 := ⟨_, rfl⟩
  refine ps_st (S' := (1, [(0, .ref o), (1, .int (nI k)), (2, .int kk), (3, .int i), (4, .int ky)], [.ref o], M)) rfl rfl rfl ?_
  refine ps_st (S' := (2, [(0, .ref o), (1, .int (nI k)), (2, .int kk), (3, .int i), (4, .int ky)], [.int (nI k), .ref o], M)) rfl rfl rfl ?_
  refine pl_call (a := [.ref o, .int (nI k)]) (rest := []) rfl rfl rfl (dk_codeOfC (o := o) (ca := ca) (fl := fl) (cn := cn) (wp := wp) (c := c) (b := b) (q := q) (fr := fr) (mr := mr) (l := l) (u2 := u2) (u3 := u3) (u4 := u4) (u5 := u5) (w := w) (R := R) (a := a) (m0 := m0) (m1 := m1) (m2 := m2) (m3 := m3) (m4 := m4) (m5 := m5) (m6 := m6) (m7 := m7) (m8 := m8) (m9 := m9) (k := k) (z := cd) h_o h_c h_mr h_a (hk) (hl) (hR)) (fun v1 M2 q3 => ?_)
  obtain ⟨rfl, rfl⟩ := q3
  show pl _ _ _ (5, [(0, .ref o), (1, .int (nI k)), (2, .int kk), (3, .int i), (4, .int ky)], [.ref cd], M) _
  refine ps_st (S' := (7, [(5, .ref cd), (0, .ref o), (1, .int (nI k)), (2, .int kk), (3, .int i), (4, .int ky)], [], M)) rfl rfl rfl ?_
  refine ps_st (S' := (9, [(5, .ref cd), (0, .ref o), (1, .int (nI k)), (2, .int kk), (3, .int i), (4, .int ky)], [.ref cd], M)) rfl rfl rfl ?_
  refine ps_st (S' := (12, [(5, .ref cd), (0, .ref o), (1, .int (nI k)), (2, .int kk), (3, .int i), (4, .int ky)], [], M)) rfl rfl rfl ?_
  refine ps_st (S' := (13, [(5, .ref cd), (0, .ref o), (1, .int (nI k)), (2, .int kk), (3, .int i), (4, .int ky)], [.int kk], M)) rfl rfl rfl ?_
  refine ps_if (S1 := (25, [], [], M)) (S2 := (16, [(5, .ref cd), (0, .ref o), (1, .int (nI k)), (2, .int kk), (3, .int i), (4, .int ky)], [], M)) rfl rfl rfl (fun c_13 => ?_) (fun c_13 => ?_)
  · have c_13 : kk < 0 := of_decide_eq_true c_13
    refine ps_st (S' := (26, [], [.int (-1)], M)) rfl rfl rfl ?_
    refine ps_st (S' := (38, [], [.int (-1)], M)) rfl rfl rfl ?_
    exact ps_ret rfl rfl (⟨x8, y3, y4, y5, y6, y7, y8, y9, y10, y11, v9, v10, hst, congrArg (fun x => some (Value.int x)) (jv_lo c_13).symm, h_cd, h_on, hF, hF.2⟩)
  · have c_13 : ¬ (kk < 0) := of_decide_eq_false c_13
    refine ps_st (S' := (17, [(5, .ref cd), (0, .ref o), (1, .int (nI k)), (2, .int kk), (3, .int i), (4, .int ky)], [.int kk], M)) rfl rfl rfl ?_
    refine ps_st (S' := (19, [(5, .ref cd), (0, .ref o), (1, .int (nI k)), (2, .int kk), (3, .int i), (4, .int ky)], [.ref cd, .int kk], M)) rfl rfl rfl ?_
    refine pl_call (a := [.ref cd]) (rest := [.int kk]) rfl rfl rfl (dk_cutUp8 (f := f) (n := n) (N := N) (q := q) (E := E) (cd := cd) (on := on) (b := b) (da := da) (cb := cb) (L := L) (ml := ml) (mj := mj) (c0 := c0) (c3 := c3) (c4 := c4) (y3 := y3) (y4 := y4) (y5 := y5) (y6 := y6) (y7 := y7) (y8 := y8) (y9 := y9) (y10 := y10) (y11 := y11) (x8 := x8) (v9 := v9) (v10 := v10) h_cd h_on h_b h_da (hn) (hmj) (hml) (hcl) (hL) (h0) (hCP) (hV) (l_cd) (l_on) (l_b) (l_da) (l_q) (hst)) (fun v4 M5 q6 => ?_)
    obtain ⟨ra7, rb8, F99, F1010, z311, z412, z513, z614, z715, z816, z917, z1018, z1119, q19_l, q19_r, rfl, h20, h21, h22, h23, f24, tp25⟩ := q6
    have h26 := (f24.1 o (by omega) (nin2 (ob_ne h_o h_cd (by decide)) (ob_ne h_o h_on (by decide)))).trans h_o
    have h27 := (f24.1 c (by omega) (nin2 (ob_ne h_c h_cd (by decide)) (ob_ne h_c h_on (by decide)))).trans h_c
    have h28 := (f24.1 mr (by omega) (nin2 (Ne.symm (ob_ro h_cd h_mr)) (Ne.symm (ob_ro h_on h_mr)))).trans h_mr
    have h29 := (f24.1 a (by omega) (nin2 (ob_ne h_a h_cd (by decide)) (ob_ne h_a h_on (by decide)))).trans h_a
    have h30 := (f24.1 b (by omega) (nin2 (ob_ne h_b h_cd (by decide)) (ob_ne h_b h_on (by decide)))).trans h_b
    have h31 := (f24.1 da (by omega) (nin2 (Ne.symm (ob_ar h_cd h_da)) (Ne.symm (ob_ar h_on h_da)))).trans h_da
    obtain ⟨t33, tp34⟩ : ∃ t9, M5.2.1 = t9 := ⟨_, rfl⟩
    rw [tp0, tp34] at tp25
    have hF32 := hF.tr f24 (by intro z hz; simp only [List.mem_cons, List.not_mem_nil, or_false] at hz ⊢; try omega)
    show pl _ _ _ (22, [(5, .ref cd), (0, .ref o), (1, .int (nI k)), (2, .int kk), (3, .int i), (4, .int ky)], [.int (cutV f n E mj cb L ml), .int kk], M5) _
    rw [tp34] at q19_l
    refine ps_if2 (S1 := (29, [(5, .ref cd), (0, .ref o), (1, .int (nI k)), (2, .int kk), (3, .int i), (4, .int ky)], [], M5)) (S2 := (25, [], [], M5)) rfl rfl rfl (fun c_22 => ?_) (fun c_22 => ?_)
    · have c_22 : kk < (cutV f n E mj cb L ml) := of_decide_eq_true c_22
      obtain ⟨S, j9, hS9, ej9, hj9⟩ := cut_k hL.2 c_13 c_22
      obtain ⟨hf9, hf10⟩ := q19_r S hS9
      obtain ⟨hSL, hSl, -⟩ := cutS_in hS9
      have hf9j := hf9 j9 hj9
      have hpl9 : S.getD j9 0 < L := hSL _ (getD_mem hj9)
      subst ej9
      show pl _ _ _ (29, [(5, .ref cd), (0, .ref o), (1, .int (nI k)), (2, .int (nI j9)), (3, .int i), (4, .int ky)], [], M5) _
      refine ps_st (S' := (31, [(5, .ref cd), (0, .ref o), (1, .int (nI k)), (2, .int (nI j9)), (3, .int i), (4, .int ky)], [.ref cd], M5)) rfl rfl rfl ?_
      refine ps_st (S' := (32, [(5, .ref cd), (0, .ref o), (1, .int (nI k)), (2, .int (nI j9)), (3, .int i), (4, .int ky)], [.int (nI j9), .ref cd], M5)) rfl rfl rfl ?_
      refine ps_st (S' := (33, [(5, .ref cd), (0, .ref o), (1, .int (nI k)), (2, .int (nI j9)), (3, .int i), (4, .int ky)], [.int i, .int (nI j9), .ref cd], M5)) rfl rfl rfl ?_
      refine ps_st (S' := (35, [(5, .ref cd), (0, .ref o), (1, .int (nI k)), (2, .int (nI j9)), (3, .int i), (4, .int ky)], [.int ky, .int i, .int (nI j9), .ref cd], M5)) rfl rfl rfl ?_
      refine pl_call (a := [.ref cd, .int (nI j9), .int i, .int ky]) (rest := []) rfl rfl rfl (dk_switchPlace8 (f := f) (n := n) (cd := cd) (q := q) (on := on) (b := b) (da := da) (ra := ra7) (rb := rb8) (cb := cb) (L := L) (ml := ml) (mj := mj) (k := j9) (p := (S.getD j9 0)) (c0 := c0) (c3 := c3) (c4 := c4) (x8 := (cutV f n E mj cb L ml)) (F9 := F99) (F10 := F1010) (y3 := z311) (y4 := z412) (y5 := z513) (y6 := z614) (y7 := z715) (y8 := z816) (y9 := z917) (y10 := z1018) (y11 := z1119) (i := i) (ky := ky) (S := S) h20 h21 h30 h31 h22 h23 (hn) (hcl) (by omega) (hL.2) (hf9j) (hpl9) (hf10) (hSL) (by omega)) (fun v35 M36 q37 => ?_)
      obtain ⟨z338, z439, z540, z641, z742, z843, z944, z1045, z1146, rfl, h47, f48⟩ := q37
      have h50 := (f48.1 o (nin1 (ob_ne h26 h21 (by decide)))).trans h26
      have h51 := (f48.1 c (nin1 (ob_ne h27 h21 (by decide)))).trans h27
      have h52 := (f48.1 mr (nin1 (Ne.symm (ob_ro h21 h28)))).trans h28
      have h53 := (f48.1 a (nin1 (ob_ne h29 h21 (by decide)))).trans h29
      have h54 := (f48.1 cd (nin1 (ob_ne h20 h21 (by decide)))).trans h20
      have h55 := (f48.1 b (nin1 (ob_ne h30 h21 (by decide)))).trans h30
      have h56 := (f48.1 da (nin1 (Ne.symm (ob_ar h21 h31)))).trans h31
      have h57 := (f48.1 ra7 (nin1 (Ne.symm (ob_ar h21 h22)))).trans h22
      have h58 := (f48.1 rb8 (nin1 (Ne.symm (ob_ar h21 h23)))).trans h23
      have hF59 := hF32.trf f48 (by intro z hz; simp only [List.mem_cons, List.not_mem_nil, or_false] at hz ⊢; try omega)
      have tp60 : M36.2.1 = t33 := by rw [f48.2]; exact tp34
      show pl _ _ _ (38, [], [.int (jpI f cb L S (S.getD j9 0) i ky)], M36) _
      exact ps_reti rfl (⟨(cutV f n E mj cb L ml), z338, z439, z540, z641, z742, z843, z944, z1045, z1146, (.ref ra7), (.ref rb8), Or.inr ⟨rfl, ra7, rb8, F99, F1010, rfl, rfl, by rw [tp60]; exact q19_l, h57, h58, q19_r⟩, congrArg (fun x => some (Value.int x)) (jv_in hS9 hj9 (by omega)).symm, h54, h47, hF59, hF59.2⟩)
    · have c_22 : ¬ (kk < (cutV f n E mj cb L ml)) := of_decide_eq_false c_22
      refine ps_st (S' := (26, [], [.int (-1)], M5)) rfl rfl rfl ?_
      refine ps_st (S' := (38, [], [.int (-1)], M5)) rfl rfl rfl ?_
      exact ps_ret rfl rfl (⟨(cutV f n E mj cb L ml), z311, z412, z513, z614, z715, z816, z917, z1018, z1119, (.ref ra7), (.ref rb8), Or.inr ⟨rfl, ra7, rb8, F99, F1010, rfl, rfl, by rw [tp34]; exact q19_l, h22, h23, q19_r⟩, congrArg (fun x => some (Value.int x)) (jv_hi c_22).symm, h20, h21, hF32, hF32.2⟩)
set_option maxHeartbeats 1000000 in
theorem dk_cut0 {g : xe_G} {M : mi_H} {o ca fl : Nat} {cn wp m : Int32} (h_o : M.1 o = some (ob 11 [.ref ca, .int cn, .ref fl, .null, .int wp]))  : pt (mT g) 6 [.ref o, .int m] M (fun v M' => (v = some (.int (-1)) ∧ M = M')) := by
  refine pt_in (b := mb_6 g) rfl (fun kf => ?_)
  show pl (mT g) kf (mb_6 g).2 (0, [(0, .ref o), (1, .int m)], [], M) _
  refine ps_st (S' := (1, [(0, .ref o), (1, .int m)], [.ref o], M)) rfl rfl rfl ?_
  refine ps_st (S' := (2, [(0, .ref o), (1, .int m)], [.int m, .ref o], M)) rfl rfl rfl ?_
  refine pl_call (a := [.ref o, .int m]) (rest := []) rfl rfl rfl (dk_codeOf0 (o := o) (ca := ca) (fl := fl) (cn := cn) (wp := wp) (m := m) h_o) (fun v1 M2 q3 => ?_)
  obtain ⟨rfl, rfl⟩ := q3
  show pl _ _ _ (5, [(0, .ref o), (1, .int m)], [.null], M) _
  refine ps_st (S' := (6, [(2, .null), (0, .ref o), (1, .int m)], [], M)) rfl rfl rfl ?_
  refine ps_st (S' := (7, [(2, .null), (0, .ref o), (1, .int m)], [.null], M)) rfl rfl rfl ?_
  refine ps_st (S' := (10, [(2, .null), (0, .ref o), (1, .int m)], [], M)) rfl rfl rfl ?_
  refine ps_st (S' := (11, [(2, .null), (0, .ref o), (1, .int m)], [.int (-1)], M)) rfl rfl rfl ?_
  refine ps_st (S' := (18, [], [.int (-1)], M)) rfl rfl rfl ?_
  exact ps_ret rfl rfl (⟨rfl, rfl⟩)
set_option maxHeartbeats 1000000 in
theorem dk_cutN {g : xe_G} {M : mi_H} {o ca fl : Nat} {cn wp : Int32} {c b q fr mr l : Nat} {u2 u3 u4 u5 : Int32} {w : List Value} {R : Nat → Value} {m : Int32} (h_o : M.1 o = some (ob 11 [.ref ca, .int cn, .ref fl, .ref c, .int wp])) (h_c : M.1 c = some (ob 3 (.ref b :: .ref q :: .int u2 :: .int u3 :: .int u4 :: .int u5 :: .ref fr :: .ref mr :: w))) (h_mr : M.1 mr = some (ro "ClassGate$Member" l R)) (hi : m < 0 ∨ nI l ≤ m) : pt (mT g) 6 [.ref o, .int m] M (fun v M' => (v = some (.int (-1)) ∧ M = M')) := by
  refine pt_in (b := mb_6 g) rfl (fun kf => ?_)
  show pl (mT g) kf (mb_6 g).2 (0, [(0, .ref o), (1, .int m)], [], M) _
  refine ps_st (S' := (1, [(0, .ref o), (1, .int m)], [.ref o], M)) rfl rfl rfl ?_
  refine ps_st (S' := (2, [(0, .ref o), (1, .int m)], [.int m, .ref o], M)) rfl rfl rfl ?_
  refine pl_call (a := [.ref o, .int m]) (rest := []) rfl rfl rfl (dk_codeOfN (o := o) (ca := ca) (fl := fl) (cn := cn) (wp := wp) (c := c) (b := b) (q := q) (fr := fr) (mr := mr) (l := l) (u2 := u2) (u3 := u3) (u4 := u4) (u5 := u5) (w := w) (R := R) (m := m) h_o h_c h_mr (hi)) (fun v1 M2 q3 => ?_)
  obtain ⟨rfl, rfl⟩ := q3
  show pl _ _ _ (5, [(0, .ref o), (1, .int m)], [.null], M) _
  refine ps_st (S' := (6, [(2, .null), (0, .ref o), (1, .int m)], [], M)) rfl rfl rfl ?_
  refine ps_st (S' := (7, [(2, .null), (0, .ref o), (1, .int m)], [.null], M)) rfl rfl rfl ?_
  refine ps_st (S' := (10, [(2, .null), (0, .ref o), (1, .int m)], [], M)) rfl rfl rfl ?_
  refine ps_st (S' := (11, [(2, .null), (0, .ref o), (1, .int m)], [.int (-1)], M)) rfl rfl rfl ?_
  refine ps_st (S' := (18, [], [.int (-1)], M)) rfl rfl rfl ?_
  exact ps_ret rfl rfl (⟨rfl, rfl⟩)
set_option maxHeartbeats 1000000 in
theorem dk_cutB {g : xe_G} {M : mi_H} {o ca fl : Nat} {cn wp : Int32} {c b q fr mr l : Nat} {u2 u3 u4 u5 : Int32} {w : List Value} {R : Nat → Value} {a : Nat} {m0 m1 m2 m3 m4 m5 m6 m7 m8 m9 : Int32} {k : Nat} (h_o : M.1 o = some (ob 11 [.ref ca, .int cn, .ref fl, .ref c, .int wp])) (h_c : M.1 c = some (ob 3 (.ref b :: .ref q :: .int u2 :: .int u3 :: .int u4 :: .int u5 :: .ref fr :: .ref mr :: w))) (h_mr : M.1 mr = some (ro "ClassGate$Member" l R)) (h_a : M.1 a = some (ob 6 [.int m0, .int m1, .int m2, .int m3, .int m4, .int m5, .int m6, .int m7, .int m8, .int m9, .null])) (hk : k < l) (hl : l < 65536) (hR : R k = .ref a) : pt (mT g) 6 [.ref o, .int (nI k)] M (fun v M' => (v = some (.int (-1)) ∧ M = M')) := by
  refine pt_in (b := mb_6 g) rfl (fun kf => ?_)
  show pl (mT g) kf (mb_6 g).2 (0, [(0, .ref o), (1, .int (nI k))], [], M) _
  refine ps_st (S' := (1, [(0, .ref o), (1, .int (nI k))], [.ref o], M)) rfl rfl rfl ?_
  refine ps_st (S' := (2, [(0, .ref o), (1, .int (nI k))], [.int (nI k), .ref o], M)) rfl rfl rfl ?_
  refine pl_call (a := [.ref o, .int (nI k)]) (rest := []) rfl rfl rfl (dk_codeOfB (o := o) (ca := ca) (fl := fl) (cn := cn) (wp := wp) (c := c) (b := b) (q := q) (fr := fr) (mr := mr) (l := l) (u2 := u2) (u3 := u3) (u4 := u4) (u5 := u5) (w := w) (R := R) (a := a) (m0 := m0) (m1 := m1) (m2 := m2) (m3 := m3) (m4 := m4) (m5 := m5) (m6 := m6) (m7 := m7) (m8 := m8) (m9 := m9) (k := k) h_o h_c h_mr h_a (hk) (hl) (hR)) (fun v1 M2 q3 => ?_)
  obtain ⟨rfl, rfl⟩ := q3
  show pl _ _ _ (5, [(0, .ref o), (1, .int (nI k))], [.null], M) _
  refine ps_st (S' := (6, [(2, .null), (0, .ref o), (1, .int (nI k))], [], M)) rfl rfl rfl ?_
  refine ps_st (S' := (7, [(2, .null), (0, .ref o), (1, .int (nI k))], [.null], M)) rfl rfl rfl ?_
  refine ps_st (S' := (10, [(2, .null), (0, .ref o), (1, .int (nI k))], [], M)) rfl rfl rfl ?_
  refine ps_st (S' := (11, [(2, .null), (0, .ref o), (1, .int (nI k))], [.int (-1)], M)) rfl rfl rfl ?_
  refine ps_st (S' := (18, [], [.int (-1)], M)) rfl rfl rfl ?_
  exact ps_ret rfl rfl (⟨rfl, rfl⟩)
set_option maxHeartbeats 1000000 in
theorem dk_instr0 {g : xe_G} {M : mi_H} {o ca fl : Nat} {cn wp m : Int32} {kk w9x : Int32} (h_o : M.1 o = some (ob 11 [.ref ca, .int cn, .ref fl, .null, .int wp])) (hw0 : ¬ w9x < 0) (hw4 : w9x ≤ 4) : pt (mT g) 12 [.ref o, .int m, .int kk, .int w9x] M (fun v M' => (v = some (.int (-1)) ∧ M = M')) := by
  refine pt_in (b := mb_12 g) rfl (fun kf => ?_)
  show pl (mT g) kf (mb_12 g).2 (0, [(0, .ref o), (1, .int m), (2, .int kk), (3, .int w9x)], [], M) _
  refine ps_st (S' := (1, [(0, .ref o), (1, .int m), (2, .int kk), (3, .int w9x)], [.int w9x], M)) rfl rfl rfl ?_
  refine ps_if (S1 := (9, [(0, .ref o), (1, .int m), (2, .int kk), (3, .int w9x)], [], M)) (S2 := (4, [(0, .ref o), (1, .int m), (2, .int kk), (3, .int w9x)], [], M)) rfl rfl rfl (fun c_1 => ?_) (fun c_1 => ?_)
  · exact absurd (of_decide_eq_true c_1) (hw0)
  refine ps_st (S' := (5, [(0, .ref o), (1, .int m), (2, .int kk), (3, .int w9x)], [.int w9x], M)) rfl rfl rfl ?_
  refine ps_st (S' := (6, [(0, .ref o), (1, .int m), (2, .int kk), (3, .int w9x)], [.int 4, .int w9x], M)) rfl rfl rfl ?_
  refine ps_if2 (S1 := (19, [(0, .ref o), (1, .int m), (2, .int kk), (3, .int w9x)], [], M)) (S2 := (9, [(0, .ref o), (1, .int m), (2, .int kk), (3, .int w9x)], [], M)) rfl rfl rfl (fun c_6 => ?_) (fun c_6 => ?_)
  rotate_left
  · exact absurd (hw4) (of_decide_eq_false c_6)
  refine ps_st (S' := (20, [(0, .ref o), (1, .int m), (2, .int kk), (3, .int w9x)], [.ref o], M)) rfl rfl rfl ?_
  refine ps_st (S' := (21, [(0, .ref o), (1, .int m), (2, .int kk), (3, .int w9x)], [.int m, .ref o], M)) rfl rfl rfl ?_
  refine pl_call (a := [.ref o, .int m]) (rest := []) rfl rfl rfl (dk_codeOf0 (o := o) (ca := ca) (fl := fl) (cn := cn) (wp := wp) (m := m) h_o) (fun v1 M2 q3 => ?_)
  obtain ⟨rfl, rfl⟩ := q3
  show pl _ _ _ (24, [(0, .ref o), (1, .int m), (2, .int kk), (3, .int w9x)], [.null], M) _
  refine ps_st (S' := (26, [(4, .null), (0, .ref o), (1, .int m), (2, .int kk), (3, .int w9x)], [], M)) rfl rfl rfl ?_
  refine ps_st (S' := (28, [(4, .null), (0, .ref o), (1, .int m), (2, .int kk), (3, .int w9x)], [.null], M)) rfl rfl rfl ?_
  refine ps_st (S' := (44, [], [], M)) rfl rfl rfl ?_
  refine ps_st (S' := (45, [], [.int (-1)], M)) rfl rfl rfl ?_
  refine ps_st (S' := (55, [], [.int (-1)], M)) rfl rfl rfl ?_
  exact ps_ret rfl rfl (⟨rfl, rfl⟩)
set_option maxHeartbeats 1000000 in
theorem dk_instrN {g : xe_G} {M : mi_H} {o ca fl : Nat} {cn wp : Int32} {c b q fr mr l : Nat} {u2 u3 u4 u5 : Int32} {w : List Value} {R : Nat → Value} {m : Int32} {kk w9x : Int32} (h_o : M.1 o = some (ob 11 [.ref ca, .int cn, .ref fl, .ref c, .int wp])) (h_c : M.1 c = some (ob 3 (.ref b :: .ref q :: .int u2 :: .int u3 :: .int u4 :: .int u5 :: .ref fr :: .ref mr :: w))) (h_mr : M.1 mr = some (ro "ClassGate$Member" l R)) (hw0 : ¬ w9x < 0) (hw4 : w9x ≤ 4) (hi : m < 0 ∨ nI l ≤ m) : pt (mT g) 12 [.ref o, .int m, .int kk, .int w9x] M (fun v M' => (v = some (.int (-1)) ∧ M = M')) := by
  refine pt_in (b := mb_12 g) rfl (fun kf => ?_)
  show pl (mT g) kf (mb_12 g).2 (0, [(0, .ref o), (1, .int m), (2, .int kk), (3, .int w9x)], [], M) _
  refine ps_st (S' := (1, [(0, .ref o), (1, .int m), (2, .int kk), (3, .int w9x)], [.int w9x], M)) rfl rfl rfl ?_
  refine ps_if (S1 := (9, [(0, .ref o), (1, .int m), (2, .int kk), (3, .int w9x)], [], M)) (S2 := (4, [(0, .ref o), (1, .int m), (2, .int kk), (3, .int w9x)], [], M)) rfl rfl rfl (fun c_1 => ?_) (fun c_1 => ?_)
  · exact absurd (of_decide_eq_true c_1) (hw0)
  refine ps_st (S' := (5, [(0, .ref o), (1, .int m), (2, .int kk), (3, .int w9x)], [.int w9x], M)) rfl rfl rfl ?_
  refine ps_st (S' := (6, [(0, .ref o), (1, .int m), (2, .int kk), (3, .int w9x)], [.int 4, .int w9x], M)) rfl rfl rfl ?_
  refine ps_if2 (S1 := (19, [(0, .ref o), (1, .int m), (2, .int kk), (3, .int w9x)], [], M)) (S2 := (9, [(0, .ref o), (1, .int m), (2, .int kk), (3, .int w9x)], [], M)) rfl rfl rfl (fun c_6 => ?_) (fun c_6 => ?_)
  rotate_left
  · exact absurd (hw4) (of_decide_eq_false c_6)
  refine ps_st (S' := (20, [(0, .ref o), (1, .int m), (2, .int kk), (3, .int w9x)], [.ref o], M)) rfl rfl rfl ?_
  refine ps_st (S' := (21, [(0, .ref o), (1, .int m), (2, .int kk), (3, .int w9x)], [.int m, .ref o], M)) rfl rfl rfl ?_
  refine pl_call (a := [.ref o, .int m]) (rest := []) rfl rfl rfl (dk_codeOfN (o := o) (ca := ca) (fl := fl) (cn := cn) (wp := wp) (c := c) (b := b) (q := q) (fr := fr) (mr := mr) (l := l) (u2 := u2) (u3 := u3) (u4 := u4) (u5 := u5) (w := w) (R := R) (m := m) h_o h_c h_mr (hi)) (fun v1 M2 q3 => ?_)
  obtain ⟨rfl, rfl⟩ := q3
  show pl _ _ _ (24, [(0, .ref o), (1, .int m), (2, .int kk), (3, .int w9x)], [.null], M) _
  refine ps_st (S' := (26, [(4, .null), (0, .ref o), (1, .int m), (2, .int kk), (3, .int w9x)], [], M)) rfl rfl rfl ?_
  refine ps_st (S' := (28, [(4, .null), (0, .ref o), (1, .int m), (2, .int kk), (3, .int w9x)], [.null], M)) rfl rfl rfl ?_
  refine ps_st (S' := (44, [], [], M)) rfl rfl rfl ?_
  refine ps_st (S' := (45, [], [.int (-1)], M)) rfl rfl rfl ?_
  refine ps_st (S' := (55, [], [.int (-1)], M)) rfl rfl rfl ?_
  exact ps_ret rfl rfl (⟨rfl, rfl⟩)
set_option maxHeartbeats 1000000 in
theorem dk_instrB {g : xe_G} {M : mi_H} {o ca fl : Nat} {cn wp : Int32} {c b q fr mr l : Nat} {u2 u3 u4 u5 : Int32} {w : List Value} {R : Nat → Value} {a : Nat} {m0 m1 m2 m3 m4 m5 m6 m7 m8 m9 : Int32} {k : Nat} {kk w9x : Int32} (h_o : M.1 o = some (ob 11 [.ref ca, .int cn, .ref fl, .ref c, .int wp])) (h_c : M.1 c = some (ob 3 (.ref b :: .ref q :: .int u2 :: .int u3 :: .int u4 :: .int u5 :: .ref fr :: .ref mr :: w))) (h_mr : M.1 mr = some (ro "ClassGate$Member" l R)) (h_a : M.1 a = some (ob 6 [.int m0, .int m1, .int m2, .int m3, .int m4, .int m5, .int m6, .int m7, .int m8, .int m9, .null])) (hw0 : ¬ w9x < 0) (hw4 : w9x ≤ 4) (hk : k < l) (hl : l < 65536) (hR : R k = .ref a) : pt (mT g) 12 [.ref o, .int (nI k), .int kk, .int w9x] M (fun v M' => (v = some (.int (-1)) ∧ M = M')) := by
  refine pt_in (b := mb_12 g) rfl (fun kf => ?_)
  show pl (mT g) kf (mb_12 g).2 (0, [(0, .ref o), (1, .int (nI k)), (2, .int kk), (3, .int w9x)], [], M) _
  refine ps_st (S' := (1, [(0, .ref o), (1, .int (nI k)), (2, .int kk), (3, .int w9x)], [.int w9x], M)) rfl rfl rfl ?_
  refine ps_if (S1 := (9, [(0, .ref o), (1, .int (nI k)), (2, .int kk), (3, .int w9x)], [], M)) (S2 := (4, [(0, .ref o), (1, .int (nI k)), (2, .int kk), (3, .int w9x)], [], M)) rfl rfl rfl (fun c_1 => ?_) (fun c_1 => ?_)
  · exact absurd (of_decide_eq_true c_1) (hw0)
  refine ps_st (S' := (5, [(0, .ref o), (1, .int (nI k)), (2, .int kk), (3, .int w9x)], [.int w9x], M)) rfl rfl rfl ?_
  refine ps_st (S' := (6, [(0, .ref o), (1, .int (nI k)), (2, .int kk), (3, .int w9x)], [.int 4, .int w9x], M)) rfl rfl rfl ?_
  refine ps_if2 (S1 := (19, [(0, .ref o), (1, .int (nI k)), (2, .int kk), (3, .int w9x)], [], M)) (S2 := (9, [(0, .ref o), (1, .int (nI k)), (2, .int kk), (3, .int w9x)], [], M)) rfl rfl rfl (fun c_6 => ?_) (fun c_6 => ?_)
  rotate_left
  · exact absurd (hw4) (of_decide_eq_false c_6)
  refine ps_st (S' := (20, [(0, .ref o), (1, .int (nI k)), (2, .int kk), (3, .int w9x)], [.ref o], M)) rfl rfl rfl ?_
  refine ps_st (S' := (21, [(0, .ref o), (1, .int (nI k)), (2, .int kk), (3, .int w9x)], [.int (nI k), .ref o], M)) rfl rfl rfl ?_
  refine pl_call (a := [.ref o, .int (nI k)]) (rest := []) rfl rfl rfl (dk_codeOfB (o := o) (ca := ca) (fl := fl) (cn := cn) (wp := wp) (c := c) (b := b) (q := q) (fr := fr) (mr := mr) (l := l) (u2 := u2) (u3 := u3) (u4 := u4) (u5 := u5) (w := w) (R := R) (a := a) (m0 := m0) (m1 := m1) (m2 := m2) (m3 := m3) (m4 := m4) (m5 := m5) (m6 := m6) (m7 := m7) (m8 := m8) (m9 := m9) (k := k) h_o h_c h_mr h_a (hk) (hl) (hR)) (fun v1 M2 q3 => ?_)
  obtain ⟨rfl, rfl⟩ := q3
  show pl _ _ _ (24, [(0, .ref o), (1, .int (nI k)), (2, .int kk), (3, .int w9x)], [.null], M) _
  refine ps_st (S' := (26, [(4, .null), (0, .ref o), (1, .int (nI k)), (2, .int kk), (3, .int w9x)], [], M)) rfl rfl rfl ?_
  refine ps_st (S' := (28, [(4, .null), (0, .ref o), (1, .int (nI k)), (2, .int kk), (3, .int w9x)], [.null], M)) rfl rfl rfl ?_
  refine ps_st (S' := (44, [], [], M)) rfl rfl rfl ?_
  refine ps_st (S' := (45, [], [.int (-1)], M)) rfl rfl rfl ?_
  refine ps_st (S' := (55, [], [.int (-1)], M)) rfl rfl rfl ?_
  exact ps_ret rfl rfl (⟨rfl, rfl⟩)
set_option maxHeartbeats 1000000 in
theorem dk_jump0 {g : xe_G} {M : mi_H} {o ca fl : Nat} {cn wp m : Int32} {kk i ky : Int32} (h_o : M.1 o = some (ob 11 [.ref ca, .int cn, .ref fl, .null, .int wp]))  : pt (mT g) 14 [.ref o, .int m, .int kk, .int i, .int ky] M (fun v M' => (v = some (.int (-1)) ∧ M = M')) := by
  refine pt_in (b := mb_14 g) rfl (fun kf => ?_)
  show pl (mT g) kf (mb_14 g).2 (0, [(0, .ref o), (1, .int m), (2, .int kk), (3, .int i), (4, .int ky)], [], M) _
  refine ps_st (S' := (1, [(0, .ref o), (1, .int m), (2, .int kk), (3, .int i), (4, .int ky)], [.ref o], M)) rfl rfl rfl ?_
  refine ps_st (S' := (2, [(0, .ref o), (1, .int m), (2, .int kk), (3, .int i), (4, .int ky)], [.int m, .ref o], M)) rfl rfl rfl ?_
  refine pl_call (a := [.ref o, .int m]) (rest := []) rfl rfl rfl (dk_codeOf0 (o := o) (ca := ca) (fl := fl) (cn := cn) (wp := wp) (m := m) h_o) (fun v1 M2 q3 => ?_)
  obtain ⟨rfl, rfl⟩ := q3
  show pl _ _ _ (5, [(0, .ref o), (1, .int m), (2, .int kk), (3, .int i), (4, .int ky)], [.null], M) _
  refine ps_st (S' := (7, [(5, .null), (0, .ref o), (1, .int m), (2, .int kk), (3, .int i), (4, .int ky)], [], M)) rfl rfl rfl ?_
  refine ps_st (S' := (9, [(5, .null), (0, .ref o), (1, .int m), (2, .int kk), (3, .int i), (4, .int ky)], [.null], M)) rfl rfl rfl ?_
  refine ps_st (S' := (25, [], [], M)) rfl rfl rfl ?_
  refine ps_st (S' := (26, [], [.int (-1)], M)) rfl rfl rfl ?_
  refine ps_st (S' := (38, [], [.int (-1)], M)) rfl rfl rfl ?_
  exact ps_ret rfl rfl (⟨rfl, rfl⟩)
set_option maxHeartbeats 1000000 in
theorem dk_jumpN {g : xe_G} {M : mi_H} {o ca fl : Nat} {cn wp : Int32} {c b q fr mr l : Nat} {u2 u3 u4 u5 : Int32} {w : List Value} {R : Nat → Value} {m : Int32} {kk i ky : Int32} (h_o : M.1 o = some (ob 11 [.ref ca, .int cn, .ref fl, .ref c, .int wp])) (h_c : M.1 c = some (ob 3 (.ref b :: .ref q :: .int u2 :: .int u3 :: .int u4 :: .int u5 :: .ref fr :: .ref mr :: w))) (h_mr : M.1 mr = some (ro "ClassGate$Member" l R)) (hi : m < 0 ∨ nI l ≤ m) : pt (mT g) 14 [.ref o, .int m, .int kk, .int i, .int ky] M (fun v M' => (v = some (.int (-1)) ∧ M = M')) := by
  refine pt_in (b := mb_14 g) rfl (fun kf => ?_)
  show pl (mT g) kf (mb_14 g).2 (0, [(0, .ref o), (1, .int m), (2, .int kk), (3, .int i), (4, .int ky)], [], M) _
  refine ps_st (S' := (1, [(0, .ref o), (1, .int m), (2, .int kk), (3, .int i), (4, .int ky)], [.ref o], M)) rfl rfl rfl ?_
  refine ps_st (S' := (2, [(0, .ref o), (1, .int m), (2, .int kk), (3, .int i), (4, .int ky)], [.int m, .ref o], M)) rfl rfl rfl ?_
  refine pl_call (a := [.ref o, .int m]) (rest := []) rfl rfl rfl (dk_codeOfN (o := o) (ca := ca) (fl := fl) (cn := cn) (wp := wp) (c := c) (b := b) (q := q) (fr := fr) (mr := mr) (l := l) (u2 := u2) (u3 := u3) (u4 := u4) (u5 := u5) (w := w) (R := R) (m := m) h_o h_c h_mr (hi)) (fun v1 M2 q3 => ?_)
  obtain ⟨rfl, rfl⟩ := q3
  show pl _ _ _ (5, [(0, .ref o), (1, .int m), (2, .int kk), (3, .int i), (4, .int ky)], [.null], M) _
  refine ps_st (S' := (7, [(5, .null), (0, .ref o), (1, .int m), (2, .int kk), (3, .int i), (4, .int ky)], [], M)) rfl rfl rfl ?_
  refine ps_st (S' := (9, [(5, .null), (0, .ref o), (1, .int m), (2, .int kk), (3, .int i), (4, .int ky)], [.null], M)) rfl rfl rfl ?_
  refine ps_st (S' := (25, [], [], M)) rfl rfl rfl ?_
  refine ps_st (S' := (26, [], [.int (-1)], M)) rfl rfl rfl ?_
  refine ps_st (S' := (38, [], [.int (-1)], M)) rfl rfl rfl ?_
  exact ps_ret rfl rfl (⟨rfl, rfl⟩)
set_option maxHeartbeats 1000000 in
theorem dk_jumpB {g : xe_G} {M : mi_H} {o ca fl : Nat} {cn wp : Int32} {c b q fr mr l : Nat} {u2 u3 u4 u5 : Int32} {w : List Value} {R : Nat → Value} {a : Nat} {m0 m1 m2 m3 m4 m5 m6 m7 m8 m9 : Int32} {k : Nat} {kk i ky : Int32} (h_o : M.1 o = some (ob 11 [.ref ca, .int cn, .ref fl, .ref c, .int wp])) (h_c : M.1 c = some (ob 3 (.ref b :: .ref q :: .int u2 :: .int u3 :: .int u4 :: .int u5 :: .ref fr :: .ref mr :: w))) (h_mr : M.1 mr = some (ro "ClassGate$Member" l R)) (h_a : M.1 a = some (ob 6 [.int m0, .int m1, .int m2, .int m3, .int m4, .int m5, .int m6, .int m7, .int m8, .int m9, .null])) (hk : k < l) (hl : l < 65536) (hR : R k = .ref a) : pt (mT g) 14 [.ref o, .int (nI k), .int kk, .int i, .int ky] M (fun v M' => (v = some (.int (-1)) ∧ M = M')) := by
  refine pt_in (b := mb_14 g) rfl (fun kf => ?_)
  show pl (mT g) kf (mb_14 g).2 (0, [(0, .ref o), (1, .int (nI k)), (2, .int kk), (3, .int i), (4, .int ky)], [], M) _
  refine ps_st (S' := (1, [(0, .ref o), (1, .int (nI k)), (2, .int kk), (3, .int i), (4, .int ky)], [.ref o], M)) rfl rfl rfl ?_
  refine ps_st (S' := (2, [(0, .ref o), (1, .int (nI k)), (2, .int kk), (3, .int i), (4, .int ky)], [.int (nI k), .ref o], M)) rfl rfl rfl ?_
  refine pl_call (a := [.ref o, .int (nI k)]) (rest := []) rfl rfl rfl (dk_codeOfB (o := o) (ca := ca) (fl := fl) (cn := cn) (wp := wp) (c := c) (b := b) (q := q) (fr := fr) (mr := mr) (l := l) (u2 := u2) (u3 := u3) (u4 := u4) (u5 := u5) (w := w) (R := R) (a := a) (m0 := m0) (m1 := m1) (m2 := m2) (m3 := m3) (m4 := m4) (m5 := m5) (m6 := m6) (m7 := m7) (m8 := m8) (m9 := m9) (k := k) h_o h_c h_mr h_a (hk) (hl) (hR)) (fun v1 M2 q3 => ?_)
  obtain ⟨rfl, rfl⟩ := q3
  show pl _ _ _ (5, [(0, .ref o), (1, .int (nI k)), (2, .int kk), (3, .int i), (4, .int ky)], [.null], M) _
  refine ps_st (S' := (7, [(5, .null), (0, .ref o), (1, .int (nI k)), (2, .int kk), (3, .int i), (4, .int ky)], [], M)) rfl rfl rfl ?_
  refine ps_st (S' := (9, [(5, .null), (0, .ref o), (1, .int (nI k)), (2, .int kk), (3, .int i), (4, .int ky)], [.null], M)) rfl rfl rfl ?_
  refine ps_st (S' := (25, [], [], M)) rfl rfl rfl ?_
  refine ps_st (S' := (26, [], [.int (-1)], M)) rfl rfl rfl ?_
  refine ps_st (S' := (38, [], [.int (-1)], M)) rfl rfl rfl ?_
  exact ps_ret rfl rfl (⟨rfl, rfl⟩)
