
theorem oh_lp {f : Nat → Int32} {n : Nat} {E : List (Nat × Nat)} {mj ml o v w lp : Nat} (h : 0 < lp) : ohN f n E mj ml o v w lp = ohN f n E mj ml o v 0 lp := by
  unfold ohN
  rw [if_pos h, if_pos h]
def tdS (f : Nat → Int32) (cb o sw i : Nat) : Int32 := if i = 0 then nI (by4 f (cb + sw)) else if o = 170 then nI (by4 f (cb + (sw + 8 + 4 * i))) else nI (by4 f (cb + (sw + 4 + 8 * i)))
theorem tg_S {f : Nat → Int32} {cb pc o i a b c sw : Nat} {s1 s2 : Int32} {x1 : Option Int32} : tgI f cb pc (o, a, s1, s2, b, c, x1, some sw) i = (pc : Int) + (tdS f cb o sw i).toInt := rfl
theorem tg_J {f : Nat → Int32} {cb pc o i a b c : Nat} {s1 s2 d : Int32} : tgI f cb pc (o, a, s1, s2, b, c, some d, none) i = (pc : Int) + d.toInt := rfl
theorem thG_z {T : Nat → Int} {S : List Nat} {i : Nat} : thG T S 0 i = 1 := rfl
/-- the number of the instruction at a place, one less -/
def naI (F : Nat → Int32) (L : Nat) (t : Int64) : Int32 := if 0 ≤ t.toInt ∧ t.toInt < L then F t.toInt.toNat - 1 else -1
theorem t64_val {pc : Nat} {d : Int32} (h : pc < 1073741824) : ((Int32.toInt64 (nI pc)) + (Int32.toInt64 d)).toInt = (pc : Int) + d.toInt := by
  have h1 := i32_bd d
  rw [Int64.toInt_add, i2l_nI h, i2l_val]
  exact Int.bmod_eq_of_le (by omega) (by omega)
theorem nu_m1 {S : List Nat} {k : Nat} (hSl : S.length < 65536) : (k ∈ S ∧ nuA S k - 1 = nI (S.idxOf k)) ∨ (k ∉ S ∧ nuA S k - 1 = -1) := by
  unfold nuA
  by_cases h : k ∈ S
  · refine Or.inl ⟨h, ?_⟩
    have := idx_lt h
    rw [if_pos h]
    exact nI_sub1 (p := S.idxOf k + 1) (k := 1) rfl (by omega) (by omega)
  · refine Or.inr ⟨h, ?_⟩
    rw [if_neg h]
    rfl
theorem na_ge {F : Nat → Int32} {L : Nat} {S : List Nat} {t : Int64} (hF : ∀ j, j < L → F j = nuA S j) (hSL : ∀ p ∈ S, p < L) (hSl : S.length < 65536) : 0 ≤ naI F L t ↔ 0 ≤ t.toInt ∧ t.toInt.toNat ∈ S := by
  unfold naI
  by_cases h : 0 ≤ t.toInt ∧ t.toInt < L
  · rw [if_pos h, hF _ (by omega)]
    rcases nu_m1 (S := S) (k := t.toInt.toNat) hSl with ⟨h1, h2⟩ | ⟨h1, h2⟩
    · rw [h2]
      have := idx_lt h1
      exact ⟨fun _ => ⟨h.1, h1⟩, fun _ => Int32.not_lt.mp (nI_n0 (by omega))⟩
    · rw [h2]
      exact ⟨fun h9 => absurd h9 (by decide), fun h9 => absurd h9.2 h1⟩
  · rw [if_neg h]
    exact ⟨fun h9 => absurd h9 (by decide), fun h9 => absurd ⟨h9.1, by have := hSL _ h9.2; omega⟩ h⟩
theorem op_of {f : Nat → Int32} {cb pc op : Nat} {x : Nat × Int32 × Int32 × Nat × Nat × Option Int32} (h : opC f cb pc op = some x) (ht : ¬ x.2.2.2.2.1 = 0) : ∃ d, x.2.2.2.2.2 = some d := by
  unfold opC at h
  by_cases c0 : 26 ≤ op ∧ op ≤ 45
  · rw [if_pos c0] at h
    cases h
    exact absurd rfl ht
  · rw [if_neg c0] at h
    by_cases c1 : 59 ≤ op ∧ op ≤ 78
    · rw [if_pos c1] at h
      cases h
      exact absurd rfl ht
    · rw [if_neg c1] at h
      by_cases c2 : ¬ lcO op = 0
      · rw [if_pos c2] at h
        cases h
        exact absurd rfl ht
      · rw [if_neg c2] at h
        by_cases c3 : (153 ≤ op ∧ op ≤ 168) ∨ op = 198 ∨ op = 199
        · rw [if_pos c3] at h
          cases h
          exact ⟨_, rfl⟩
        · rw [if_neg c3] at h
          by_cases c4 : op = 16
          · rw [if_pos c4] at h
            cases h
            exact absurd rfl ht
          · rw [if_neg c4] at h
            by_cases c5 : op = 17
            · rw [if_pos c5] at h
              cases h
              exact absurd rfl ht
            · rw [if_neg c5] at h
              by_cases c6 : op = 18 ∨ op = 188
              · rw [if_pos c6] at h
                cases h
                exact absurd rfl ht
              · rw [if_neg c6] at h
                by_cases c7 : op = 19
                · rw [if_pos c7] at h
                  cases h
                  exact absurd rfl ht
                · rw [if_neg c7] at h
                  by_cases c8 : op = 132
                  · rw [if_pos c8] at h
                    cases h
                    exact absurd rfl ht
                  · rw [if_neg c8] at h
                    by_cases c9 : op = 200
                    · rw [if_pos c9] at h
                      cases h
                      exact ⟨_, rfl⟩
                    · rw [if_neg c9] at h
                      by_cases c10 : op = 201
                      · rw [if_pos c10] at h
                        cases h
                        exact ⟨_, rfl⟩
                      · rw [if_neg c10] at h
                        cases hx1 : ixS f cb pc op with
                        | none =>
                          rw [hx1] at h
                          cases h
                        | some x1 =>
                          rw [hx1] at h
                          cases h
                          exact absurd rfl ht
theorem in_of {f : Nat → Int32} {cb L pc o sz lp tc : Nat} {fi se : Int32} {of : Option Int32} {sw : Option Nat} (h : inC f cb L pc = some (o, sz, fi, se, lp, tc, of, sw)) (hs : swN o = 0) (ht : ¬ tc = 0) : ∃ d, of = some d := by
  unfold inC at h
  split at h
  · cases h
  · split at h
    · rename_i ho
      split at h
      · cases h
      · cases h
        rw [show swN (by1 f (cb + pc)) = 1 from if_pos ho] at hs
        cases hs
    · split at h
      · split at h
        · cases h
        · cases h
          exact absurd rfl ht
      · split at h
        · cases h
        · split at h
          · cases h
          · rename_i x hx
            cases h
            exact op_of hx ht
theorem dk_operandsHold7 {g : xe_G} {M : mi_H} {f : Nat → Int32} {n N q : Nat} {E : List (Nat × Nat)} {cd on b cb L ml mj pc : Nat} {x : IC} {c0 c2 c3 c4 y10 y11 : Int32} {v8 v9 v10 : Value} (h_cd : M.1 cd = some (ob 4 [.int c0, .int (nI ml), .int c2, .int c3, .int c4, .ref q, .int (nI mj), .ref on, v8, v9, v10])) (h_on : M.1 on = some (ob 5 [.ref b, .int (nI cb), .int (nI L), .int (nI x.1), .int (nI x.2.1), .int x.2.2.1, .int x.2.2.2.1, .int (nI x.2.2.2.2.1), .int (nI x.2.2.2.2.2.1), .int (nI pc), .int (x.2.2.2.2.2.2.1.getD y10), .int ((x.2.2.2.2.2.2.2.map nI).getD y11)])) (hmj : mj < 65536) (hml : ml < 65536) (h0 : tg f E 0 = 0) (hCP : CP f n E) (hx : inC f cb L pc = some x) (hV : PV g f n N E q M) : pt (mT g) 82 [.ref cd] M (fun v M' => (v = some (.int (nI (okI f n E mj ml x))) ∧ M = M')) := by
  obtain ⟨o, sz, fi, se, lp, tc, of, sw⟩ := x
  obtain ⟨ho, hlp, -, hs⟩ := in_in hx
  dsimp only at ho hlp hs h_on
  unfold okI
  dsimp only
  rcases hs with ⟨h1, h2⟩ | ⟨h1, v, hv, e1, h2⟩
  · rw [if_pos h1]
    subst h2
    exact dk_operandsHoldS h_cd h_on h1 h0 hV
  · rw [if_neg h1]
    subst e1
    rw [nI_toNat (by omega)]
    rcases h2 with h2 | ⟨h2, w, hw, e2⟩
    · rw [oh_lp h2]
      exact dk_operandsHoldL h_cd h_on hmj hml ho hv (by omega) hV
    · subst e2
      rw [nI_toNat (by omega)]
      exact dk_operandsHold h_cd h_on hmj hml ho hv hw hlp h0 hCP hV
set_option maxHeartbeats 1000000 in
theorem dk_targetJ {g : xe_G} {M : mi_H} {on b cb L : Nat} {y4 y5 y6 y7 y8 y10 y11 : Int32} {o pc : Nat} {i : Int32} (h_on : M.1 on = some (ob 5 [.ref b, .int (nI cb), .int (nI L), .int (nI o), .int y4, .int y5, .int y6, .int y7, .int y8, .int (nI pc), .int y10, .int y11])) (ho : o < 65536) (hs : swN o = 0) : pt (mT g) 103 [.ref on, .int i] M (fun v M' => (v = some (.long ((Int32.toInt64 (nI pc)) + (Int32.toInt64 y10))) ∧ M = M')) := by
  refine pt_in (b := mb_103 g) rfl (fun kf => ?_)
  show pl (mT g) kf (mb_103 g).2 (0, [(0, .ref on), (1, .int i)], [], M) _
  refine ps_st (S' := (1, [(0, .ref on), (1, .int i)], [.ref on], M)) rfl rfl rfl ?_
  refine pl_call (a := [.ref on]) (rest := []) rfl rfl rfl (dk_isSwitch (on := on) (b := b) (cb := cb) (L := L) (y4 := y4) (y5 := y5) (y6 := y6) (y7 := y7) (y8 := y8) (y9 := (nI pc)) (y10 := y10) (y11 := y11) (o := o) h_on (by omega)) (fun v1 M2 q3 => ?_)
  obtain ⟨rfl, rfl⟩ := q3
  show pl _ _ _ (4, [(0, .ref on), (1, .int i)], [.int (nI (swN o))], M) _
  have hsw_1 := swO_le o
  refine ps_if (S1 := (19, [(0, .ref on), (1, .int i)], [], M)) (S2 := (7, [(0, .ref on), (1, .int i)], [], M)) rfl rfl rfl (fun c_4 => ?_) (fun c_4 => ?_)
  · exact absurd (of_decide_eq_true c_4) (fun h9 => h9 (by rw [hs]; rfl))
  refine ps_st (S' := (8, [(0, .ref on), (1, .int i)], [.ref on], M)) rfl rfl rfl ?_
  refine ps_get (S' := (11, [(0, .ref on), (1, .int i)], [.int (nI pc)], M)) rfl h_on rfl rfl ?_
  refine ps_st (S' := (12, [(0, .ref on), (1, .int i)], [.long (Int32.toInt64 (nI pc))], M)) rfl rfl rfl ?_
  refine ps_st (S' := (13, [(0, .ref on), (1, .int i)], [.ref on, .long (Int32.toInt64 (nI pc))], M)) rfl rfl rfl ?_
  refine ps_get (S' := (16, [(0, .ref on), (1, .int i)], [.int y10, .long (Int32.toInt64 (nI pc))], M)) rfl h_on rfl rfl ?_
  refine ps_st (S' := (17, [(0, .ref on), (1, .int i)], [.long (Int32.toInt64 y10), .long (Int32.toInt64 (nI pc))], M)) rfl rfl rfl ?_
  refine ps_st (S' := (18, [(0, .ref on), (1, .int i)], [.long ((Int32.toInt64 (nI pc)) + (Int32.toInt64 y10))], M)) rfl rfl rfl ?_
  exact ps_ret rfl rfl (⟨rfl, rfl⟩)
set_option maxHeartbeats 1000000 in
theorem dk_targetS {g : xe_G} {M : mi_H} {f : Nat → Int32} {n on b da cb L : Nat} {y4 y5 y6 y7 y8 y10 : Int32} {o pc sw i : Nat} (h_on : M.1 on = some (ob 5 [.ref b, .int (nI cb), .int (nI L), .int (nI o), .int y4, .int y5, .int y6, .int y7, .int y8, .int (nI pc), .int y10, .int (nI sw)])) (h_b : M.1 b = some (ob 1 [.ref da])) (h_da : M.1 da = some (ar .byte n f)) (hn : n ≤ 65540) (ho : o = 170 ∨ o = 171) (hsw : sw < 65540 ∧ cb < 65540) (hi : i < 65536) (hin : cb + (sw + 4 + (if o = 170 then 4 * i + 4 else 8 * i)) + 4 ≤ n) (hi0 : cb + sw + 4 ≤ n) : pt (mT g) 103 [.ref on, .int (nI i)] M (fun v M' => (v = some (.long ((Int32.toInt64 (nI pc)) + (Int32.toInt64 (tdS f cb o sw i)))) ∧ M = M')) := by
  refine pt_in (b := mb_103 g) rfl (fun kf => ?_)
  show pl (mT g) kf (mb_103 g).2 (0, [(0, .ref on), (1, .int (nI i))], [], M) _
  refine ps_st (S' := (1, [(0, .ref on), (1, .int (nI i))], [.ref on], M)) rfl rfl rfl ?_
  refine pl_call (a := [.ref on]) (rest := []) rfl rfl rfl (dk_isSwitch (on := on) (b := b) (cb := cb) (L := L) (y4 := y4) (y5 := y5) (y6 := y6) (y7 := y7) (y8 := y8) (y9 := (nI pc)) (y10 := y10) (y11 := (nI sw)) (o := o) h_on (by omega)) (fun v1 M2 q3 => ?_)
  obtain ⟨rfl, rfl⟩ := q3
  show pl _ _ _ (4, [(0, .ref on), (1, .int (nI i))], [.int (nI (swN o))], M) _
  have hsw_1 := swO_le o
  refine ps_if (S1 := (19, [(0, .ref on), (1, .int (nI i))], [], M)) (S2 := (7, [(0, .ref on), (1, .int (nI i))], [], M)) rfl rfl rfl (fun c_4 => ?_) (fun c_4 => ?_)
  rotate_left
  · exact absurd (show ¬ ((nI (swN o)) = 0) from by rw [show swN o = 1 from if_pos ho]; decide) (of_decide_eq_false c_4)
  refine ps_st (S' := (20, [(0, .ref on), (1, .int (nI i))], [.int (nI i)], M)) rfl rfl rfl ?_
  refine ps_if (S1 := (39, [(0, .ref on), (1, .int (nI i))], [], M)) (S2 := (23, [(0, .ref on), (1, .int (nI i))], [], M)) rfl rfl rfl (fun c_20 => ?_) (fun c_20 => ?_)
  · have c_20 : ¬ (nI i) = 0 := of_decide_eq_true c_20
    have n_20 : ¬ (i = 0) := fun h9 => c_20 ((eq_nI (p := i) (n := 0) (by omega) (by decide)).mpr h9)
    refine ps_st (S' := (40, [(0, .ref on), (1, .int (nI i))], [.ref on], M)) rfl rfl rfl ?_
    refine ps_get (S' := (43, [(0, .ref on), (1, .int (nI i))], [.int (nI pc)], M)) rfl h_on rfl rfl ?_
    refine ps_st (S' := (44, [(0, .ref on), (1, .int (nI i))], [.long (Int32.toInt64 (nI pc))], M)) rfl rfl rfl ?_
    refine ps_st (S' := (45, [(0, .ref on), (1, .int (nI i))], [.ref on, .long (Int32.toInt64 (nI pc))], M)) rfl rfl rfl ?_
    refine ps_st (S' := (46, [(0, .ref on), (1, .int (nI i))], [.ref on, .ref on, .long (Int32.toInt64 (nI pc))], M)) rfl rfl rfl ?_
    refine ps_get (S' := (49, [(0, .ref on), (1, .int (nI i))], [.int (nI o), .ref on, .long (Int32.toInt64 (nI pc))], M)) rfl h_on rfl rfl ?_
    refine ps_st (S' := (52, [(0, .ref on), (1, .int (nI i))], [.int 170, .int (nI o), .ref on, .long (Int32.toInt64 (nI pc))], M)) rfl rfl rfl ?_
    refine ps_if2 (S1 := (69, [(0, .ref on), (1, .int (nI i))], [.ref on, .long (Int32.toInt64 (nI pc))], M)) (S2 := (55, [(0, .ref on), (1, .int (nI i))], [.ref on, .long (Int32.toInt64 (nI pc))], M)) rfl rfl rfl (fun c_52 => ?_) (fun c_52 => ?_)
    · have c_52 : ¬ (nI o) = 170 := of_decide_eq_true c_52
      have n_52 : ¬ (o = 170) := fun h9 => c_52 ((eq_nI (p := o) (n := 170) (by omega) (by decide)).mpr h9)
      rw [if_neg (show ¬ o = 170 by omega)] at hin
      refine ps_st (S' := (70, [(0, .ref on), (1, .int (nI i))], [.ref on, .ref on, .long (Int32.toInt64 (nI pc))], M)) rfl rfl rfl ?_
      refine ps_get (S' := (73, [(0, .ref on), (1, .int (nI i))], [.int (nI sw), .ref on, .long (Int32.toInt64 (nI pc))], M)) rfl h_on rfl rfl ?_
      refine ps_st (S' := (74, [(0, .ref on), (1, .int (nI i))], [.int 4, .int (nI sw), .ref on, .long (Int32.toInt64 (nI pc))], M)) rfl rfl rfl ?_
      refine ps_st (S' := (75, [(0, .ref on), (1, .int (nI i))], [.int ((nI sw) + 4), .ref on, .long (Int32.toInt64 (nI pc))], M)) rfl rfl rfl ?_
      rw [nI_add1 (p := sw) (k := 4) (x := 4) rfl (by omega)]
      show pl _ _ _ (_, [(0, .ref on), (1, .int (nI i))], [.int (nI (sw + 4)), .ref on, .long (Int32.toInt64 (nI pc))], M) _
      refine ps_st (S' := (77, [(0, .ref on), (1, .int (nI i))], [.int 8, .int (nI (sw + 4)), .ref on, .long (Int32.toInt64 (nI pc))], M)) rfl rfl rfl ?_
      refine ps_st (S' := (78, [(0, .ref on), (1, .int (nI i))], [.int (nI i), .int 8, .int (nI (sw + 4)), .ref on, .long (Int32.toInt64 (nI pc))], M)) rfl rfl rfl ?_
      refine ps_st (S' := (79, [(0, .ref on), (1, .int (nI i))], [.int (8 * (nI i)), .int (nI (sw + 4)), .ref on, .long (Int32.toInt64 (nI pc))], M)) rfl rfl rfl ?_
      rw [nI_mul1 (p := 8) (k := i) (x := 8) (y := (nI i)) rfl rfl (by omega)]
      show pl _ _ _ (_, [(0, .ref on), (1, .int (nI i))], [.int (nI (8 * i)), .int (nI (sw + 4)), .ref on, .long (Int32.toInt64 (nI pc))], M) _
      refine ps_st (S' := (80, [], [.int ((nI (sw + 4)) + (nI (8 * i))), .ref on, .long (Int32.toInt64 (nI pc))], M)) rfl rfl rfl ?_
      rw [nI_add1 (p := sw + 4) (k := 8 * i) (x := (nI (8 * i))) rfl (by omega)]
      show pl _ _ _ (_, [], [.int (nI (sw + 4 + 8 * i)), .ref on, .long (Int32.toInt64 (nI pc))], M) _
      refine pl_call (a := [.ref on, .int (nI (sw + 4 + 8 * i))]) (rest := [.long (Int32.toInt64 (nI pc))]) rfl rfl rfl (dk_is4 (f := f) (n := n) (on := on) (b := b) (da := da) (cb := cb) (L := L) (y3 := (nI o)) (y4 := y4) (y5 := y5) (y6 := y6) (y7 := y7) (y8 := y8) (y9 := (nI pc)) (y10 := y10) (y11 := (nI sw)) (a := (sw + 4 + 8 * i)) h_on h_b h_da (hn) (by omega)) (fun v4 M5 q6 => ?_)
      obtain ⟨rfl, rfl⟩ := q6
      show pl _ _ _ (83, [], [.int (nI (by4 f (cb + (sw + 4 + 8 * i)))), .long (Int32.toInt64 (nI pc))], M) _
      have hb_80 := by4_lt f (cb + (sw + 4 + 8 * i))
      refine ps_st (S' := (84, [], [.long (Int32.toInt64 (nI (by4 f (cb + (sw + 4 + 8 * i))))), .long (Int32.toInt64 (nI pc))], M)) rfl rfl rfl ?_
      refine ps_st (S' := (85, [], [.long ((Int32.toInt64 (nI pc)) + (Int32.toInt64 (nI (by4 f (cb + (sw + 4 + 8 * i))))))], M)) rfl rfl rfl ?_
      exact ps_ret rfl rfl (⟨by unfold tdS; rw [if_neg (by omega), if_neg (by omega)], rfl⟩)
    · have c_52 : ¬ (¬ (nI o) = 170) := of_decide_eq_false c_52
      have n_52 : o = 170 := (eq_nI (p := o) (n := 170) (by omega) (by decide)).mp (Decidable.not_not.mp c_52)
      rw [if_pos (show o = 170 by omega)] at hin
      refine ps_st (S' := (56, [(0, .ref on), (1, .int (nI i))], [.ref on, .ref on, .long (Int32.toInt64 (nI pc))], M)) rfl rfl rfl ?_
      refine ps_get (S' := (59, [(0, .ref on), (1, .int (nI i))], [.int (nI sw), .ref on, .long (Int32.toInt64 (nI pc))], M)) rfl h_on rfl rfl ?_
      refine ps_st (S' := (61, [(0, .ref on), (1, .int (nI i))], [.int 8, .int (nI sw), .ref on, .long (Int32.toInt64 (nI pc))], M)) rfl rfl rfl ?_
      refine ps_st (S' := (62, [(0, .ref on), (1, .int (nI i))], [.int ((nI sw) + 8), .ref on, .long (Int32.toInt64 (nI pc))], M)) rfl rfl rfl ?_
      rw [nI_add1 (p := sw) (k := 8) (x := 8) rfl (by omega)]
      show pl _ _ _ (_, [(0, .ref on), (1, .int (nI i))], [.int (nI (sw + 8)), .ref on, .long (Int32.toInt64 (nI pc))], M) _
      refine ps_st (S' := (63, [(0, .ref on), (1, .int (nI i))], [.int 4, .int (nI (sw + 8)), .ref on, .long (Int32.toInt64 (nI pc))], M)) rfl rfl rfl ?_
      refine ps_st (S' := (64, [(0, .ref on), (1, .int (nI i))], [.int (nI i), .int 4, .int (nI (sw + 8)), .ref on, .long (Int32.toInt64 (nI pc))], M)) rfl rfl rfl ?_
      refine ps_st (S' := (65, [(0, .ref on), (1, .int (nI i))], [.int (4 * (nI i)), .int (nI (sw + 8)), .ref on, .long (Int32.toInt64 (nI pc))], M)) rfl rfl rfl ?_
      rw [nI_mul1 (p := 4) (k := i) (x := 4) (y := (nI i)) rfl rfl (by omega)]
      show pl _ _ _ (_, [(0, .ref on), (1, .int (nI i))], [.int (nI (4 * i)), .int (nI (sw + 8)), .ref on, .long (Int32.toInt64 (nI pc))], M) _
      refine ps_st (S' := (66, [(0, .ref on), (1, .int (nI i))], [.int ((nI (sw + 8)) + (nI (4 * i))), .ref on, .long (Int32.toInt64 (nI pc))], M)) rfl rfl rfl ?_
      rw [nI_add1 (p := sw + 8) (k := 4 * i) (x := (nI (4 * i))) rfl (by omega)]
      show pl _ _ _ (_, [(0, .ref on), (1, .int (nI i))], [.int (nI (sw + 8 + 4 * i)), .ref on, .long (Int32.toInt64 (nI pc))], M) _
      refine ps_st (S' := (80, [], [.int (nI (sw + 8 + 4 * i)), .ref on, .long (Int32.toInt64 (nI pc))], M)) rfl rfl rfl ?_
      refine pl_call (a := [.ref on, .int (nI (sw + 8 + 4 * i))]) (rest := [.long (Int32.toInt64 (nI pc))]) rfl rfl rfl (dk_is4 (f := f) (n := n) (on := on) (b := b) (da := da) (cb := cb) (L := L) (y3 := (nI o)) (y4 := y4) (y5 := y5) (y6 := y6) (y7 := y7) (y8 := y8) (y9 := (nI pc)) (y10 := y10) (y11 := (nI sw)) (a := (sw + 8 + 4 * i)) h_on h_b h_da (hn) (by omega)) (fun v7 M8 q9 => ?_)
      obtain ⟨rfl, rfl⟩ := q9
      show pl _ _ _ (83, [], [.int (nI (by4 f (cb + (sw + 8 + 4 * i)))), .long (Int32.toInt64 (nI pc))], M) _
      have hb_80 := by4_lt f (cb + (sw + 8 + 4 * i))
      refine ps_st (S' := (84, [], [.long (Int32.toInt64 (nI (by4 f (cb + (sw + 8 + 4 * i))))), .long (Int32.toInt64 (nI pc))], M)) rfl rfl rfl ?_
      refine ps_st (S' := (85, [], [.long ((Int32.toInt64 (nI pc)) + (Int32.toInt64 (nI (by4 f (cb + (sw + 8 + 4 * i))))))], M)) rfl rfl rfl ?_
      exact ps_ret rfl rfl (⟨by unfold tdS; rw [if_neg (by omega), if_pos (by omega)], rfl⟩)
  · have c_20 : ¬ (¬ (nI i) = 0) := of_decide_eq_false c_20
    have n_20 : i = 0 := (eq_nI (p := i) (n := 0) (by omega) (by decide)).mp (Decidable.not_not.mp c_20)
    refine ps_st (S' := (24, [(0, .ref on), (1, .int (nI i))], [.ref on], M)) rfl rfl rfl ?_
    refine ps_get (S' := (27, [(0, .ref on), (1, .int (nI i))], [.int (nI pc)], M)) rfl h_on rfl rfl ?_
    refine ps_st (S' := (28, [(0, .ref on), (1, .int (nI i))], [.long (Int32.toInt64 (nI pc))], M)) rfl rfl rfl ?_
    refine ps_st (S' := (29, [(0, .ref on), (1, .int (nI i))], [.ref on, .long (Int32.toInt64 (nI pc))], M)) rfl rfl rfl ?_
    refine ps_st (S' := (30, [(0, .ref on), (1, .int (nI i))], [.ref on, .ref on, .long (Int32.toInt64 (nI pc))], M)) rfl rfl rfl ?_
    refine ps_get (S' := (33, [(0, .ref on), (1, .int (nI i))], [.int (nI sw), .ref on, .long (Int32.toInt64 (nI pc))], M)) rfl h_on rfl rfl ?_
    refine pl_call (a := [.ref on, .int (nI sw)]) (rest := [.long (Int32.toInt64 (nI pc))]) rfl rfl rfl (dk_is4 (f := f) (n := n) (on := on) (b := b) (da := da) (cb := cb) (L := L) (y3 := (nI o)) (y4 := y4) (y5 := y5) (y6 := y6) (y7 := y7) (y8 := y8) (y9 := (nI pc)) (y10 := y10) (y11 := (nI sw)) (a := sw) h_on h_b h_da (hn) (by omega)) (fun v10 M11 q12 => ?_)
    obtain ⟨rfl, rfl⟩ := q12
    show pl _ _ _ (36, [(0, .ref on), (1, .int (nI i))], [.int (nI (by4 f (cb + sw))), .long (Int32.toInt64 (nI pc))], M) _
    have hb_33 := by4_lt f (cb + sw)
    refine ps_st (S' := (37, [(0, .ref on), (1, .int (nI i))], [.long (Int32.toInt64 (nI (by4 f (cb + sw)))), .long (Int32.toInt64 (nI pc))], M)) rfl rfl rfl ?_
    refine ps_st (S' := (38, [(0, .ref on), (1, .int (nI i))], [.long ((Int32.toInt64 (nI pc)) + (Int32.toInt64 (nI (by4 f (cb + sw)))))], M)) rfl rfl rfl ?_
    exact ps_ret rfl rfl (⟨by unfold tdS; rw [if_pos (by omega)], rfl⟩)
set_option maxHeartbeats 1000000 in
theorem dk_numberAt {g : xe_G} {M : mi_H} {cd q on t9 L ml mj : Nat} {F : Nat → Int32} {c0 c2 c3 c4 : Int32} {v8 v9 : Value} {t : Int64} (h_cd : M.1 cd = some (ob 4 [.int c0, .int (nI ml), .int c2, .int c3, .int c4, .ref q, .int (nI mj), .ref on, v8, v9, .ref t9])) (h_t9 : M.1 t9 = some (ar .int L F)) (hL : L < 65536) : pt (mT g) 81 [.ref cd, .long t] M (fun v M' => (v = some (.int (naI F L t)) ∧ M = M')) := by
  refine pt_in (b := mb_81 g) rfl (fun kf => ?_)
  show pl (mT g) kf (mb_81 g).2 (0, [(0, .ref cd), (1, .long t)], [], M) _
  refine ps_st (S' := (1, [(0, .ref cd), (1, .long t)], [.ref cd], M)) rfl rfl rfl ?_
  refine ps_get (S' := (4, [(0, .ref cd), (1, .long t)], [.ref t9], M)) rfl h_cd rfl rfl ?_
  refine ps_st (S' := (7, [(0, .ref cd), (1, .long t)], [], M)) rfl rfl rfl ?_
  refine ps_st (S' := (8, [(0, .ref cd), (1, .long t)], [.long t], M)) rfl rfl rfl ?_
  refine ps_st (S' := (9, [(0, .ref cd), (1, .long t)], [.long 0, .long t], M)) rfl rfl rfl ?_
  refine ps_st (S' := (10, [(0, .ref cd), (1, .long t)], [.int (lg_cmp t 0)], M)) rfl rfl rfl ?_
  refine ps_if (S1 := (24, [], [], M)) (S2 := (13, [(0, .ref cd), (1, .long t)], [], M)) rfl rfl rfl (fun c_10 => ?_) (fun c_10 => ?_)
  · have c_10 : (lg_cmp t 0) < 0 := of_decide_eq_true c_10
    refine ps_st (S' := (25, [], [.int (-1)], M)) rfl rfl rfl ?_
    refine ps_st (S' := (37, [], [.int (-1)], M)) rfl rfl rfl ?_
    exact ps_ret rfl rfl (⟨by unfold naI; rw [if_neg (fun h9 => by have h8 := lgc_lt.mp c_10; have e0 : (0 : Int64).toInt = 0 := rfl; omega)], rfl⟩)
  · have c_10 : ¬ ((lg_cmp t 0) < 0) := of_decide_eq_false c_10
    refine ps_st (S' := (14, [(0, .ref cd), (1, .long t)], [.long t], M)) rfl rfl rfl ?_
    refine ps_st (S' := (15, [(0, .ref cd), (1, .long t)], [.ref cd, .long t], M)) rfl rfl rfl ?_
    refine ps_get (S' := (18, [(0, .ref cd), (1, .long t)], [.ref t9, .long t], M)) rfl h_cd rfl rfl ?_
    refine ps_alen (S' := (19, [(0, .ref cd), (1, .long t)], [.int (nI L), .long t], M)) rfl h_t9 rfl ?_
    refine ps_st (S' := (20, [(0, .ref cd), (1, .long t)], [.long (Int32.toInt64 (nI L)), .long t], M)) rfl rfl rfl ?_
    refine ps_st (S' := (21, [(0, .ref cd), (1, .long t)], [.int (lg_cmp t (Int32.toInt64 (nI L)))], M)) rfl rfl rfl ?_
    refine ps_if (S1 := (28, [(0, .ref cd), (1, .long t)], [], M)) (S2 := (24, [], [], M)) rfl rfl rfl (fun c_21 => ?_) (fun c_21 => ?_)
    · have c_21 : (lg_cmp t (Int32.toInt64 (nI L))) < 0 := of_decide_eq_true c_21
      have h10 : ¬ t.toInt < 0 := fun h9 => c_10 (lgc_lt.mpr h9)
      have h21 : t.toInt < L := by have h9 := lgc_lt.mp c_21; rw [i2l_nI (by omega)] at h9; exact h9
      obtain ⟨k, hk⟩ : ∃ k : Nat, t.toInt = (k : Int) := ⟨t.toInt.toNat, by omega⟩
      have et : t = nL k := Int64.toInt_inj.mp (by rw [nL_val (by omega)]; exact hk)
      subst et
      show pl _ _ _ (28, [(0, .ref cd), (1, .long (nL k))], [], M) _
      refine ps_st (S' := (29, [(0, .ref cd), (1, .long (nL k))], [.ref cd], M)) rfl rfl rfl ?_
      refine ps_get (S' := (32, [(0, .ref cd), (1, .long (nL k))], [.ref t9], M)) rfl h_cd rfl rfl ?_
      refine ps_st (S' := (33, [(0, .ref cd), (1, .long (nL k))], [.long (nL k), .ref t9], M)) rfl rfl rfl ?_
      refine ps_st (S' := (34, [(0, .ref cd), (1, .long (nL k))], [.int (Int64.toInt32 (nL k)), .ref t9], M)) rfl rfl rfl ?_
      rw [l2i_nL (p := k) (by omega)]
      show pl _ _ _ (_, [(0, .ref cd), (1, .long (nL k))], [.int (nI k), .ref t9], M) _
      refine ps_ald (S' := (35, [(0, .ref cd), (1, .long (nL k))], [.int (F (Int32.toNatClampNeg (nI k)))], M)) rfl h_t9 rfl (fun i0_34 i1_34 => ?_)
      rw [show (F (Int32.toNatClampNeg (nI k))) = (F k) from (congrArg F (nI_toNat (k := k) (by omega))).trans (rfl)]
      show pl _ _ _ (_, [(0, .ref cd), (1, .long (nL k))], [.int (F k)], M) _
      refine ps_st (S' := (36, [(0, .ref cd), (1, .long (nL k))], [.int 1, .int (F k)], M)) rfl rfl rfl ?_
      refine ps_st (S' := (37, [], [.int ((F k) - 1)], M)) rfl rfl rfl ?_
      exact ps_reti rfl (⟨by unfold naI; rw [if_pos ⟨by omega, h21⟩, hk]; rfl, rfl⟩)
    · have c_21 : ¬ ((lg_cmp t (Int32.toInt64 (nI L))) < 0) := of_decide_eq_false c_21
      refine ps_st (S' := (25, [], [.int (-1)], M)) rfl rfl rfl ?_
      refine ps_st (S' := (37, [], [.int (-1)], M)) rfl rfl rfl ?_
      exact ps_ret rfl rfl (⟨by unfold naI; rw [if_neg (fun h9 => c_21 (lgc_lt.mpr (by rw [i2l_nI (by omega)]; exact h9.2)))], rfl⟩)
set_option maxHeartbeats 1000000 in
theorem dk_targetsHoldJ {g : xe_G} {M : mi_H} {cd q on t9 L ml mj : Nat} {F : Nat → Int32} {c0 c2 c3 c4 : Int32} {v8 v9 : Value} {b cb pc o tc : Nat} {S : List Nat} {y4 y5 y6 y7 y10 y11 : Int32} (h_cd : M.1 cd = some (ob 4 [.int c0, .int (nI ml), .int c2, .int c3, .int c4, .ref q, .int (nI mj), .ref on, v8, v9, .ref t9])) (h_on : M.1 on = some (ob 5 [.ref b, .int (nI cb), .int (nI L), .int (nI o), .int y4, .int y5, .int y6, .int y7, .int (nI tc), .int (nI pc), .int y10, .int y11])) (h_t9 : M.1 t9 = some (ar .int L F)) (ho : o < 65536) (hsw : swN o = 0) (htc : tc < 65536) (hpc : pc < 65536) (hL : L < 65536) (hF : ∀ j, j < L → F j = nuA S j) (hSL : ∀ p ∈ S, p < L) (hSl : S.length < 65536) : pt (mT g) 85 [.ref cd] M (fun v M' => (v = some (.int (nI (thG (fun _ => (pc : Int) + y10.toInt) S tc 0))) ∧ M = M')) := by
  refine pt_in (b := mb_85 g) rfl (fun kf => ?_)
  show pl (mT g) kf (mb_85 g).2 (0, [(0, .ref cd)], [], M) _
  have LL : ∀ (kf : Nat), (∀ (i : Nat), (i ≤ tc) → (thG (fun _ => (pc : Int) + y10.toInt) S (tc - i) i = thG (fun _ => (pc : Int) + y10.toInt) S tc 0) →  pl (mT g) kf (mb_85 g).2 (2, [(0, .ref cd), (1, .int (nI i))], [], M) (fun v M' => (v = some (.int (nI (thG (fun _ => (pc : Int) + y10.toInt) S tc 0))) ∧ M = M'))) := by
    intro kf
    induction kf with
    | zero => exact (by intros; exact pl_0)
    | succ kf ih =>
      intro i hi hs
      refine ps_st1 (S' := (3, [(0, .ref cd), (1, .int (nI i))], [.int (nI i)], M)) rfl rfl rfl ?_
      refine ps_st (S' := (4, [(0, .ref cd), (1, .int (nI i))], [.ref cd, .int (nI i)], M)) rfl rfl rfl ?_
      refine ps_get (S' := (7, [(0, .ref cd), (1, .int (nI i))], [.ref on, .int (nI i)], M)) rfl h_cd rfl rfl ?_
      refine ps_get (S' := (10, [(0, .ref cd), (1, .int (nI i))], [.int (nI tc), .int (nI i)], M)) rfl h_on rfl rfl ?_
      refine ps_if2 (S1 := (36, [(0, .ref cd), (1, .int (nI i))], [], M)) (S2 := (13, [(0, .ref cd), (1, .int (nI i))], [], M)) rfl rfl rfl (fun c_10 => ?_) (fun c_10 => ?_)
      · have c_10 : (nI tc) ≤ (nI i) := of_decide_eq_true c_10
        have n_10 : tc ≤ i := (le_nI (p := tc) (n := i) (by omega) (by omega)).mp c_10
        refine ps_st (S' := (37, [(0, .ref cd), (1, .int (nI i))], [.int 1], M)) rfl rfl rfl ?_
        exact ps_ret rfl rfl (⟨congrArg (fun x => some (Value.int (nI x))) (show 1 = thG (fun _ => (pc : Int) + y10.toInt) S tc 0 from by rw [← hs, show tc - i = 0 by omega]; rfl), rfl⟩)
      · have c_10 : ¬ ((nI tc) ≤ (nI i)) := of_decide_eq_false c_10
        have n_10 : ¬ (tc ≤ i) := fun h9 => c_10 ((le_nI (p := tc) (n := i) (by omega) (by omega)).mpr h9)
        refine ps_st (S' := (14, [(0, .ref cd), (1, .int (nI i))], [.ref cd], M)) rfl rfl rfl ?_
        refine ps_st (S' := (15, [(0, .ref cd), (1, .int (nI i))], [.ref cd, .ref cd], M)) rfl rfl rfl ?_
        refine ps_get (S' := (18, [(0, .ref cd), (1, .int (nI i))], [.ref on, .ref cd], M)) rfl h_cd rfl rfl ?_
        refine ps_st (S' := (19, [(0, .ref cd), (1, .int (nI i))], [.int (nI i), .ref on, .ref cd], M)) rfl rfl rfl ?_
        refine pl_call (a := [.ref on, .int (nI i)]) (rest := [.ref cd]) rfl rfl rfl (dk_targetJ (on := on) (b := b) (cb := cb) (L := L) (y4 := y4) (y5 := y5) (y6 := y6) (y7 := y7) (y8 := (nI tc)) (y10 := y10) (y11 := y11) (o := o) (pc := pc) (i := (nI i)) h_on (ho) (hsw)) (fun v1 M2 q3 => ?_)
        obtain ⟨rfl, rfl⟩ := q3
        show pl _ _ _ (22, [(0, .ref cd), (1, .int (nI i))], [.long ((Int32.toInt64 (nI pc)) + (Int32.toInt64 y10)), .ref cd], M) _
        refine pl_call (a := [.ref cd, .long ((Int32.toInt64 (nI pc)) + (Int32.toInt64 y10))]) (rest := []) rfl rfl rfl (dk_numberAt (cd := cd) (q := q) (on := on) (t9 := t9) (L := L) (ml := ml) (mj := mj) (F := F) (c0 := c0) (c2 := c2) (c3 := c3) (c4 := c4) (v8 := v8) (v9 := v9) (t := ((Int32.toInt64 (nI pc)) + (Int32.toInt64 y10))) h_cd h_t9 (hL)) (fun v4 M5 q6 => ?_)
        obtain ⟨rfl, rfl⟩ := q6
        show pl _ _ _ (25, [(0, .ref cd), (1, .int (nI i))], [.int (naI F L ((Int32.toInt64 (nI pc)) + (Int32.toInt64 y10)))], M) _
        have hna := na_ge (t := ((Int32.toInt64 (nI pc)) + (Int32.toInt64 y10))) hF hSL hSl
        refine ps_if (S1 := (30, [(0, .ref cd), (1, .int (nI i))], [], M)) (S2 := (28, [(0, .ref cd), (1, .int (nI i))], [], M)) rfl rfl rfl (fun c_25 => ?_) (fun c_25 => ?_)
        · have c_25 : 0 ≤ (naI F L ((Int32.toInt64 (nI pc)) + (Int32.toInt64 y10))) := of_decide_eq_true c_25
          have hok : 0 ≤ (fun _ => (pc : Int) + y10.toInt) i ∧ ((fun _ => (pc : Int) + y10.toInt) i).toNat ∈ S := by have h9 := hna.mp c_25; rw [t64_val (by omega)] at h9; exact h9
          refine ps_st (S' := (33, [(1, .int ((nI i) + 1)), (0, .ref cd)], [], M)) rfl rfl rfl ?_
          rw [nI_add1 (p := i) (k := 1) (x := 1) rfl (by omega)]
          show pl _ _ _ (_, [(1, .int (nI (i + 1))), (0, .ref cd)], [], M) _
          refine ps_st (S' := (2, [(0, .ref cd), (1, .int (nI (i + 1)))], [], M)) rfl rfl rfl ?_
          exact ih (i + 1)  (by omega) (by
              rw [← hs, thG_st (i := i) (j := i) (by omega), if_pos hok])
        · have c_25 : ¬ (0 ≤ (naI F L ((Int32.toInt64 (nI pc)) + (Int32.toInt64 y10)))) := of_decide_eq_false c_25
          have hno : ¬ (0 ≤ (fun _ => (pc : Int) + y10.toInt) i ∧ ((fun _ => (pc : Int) + y10.toInt) i).toNat ∈ S) := fun h9 => c_25 (hna.mpr (by rw [t64_val (by omega)]; exact h9))
          refine ps_st (S' := (29, [(0, .ref cd), (1, .int (nI i))], [.int 0], M)) rfl rfl rfl ?_
          exact ps_ret rfl rfl (⟨congrArg (fun x => some (Value.int (nI x))) (show 0 = thG (fun _ => (pc : Int) + y10.toInt) S tc 0 from by rw [← hs, thG_st (i := i) (j := i) (by omega), if_neg hno]), rfl⟩)
  refine ps_st (S' := (1, [(0, .ref cd)], [.int 0], M)) rfl rfl rfl ?_
  refine ps_st (S' := (2, [(0, .ref cd), (1, .int 0)], [], M)) rfl rfl rfl ?_
  exact (LL kf) (0)  (by omega) (rfl)
set_option maxHeartbeats 1000000 in
theorem dk_targetsHoldS {g : xe_G} {M : mi_H} {f : Nat → Int32} {n da sw : Nat} {cd q on t9 L ml mj : Nat} {F : Nat → Int32} {c0 c2 c3 c4 : Int32} {v8 v9 : Value} {b cb pc o tc : Nat} {S : List Nat} {y4 y5 y6 y7 y10 : Int32} (h_cd : M.1 cd = some (ob 4 [.int c0, .int (nI ml), .int c2, .int c3, .int c4, .ref q, .int (nI mj), .ref on, v8, v9, .ref t9])) (h_on : M.1 on = some (ob 5 [.ref b, .int (nI cb), .int (nI L), .int (nI o), .int y4, .int y5, .int y6, .int y7, .int (nI tc), .int (nI pc), .int y10, .int (nI sw)])) (h_b : M.1 b = some (ob 1 [.ref da])) (h_da : M.1 da = some (ar .byte n f)) (h_t9 : M.1 t9 = some (ar .int L F)) (hn : n ≤ 65540) (ho : o = 170 ∨ o = 171) (hsw : sw < 65540 ∧ cb < 65540) (htc : tc < 65536) (hpc : pc < 65536) (hin : ∀ i, i < tc → cb + (sw + 4 + (if o = 170 then 4 * i + 4 else 8 * i)) + 4 ≤ n) (hi0 : cb + sw + 4 ≤ n) (hL : L < 65536) (hF : ∀ j, j < L → F j = nuA S j) (hSL : ∀ p ∈ S, p < L) (hSl : S.length < 65536) : pt (mT g) 85 [.ref cd] M (fun v M' => (v = some (.int (nI (thG (fun i => (pc : Int) + (tdS f cb o sw i).toInt) S tc 0))) ∧ M = M')) := by
  refine pt_in (b := mb_85 g) rfl (fun kf => ?_)
  show pl (mT g) kf (mb_85 g).2 (0, [(0, .ref cd)], [], M) _
  have LL : ∀ (kf : Nat), (∀ (i : Nat), (i ≤ tc) → (thG (fun i => (pc : Int) + (tdS f cb o sw i).toInt) S (tc - i) i = thG (fun i => (pc : Int) + (tdS f cb o sw i).toInt) S tc 0) →  pl (mT g) kf (mb_85 g).2 (2, [(0, .ref cd), (1, .int (nI i))], [], M) (fun v M' => (v = some (.int (nI (thG (fun i => (pc : Int) + (tdS f cb o sw i).toInt) S tc 0))) ∧ M = M'))) := by
    intro kf
    induction kf with
    | zero => exact (by intros; exact pl_0)
    | succ kf ih =>
      intro i hi hs
      refine ps_st1 (S' := (3, [(0, .ref cd), (1, .int (nI i))], [.int (nI i)], M)) rfl rfl rfl ?_
      refine ps_st (S' := (4, [(0, .ref cd), (1, .int (nI i))], [.ref cd, .int (nI i)], M)) rfl rfl rfl ?_
      refine ps_get (S' := (7, [(0, .ref cd), (1, .int (nI i))], [.ref on, .int (nI i)], M)) rfl h_cd rfl rfl ?_
      refine ps_get (S' := (10, [(0, .ref cd), (1, .int (nI i))], [.int (nI tc), .int (nI i)], M)) rfl h_on rfl rfl ?_
      refine ps_if2 (S1 := (36, [(0, .ref cd), (1, .int (nI i))], [], M)) (S2 := (13, [(0, .ref cd), (1, .int (nI i))], [], M)) rfl rfl rfl (fun c_10 => ?_) (fun c_10 => ?_)
      · have c_10 : (nI tc) ≤ (nI i) := of_decide_eq_true c_10
        have n_10 : tc ≤ i := (le_nI (p := tc) (n := i) (by omega) (by omega)).mp c_10
        refine ps_st (S' := (37, [(0, .ref cd), (1, .int (nI i))], [.int 1], M)) rfl rfl rfl ?_
        exact ps_ret rfl rfl (⟨congrArg (fun x => some (Value.int (nI x))) (show 1 = thG (fun i => (pc : Int) + (tdS f cb o sw i).toInt) S tc 0 from by rw [← hs, show tc - i = 0 by omega]; rfl), rfl⟩)
      · have c_10 : ¬ ((nI tc) ≤ (nI i)) := of_decide_eq_false c_10
        have n_10 : ¬ (tc ≤ i) := fun h9 => c_10 ((le_nI (p := tc) (n := i) (by omega) (by omega)).mpr h9)
        refine ps_st (S' := (14, [(0, .ref cd), (1, .int (nI i))], [.ref cd], M)) rfl rfl rfl ?_
        refine ps_st (S' := (15, [(0, .ref cd), (1, .int (nI i))], [.ref cd, .ref cd], M)) rfl rfl rfl ?_
        refine ps_get (S' := (18, [(0, .ref cd), (1, .int (nI i))], [.ref on, .ref cd], M)) rfl h_cd rfl rfl ?_
        refine ps_st (S' := (19, [(0, .ref cd), (1, .int (nI i))], [.int (nI i), .ref on, .ref cd], M)) rfl rfl rfl ?_
        refine pl_call (a := [.ref on, .int (nI i)]) (rest := [.ref cd]) rfl rfl rfl (dk_targetS (f := f) (n := n) (on := on) (b := b) (da := da) (cb := cb) (L := L) (y4 := y4) (y5 := y5) (y6 := y6) (y7 := y7) (y8 := (nI tc)) (y10 := y10) (o := o) (pc := pc) (sw := sw) (i := i) h_on h_b h_da (hn) (ho) (hsw) (by omega) (hin i (by omega)) (hi0)) (fun v1 M2 q3 => ?_)
        obtain ⟨rfl, rfl⟩ := q3
        show pl _ _ _ (22, [(0, .ref cd), (1, .int (nI i))], [.long ((Int32.toInt64 (nI pc)) + (Int32.toInt64 (tdS f cb o sw i))), .ref cd], M) _
        refine pl_call (a := [.ref cd, .long ((Int32.toInt64 (nI pc)) + (Int32.toInt64 (tdS f cb o sw i)))]) (rest := []) rfl rfl rfl (dk_numberAt (cd := cd) (q := q) (on := on) (t9 := t9) (L := L) (ml := ml) (mj := mj) (F := F) (c0 := c0) (c2 := c2) (c3 := c3) (c4 := c4) (v8 := v8) (v9 := v9) (t := ((Int32.toInt64 (nI pc)) + (Int32.toInt64 (tdS f cb o sw i)))) h_cd h_t9 (hL)) (fun v4 M5 q6 => ?_)
        obtain ⟨rfl, rfl⟩ := q6
        show pl _ _ _ (25, [(0, .ref cd), (1, .int (nI i))], [.int (naI F L ((Int32.toInt64 (nI pc)) + (Int32.toInt64 (tdS f cb o sw i))))], M) _
        have hna := na_ge (t := ((Int32.toInt64 (nI pc)) + (Int32.toInt64 (tdS f cb o sw i)))) hF hSL hSl
        refine ps_if (S1 := (30, [(0, .ref cd), (1, .int (nI i))], [], M)) (S2 := (28, [(0, .ref cd), (1, .int (nI i))], [], M)) rfl rfl rfl (fun c_25 => ?_) (fun c_25 => ?_)
        · have c_25 : 0 ≤ (naI F L ((Int32.toInt64 (nI pc)) + (Int32.toInt64 (tdS f cb o sw i)))) := of_decide_eq_true c_25
          have hok : 0 ≤ (fun i => (pc : Int) + (tdS f cb o sw i).toInt) i ∧ ((fun i => (pc : Int) + (tdS f cb o sw i).toInt) i).toNat ∈ S := by have h9 := hna.mp c_25; rw [t64_val (by omega)] at h9; exact h9
          refine ps_st (S' := (33, [(1, .int ((nI i) + 1)), (0, .ref cd)], [], M)) rfl rfl rfl ?_
          rw [nI_add1 (p := i) (k := 1) (x := 1) rfl (by omega)]
          show pl _ _ _ (_, [(1, .int (nI (i + 1))), (0, .ref cd)], [], M) _
          refine ps_st (S' := (2, [(0, .ref cd), (1, .int (nI (i + 1)))], [], M)) rfl rfl rfl ?_
          exact ih (i + 1)  (by omega) (by
              rw [← hs, thG_st (i := i) (j := i) (by omega), if_pos hok])
        · have c_25 : ¬ (0 ≤ (naI F L ((Int32.toInt64 (nI pc)) + (Int32.toInt64 (tdS f cb o sw i))))) := of_decide_eq_false c_25
          have hno : ¬ (0 ≤ (fun i => (pc : Int) + (tdS f cb o sw i).toInt) i ∧ ((fun i => (pc : Int) + (tdS f cb o sw i).toInt) i).toNat ∈ S) := fun h9 => c_25 (hna.mpr (by rw [t64_val (by omega)]; exact h9))
          refine ps_st (S' := (29, [(0, .ref cd), (1, .int (nI i))], [.int 0], M)) rfl rfl rfl ?_
          exact ps_ret rfl rfl (⟨congrArg (fun x => some (Value.int (nI x))) (show 0 = thG (fun i => (pc : Int) + (tdS f cb o sw i).toInt) S tc 0 from by rw [← hs, thG_st (i := i) (j := i) (by omega), if_neg hno]), rfl⟩)
  refine ps_st (S' := (1, [(0, .ref cd)], [.int 0], M)) rfl rfl rfl ?_
  refine ps_st (S' := (2, [(0, .ref cd), (1, .int 0)], [], M)) rfl rfl rfl ?_
  exact (LL kf) (0)  (by omega) (rfl)
theorem dk_targetsHold7 {g : xe_G} {M : mi_H} {f : Nat → Int32} {n q : Nat} {cd on b da cb L ml mj pc t9 : Nat} {x : IC} {F : Nat → Int32} {S : List Nat} {c0 c2 c3 c4 y10 y11 : Int32} {v8 v9 : Value} (h_cd : M.1 cd = some (ob 4 [.int c0, .int (nI ml), .int c2, .int c3, .int c4, .ref q, .int (nI mj), .ref on, v8, v9, .ref t9])) (h_on : M.1 on = some (ob 5 [.ref b, .int (nI cb), .int (nI L), .int (nI x.1), .int (nI x.2.1), .int x.2.2.1, .int x.2.2.2.1, .int (nI x.2.2.2.2.1), .int (nI x.2.2.2.2.2.1), .int (nI pc), .int (x.2.2.2.2.2.2.1.getD y10), .int ((x.2.2.2.2.2.2.2.map nI).getD y11)])) (h_b : M.1 b = some (ob 1 [.ref da])) (h_da : M.1 da = some (ar .byte n f)) (h_t9 : M.1 t9 = some (ar .int L F)) (hn : n ≤ 65540) (hcl : cb + L + 4 ≤ n) (hx : inC f cb L pc = some x) (hL : L < 65536) (hF : ∀ j, j < L → F j = nuA S j) (hSL : ∀ p ∈ S, p < L) (hSl : S.length < 65536) : pt (mT g) 85 [.ref cd] M (fun v M' => (v = some (.int (nI (thN f cb S pc x x.2.2.2.2.2.1 0))) ∧ M = M')) := by
  obtain ⟨o, sz, fi, se, lp, tc, of, sw⟩ := x
  obtain ⟨ho, -, hs, -⟩ := in_in hx
  have hpc := in_sz hx
  dsimp only at ho hs hpc h_on ⊢
  rcases hs with ⟨h1, h2, h3⟩ | ⟨h1, h2, h3, h4⟩
  · subst h1
    by_cases ht : tc = 0
    · subst ht
      exact (dk_targetsHoldJ (y10 := of.getD y10) h_cd h_on h_t9 (by omega) h2 (by decide) (by omega) hL hF hSL hSl).mono (fun v M' h => ⟨h.1.trans (congrArg (fun x => some (Value.int (nI x))) (thG_z.trans (thG_z (T := fun i => tgI f cb pc (o, sz, fi, se, lp, 0, of, none) i)).symm)), h.2⟩)
    · have hof : ∃ d, of = some d := in_of hx h2 ht
      obtain ⟨d, rfl⟩ := hof
      have e := thG_cg (S := S) (T := fun i => tgI f cb pc (o, sz, fi, se, lp, tc, some d, none) i) (T' := fun _ => (pc : Int) + d.toInt) tc 0 (fun j => tg_J)
      exact (dk_targetsHoldJ (y10 := d) h_cd h_on h_t9 (by omega) h2 (by omega) (by omega) hL hF hSL hSl).mono (fun v M' h => ⟨h.1.trans (congrArg (fun x => some (Value.int (nI x))) e.symm), h.2⟩)
  · subst h1
    obtain ⟨a1, a2, a3⟩ := sw_in h4 h2
    dsimp only at a2 a3
    have hpd := pd_le pc
    have htc : tc < 65536 := Nat.not_le.mp (fun h9 => by
      have := a3 65535 (by omega)
      split at this <;> omega)
    have e := thG_cg (S := S) (T := fun i => tgI f cb pc (o, sz, fi, se, lp, tc, of, some (pdN pc)) i) (T' := fun i => (pc : Int) + (tdS f cb o (pdN pc) i).toInt) tc 0 (fun j => tg_S)
    refine (dk_targetsHoldS (sw := pdN pc) h_cd h_on h_b h_da h_t9 hn h2 (by omega) htc (by omega) (fun i hi => by
      have h8 := a3 i hi
      by_cases hq : o = 170
      · rw [if_pos hq] at h8 ⊢
        omega
      · rw [if_neg hq] at h8 ⊢
        omega) (by omega) hL hF hSL hSl).mono (fun v M' h => ⟨h.1.trans (congrArg (fun x => some (Value.int (nI x))) e.symm), h.2⟩)
