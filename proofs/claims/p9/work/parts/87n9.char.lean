/-! a character of a text, as both sides tell it (my own text) -/
section CHA
variable {f : Nat → Int32} {n H m N : Nat} {E : List (Nat × Nat)} {F : Nat → Nat → Int32}
def chI (f : Nat → Int32) (n : Nat) (E : List (Nat × Nat)) (k i : Int32) : Int32 := if tg f E k.toNatClampNeg = 1 ∧ ¬ i < 0 ∧ i.toNatClampNeg < (tX f n E k.toNatClampNeg).length then nI ((tX f n E k.toNatClampNeg).getD i.toNatClampNeg 0) else -1
def chK (ko : Option (Nat × (Nat → Int32))) (k i : Int32) : Int32 := match ko with
  | none => -1
  | some r => match s_whole r.2 r.1 with
    | .inl _ => -1
    | .inr y => chI r.2 r.1 y.1 k i
theorem chK_is {r : Nat × (Nat → Int32)} {k p : Int32} {y : Nat × Nat × Nat × Nat} (h : s_whole r.2 r.1 = .inr (E, y)) : chK (some r) k p = chI r.2 r.1 E k p := by
  show (match s_whole r.2 r.1 with | .inl _ => -1 | .inr y => chI r.2 r.1 y.1 k p) = _
  rw [h]
theorem i32_cl {k : Int32} (h : k < 0) : k.toNatClampNeg = 0 := by
  have h1 := Int32.lt_iff_toInt_lt.mp h
  have e0 : (0 : Int32).toInt = 0 := rfl
  show k.toInt.toNat = 0
  omega
theorem i32_to {k : Int32} (h : ¬ k < 0) : (k.toNatClampNeg : Int) = k.toInt := by
  have h1 := Int32.le_iff_toInt_le.mp (Int32.not_lt.mp h)
  have e0 : (0 : Int32).toInt = 0 := rfl
  show ((k.toInt.toNat : Nat) : Int) = _
  omega
theorem i32_ge {k : Int32} {N : Nat} (hN : N ≤ 65540) (h0 : ¬ k < 0) (h : ¬ k < nI N) : N ≤ k.toNatClampNeg := by
  have h1 := Int32.le_iff_toInt_le.mp (Int32.not_lt.mp h)
  rw [nI_val (by omega)] at h1
  have h2 := i32_to h0
  omega
theorem i32_lt {k : Int32} {N : Nat} (hN : N ≤ 65540) (h0 : ¬ k < 0) (h : k.toNatClampNeg < N) : k < nI N := by
  apply Int32.lt_iff_toInt_lt.mpr
  rw [nI_val (by omega)]
  have h2 := i32_to h0
  omega
theorem VF.tagR (h : VF f n E H m F) (hH : H ≤ 65536) (h0 : tg f E 0 = 0) (k : Int32) : sp_tagOf H m F k = nI (tg f E k.toNatClampNeg) := by
  unfold sp_tagOf
  by_cases h1 : k < 0
  · rw [if_pos h1, i32_cl h1, h0]
    rfl
  · rw [if_neg h1]
    by_cases h2 : k < nI H
    · rw [if_pos h2]
      exact h.1 _
    · rw [if_neg h2, h.2.1 _ (i32_ge (by omega) h1 h2)]
      rfl
theorem VF.charR (h : VF f n E H m F) (hH : H ≤ 65536) (hm : m ≤ 65540) (h0 : tg f E 0 = 0) (k i : Int32) : sp_characterAt H m F k i = chI f n E k i := by
  unfold sp_characterAt chI
  rw [h.tagR hH h0 k]
  obtain ⟨j, hj⟩ : ∃ j, j = k.toNatClampNeg := ⟨_, rfl⟩
  rw [← hj]
  by_cases h1 : tg f E j = 1
  · obtain ⟨c, a1, a2, a3, a4⟩ := h.2.2.2.2 j h1
    rw [if_neg (by rw [h1]; exact fun q => q rfl)]
    by_cases h2 : i < 0
    · rw [if_pos h2, if_neg (fun q => q.2.1 h2)]
    · rw [if_neg h2, a2, a1]
      have hl := tx_len f n E j
      by_cases h3 : i.toNatClampNeg < (tX f n E j).length
      · rw [if_pos (i32_lt (by omega) h2 h3), if_pos ⟨h1, h2, h3⟩]
        have e := i32_nn h2
        obtain ⟨t, ht⟩ : ∃ t, t = i.toNatClampNeg := ⟨_, rfl⟩
        rw [← ht] at h3 e ⊢
        rw [e, nI_add1 rfl (by omega), nI_toNat (by omega), a4 t h3]
      · rw [if_neg (fun q => h3 ?_), if_neg (fun q => h3 q.2.2)]
        have h4 := Int32.lt_iff_toInt_lt.mp q
        rw [nI_val (by omega)] at h4
        have h5 := i32_to h2
        omega
  · rw [if_pos (show ¬ nI (tg f E j) = 1 from fun q => h1 ((eq_nI (p := tg f E j) (n := 1) (Nat.lt_trans (tg_lt _ _ _) (by decide)) (by decide)).mp q)), if_neg (fun q => h1 q.1)]
theorem s_ents_1 {mj : Nat} : ∀ {r k p p' : Nat} {E0 E : List (Nat × Nat)}, 1 ≤ k → (∀ q ∈ E0, 1 ≤ q.1) → s_ents f n mj N r k p E0 = .inr (p', E) → ∀ q ∈ E, 1 ≤ q.1 := by
  intro r
  induction r with
  | zero => intro k p p' E0 E hk h0 h; cases h; exact h0
  | succ r ih =>
    intro k p p' E0 E hk h0 h
    unfold s_ents at h
    split at h
    · cases h; exact h0
    · cases he : s_entry f n mj N k p with
      | inl e => rw [he] at h; cases h
      | inr y =>
        obtain ⟨p2, x⟩ := y
        rw [he] at h
        refine ih (k := if by1 f p = 5 ∨ by1 f p = 6 then k + 2 else k + 1) ?_ ?_ h
        · split <;> omega
        · intro q hq
          rcases List.mem_append.mp hq with hq | hq
          · exact h0 q hq
          · have e : q = (k, p) := by simpa using hq
            rw [e]
            exact hk
/-- number 0 is no entry's -/
theorem tg_0 {mj p' : Nat} (h : s_pool f n mj = .inr (p', E)) : tg f E 0 = 0 := by
  unfold s_pool at h
  split at h
  · cases h
  · split at h
    · cases h
    · unfold tg
      cases hk : lk E 0 with
      | none => rfl
      | some p => exact absurd (s_ents_1 (by decide) (fun q hq => by cases hq) h _ (lk_in hk)) (show ¬ 1 ≤ 0 by decide)
end CHA
theorem dz_characterAt {g : xe_G} {M : mi_H} {f : Nat → Int32} {n N q : Nat} {E : List (Nat × Nat)} {k i : Int32}  (hV : PV g f n N E q M) (h0 : tg f E 0 = 0) : pt (mT g) 113 [.ref q, .int k, .int i] M (fun v M' => (v = some (.int (chI f n E k i)) ∧ M = M')) := by
  obtain ⟨hL9, H, m, qq, F, cc, hP9, hT9, -, hb9, hVF, -⟩ := id hV
  exact ((ct_characterAt hP9 hT9 (by omega) (d := 2) (Nat.le_refl _)).pt).mono (fun v M' h => ⟨by rw [h.1, hVF.charR hb9.1 hb9.2.1 h0], h.2.symm⟩)
set_option maxHeartbeats 1000000 in
theorem dk_character0 {g : xe_G} {M : mi_H} {o ca fl : Nat} {cn wp k i : Int32} (h_o : M.1 o = some (ob 11 [.ref ca, .int cn, .ref fl, .null, .int wp]))  : pt (mT g) 3 [.ref o, .int k, .int i] M (fun v M' => (v = some (.int (-1)) ∧ M = M')) := by
  refine pt_in (b := mb_3 g) rfl (fun kf => ?_)
  show pl (mT g) kf (mb_3 g).2 (0, [(0, .ref o), (1, .int k), (2, .int i)], [], M) _
  refine ps_st (S' := (1, [(0, .ref o), (1, .int k), (2, .int i)], [.ref o], M)) rfl rfl rfl ?_
  refine ps_get (S' := (4, [(0, .ref o), (1, .int k), (2, .int i)], [.null], M)) rfl h_o rfl rfl ?_
  refine ps_st (S' := (7, [(0, .ref o), (1, .int k), (2, .int i)], [], M)) rfl rfl rfl ?_
  refine ps_st (S' := (8, [(0, .ref o), (1, .int k), (2, .int i)], [.int (-1)], M)) rfl rfl rfl ?_
  refine ps_st (S' := (23, [], [.int (-1)], M)) rfl rfl rfl ?_
  exact ps_ret rfl rfl (⟨rfl, rfl⟩)
set_option maxHeartbeats 1000000 in
theorem dk_characterK {g : xe_G} {M : mi_H} {f : Nat → Int32} {n N q : Nat} {E : List (Nat × Nat)} {o ca fl c b : Nat} {cn wp : Int32} {w : List Value} {k i : Int32} (h_o : M.1 o = some (ob 11 [.ref ca, .int cn, .ref fl, .ref c, .int wp])) (h_c : M.1 c = some (ob 3 (.ref b :: .ref q :: w))) (hV : PV g f n N E q M) (h0 : tg f E 0 = 0) : pt (mT g) 3 [.ref o, .int k, .int i] M (fun v M' => (v = some (.int (chI f n E k i)) ∧ M = M')) := by
  refine pt_in (b := mb_3 g) rfl (fun kf => ?_)
  show pl (mT g) kf (mb_3 g).2 (0, [(0, .ref o), (1, .int k), (2, .int i)], [], M) _
  obtain ⟨hL9, H, m, qq, F, cc, hP9, -, -, hb9, -⟩ := id hV
  have h_q := hP9.1
  have hN9 := hb9.2.2.1
  refine ps_st (S' := (1, [(0, .ref o), (1, .int k), (2, .int i)], [.ref o], M)) rfl rfl rfl ?_
  refine ps_get (S' := (4, [(0, .ref o), (1, .int k), (2, .int i)], [.ref c], M)) rfl h_o rfl rfl ?_
  refine ps_st (S' := (11, [(0, .ref o), (1, .int k), (2, .int i)], [], M)) rfl rfl rfl ?_
  refine ps_st (S' := (12, [(0, .ref o), (1, .int k), (2, .int i)], [.ref o], M)) rfl rfl rfl ?_
  refine ps_get (S' := (15, [(0, .ref o), (1, .int k), (2, .int i)], [.ref c], M)) rfl h_o rfl rfl ?_
  refine ps_get (S' := (18, [(0, .ref o), (1, .int k), (2, .int i)], [.ref q], M)) rfl h_c rfl rfl ?_
  refine ps_st (S' := (19, [(0, .ref o), (1, .int k), (2, .int i)], [.int k, .ref q], M)) rfl rfl rfl ?_
  refine ps_st (S' := (20, [(0, .ref o), (1, .int k), (2, .int i)], [.int i, .int k, .ref q], M)) rfl rfl rfl ?_
  refine pl_call (a := [.ref q, .int k, .int i]) (rest := []) rfl rfl rfl (dz_characterAt (f := f) (n := n) (N := N) (q := q) (E := E) (k := k) (i := i) (hV) (h0)) (fun v1 M2 q3 => ?_)
  obtain ⟨rfl, rfl⟩ := q3
  show pl _ _ _ (23, [], [.int (chI f n E k i)], M) _
  exact ps_reti rfl (⟨rfl, rfl⟩)
theorem dk_character {g : xe_G} {M : mi_H} {ko : Option (Nat × (Nat → Int32))} {kv : Value} {cm o fl : Nat} {cn wp k i : Int32} (hx : M.1 o = some (ob 11 [.ref cm, .int cn, .ref fl, kv, .int wp])) (hK : KPC g ko kv cm M) : pt (mT g) 3 [.ref o, .int k, .int i] M (fun v M' => v = some (.int (chK ko k i)) ∧ M = M') := by
  cases ko with
  | none =>
    have e : kv = .null := hK
    subst e
    exact dk_character0 hx
  | some r =>
    obtain ⟨c, da, rfl, ⟨b, q, N, E, p1, pF, pM, pA, w, h1, h2, h3, h4, h5, rfl, -⟩, -, -⟩ := hK
    rw [chK_is h5]
    exact dk_characterK hx h1 h4 (tg_0 (whole_in h5))
