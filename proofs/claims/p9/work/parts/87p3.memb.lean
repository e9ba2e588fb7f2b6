/-! members and rows, as both sides tell them (my own text) -/
section MEA
variable {f : Nat → Int32} {n : Nat} {E : List (Nat × Nat)}
/-- a Code attribute's form is well in the file -/
def CIN (f : Nat → Int32) (n cp : Nat) : Prop := cp + 14 + by4 f (cp + 10) + 2 + 8 * by2 f (cp + 14 + by4 f (cp + 10)) + 2 ≤ n ∧ 1 ≤ by4 f (cp + 10) ∧ by4 f (cp + 10) ≤ 65535
theorem ma_in {mj w : Nat} : ∀ {r p s h h' e0 : Nat} {K : Nat × Nat × Nat}, maS f n E mj w r p s h = .inr h' → s_atts f n r p = .inr e0 → (maU f n E r p K).2.1 = K.2.1 ∨ CIN f n (maU f n E r p K).2.1 := by
  intro r
  induction r with
  | zero => intro p s h h' e0 K _ _; exact Or.inl rfl
  | succ r ih =>
    intro p s h h' e0 K h1 h2
    obtain ⟨a1, a2, a3⟩ := s_atts_in (c := r + 1) (i := 0) h2 (Nat.succ_pos r)
    have a3 : s_atts f n r (p + 6 + by4 f (p + 2)) = .inr e0 := a3
    have hU : maU f n E (r + 1) p K = maU f n E r (p + 6 + by4 f (p + 2)) (stM f (mkN f n E (by2 f p)) p K) := rfl
    rw [hU]
    unfold maS at h1
    split at h1
    · cases h1
    · split at h1
      · cases h1
      · rename_i hf
        split at h1
        · rename_i h2k
          split at h1
          · cases h1
          · rename_i s2 hcd
            have h9 := Decidable.not_not.mp (fun h9 => hf ⟨by omega, h9⟩)
            rw [h2k] at h9
            have hin := (s_cdE_in ((s_fe_in h9).2.2.2.2.2.2 rfl)).1
            have hin2 : p + 14 + by4 f (p + 10) + 2 + 8 * by2 f (p + 14 + by4 f (p + 10)) + 2 ≤ p + 6 + by4 f (p + 2) := hin
            have hlen : 1 ≤ by4 f (p + 10) ∧ by4 f (p + 10) ≤ 65535 := by
              unfold cdS at hcd
              split at hcd
              · cases hcd
              · omega
            rcases ih (K := stM f (mkN f n E (by2 f p)) p K) h1 a3 with h3 | h3
            · refine Or.inr ?_
              rw [h3, h2k, stM_2]
              exact ⟨by show p + 14 + by4 f (p + 10) + 2 + 8 * by2 f (p + 14 + by4 f (p + 10)) + 2 ≤ n; omega, hlen⟩
            · exact Or.inr h3
        · split at h1
          · cases h1
          · rename_i h2k h3k
            rcases ih (K := stM f (mkN f n E (by2 f p)) p K) h1 a3 with h3 | h3
            · refine Or.inl ?_
              rw [h3]
              unfold stM
              exact if_neg h2k
            · exact Or.inr h3
theorem mtS_in {c mj : Nat} {B : List Nat} : ∀ {r i : Nat}, mtS f n E c mj B r i = none → ∀ j, i ≤ j → j < i + r → mhS f n E c mj B j (B.getD j 0) = none ∧ ∃ h, maS f n E mj (apN f n E (B.getD j 0)) (by2 f (B.getD j 0 + 6)) (B.getD j 0 + 8) 0 0 = .inr h := by
  intro r
  induction r with
  | zero => intro i _ j h1 h2; exact absurd h2 (by omega)
  | succ r ih =>
    intro i h j h1 h2
    unfold mtS at h
    split at h
    · cases h
    · rename_i hm
      split at h
      · cases h
      · rename_i hh he
        split at h
        · cases h
        · by_cases e : j = i
          · subst e
            exact ⟨hm, _, he⟩
          · exact ih h j (by omega) (by omega)
theorem rd_mt {p1 pF pM pA : Nat} (h : s_whole f n = .inr (E, p1, pF, pM, pA)) (hr : s_read f n = none) : mtS f n E (by2 f p1) (by2 f 6) (mbs f n (by2 f pM) (pM + 2)) (mbs f n (by2 f pM) (pM + 2)).length 0 = none := by
  unfold s_read at hr
  rw [h] at hr
  dsimp only at hr
  unfold s_chk at hr
  split at hr
  · cases hr
  · split at hr
    · cases hr
    · split at hr
      · cases hr
      · split at hr
        · cases hr
        · split at hr
          · cases hr
          · rename_i he
            exact he
/-- a method's code is well in the file -/
theorem code_in {p1 pF pM pA j : Nat} (h : s_whole f n = .inr (E, p1, pF, pM, pA)) (hr : s_read f n = none) (hm : s_mbs f n pM = .inr pA) (hj : j < (mbs f n (by2 f pM) (pM + 2)).length) : (mK f n E ((mbs f n (by2 f pM) (pM + 2)).getD j 0)).2.1 = 0 ∨ CIN f n (mK f n E ((mbs f n (by2 f pM) (pM + 2)).getD j 0)).2.1 := by
  obtain ⟨-, h9, hma⟩ := mtS_in (rd_mt h hr) j (Nat.zero_le _) (by omega)
  have hm2 : s_mems f n (by2 f pM) (pM + 2) = .inr pA := by
    unfold s_mbs at hm
    split at hm
    · cases hm
    · exact hm
  obtain ⟨-, e0, hat⟩ := (mbs_in hm2).2 j hj
  exact ma_in (K := (0, 0, 0)) hma hat
theorem mth_of {p1 pF pM pA j : Nat} (h : s_whole f n = .inr (E, p1, pF, pM, pA)) (hr : s_read f n = none) (hj : j < (mbs f n (by2 f pM) (pM + 2)).length) : ¬ mthN (tX f n E (by2 f ((mbs f n (by2 f pM) (pM + 2)).getD j 0 + 4))) = 0 := by
  obtain ⟨hm, -⟩ := mtS_in (rd_mt h hr) j (Nat.zero_le _) (by omega)
  intro h0
  unfold mhS at hm
  split at hm
  · cases hm
  · split at hm
    · cases hm
    · split at hm
      · cases hm
      · rename_i hd
        exact hd (by unfold mdsN; rw [if_pos (Or.inl h0)])
/-- what a field tells -/
def meF (f : Nat → Int32) (n : Nat) (E : List (Nat × Nat)) (b : Nat) : Nat → Int32
  | 0 => nI (by2 f b)
  | 1 => nI (by2 f (b + 2))
  | 2 => nI (by2 f (b + 4))
  | 3 => nI (fK f n E b).1
  | 4 => nI (fK f n E b).2
  | _ => 0
/-- what a method tells -/
def meM (f : Nat → Int32) (n : Nat) (E : List (Nat × Nat)) (b : Nat) : Nat → Int32
  | 0 => nI (by2 f b)
  | 1 => nI (by2 f (b + 2))
  | 2 => nI (by2 f (b + 4))
  | 3 => nI (mK f n E b).1
  | 4 => if (mK f n E b).2.1 = 0 then 0 else nI (by4 f ((mK f n E b).2.1 + 10))
  | 5 => if (mK f n E b).2.1 = 0 then 0 else nI (by2 f ((mK f n E b).2.1 + 6))
  | 6 => if (mK f n E b).2.1 = 0 then 0 else nI (by2 f ((mK f n E b).2.1 + 8))
  | 7 => if (mK f n E b).2.1 = 0 then 0 else nI (by2 f ((mK f n E b).2.1 + 14 + by4 f ((mK f n E b).2.1 + 10)))
  | 8 => nI (apN f n E b)
  | _ => nI (mK f n E b).2.2
theorem meM_4N {b : Nat} (h : (mK f n E b).2.1 = 0) : meM f n E b 4 = 0 := if_pos h
theorem meM_4C {b : Nat} (h : ¬ (mK f n E b).2.1 = 0) : meM f n E b 4 = nI (by4 f ((mK f n E b).2.1 + 10)) := if_neg h
theorem meM_5N {b : Nat} (h : (mK f n E b).2.1 = 0) : meM f n E b 5 = 0 := if_pos h
theorem meM_5C {b : Nat} (h : ¬ (mK f n E b).2.1 = 0) : meM f n E b 5 = nI (by2 f ((mK f n E b).2.1 + 6)) := if_neg h
theorem meM_6N {b : Nat} (h : (mK f n E b).2.1 = 0) : meM f n E b 6 = 0 := if_pos h
theorem meM_6C {b : Nat} (h : ¬ (mK f n E b).2.1 = 0) : meM f n E b 6 = nI (by2 f ((mK f n E b).2.1 + 8)) := if_neg h
theorem meM_7N {b : Nat} (h : (mK f n E b).2.1 = 0) : meM f n E b 7 = 0 := if_pos h
theorem meM_7C {b : Nat} (h : ¬ (mK f n E b).2.1 = 0) : meM f n E b 7 = nI (by2 f ((mK f n E b).2.1 + 14 + by4 f ((mK f n E b).2.1 + 10))) := if_neg h
def meI (B : List Nat) (g : Nat → Nat → Int32) (i w : Int32) : Int32 := if i < 0 ∨ nI B.length ≤ i then -1 else g (B.getD i.toNatClampNeg 0) w.toNatClampNeg
def meK (ko : Option (Nat × (Nat → Int32))) (t i w : Int32) : Int32 := match ko with
  | none => -1
  | some r => match s_whole r.2 r.1 with
    | .inl _ => -1
    | .inr x => if t = 0 then meI (mbs r.2 r.1 (by2 r.2 x.2.2.1) (x.2.2.1 + 2)) (meF r.2 r.1 x.1) i w else meI (mbs r.2 r.1 (by2 r.2 x.2.2.2.1) (x.2.2.2.1 + 2)) (meM r.2 r.1 x.1) i w
theorem meK_is {r : Nat × (Nat → Int32)} {t i w : Int32} {p1 pF pM pA : Nat} (h : s_whole r.2 r.1 = .inr (E, p1, pF, pM, pA)) : meK (some r) t i w = if t = 0 then meI (mbs r.2 r.1 (by2 r.2 pF) (pF + 2)) (meF r.2 r.1 E) i w else meI (mbs r.2 r.1 (by2 r.2 pM) (pM + 2)) (meM r.2 r.1 E) i w := by
  show (match s_whole r.2 r.1 with | .inl _ => -1 | .inr x => if t = 0 then meI (mbs r.2 r.1 (by2 r.2 x.2.2.1) (x.2.2.1 + 2)) (meF r.2 r.1 x.1) i w else meI (mbs r.2 r.1 (by2 r.2 x.2.2.2.1) (x.2.2.2.1 + 2)) (meM r.2 r.1 x.1) i w) = _
  rw [h]
/-- a row of a method's code -/
def roI (f : Nat → Int32) (cp : Nat) (r x : Int32) : Int32 := if cp = 0 then -1 else if r < 0 ∨ nI (by2 f (cp + 14 + by4 f (cp + 10))) ≤ r then -1 else nI (by2 f (cp + 14 + by4 f (cp + 10) + 2 + 8 * r.toNatClampNeg + 2 * x.toNatClampNeg))
def roK (ko : Option (Nat × (Nat → Int32))) (m r x : Int32) : Int32 := match ko with
  | none => -1
  | some k => match s_whole k.2 k.1 with
    | .inl _ => -1
    | .inr w => if m < 0 ∨ nI (mbs k.2 k.1 (by2 k.2 w.2.2.2.1) (w.2.2.2.1 + 2)).length ≤ m then -1 else roI k.2 (mK k.2 k.1 w.1 ((mbs k.2 k.1 (by2 k.2 w.2.2.2.1) (w.2.2.2.1 + 2)).getD m.toNatClampNeg 0)).2.1 r x
theorem roK_is {k : Nat × (Nat → Int32)} {m r x : Int32} {p1 pF pM pA : Nat} (h : s_whole k.2 k.1 = .inr (E, p1, pF, pM, pA)) : roK (some k) m r x = if m < 0 ∨ nI (mbs k.2 k.1 (by2 k.2 pM) (pM + 2)).length ≤ m then -1 else roI k.2 (mK k.2 k.1 E ((mbs k.2 k.1 (by2 k.2 pM) (pM + 2)).getD m.toNatClampNeg 0)).2.1 r x := by
  show (match s_whole k.2 k.1 with | .inl _ => -1 | .inr w => if m < 0 ∨ nI (mbs k.2 k.1 (by2 k.2 w.2.2.2.1) (w.2.2.2.1 + 2)).length ≤ m then -1 else roI k.2 (mK k.2 k.1 w.1 ((mbs k.2 k.1 (by2 k.2 w.2.2.2.1) (w.2.2.2.1 + 2)).getD m.toNatClampNeg 0)).2.1 r x) = _
  rw [h]
theorem i32_10 {w : Int32} (h0 : ¬ w < 0) (h1 : w ≤ 9) : w = nI w.toNatClampNeg ∧ w.toNatClampNeg < 10 := by
  have a := Int32.le_iff_toInt_le.mp h1
  have e : (9 : Int32).toInt = 9 := rfl
  have b := i32_to h0
  exact ⟨i32_nn h0, by omega⟩
theorem i32_4 {w : Int32} (h0 : ¬ w < 0) (h1 : w ≤ 3) : w = nI w.toNatClampNeg ∧ w.toNatClampNeg < 4 := by
  have a := Int32.le_iff_toInt_le.mp h1
  have e : (3 : Int32).toInt = 3 := rfl
  have b := i32_to h0
  exact ⟨i32_nn h0, by omega⟩
end MEA
set_option maxHeartbeats 1000000 in
theorem dk_memberAtNF {g : xe_G} {M : mi_H} {c b q fr mr l : Nat} {u2 u3 u4 u5 : Int32} {w : List Value} {R : Nat → Value} {t i : Int32} (h_c : M.1 c = some (ob 3 (.ref b :: .ref q :: .int u2 :: .int u3 :: .int u4 :: .int u5 :: .ref fr :: .ref mr :: w))) (h_fr : M.1 fr = some (ro "ClassGate$Member" l R)) (ht : t = 0) (hi : i < 0 ∨ nI l ≤ i) : pt (mT g) 72 [.ref c, .int t, .int i] M (fun v M' => (v = some (.null) ∧ M = M')) := by
  refine pt_in (b := mb_72 g) rfl (fun kf => ?_)
  show pl (mT g) kf (mb_72 g).2 (0, [(0, .ref c), (1, .int t), (2, .int i)], [], M) _
  refine ps_st (S' := (1, [(0, .ref c), (1, .int t), (2, .int i)], [.int t], M)) rfl rfl rfl ?_
  refine ps_if (S1 := (11, [(0, .ref c), (1, .int t), (2, .int i)], [], M)) (S2 := (4, [(0, .ref c), (1, .int t), (2, .int i)], [], M)) rfl rfl rfl (fun c_1 => ?_) (fun c_1 => ?_)
  rotate_left
  · exact absurd (ht) (of_decide_eq_false c_1)
  refine ps_st (S' := (12, [(0, .ref c), (1, .int t), (2, .int i)], [.ref c], M)) rfl rfl rfl ?_
  refine ps_get (S' := (15, [(2, .int i)], [.ref fr], M)) rfl h_c rfl rfl ?_
  refine ps_st (S' := (16, [(3, .ref fr), (2, .int i)], [], M)) rfl rfl rfl ?_
  refine ps_st (S' := (17, [(3, .ref fr), (2, .int i)], [.int i], M)) rfl rfl rfl ?_
  refine ps_if (S1 := (26, [], [], M)) (S2 := (20, [(3, .ref fr), (2, .int i)], [], M)) rfl rfl rfl (fun c_17 => ?_) (fun c_17 => ?_)
  · have c_17 : i < 0 := of_decide_eq_true c_17
    refine ps_st (S' := (27, [], [.null], M)) rfl rfl rfl ?_
    refine ps_st (S' := (33, [], [.null], M)) rfl rfl rfl ?_
    exact ps_ret rfl rfl (⟨rfl, rfl⟩)
  · have c_17 : ¬ (i < 0) := of_decide_eq_false c_17
    refine ps_st (S' := (21, [(3, .ref fr), (2, .int i)], [.int i], M)) rfl rfl rfl ?_
    refine ps_st (S' := (22, [(3, .ref fr), (2, .int i)], [.ref fr, .int i], M)) rfl rfl rfl ?_
    refine ps_aalen (S' := (23, [(3, .ref fr), (2, .int i)], [.int (nI l), .int i], M)) rfl h_fr rfl ?_
    refine ps_if2 (S1 := (30, [(3, .ref fr), (2, .int i)], [], M)) (S2 := (26, [], [], M)) rfl rfl rfl (fun c_23 => ?_) (fun c_23 => ?_)
    · exact absurd (of_decide_eq_true c_23) (Int32.not_lt.mpr (hi.resolve_left c_17))
    refine ps_st (S' := (27, [], [.null], M)) rfl rfl rfl ?_
    refine ps_st (S' := (33, [], [.null], M)) rfl rfl rfl ?_
    exact ps_ret rfl rfl (⟨rfl, rfl⟩)
set_option maxHeartbeats 1000000 in
theorem dk_memberAtF {g : xe_G} {M : mi_H} {c b q fr mr l : Nat} {u2 u3 u4 u5 : Int32} {w : List Value} {R : Nat → Value} {t : Int32} {k a : Nat} (h_c : M.1 c = some (ob 3 (.ref b :: .ref q :: .int u2 :: .int u3 :: .int u4 :: .int u5 :: .ref fr :: .ref mr :: w))) (h_fr : M.1 fr = some (ro "ClassGate$Member" l R)) (ht : t = 0) (hk : k < l) (hl : l < 65536) (hR : R k = .ref a) : pt (mT g) 72 [.ref c, .int t, .int (nI k)] M (fun v M' => (v = some (.ref a) ∧ M = M')) := by
  refine pt_in (b := mb_72 g) rfl (fun kf => ?_)
  show pl (mT g) kf (mb_72 g).2 (0, [(0, .ref c), (1, .int t), (2, .int (nI k))], [], M) _
  refine ps_st (S' := (1, [(0, .ref c), (1, .int t), (2, .int (nI k))], [.int t], M)) rfl rfl rfl ?_
  refine ps_if (S1 := (11, [(0, .ref c), (1, .int t), (2, .int (nI k))], [], M)) (S2 := (4, [(0, .ref c), (1, .int t), (2, .int (nI k))], [], M)) rfl rfl rfl (fun c_1 => ?_) (fun c_1 => ?_)
  rotate_left
  · exact absurd (ht) (of_decide_eq_false c_1)
  refine ps_st (S' := (12, [(0, .ref c), (1, .int t), (2, .int (nI k))], [.ref c], M)) rfl rfl rfl ?_
  refine ps_get (S' := (15, [(2, .int (nI k))], [.ref fr], M)) rfl h_c rfl rfl ?_
  refine ps_st (S' := (16, [(3, .ref fr), (2, .int (nI k))], [], M)) rfl rfl rfl ?_
  refine ps_st (S' := (17, [(3, .ref fr), (2, .int (nI k))], [.int (nI k)], M)) rfl rfl rfl ?_
  refine ps_if (S1 := (26, [], [], M)) (S2 := (20, [(3, .ref fr), (2, .int (nI k))], [], M)) rfl rfl rfl (fun c_17 => ?_) (fun c_17 => ?_)
  · exact absurd (of_decide_eq_true c_17) (nI_n0 (by omega))
  refine ps_st (S' := (21, [(3, .ref fr), (2, .int (nI k))], [.int (nI k)], M)) rfl rfl rfl ?_
  refine ps_st (S' := (22, [(3, .ref fr), (2, .int (nI k))], [.ref fr, .int (nI k)], M)) rfl rfl rfl ?_
  refine ps_aalen (S' := (23, [(3, .ref fr), (2, .int (nI k))], [.int (nI l), .int (nI k)], M)) rfl h_fr rfl ?_
  refine ps_if2 (S1 := (30, [(3, .ref fr), (2, .int (nI k))], [], M)) (S2 := (26, [], [], M)) rfl rfl rfl (fun c_23 => ?_) (fun c_23 => ?_)
  rotate_left
  · exact absurd ((lt_nI (p := k) (n := l) (by omega) (by omega)).mpr hk) (of_decide_eq_false c_23)
  refine ps_st (S' := (31, [(3, .ref fr), (2, .int (nI k))], [.ref fr], M)) rfl rfl rfl ?_
  refine ps_st (S' := (32, [(3, .ref fr), (2, .int (nI k))], [.int (nI k), .ref fr], M)) rfl rfl rfl ?_
  refine ps_aald (S' := (33, [], [.ref a], M)) rfl h_fr (⟨by omega, hR⟩) rfl ?_
  exact ps_ret rfl rfl (⟨rfl, rfl⟩)
set_option maxHeartbeats 1000000 in
theorem dk_memberAtNM {g : xe_G} {M : mi_H} {c b q fr mr l : Nat} {u2 u3 u4 u5 : Int32} {w : List Value} {R : Nat → Value} {t i : Int32} (h_c : M.1 c = some (ob 3 (.ref b :: .ref q :: .int u2 :: .int u3 :: .int u4 :: .int u5 :: .ref fr :: .ref mr :: w))) (h_mr : M.1 mr = some (ro "ClassGate$Member" l R)) (ht : ¬ t = 0) (hi : i < 0 ∨ nI l ≤ i) : pt (mT g) 72 [.ref c, .int t, .int i] M (fun v M' => (v = some (.null) ∧ M = M')) := by
  refine pt_in (b := mb_72 g) rfl (fun kf => ?_)
  show pl (mT g) kf (mb_72 g).2 (0, [(0, .ref c), (1, .int t), (2, .int i)], [], M) _
  refine ps_st (S' := (1, [(0, .ref c), (1, .int t), (2, .int i)], [.int t], M)) rfl rfl rfl ?_
  refine ps_if (S1 := (11, [(0, .ref c), (1, .int t), (2, .int i)], [], M)) (S2 := (4, [(0, .ref c), (1, .int t), (2, .int i)], [], M)) rfl rfl rfl (fun c_1 => ?_) (fun c_1 => ?_)
  · exact absurd (of_decide_eq_true c_1) (ht)
  refine ps_st (S' := (5, [(0, .ref c), (1, .int t), (2, .int i)], [.ref c], M)) rfl rfl rfl ?_
  refine ps_get (S' := (8, [(0, .ref c), (1, .int t), (2, .int i)], [.ref mr], M)) rfl h_c rfl rfl ?_
  refine ps_st (S' := (15, [(2, .int i)], [.ref mr], M)) rfl rfl rfl ?_
  refine ps_st (S' := (16, [(3, .ref mr), (2, .int i)], [], M)) rfl rfl rfl ?_
  refine ps_st (S' := (17, [(3, .ref mr), (2, .int i)], [.int i], M)) rfl rfl rfl ?_
  refine ps_if (S1 := (26, [], [], M)) (S2 := (20, [(3, .ref mr), (2, .int i)], [], M)) rfl rfl rfl (fun c_17 => ?_) (fun c_17 => ?_)
  · have c_17 : i < 0 := of_decide_eq_true c_17
    refine ps_st (S' := (27, [], [.null], M)) rfl rfl rfl ?_
    refine ps_st (S' := (33, [], [.null], M)) rfl rfl rfl ?_
    exact ps_ret rfl rfl (⟨rfl, rfl⟩)
  · have c_17 : ¬ (i < 0) := of_decide_eq_false c_17
    refine ps_st (S' := (21, [(3, .ref mr), (2, .int i)], [.int i], M)) rfl rfl rfl ?_
    refine ps_st (S' := (22, [(3, .ref mr), (2, .int i)], [.ref mr, .int i], M)) rfl rfl rfl ?_
    refine ps_aalen (S' := (23, [(3, .ref mr), (2, .int i)], [.int (nI l), .int i], M)) rfl h_mr rfl ?_
    refine ps_if2 (S1 := (30, [(3, .ref mr), (2, .int i)], [], M)) (S2 := (26, [], [], M)) rfl rfl rfl (fun c_23 => ?_) (fun c_23 => ?_)
    · exact absurd (of_decide_eq_true c_23) (Int32.not_lt.mpr (hi.resolve_left c_17))
    refine ps_st (S' := (27, [], [.null], M)) rfl rfl rfl ?_
    refine ps_st (S' := (33, [], [.null], M)) rfl rfl rfl ?_
    exact ps_ret rfl rfl (⟨rfl, rfl⟩)
set_option maxHeartbeats 1000000 in
theorem dk_memberAtM {g : xe_G} {M : mi_H} {c b q fr mr l : Nat} {u2 u3 u4 u5 : Int32} {w : List Value} {R : Nat → Value} {t : Int32} {k a : Nat} (h_c : M.1 c = some (ob 3 (.ref b :: .ref q :: .int u2 :: .int u3 :: .int u4 :: .int u5 :: .ref fr :: .ref mr :: w))) (h_mr : M.1 mr = some (ro "ClassGate$Member" l R)) (ht : ¬ t = 0) (hk : k < l) (hl : l < 65536) (hR : R k = .ref a) : pt (mT g) 72 [.ref c, .int t, .int (nI k)] M (fun v M' => (v = some (.ref a) ∧ M = M')) := by
  refine pt_in (b := mb_72 g) rfl (fun kf => ?_)
  show pl (mT g) kf (mb_72 g).2 (0, [(0, .ref c), (1, .int t), (2, .int (nI k))], [], M) _
  refine ps_st (S' := (1, [(0, .ref c), (1, .int t), (2, .int (nI k))], [.int t], M)) rfl rfl rfl ?_
  refine ps_if (S1 := (11, [(0, .ref c), (1, .int t), (2, .int (nI k))], [], M)) (S2 := (4, [(0, .ref c), (1, .int t), (2, .int (nI k))], [], M)) rfl rfl rfl (fun c_1 => ?_) (fun c_1 => ?_)
  · exact absurd (of_decide_eq_true c_1) (ht)
  refine ps_st (S' := (5, [(0, .ref c), (1, .int t), (2, .int (nI k))], [.ref c], M)) rfl rfl rfl ?_
  refine ps_get (S' := (8, [(0, .ref c), (1, .int t), (2, .int (nI k))], [.ref mr], M)) rfl h_c rfl rfl ?_
  refine ps_st (S' := (15, [(2, .int (nI k))], [.ref mr], M)) rfl rfl rfl ?_
  refine ps_st (S' := (16, [(3, .ref mr), (2, .int (nI k))], [], M)) rfl rfl rfl ?_
  refine ps_st (S' := (17, [(3, .ref mr), (2, .int (nI k))], [.int (nI k)], M)) rfl rfl rfl ?_
  refine ps_if (S1 := (26, [], [], M)) (S2 := (20, [(3, .ref mr), (2, .int (nI k))], [], M)) rfl rfl rfl (fun c_17 => ?_) (fun c_17 => ?_)
  · exact absurd (of_decide_eq_true c_17) (nI_n0 (by omega))
  refine ps_st (S' := (21, [(3, .ref mr), (2, .int (nI k))], [.int (nI k)], M)) rfl rfl rfl ?_
  refine ps_st (S' := (22, [(3, .ref mr), (2, .int (nI k))], [.ref mr, .int (nI k)], M)) rfl rfl rfl ?_
  refine ps_aalen (S' := (23, [(3, .ref mr), (2, .int (nI k))], [.int (nI l), .int (nI k)], M)) rfl h_mr rfl ?_
  refine ps_if2 (S1 := (30, [(3, .ref mr), (2, .int (nI k))], [], M)) (S2 := (26, [], [], M)) rfl rfl rfl (fun c_23 => ?_) (fun c_23 => ?_)
  rotate_left
  · exact absurd ((lt_nI (p := k) (n := l) (by omega) (by omega)).mpr hk) (of_decide_eq_false c_23)
  refine ps_st (S' := (31, [(3, .ref mr), (2, .int (nI k))], [.ref mr], M)) rfl rfl rfl ?_
  refine ps_st (S' := (32, [(3, .ref mr), (2, .int (nI k))], [.int (nI k), .ref mr], M)) rfl rfl rfl ?_
  refine ps_aald (S' := (33, [], [.ref a], M)) rfl h_mr (⟨by omega, hR⟩) rfl ?_
  exact ps_ret rfl rfl (⟨rfl, rfl⟩)
set_option maxHeartbeats 1000000 in
theorem dk_mnumF0 {g : xe_G} {M : mi_H} {a : Nat} {t m0 m1 m2 m3 m4 m5 m6 m7 m8 m9 : Int32} {mv : Value} (h_a : M.1 a = some (ob 6 [.int m0, .int m1, .int m2, .int m3, .int m4, .int m5, .int m6, .int m7, .int m8, .int m9, mv])) (ht : t = 0) : pt (mT g) 109 [.ref a, .int t, .int 0] M (fun v M' => (v = some (.int m1) ∧ M = M')) := by
  refine pt_in (b := mb_109 g) rfl (fun kf => ?_)
  show pl (mT g) kf (mb_109 g).2 (0, [(0, .ref a), (1, .int t), (2, .int 0)], [], M) _
  refine ps_st (S' := (1, [(0, .ref a), (1, .int t), (2, .int 0)], [.int 0], M)) rfl rfl rfl ?_
  refine ps_st (S' := (56, [(0, .ref a), (1, .int t), (2, .int 0)], [], M)) rfl rfl rfl ?_
  refine ps_st (S' := (57, [(0, .ref a), (1, .int t), (2, .int 0)], [.ref a], M)) rfl rfl rfl ?_
  refine ps_get (S' := (60, [(0, .ref a), (1, .int t), (2, .int 0)], [.int m1], M)) rfl h_a rfl rfl ?_
  exact ps_reti rfl (⟨rfl, rfl⟩)
set_option maxHeartbeats 1000000 in
theorem dk_mnumM0 {g : xe_G} {M : mi_H} {a : Nat} {t m0 m1 m2 m3 m4 m5 m6 m7 m8 m9 : Int32} {mv : Value} (h_a : M.1 a = some (ob 6 [.int m0, .int m1, .int m2, .int m3, .int m4, .int m5, .int m6, .int m7, .int m8, .int m9, mv])) (ht : ¬ t = 0) : pt (mT g) 109 [.ref a, .int t, .int 0] M (fun v M' => (v = some (.int m1) ∧ M = M')) := by
  refine pt_in (b := mb_109 g) rfl (fun kf => ?_)
  show pl (mT g) kf (mb_109 g).2 (0, [(0, .ref a), (1, .int t), (2, .int 0)], [], M) _
  refine ps_st (S' := (1, [(0, .ref a), (1, .int t), (2, .int 0)], [.int 0], M)) rfl rfl rfl ?_
  refine ps_st (S' := (56, [(0, .ref a), (1, .int t), (2, .int 0)], [], M)) rfl rfl rfl ?_
  refine ps_st (S' := (57, [(0, .ref a), (1, .int t), (2, .int 0)], [.ref a], M)) rfl rfl rfl ?_
  refine ps_get (S' := (60, [(0, .ref a), (1, .int t), (2, .int 0)], [.int m1], M)) rfl h_a rfl rfl ?_
  exact ps_reti rfl (⟨rfl, rfl⟩)
set_option maxHeartbeats 1000000 in
theorem dk_mnumF1 {g : xe_G} {M : mi_H} {a : Nat} {t m0 m1 m2 m3 m4 m5 m6 m7 m8 m9 : Int32} {mv : Value} (h_a : M.1 a = some (ob 6 [.int m0, .int m1, .int m2, .int m3, .int m4, .int m5, .int m6, .int m7, .int m8, .int m9, mv])) (ht : t = 0) : pt (mT g) 109 [.ref a, .int t, .int 1] M (fun v M' => (v = some (.int m2) ∧ M = M')) := by
  refine pt_in (b := mb_109 g) rfl (fun kf => ?_)
  show pl (mT g) kf (mb_109 g).2 (0, [(0, .ref a), (1, .int t), (2, .int 1)], [], M) _
  refine ps_st (S' := (1, [(0, .ref a), (1, .int t), (2, .int 1)], [.int 1], M)) rfl rfl rfl ?_
  refine ps_st (S' := (61, [(0, .ref a), (1, .int t), (2, .int 1)], [], M)) rfl rfl rfl ?_
  refine ps_st (S' := (62, [(0, .ref a), (1, .int t), (2, .int 1)], [.ref a], M)) rfl rfl rfl ?_
  refine ps_get (S' := (65, [(0, .ref a), (1, .int t), (2, .int 1)], [.int m2], M)) rfl h_a rfl rfl ?_
  exact ps_reti rfl (⟨rfl, rfl⟩)
set_option maxHeartbeats 1000000 in
theorem dk_mnumM1 {g : xe_G} {M : mi_H} {a : Nat} {t m0 m1 m2 m3 m4 m5 m6 m7 m8 m9 : Int32} {mv : Value} (h_a : M.1 a = some (ob 6 [.int m0, .int m1, .int m2, .int m3, .int m4, .int m5, .int m6, .int m7, .int m8, .int m9, mv])) (ht : ¬ t = 0) : pt (mT g) 109 [.ref a, .int t, .int 1] M (fun v M' => (v = some (.int m2) ∧ M = M')) := by
  refine pt_in (b := mb_109 g) rfl (fun kf => ?_)
  show pl (mT g) kf (mb_109 g).2 (0, [(0, .ref a), (1, .int t), (2, .int 1)], [], M) _
  refine ps_st (S' := (1, [(0, .ref a), (1, .int t), (2, .int 1)], [.int 1], M)) rfl rfl rfl ?_
  refine ps_st (S' := (61, [(0, .ref a), (1, .int t), (2, .int 1)], [], M)) rfl rfl rfl ?_
  refine ps_st (S' := (62, [(0, .ref a), (1, .int t), (2, .int 1)], [.ref a], M)) rfl rfl rfl ?_
  refine ps_get (S' := (65, [(0, .ref a), (1, .int t), (2, .int 1)], [.int m2], M)) rfl h_a rfl rfl ?_
  exact ps_reti rfl (⟨rfl, rfl⟩)
set_option maxHeartbeats 1000000 in
theorem dk_mnumF2 {g : xe_G} {M : mi_H} {a : Nat} {t m0 m1 m2 m3 m4 m5 m6 m7 m8 m9 : Int32} {mv : Value} (h_a : M.1 a = some (ob 6 [.int m0, .int m1, .int m2, .int m3, .int m4, .int m5, .int m6, .int m7, .int m8, .int m9, mv])) (ht : t = 0) : pt (mT g) 109 [.ref a, .int t, .int 2] M (fun v M' => (v = some (.int m3) ∧ M = M')) := by
  refine pt_in (b := mb_109 g) rfl (fun kf => ?_)
  show pl (mT g) kf (mb_109 g).2 (0, [(0, .ref a), (1, .int t), (2, .int 2)], [], M) _
  refine ps_st (S' := (1, [(0, .ref a), (1, .int t), (2, .int 2)], [.int 2], M)) rfl rfl rfl ?_
  refine ps_st (S' := (66, [(0, .ref a), (1, .int t), (2, .int 2)], [], M)) rfl rfl rfl ?_
  refine ps_st (S' := (67, [(0, .ref a), (1, .int t), (2, .int 2)], [.ref a], M)) rfl rfl rfl ?_
  refine ps_get (S' := (70, [(0, .ref a), (1, .int t), (2, .int 2)], [.int m3], M)) rfl h_a rfl rfl ?_
  exact ps_reti rfl (⟨rfl, rfl⟩)
set_option maxHeartbeats 1000000 in
theorem dk_mnumM2 {g : xe_G} {M : mi_H} {a : Nat} {t m0 m1 m2 m3 m4 m5 m6 m7 m8 m9 : Int32} {mv : Value} (h_a : M.1 a = some (ob 6 [.int m0, .int m1, .int m2, .int m3, .int m4, .int m5, .int m6, .int m7, .int m8, .int m9, mv])) (ht : ¬ t = 0) : pt (mT g) 109 [.ref a, .int t, .int 2] M (fun v M' => (v = some (.int m3) ∧ M = M')) := by
  refine pt_in (b := mb_109 g) rfl (fun kf => ?_)
  show pl (mT g) kf (mb_109 g).2 (0, [(0, .ref a), (1, .int t), (2, .int 2)], [], M) _
  refine ps_st (S' := (1, [(0, .ref a), (1, .int t), (2, .int 2)], [.int 2], M)) rfl rfl rfl ?_
  refine ps_st (S' := (66, [(0, .ref a), (1, .int t), (2, .int 2)], [], M)) rfl rfl rfl ?_
  refine ps_st (S' := (67, [(0, .ref a), (1, .int t), (2, .int 2)], [.ref a], M)) rfl rfl rfl ?_
  refine ps_get (S' := (70, [(0, .ref a), (1, .int t), (2, .int 2)], [.int m3], M)) rfl h_a rfl rfl ?_
  exact ps_reti rfl (⟨rfl, rfl⟩)
set_option maxHeartbeats 1000000 in
theorem dk_mnumF3 {g : xe_G} {M : mi_H} {a : Nat} {t m0 m1 m2 m3 m4 m5 m6 m7 m8 m9 : Int32} {mv : Value} (h_a : M.1 a = some (ob 6 [.int m0, .int m1, .int m2, .int m3, .int m4, .int m5, .int m6, .int m7, .int m8, .int m9, mv])) (ht : t = 0) : pt (mT g) 109 [.ref a, .int t, .int 3] M (fun v M' => (v = some (.int m6) ∧ M = M')) := by
  refine pt_in (b := mb_109 g) rfl (fun kf => ?_)
  show pl (mT g) kf (mb_109 g).2 (0, [(0, .ref a), (1, .int t), (2, .int 3)], [], M) _
  refine ps_st (S' := (1, [(0, .ref a), (1, .int t), (2, .int 3)], [.int 3], M)) rfl rfl rfl ?_
  refine ps_st (S' := (71, [(0, .ref a), (1, .int t), (2, .int 3)], [], M)) rfl rfl rfl ?_
  refine ps_st (S' := (72, [(0, .ref a), (1, .int t), (2, .int 3)], [.ref a], M)) rfl rfl rfl ?_
  refine ps_get (S' := (75, [(0, .ref a), (1, .int t), (2, .int 3)], [.int m6], M)) rfl h_a rfl rfl ?_
  exact ps_reti rfl (⟨rfl, rfl⟩)
set_option maxHeartbeats 1000000 in
theorem dk_mnumM3 {g : xe_G} {M : mi_H} {a : Nat} {t m0 m1 m2 m3 m4 m5 m6 m7 m8 m9 : Int32} {mv : Value} (h_a : M.1 a = some (ob 6 [.int m0, .int m1, .int m2, .int m3, .int m4, .int m5, .int m6, .int m7, .int m8, .int m9, mv])) (ht : ¬ t = 0) : pt (mT g) 109 [.ref a, .int t, .int 3] M (fun v M' => (v = some (.int m6) ∧ M = M')) := by
  refine pt_in (b := mb_109 g) rfl (fun kf => ?_)
  show pl (mT g) kf (mb_109 g).2 (0, [(0, .ref a), (1, .int t), (2, .int 3)], [], M) _
  refine ps_st (S' := (1, [(0, .ref a), (1, .int t), (2, .int 3)], [.int 3], M)) rfl rfl rfl ?_
  refine ps_st (S' := (71, [(0, .ref a), (1, .int t), (2, .int 3)], [], M)) rfl rfl rfl ?_
  refine ps_st (S' := (72, [(0, .ref a), (1, .int t), (2, .int 3)], [.ref a], M)) rfl rfl rfl ?_
  refine ps_get (S' := (75, [(0, .ref a), (1, .int t), (2, .int 3)], [.int m6], M)) rfl h_a rfl rfl ?_
  exact ps_reti rfl (⟨rfl, rfl⟩)
set_option maxHeartbeats 1000000 in
theorem dk_mnumF4 {g : xe_G} {M : mi_H} {a : Nat} {t m0 m1 m2 m3 m4 m5 m6 m7 m8 m9 : Int32} {mv : Value} (h_a : M.1 a = some (ob 6 [.int m0, .int m1, .int m2, .int m3, .int m4, .int m5, .int m6, .int m7, .int m8, .int m9, mv])) (ht : t = 0) : pt (mT g) 109 [.ref a, .int t, .int 4] M (fun v M' => (v = some (.int m7) ∧ M = M')) := by
  refine pt_in (b := mb_109 g) rfl (fun kf => ?_)
  show pl (mT g) kf (mb_109 g).2 (0, [(0, .ref a), (1, .int t), (2, .int 4)], [], M) _
  refine ps_st (S' := (1, [(0, .ref a), (1, .int t), (2, .int 4)], [.int 4], M)) rfl rfl rfl ?_
  refine ps_st (S' := (86, [(0, .ref a), (1, .int t), (2, .int 4)], [], M)) rfl rfl rfl ?_
  refine ps_st (S' := (87, [(0, .ref a), (1, .int t), (2, .int 4)], [.int t], M)) rfl rfl rfl ?_
  refine ps_if (S1 := (98, [(0, .ref a), (1, .int t), (2, .int 4)], [], M)) (S2 := (90, [(0, .ref a), (1, .int t), (2, .int 4)], [], M)) rfl rfl rfl (fun c_87 => ?_) (fun c_87 => ?_)
  rotate_left
  · exact absurd (ht) (of_decide_eq_false c_87)
  refine ps_st (S' := (99, [(0, .ref a), (1, .int t), (2, .int 4)], [.int 4], M)) rfl rfl rfl ?_
  refine ps_st (S' := (100, [(0, .ref a), (1, .int t), (2, .int 4)], [.int 4, .int 4], M)) rfl rfl rfl ?_
  refine ps_if2 (S1 := (110, [(0, .ref a), (1, .int t), (2, .int 4)], [], M)) (S2 := (103, [(0, .ref a), (1, .int t), (2, .int 4)], [], M)) rfl rfl rfl (fun c_100 => ?_) (fun c_100 => ?_)
  · exact absurd (of_decide_eq_true c_100) (by decide)
  refine ps_st (S' := (104, [(0, .ref a), (1, .int t), (2, .int 4)], [.ref a], M)) rfl rfl rfl ?_
  refine ps_get (S' := (107, [(0, .ref a), (1, .int t), (2, .int 4)], [.int m7], M)) rfl h_a rfl rfl ?_
  refine ps_st (S' := (111, [], [.int m7], M)) rfl rfl rfl ?_
  exact ps_reti rfl (⟨rfl, rfl⟩)
set_option maxHeartbeats 1000000 in
theorem dk_cnumN4 {g : xe_G} {M : mi_H} {a : Nat} {m0 m1 m2 m3 m4 m5 m6 m7 m8 m9 : Int32} (h_a : M.1 a = some (ob 6 [.int m0, .int m1, .int m2, .int m3, .int m4, .int m5, .int m6, .int m7, .int m8, .int m9, .null]))  : pt (mT g) 107 [.ref a, .int 4] M (fun v M' => (v = some (.int 0) ∧ M = M')) := by
  refine pt_in (b := mb_107 g) rfl (fun kf => ?_)
  show pl (mT g) kf (mb_107 g).2 (0, [(0, .ref a), (1, .int 4)], [], M) _
  refine ps_st (S' := (1, [(0, .ref a), (1, .int 4)], [.ref a], M)) rfl rfl rfl ?_
  refine ps_get (S' := (4, [(0, .ref a), (1, .int 4)], [.null], M)) rfl h_a rfl rfl ?_
  refine ps_st (S' := (7, [(0, .ref a), (1, .int 4)], [], M)) rfl rfl rfl ?_
  refine ps_st (S' := (8, [(0, .ref a), (1, .int 4)], [.int 0], M)) rfl rfl rfl ?_
  exact ps_ret rfl rfl (⟨rfl, rfl⟩)
set_option maxHeartbeats 1000000 in
theorem dk_cnumC4 {g : xe_G} {M : mi_H} {a : Nat} {m0 m1 m2 m3 m4 m5 m6 m7 m8 m9 : Int32} {z : Nat} {c0 c1 c2 c3 c4 : Int32} {v5 v6 v7 v8 v9 v10 : Value} (h_a : M.1 a = some (ob 6 [.int m0, .int m1, .int m2, .int m3, .int m4, .int m5, .int m6, .int m7, .int m8, .int m9, .ref z])) (h_z : M.1 z = some (ob 4 [.int c0, .int c1, .int c2, .int c3, .int c4, v5, v6, v7, v8, v9, v10]))  : pt (mT g) 107 [.ref a, .int 4] M (fun v M' => (v = some (.int c2) ∧ M = M')) := by
  refine pt_in (b := mb_107 g) rfl (fun kf => ?_)
  show pl (mT g) kf (mb_107 g).2 (0, [(0, .ref a), (1, .int 4)], [], M) _
  refine ps_st (S' := (1, [(0, .ref a), (1, .int 4)], [.ref a], M)) rfl rfl rfl ?_
  refine ps_get (S' := (4, [(0, .ref a), (1, .int 4)], [.ref z], M)) rfl h_a rfl rfl ?_
  refine ps_st (S' := (9, [(0, .ref a), (1, .int 4)], [], M)) rfl rfl rfl ?_
  refine ps_st (S' := (10, [(0, .ref a), (1, .int 4)], [.int 4], M)) rfl rfl rfl ?_
  refine ps_st (S' := (36, [(0, .ref a), (1, .int 4)], [], M)) rfl rfl rfl ?_
  refine ps_st (S' := (37, [(0, .ref a), (1, .int 4)], [.ref a], M)) rfl rfl rfl ?_
  refine ps_get (S' := (40, [(0, .ref a), (1, .int 4)], [.ref z], M)) rfl h_a rfl rfl ?_
  refine ps_get (S' := (43, [(0, .ref a), (1, .int 4)], [.int c2], M)) rfl h_z rfl rfl ?_
  exact ps_reti rfl (⟨rfl, rfl⟩)
set_option maxHeartbeats 1000000 in
theorem dk_mnumM4N {g : xe_G} {M : mi_H} {a : Nat} {t m0 m1 m2 m3 m4 m5 m6 m7 m8 m9 : Int32} (h_a : M.1 a = some (ob 6 [.int m0, .int m1, .int m2, .int m3, .int m4, .int m5, .int m6, .int m7, .int m8, .int m9, .null])) (ht : ¬ t = 0) : pt (mT g) 109 [.ref a, .int t, .int 4] M (fun v M' => (v = some (.int 0) ∧ M = M')) := by
  refine pt_in (b := mb_109 g) rfl (fun kf => ?_)
  show pl (mT g) kf (mb_109 g).2 (0, [(0, .ref a), (1, .int t), (2, .int 4)], [], M) _
  refine ps_st (S' := (1, [(0, .ref a), (1, .int t), (2, .int 4)], [.int 4], M)) rfl rfl rfl ?_
  refine ps_st (S' := (86, [(0, .ref a), (1, .int t), (2, .int 4)], [], M)) rfl rfl rfl ?_
  refine ps_st (S' := (87, [(0, .ref a), (1, .int t), (2, .int 4)], [.int t], M)) rfl rfl rfl ?_
  refine ps_if (S1 := (98, [(0, .ref a), (1, .int t), (2, .int 4)], [], M)) (S2 := (90, [(0, .ref a), (1, .int t), (2, .int 4)], [], M)) rfl rfl rfl (fun c_87 => ?_) (fun c_87 => ?_)
  · exact absurd (of_decide_eq_true c_87) (ht)
  refine ps_st (S' := (91, [(0, .ref a), (1, .int t), (2, .int 4)], [.ref a], M)) rfl rfl rfl ?_
  refine ps_st (S' := (92, [(0, .ref a), (1, .int t), (2, .int 4)], [.int 4, .ref a], M)) rfl rfl rfl ?_
  refine pl_call (a := [.ref a, .int 4]) (rest := []) rfl rfl rfl (dk_cnumN4 (a := a) (m0 := m0) (m1 := m1) (m2 := m2) (m3 := m3) (m4 := m4) (m5 := m5) (m6 := m6) (m7 := m7) (m8 := m8) (m9 := m9) h_a) (fun v1 M2 q3 => ?_)
  obtain ⟨rfl, rfl⟩ := q3
  show pl _ _ _ (95, [(0, .ref a), (1, .int t), (2, .int 4)], [.int 0], M) _
  refine ps_st (S' := (111, [], [.int 0], M)) rfl rfl rfl ?_
  exact ps_ret rfl rfl (⟨rfl, rfl⟩)
set_option maxHeartbeats 1000000 in
theorem dk_mnumM4C {g : xe_G} {M : mi_H} {a : Nat} {t m0 m1 m2 m3 m4 m5 m6 m7 m8 m9 : Int32} {z : Nat} {c0 c1 c2 c3 c4 : Int32} {v5 v6 v7 v8 v9 v10 : Value} (h_a : M.1 a = some (ob 6 [.int m0, .int m1, .int m2, .int m3, .int m4, .int m5, .int m6, .int m7, .int m8, .int m9, .ref z])) (h_z : M.1 z = some (ob 4 [.int c0, .int c1, .int c2, .int c3, .int c4, v5, v6, v7, v8, v9, v10])) (ht : ¬ t = 0) : pt (mT g) 109 [.ref a, .int t, .int 4] M (fun v M' => (v = some (.int c2) ∧ M = M')) := by
  refine pt_in (b := mb_109 g) rfl (fun kf => ?_)
  show pl (mT g) kf (mb_109 g).2 (0, [(0, .ref a), (1, .int t), (2, .int 4)], [], M) _
  refine ps_st (S' := (1, [(0, .ref a), (1, .int t), (2, .int 4)], [.int 4], M)) rfl rfl rfl ?_
  refine ps_st (S' := (86, [(0, .ref a), (1, .int t), (2, .int 4)], [], M)) rfl rfl rfl ?_
  refine ps_st (S' := (87, [(0, .ref a), (1, .int t), (2, .int 4)], [.int t], M)) rfl rfl rfl ?_
  refine ps_if (S1 := (98, [(0, .ref a), (1, .int t), (2, .int 4)], [], M)) (S2 := (90, [(0, .ref a), (1, .int t), (2, .int 4)], [], M)) rfl rfl rfl (fun c_87 => ?_) (fun c_87 => ?_)
  · exact absurd (of_decide_eq_true c_87) (ht)
  refine ps_st (S' := (91, [(0, .ref a), (1, .int t), (2, .int 4)], [.ref a], M)) rfl rfl rfl ?_
  refine ps_st (S' := (92, [(0, .ref a), (1, .int t), (2, .int 4)], [.int 4, .ref a], M)) rfl rfl rfl ?_
  refine pl_call (a := [.ref a, .int 4]) (rest := []) rfl rfl rfl (dk_cnumC4 (a := a) (m0 := m0) (m1 := m1) (m2 := m2) (m3 := m3) (m4 := m4) (m5 := m5) (m6 := m6) (m7 := m7) (m8 := m8) (m9 := m9) (z := z) (c0 := c0) (c1 := c1) (c2 := c2) (c3 := c3) (c4 := c4) (v5 := v5) (v6 := v6) (v7 := v7) (v8 := v8) (v9 := v9) (v10 := v10) h_a h_z) (fun v1 M2 q3 => ?_)
  obtain ⟨rfl, rfl⟩ := q3
  show pl _ _ _ (95, [(0, .ref a), (1, .int t), (2, .int 4)], [.int c2], M) _
  refine ps_st (S' := (111, [], [.int c2], M)) rfl rfl rfl ?_
  exact ps_reti rfl (⟨rfl, rfl⟩)
set_option maxHeartbeats 1000000 in
theorem dk_mnumF5 {g : xe_G} {M : mi_H} {a : Nat} {t m0 m1 m2 m3 m4 m5 m6 m7 m8 m9 : Int32} {mv : Value} (h_a : M.1 a = some (ob 6 [.int m0, .int m1, .int m2, .int m3, .int m4, .int m5, .int m6, .int m7, .int m8, .int m9, mv])) (ht : t = 0) : pt (mT g) 109 [.ref a, .int t, .int 5] M (fun v M' => (v = some (.int 0) ∧ M = M')) := by
  refine pt_in (b := mb_109 g) rfl (fun kf => ?_)
  show pl (mT g) kf (mb_109 g).2 (0, [(0, .ref a), (1, .int t), (2, .int 5)], [], M) _
  refine ps_st (S' := (1, [(0, .ref a), (1, .int t), (2, .int 5)], [.int 5], M)) rfl rfl rfl ?_
  refine ps_st (S' := (86, [(0, .ref a), (1, .int t), (2, .int 5)], [], M)) rfl rfl rfl ?_
  refine ps_st (S' := (87, [(0, .ref a), (1, .int t), (2, .int 5)], [.int t], M)) rfl rfl rfl ?_
  refine ps_if (S1 := (98, [(0, .ref a), (1, .int t), (2, .int 5)], [], M)) (S2 := (90, [(0, .ref a), (1, .int t), (2, .int 5)], [], M)) rfl rfl rfl (fun c_87 => ?_) (fun c_87 => ?_)
  rotate_left
  · exact absurd (ht) (of_decide_eq_false c_87)
  refine ps_st (S' := (99, [(0, .ref a), (1, .int t), (2, .int 5)], [.int 5], M)) rfl rfl rfl ?_
  refine ps_st (S' := (100, [(0, .ref a), (1, .int t), (2, .int 5)], [.int 4, .int 5], M)) rfl rfl rfl ?_
  refine ps_if2 (S1 := (110, [(0, .ref a), (1, .int t), (2, .int 5)], [], M)) (S2 := (103, [(0, .ref a), (1, .int t), (2, .int 5)], [], M)) rfl rfl rfl (fun c_100 => ?_) (fun c_100 => ?_)
  rotate_left
  · exact absurd (by decide) (of_decide_eq_false c_100)
  refine ps_st (S' := (111, [], [.int 0], M)) rfl rfl rfl ?_
  exact ps_ret rfl rfl (⟨rfl, rfl⟩)
set_option maxHeartbeats 1000000 in
theorem dk_cnumN5 {g : xe_G} {M : mi_H} {a : Nat} {m0 m1 m2 m3 m4 m5 m6 m7 m8 m9 : Int32} (h_a : M.1 a = some (ob 6 [.int m0, .int m1, .int m2, .int m3, .int m4, .int m5, .int m6, .int m7, .int m8, .int m9, .null]))  : pt (mT g) 107 [.ref a, .int 5] M (fun v M' => (v = some (.int 0) ∧ M = M')) := by
  refine pt_in (b := mb_107 g) rfl (fun kf => ?_)
  show pl (mT g) kf (mb_107 g).2 (0, [(0, .ref a), (1, .int 5)], [], M) _
  refine ps_st (S' := (1, [(0, .ref a), (1, .int 5)], [.ref a], M)) rfl rfl rfl ?_
  refine ps_get (S' := (4, [(0, .ref a), (1, .int 5)], [.null], M)) rfl h_a rfl rfl ?_
  refine ps_st (S' := (7, [(0, .ref a), (1, .int 5)], [], M)) rfl rfl rfl ?_
  refine ps_st (S' := (8, [(0, .ref a), (1, .int 5)], [.int 0], M)) rfl rfl rfl ?_
  exact ps_ret rfl rfl (⟨rfl, rfl⟩)
set_option maxHeartbeats 1000000 in
theorem dk_cnumC5 {g : xe_G} {M : mi_H} {a : Nat} {m0 m1 m2 m3 m4 m5 m6 m7 m8 m9 : Int32} {z : Nat} {c0 c1 c2 c3 c4 : Int32} {v5 v6 v7 v8 v9 v10 : Value} (h_a : M.1 a = some (ob 6 [.int m0, .int m1, .int m2, .int m3, .int m4, .int m5, .int m6, .int m7, .int m8, .int m9, .ref z])) (h_z : M.1 z = some (ob 4 [.int c0, .int c1, .int c2, .int c3, .int c4, v5, v6, v7, v8, v9, v10]))  : pt (mT g) 107 [.ref a, .int 5] M (fun v M' => (v = some (.int c0) ∧ M = M')) := by
  refine pt_in (b := mb_107 g) rfl (fun kf => ?_)
  show pl (mT g) kf (mb_107 g).2 (0, [(0, .ref a), (1, .int 5)], [], M) _
  refine ps_st (S' := (1, [(0, .ref a), (1, .int 5)], [.ref a], M)) rfl rfl rfl ?_
  refine ps_get (S' := (4, [(0, .ref a), (1, .int 5)], [.ref z], M)) rfl h_a rfl rfl ?_
  refine ps_st (S' := (9, [(0, .ref a), (1, .int 5)], [], M)) rfl rfl rfl ?_
  refine ps_st (S' := (10, [(0, .ref a), (1, .int 5)], [.int 5], M)) rfl rfl rfl ?_
  refine ps_st (S' := (44, [(0, .ref a), (1, .int 5)], [], M)) rfl rfl rfl ?_
  refine ps_st (S' := (45, [(0, .ref a), (1, .int 5)], [.ref a], M)) rfl rfl rfl ?_
  refine ps_get (S' := (48, [(0, .ref a), (1, .int 5)], [.ref z], M)) rfl h_a rfl rfl ?_
  refine ps_get (S' := (51, [(0, .ref a), (1, .int 5)], [.int c0], M)) rfl h_z rfl rfl ?_
  exact ps_reti rfl (⟨rfl, rfl⟩)
set_option maxHeartbeats 1000000 in
theorem dk_mnumM5N {g : xe_G} {M : mi_H} {a : Nat} {t m0 m1 m2 m3 m4 m5 m6 m7 m8 m9 : Int32} (h_a : M.1 a = some (ob 6 [.int m0, .int m1, .int m2, .int m3, .int m4, .int m5, .int m6, .int m7, .int m8, .int m9, .null])) (ht : ¬ t = 0) : pt (mT g) 109 [.ref a, .int t, .int 5] M (fun v M' => (v = some (.int 0) ∧ M = M')) := by
  refine pt_in (b := mb_109 g) rfl (fun kf => ?_)
  show pl (mT g) kf (mb_109 g).2 (0, [(0, .ref a), (1, .int t), (2, .int 5)], [], M) _
  refine ps_st (S' := (1, [(0, .ref a), (1, .int t), (2, .int 5)], [.int 5], M)) rfl rfl rfl ?_
  refine ps_st (S' := (86, [(0, .ref a), (1, .int t), (2, .int 5)], [], M)) rfl rfl rfl ?_
  refine ps_st (S' := (87, [(0, .ref a), (1, .int t), (2, .int 5)], [.int t], M)) rfl rfl rfl ?_
  refine ps_if (S1 := (98, [(0, .ref a), (1, .int t), (2, .int 5)], [], M)) (S2 := (90, [(0, .ref a), (1, .int t), (2, .int 5)], [], M)) rfl rfl rfl (fun c_87 => ?_) (fun c_87 => ?_)
  · exact absurd (of_decide_eq_true c_87) (ht)
  refine ps_st (S' := (91, [(0, .ref a), (1, .int t), (2, .int 5)], [.ref a], M)) rfl rfl rfl ?_
  refine ps_st (S' := (92, [(0, .ref a), (1, .int t), (2, .int 5)], [.int 5, .ref a], M)) rfl rfl rfl ?_
  refine pl_call (a := [.ref a, .int 5]) (rest := []) rfl rfl rfl (dk_cnumN5 (a := a) (m0 := m0) (m1 := m1) (m2 := m2) (m3 := m3) (m4 := m4) (m5 := m5) (m6 := m6) (m7 := m7) (m8 := m8) (m9 := m9) h_a) (fun v1 M2 q3 => ?_)
  obtain ⟨rfl, rfl⟩ := q3
  show pl _ _ _ (95, [(0, .ref a), (1, .int t), (2, .int 5)], [.int 0], M) _
  refine ps_st (S' := (111, [], [.int 0], M)) rfl rfl rfl ?_
  exact ps_ret rfl rfl (⟨rfl, rfl⟩)
set_option maxHeartbeats 1000000 in
theorem dk_mnumM5C {g : xe_G} {M : mi_H} {a : Nat} {t m0 m1 m2 m3 m4 m5 m6 m7 m8 m9 : Int32} {z : Nat} {c0 c1 c2 c3 c4 : Int32} {v5 v6 v7 v8 v9 v10 : Value} (h_a : M.1 a = some (ob 6 [.int m0, .int m1, .int m2, .int m3, .int m4, .int m5, .int m6, .int m7, .int m8, .int m9, .ref z])) (h_z : M.1 z = some (ob 4 [.int c0, .int c1, .int c2, .int c3, .int c4, v5, v6, v7, v8, v9, v10])) (ht : ¬ t = 0) : pt (mT g) 109 [.ref a, .int t, .int 5] M (fun v M' => (v = some (.int c0) ∧ M = M')) := by
  refine pt_in (b := mb_109 g) rfl (fun kf => ?_)
  show pl (mT g) kf (mb_109 g).2 (0, [(0, .ref a), (1, .int t), (2, .int 5)], [], M) _
  refine ps_st (S' := (1, [(0, .ref a), (1, .int t), (2, .int 5)], [.int 5], M)) rfl rfl rfl ?_
  refine ps_st (S' := (86, [(0, .ref a), (1, .int t), (2, .int 5)], [], M)) rfl rfl rfl ?_
  refine ps_st (S' := (87, [(0, .ref a), (1, .int t), (2, .int 5)], [.int t], M)) rfl rfl rfl ?_
  refine ps_if (S1 := (98, [(0, .ref a), (1, .int t), (2, .int 5)], [], M)) (S2 := (90, [(0, .ref a), (1, .int t), (2, .int 5)], [], M)) rfl rfl rfl (fun c_87 => ?_) (fun c_87 => ?_)
  · exact absurd (of_decide_eq_true c_87) (ht)
  refine ps_st (S' := (91, [(0, .ref a), (1, .int t), (2, .int 5)], [.ref a], M)) rfl rfl rfl ?_
  refine ps_st (S' := (92, [(0, .ref a), (1, .int t), (2, .int 5)], [.int 5, .ref a], M)) rfl rfl rfl ?_
  refine pl_call (a := [.ref a, .int 5]) (rest := []) rfl rfl rfl (dk_cnumC5 (a := a) (m0 := m0) (m1 := m1) (m2 := m2) (m3 := m3) (m4 := m4) (m5 := m5) (m6 := m6) (m7 := m7) (m8 := m8) (m9 := m9) (z := z) (c0 := c0) (c1 := c1) (c2 := c2) (c3 := c3) (c4 := c4) (v5 := v5) (v6 := v6) (v7 := v7) (v8 := v8) (v9 := v9) (v10 := v10) h_a h_z) (fun v1 M2 q3 => ?_)
  obtain ⟨rfl, rfl⟩ := q3
  show pl _ _ _ (95, [(0, .ref a), (1, .int t), (2, .int 5)], [.int c0], M) _
  refine ps_st (S' := (111, [], [.int c0], M)) rfl rfl rfl ?_
  exact ps_reti rfl (⟨rfl, rfl⟩)
set_option maxHeartbeats 1000000 in
theorem dk_mnumF6 {g : xe_G} {M : mi_H} {a : Nat} {t m0 m1 m2 m3 m4 m5 m6 m7 m8 m9 : Int32} {mv : Value} (h_a : M.1 a = some (ob 6 [.int m0, .int m1, .int m2, .int m3, .int m4, .int m5, .int m6, .int m7, .int m8, .int m9, mv])) (ht : t = 0) : pt (mT g) 109 [.ref a, .int t, .int 6] M (fun v M' => (v = some (.int 0) ∧ M = M')) := by
  refine pt_in (b := mb_109 g) rfl (fun kf => ?_)
  show pl (mT g) kf (mb_109 g).2 (0, [(0, .ref a), (1, .int t), (2, .int 6)], [], M) _
  refine ps_st (S' := (1, [(0, .ref a), (1, .int t), (2, .int 6)], [.int 6], M)) rfl rfl rfl ?_
  refine ps_st (S' := (86, [(0, .ref a), (1, .int t), (2, .int 6)], [], M)) rfl rfl rfl ?_
  refine ps_st (S' := (87, [(0, .ref a), (1, .int t), (2, .int 6)], [.int t], M)) rfl rfl rfl ?_
  refine ps_if (S1 := (98, [(0, .ref a), (1, .int t), (2, .int 6)], [], M)) (S2 := (90, [(0, .ref a), (1, .int t), (2, .int 6)], [], M)) rfl rfl rfl (fun c_87 => ?_) (fun c_87 => ?_)
  rotate_left
  · exact absurd (ht) (of_decide_eq_false c_87)
  refine ps_st (S' := (99, [(0, .ref a), (1, .int t), (2, .int 6)], [.int 6], M)) rfl rfl rfl ?_
  refine ps_st (S' := (100, [(0, .ref a), (1, .int t), (2, .int 6)], [.int 4, .int 6], M)) rfl rfl rfl ?_
  refine ps_if2 (S1 := (110, [(0, .ref a), (1, .int t), (2, .int 6)], [], M)) (S2 := (103, [(0, .ref a), (1, .int t), (2, .int 6)], [], M)) rfl rfl rfl (fun c_100 => ?_) (fun c_100 => ?_)
  rotate_left
  · exact absurd (by decide) (of_decide_eq_false c_100)
  refine ps_st (S' := (111, [], [.int 0], M)) rfl rfl rfl ?_
  exact ps_ret rfl rfl (⟨rfl, rfl⟩)
set_option maxHeartbeats 1000000 in
theorem dk_cnumN6 {g : xe_G} {M : mi_H} {a : Nat} {m0 m1 m2 m3 m4 m5 m6 m7 m8 m9 : Int32} (h_a : M.1 a = some (ob 6 [.int m0, .int m1, .int m2, .int m3, .int m4, .int m5, .int m6, .int m7, .int m8, .int m9, .null]))  : pt (mT g) 107 [.ref a, .int 6] M (fun v M' => (v = some (.int 0) ∧ M = M')) := by
  refine pt_in (b := mb_107 g) rfl (fun kf => ?_)
  show pl (mT g) kf (mb_107 g).2 (0, [(0, .ref a), (1, .int 6)], [], M) _
  refine ps_st (S' := (1, [(0, .ref a), (1, .int 6)], [.ref a], M)) rfl rfl rfl ?_
  refine ps_get (S' := (4, [(0, .ref a), (1, .int 6)], [.null], M)) rfl h_a rfl rfl ?_
  refine ps_st (S' := (7, [(0, .ref a), (1, .int 6)], [], M)) rfl rfl rfl ?_
  refine ps_st (S' := (8, [(0, .ref a), (1, .int 6)], [.int 0], M)) rfl rfl rfl ?_
  exact ps_ret rfl rfl (⟨rfl, rfl⟩)
set_option maxHeartbeats 1000000 in
theorem dk_cnumC6 {g : xe_G} {M : mi_H} {a : Nat} {m0 m1 m2 m3 m4 m5 m6 m7 m8 m9 : Int32} {z : Nat} {c0 c1 c2 c3 c4 : Int32} {v5 v6 v7 v8 v9 v10 : Value} (h_a : M.1 a = some (ob 6 [.int m0, .int m1, .int m2, .int m3, .int m4, .int m5, .int m6, .int m7, .int m8, .int m9, .ref z])) (h_z : M.1 z = some (ob 4 [.int c0, .int c1, .int c2, .int c3, .int c4, v5, v6, v7, v8, v9, v10]))  : pt (mT g) 107 [.ref a, .int 6] M (fun v M' => (v = some (.int c1) ∧ M = M')) := by
  refine pt_in (b := mb_107 g) rfl (fun kf => ?_)
  show pl (mT g) kf (mb_107 g).2 (0, [(0, .ref a), (1, .int 6)], [], M) _
  refine ps_st (S' := (1, [(0, .ref a), (1, .int 6)], [.ref a], M)) rfl rfl rfl ?_
  refine ps_get (S' := (4, [(0, .ref a), (1, .int 6)], [.ref z], M)) rfl h_a rfl rfl ?_
  refine ps_st (S' := (9, [(0, .ref a), (1, .int 6)], [], M)) rfl rfl rfl ?_
  refine ps_st (S' := (10, [(0, .ref a), (1, .int 6)], [.int 6], M)) rfl rfl rfl ?_
  refine ps_st (S' := (52, [(0, .ref a), (1, .int 6)], [], M)) rfl rfl rfl ?_
  refine ps_st (S' := (53, [(0, .ref a), (1, .int 6)], [.ref a], M)) rfl rfl rfl ?_
  refine ps_get (S' := (56, [(0, .ref a), (1, .int 6)], [.ref z], M)) rfl h_a rfl rfl ?_
  refine ps_get (S' := (59, [(0, .ref a), (1, .int 6)], [.int c1], M)) rfl h_z rfl rfl ?_
  exact ps_reti rfl (⟨rfl, rfl⟩)
set_option maxHeartbeats 1000000 in
theorem dk_mnumM6N {g : xe_G} {M : mi_H} {a : Nat} {t m0 m1 m2 m3 m4 m5 m6 m7 m8 m9 : Int32} (h_a : M.1 a = some (ob 6 [.int m0, .int m1, .int m2, .int m3, .int m4, .int m5, .int m6, .int m7, .int m8, .int m9, .null])) (ht : ¬ t = 0) : pt (mT g) 109 [.ref a, .int t, .int 6] M (fun v M' => (v = some (.int 0) ∧ M = M')) := by
  refine pt_in (b := mb_109 g) rfl (fun kf => ?_)
  show pl (mT g) kf (mb_109 g).2 (0, [(0, .ref a), (1, .int t), (2, .int 6)], [], M) _
  refine ps_st (S' := (1, [(0, .ref a), (1, .int t), (2, .int 6)], [.int 6], M)) rfl rfl rfl ?_
  refine ps_st (S' := (86, [(0, .ref a), (1, .int t), (2, .int 6)], [], M)) rfl rfl rfl ?_
  refine ps_st (S' := (87, [(0, .ref a), (1, .int t), (2, .int 6)], [.int t], M)) rfl rfl rfl ?_
  refine ps_if (S1 := (98, [(0, .ref a), (1, .int t), (2, .int 6)], [], M)) (S2 := (90, [(0, .ref a), (1, .int t), (2, .int 6)], [], M)) rfl rfl rfl (fun c_87 => ?_) (fun c_87 => ?_)
  · exact absurd (of_decide_eq_true c_87) (ht)
  refine ps_st (S' := (91, [(0, .ref a), (1, .int t), (2, .int 6)], [.ref a], M)) rfl rfl rfl ?_
  refine ps_st (S' := (92, [(0, .ref a), (1, .int t), (2, .int 6)], [.int 6, .ref a], M)) rfl rfl rfl ?_
  refine pl_call (a := [.ref a, .int 6]) (rest := []) rfl rfl rfl (dk_cnumN6 (a := a) (m0 := m0) (m1 := m1) (m2 := m2) (m3 := m3) (m4 := m4) (m5 := m5) (m6 := m6) (m7 := m7) (m8 := m8) (m9 := m9) h_a) (fun v1 M2 q3 => ?_)
  obtain ⟨rfl, rfl⟩ := q3
  show pl _ _ _ (95, [(0, .ref a), (1, .int t), (2, .int 6)], [.int 0], M) _
  refine ps_st (S' := (111, [], [.int 0], M)) rfl rfl rfl ?_
  exact ps_ret rfl rfl (⟨rfl, rfl⟩)
set_option maxHeartbeats 1000000 in
theorem dk_mnumM6C {g : xe_G} {M : mi_H} {a : Nat} {t m0 m1 m2 m3 m4 m5 m6 m7 m8 m9 : Int32} {z : Nat} {c0 c1 c2 c3 c4 : Int32} {v5 v6 v7 v8 v9 v10 : Value} (h_a : M.1 a = some (ob 6 [.int m0, .int m1, .int m2, .int m3, .int m4, .int m5, .int m6, .int m7, .int m8, .int m9, .ref z])) (h_z : M.1 z = some (ob 4 [.int c0, .int c1, .int c2, .int c3, .int c4, v5, v6, v7, v8, v9, v10])) (ht : ¬ t = 0) : pt (mT g) 109 [.ref a, .int t, .int 6] M (fun v M' => (v = some (.int c1) ∧ M = M')) := by
  refine pt_in (b := mb_109 g) rfl (fun kf => ?_)
  show pl (mT g) kf (mb_109 g).2 (0, [(0, .ref a), (1, .int t), (2, .int 6)], [], M) _
  refine ps_st (S' := (1, [(0, .ref a), (1, .int t), (2, .int 6)], [.int 6], M)) rfl rfl rfl ?_
  refine ps_st (S' := (86, [(0, .ref a), (1, .int t), (2, .int 6)], [], M)) rfl rfl rfl ?_
  refine ps_st (S' := (87, [(0, .ref a), (1, .int t), (2, .int 6)], [.int t], M)) rfl rfl rfl ?_
  refine ps_if (S1 := (98, [(0, .ref a), (1, .int t), (2, .int 6)], [], M)) (S2 := (90, [(0, .ref a), (1, .int t), (2, .int 6)], [], M)) rfl rfl rfl (fun c_87 => ?_) (fun c_87 => ?_)
  · exact absurd (of_decide_eq_true c_87) (ht)
  refine ps_st (S' := (91, [(0, .ref a), (1, .int t), (2, .int 6)], [.ref a], M)) rfl rfl rfl ?_
  refine ps_st (S' := (92, [(0, .ref a), (1, .int t), (2, .int 6)], [.int 6, .ref a], M)) rfl rfl rfl ?_
  refine pl_call (a := [.ref a, .int 6]) (rest := []) rfl rfl rfl (dk_cnumC6 (a := a) (m0 := m0) (m1 := m1) (m2 := m2) (m3 := m3) (m4 := m4) (m5 := m5) (m6 := m6) (m7 := m7) (m8 := m8) (m9 := m9) (z := z) (c0 := c0) (c1 := c1) (c2 := c2) (c3 := c3) (c4 := c4) (v5 := v5) (v6 := v6) (v7 := v7) (v8 := v8) (v9 := v9) (v10 := v10) h_a h_z) (fun v1 M2 q3 => ?_)
  obtain ⟨rfl, rfl⟩ := q3
  show pl _ _ _ (95, [(0, .ref a), (1, .int t), (2, .int 6)], [.int c1], M) _
  refine ps_st (S' := (111, [], [.int c1], M)) rfl rfl rfl ?_
  exact ps_reti rfl (⟨rfl, rfl⟩)
set_option maxHeartbeats 1000000 in
theorem dk_mnumF7 {g : xe_G} {M : mi_H} {a : Nat} {t m0 m1 m2 m3 m4 m5 m6 m7 m8 m9 : Int32} {mv : Value} (h_a : M.1 a = some (ob 6 [.int m0, .int m1, .int m2, .int m3, .int m4, .int m5, .int m6, .int m7, .int m8, .int m9, mv])) (ht : t = 0) : pt (mT g) 109 [.ref a, .int t, .int 7] M (fun v M' => (v = some (.int 0) ∧ M = M')) := by
  refine pt_in (b := mb_109 g) rfl (fun kf => ?_)
  show pl (mT g) kf (mb_109 g).2 (0, [(0, .ref a), (1, .int t), (2, .int 7)], [], M) _
  refine ps_st (S' := (1, [(0, .ref a), (1, .int t), (2, .int 7)], [.int 7], M)) rfl rfl rfl ?_
  refine ps_st (S' := (86, [(0, .ref a), (1, .int t), (2, .int 7)], [], M)) rfl rfl rfl ?_
  refine ps_st (S' := (87, [(0, .ref a), (1, .int t), (2, .int 7)], [.int t], M)) rfl rfl rfl ?_
  refine ps_if (S1 := (98, [(0, .ref a), (1, .int t), (2, .int 7)], [], M)) (S2 := (90, [(0, .ref a), (1, .int t), (2, .int 7)], [], M)) rfl rfl rfl (fun c_87 => ?_) (fun c_87 => ?_)
  rotate_left
  · exact absurd (ht) (of_decide_eq_false c_87)
  refine ps_st (S' := (99, [(0, .ref a), (1, .int t), (2, .int 7)], [.int 7], M)) rfl rfl rfl ?_
  refine ps_st (S' := (100, [(0, .ref a), (1, .int t), (2, .int 7)], [.int 4, .int 7], M)) rfl rfl rfl ?_
  refine ps_if2 (S1 := (110, [(0, .ref a), (1, .int t), (2, .int 7)], [], M)) (S2 := (103, [(0, .ref a), (1, .int t), (2, .int 7)], [], M)) rfl rfl rfl (fun c_100 => ?_) (fun c_100 => ?_)
  rotate_left
  · exact absurd (by decide) (of_decide_eq_false c_100)
  refine ps_st (S' := (111, [], [.int 0], M)) rfl rfl rfl ?_
  exact ps_ret rfl rfl (⟨rfl, rfl⟩)
set_option maxHeartbeats 1000000 in
theorem dk_cnumN7 {g : xe_G} {M : mi_H} {a : Nat} {m0 m1 m2 m3 m4 m5 m6 m7 m8 m9 : Int32} (h_a : M.1 a = some (ob 6 [.int m0, .int m1, .int m2, .int m3, .int m4, .int m5, .int m6, .int m7, .int m8, .int m9, .null]))  : pt (mT g) 107 [.ref a, .int 7] M (fun v M' => (v = some (.int 0) ∧ M = M')) := by
  refine pt_in (b := mb_107 g) rfl (fun kf => ?_)
  show pl (mT g) kf (mb_107 g).2 (0, [(0, .ref a), (1, .int 7)], [], M) _
  refine ps_st (S' := (1, [(0, .ref a), (1, .int 7)], [.ref a], M)) rfl rfl rfl ?_
  refine ps_get (S' := (4, [(0, .ref a), (1, .int 7)], [.null], M)) rfl h_a rfl rfl ?_
  refine ps_st (S' := (7, [(0, .ref a), (1, .int 7)], [], M)) rfl rfl rfl ?_
  refine ps_st (S' := (8, [(0, .ref a), (1, .int 7)], [.int 0], M)) rfl rfl rfl ?_
  exact ps_ret rfl rfl (⟨rfl, rfl⟩)
set_option maxHeartbeats 1000000 in
theorem dk_cnumC7 {g : xe_G} {M : mi_H} {a : Nat} {m0 m1 m2 m3 m4 m5 m6 m7 m8 m9 : Int32} {z : Nat} {c0 c1 c2 c3 c4 : Int32} {v5 v6 v7 v8 v9 v10 : Value} (h_a : M.1 a = some (ob 6 [.int m0, .int m1, .int m2, .int m3, .int m4, .int m5, .int m6, .int m7, .int m8, .int m9, .ref z])) (h_z : M.1 z = some (ob 4 [.int c0, .int c1, .int c2, .int c3, .int c4, v5, v6, v7, v8, v9, v10]))  : pt (mT g) 107 [.ref a, .int 7] M (fun v M' => (v = some (.int c4) ∧ M = M')) := by
  refine pt_in (b := mb_107 g) rfl (fun kf => ?_)
  show pl (mT g) kf (mb_107 g).2 (0, [(0, .ref a), (1, .int 7)], [], M) _
  refine ps_st (S' := (1, [(0, .ref a), (1, .int 7)], [.ref a], M)) rfl rfl rfl ?_
  refine ps_get (S' := (4, [(0, .ref a), (1, .int 7)], [.ref z], M)) rfl h_a rfl rfl ?_
  refine ps_st (S' := (9, [(0, .ref a), (1, .int 7)], [], M)) rfl rfl rfl ?_
  refine ps_st (S' := (10, [(0, .ref a), (1, .int 7)], [.int 7], M)) rfl rfl rfl ?_
  refine ps_st (S' := (60, [(0, .ref a), (1, .int 7)], [], M)) rfl rfl rfl ?_
  refine ps_st (S' := (61, [(0, .ref a), (1, .int 7)], [.ref a], M)) rfl rfl rfl ?_
  refine ps_get (S' := (64, [(0, .ref a), (1, .int 7)], [.ref z], M)) rfl h_a rfl rfl ?_
  refine ps_get (S' := (67, [(0, .ref a), (1, .int 7)], [.int c4], M)) rfl h_z rfl rfl ?_
  exact ps_reti rfl (⟨rfl, rfl⟩)
set_option maxHeartbeats 1000000 in
theorem dk_mnumM7N {g : xe_G} {M : mi_H} {a : Nat} {t m0 m1 m2 m3 m4 m5 m6 m7 m8 m9 : Int32} (h_a : M.1 a = some (ob 6 [.int m0, .int m1, .int m2, .int m3, .int m4, .int m5, .int m6, .int m7, .int m8, .int m9, .null])) (ht : ¬ t = 0) : pt (mT g) 109 [.ref a, .int t, .int 7] M (fun v M' => (v = some (.int 0) ∧ M = M')) := by
  refine pt_in (b := mb_109 g) rfl (fun kf => ?_)
  show pl (mT g) kf (mb_109 g).2 (0, [(0, .ref a), (1, .int t), (2, .int 7)], [], M) _
  refine ps_st (S' := (1, [(0, .ref a), (1, .int t), (2, .int 7)], [.int 7], M)) rfl rfl rfl ?_
  refine ps_st (S' := (86, [(0, .ref a), (1, .int t), (2, .int 7)], [], M)) rfl rfl rfl ?_
  refine ps_st (S' := (87, [(0, .ref a), (1, .int t), (2, .int 7)], [.int t], M)) rfl rfl rfl ?_
  refine ps_if (S1 := (98, [(0, .ref a), (1, .int t), (2, .int 7)], [], M)) (S2 := (90, [(0, .ref a), (1, .int t), (2, .int 7)], [], M)) rfl rfl rfl (fun c_87 => ?_) (fun c_87 => ?_)
  · exact absurd (of_decide_eq_true c_87) (ht)
  refine ps_st (S' := (91, [(0, .ref a), (1, .int t), (2, .int 7)], [.ref a], M)) rfl rfl rfl ?_
  refine ps_st (S' := (92, [(0, .ref a), (1, .int t), (2, .int 7)], [.int 7, .ref a], M)) rfl rfl rfl ?_
  refine pl_call (a := [.ref a, .int 7]) (rest := []) rfl rfl rfl (dk_cnumN7 (a := a) (m0 := m0) (m1 := m1) (m2 := m2) (m3 := m3) (m4 := m4) (m5 := m5) (m6 := m6) (m7 := m7) (m8 := m8) (m9 := m9) h_a) (fun v1 M2 q3 => ?_)
  obtain ⟨rfl, rfl⟩ := q3
  show pl _ _ _ (95, [(0, .ref a), (1, .int t), (2, .int 7)], [.int 0], M) _
  refine ps_st (S' := (111, [], [.int 0], M)) rfl rfl rfl ?_
  exact ps_ret rfl rfl (⟨rfl, rfl⟩)
set_option maxHeartbeats 1000000 in
theorem dk_mnumM7C {g : xe_G} {M : mi_H} {a : Nat} {t m0 m1 m2 m3 m4 m5 m6 m7 m8 m9 : Int32} {z : Nat} {c0 c1 c2 c3 c4 : Int32} {v5 v6 v7 v8 v9 v10 : Value} (h_a : M.1 a = some (ob 6 [.int m0, .int m1, .int m2, .int m3, .int m4, .int m5, .int m6, .int m7, .int m8, .int m9, .ref z])) (h_z : M.1 z = some (ob 4 [.int c0, .int c1, .int c2, .int c3, .int c4, v5, v6, v7, v8, v9, v10])) (ht : ¬ t = 0) : pt (mT g) 109 [.ref a, .int t, .int 7] M (fun v M' => (v = some (.int c4) ∧ M = M')) := by
  refine pt_in (b := mb_109 g) rfl (fun kf => ?_)
  show pl (mT g) kf (mb_109 g).2 (0, [(0, .ref a), (1, .int t), (2, .int 7)], [], M) _
  refine ps_st (S' := (1, [(0, .ref a), (1, .int t), (2, .int 7)], [.int 7], M)) rfl rfl rfl ?_
  refine ps_st (S' := (86, [(0, .ref a), (1, .int t), (2, .int 7)], [], M)) rfl rfl rfl ?_
  refine ps_st (S' := (87, [(0, .ref a), (1, .int t), (2, .int 7)], [.int t], M)) rfl rfl rfl ?_
  refine ps_if (S1 := (98, [(0, .ref a), (1, .int t), (2, .int 7)], [], M)) (S2 := (90, [(0, .ref a), (1, .int t), (2, .int 7)], [], M)) rfl rfl rfl (fun c_87 => ?_) (fun c_87 => ?_)
  · exact absurd (of_decide_eq_true c_87) (ht)
  refine ps_st (S' := (91, [(0, .ref a), (1, .int t), (2, .int 7)], [.ref a], M)) rfl rfl rfl ?_
  refine ps_st (S' := (92, [(0, .ref a), (1, .int t), (2, .int 7)], [.int 7, .ref a], M)) rfl rfl rfl ?_
  refine pl_call (a := [.ref a, .int 7]) (rest := []) rfl rfl rfl (dk_cnumC7 (a := a) (m0 := m0) (m1 := m1) (m2 := m2) (m3 := m3) (m4 := m4) (m5 := m5) (m6 := m6) (m7 := m7) (m8 := m8) (m9 := m9) (z := z) (c0 := c0) (c1 := c1) (c2 := c2) (c3 := c3) (c4 := c4) (v5 := v5) (v6 := v6) (v7 := v7) (v8 := v8) (v9 := v9) (v10 := v10) h_a h_z) (fun v1 M2 q3 => ?_)
  obtain ⟨rfl, rfl⟩ := q3
  show pl _ _ _ (95, [(0, .ref a), (1, .int t), (2, .int 7)], [.int c4], M) _
  refine ps_st (S' := (111, [], [.int c4], M)) rfl rfl rfl ?_
  exact ps_reti rfl (⟨rfl, rfl⟩)
set_option maxHeartbeats 1000000 in
theorem dk_mnumF8 {g : xe_G} {M : mi_H} {a : Nat} {t m0 m1 m2 m3 m4 m5 m6 m7 m8 m9 : Int32} {mv : Value} (h_a : M.1 a = some (ob 6 [.int m0, .int m1, .int m2, .int m3, .int m4, .int m5, .int m6, .int m7, .int m8, .int m9, mv])) (ht : t = 0) : pt (mT g) 109 [.ref a, .int t, .int 8] M (fun v M' => (v = some (.int m8) ∧ M = M')) := by
  refine pt_in (b := mb_109 g) rfl (fun kf => ?_)
  show pl (mT g) kf (mb_109 g).2 (0, [(0, .ref a), (1, .int t), (2, .int 8)], [], M) _
  refine ps_st (S' := (1, [(0, .ref a), (1, .int t), (2, .int 8)], [.int 8], M)) rfl rfl rfl ?_
  refine ps_st (S' := (76, [(0, .ref a), (1, .int t), (2, .int 8)], [], M)) rfl rfl rfl ?_
  refine ps_st (S' := (77, [(0, .ref a), (1, .int t), (2, .int 8)], [.ref a], M)) rfl rfl rfl ?_
  refine ps_get (S' := (80, [(0, .ref a), (1, .int t), (2, .int 8)], [.int m8], M)) rfl h_a rfl rfl ?_
  exact ps_reti rfl (⟨rfl, rfl⟩)
set_option maxHeartbeats 1000000 in
theorem dk_mnumM8 {g : xe_G} {M : mi_H} {a : Nat} {t m0 m1 m2 m3 m4 m5 m6 m7 m8 m9 : Int32} {mv : Value} (h_a : M.1 a = some (ob 6 [.int m0, .int m1, .int m2, .int m3, .int m4, .int m5, .int m6, .int m7, .int m8, .int m9, mv])) (ht : ¬ t = 0) : pt (mT g) 109 [.ref a, .int t, .int 8] M (fun v M' => (v = some (.int m8) ∧ M = M')) := by
  refine pt_in (b := mb_109 g) rfl (fun kf => ?_)
  show pl (mT g) kf (mb_109 g).2 (0, [(0, .ref a), (1, .int t), (2, .int 8)], [], M) _
  refine ps_st (S' := (1, [(0, .ref a), (1, .int t), (2, .int 8)], [.int 8], M)) rfl rfl rfl ?_
  refine ps_st (S' := (76, [(0, .ref a), (1, .int t), (2, .int 8)], [], M)) rfl rfl rfl ?_
  refine ps_st (S' := (77, [(0, .ref a), (1, .int t), (2, .int 8)], [.ref a], M)) rfl rfl rfl ?_
  refine ps_get (S' := (80, [(0, .ref a), (1, .int t), (2, .int 8)], [.int m8], M)) rfl h_a rfl rfl ?_
  exact ps_reti rfl (⟨rfl, rfl⟩)
set_option maxHeartbeats 1000000 in
theorem dk_mnumF9 {g : xe_G} {M : mi_H} {a : Nat} {t m0 m1 m2 m3 m4 m5 m6 m7 m8 m9 : Int32} {mv : Value} (h_a : M.1 a = some (ob 6 [.int m0, .int m1, .int m2, .int m3, .int m4, .int m5, .int m6, .int m7, .int m8, .int m9, mv])) (ht : t = 0) : pt (mT g) 109 [.ref a, .int t, .int 9] M (fun v M' => (v = some (.int m9) ∧ M = M')) := by
  refine pt_in (b := mb_109 g) rfl (fun kf => ?_)
  show pl (mT g) kf (mb_109 g).2 (0, [(0, .ref a), (1, .int t), (2, .int 9)], [], M) _
  refine ps_st (S' := (1, [(0, .ref a), (1, .int t), (2, .int 9)], [.int 9], M)) rfl rfl rfl ?_
  refine ps_st (S' := (81, [(0, .ref a), (1, .int t), (2, .int 9)], [], M)) rfl rfl rfl ?_
  refine ps_st (S' := (82, [(0, .ref a), (1, .int t), (2, .int 9)], [.ref a], M)) rfl rfl rfl ?_
  refine ps_get (S' := (85, [(0, .ref a), (1, .int t), (2, .int 9)], [.int m9], M)) rfl h_a rfl rfl ?_
  exact ps_reti rfl (⟨rfl, rfl⟩)
set_option maxHeartbeats 1000000 in
theorem dk_mnumM9 {g : xe_G} {M : mi_H} {a : Nat} {t m0 m1 m2 m3 m4 m5 m6 m7 m8 m9 : Int32} {mv : Value} (h_a : M.1 a = some (ob 6 [.int m0, .int m1, .int m2, .int m3, .int m4, .int m5, .int m6, .int m7, .int m8, .int m9, mv])) (ht : ¬ t = 0) : pt (mT g) 109 [.ref a, .int t, .int 9] M (fun v M' => (v = some (.int m9) ∧ M = M')) := by
  refine pt_in (b := mb_109 g) rfl (fun kf => ?_)
  show pl (mT g) kf (mb_109 g).2 (0, [(0, .ref a), (1, .int t), (2, .int 9)], [], M) _
  refine ps_st (S' := (1, [(0, .ref a), (1, .int t), (2, .int 9)], [.int 9], M)) rfl rfl rfl ?_
  refine ps_st (S' := (81, [(0, .ref a), (1, .int t), (2, .int 9)], [], M)) rfl rfl rfl ?_
  refine ps_st (S' := (82, [(0, .ref a), (1, .int t), (2, .int 9)], [.ref a], M)) rfl rfl rfl ?_
  refine ps_get (S' := (85, [(0, .ref a), (1, .int t), (2, .int 9)], [.int m9], M)) rfl h_a rfl rfl ?_
  exact ps_reti rfl (⟨rfl, rfl⟩)
set_option maxHeartbeats 1000000 in
theorem dk_member0k {g : xe_G} {M : mi_H} {o ca fl : Nat} {cn wp t i x : Int32} (h_o : M.1 o = some (ob 11 [.ref ca, .int cn, .ref fl, .null, .int wp])) (h0 : ¬ x < 0) (h1 : x ≤ 9) : pt (mT g) 15 [.ref o, .int t, .int i, .int x] M (fun v M' => (v = some (.int (-1)) ∧ M = M')) := by
  refine pt_in (b := mb_15 g) rfl (fun kf => ?_)
  show pl (mT g) kf (mb_15 g).2 (0, [(0, .ref o), (1, .int t), (2, .int i), (3, .int x)], [], M) _
  refine ps_st (S' := (1, [(0, .ref o), (1, .int t), (2, .int i), (3, .int x)], [.int x], M)) rfl rfl rfl ?_
  refine ps_if (S1 := (10, [(0, .ref o), (1, .int t), (2, .int i), (3, .int x)], [], M)) (S2 := (4, [(0, .ref o), (1, .int t), (2, .int i), (3, .int x)], [], M)) rfl rfl rfl (fun c_1 => ?_) (fun c_1 => ?_)
  · exact absurd (of_decide_eq_true c_1) (h0)
  refine ps_st (S' := (5, [(0, .ref o), (1, .int t), (2, .int i), (3, .int x)], [.int x], M)) rfl rfl rfl ?_
  refine ps_st (S' := (7, [(0, .ref o), (1, .int t), (2, .int i), (3, .int x)], [.int 9, .int x], M)) rfl rfl rfl ?_
  refine ps_if2 (S1 := (20, [(0, .ref o), (1, .int t), (2, .int i), (3, .int x)], [], M)) (S2 := (10, [(0, .ref o), (1, .int t), (2, .int i), (3, .int x)], [], M)) rfl rfl rfl (fun c_7 => ?_) (fun c_7 => ?_)
  rotate_left
  · exact absurd (h1) (of_decide_eq_false c_7)
  refine ps_st (S' := (21, [(0, .ref o), (1, .int t), (2, .int i), (3, .int x)], [.ref o], M)) rfl rfl rfl ?_
  refine ps_get (S' := (24, [(0, .ref o), (1, .int t), (2, .int i), (3, .int x)], [.null], M)) rfl h_o rfl rfl ?_
  refine ps_st (S' := (27, [(0, .ref o), (1, .int t), (2, .int i), (3, .int x)], [], M)) rfl rfl rfl ?_
  refine ps_st (S' := (28, [(0, .ref o), (1, .int t), (2, .int i), (3, .int x)], [.null], M)) rfl rfl rfl ?_
  refine ps_st (S' := (40, [(1, .int t), (3, .int x)], [.null], M)) rfl rfl rfl ?_
  refine ps_st (S' := (42, [(4, .null), (1, .int t), (3, .int x)], [], M)) rfl rfl rfl ?_
  refine ps_st (S' := (44, [(4, .null), (1, .int t), (3, .int x)], [.null], M)) rfl rfl rfl ?_
  refine ps_st (S' := (47, [(4, .null), (1, .int t), (3, .int x)], [], M)) rfl rfl rfl ?_
  refine ps_st (S' := (48, [(4, .null), (1, .int t), (3, .int x)], [.int (-1)], M)) rfl rfl rfl ?_
  refine ps_st (S' := (58, [], [.int (-1)], M)) rfl rfl rfl ?_
  exact ps_ret rfl rfl (⟨rfl, rfl⟩)
set_option maxHeartbeats 1000000 in
theorem dk_memberNF {g : xe_G} {M : mi_H} {o ca fl : Nat} {cn wp : Int32} {c b q fr mr l : Nat} {u2 u3 u4 u5 : Int32} {w : List Value} {R : Nat → Value} {t i x : Int32} (h_o : M.1 o = some (ob 11 [.ref ca, .int cn, .ref fl, .ref c, .int wp])) (h_c : M.1 c = some (ob 3 (.ref b :: .ref q :: .int u2 :: .int u3 :: .int u4 :: .int u5 :: .ref fr :: .ref mr :: w))) (h_fr : M.1 fr = some (ro "ClassGate$Member" l R)) (h0 : ¬ x < 0) (h1 : x ≤ 9) (ht : t = 0) (hi : i < 0 ∨ nI l ≤ i) : pt (mT g) 15 [.ref o, .int t, .int i, .int x] M (fun v M' => (v = some (.int (-1)) ∧ M = M')) := by
  refine pt_in (b := mb_15 g) rfl (fun kf => ?_)
  show pl (mT g) kf (mb_15 g).2 (0, [(0, .ref o), (1, .int t), (2, .int i), (3, .int x)], [], M) _
  refine ps_st (S' := (1, [(0, .ref o), (1, .int t), (2, .int i), (3, .int x)], [.int x], M)) rfl rfl rfl ?_
  refine ps_if (S1 := (10, [(0, .ref o), (1, .int t), (2, .int i), (3, .int x)], [], M)) (S2 := (4, [(0, .ref o), (1, .int t), (2, .int i), (3, .int x)], [], M)) rfl rfl rfl (fun c_1 => ?_) (fun c_1 => ?_)
  · exact absurd (of_decide_eq_true c_1) (h0)
  refine ps_st (S' := (5, [(0, .ref o), (1, .int t), (2, .int i), (3, .int x)], [.int x], M)) rfl rfl rfl ?_
  refine ps_st (S' := (7, [(0, .ref o), (1, .int t), (2, .int i), (3, .int x)], [.int 9, .int x], M)) rfl rfl rfl ?_
  refine ps_if2 (S1 := (20, [(0, .ref o), (1, .int t), (2, .int i), (3, .int x)], [], M)) (S2 := (10, [(0, .ref o), (1, .int t), (2, .int i), (3, .int x)], [], M)) rfl rfl rfl (fun c_7 => ?_) (fun c_7 => ?_)
  rotate_left
  · exact absurd (h1) (of_decide_eq_false c_7)
  refine ps_st (S' := (21, [(0, .ref o), (1, .int t), (2, .int i), (3, .int x)], [.ref o], M)) rfl rfl rfl ?_
  refine ps_get (S' := (24, [(0, .ref o), (1, .int t), (2, .int i), (3, .int x)], [.ref c], M)) rfl h_o rfl rfl ?_
  refine ps_st (S' := (31, [(0, .ref o), (1, .int t), (2, .int i), (3, .int x)], [], M)) rfl rfl rfl ?_
  refine ps_st (S' := (32, [(0, .ref o), (1, .int t), (2, .int i), (3, .int x)], [.ref o], M)) rfl rfl rfl ?_
  refine ps_get (S' := (35, [(0, .ref o), (1, .int t), (2, .int i), (3, .int x)], [.ref c], M)) rfl h_o rfl rfl ?_
  refine ps_st (S' := (36, [(0, .ref o), (1, .int t), (2, .int i), (3, .int x)], [.int t, .ref c], M)) rfl rfl rfl ?_
  refine ps_st (S' := (37, [(0, .ref o), (1, .int t), (2, .int i), (3, .int x)], [.int i, .int t, .ref c], M)) rfl rfl rfl ?_
  refine pl_call (a := [.ref c, .int t, .int i]) (rest := []) rfl rfl rfl (dk_memberAtNF (c := c) (b := b) (q := q) (fr := fr) (mr := mr) (l := l) (u2 := u2) (u3 := u3) (u4 := u4) (u5 := u5) (w := w) (R := R) (t := t) (i := i) h_c h_fr (ht) (hi)) (fun v1 M2 q3 => ?_)
  obtain ⟨rfl, rfl⟩ := q3
  show pl _ _ _ (40, [(1, .int t), (3, .int x)], [.null], M) _
  refine ps_st (S' := (42, [(4, .null), (1, .int t), (3, .int x)], [], M)) rfl rfl rfl ?_
  refine ps_st (S' := (44, [(4, .null), (1, .int t), (3, .int x)], [.null], M)) rfl rfl rfl ?_
  refine ps_st (S' := (47, [(4, .null), (1, .int t), (3, .int x)], [], M)) rfl rfl rfl ?_
  refine ps_st (S' := (48, [(4, .null), (1, .int t), (3, .int x)], [.int (-1)], M)) rfl rfl rfl ?_
  refine ps_st (S' := (58, [], [.int (-1)], M)) rfl rfl rfl ?_
  exact ps_ret rfl rfl (⟨rfl, rfl⟩)
set_option maxHeartbeats 1000000 in
theorem dk_memberF0 {g : xe_G} {M : mi_H} {o ca fl : Nat} {cn wp : Int32} {c b q fr mr l : Nat} {u2 u3 u4 u5 : Int32} {w : List Value} {R : Nat → Value} {a : Nat} {m0 m1 m2 m3 m4 m5 m6 m7 m8 m9 : Int32} {t : Int32} {k : Nat} {mv : Value} (h_o : M.1 o = some (ob 11 [.ref ca, .int cn, .ref fl, .ref c, .int wp])) (h_c : M.1 c = some (ob 3 (.ref b :: .ref q :: .int u2 :: .int u3 :: .int u4 :: .int u5 :: .ref fr :: .ref mr :: w))) (h_fr : M.1 fr = some (ro "ClassGate$Member" l R)) (h_a : M.1 a = some (ob 6 [.int m0, .int m1, .int m2, .int m3, .int m4, .int m5, .int m6, .int m7, .int m8, .int m9, mv])) (ht : t = 0) (hk : k < l) (hl : l < 65536) (hR : R k = .ref a) : pt (mT g) 15 [.ref o, .int t, .int (nI k), .int 0] M (fun v M' => (v = some (.int m1) ∧ M = M')) := by
  refine pt_in (b := mb_15 g) rfl (fun kf => ?_)
  show pl (mT g) kf (mb_15 g).2 (0, [(0, .ref o), (1, .int t), (2, .int (nI k)), (3, .int 0)], [], M) _
  refine ps_st (S' := (1, [(0, .ref o), (1, .int t), (2, .int (nI k)), (3, .int 0)], [.int 0], M)) rfl rfl rfl ?_
  refine ps_if (S1 := (10, [(0, .ref o), (1, .int t), (2, .int (nI k)), (3, .int 0)], [], M)) (S2 := (4, [(0, .ref o), (1, .int t), (2, .int (nI k)), (3, .int 0)], [], M)) rfl rfl rfl (fun c_1 => ?_) (fun c_1 => ?_)
  · exact absurd (of_decide_eq_true c_1) (by decide)
  refine ps_st (S' := (5, [(0, .ref o), (1, .int t), (2, .int (nI k)), (3, .int 0)], [.int 0], M)) rfl rfl rfl ?_
  refine ps_st (S' := (7, [(0, .ref o), (1, .int t), (2, .int (nI k)), (3, .int 0)], [.int 9, .int 0], M)) rfl rfl rfl ?_
  refine ps_if2 (S1 := (20, [(0, .ref o), (1, .int t), (2, .int (nI k)), (3, .int 0)], [], M)) (S2 := (10, [(0, .ref o), (1, .int t), (2, .int (nI k)), (3, .int 0)], [], M)) rfl rfl rfl (fun c_7 => ?_) (fun c_7 => ?_)
  rotate_left
  · exact absurd (by decide) (of_decide_eq_false c_7)
  refine ps_st (S' := (21, [(0, .ref o), (1, .int t), (2, .int (nI k)), (3, .int 0)], [.ref o], M)) rfl rfl rfl ?_
  refine ps_get (S' := (24, [(0, .ref o), (1, .int t), (2, .int (nI k)), (3, .int 0)], [.ref c], M)) rfl h_o rfl rfl ?_
  refine ps_st (S' := (31, [(0, .ref o), (1, .int t), (2, .int (nI k)), (3, .int 0)], [], M)) rfl rfl rfl ?_
  refine ps_st (S' := (32, [(0, .ref o), (1, .int t), (2, .int (nI k)), (3, .int 0)], [.ref o], M)) rfl rfl rfl ?_
  refine ps_get (S' := (35, [(0, .ref o), (1, .int t), (2, .int (nI k)), (3, .int 0)], [.ref c], M)) rfl h_o rfl rfl ?_
  refine ps_st (S' := (36, [(0, .ref o), (1, .int t), (2, .int (nI k)), (3, .int 0)], [.int t, .ref c], M)) rfl rfl rfl ?_
  refine ps_st (S' := (37, [(0, .ref o), (1, .int t), (2, .int (nI k)), (3, .int 0)], [.int (nI k), .int t, .ref c], M)) rfl rfl rfl ?_
  refine pl_call (a := [.ref c, .int t, .int (nI k)]) (rest := []) rfl rfl rfl (dk_memberAtF (c := c) (b := b) (q := q) (fr := fr) (mr := mr) (l := l) (u2 := u2) (u3 := u3) (u4 := u4) (u5 := u5) (w := w) (R := R) (t := t) (k := k) (a := a) h_c h_fr (ht) (hk) (hl) (hR)) (fun v1 M2 q3 => ?_)
  obtain ⟨rfl, rfl⟩ := q3
  show pl _ _ _ (40, [(1, .int t), (3, .int 0)], [.ref a], M) _
  refine ps_st (S' := (42, [(4, .ref a), (1, .int t), (3, .int 0)], [], M)) rfl rfl rfl ?_
  refine ps_st (S' := (44, [(4, .ref a), (1, .int t), (3, .int 0)], [.ref a], M)) rfl rfl rfl ?_
  refine ps_st (S' := (51, [(4, .ref a), (1, .int t), (3, .int 0)], [], M)) rfl rfl rfl ?_
  refine ps_st (S' := (53, [(4, .ref a), (1, .int t), (3, .int 0)], [.ref a], M)) rfl rfl rfl ?_
  refine ps_st (S' := (54, [(4, .ref a), (1, .int t), (3, .int 0)], [.int t, .ref a], M)) rfl rfl rfl ?_
  refine ps_st (S' := (55, [(4, .ref a), (1, .int t), (3, .int 0)], [.int 0, .int t, .ref a], M)) rfl rfl rfl ?_
  refine pl_call (a := [.ref a, .int t, .int 0]) (rest := []) rfl rfl rfl (dk_mnumF0 (a := a) (t := t) (m0 := m0) (m1 := m1) (m2 := m2) (m3 := m3) (m4 := m4) (m5 := m5) (m6 := m6) (m7 := m7) (m8 := m8) (m9 := m9) (mv := mv) h_a (ht)) (fun v4 M5 q6 => ?_)
  obtain ⟨rfl, rfl⟩ := q6
  show pl _ _ _ (58, [], [.int m1], M) _
  exact ps_reti rfl (⟨rfl, rfl⟩)
set_option maxHeartbeats 1000000 in
theorem dk_memberF1 {g : xe_G} {M : mi_H} {o ca fl : Nat} {cn wp : Int32} {c b q fr mr l : Nat} {u2 u3 u4 u5 : Int32} {w : List Value} {R : Nat → Value} {a : Nat} {m0 m1 m2 m3 m4 m5 m6 m7 m8 m9 : Int32} {t : Int32} {k : Nat} {mv : Value} (h_o : M.1 o = some (ob 11 [.ref ca, .int cn, .ref fl, .ref c, .int wp])) (h_c : M.1 c = some (ob 3 (.ref b :: .ref q :: .int u2 :: .int u3 :: .int u4 :: .int u5 :: .ref fr :: .ref mr :: w))) (h_fr : M.1 fr = some (ro "ClassGate$Member" l R)) (h_a : M.1 a = some (ob 6 [.int m0, .int m1, .int m2, .int m3, .int m4, .int m5, .int m6, .int m7, .int m8, .int m9, mv])) (ht : t = 0) (hk : k < l) (hl : l < 65536) (hR : R k = .ref a) : pt (mT g) 15 [.ref o, .int t, .int (nI k), .int 1] M (fun v M' => (v = some (.int m2) ∧ M = M')) := by
  refine pt_in (b := mb_15 g) rfl (fun kf => ?_)
  show pl (mT g) kf (mb_15 g).2 (0, [(0, .ref o), (1, .int t), (2, .int (nI k)), (3, .int 1)], [], M) _
  refine ps_st (S' := (1, [(0, .ref o), (1, .int t), (2, .int (nI k)), (3, .int 1)], [.int 1], M)) rfl rfl rfl ?_
  refine ps_if (S1 := (10, [(0, .ref o), (1, .int t), (2, .int (nI k)), (3, .int 1)], [], M)) (S2 := (4, [(0, .ref o), (1, .int t), (2, .int (nI k)), (3, .int 1)], [], M)) rfl rfl rfl (fun c_1 => ?_) (fun c_1 => ?_)
  · exact absurd (of_decide_eq_true c_1) (by decide)
  refine ps_st (S' := (5, [(0, .ref o), (1, .int t), (2, .int (nI k)), (3, .int 1)], [.int 1], M)) rfl rfl rfl ?_
  refine ps_st (S' := (7, [(0, .ref o), (1, .int t), (2, .int (nI k)), (3, .int 1)], [.int 9, .int 1], M)) rfl rfl rfl ?_
  refine ps_if2 (S1 := (20, [(0, .ref o), (1, .int t), (2, .int (nI k)), (3, .int 1)], [], M)) (S2 := (10, [(0, .ref o), (1, .int t), (2, .int (nI k)), (3, .int 1)], [], M)) rfl rfl rfl (fun c_7 => ?_) (fun c_7 => ?_)
  rotate_left
  · exact absurd (by decide) (of_decide_eq_false c_7)
  refine ps_st (S' := (21, [(0, .ref o), (1, .int t), (2, .int (nI k)), (3, .int 1)], [.ref o], M)) rfl rfl rfl ?_
  refine ps_get (S' := (24, [(0, .ref o), (1, .int t), (2, .int (nI k)), (3, .int 1)], [.ref c], M)) rfl h_o rfl rfl ?_
  refine ps_st (S' := (31, [(0, .ref o), (1, .int t), (2, .int (nI k)), (3, .int 1)], [], M)) rfl rfl rfl ?_
  refine ps_st (S' := (32, [(0, .ref o), (1, .int t), (2, .int (nI k)), (3, .int 1)], [.ref o], M)) rfl rfl rfl ?_
  refine ps_get (S' := (35, [(0, .ref o), (1, .int t), (2, .int (nI k)), (3, .int 1)], [.ref c], M)) rfl h_o rfl rfl ?_
  refine ps_st (S' := (36, [(0, .ref o), (1, .int t), (2, .int (nI k)), (3, .int 1)], [.int t, .ref c], M)) rfl rfl rfl ?_
  refine ps_st (S' := (37, [(0, .ref o), (1, .int t), (2, .int (nI k)), (3, .int 1)], [.int (nI k), .int t, .ref c], M)) rfl rfl rfl ?_
  refine pl_call (a := [.ref c, .int t, .int (nI k)]) (rest := []) rfl rfl rfl (dk_memberAtF (c := c) (b := b) (q := q) (fr := fr) (mr := mr) (l := l) (u2 := u2) (u3 := u3) (u4 := u4) (u5 := u5) (w := w) (R := R) (t := t) (k := k) (a := a) h_c h_fr (ht) (hk) (hl) (hR)) (fun v1 M2 q3 => ?_)
  obtain ⟨rfl, rfl⟩ := q3
  show pl _ _ _ (40, [(1, .int t), (3, .int 1)], [.ref a], M) _
  refine ps_st (S' := (42, [(4, .ref a), (1, .int t), (3, .int 1)], [], M)) rfl rfl rfl ?_
  refine ps_st (S' := (44, [(4, .ref a), (1, .int t), (3, .int 1)], [.ref a], M)) rfl rfl rfl ?_
  refine ps_st (S' := (51, [(4, .ref a), (1, .int t), (3, .int 1)], [], M)) rfl rfl rfl ?_
  refine ps_st (S' := (53, [(4, .ref a), (1, .int t), (3, .int 1)], [.ref a], M)) rfl rfl rfl ?_
  refine ps_st (S' := (54, [(4, .ref a), (1, .int t), (3, .int 1)], [.int t, .ref a], M)) rfl rfl rfl ?_
  refine ps_st (S' := (55, [(4, .ref a), (1, .int t), (3, .int 1)], [.int 1, .int t, .ref a], M)) rfl rfl rfl ?_
  refine pl_call (a := [.ref a, .int t, .int 1]) (rest := []) rfl rfl rfl (dk_mnumF1 (a := a) (t := t) (m0 := m0) (m1 := m1) (m2 := m2) (m3 := m3) (m4 := m4) (m5 := m5) (m6 := m6) (m7 := m7) (m8 := m8) (m9 := m9) (mv := mv) h_a (ht)) (fun v4 M5 q6 => ?_)
  obtain ⟨rfl, rfl⟩ := q6
  show pl _ _ _ (58, [], [.int m2], M) _
  exact ps_reti rfl (⟨rfl, rfl⟩)
set_option maxHeartbeats 1000000 in
theorem dk_memberF2 {g : xe_G} {M : mi_H} {o ca fl : Nat} {cn wp : Int32} {c b q fr mr l : Nat} {u2 u3 u4 u5 : Int32} {w : List Value} {R : Nat → Value} {a : Nat} {m0 m1 m2 m3 m4 m5 m6 m7 m8 m9 : Int32} {t : Int32} {k : Nat} {mv : Value} (h_o : M.1 o = some (ob 11 [.ref ca, .int cn, .ref fl, .ref c, .int wp])) (h_c : M.1 c = some (ob 3 (.ref b :: .ref q :: .int u2 :: .int u3 :: .int u4 :: .int u5 :: .ref fr :: .ref mr :: w))) (h_fr : M.1 fr = some (ro "ClassGate$Member" l R)) (h_a : M.1 a = some (ob 6 [.int m0, .int m1, .int m2, .int m3, .int m4, .int m5, .int m6, .int m7, .int m8, .int m9, mv])) (ht : t = 0) (hk : k < l) (hl : l < 65536) (hR : R k = .ref a) : pt (mT g) 15 [.ref o, .int t, .int (nI k), .int 2] M (fun v M' => (v = some (.int m3) ∧ M = M')) := by
  refine pt_in (b := mb_15 g) rfl (fun kf => ?_)
  show pl (mT g) kf (mb_15 g).2 (0, [(0, .ref o), (1, .int t), (2, .int (nI k)), (3, .int 2)], [], M) _
  refine ps_st (S' := (1, [(0, .ref o), (1, .int t), (2, .int (nI k)), (3, .int 2)], [.int 2], M)) rfl rfl rfl ?_
  refine ps_if (S1 := (10, [(0, .ref o), (1, .int t), (2, .int (nI k)), (3, .int 2)], [], M)) (S2 := (4, [(0, .ref o), (1, .int t), (2, .int (nI k)), (3, .int 2)], [], M)) rfl rfl rfl (fun c_1 => ?_) (fun c_1 => ?_)
  · exact absurd (of_decide_eq_true c_1) (by decide)
  refine ps_st (S' := (5, [(0, .ref o), (1, .int t), (2, .int (nI k)), (3, .int 2)], [.int 2], M)) rfl rfl rfl ?_
  refine ps_st (S' := (7, [(0, .ref o), (1, .int t), (2, .int (nI k)), (3, .int 2)], [.int 9, .int 2], M)) rfl rfl rfl ?_
  refine ps_if2 (S1 := (20, [(0, .ref o), (1, .int t), (2, .int (nI k)), (3, .int 2)], [], M)) (S2 := (10, [(0, .ref o), (1, .int t), (2, .int (nI k)), (3, .int 2)], [], M)) rfl rfl rfl (fun c_7 => ?_) (fun c_7 => ?_)
  rotate_left
  · exact absurd (by decide) (of_decide_eq_false c_7)
  refine ps_st (S' := (21, [(0, .ref o), (1, .int t), (2, .int (nI k)), (3, .int 2)], [.ref o], M)) rfl rfl rfl ?_
  refine ps_get (S' := (24, [(0, .ref o), (1, .int t), (2, .int (nI k)), (3, .int 2)], [.ref c], M)) rfl h_o rfl rfl ?_
  refine ps_st (S' := (31, [(0, .ref o), (1, .int t), (2, .int (nI k)), (3, .int 2)], [], M)) rfl rfl rfl ?_
  refine ps_st (S' := (32, [(0, .ref o), (1, .int t), (2, .int (nI k)), (3, .int 2)], [.ref o], M)) rfl rfl rfl ?_
  refine ps_get (S' := (35, [(0, .ref o), (1, .int t), (2, .int (nI k)), (3, .int 2)], [.ref c], M)) rfl h_o rfl rfl ?_
  refine ps_st (S' := (36, [(0, .ref o), (1, .int t), (2, .int (nI k)), (3, .int 2)], [.int t, .ref c], M)) rfl rfl rfl ?_
  refine ps_st (S' := (37, [(0, .ref o), (1, .int t), (2, .int (nI k)), (3, .int 2)], [.int (nI k), .int t, .ref c], M)) rfl rfl rfl ?_
  refine pl_call (a := [.ref c, .int t, .int (nI k)]) (rest := []) rfl rfl rfl (dk_memberAtF (c := c) (b := b) (q := q) (fr := fr) (mr := mr) (l := l) (u2 := u2) (u3 := u3) (u4 := u4) (u5 := u5) (w := w) (R := R) (t := t) (k := k) (a := a) h_c h_fr (ht) (hk) (hl) (hR)) (fun v1 M2 q3 => ?_)
  obtain ⟨rfl, rfl⟩ := q3
  show pl _ _ _ (40, [(1, .int t), (3, .int 2)], [.ref a], M) _
  refine ps_st (S' := (42, [(4, .ref a), (1, .int t), (3, .int 2)], [], M)) rfl rfl rfl ?_
  refine ps_st (S' := (44, [(4, .ref a), (1, .int t), (3, .int 2)], [.ref a], M)) rfl rfl rfl ?_
  refine ps_st (S' := (51, [(4, .ref a), (1, .int t), (3, .int 2)], [], M)) rfl rfl rfl ?_
  refine ps_st (S' := (53, [(4, .ref a), (1, .int t), (3, .int 2)], [.ref a], M)) rfl rfl rfl ?_
  refine ps_st (S' := (54, [(4, .ref a), (1, .int t), (3, .int 2)], [.int t, .ref a], M)) rfl rfl rfl ?_
  refine ps_st (S' := (55, [(4, .ref a), (1, .int t), (3, .int 2)], [.int 2, .int t, .ref a], M)) rfl rfl rfl ?_
  refine pl_call (a := [.ref a, .int t, .int 2]) (rest := []) rfl rfl rfl (dk_mnumF2 (a := a) (t := t) (m0 := m0) (m1 := m1) (m2 := m2) (m3 := m3) (m4 := m4) (m5 := m5) (m6 := m6) (m7 := m7) (m8 := m8) (m9 := m9) (mv := mv) h_a (ht)) (fun v4 M5 q6 => ?_)
  obtain ⟨rfl, rfl⟩ := q6
  show pl _ _ _ (58, [], [.int m3], M) _
  exact ps_reti rfl (⟨rfl, rfl⟩)
set_option maxHeartbeats 1000000 in
theorem dk_memberF3 {g : xe_G} {M : mi_H} {o ca fl : Nat} {cn wp : Int32} {c b q fr mr l : Nat} {u2 u3 u4 u5 : Int32} {w : List Value} {R : Nat → Value} {a : Nat} {m0 m1 m2 m3 m4 m5 m6 m7 m8 m9 : Int32} {t : Int32} {k : Nat} {mv : Value} (h_o : M.1 o = some (ob 11 [.ref ca, .int cn, .ref fl, .ref c, .int wp])) (h_c : M.1 c = some (ob 3 (.ref b :: .ref q :: .int u2 :: .int u3 :: .int u4 :: .int u5 :: .ref fr :: .ref mr :: w))) (h_fr : M.1 fr = some (ro "ClassGate$Member" l R)) (h_a : M.1 a = some (ob 6 [.int m0, .int m1, .int m2, .int m3, .int m4, .int m5, .int m6, .int m7, .int m8, .int m9, mv])) (ht : t = 0) (hk : k < l) (hl : l < 65536) (hR : R k = .ref a) : pt (mT g) 15 [.ref o, .int t, .int (nI k), .int 3] M (fun v M' => (v = some (.int m6) ∧ M = M')) := by
  refine pt_in (b := mb_15 g) rfl (fun kf => ?_)
  show pl (mT g) kf (mb_15 g).2 (0, [(0, .ref o), (1, .int t), (2, .int (nI k)), (3, .int 3)], [], M) _
  refine ps_st (S' := (1, [(0, .ref o), (1, .int t), (2, .int (nI k)), (3, .int 3)], [.int 3], M)) rfl rfl rfl ?_
  refine ps_if (S1 := (10, [(0, .ref o), (1, .int t), (2, .int (nI k)), (3, .int 3)], [], M)) (S2 := (4, [(0, .ref o), (1, .int t), (2, .int (nI k)), (3, .int 3)], [], M)) rfl rfl rfl (fun c_1 => ?_) (fun c_1 => ?_)
  · exact absurd (of_decide_eq_true c_1) (by decide)
  refine ps_st (S' := (5, [(0, .ref o), (1, .int t), (2, .int (nI k)), (3, .int 3)], [.int 3], M)) rfl rfl rfl ?_
  refine ps_st (S' := (7, [(0, .ref o), (1, .int t), (2, .int (nI k)), (3, .int 3)], [.int 9, .int 3], M)) rfl rfl rfl ?_
  refine ps_if2 (S1 := (20, [(0, .ref o), (1, .int t), (2, .int (nI k)), (3, .int 3)], [], M)) (S2 := (10, [(0, .ref o), (1, .int t), (2, .int (nI k)), (3, .int 3)], [], M)) rfl rfl rfl (fun c_7 => ?_) (fun c_7 => ?_)
  rotate_left
  · exact absurd (by decide) (of_decide_eq_false c_7)
  refine ps_st (S' := (21, [(0, .ref o), (1, .int t), (2, .int (nI k)), (3, .int 3)], [.ref o], M)) rfl rfl rfl ?_
  refine ps_get (S' := (24, [(0, .ref o), (1, .int t), (2, .int (nI k)), (3, .int 3)], [.ref c], M)) rfl h_o rfl rfl ?_
  refine ps_st (S' := (31, [(0, .ref o), (1, .int t), (2, .int (nI k)), (3, .int 3)], [], M)) rfl rfl rfl ?_
  refine ps_st (S' := (32, [(0, .ref o), (1, .int t), (2, .int (nI k)), (3, .int 3)], [.ref o], M)) rfl rfl rfl ?_
  refine ps_get (S' := (35, [(0, .ref o), (1, .int t), (2, .int (nI k)), (3, .int 3)], [.ref c], M)) rfl h_o rfl rfl ?_
  refine ps_st (S' := (36, [(0, .ref o), (1, .int t), (2, .int (nI k)), (3, .int 3)], [.int t, .ref c], M)) rfl rfl rfl ?_
  refine ps_st (S' := (37, [(0, .ref o), (1, .int t), (2, .int (nI k)), (3, .int 3)], [.int (nI k), .int t, .ref c], M)) rfl rfl rfl ?_
  refine pl_call (a := [.ref c, .int t, .int (nI k)]) (rest := []) rfl rfl rfl (dk_memberAtF (c := c) (b := b) (q := q) (fr := fr) (mr := mr) (l := l) (u2 := u2) (u3 := u3) (u4 := u4) (u5 := u5) (w := w) (R := R) (t := t) (k := k) (a := a) h_c h_fr (ht) (hk) (hl) (hR)) (fun v1 M2 q3 => ?_)
  obtain ⟨rfl, rfl⟩ := q3
  show pl _ _ _ (40, [(1, .int t), (3, .int 3)], [.ref a], M) _
  refine ps_st (S' := (42, [(4, .ref a), (1, .int t), (3, .int 3)], [], M)) rfl rfl rfl ?_
  refine ps_st (S' := (44, [(4, .ref a), (1, .int t), (3, .int 3)], [.ref a], M)) rfl rfl rfl ?_
  refine ps_st (S' := (51, [(4, .ref a), (1, .int t), (3, .int 3)], [], M)) rfl rfl rfl ?_
  refine ps_st (S' := (53, [(4, .ref a), (1, .int t), (3, .int 3)], [.ref a], M)) rfl rfl rfl ?_
  refine ps_st (S' := (54, [(4, .ref a), (1, .int t), (3, .int 3)], [.int t, .ref a], M)) rfl rfl rfl ?_
  refine ps_st (S' := (55, [(4, .ref a), (1, .int t), (3, .int 3)], [.int 3, .int t, .ref a], M)) rfl rfl rfl ?_
  refine pl_call (a := [.ref a, .int t, .int 3]) (rest := []) rfl rfl rfl (dk_mnumF3 (a := a) (t := t) (m0 := m0) (m1 := m1) (m2 := m2) (m3 := m3) (m4 := m4) (m5 := m5) (m6 := m6) (m7 := m7) (m8 := m8) (m9 := m9) (mv := mv) h_a (ht)) (fun v4 M5 q6 => ?_)
  obtain ⟨rfl, rfl⟩ := q6
  show pl _ _ _ (58, [], [.int m6], M) _
  exact ps_reti rfl (⟨rfl, rfl⟩)
set_option maxHeartbeats 1000000 in
theorem dk_memberF4 {g : xe_G} {M : mi_H} {o ca fl : Nat} {cn wp : Int32} {c b q fr mr l : Nat} {u2 u3 u4 u5 : Int32} {w : List Value} {R : Nat → Value} {a : Nat} {m0 m1 m2 m3 m4 m5 m6 m7 m8 m9 : Int32} {t : Int32} {k : Nat} {mv : Value} (h_o : M.1 o = some (ob 11 [.ref ca, .int cn, .ref fl, .ref c, .int wp])) (h_c : M.1 c = some (ob 3 (.ref b :: .ref q :: .int u2 :: .int u3 :: .int u4 :: .int u5 :: .ref fr :: .ref mr :: w))) (h_fr : M.1 fr = some (ro "ClassGate$Member" l R)) (h_a : M.1 a = some (ob 6 [.int m0, .int m1, .int m2, .int m3, .int m4, .int m5, .int m6, .int m7, .int m8, .int m9, mv])) (ht : t = 0) (hk : k < l) (hl : l < 65536) (hR : R k = .ref a) : pt (mT g) 15 [.ref o, .int t, .int (nI k), .int 4] M (fun v M' => (v = some (.int m7) ∧ M = M')) := by
  refine pt_in (b := mb_15 g) rfl (fun kf => ?_)
  show pl (mT g) kf (mb_15 g).2 (0, [(0, .ref o), (1, .int t), (2, .int (nI k)), (3, .int 4)], [], M) _
  refine ps_st (S' := (1, [(0, .ref o), (1, .int t), (2, .int (nI k)), (3, .int 4)], [.int 4], M)) rfl rfl rfl ?_
  refine ps_if (S1 := (10, [(0, .ref o), (1, .int t), (2, .int (nI k)), (3, .int 4)], [], M)) (S2 := (4, [(0, .ref o), (1, .int t), (2, .int (nI k)), (3, .int 4)], [], M)) rfl rfl rfl (fun c_1 => ?_) (fun c_1 => ?_)
  · exact absurd (of_decide_eq_true c_1) (by decide)
  refine ps_st (S' := (5, [(0, .ref o), (1, .int t), (2, .int (nI k)), (3, .int 4)], [.int 4], M)) rfl rfl rfl ?_
  refine ps_st (S' := (7, [(0, .ref o), (1, .int t), (2, .int (nI k)), (3, .int 4)], [.int 9, .int 4], M)) rfl rfl rfl ?_
  refine ps_if2 (S1 := (20, [(0, .ref o), (1, .int t), (2, .int (nI k)), (3, .int 4)], [], M)) (S2 := (10, [(0, .ref o), (1, .int t), (2, .int (nI k)), (3, .int 4)], [], M)) rfl rfl rfl (fun c_7 => ?_) (fun c_7 => ?_)
  rotate_left
  · exact absurd (by decide) (of_decide_eq_false c_7)
  refine ps_st (S' := (21, [(0, .ref o), (1, .int t), (2, .int (nI k)), (3, .int 4)], [.ref o], M)) rfl rfl rfl ?_
  refine ps_get (S' := (24, [(0, .ref o), (1, .int t), (2, .int (nI k)), (3, .int 4)], [.ref c], M)) rfl h_o rfl rfl ?_
  refine ps_st (S' := (31, [(0, .ref o), (1, .int t), (2, .int (nI k)), (3, .int 4)], [], M)) rfl rfl rfl ?_
  refine ps_st (S' := (32, [(0, .ref o), (1, .int t), (2, .int (nI k)), (3, .int 4)], [.ref o], M)) rfl rfl rfl ?_
  refine ps_get (S' := (35, [(0, .ref o), (1, .int t), (2, .int (nI k)), (3, .int 4)], [.ref c], M)) rfl h_o rfl rfl ?_
  refine ps_st (S' := (36, [(0, .ref o), (1, .int t), (2, .int (nI k)), (3, .int 4)], [.int t, .ref c], M)) rfl rfl rfl ?_
  refine ps_st (S' := (37, [(0, .ref o), (1, .int t), (2, .int (nI k)), (3, .int 4)], [.int (nI k), .int t, .ref c], M)) rfl rfl rfl ?_
  refine pl_call (a := [.ref c, .int t, .int (nI k)]) (rest := []) rfl rfl rfl (dk_memberAtF (c := c) (b := b) (q := q) (fr := fr) (mr := mr) (l := l) (u2 := u2) (u3 := u3) (u4 := u4) (u5 := u5) (w := w) (R := R) (t := t) (k := k) (a := a) h_c h_fr (ht) (hk) (hl) (hR)) (fun v1 M2 q3 => ?_)
  obtain ⟨rfl, rfl⟩ := q3
  show pl _ _ _ (40, [(1, .int t), (3, .int 4)], [.ref a], M) _
  refine ps_st (S' := (42, [(4, .ref a), (1, .int t), (3, .int 4)], [], M)) rfl rfl rfl ?_
  refine ps_st (S' := (44, [(4, .ref a), (1, .int t), (3, .int 4)], [.ref a], M)) rfl rfl rfl ?_
  refine ps_st (S' := (51, [(4, .ref a), (1, .int t), (3, .int 4)], [], M)) rfl rfl rfl ?_
  refine ps_st (S' := (53, [(4, .ref a), (1, .int t), (3, .int 4)], [.ref a], M)) rfl rfl rfl ?_
  refine ps_st (S' := (54, [(4, .ref a), (1, .int t), (3, .int 4)], [.int t, .ref a], M)) rfl rfl rfl ?_
  refine ps_st (S' := (55, [(4, .ref a), (1, .int t), (3, .int 4)], [.int 4, .int t, .ref a], M)) rfl rfl rfl ?_
  refine pl_call (a := [.ref a, .int t, .int 4]) (rest := []) rfl rfl rfl (dk_mnumF4 (a := a) (t := t) (m0 := m0) (m1 := m1) (m2 := m2) (m3 := m3) (m4 := m4) (m5 := m5) (m6 := m6) (m7 := m7) (m8 := m8) (m9 := m9) (mv := mv) h_a (ht)) (fun v4 M5 q6 => ?_)
  obtain ⟨rfl, rfl⟩ := q6
  show pl _ _ _ (58, [], [.int m7], M) _
  exact ps_reti rfl (⟨rfl, rfl⟩)
set_option maxHeartbeats 1000000 in
theorem dk_memberF5 {g : xe_G} {M : mi_H} {o ca fl : Nat} {cn wp : Int32} {c b q fr mr l : Nat} {u2 u3 u4 u5 : Int32} {w : List Value} {R : Nat → Value} {a : Nat} {m0 m1 m2 m3 m4 m5 m6 m7 m8 m9 : Int32} {t : Int32} {k : Nat} {mv : Value} (h_o : M.1 o = some (ob 11 [.ref ca, .int cn, .ref fl, .ref c, .int wp])) (h_c : M.1 c = some (ob 3 (.ref b :: .ref q :: .int u2 :: .int u3 :: .int u4 :: .int u5 :: .ref fr :: .ref mr :: w))) (h_fr : M.1 fr = some (ro "ClassGate$Member" l R)) (h_a : M.1 a = some (ob 6 [.int m0, .int m1, .int m2, .int m3, .int m4, .int m5, .int m6, .int m7, .int m8, .int m9, mv])) (ht : t = 0) (hk : k < l) (hl : l < 65536) (hR : R k = .ref a) : pt (mT g) 15 [.ref o, .int t, .int (nI k), .int 5] M (fun v M' => (v = some (.int 0) ∧ M = M')) := by
  refine pt_in (b := mb_15 g) rfl (fun kf => ?_)
  show pl (mT g) kf (mb_15 g).2 (0, [(0, .ref o), (1, .int t), (2, .int (nI k)), (3, .int 5)], [], M) _
  refine ps_st (S' := (1, [(0, .ref o), (1, .int t), (2, .int (nI k)), (3, .int 5)], [.int 5], M)) rfl rfl rfl ?_
  refine ps_if (S1 := (10, [(0, .ref o), (1, .int t), (2, .int (nI k)), (3, .int 5)], [], M)) (S2 := (4, [(0, .ref o), (1, .int t), (2, .int (nI k)), (3, .int 5)], [], M)) rfl rfl rfl (fun c_1 => ?_) (fun c_1 => ?_)
  · exact absurd (of_decide_eq_true c_1) (by decide)
  refine ps_st (S' := (5, [(0, .ref o), (1, .int t), (2, .int (nI k)), (3, .int 5)], [.int 5], M)) rfl rfl rfl ?_
  refine ps_st (S' := (7, [(0, .ref o), (1, .int t), (2, .int (nI k)), (3, .int 5)], [.int 9, .int 5], M)) rfl rfl rfl ?_
  refine ps_if2 (S1 := (20, [(0, .ref o), (1, .int t), (2, .int (nI k)), (3, .int 5)], [], M)) (S2 := (10, [(0, .ref o), (1, .int t), (2, .int (nI k)), (3, .int 5)], [], M)) rfl rfl rfl (fun c_7 => ?_) (fun c_7 => ?_)
  rotate_left
  · exact absurd (by decide) (of_decide_eq_false c_7)
  refine ps_st (S' := (21, [(0, .ref o), (1, .int t), (2, .int (nI k)), (3, .int 5)], [.ref o], M)) rfl rfl rfl ?_
  refine ps_get (S' := (24, [(0, .ref o), (1, .int t), (2, .int (nI k)), (3, .int 5)], [.ref c], M)) rfl h_o rfl rfl ?_
  refine ps_st (S' := (31, [(0, .ref o), (1, .int t), (2, .int (nI k)), (3, .int 5)], [], M)) rfl rfl rfl ?_
  refine ps_st (S' := (32, [(0, .ref o), (1, .int t), (2, .int (nI k)), (3, .int 5)], [.ref o], M)) rfl rfl rfl ?_
  refine ps_get (S' := (35, [(0, .ref o), (1, .int t), (2, .int (nI k)), (3, .int 5)], [.ref c], M)) rfl h_o rfl rfl ?_
  refine ps_st (S' := (36, [(0, .ref o), (1, .int t), (2, .int (nI k)), (3, .int 5)], [.int t, .ref c], M)) rfl rfl rfl ?_
  refine ps_st (S' := (37, [(0, .ref o), (1, .int t), (2, .int (nI k)), (3, .int 5)], [.int (nI k), .int t, .ref c], M)) rfl rfl rfl ?_
  refine pl_call (a := [.ref c, .int t, .int (nI k)]) (rest := []) rfl rfl rfl (dk_memberAtF (c := c) (b := b) (q := q) (fr := fr) (mr := mr) (l := l) (u2 := u2) (u3 := u3) (u4 := u4) (u5 := u5) (w := w) (R := R) (t := t) (k := k) (a := a) h_c h_fr (ht) (hk) (hl) (hR)) (fun v1 M2 q3 => ?_)
  obtain ⟨rfl, rfl⟩ := q3
  show pl _ _ _ (40, [(1, .int t), (3, .int 5)], [.ref a], M) _
  refine ps_st (S' := (42, [(4, .ref a), (1, .int t), (3, .int 5)], [], M)) rfl rfl rfl ?_
  refine ps_st (S' := (44, [(4, .ref a), (1, .int t), (3, .int 5)], [.ref a], M)) rfl rfl rfl ?_
  refine ps_st (S' := (51, [(4, .ref a), (1, .int t), (3, .int 5)], [], M)) rfl rfl rfl ?_
  refine ps_st (S' := (53, [(4, .ref a), (1, .int t), (3, .int 5)], [.ref a], M)) rfl rfl rfl ?_
  refine ps_st (S' := (54, [(4, .ref a), (1, .int t), (3, .int 5)], [.int t, .ref a], M)) rfl rfl rfl ?_
  refine ps_st (S' := (55, [(4, .ref a), (1, .int t), (3, .int 5)], [.int 5, .int t, .ref a], M)) rfl rfl rfl ?_
  refine pl_call (a := [.ref a, .int t, .int 5]) (rest := []) rfl rfl rfl (dk_mnumF5 (a := a) (t := t) (m0 := m0) (m1 := m1) (m2 := m2) (m3 := m3) (m4 := m4) (m5 := m5) (m6 := m6) (m7 := m7) (m8 := m8) (m9 := m9) (mv := mv) h_a (ht)) (fun v4 M5 q6 => ?_)
  obtain ⟨rfl, rfl⟩ := q6
  show pl _ _ _ (58, [], [.int 0], M) _
  exact ps_ret rfl rfl (⟨rfl, rfl⟩)
set_option maxHeartbeats 1000000 in
theorem dk_memberF6 {g : xe_G} {M : mi_H} {o ca fl : Nat} {cn wp : Int32} {c b q fr mr l : Nat} {u2 u3 u4 u5 : Int32} {w : List Value} {R : Nat → Value} {a : Nat} {m0 m1 m2 m3 m4 m5 m6 m7 m8 m9 : Int32} {t : Int32} {k : Nat} {mv : Value} (h_o : M.1 o = some (ob 11 [.ref ca, .int cn, .ref fl, .ref c, .int wp])) (h_c : M.1 c = some (ob 3 (.ref b :: .ref q :: .int u2 :: .int u3 :: .int u4 :: .int u5 :: .ref fr :: .ref mr :: w))) (h_fr : M.1 fr = some (ro "ClassGate$Member" l R)) (h_a : M.1 a = some (ob 6 [.int m0, .int m1, .int m2, .int m3, .int m4, .int m5, .int m6, .int m7, .int m8, .int m9, mv])) (ht : t = 0) (hk : k < l) (hl : l < 65536) (hR : R k = .ref a) : pt (mT g) 15 [.ref o, .int t, .int (nI k), .int 6] M (fun v M' => (v = some (.int 0) ∧ M = M')) := by
  refine pt_in (b := mb_15 g) rfl (fun kf => ?_)
  show pl (mT g) kf (mb_15 g).2 (0, [(0, .ref o), (1, .int t), (2, .int (nI k)), (3, .int 6)], [], M) _
  refine ps_st (S' := (1, [(0, .ref o), (1, .int t), (2, .int (nI k)), (3, .int 6)], [.int 6], M)) rfl rfl rfl ?_
  refine ps_if (S1 := (10, [(0, .ref o), (1, .int t), (2, .int (nI k)), (3, .int 6)], [], M)) (S2 := (4, [(0, .ref o), (1, .int t), (2, .int (nI k)), (3, .int 6)], [], M)) rfl rfl rfl (fun c_1 => ?_) (fun c_1 => ?_)
  · exact absurd (of_decide_eq_true c_1) (by decide)
  refine ps_st (S' := (5, [(0, .ref o), (1, .int t), (2, .int (nI k)), (3, .int 6)], [.int 6], M)) rfl rfl rfl ?_
  refine ps_st (S' := (7, [(0, .ref o), (1, .int t), (2, .int (nI k)), (3, .int 6)], [.int 9, .int 6], M)) rfl rfl rfl ?_
  refine ps_if2 (S1 := (20, [(0, .ref o), (1, .int t), (2, .int (nI k)), (3, .int 6)], [], M)) (S2 := (10, [(0, .ref o), (1, .int t), (2, .int (nI k)), (3, .int 6)], [], M)) rfl rfl rfl (fun c_7 => ?_) (fun c_7 => ?_)
  rotate_left
  · exact absurd (by decide) (of_decide_eq_false c_7)
  refine ps_st (S' := (21, [(0, .ref o), (1, .int t), (2, .int (nI k)), (3, .int 6)], [.ref o], M)) rfl rfl rfl ?_
  refine ps_get (S' := (24, [(0, .ref o), (1, .int t), (2, .int (nI k)), (3, .int 6)], [.ref c], M)) rfl h_o rfl rfl ?_
  refine ps_st (S' := (31, [(0, .ref o), (1, .int t), (2, .int (nI k)), (3, .int 6)], [], M)) rfl rfl rfl ?_
  refine ps_st (S' := (32, [(0, .ref o), (1, .int t), (2, .int (nI k)), (3, .int 6)], [.ref o], M)) rfl rfl rfl ?_
  refine ps_get (S' := (35, [(0, .ref o), (1, .int t), (2, .int (nI k)), (3, .int 6)], [.ref c], M)) rfl h_o rfl rfl ?_
  refine ps_st (S' := (36, [(0, .ref o), (1, .int t), (2, .int (nI k)), (3, .int 6)], [.int t, .ref c], M)) rfl rfl rfl ?_
  refine ps_st (S' := (37, [(0, .ref o), (1, .int t), (2, .int (nI k)), (3, .int 6)], [.int (nI k), .int t, .ref c], M)) rfl rfl rfl ?_
  refine pl_call (a := [.ref c, .int t, .int (nI k)]) (rest := []) rfl rfl rfl (dk_memberAtF (c := c) (b := b) (q := q) (fr := fr) (mr := mr) (l := l) (u2 := u2) (u3 := u3) (u4 := u4) (u5 := u5) (w := w) (R := R) (t := t) (k := k) (a := a) h_c h_fr (ht) (hk) (hl) (hR)) (fun v1 M2 q3 => ?_)
  obtain ⟨rfl, rfl⟩ := q3
  show pl _ _ _ (40, [(1, .int t), (3, .int 6)], [.ref a], M) _
  refine ps_st (S' := (42, [(4, .ref a), (1, .int t), (3, .int 6)], [], M)) rfl rfl rfl ?_
  refine ps_st (S' := (44, [(4, .ref a), (1, .int t), (3, .int 6)], [.ref a], M)) rfl rfl rfl ?_
  refine ps_st (S' := (51, [(4, .ref a), (1, .int t), (3, .int 6)], [], M)) rfl rfl rfl ?_
  refine ps_st (S' := (53, [(4, .ref a), (1, .int t), (3, .int 6)], [.ref a], M)) rfl rfl rfl ?_
  refine ps_st (S' := (54, [(4, .ref a), (1, .int t), (3, .int 6)], [.int t, .ref a], M)) rfl rfl rfl ?_
  refine ps_st (S' := (55, [(4, .ref a), (1, .int t), (3, .int 6)], [.int 6, .int t, .ref a], M)) rfl rfl rfl ?_
  refine pl_call (a := [.ref a, .int t, .int 6]) (rest := []) rfl rfl rfl (dk_mnumF6 (a := a) (t := t) (m0 := m0) (m1 := m1) (m2 := m2) (m3 := m3) (m4 := m4) (m5 := m5) (m6 := m6) (m7 := m7) (m8 := m8) (m9 := m9) (mv := mv) h_a (ht)) (fun v4 M5 q6 => ?_)
  obtain ⟨rfl, rfl⟩ := q6
  show pl _ _ _ (58, [], [.int 0], M) _
  exact ps_ret rfl rfl (⟨rfl, rfl⟩)
set_option maxHeartbeats 1000000 in
theorem dk_memberF7 {g : xe_G} {M : mi_H} {o ca fl : Nat} {cn wp : Int32} {c b q fr mr l : Nat} {u2 u3 u4 u5 : Int32} {w : List Value} {R : Nat → Value} {a : Nat} {m0 m1 m2 m3 m4 m5 m6 m7 m8 m9 : Int32} {t : Int32} {k : Nat} {mv : Value} (h_o : M.1 o = some (ob 11 [.ref ca, .int cn, .ref fl, .ref c, .int wp])) (h_c : M.1 c = some (ob 3 (.ref b :: .ref q :: .int u2 :: .int u3 :: .int u4 :: .int u5 :: .ref fr :: .ref mr :: w))) (h_fr : M.1 fr = some (ro "ClassGate$Member" l R)) (h_a : M.1 a = some (ob 6 [.int m0, .int m1, .int m2, .int m3, .int m4, .int m5, .int m6, .int m7, .int m8, .int m9, mv])) (ht : t = 0) (hk : k < l) (hl : l < 65536) (hR : R k = .ref a) : pt (mT g) 15 [.ref o, .int t, .int (nI k), .int 7] M (fun v M' => (v = some (.int 0) ∧ M = M')) := by
  refine pt_in (b := mb_15 g) rfl (fun kf => ?_)
  show pl (mT g) kf (mb_15 g).2 (0, [(0, .ref o), (1, .int t), (2, .int (nI k)), (3, .int 7)], [], M) _
  refine ps_st (S' := (1, [(0, .ref o), (1, .int t), (2, .int (nI k)), (3, .int 7)], [.int 7], M)) rfl rfl rfl ?_
  refine ps_if (S1 := (10, [(0, .ref o), (1, .int t), (2, .int (nI k)), (3, .int 7)], [], M)) (S2 := (4, [(0, .ref o), (1, .int t), (2, .int (nI k)), (3, .int 7)], [], M)) rfl rfl rfl (fun c_1 => ?_) (fun c_1 => ?_)
  · exact absurd (of_decide_eq_true c_1) (by decide)
  refine ps_st (S' := (5, [(0, .ref o), (1, .int t), (2, .int (nI k)), (3, .int 7)], [.int 7], M)) rfl rfl rfl ?_
  refine ps_st (S' := (7, [(0, .ref o), (1, .int t), (2, .int (nI k)), (3, .int 7)], [.int 9, .int 7], M)) rfl rfl rfl ?_
  refine ps_if2 (S1 := (20, [(0, .ref o), (1, .int t), (2, .int (nI k)), (3, .int 7)], [], M)) (S2 := (10, [(0, .ref o), (1, .int t), (2, .int (nI k)), (3, .int 7)], [], M)) rfl rfl rfl (fun c_7 => ?_) (fun c_7 => ?_)
  rotate_left
  · exact absurd (by decide) (of_decide_eq_false c_7)
  refine ps_st (S' := (21, [(0, .ref o), (1, .int t), (2, .int (nI k)), (3, .int 7)], [.ref o], M)) rfl rfl rfl ?_
  refine ps_get (S' := (24, [(0, .ref o), (1, .int t), (2, .int (nI k)), (3, .int 7)], [.ref c], M)) rfl h_o rfl rfl ?_
  refine ps_st (S' := (31, [(0, .ref o), (1, .int t), (2, .int (nI k)), (3, .int 7)], [], M)) rfl rfl rfl ?_
  refine ps_st (S' := (32, [(0, .ref o), (1, .int t), (2, .int (nI k)), (3, .int 7)], [.ref o], M)) rfl rfl rfl ?_
  refine ps_get (S' := (35, [(0, .ref o), (1, .int t), (2, .int (nI k)), (3, .int 7)], [.ref c], M)) rfl h_o rfl rfl ?_
  refine ps_st (S' := (36, [(0, .ref o), (1, .int t), (2, .int (nI k)), (3, .int 7)], [.int t, .ref c], M)) rfl rfl rfl ?_
  refine ps_st (S' := (37, [(0, .ref o), (1, .int t), (2, .int (nI k)), (3, .int 7)], [.int (nI k), .int t, .ref c], M)) rfl rfl rfl ?_
  refine pl_call (a := [.ref c, .int t, .int (nI k)]) (rest := []) rfl rfl rfl (dk_memberAtF (c := c) (b := b) (q := q) (fr := fr) (mr := mr) (l := l) (u2 := u2) (u3 := u3) (u4 := u4) (u5 := u5) (w := w) (R := R) (t := t) (k := k) (a := a) h_c h_fr (ht) (hk) (hl) (hR)) (fun v1 M2 q3 => ?_)
  obtain ⟨rfl, rfl⟩ := q3
  show pl _ _ _ (40, [(1, .int t), (3, .int 7)], [.ref a], M) _
  refine ps_st (S' := (42, [(4, .ref a), (1, .int t), (3, .int 7)], [], M)) rfl rfl rfl ?_
  refine ps_st (S' := (44, [(4, .ref a), (1, .int t), (3, .int 7)], [.ref a], M)) rfl rfl rfl ?_
  refine ps_st (S' := (51, [(4, .ref a), (1, .int t), (3, .int 7)], [], M)) rfl rfl rfl ?_
  refine ps_st (S' := (53, [(4, .ref a), (1, .int t), (3, .int 7)], [.ref a], M)) rfl rfl rfl ?_
  refine ps_st (S' := (54, [(4, .ref a), (1, .int t), (3, .int 7)], [.int t, .ref a], M)) rfl rfl rfl ?_
  refine ps_st (S' := (55, [(4, .ref a), (1, .int t), (3, .int 7)], [.int 7, .int t, .ref a], M)) rfl rfl rfl ?_
  refine pl_call (a := [.ref a, .int t, .int 7]) (rest := []) rfl rfl rfl (dk_mnumF7 (a := a) (t := t) (m0 := m0) (m1 := m1) (m2 := m2) (m3 := m3) (m4 := m4) (m5 := m5) (m6 := m6) (m7 := m7) (m8 := m8) (m9 := m9) (mv := mv) h_a (ht)) (fun v4 M5 q6 => ?_)
  obtain ⟨rfl, rfl⟩ := q6
  show pl _ _ _ (58, [], [.int 0], M) _
  exact ps_ret rfl rfl (⟨rfl, rfl⟩)
set_option maxHeartbeats 1000000 in
theorem dk_memberF8 {g : xe_G} {M : mi_H} {o ca fl : Nat} {cn wp : Int32} {c b q fr mr l : Nat} {u2 u3 u4 u5 : Int32} {w : List Value} {R : Nat → Value} {a : Nat} {m0 m1 m2 m3 m4 m5 m6 m7 m8 m9 : Int32} {t : Int32} {k : Nat} {mv : Value} (h_o : M.1 o = some (ob 11 [.ref ca, .int cn, .ref fl, .ref c, .int wp])) (h_c : M.1 c = some (ob 3 (.ref b :: .ref q :: .int u2 :: .int u3 :: .int u4 :: .int u5 :: .ref fr :: .ref mr :: w))) (h_fr : M.1 fr = some (ro "ClassGate$Member" l R)) (h_a : M.1 a = some (ob 6 [.int m0, .int m1, .int m2, .int m3, .int m4, .int m5, .int m6, .int m7, .int m8, .int m9, mv])) (ht : t = 0) (hk : k < l) (hl : l < 65536) (hR : R k = .ref a) : pt (mT g) 15 [.ref o, .int t, .int (nI k), .int 8] M (fun v M' => (v = some (.int m8) ∧ M = M')) := by
  refine pt_in (b := mb_15 g) rfl (fun kf => ?_)
  show pl (mT g) kf (mb_15 g).2 (0, [(0, .ref o), (1, .int t), (2, .int (nI k)), (3, .int 8)], [], M) _
  refine ps_st (S' := (1, [(0, .ref o), (1, .int t), (2, .int (nI k)), (3, .int 8)], [.int 8], M)) rfl rfl rfl ?_
  refine ps_if (S1 := (10, [(0, .ref o), (1, .int t), (2, .int (nI k)), (3, .int 8)], [], M)) (S2 := (4, [(0, .ref o), (1, .int t), (2, .int (nI k)), (3, .int 8)], [], M)) rfl rfl rfl (fun c_1 => ?_) (fun c_1 => ?_)
  · exact absurd (of_decide_eq_true c_1) (by decide)
  refine ps_st (S' := (5, [(0, .ref o), (1, .int t), (2, .int (nI k)), (3, .int 8)], [.int 8], M)) rfl rfl rfl ?_
  refine ps_st (S' := (7, [(0, .ref o), (1, .int t), (2, .int (nI k)), (3, .int 8)], [.int 9, .int 8], M)) rfl rfl rfl ?_
  refine ps_if2 (S1 := (20, [(0, .ref o), (1, .int t), (2, .int (nI k)), (3, .int 8)], [], M)) (S2 := (10, [(0, .ref o), (1, .int t), (2, .int (nI k)), (3, .int 8)], [], M)) rfl rfl rfl (fun c_7 => ?_) (fun c_7 => ?_)
  rotate_left
  · exact absurd (by decide) (of_decide_eq_false c_7)
  refine ps_st (S' := (21, [(0, .ref o), (1, .int t), (2, .int (nI k)), (3, .int 8)], [.ref o], M)) rfl rfl rfl ?_
  refine ps_get (S' := (24, [(0, .ref o), (1, .int t), (2, .int (nI k)), (3, .int 8)], [.ref c], M)) rfl h_o rfl rfl ?_
  refine ps_st (S' := (31, [(0, .ref o), (1, .int t), (2, .int (nI k)), (3, .int 8)], [], M)) rfl rfl rfl ?_
  refine ps_st (S' := (32, [(0, .ref o), (1, .int t), (2, .int (nI k)), (3, .int 8)], [.ref o], M)) rfl rfl rfl ?_
  refine ps_get (S' := (35, [(0, .ref o), (1, .int t), (2, .int (nI k)), (3, .int 8)], [.ref c], M)) rfl h_o rfl rfl ?_
  refine ps_st (S' := (36, [(0, .ref o), (1, .int t), (2, .int (nI k)), (3, .int 8)], [.int t, .ref c], M)) rfl rfl rfl ?_
  refine ps_st (S' := (37, [(0, .ref o), (1, .int t), (2, .int (nI k)), (3, .int 8)], [.int (nI k), .int t, .ref c], M)) rfl rfl rfl ?_
  refine pl_call (a := [.ref c, .int t, .int (nI k)]) (rest := []) rfl rfl rfl (dk_memberAtF (c := c) (b := b) (q := q) (fr := fr) (mr := mr) (l := l) (u2 := u2) (u3 := u3) (u4 := u4) (u5 := u5) (w := w) (R := R) (t := t) (k := k) (a := a) h_c h_fr (ht) (hk) (hl) (hR)) (fun v1 M2 q3 => ?_)
  obtain ⟨rfl, rfl⟩ := q3
  show pl _ _ _ (40, [(1, .int t), (3, .int 8)], [.ref a], M) _
  refine ps_st (S' := (42, [(4, .ref a), (1, .int t), (3, .int 8)], [], M)) rfl rfl rfl ?_
  refine ps_st (S' := (44, [(4, .ref a), (1, .int t), (3, .int 8)], [.ref a], M)) rfl rfl rfl ?_
  refine ps_st (S' := (51, [(4, .ref a), (1, .int t), (3, .int 8)], [], M)) rfl rfl rfl ?_
  refine ps_st (S' := (53, [(4, .ref a), (1, .int t), (3, .int 8)], [.ref a], M)) rfl rfl rfl ?_
  refine ps_st (S' := (54, [(4, .ref a), (1, .int t), (3, .int 8)], [.int t, .ref a], M)) rfl rfl rfl ?_
  refine ps_st (S' := (55, [(4, .ref a), (1, .int t), (3, .int 8)], [.int 8, .int t, .ref a], M)) rfl rfl rfl ?_
  refine pl_call (a := [.ref a, .int t, .int 8]) (rest := []) rfl rfl rfl (dk_mnumF8 (a := a) (t := t) (m0 := m0) (m1 := m1) (m2 := m2) (m3 := m3) (m4 := m4) (m5 := m5) (m6 := m6) (m7 := m7) (m8 := m8) (m9 := m9) (mv := mv) h_a (ht)) (fun v4 M5 q6 => ?_)
  obtain ⟨rfl, rfl⟩ := q6
  show pl _ _ _ (58, [], [.int m8], M) _
  exact ps_reti rfl (⟨rfl, rfl⟩)
set_option maxHeartbeats 1000000 in
theorem dk_memberF9 {g : xe_G} {M : mi_H} {o ca fl : Nat} {cn wp : Int32} {c b q fr mr l : Nat} {u2 u3 u4 u5 : Int32} {w : List Value} {R : Nat → Value} {a : Nat} {m0 m1 m2 m3 m4 m5 m6 m7 m8 m9 : Int32} {t : Int32} {k : Nat} {mv : Value} (h_o : M.1 o = some (ob 11 [.ref ca, .int cn, .ref fl, .ref c, .int wp])) (h_c : M.1 c = some (ob 3 (.ref b :: .ref q :: .int u2 :: .int u3 :: .int u4 :: .int u5 :: .ref fr :: .ref mr :: w))) (h_fr : M.1 fr = some (ro "ClassGate$Member" l R)) (h_a : M.1 a = some (ob 6 [.int m0, .int m1, .int m2, .int m3, .int m4, .int m5, .int m6, .int m7, .int m8, .int m9, mv])) (ht : t = 0) (hk : k < l) (hl : l < 65536) (hR : R k = .ref a) : pt (mT g) 15 [.ref o, .int t, .int (nI k), .int 9] M (fun v M' => (v = some (.int m9) ∧ M = M')) := by
  refine pt_in (b := mb_15 g) rfl (fun kf => ?_)
  show pl (mT g) kf (mb_15 g).2 (0, [(0, .ref o), (1, .int t), (2, .int (nI k)), (3, .int 9)], [], M) _
  refine ps_st (S' := (1, [(0, .ref o), (1, .int t), (2, .int (nI k)), (3, .int 9)], [.int 9], M)) rfl rfl rfl ?_
  refine ps_if (S1 := (10, [(0, .ref o), (1, .int t), (2, .int (nI k)), (3, .int 9)], [], M)) (S2 := (4, [(0, .ref o), (1, .int t), (2, .int (nI k)), (3, .int 9)], [], M)) rfl rfl rfl (fun c_1 => ?_) (fun c_1 => ?_)
  · exact absurd (of_decide_eq_true c_1) (by decide)
  refine ps_st (S' := (5, [(0, .ref o), (1, .int t), (2, .int (nI k)), (3, .int 9)], [.int 9], M)) rfl rfl rfl ?_
  refine ps_st (S' := (7, [(0, .ref o), (1, .int t), (2, .int (nI k)), (3, .int 9)], [.int 9, .int 9], M)) rfl rfl rfl ?_
  refine ps_if2 (S1 := (20, [(0, .ref o), (1, .int t), (2, .int (nI k)), (3, .int 9)], [], M)) (S2 := (10, [(0, .ref o), (1, .int t), (2, .int (nI k)), (3, .int 9)], [], M)) rfl rfl rfl (fun c_7 => ?_) (fun c_7 => ?_)
  rotate_left
  · exact absurd (by decide) (of_decide_eq_false c_7)
  refine ps_st (S' := (21, [(0, .ref o), (1, .int t), (2, .int (nI k)), (3, .int 9)], [.ref o], M)) rfl rfl rfl ?_
  refine ps_get (S' := (24, [(0, .ref o), (1, .int t), (2, .int (nI k)), (3, .int 9)], [.ref c], M)) rfl h_o rfl rfl ?_
  refine ps_st (S' := (31, [(0, .ref o), (1, .int t), (2, .int (nI k)), (3, .int 9)], [], M)) rfl rfl rfl ?_
  refine ps_st (S' := (32, [(0, .ref o), (1, .int t), (2, .int (nI k)), (3, .int 9)], [.ref o], M)) rfl rfl rfl ?_
  refine ps_get (S' := (35, [(0, .ref o), (1, .int t), (2, .int (nI k)), (3, .int 9)], [.ref c], M)) rfl h_o rfl rfl ?_
  refine ps_st (S' := (36, [(0, .ref o), (1, .int t), (2, .int (nI k)), (3, .int 9)], [.int t, .ref c], M)) rfl rfl rfl ?_
  refine ps_st (S' := (37, [(0, .ref o), (1, .int t), (2, .int (nI k)), (3, .int 9)], [.int (nI k), .int t, .ref c], M)) rfl rfl rfl ?_
  refine pl_call (a := [.ref c, .int t, .int (nI k)]) (rest := []) rfl rfl rfl (dk_memberAtF (c := c) (b := b) (q := q) (fr := fr) (mr := mr) (l := l) (u2 := u2) (u3 := u3) (u4 := u4) (u5 := u5) (w := w) (R := R) (t := t) (k := k) (a := a) h_c h_fr (ht) (hk) (hl) (hR)) (fun v1 M2 q3 => ?_)
  obtain ⟨rfl, rfl⟩ := q3
  show pl _ _ _ (40, [(1, .int t), (3, .int 9)], [.ref a], M) _
  refine ps_st (S' := (42, [(4, .ref a), (1, .int t), (3, .int 9)], [], M)) rfl rfl rfl ?_
  refine ps_st (S' := (44, [(4, .ref a), (1, .int t), (3, .int 9)], [.ref a], M)) rfl rfl rfl ?_
  refine ps_st (S' := (51, [(4, .ref a), (1, .int t), (3, .int 9)], [], M)) rfl rfl rfl ?_
  refine ps_st (S' := (53, [(4, .ref a), (1, .int t), (3, .int 9)], [.ref a], M)) rfl rfl rfl ?_
  refine ps_st (S' := (54, [(4, .ref a), (1, .int t), (3, .int 9)], [.int t, .ref a], M)) rfl rfl rfl ?_
  refine ps_st (S' := (55, [(4, .ref a), (1, .int t), (3, .int 9)], [.int 9, .int t, .ref a], M)) rfl rfl rfl ?_
  refine pl_call (a := [.ref a, .int t, .int 9]) (rest := []) rfl rfl rfl (dk_mnumF9 (a := a) (t := t) (m0 := m0) (m1 := m1) (m2 := m2) (m3 := m3) (m4 := m4) (m5 := m5) (m6 := m6) (m7 := m7) (m8 := m8) (m9 := m9) (mv := mv) h_a (ht)) (fun v4 M5 q6 => ?_)
  obtain ⟨rfl, rfl⟩ := q6
  show pl _ _ _ (58, [], [.int m9], M) _
  exact ps_reti rfl (⟨rfl, rfl⟩)
set_option maxHeartbeats 1000000 in
theorem dk_memberNM {g : xe_G} {M : mi_H} {o ca fl : Nat} {cn wp : Int32} {c b q fr mr l : Nat} {u2 u3 u4 u5 : Int32} {w : List Value} {R : Nat → Value} {t i x : Int32} (h_o : M.1 o = some (ob 11 [.ref ca, .int cn, .ref fl, .ref c, .int wp])) (h_c : M.1 c = some (ob 3 (.ref b :: .ref q :: .int u2 :: .int u3 :: .int u4 :: .int u5 :: .ref fr :: .ref mr :: w))) (h_mr : M.1 mr = some (ro "ClassGate$Member" l R)) (h0 : ¬ x < 0) (h1 : x ≤ 9) (ht : ¬ t = 0) (hi : i < 0 ∨ nI l ≤ i) : pt (mT g) 15 [.ref o, .int t, .int i, .int x] M (fun v M' => (v = some (.int (-1)) ∧ M = M')) := by
  refine pt_in (b := mb_15 g) rfl (fun kf => ?_)
  show pl (mT g) kf (mb_15 g).2 (0, [(0, .ref o), (1, .int t), (2, .int i), (3, .int x)], [], M) _
  refine ps_st (S' := (1, [(0, .ref o), (1, .int t), (2, .int i), (3, .int x)], [.int x], M)) rfl rfl rfl ?_
  refine ps_if (S1 := (10, [(0, .ref o), (1, .int t), (2, .int i), (3, .int x)], [], M)) (S2 := (4, [(0, .ref o), (1, .int t), (2, .int i), (3, .int x)], [], M)) rfl rfl rfl (fun c_1 => ?_) (fun c_1 => ?_)
  · exact absurd (of_decide_eq_true c_1) (h0)
  refine ps_st (S' := (5, [(0, .ref o), (1, .int t), (2, .int i), (3, .int x)], [.int x], M)) rfl rfl rfl ?_
  refine ps_st (S' := (7, [(0, .ref o), (1, .int t), (2, .int i), (3, .int x)], [.int 9, .int x], M)) rfl rfl rfl ?_
  refine ps_if2 (S1 := (20, [(0, .ref o), (1, .int t), (2, .int i), (3, .int x)], [], M)) (S2 := (10, [(0, .ref o), (1, .int t), (2, .int i), (3, .int x)], [], M)) rfl rfl rfl (fun c_7 => ?_) (fun c_7 => ?_)
  rotate_left
  · exact absurd (h1) (of_decide_eq_false c_7)
  refine ps_st (S' := (21, [(0, .ref o), (1, .int t), (2, .int i), (3, .int x)], [.ref o], M)) rfl rfl rfl ?_
  refine ps_get (S' := (24, [(0, .ref o), (1, .int t), (2, .int i), (3, .int x)], [.ref c], M)) rfl h_o rfl rfl ?_
  refine ps_st (S' := (31, [(0, .ref o), (1, .int t), (2, .int i), (3, .int x)], [], M)) rfl rfl rfl ?_
  refine ps_st (S' := (32, [(0, .ref o), (1, .int t), (2, .int i), (3, .int x)], [.ref o], M)) rfl rfl rfl ?_
  refine ps_get (S' := (35, [(0, .ref o), (1, .int t), (2, .int i), (3, .int x)], [.ref c], M)) rfl h_o rfl rfl ?_
  refine ps_st (S' := (36, [(0, .ref o), (1, .int t), (2, .int i), (3, .int x)], [.int t, .ref c], M)) rfl rfl rfl ?_
  refine ps_st (S' := (37, [(0, .ref o), (1, .int t), (2, .int i), (3, .int x)], [.int i, .int t, .ref c], M)) rfl rfl rfl ?_
  refine pl_call (a := [.ref c, .int t, .int i]) (rest := []) rfl rfl rfl (dk_memberAtNM (c := c) (b := b) (q := q) (fr := fr) (mr := mr) (l := l) (u2 := u2) (u3 := u3) (u4 := u4) (u5 := u5) (w := w) (R := R) (t := t) (i := i) h_c h_mr (ht) (hi)) (fun v1 M2 q3 => ?_)
  obtain ⟨rfl, rfl⟩ := q3
  show pl _ _ _ (40, [(1, .int t), (3, .int x)], [.null], M) _
  refine ps_st (S' := (42, [(4, .null), (1, .int t), (3, .int x)], [], M)) rfl rfl rfl ?_
  refine ps_st (S' := (44, [(4, .null), (1, .int t), (3, .int x)], [.null], M)) rfl rfl rfl ?_
  refine ps_st (S' := (47, [(4, .null), (1, .int t), (3, .int x)], [], M)) rfl rfl rfl ?_
  refine ps_st (S' := (48, [(4, .null), (1, .int t), (3, .int x)], [.int (-1)], M)) rfl rfl rfl ?_
  refine ps_st (S' := (58, [], [.int (-1)], M)) rfl rfl rfl ?_
  exact ps_ret rfl rfl (⟨rfl, rfl⟩)
set_option maxHeartbeats 1000000 in
theorem dk_memberM0 {g : xe_G} {M : mi_H} {o ca fl : Nat} {cn wp : Int32} {c b q fr mr l : Nat} {u2 u3 u4 u5 : Int32} {w : List Value} {R : Nat → Value} {a : Nat} {m0 m1 m2 m3 m4 m5 m6 m7 m8 m9 : Int32} {t : Int32} {k : Nat} {mv : Value} (h_o : M.1 o = some (ob 11 [.ref ca, .int cn, .ref fl, .ref c, .int wp])) (h_c : M.1 c = some (ob 3 (.ref b :: .ref q :: .int u2 :: .int u3 :: .int u4 :: .int u5 :: .ref fr :: .ref mr :: w))) (h_mr : M.1 mr = some (ro "ClassGate$Member" l R)) (h_a : M.1 a = some (ob 6 [.int m0, .int m1, .int m2, .int m3, .int m4, .int m5, .int m6, .int m7, .int m8, .int m9, mv])) (ht : ¬ t = 0) (hk : k < l) (hl : l < 65536) (hR : R k = .ref a) : pt (mT g) 15 [.ref o, .int t, .int (nI k), .int 0] M (fun v M' => (v = some (.int m1) ∧ M = M')) := by
  refine pt_in (b := mb_15 g) rfl (fun kf => ?_)
  show pl (mT g) kf (mb_15 g).2 (0, [(0, .ref o), (1, .int t), (2, .int (nI k)), (3, .int 0)], [], M) _
  refine ps_st (S' := (1, [(0, .ref o), (1, .int t), (2, .int (nI k)), (3, .int 0)], [.int 0], M)) rfl rfl rfl ?_
  refine ps_if (S1 := (10, [(0, .ref o), (1, .int t), (2, .int (nI k)), (3, .int 0)], [], M)) (S2 := (4, [(0, .ref o), (1, .int t), (2, .int (nI k)), (3, .int 0)], [], M)) rfl rfl rfl (fun c_1 => ?_) (fun c_1 => ?_)
  · exact absurd (of_decide_eq_true c_1) (by decide)
  refine ps_st (S' := (5, [(0, .ref o), (1, .int t), (2, .int (nI k)), (3, .int 0)], [.int 0], M)) rfl rfl rfl ?_
  refine ps_st (S' := (7, [(0, .ref o), (1, .int t), (2, .int (nI k)), (3, .int 0)], [.int 9, .int 0], M)) rfl rfl rfl ?_
  refine ps_if2 (S1 := (20, [(0, .ref o), (1, .int t), (2, .int (nI k)), (3, .int 0)], [], M)) (S2 := (10, [(0, .ref o), (1, .int t), (2, .int (nI k)), (3, .int 0)], [], M)) rfl rfl rfl (fun c_7 => ?_) (fun c_7 => ?_)
  rotate_left
  · exact absurd (by decide) (of_decide_eq_false c_7)
  refine ps_st (S' := (21, [(0, .ref o), (1, .int t), (2, .int (nI k)), (3, .int 0)], [.ref o], M)) rfl rfl rfl ?_
  refine ps_get (S' := (24, [(0, .ref o), (1, .int t), (2, .int (nI k)), (3, .int 0)], [.ref c], M)) rfl h_o rfl rfl ?_
  refine ps_st (S' := (31, [(0, .ref o), (1, .int t), (2, .int (nI k)), (3, .int 0)], [], M)) rfl rfl rfl ?_
  refine ps_st (S' := (32, [(0, .ref o), (1, .int t), (2, .int (nI k)), (3, .int 0)], [.ref o], M)) rfl rfl rfl ?_
  refine ps_get (S' := (35, [(0, .ref o), (1, .int t), (2, .int (nI k)), (3, .int 0)], [.ref c], M)) rfl h_o rfl rfl ?_
  refine ps_st (S' := (36, [(0, .ref o), (1, .int t), (2, .int (nI k)), (3, .int 0)], [.int t, .ref c], M)) rfl rfl rfl ?_
  refine ps_st (S' := (37, [(0, .ref o), (1, .int t), (2, .int (nI k)), (3, .int 0)], [.int (nI k), .int t, .ref c], M)) rfl rfl rfl ?_
  refine pl_call (a := [.ref c, .int t, .int (nI k)]) (rest := []) rfl rfl rfl (dk_memberAtM (c := c) (b := b) (q := q) (fr := fr) (mr := mr) (l := l) (u2 := u2) (u3 := u3) (u4 := u4) (u5 := u5) (w := w) (R := R) (t := t) (k := k) (a := a) h_c h_mr (ht) (hk) (hl) (hR)) (fun v1 M2 q3 => ?_)
  obtain ⟨rfl, rfl⟩ := q3
  show pl _ _ _ (40, [(1, .int t), (3, .int 0)], [.ref a], M) _
  refine ps_st (S' := (42, [(4, .ref a), (1, .int t), (3, .int 0)], [], M)) rfl rfl rfl ?_
  refine ps_st (S' := (44, [(4, .ref a), (1, .int t), (3, .int 0)], [.ref a], M)) rfl rfl rfl ?_
  refine ps_st (S' := (51, [(4, .ref a), (1, .int t), (3, .int 0)], [], M)) rfl rfl rfl ?_
  refine ps_st (S' := (53, [(4, .ref a), (1, .int t), (3, .int 0)], [.ref a], M)) rfl rfl rfl ?_
  refine ps_st (S' := (54, [(4, .ref a), (1, .int t), (3, .int 0)], [.int t, .ref a], M)) rfl rfl rfl ?_
  refine ps_st (S' := (55, [(4, .ref a), (1, .int t), (3, .int 0)], [.int 0, .int t, .ref a], M)) rfl rfl rfl ?_
  refine pl_call (a := [.ref a, .int t, .int 0]) (rest := []) rfl rfl rfl (dk_mnumM0 (a := a) (t := t) (m0 := m0) (m1 := m1) (m2 := m2) (m3 := m3) (m4 := m4) (m5 := m5) (m6 := m6) (m7 := m7) (m8 := m8) (m9 := m9) (mv := mv) h_a (ht)) (fun v4 M5 q6 => ?_)
  obtain ⟨rfl, rfl⟩ := q6
  show pl _ _ _ (58, [], [.int m1], M) _
  exact ps_reti rfl (⟨rfl, rfl⟩)
set_option maxHeartbeats 1000000 in
theorem dk_memberM1 {g : xe_G} {M : mi_H} {o ca fl : Nat} {cn wp : Int32} {c b q fr mr l : Nat} {u2 u3 u4 u5 : Int32} {w : List Value} {R : Nat → Value} {a : Nat} {m0 m1 m2 m3 m4 m5 m6 m7 m8 m9 : Int32} {t : Int32} {k : Nat} {mv : Value} (h_o : M.1 o = some (ob 11 [.ref ca, .int cn, .ref fl, .ref c, .int wp])) (h_c : M.1 c = some (ob 3 (.ref b :: .ref q :: .int u2 :: .int u3 :: .int u4 :: .int u5 :: .ref fr :: .ref mr :: w))) (h_mr : M.1 mr = some (ro "ClassGate$Member" l R)) (h_a : M.1 a = some (ob 6 [.int m0, .int m1, .int m2, .int m3, .int m4, .int m5, .int m6, .int m7, .int m8, .int m9, mv])) (ht : ¬ t = 0) (hk : k < l) (hl : l < 65536) (hR : R k = .ref a) : pt (mT g) 15 [.ref o, .int t, .int (nI k), .int 1] M (fun v M' => (v = some (.int m2) ∧ M = M')) := by
  refine pt_in (b := mb_15 g) rfl (fun kf => ?_)
  show pl (mT g) kf (mb_15 g).2 (0, [(0, .ref o), (1, .int t), (2, .int (nI k)), (3, .int 1)], [], M) _
  refine ps_st (S' := (1, [(0, .ref o), (1, .int t), (2, .int (nI k)), (3, .int 1)], [.int 1], M)) rfl rfl rfl ?_
  refine ps_if (S1 := (10, [(0, .ref o), (1, .int t), (2, .int (nI k)), (3, .int 1)], [], M)) (S2 := (4, [(0, .ref o), (1, .int t), (2, .int (nI k)), (3, .int 1)], [], M)) rfl rfl rfl (fun c_1 => ?_) (fun c_1 => ?_)
  · exact absurd (of_decide_eq_true c_1) (by decide)
  refine ps_st (S' := (5, [(0, .ref o), (1, .int t), (2, .int (nI k)), (3, .int 1)], [.int 1], M)) rfl rfl rfl ?_
  refine ps_st (S' := (7, [(0, .ref o), (1, .int t), (2, .int (nI k)), (3, .int 1)], [.int 9, .int 1], M)) rfl rfl rfl ?_
  refine ps_if2 (S1 := (20, [(0, .ref o), (1, .int t), (2, .int (nI k)), (3, .int 1)], [], M)) (S2 := (10, [(0, .ref o), (1, .int t), (2, .int (nI k)), (3, .int 1)], [], M)) rfl rfl rfl (fun c_7 => ?_) (fun c_7 => ?_)
  rotate_left
  · exact absurd (by decide) (of_decide_eq_false c_7)
  refine ps_st (S' := (21, [(0, .ref o), (1, .int t), (2, .int (nI k)), (3, .int 1)], [.ref o], M)) rfl rfl rfl ?_
  refine ps_get (S' := (24, [(0, .ref o), (1, .int t), (2, .int (nI k)), (3, .int 1)], [.ref c], M)) rfl h_o rfl rfl ?_
  refine ps_st (S' := (31, [(0, .ref o), (1, .int t), (2, .int (nI k)), (3, .int 1)], [], M)) rfl rfl rfl ?_
  refine ps_st (S' := (32, [(0, .ref o), (1, .int t), (2, .int (nI k)), (3, .int 1)], [.ref o], M)) rfl rfl rfl ?_
  refine ps_get (S' := (35, [(0, .ref o), (1, .int t), (2, .int (nI k)), (3, .int 1)], [.ref c], M)) rfl h_o rfl rfl ?_
  refine ps_st (S' := (36, [(0, .ref o), (1, .int t), (2, .int (nI k)), (3, .int 1)], [.int t, .ref c], M)) rfl rfl rfl ?_
  refine ps_st (S' := (37, [(0, .ref o), (1, .int t), (2, .int (nI k)), (3, .int 1)], [.int (nI k), .int t, .ref c], M)) rfl rfl rfl ?_
  refine pl_call (a := [.ref c, .int t, .int (nI k)]) (rest := []) rfl rfl rfl (dk_memberAtM (c := c) (b := b) (q := q) (fr := fr) (mr := mr) (l := l) (u2 := u2) (u3 := u3) (u4 := u4) (u5 := u5) (w := w) (R := R) (t := t) (k := k) (a := a) h_c h_mr (ht) (hk) (hl) (hR)) (fun v1 M2 q3 => ?_)
  obtain ⟨rfl, rfl⟩ := q3
  show pl _ _ _ (40, [(1, .int t), (3, .int 1)], [.ref a], M) _
  refine ps_st (S' := (42, [(4, .ref a), (1, .int t), (3, .int 1)], [], M)) rfl rfl rfl ?_
  refine ps_st (S' := (44, [(4, .ref a), (1, .int t), (3, .int 1)], [.ref a], M)) rfl rfl rfl ?_
  refine ps_st (S' := (51, [(4, .ref a), (1, .int t), (3, .int 1)], [], M)) rfl rfl rfl ?_
  refine ps_st (S' := (53, [(4, .ref a), (1, .int t), (3, .int 1)], [.ref a], M)) rfl rfl rfl ?_
  refine ps_st (S' := (54, [(4, .ref a), (1, .int t), (3, .int 1)], [.int t, .ref a], M)) rfl rfl rfl ?_
  refine ps_st (S' := (55, [(4, .ref a), (1, .int t), (3, .int 1)], [.int 1, .int t, .ref a], M)) rfl rfl rfl ?_
  refine pl_call (a := [.ref a, .int t, .int 1]) (rest := []) rfl rfl rfl (dk_mnumM1 (a := a) (t := t) (m0 := m0) (m1 := m1) (m2 := m2) (m3 := m3) (m4 := m4) (m5 := m5) (m6 := m6) (m7 := m7) (m8 := m8) (m9 := m9) (mv := mv) h_a (ht)) (fun v4 M5 q6 => ?_)
  obtain ⟨rfl, rfl⟩ := q6
  show pl _ _ _ (58, [], [.int m2], M) _
  exact ps_reti rfl (⟨rfl, rfl⟩)
set_option maxHeartbeats 1000000 in
theorem dk_memberM2 {g : xe_G} {M : mi_H} {o ca fl : Nat} {cn wp : Int32} {c b q fr mr l : Nat} {u2 u3 u4 u5 : Int32} {w : List Value} {R : Nat → Value} {a : Nat} {m0 m1 m2 m3 m4 m5 m6 m7 m8 m9 : Int32} {t : Int32} {k : Nat} {mv : Value} (h_o : M.1 o = some (ob 11 [.ref ca, .int cn, .ref fl, .ref c, .int wp])) (h_c : M.1 c = some (ob 3 (.ref b :: .ref q :: .int u2 :: .int u3 :: .int u4 :: .int u5 :: .ref fr :: .ref mr :: w))) (h_mr : M.1 mr = some (ro "ClassGate$Member" l R)) (h_a : M.1 a = some (ob 6 [.int m0, .int m1, .int m2, .int m3, .int m4, .int m5, .int m6, .int m7, .int m8, .int m9, mv])) (ht : ¬ t = 0) (hk : k < l) (hl : l < 65536) (hR : R k = .ref a) : pt (mT g) 15 [.ref o, .int t, .int (nI k), .int 2] M (fun v M' => (v = some (.int m3) ∧ M = M')) := by
  refine pt_in (b := mb_15 g) rfl (fun kf => ?_)
  show pl (mT g) kf (mb_15 g).2 (0, [(0, .ref o), (1, .int t), (2, .int (nI k)), (3, .int 2)], [], M) _
  refine ps_st (S' := (1, [(0, .ref o), (1, .int t), (2, .int (nI k)), (3, .int 2)], [.int 2], M)) rfl rfl rfl ?_
  refine ps_if (S1 := (10, [(0, .ref o), (1, .int t), (2, .int (nI k)), (3, .int 2)], [], M)) (S2 := (4, [(0, .ref o), (1, .int t), (2, .int (nI k)), (3, .int 2)], [], M)) rfl rfl rfl (fun c_1 => ?_) (fun c_1 => ?_)
  · exact absurd (of_decide_eq_true c_1) (by decide)
  refine ps_st (S' := (5, [(0, .ref o), (1, .int t), (2, .int (nI k)), (3, .int 2)], [.int 2], M)) rfl rfl rfl ?_
  refine ps_st (S' := (7, [(0, .ref o), (1, .int t), (2, .int (nI k)), (3, .int 2)], [.int 9, .int 2], M)) rfl rfl rfl ?_
  refine ps_if2 (S1 := (20, [(0, .ref o), (1, .int t), (2, .int (nI k)), (3, .int 2)], [], M)) (S2 := (10, [(0, .ref o), (1, .int t), (2, .int (nI k)), (3, .int 2)], [], M)) rfl rfl rfl (fun c_7 => ?_) (fun c_7 => ?_)
  rotate_left
  · exact absurd (by decide) (of_decide_eq_false c_7)
  refine ps_st (S' := (21, [(0, .ref o), (1, .int t), (2, .int (nI k)), (3, .int 2)], [.ref o], M)) rfl rfl rfl ?_
  refine ps_get (S' := (24, [(0, .ref o), (1, .int t), (2, .int (nI k)), (3, .int 2)], [.ref c], M)) rfl h_o rfl rfl ?_
  refine ps_st (S' := (31, [(0, .ref o), (1, .int t), (2, .int (nI k)), (3, .int 2)], [], M)) rfl rfl rfl ?_
  refine ps_st (S' := (32, [(0, .ref o), (1, .int t), (2, .int (nI k)), (3, .int 2)], [.ref o], M)) rfl rfl rfl ?_
  refine ps_get (S' := (35, [(0, .ref o), (1, .int t), (2, .int (nI k)), (3, .int 2)], [.ref c], M)) rfl h_o rfl rfl ?_
  refine ps_st (S' := (36, [(0, .ref o), (1, .int t), (2, .int (nI k)), (3, .int 2)], [.int t, .ref c], M)) rfl rfl rfl ?_
  refine ps_st (S' := (37, [(0, .ref o), (1, .int t), (2, .int (nI k)), (3, .int 2)], [.int (nI k), .int t, .ref c], M)) rfl rfl rfl ?_
  refine pl_call (a := [.ref c, .int t, .int (nI k)]) (rest := []) rfl rfl rfl (dk_memberAtM (c := c) (b := b) (q := q) (fr := fr) (mr := mr) (l := l) (u2 := u2) (u3 := u3) (u4 := u4) (u5 := u5) (w := w) (R := R) (t := t) (k := k) (a := a) h_c h_mr (ht) (hk) (hl) (hR)) (fun v1 M2 q3 => ?_)
  obtain ⟨rfl, rfl⟩ := q3
  show pl _ _ _ (40, [(1, .int t), (3, .int 2)], [.ref a], M) _
  refine ps_st (S' := (42, [(4, .ref a), (1, .int t), (3, .int 2)], [], M)) rfl rfl rfl ?_
  refine ps_st (S' := (44, [(4, .ref a), (1, .int t), (3, .int 2)], [.ref a], M)) rfl rfl rfl ?_
  refine ps_st (S' := (51, [(4, .ref a), (1, .int t), (3, .int 2)], [], M)) rfl rfl rfl ?_
  refine ps_st (S' := (53, [(4, .ref a), (1, .int t), (3, .int 2)], [.ref a], M)) rfl rfl rfl ?_
  refine ps_st (S' := (54, [(4, .ref a), (1, .int t), (3, .int 2)], [.int t, .ref a], M)) rfl rfl rfl ?_
  refine ps_st (S' := (55, [(4, .ref a), (1, .int t), (3, .int 2)], [.int 2, .int t, .ref a], M)) rfl rfl rfl ?_
  refine pl_call (a := [.ref a, .int t, .int 2]) (rest := []) rfl rfl rfl (dk_mnumM2 (a := a) (t := t) (m0 := m0) (m1 := m1) (m2 := m2) (m3 := m3) (m4 := m4) (m5 := m5) (m6 := m6) (m7 := m7) (m8 := m8) (m9 := m9) (mv := mv) h_a (ht)) (fun v4 M5 q6 => ?_)
  obtain ⟨rfl, rfl⟩ := q6
  show pl _ _ _ (58, [], [.int m3], M) _
  exact ps_reti rfl (⟨rfl, rfl⟩)
set_option maxHeartbeats 1000000 in
theorem dk_memberM3 {g : xe_G} {M : mi_H} {o ca fl : Nat} {cn wp : Int32} {c b q fr mr l : Nat} {u2 u3 u4 u5 : Int32} {w : List Value} {R : Nat → Value} {a : Nat} {m0 m1 m2 m3 m4 m5 m6 m7 m8 m9 : Int32} {t : Int32} {k : Nat} {mv : Value} (h_o : M.1 o = some (ob 11 [.ref ca, .int cn, .ref fl, .ref c, .int wp])) (h_c : M.1 c = some (ob 3 (.ref b :: .ref q :: .int u2 :: .int u3 :: .int u4 :: .int u5 :: .ref fr :: .ref mr :: w))) (h_mr : M.1 mr = some (ro "ClassGate$Member" l R)) (h_a : M.1 a = some (ob 6 [.int m0, .int m1, .int m2, .int m3, .int m4, .int m5, .int m6, .int m7, .int m8, .int m9, mv])) (ht : ¬ t = 0) (hk : k < l) (hl : l < 65536) (hR : R k = .ref a) : pt (mT g) 15 [.ref o, .int t, .int (nI k), .int 3] M (fun v M' => (v = some (.int m6) ∧ M = M')) := by
  refine pt_in (b := mb_15 g) rfl (fun kf => ?_)
  show pl (mT g) kf (mb_15 g).2 (0, [(0, .ref o), (1, .int t), (2, .int (nI k)), (3, .int 3)], [], M) _
  refine ps_st (S' := (1, [(0, .ref o), (1, .int t), (2, .int (nI k)), (3, .int 3)], [.int 3], M)) rfl rfl rfl ?_
  refine ps_if (S1 := (10, [(0, .ref o), (1, .int t), (2, .int (nI k)), (3, .int 3)], [], M)) (S2 := (4, [(0, .ref o), (1, .int t), (2, .int (nI k)), (3, .int 3)], [], M)) rfl rfl rfl (fun c_1 => ?_) (fun c_1 => ?_)
  · exact absurd (of_decide_eq_true c_1) (by decide)
  refine ps_st (S' := (5, [(0, .ref o), (1, .int t), (2, .int (nI k)), (3, .int 3)], [.int 3], M)) rfl rfl rfl ?_
  refine ps_st (S' := (7, [(0, .ref o), (1, .int t), (2, .int (nI k)), (3, .int 3)], [.int 9, .int 3], M)) rfl rfl rfl ?_
  refine ps_if2 (S1 := (20, [(0, .ref o), (1, .int t), (2, .int (nI k)), (3, .int 3)], [], M)) (S2 := (10, [(0, .ref o), (1, .int t), (2, .int (nI k)), (3, .int 3)], [], M)) rfl rfl rfl (fun c_7 => ?_) (fun c_7 => ?_)
  rotate_left
  · exact absurd (by decide) (of_decide_eq_false c_7)
  refine ps_st (S' := (21, [(0, .ref o), (1, .int t), (2, .int (nI k)), (3, .int 3)], [.ref o], M)) rfl rfl rfl ?_
  refine ps_get (S' := (24, [(0, .ref o), (1, .int t), (2, .int (nI k)), (3, .int 3)], [.ref c], M)) rfl h_o rfl rfl ?_
  refine ps_st (S' := (31, [(0, .ref o), (1, .int t), (2, .int (nI k)), (3, .int 3)], [], M)) rfl rfl rfl ?_
  refine ps_st (S' := (32, [(0, .ref o), (1, .int t), (2, .int (nI k)), (3, .int 3)], [.ref o], M)) rfl rfl rfl ?_
  refine ps_get (S' := (35, [(0, .ref o), (1, .int t), (2, .int (nI k)), (3, .int 3)], [.ref c], M)) rfl h_o rfl rfl ?_
  refine ps_st (S' := (36, [(0, .ref o), (1, .int t), (2, .int (nI k)), (3, .int 3)], [.int t, .ref c], M)) rfl rfl rfl ?_
  refine ps_st (S' := (37, [(0, .ref o), (1, .int t), (2, .int (nI k)), (3, .int 3)], [.int (nI k), .int t, .ref c], M)) rfl rfl rfl ?_
  refine pl_call (a := [.ref c, .int t, .int (nI k)]) (rest := []) rfl rfl rfl (dk_memberAtM (c := c) (b := b) (q := q) (fr := fr) (mr := mr) (l := l) (u2 := u2) (u3 := u3) (u4 := u4) (u5 := u5) (w := w) (R := R) (t := t) (k := k) (a := a) h_c h_mr (ht) (hk) (hl) (hR)) (fun v1 M2 q3 => ?_)
  obtain ⟨rfl, rfl⟩ := q3
  show pl _ _ _ (40, [(1, .int t), (3, .int 3)], [.ref a], M) _
  refine ps_st (S' := (42, [(4, .ref a), (1, .int t), (3, .int 3)], [], M)) rfl rfl rfl ?_
  refine ps_st (S' := (44, [(4, .ref a), (1, .int t), (3, .int 3)], [.ref a], M)) rfl rfl rfl ?_
  refine ps_st (S' := (51, [(4, .ref a), (1, .int t), (3, .int 3)], [], M)) rfl rfl rfl ?_
  refine ps_st (S' := (53, [(4, .ref a), (1, .int t), (3, .int 3)], [.ref a], M)) rfl rfl rfl ?_
  refine ps_st (S' := (54, [(4, .ref a), (1, .int t), (3, .int 3)], [.int t, .ref a], M)) rfl rfl rfl ?_
  refine ps_st (S' := (55, [(4, .ref a), (1, .int t), (3, .int 3)], [.int 3, .int t, .ref a], M)) rfl rfl rfl ?_
  refine pl_call (a := [.ref a, .int t, .int 3]) (rest := []) rfl rfl rfl (dk_mnumM3 (a := a) (t := t) (m0 := m0) (m1 := m1) (m2 := m2) (m3 := m3) (m4 := m4) (m5 := m5) (m6 := m6) (m7 := m7) (m8 := m8) (m9 := m9) (mv := mv) h_a (ht)) (fun v4 M5 q6 => ?_)
  obtain ⟨rfl, rfl⟩ := q6
  show pl _ _ _ (58, [], [.int m6], M) _
  exact ps_reti rfl (⟨rfl, rfl⟩)
set_option maxHeartbeats 1000000 in
theorem dk_memberM4N {g : xe_G} {M : mi_H} {o ca fl : Nat} {cn wp : Int32} {c b q fr mr l : Nat} {u2 u3 u4 u5 : Int32} {w : List Value} {R : Nat → Value} {a : Nat} {m0 m1 m2 m3 m4 m5 m6 m7 m8 m9 : Int32} {t : Int32} {k : Nat} (h_o : M.1 o = some (ob 11 [.ref ca, .int cn, .ref fl, .ref c, .int wp])) (h_c : M.1 c = some (ob 3 (.ref b :: .ref q :: .int u2 :: .int u3 :: .int u4 :: .int u5 :: .ref fr :: .ref mr :: w))) (h_mr : M.1 mr = some (ro "ClassGate$Member" l R)) (h_a : M.1 a = some (ob 6 [.int m0, .int m1, .int m2, .int m3, .int m4, .int m5, .int m6, .int m7, .int m8, .int m9, .null])) (ht : ¬ t = 0) (hk : k < l) (hl : l < 65536) (hR : R k = .ref a) : pt (mT g) 15 [.ref o, .int t, .int (nI k), .int 4] M (fun v M' => (v = some (.int 0) ∧ M = M')) := by
  refine pt_in (b := mb_15 g) rfl (fun kf => ?_)
  show pl (mT g) kf (mb_15 g).2 (0, [(0, .ref o), (1, .int t), (2, .int (nI k)), (3, .int 4)], [], M) _
  refine ps_st (S' := (1, [(0, .ref o), (1, .int t), (2, .int (nI k)), (3, .int 4)], [.int 4], M)) rfl rfl rfl ?_
  refine ps_if (S1 := (10, [(0, .ref o), (1, .int t), (2, .int (nI k)), (3, .int 4)], [], M)) (S2 := (4, [(0, .ref o), (1, .int t), (2, .int (nI k)), (3, .int 4)], [], M)) rfl rfl rfl (fun c_1 => ?_) (fun c_1 => ?_)
  · exact absurd (of_decide_eq_true c_1) (by decide)
  refine ps_st (S' := (5, [(0, .ref o), (1, .int t), (2, .int (nI k)), (3, .int 4)], [.int 4], M)) rfl rfl rfl ?_
  refine ps_st (S' := (7, [(0, .ref o), (1, .int t), (2, .int (nI k)), (3, .int 4)], [.int 9, .int 4], M)) rfl rfl rfl ?_
  refine ps_if2 (S1 := (20, [(0, .ref o), (1, .int t), (2, .int (nI k)), (3, .int 4)], [], M)) (S2 := (10, [(0, .ref o), (1, .int t), (2, .int (nI k)), (3, .int 4)], [], M)) rfl rfl rfl (fun c_7 => ?_) (fun c_7 => ?_)
  rotate_left
  · exact absurd (by decide) (of_decide_eq_false c_7)
  refine ps_st (S' := (21, [(0, .ref o), (1, .int t), (2, .int (nI k)), (3, .int 4)], [.ref o], M)) rfl rfl rfl ?_
  refine ps_get (S' := (24, [(0, .ref o), (1, .int t), (2, .int (nI k)), (3, .int 4)], [.ref c], M)) rfl h_o rfl rfl ?_
  refine ps_st (S' := (31, [(0, .ref o), (1, .int t), (2, .int (nI k)), (3, .int 4)], [], M)) rfl rfl rfl ?_
  refine ps_st (S' := (32, [(0, .ref o), (1, .int t), (2, .int (nI k)), (3, .int 4)], [.ref o], M)) rfl rfl rfl ?_
  refine ps_get (S' := (35, [(0, .ref o), (1, .int t), (2, .int (nI k)), (3, .int 4)], [.ref c], M)) rfl h_o rfl rfl ?_
  refine ps_st (S' := (36, [(0, .ref o), (1, .int t), (2, .int (nI k)), (3, .int 4)], [.int t, .ref c], M)) rfl rfl rfl ?_
  refine ps_st (S' := (37, [(0, .ref o), (1, .int t), (2, .int (nI k)), (3, .int 4)], [.int (nI k), .int t, .ref c], M)) rfl rfl rfl ?_
  refine pl_call (a := [.ref c, .int t, .int (nI k)]) (rest := []) rfl rfl rfl (dk_memberAtM (c := c) (b := b) (q := q) (fr := fr) (mr := mr) (l := l) (u2 := u2) (u3 := u3) (u4 := u4) (u5 := u5) (w := w) (R := R) (t := t) (k := k) (a := a) h_c h_mr (ht) (hk) (hl) (hR)) (fun v1 M2 q3 => ?_)
  obtain ⟨rfl, rfl⟩ := q3
  show pl _ _ _ (40, [(1, .int t), (3, .int 4)], [.ref a], M) _
  refine ps_st (S' := (42, [(4, .ref a), (1, .int t), (3, .int 4)], [], M)) rfl rfl rfl ?_
  refine ps_st (S' := (44, [(4, .ref a), (1, .int t), (3, .int 4)], [.ref a], M)) rfl rfl rfl ?_
  refine ps_st (S' := (51, [(4, .ref a), (1, .int t), (3, .int 4)], [], M)) rfl rfl rfl ?_
  refine ps_st (S' := (53, [(4, .ref a), (1, .int t), (3, .int 4)], [.ref a], M)) rfl rfl rfl ?_
  refine ps_st (S' := (54, [(4, .ref a), (1, .int t), (3, .int 4)], [.int t, .ref a], M)) rfl rfl rfl ?_
  refine ps_st (S' := (55, [(4, .ref a), (1, .int t), (3, .int 4)], [.int 4, .int t, .ref a], M)) rfl rfl rfl ?_
  refine pl_call (a := [.ref a, .int t, .int 4]) (rest := []) rfl rfl rfl (dk_mnumM4N (a := a) (t := t) (m0 := m0) (m1 := m1) (m2 := m2) (m3 := m3) (m4 := m4) (m5 := m5) (m6 := m6) (m7 := m7) (m8 := m8) (m9 := m9) h_a (ht)) (fun v4 M5 q6 => ?_)
  obtain ⟨rfl, rfl⟩ := q6
  show pl _ _ _ (58, [], [.int 0], M) _
  exact ps_ret rfl rfl (⟨rfl, rfl⟩)
set_option maxHeartbeats 1000000 in
theorem dk_memberM4C {g : xe_G} {M : mi_H} {o ca fl : Nat} {cn wp : Int32} {c b q fr mr l : Nat} {u2 u3 u4 u5 : Int32} {w : List Value} {R : Nat → Value} {a : Nat} {m0 m1 m2 m3 m4 m5 m6 m7 m8 m9 : Int32} {t : Int32} {k : Nat} {z : Nat} {c0 c1 c2 c3 c4 : Int32} {v5 v6 v7 v8 v9 v10 : Value} (h_o : M.1 o = some (ob 11 [.ref ca, .int cn, .ref fl, .ref c, .int wp])) (h_c : M.1 c = some (ob 3 (.ref b :: .ref q :: .int u2 :: .int u3 :: .int u4 :: .int u5 :: .ref fr :: .ref mr :: w))) (h_mr : M.1 mr = some (ro "ClassGate$Member" l R)) (h_a : M.1 a = some (ob 6 [.int m0, .int m1, .int m2, .int m3, .int m4, .int m5, .int m6, .int m7, .int m8, .int m9, .ref z])) (h_z : M.1 z = some (ob 4 [.int c0, .int c1, .int c2, .int c3, .int c4, v5, v6, v7, v8, v9, v10])) (ht : ¬ t = 0) (hk : k < l) (hl : l < 65536) (hR : R k = .ref a) : pt (mT g) 15 [.ref o, .int t, .int (nI k), .int 4] M (fun v M' => (v = some (.int c2) ∧ M = M')) := by
  refine pt_in (b := mb_15 g) rfl (fun kf => ?_)
  show pl (mT g) kf (mb_15 g).2 (0, [(0, .ref o), (1, .int t), (2, .int (nI k)), (3, .int 4)], [], M) _
  refine ps_st (S' := (1, [(0, .ref o), (1, .int t), (2, .int (nI k)), (3, .int 4)], [.int 4], M)) rfl rfl rfl ?_
  refine ps_if (S1 := (10, [(0, .ref o), (1, .int t), (2, .int (nI k)), (3, .int 4)], [], M)) (S2 := (4, [(0, .ref o), (1, .int t), (2, .int (nI k)), (3, .int 4)], [], M)) rfl rfl rfl (fun c_1 => ?_) (fun c_1 => ?_)
  · exact absurd (of_decide_eq_true c_1) (by decide)
  refine ps_st (S' := (5, [(0, .ref o), (1, .int t), (2, .int (nI k)), (3, .int 4)], [.int 4], M)) rfl rfl rfl ?_
  refine ps_st (S' := (7, [(0, .ref o), (1, .int t), (2, .int (nI k)), (3, .int 4)], [.int 9, .int 4], M)) rfl rfl rfl ?_
  refine ps_if2 (S1 := (20, [(0, .ref o), (1, .int t), (2, .int (nI k)), (3, .int 4)], [], M)) (S2 := (10, [(0, .ref o), (1, .int t), (2, .int (nI k)), (3, .int 4)], [], M)) rfl rfl rfl (fun c_7 => ?_) (fun c_7 => ?_)
  rotate_left
  · exact absurd (by decide) (of_decide_eq_false c_7)
  refine ps_st (S' := (21, [(0, .ref o), (1, .int t), (2, .int (nI k)), (3, .int 4)], [.ref o], M)) rfl rfl rfl ?_
  refine ps_get (S' := (24, [(0, .ref o), (1, .int t), (2, .int (nI k)), (3, .int 4)], [.ref c], M)) rfl h_o rfl rfl ?_
  refine ps_st (S' := (31, [(0, .ref o), (1, .int t), (2, .int (nI k)), (3, .int 4)], [], M)) rfl rfl rfl ?_
  refine ps_st (S' := (32, [(0, .ref o), (1, .int t), (2, .int (nI k)), (3, .int 4)], [.ref o], M)) rfl rfl rfl ?_
  refine ps_get (S' := (35, [(0, .ref o), (1, .int t), (2, .int (nI k)), (3, .int 4)], [.ref c], M)) rfl h_o rfl rfl ?_
  refine ps_st (S' := (36, [(0, .ref o), (1, .int t), (2, .int (nI k)), (3, .int 4)], [.int t, .ref c], M)) rfl rfl rfl ?_
  refine ps_st (S' := (37, [(0, .ref o), (1, .int t), (2, .int (nI k)), (3, .int 4)], [.int (nI k), .int t, .ref c], M)) rfl rfl rfl ?_
  refine pl_call (a := [.ref c, .int t, .int (nI k)]) (rest := []) rfl rfl rfl (dk_memberAtM (c := c) (b := b) (q := q) (fr := fr) (mr := mr) (l := l) (u2 := u2) (u3 := u3) (u4 := u4) (u5 := u5) (w := w) (R := R) (t := t) (k := k) (a := a) h_c h_mr (ht) (hk) (hl) (hR)) (fun v1 M2 q3 => ?_)
  obtain ⟨rfl, rfl⟩ := q3
  show pl _ _ _ (40, [(1, .int t), (3, .int 4)], [.ref a], M) _
  refine ps_st (S' := (42, [(4, .ref a), (1, .int t), (3, .int 4)], [], M)) rfl rfl rfl ?_
  refine ps_st (S' := (44, [(4, .ref a), (1, .int t), (3, .int 4)], [.ref a], M)) rfl rfl rfl ?_
  refine ps_st (S' := (51, [(4, .ref a), (1, .int t), (3, .int 4)], [], M)) rfl rfl rfl ?_
  refine ps_st (S' := (53, [(4, .ref a), (1, .int t), (3, .int 4)], [.ref a], M)) rfl rfl rfl ?_
  refine ps_st (S' := (54, [(4, .ref a), (1, .int t), (3, .int 4)], [.int t, .ref a], M)) rfl rfl rfl ?_
  refine ps_st (S' := (55, [(4, .ref a), (1, .int t), (3, .int 4)], [.int 4, .int t, .ref a], M)) rfl rfl rfl ?_
  refine pl_call (a := [.ref a, .int t, .int 4]) (rest := []) rfl rfl rfl (dk_mnumM4C (a := a) (t := t) (m0 := m0) (m1 := m1) (m2 := m2) (m3 := m3) (m4 := m4) (m5 := m5) (m6 := m6) (m7 := m7) (m8 := m8) (m9 := m9) (z := z) (c0 := c0) (c1 := c1) (c2 := c2) (c3 := c3) (c4 := c4) (v5 := v5) (v6 := v6) (v7 := v7) (v8 := v8) (v9 := v9) (v10 := v10) h_a h_z (ht)) (fun v4 M5 q6 => ?_)
  obtain ⟨rfl, rfl⟩ := q6
  show pl _ _ _ (58, [], [.int c2], M) _
  exact ps_reti rfl (⟨rfl, rfl⟩)
set_option maxHeartbeats 1000000 in
theorem dk_memberM5N {g : xe_G} {M : mi_H} {o ca fl : Nat} {cn wp : Int32} {c b q fr mr l : Nat} {u2 u3 u4 u5 : Int32} {w : List Value} {R : Nat → Value} {a : Nat} {m0 m1 m2 m3 m4 m5 m6 m7 m8 m9 : Int32} {t : Int32} {k : Nat} (h_o : M.1 o = some (ob 11 [.ref ca, .int cn, .ref fl, .ref c, .int wp])) (h_c : M.1 c = some (ob 3 (.ref b :: .ref q :: .int u2 :: .int u3 :: .int u4 :: .int u5 :: .ref fr :: .ref mr :: w))) (h_mr : M.1 mr = some (ro "ClassGate$Member" l R)) (h_a : M.1 a = some (ob 6 [.int m0, .int m1, .int m2, .int m3, .int m4, .int m5, .int m6, .int m7, .int m8, .int m9, .null])) (ht : ¬ t = 0) (hk : k < l) (hl : l < 65536) (hR : R k = .ref a) : pt (mT g) 15 [.ref o, .int t, .int (nI k), .int 5] M (fun v M' => (v = some (.int 0) ∧ M = M')) := by
  refine pt_in (b := mb_15 g) rfl (fun kf => ?_)
  show pl (mT g) kf (mb_15 g).2 (0, [(0, .ref o), (1, .int t), (2, .int (nI k)), (3, .int 5)], [], M) _
  refine ps_st (S' := (1, [(0, .ref o), (1, .int t), (2, .int (nI k)), (3, .int 5)], [.int 5], M)) rfl rfl rfl ?_
  refine ps_if (S1 := (10, [(0, .ref o), (1, .int t), (2, .int (nI k)), (3, .int 5)], [], M)) (S2 := (4, [(0, .ref o), (1, .int t), (2, .int (nI k)), (3, .int 5)], [], M)) rfl rfl rfl (fun c_1 => ?_) (fun c_1 => ?_)
  · exact absurd (of_decide_eq_true c_1) (by decide)
  refine ps_st (S' := (5, [(0, .ref o), (1, .int t), (2, .int (nI k)), (3, .int 5)], [.int 5], M)) rfl rfl rfl ?_
  refine ps_st (S' := (7, [(0, .ref o), (1, .int t), (2, .int (nI k)), (3, .int 5)], [.int 9, .int 5], M)) rfl rfl rfl ?_
  refine ps_if2 (S1 := (20, [(0, .ref o), (1, .int t), (2, .int (nI k)), (3, .int 5)], [], M)) (S2 := (10, [(0, .ref o), (1, .int t), (2, .int (nI k)), (3, .int 5)], [], M)) rfl rfl rfl (fun c_7 => ?_) (fun c_7 => ?_)
  rotate_left
  · exact absurd (by decide) (of_decide_eq_false c_7)
  refine ps_st (S' := (21, [(0, .ref o), (1, .int t), (2, .int (nI k)), (3, .int 5)], [.ref o], M)) rfl rfl rfl ?_
  refine ps_get (S' := (24, [(0, .ref o), (1, .int t), (2, .int (nI k)), (3, .int 5)], [.ref c], M)) rfl h_o rfl rfl ?_
  refine ps_st (S' := (31, [(0, .ref o), (1, .int t), (2, .int (nI k)), (3, .int 5)], [], M)) rfl rfl rfl ?_
  refine ps_st (S' := (32, [(0, .ref o), (1, .int t), (2, .int (nI k)), (3, .int 5)], [.ref o], M)) rfl rfl rfl ?_
  refine ps_get (S' := (35, [(0, .ref o), (1, .int t), (2, .int (nI k)), (3, .int 5)], [.ref c], M)) rfl h_o rfl rfl ?_
  refine ps_st (S' := (36, [(0, .ref o), (1, .int t), (2, .int (nI k)), (3, .int 5)], [.int t, .ref c], M)) rfl rfl rfl ?_
  refine ps_st (S' := (37, [(0, .ref o), (1, .int t), (2, .int (nI k)), (3, .int 5)], [.int (nI k), .int t, .ref c], M)) rfl rfl rfl ?_
  refine pl_call (a := [.ref c, .int t, .int (nI k)]) (rest := []) rfl rfl rfl (dk_memberAtM (c := c) (b := b) (q := q) (fr := fr) (mr := mr) (l := l) (u2 := u2) (u3 := u3) (u4 := u4) (u5 := u5) (w := w) (R := R) (t := t) (k := k) (a := a) h_c h_mr (ht) (hk) (hl) (hR)) (fun v1 M2 q3 => ?_)
  obtain ⟨rfl, rfl⟩ := q3
  show pl _ _ _ (40, [(1, .int t), (3, .int 5)], [.ref a], M) _
  refine ps_st (S' := (42, [(4, .ref a), (1, .int t), (3, .int 5)], [], M)) rfl rfl rfl ?_
  refine ps_st (S' := (44, [(4, .ref a), (1, .int t), (3, .int 5)], [.ref a], M)) rfl rfl rfl ?_
  refine ps_st (S' := (51, [(4, .ref a), (1, .int t), (3, .int 5)], [], M)) rfl rfl rfl ?_
  refine ps_st (S' := (53, [(4, .ref a), (1, .int t), (3, .int 5)], [.ref a], M)) rfl rfl rfl ?_
  refine ps_st (S' := (54, [(4, .ref a), (1, .int t), (3, .int 5)], [.int t, .ref a], M)) rfl rfl rfl ?_
  refine ps_st (S' := (55, [(4, .ref a), (1, .int t), (3, .int 5)], [.int 5, .int t, .ref a], M)) rfl rfl rfl ?_
  refine pl_call (a := [.ref a, .int t, .int 5]) (rest := []) rfl rfl rfl (dk_mnumM5N (a := a) (t := t) (m0 := m0) (m1 := m1) (m2 := m2) (m3 := m3) (m4 := m4) (m5 := m5) (m6 := m6) (m7 := m7) (m8 := m8) (m9 := m9) h_a (ht)) (fun v4 M5 q6 => ?_)
  obtain ⟨rfl, rfl⟩ := q6
  show pl _ _ _ (58, [], [.int 0], M) _
  exact ps_ret rfl rfl (⟨rfl, rfl⟩)
set_option maxHeartbeats 1000000 in
theorem dk_memberM5C {g : xe_G} {M : mi_H} {o ca fl : Nat} {cn wp : Int32} {c b q fr mr l : Nat} {u2 u3 u4 u5 : Int32} {w : List Value} {R : Nat → Value} {a : Nat} {m0 m1 m2 m3 m4 m5 m6 m7 m8 m9 : Int32} {t : Int32} {k : Nat} {z : Nat} {c0 c1 c2 c3 c4 : Int32} {v5 v6 v7 v8 v9 v10 : Value} (h_o : M.1 o = some (ob 11 [.ref ca, .int cn, .ref fl, .ref c, .int wp])) (h_c : M.1 c = some (ob 3 (.ref b :: .ref q :: .int u2 :: .int u3 :: .int u4 :: .int u5 :: .ref fr :: .ref mr :: w))) (h_mr : M.1 mr = some (ro "ClassGate$Member" l R)) (h_a : M.1 a = some (ob 6 [.int m0, .int m1, .int m2, .int m3, .int m4, .int m5, .int m6, .int m7, .int m8, .int m9, .ref z])) (h_z : M.1 z = some (ob 4 [.int c0, .int c1, .int c2, .int c3, .int c4, v5, v6, v7, v8, v9, v10])) (ht : ¬ t = 0) (hk : k < l) (hl : l < 65536) (hR : R k = .ref a) : pt (mT g) 15 [.ref o, .int t, .int (nI k), .int 5] M (fun v M' => (v = some (.int c0) ∧ M = M')) := by
  refine pt_in (b := mb_15 g) rfl (fun kf => ?_)
  show pl (mT g) kf (mb_15 g).2 (0, [(0, .ref o), (1, .int t), (2, .int (nI k)), (3, .int 5)], [], M) _
  refine ps_st (S' := (1, [(0, .ref o), (1, .int t), (2, .int (nI k)), (3, .int 5)], [.int 5], M)) rfl rfl rfl ?_
  refine ps_if (S1 := (10, [(0, .ref o), (1, .int t), (2, .int (nI k)), (3, .int 5)], [], M)) (S2 := (4, [(0, .ref o), (1, .int t), (2, .int (nI k)), (3, .int 5)], [], M)) rfl rfl rfl (fun c_1 => ?_) (fun c_1 => ?_)
  · exact absurd (of_decide_eq_true c_1) (by decide)
  refine ps_st (S' := (5, [(0, .ref o), (1, .int t), (2, .int (nI k)), (3, .int 5)], [.int 5], M)) rfl rfl rfl ?_
  refine ps_st (S' := (7, [(0, .ref o), (1, .int t), (2, .int (nI k)), (3, .int 5)], [.int 9, .int 5], M)) rfl rfl rfl ?_
  refine ps_if2 (S1 := (20, [(0, .ref o), (1, .int t), (2, .int (nI k)), (3, .int 5)], [], M)) (S2 := (10, [(0, .ref o), (1, .int t), (2, .int (nI k)), (3, .int 5)], [], M)) rfl rfl rfl (fun c_7 => ?_) (fun c_7 => ?_)
  rotate_left
  · exact absurd (by decide) (of_decide_eq_false c_7)
  refine ps_st (S' := (21, [(0, .ref o), (1, .int t), (2, .int (nI k)), (3, .int 5)], [.ref o], M)) rfl rfl rfl ?_
  refine ps_get (S' := (24, [(0, .ref o), (1, .int t), (2, .int (nI k)), (3, .int 5)], [.ref c], M)) rfl h_o rfl rfl ?_
  refine ps_st (S' := (31, [(0, .ref o), (1, .int t), (2, .int (nI k)), (3, .int 5)], [], M)) rfl rfl rfl ?_
  refine ps_st (S' := (32, [(0, .ref o), (1, .int t), (2, .int (nI k)), (3, .int 5)], [.ref o], M)) rfl rfl rfl ?_
  refine ps_get (S' := (35, [(0, .ref o), (1, .int t), (2, .int (nI k)), (3, .int 5)], [.ref c], M)) rfl h_o rfl rfl ?_
  refine ps_st (S' := (36, [(0, .ref o), (1, .int t), (2, .int (nI k)), (3, .int 5)], [.int t, .ref c], M)) rfl rfl rfl ?_
  refine ps_st (S' := (37, [(0, .ref o), (1, .int t), (2, .int (nI k)), (3, .int 5)], [.int (nI k), .int t, .ref c], M)) rfl rfl rfl ?_
  refine pl_call (a := [.ref c, .int t, .int (nI k)]) (rest := []) rfl rfl rfl (dk_memberAtM (c := c) (b := b) (q := q) (fr := fr) (mr := mr) (l := l) (u2 := u2) (u3 := u3) (u4 := u4) (u5 := u5) (w := w) (R := R) (t := t) (k := k) (a := a) h_c h_mr (ht) (hk) (hl) (hR)) (fun v1 M2 q3 => ?_)
  obtain ⟨rfl, rfl⟩ := q3
  show pl _ _ _ (40, [(1, .int t), (3, .int 5)], [.ref a], M) _
  refine ps_st (S' := (42, [(4, .ref a), (1, .int t), (3, .int 5)], [], M)) rfl rfl rfl ?_
  refine ps_st (S' := (44, [(4, .ref a), (1, .int t), (3, .int 5)], [.ref a], M)) rfl rfl rfl ?_
  refine ps_st (S' := (51, [(4, .ref a), (1, .int t), (3, .int 5)], [], M)) rfl rfl rfl ?_
  refine ps_st (S' := (53, [(4, .ref a), (1, .int t), (3, .int 5)], [.ref a], M)) rfl rfl rfl ?_
  refine ps_st (S' := (54, [(4, .ref a), (1, .int t), (3, .int 5)], [.int t, .ref a], M)) rfl rfl rfl ?_
  refine ps_st (S' := (55, [(4, .ref a), (1, .int t), (3, .int 5)], [.int 5, .int t, .ref a], M)) rfl rfl rfl ?_
  refine pl_call (a := [.ref a, .int t, .int 5]) (rest := []) rfl rfl rfl (dk_mnumM5C (a := a) (t := t) (m0 := m0) (m1 := m1) (m2 := m2) (m3 := m3) (m4 := m4) (m5 := m5) (m6 := m6) (m7 := m7) (m8 := m8) (m9 := m9) (z := z) (c0 := c0) (c1 := c1) (c2 := c2) (c3 := c3) (c4 := c4) (v5 := v5) (v6 := v6) (v7 := v7) (v8 := v8) (v9 := v9) (v10 := v10) h_a h_z (ht)) (fun v4 M5 q6 => ?_)
  obtain ⟨rfl, rfl⟩ := q6
  show pl _ _ _ (58, [], [.int c0], M) _
  exact ps_reti rfl (⟨rfl, rfl⟩)
set_option maxHeartbeats 1000000 in
theorem dk_memberM6N {g : xe_G} {M : mi_H} {o ca fl : Nat} {cn wp : Int32} {c b q fr mr l : Nat} {u2 u3 u4 u5 : Int32} {w : List Value} {R : Nat → Value} {a : Nat} {m0 m1 m2 m3 m4 m5 m6 m7 m8 m9 : Int32} {t : Int32} {k : Nat} (h_o : M.1 o = some (ob 11 [.ref ca, .int cn, .ref fl, .ref c, .int wp])) (h_c : M.1 c = some (ob 3 (.ref b :: .ref q :: .int u2 :: .int u3 :: .int u4 :: .int u5 :: .ref fr :: .ref mr :: w))) (h_mr : M.1 mr = some (ro "ClassGate$Member" l R)) (h_a : M.1 a = some (ob 6 [.int m0, .int m1, .int m2, .int m3, .int m4, .int m5, .int m6, .int m7, .int m8, .int m9, .null])) (ht : ¬ t = 0) (hk : k < l) (hl : l < 65536) (hR : R k = .ref a) : pt (mT g) 15 [.ref o, .int t, .int (nI k), .int 6] M (fun v M' => (v = some (.int 0) ∧ M = M')) := by
  refine pt_in (b := mb_15 g) rfl (fun kf => ?_)
  show pl (mT g) kf (mb_15 g).2 (0, [(0, .ref o), (1, .int t), (2, .int (nI k)), (3, .int 6)], [], M) _
  refine ps_st (S' := (1, [(0, .ref o), (1, .int t), (2, .int (nI k)), (3, .int 6)], [.int 6], M)) rfl rfl rfl ?_
  refine ps_if (S1 := (10, [(0, .ref o), (1, .int t), (2, .int (nI k)), (3, .int 6)], [], M)) (S2 := (4, [(0, .ref o), (1, .int t), (2, .int (nI k)), (3, .int 6)], [], M)) rfl rfl rfl (fun c_1 => ?_) (fun c_1 => ?_)
  · exact absurd (of_decide_eq_true c_1) (by decide)
  refine ps_st (S' := (5, [(0, .ref o), (1, .int t), (2, .int (nI k)), (3, .int 6)], [.int 6], M)) rfl rfl rfl ?_
  refine ps_st (S' := (7, [(0, .ref o), (1, .int t), (2, .int (nI k)), (3, .int 6)], [.int 9, .int 6], M)) rfl rfl rfl ?_
  refine ps_if2 (S1 := (20, [(0, .ref o), (1, .int t), (2, .int (nI k)), (3, .int 6)], [], M)) (S2 := (10, [(0, .ref o), (1, .int t), (2, .int (nI k)), (3, .int 6)], [], M)) rfl rfl rfl (fun c_7 => ?_) (fun c_7 => ?_)
  rotate_left
  · exact absurd (by decide) (of_decide_eq_false c_7)
  refine ps_st (S' := (21, [(0, .ref o), (1, .int t), (2, .int (nI k)), (3, .int 6)], [.ref o], M)) rfl rfl rfl ?_
  refine ps_get (S' := (24, [(0, .ref o), (1, .int t), (2, .int (nI k)), (3, .int 6)], [.ref c], M)) rfl h_o rfl rfl ?_
  refine ps_st (S' := (31, [(0, .ref o), (1, .int t), (2, .int (nI k)), (3, .int 6)], [], M)) rfl rfl rfl ?_
  refine ps_st (S' := (32, [(0, .ref o), (1, .int t), (2, .int (nI k)), (3, .int 6)], [.ref o], M)) rfl rfl rfl ?_
  refine ps_get (S' := (35, [(0, .ref o), (1, .int t), (2, .int (nI k)), (3, .int 6)], [.ref c], M)) rfl h_o rfl rfl ?_
  refine ps_st (S' := (36, [(0, .ref o), (1, .int t), (2, .int (nI k)), (3, .int 6)], [.int t, .ref c], M)) rfl rfl rfl ?_
  refine ps_st (S' := (37, [(0, .ref o), (1, .int t), (2, .int (nI k)), (3, .int 6)], [.int (nI k), .int t, .ref c], M)) rfl rfl rfl ?_
  refine pl_call (a := [.ref c, .int t, .int (nI k)]) (rest := []) rfl rfl rfl (dk_memberAtM (c := c) (b := b) (q := q) (fr := fr) (mr := mr) (l := l) (u2 := u2) (u3 := u3) (u4 := u4) (u5 := u5) (w := w) (R := R) (t := t) (k := k) (a := a) h_c h_mr (ht) (hk) (hl) (hR)) (fun v1 M2 q3 => ?_)
  obtain ⟨rfl, rfl⟩ := q3
  show pl _ _ _ (40, [(1, .int t), (3, .int 6)], [.ref a], M) _
  refine ps_st (S' := (42, [(4, .ref a), (1, .int t), (3, .int 6)], [], M)) rfl rfl rfl ?_
  refine ps_st (S' := (44, [(4, .ref a), (1, .int t), (3, .int 6)], [.ref a], M)) rfl rfl rfl ?_
  refine ps_st (S' := (51, [(4, .ref a), (1, .int t), (3, .int 6)], [], M)) rfl rfl rfl ?_
  refine ps_st (S' := (53, [(4, .ref a), (1, .int t), (3, .int 6)], [.ref a], M)) rfl rfl rfl ?_
  refine ps_st (S' := (54, [(4, .ref a), (1, .int t), (3, .int 6)], [.int t, .ref a], M)) rfl rfl rfl ?_
  refine ps_st (S' := (55, [(4, .ref a), (1, .int t), (3, .int 6)], [.int 6, .int t, .ref a], M)) rfl rfl rfl ?_
  refine pl_call (a := [.ref a, .int t, .int 6]) (rest := []) rfl rfl rfl (dk_mnumM6N (a := a) (t := t) (m0 := m0) (m1 := m1) (m2 := m2) (m3 := m3) (m4 := m4) (m5 := m5) (m6 := m6) (m7 := m7) (m8 := m8) (m9 := m9) h_a (ht)) (fun v4 M5 q6 => ?_)
  obtain ⟨rfl, rfl⟩ := q6
  show pl _ _ _ (58, [], [.int 0], M) _
  exact ps_ret rfl rfl (⟨rfl, rfl⟩)
set_option maxHeartbeats 1000000 in
theorem dk_memberM6C {g : xe_G} {M : mi_H} {o ca fl : Nat} {cn wp : Int32} {c b q fr mr l : Nat} {u2 u3 u4 u5 : Int32} {w : List Value} {R : Nat → Value} {a : Nat} {m0 m1 m2 m3 m4 m5 m6 m7 m8 m9 : Int32} {t : Int32} {k : Nat} {z : Nat} {c0 c1 c2 c3 c4 : Int32} {v5 v6 v7 v8 v9 v10 : Value} (h_o : M.1 o = some (ob 11 [.ref ca, .int cn, .ref fl, .ref c, .int wp])) (h_c : M.1 c = some (ob 3 (.ref b :: .ref q :: .int u2 :: .int u3 :: .int u4 :: .int u5 :: .ref fr :: .ref mr :: w))) (h_mr : M.1 mr = some (ro "ClassGate$Member" l R)) (h_a : M.1 a = some (ob 6 [.int m0, .int m1, .int m2, .int m3, .int m4, .int m5, .int m6, .int m7, .int m8, .int m9, .ref z])) (h_z : M.1 z = some (ob 4 [.int c0, .int c1, .int c2, .int c3, .int c4, v5, v6, v7, v8, v9, v10])) (ht : ¬ t = 0) (hk : k < l) (hl : l < 65536) (hR : R k = .ref a) : pt (mT g) 15 [.ref o, .int t, .int (nI k), .int 6] M (fun v M' => (v = some (.int c1) ∧ M = M')) := by
  refine pt_in (b := mb_15 g) rfl (fun kf => ?_)
  show pl (mT g) kf (mb_15 g).2 (0, [(0, .ref o), (1, .int t), (2, .int (nI k)), (3, .int 6)], [], M) _
  refine ps_st (S' := (1, [(0, .ref o), (1, .int t), (2, .int (nI k)), (3, .int 6)], [.int 6], M)) rfl rfl rfl ?_
  refine ps_if (S1 := (10, [(0, .ref o), (1, .int t), (2, .int (nI k)), (3, .int 6)], [], M)) (S2 := (4, [(0, .ref o), (1, .int t), (2, .int (nI k)), (3, .int 6)], [], M)) rfl rfl rfl (fun c_1 => ?_) (fun c_1 => ?_)
  · exact absurd (of_decide_eq_true c_1) (by decide)
  refine ps_st (S' := (5, [(0, .ref o), (1, .int t), (2, .int (nI k)), (3, .int 6)], [.int 6], M)) rfl rfl rfl ?_
  refine ps_st (S' := (7, [(0, .ref o), (1, .int t), (2, .int (nI k)), (3, .int 6)], [.int 9, .int 6], M)) rfl rfl rfl ?_
  refine ps_if2 (S1 := (20, [(0, .ref o), (1, .int t), (2, .int (nI k)), (3, .int 6)], [], M)) (S2 := (10, [(0, .ref o), (1, .int t), (2, .int (nI k)), (3, .int 6)], [], M)) rfl rfl rfl (fun c_7 => ?_) (fun c_7 => ?_)
  rotate_left
  · exact absurd (by decide) (of_decide_eq_false c_7)
  refine ps_st (S' := (21, [(0, .ref o), (1, .int t), (2, .int (nI k)), (3, .int 6)], [.ref o], M)) rfl rfl rfl ?_
  refine ps_get (S' := (24, [(0, .ref o), (1, .int t), (2, .int (nI k)), (3, .int 6)], [.ref c], M)) rfl h_o rfl rfl ?_
  refine ps_st (S' := (31, [(0, .ref o), (1, .int t), (2, .int (nI k)), (3, .int 6)], [], M)) rfl rfl rfl ?_
  refine ps_st (S' := (32, [(0, .ref o), (1, .int t), (2, .int (nI k)), (3, .int 6)], [.ref o], M)) rfl rfl rfl ?_
  refine ps_get (S' := (35, [(0, .ref o), (1, .int t), (2, .int (nI k)), (3, .int 6)], [.ref c], M)) rfl h_o rfl rfl ?_
  refine ps_st (S' := (36, [(0, .ref o), (1, .int t), (2, .int (nI k)), (3, .int 6)], [.int t, .ref c], M)) rfl rfl rfl ?_
  refine ps_st (S' := (37, [(0, .ref o), (1, .int t), (2, .int (nI k)), (3, .int 6)], [.int (nI k), .int t, .ref c], M)) rfl rfl rfl ?_
  refine pl_call (a := [.ref c, .int t, .int (nI k)]) (rest := []) rfl rfl rfl (dk_memberAtM (c := c) (b := b) (q := q) (fr := fr) (mr := mr) (l := l) (u2 := u2) (u3 := u3) (u4 := u4) (u5 := u5) (w := w) (R := R) (t := t) (k := k) (a := a) h_c h_mr (ht) (hk) (hl) (hR)) (fun v1 M2 q3 => ?_)
  obtain ⟨rfl, rfl⟩ := q3
  show pl _ _ _ (40, [(1, .int t), (3, .int 6)], [.ref a], M) _
  refine ps_st (S' := (42, [(4, .ref a), (1, .int t), (3, .int 6)], [], M)) rfl rfl rfl ?_
  refine ps_st (S' := (44, [(4, .ref a), (1, .int t), (3, .int 6)], [.ref a], M)) rfl rfl rfl ?_
  refine ps_st (S' := (51, [(4, .ref a), (1, .int t), (3, .int 6)], [], M)) rfl rfl rfl ?_
  refine ps_st (S' := (53, [(4, .ref a), (1, .int t), (3, .int 6)], [.ref a], M)) rfl rfl rfl ?_
  refine ps_st (S' := (54, [(4, .ref a), (1, .int t), (3, .int 6)], [.int t, .ref a], M)) rfl rfl rfl ?_
  refine ps_st (S' := (55, [(4, .ref a), (1, .int t), (3, .int 6)], [.int 6, .int t, .ref a], M)) rfl rfl rfl ?_
  refine pl_call (a := [.ref a, .int t, .int 6]) (rest := []) rfl rfl rfl (dk_mnumM6C (a := a) (t := t) (m0 := m0) (m1 := m1) (m2 := m2) (m3 := m3) (m4 := m4) (m5 := m5) (m6 := m6) (m7 := m7) (m8 := m8) (m9 := m9) (z := z) (c0 := c0) (c1 := c1) (c2 := c2) (c3 := c3) (c4 := c4) (v5 := v5) (v6 := v6) (v7 := v7) (v8 := v8) (v9 := v9) (v10 := v10) h_a h_z (ht)) (fun v4 M5 q6 => ?_)
  obtain ⟨rfl, rfl⟩ := q6
  show pl _ _ _ (58, [], [.int c1], M) _
  exact ps_reti rfl (⟨rfl, rfl⟩)
set_option maxHeartbeats 1000000 in
theorem dk_memberM7N {g : xe_G} {M : mi_H} {o ca fl : Nat} {cn wp : Int32} {c b q fr mr l : Nat} {u2 u3 u4 u5 : Int32} {w : List Value} {R : Nat → Value} {a : Nat} {m0 m1 m2 m3 m4 m5 m6 m7 m8 m9 : Int32} {t : Int32} {k : Nat} (h_o : M.1 o = some (ob 11 [.ref ca, .int cn, .ref fl, .ref c, .int wp])) (h_c : M.1 c = some (ob 3 (.ref b :: .ref q :: .int u2 :: .int u3 :: .int u4 :: .int u5 :: .ref fr :: .ref mr :: w))) (h_mr : M.1 mr = some (ro "ClassGate$Member" l R)) (h_a : M.1 a = some (ob 6 [.int m0, .int m1, .int m2, .int m3, .int m4, .int m5, .int m6, .int m7, .int m8, .int m9, .null])) (ht : ¬ t = 0) (hk : k < l) (hl : l < 65536) (hR : R k = .ref a) : pt (mT g) 15 [.ref o, .int t, .int (nI k), .int 7] M (fun v M' => (v = some (.int 0) ∧ M = M')) := by
  refine pt_in (b := mb_15 g) rfl (fun kf => ?_)
  show pl (mT g) kf (mb_15 g).2 (0, [(0, .ref o), (1, .int t), (2, .int (nI k)), (3, .int 7)], [], M) _
  refine ps_st (S' := (1, [(0, .ref o), (1, .int t), (2, .int (nI k)), (3, .int 7)], [.int 7], M)) rfl rfl rfl ?_
  refine ps_if (S1 := (10, [(0, .ref o), (1, .int t), (2, .int (nI k)), (3, .int 7)], [], M)) (S2 := (4, [(0, .ref o), (1, .int t), (2, .int (nI k)), (3, .int 7)], [], M)) rfl rfl rfl (fun c_1 => ?_) (fun c_1 => ?_)
  · exact absurd (of_decide_eq_true c_1) (by decide)
  refine ps_st (S' := (5, [(0, .ref o), (1, .int t), (2, .int (nI k)), (3, .int 7)], [.int 7], M)) rfl rfl rfl ?_
  refine ps_st (S' := (7, [(0, .ref o), (1, .int t), (2, .int (nI k)), (3, .int 7)], [.int 9, .int 7], M)) rfl rfl rfl ?_
  refine ps_if2 (S1 := (20, [(0, .ref o), (1, .int t), (2, .int (nI k)), (3, .int 7)], [], M)) (S2 := (10, [(0, .ref o), (1, .int t), (2, .int (nI k)), (3, .int 7)], [], M)) rfl rfl rfl (fun c_7 => ?_) (fun c_7 => ?_)
  rotate_left
  · exact absurd (by decide) (of_decide_eq_false c_7)
  refine ps_st (S' := (21, [(0, .ref o), (1, .int t), (2, .int (nI k)), (3, .int 7)], [.ref o], M)) rfl rfl rfl ?_
  refine ps_get (S' := (24, [(0, .ref o), (1, .int t), (2, .int (nI k)), (3, .int 7)], [.ref c], M)) rfl h_o rfl rfl ?_
  refine ps_st (S' := (31, [(0, .ref o), (1, .int t), (2, .int (nI k)), (3, .int 7)], [], M)) rfl rfl rfl ?_
  refine ps_st (S' := (32, [(0, .ref o), (1, .int t), (2, .int (nI k)), (3, .int 7)], [.ref o], M)) rfl rfl rfl ?_
  refine ps_get (S' := (35, [(0, .ref o), (1, .int t), (2, .int (nI k)), (3, .int 7)], [.ref c], M)) rfl h_o rfl rfl ?_
  refine ps_st (S' := (36, [(0, .ref o), (1, .int t), (2, .int (nI k)), (3, .int 7)], [.int t, .ref c], M)) rfl rfl rfl ?_
  refine ps_st (S' := (37, [(0, .ref o), (1, .int t), (2, .int (nI k)), (3, .int 7)], [.int (nI k), .int t, .ref c], M)) rfl rfl rfl ?_
  refine pl_call (a := [.ref c, .int t, .int (nI k)]) (rest := []) rfl rfl rfl (dk_memberAtM (c := c) (b := b) (q := q) (fr := fr) (mr := mr) (l := l) (u2 := u2) (u3 := u3) (u4 := u4) (u5 := u5) (w := w) (R := R) (t := t) (k := k) (a := a) h_c h_mr (ht) (hk) (hl) (hR)) (fun v1 M2 q3 => ?_)
  obtain ⟨rfl, rfl⟩ := q3
  show pl _ _ _ (40, [(1, .int t), (3, .int 7)], [.ref a], M) _
  refine ps_st (S' := (42, [(4, .ref a), (1, .int t), (3, .int 7)], [], M)) rfl rfl rfl ?_
  refine ps_st (S' := (44, [(4, .ref a), (1, .int t), (3, .int 7)], [.ref a], M)) rfl rfl rfl ?_
  refine ps_st (S' := (51, [(4, .ref a), (1, .int t), (3, .int 7)], [], M)) rfl rfl rfl ?_
  refine ps_st (S' := (53, [(4, .ref a), (1, .int t), (3, .int 7)], [.ref a], M)) rfl rfl rfl ?_
  refine ps_st (S' := (54, [(4, .ref a), (1, .int t), (3, .int 7)], [.int t, .ref a], M)) rfl rfl rfl ?_
  refine ps_st (S' := (55, [(4, .ref a), (1, .int t), (3, .int 7)], [.int 7, .int t, .ref a], M)) rfl rfl rfl ?_
  refine pl_call (a := [.ref a, .int t, .int 7]) (rest := []) rfl rfl rfl (dk_mnumM7N (a := a) (t := t) (m0 := m0) (m1 := m1) (m2 := m2) (m3 := m3) (m4 := m4) (m5 := m5) (m6 := m6) (m7 := m7) (m8 := m8) (m9 := m9) h_a (ht)) (fun v4 M5 q6 => ?_)
  obtain ⟨rfl, rfl⟩ := q6
  show pl _ _ _ (58, [], [.int 0], M) _
  exact ps_ret rfl rfl (⟨rfl, rfl⟩)
set_option maxHeartbeats 1000000 in
theorem dk_memberM7C {g : xe_G} {M : mi_H} {o ca fl : Nat} {cn wp : Int32} {c b q fr mr l : Nat} {u2 u3 u4 u5 : Int32} {w : List Value} {R : Nat → Value} {a : Nat} {m0 m1 m2 m3 m4 m5 m6 m7 m8 m9 : Int32} {t : Int32} {k : Nat} {z : Nat} {c0 c1 c2 c3 c4 : Int32} {v5 v6 v7 v8 v9 v10 : Value} (h_o : M.1 o = some (ob 11 [.ref ca, .int cn, .ref fl, .ref c, .int wp])) (h_c : M.1 c = some (ob 3 (.ref b :: .ref q :: .int u2 :: .int u3 :: .int u4 :: .int u5 :: .ref fr :: .ref mr :: w))) (h_mr : M.1 mr = some (ro "ClassGate$Member" l R)) (h_a : M.1 a = some (ob 6 [.int m0, .int m1, .int m2, .int m3, .int m4, .int m5, .int m6, .int m7, .int m8, .int m9, .ref z])) (h_z : M.1 z = some (ob 4 [.int c0, .int c1, .int c2, .int c3, .int c4, v5, v6, v7, v8, v9, v10])) (ht : ¬ t = 0) (hk : k < l) (hl : l < 65536) (hR : R k = .ref a) : pt (mT g) 15 [.ref o, .int t, .int (nI k), .int 7] M (fun v M' => (v = some (.int c4) ∧ M = M')) := by
  refine pt_in (b := mb_15 g) rfl (fun kf => ?_)
  show pl (mT g) kf (mb_15 g).2 (0, [(0, .ref o), (1, .int t), (2, .int (nI k)), (3, .int 7)], [], M) _
  refine ps_st (S' := (1, [(0, .ref o), (1, .int t), (2, .int (nI k)), (3, .int 7)], [.int 7], M)) rfl rfl rfl ?_
  refine ps_if (S1 := (10, [(0, .ref o), (1, .int t), (2, .int (nI k)), (3, .int 7)], [], M)) (S2 := (4, [(0, .ref o), (1, .int t), (2, .int (nI k)), (3, .int 7)], [], M)) rfl rfl rfl (fun c_1 => ?_) (fun c_1 => ?_)
  · exact absurd (of_decide_eq_true c_1) (by decide)
  refine ps_st (S' := (5, [(0, .ref o), (1, .int t), (2, .int (nI k)), (3, .int 7)], [.int 7], M)) rfl rfl rfl ?_
  refine ps_st (S' := (7, [(0, .ref o), (1, .int t), (2, .int (nI k)), (3, .int 7)], [.int 9, .int 7], M)) rfl rfl rfl ?_
  refine ps_if2 (S1 := (20, [(0, .ref o), (1, .int t), (2, .int (nI k)), (3, .int 7)], [], M)) (S2 := (10, [(0, .ref o), (1, .int t), (2, .int (nI k)), (3, .int 7)], [], M)) rfl rfl rfl (fun c_7 => ?_) (fun c_7 => ?_)
  rotate_left
  · exact absurd (by decide) (of_decide_eq_false c_7)
  refine ps_st (S' := (21, [(0, .ref o), (1, .int t), (2, .int (nI k)), (3, .int 7)], [.ref o], M)) rfl rfl rfl ?_
  refine ps_get (S' := (24, [(0, .ref o), (1, .int t), (2, .int (nI k)), (3, .int 7)], [.ref c], M)) rfl h_o rfl rfl ?_
  refine ps_st (S' := (31, [(0, .ref o), (1, .int t), (2, .int (nI k)), (3, .int 7)], [], M)) rfl rfl rfl ?_
  refine ps_st (S' := (32, [(0, .ref o), (1, .int t), (2, .int (nI k)), (3, .int 7)], [.ref o], M)) rfl rfl rfl ?_
  refine ps_get (S' := (35, [(0, .ref o), (1, .int t), (2, .int (nI k)), (3, .int 7)], [.ref c], M)) rfl h_o rfl rfl ?_
  refine ps_st (S' := (36, [(0, .ref o), (1, .int t), (2, .int (nI k)), (3, .int 7)], [.int t, .ref c], M)) rfl rfl rfl ?_
  refine ps_st (S' := (37, [(0, .ref o), (1, .int t), (2, .int (nI k)), (3, .int 7)], [.int (nI k), .int t, .ref c], M)) rfl rfl rfl ?_
  refine pl_call (a := [.ref c, .int t, .int (nI k)]) (rest := []) rfl rfl rfl (dk_memberAtM (c := c) (b := b) (q := q) (fr := fr) (mr := mr) (l := l) (u2 := u2) (u3 := u3) (u4 := u4) (u5 := u5) (w := w) (R := R) (t := t) (k := k) (a := a) h_c h_mr (ht) (hk) (hl) (hR)) (fun v1 M2 q3 => ?_)
  obtain ⟨rfl, rfl⟩ := q3
  show pl _ _ _ (40, [(1, .int t), (3, .int 7)], [.ref a], M) _
  refine ps_st (S' := (42, [(4, .ref a), (1, .int t), (3, .int 7)], [], M)) rfl rfl rfl ?_
  refine ps_st (S' := (44, [(4, .ref a), (1, .int t), (3, .int 7)], [.ref a], M)) rfl rfl rfl ?_
  refine ps_st (S' := (51, [(4, .ref a), (1, .int t), (3, .int 7)], [], M)) rfl rfl rfl ?_
  refine ps_st (S' := (53, [(4, .ref a), (1, .int t), (3, .int 7)], [.ref a], M)) rfl rfl rfl ?_
  refine ps_st (S' := (54, [(4, .ref a), (1, .int t), (3, .int 7)], [.int t, .ref a], M)) rfl rfl rfl ?_
  refine ps_st (S' := (55, [(4, .ref a), (1, .int t), (3, .int 7)], [.int 7, .int t, .ref a], M)) rfl rfl rfl ?_
  refine pl_call (a := [.ref a, .int t, .int 7]) (rest := []) rfl rfl rfl (dk_mnumM7C (a := a) (t := t) (m0 := m0) (m1 := m1) (m2 := m2) (m3 := m3) (m4 := m4) (m5 := m5) (m6 := m6) (m7 := m7) (m8 := m8) (m9 := m9) (z := z) (c0 := c0) (c1 := c1) (c2 := c2) (c3 := c3) (c4 := c4) (v5 := v5) (v6 := v6) (v7 := v7) (v8 := v8) (v9 := v9) (v10 := v10) h_a h_z (ht)) (fun v4 M5 q6 => ?_)
  obtain ⟨rfl, rfl⟩ := q6
  show pl _ _ _ (58, [], [.int c4], M) _
  exact ps_reti rfl (⟨rfl, rfl⟩)
set_option maxHeartbeats 1000000 in
theorem dk_memberM8 {g : xe_G} {M : mi_H} {o ca fl : Nat} {cn wp : Int32} {c b q fr mr l : Nat} {u2 u3 u4 u5 : Int32} {w : List Value} {R : Nat → Value} {a : Nat} {m0 m1 m2 m3 m4 m5 m6 m7 m8 m9 : Int32} {t : Int32} {k : Nat} {mv : Value} (h_o : M.1 o = some (ob 11 [.ref ca, .int cn, .ref fl, .ref c, .int wp])) (h_c : M.1 c = some (ob 3 (.ref b :: .ref q :: .int u2 :: .int u3 :: .int u4 :: .int u5 :: .ref fr :: .ref mr :: w))) (h_mr : M.1 mr = some (ro "ClassGate$Member" l R)) (h_a : M.1 a = some (ob 6 [.int m0, .int m1, .int m2, .int m3, .int m4, .int m5, .int m6, .int m7, .int m8, .int m9, mv])) (ht : ¬ t = 0) (hk : k < l) (hl : l < 65536) (hR : R k = .ref a) : pt (mT g) 15 [.ref o, .int t, .int (nI k), .int 8] M (fun v M' => (v = some (.int m8) ∧ M = M')) := by
  refine pt_in (b := mb_15 g) rfl (fun kf => ?_)
  show pl (mT g) kf (mb_15 g).2 (0, [(0, .ref o), (1, .int t), (2, .int (nI k)), (3, .int 8)], [], M) _
  refine ps_st (S' := (1, [(0, .ref o), (1, .int t), (2, .int (nI k)), (3, .int 8)], [.int 8], M)) rfl rfl rfl ?_
  refine ps_if (S1 := (10, [(0, .ref o), (1, .int t), (2, .int (nI k)), (3, .int 8)], [], M)) (S2 := (4, [(0, .ref o), (1, .int t), (2, .int (nI k)), (3, .int 8)], [], M)) rfl rfl rfl (fun c_1 => ?_) (fun c_1 => ?_)
  · exact absurd (of_decide_eq_true c_1) (by decide)
  refine ps_st (S' := (5, [(0, .ref o), (1, .int t), (2, .int (nI k)), (3, .int 8)], [.int 8], M)) rfl rfl rfl ?_
  refine ps_st (S' := (7, [(0, .ref o), (1, .int t), (2, .int (nI k)), (3, .int 8)], [.int 9, .int 8], M)) rfl rfl rfl ?_
  refine ps_if2 (S1 := (20, [(0, .ref o), (1, .int t), (2, .int (nI k)), (3, .int 8)], [], M)) (S2 := (10, [(0, .ref o), (1, .int t), (2, .int (nI k)), (3, .int 8)], [], M)) rfl rfl rfl (fun c_7 => ?_) (fun c_7 => ?_)
  rotate_left
  · exact absurd (by decide) (of_decide_eq_false c_7)
  refine ps_st (S' := (21, [(0, .ref o), (1, .int t), (2, .int (nI k)), (3, .int 8)], [.ref o], M)) rfl rfl rfl ?_
  refine ps_get (S' := (24, [(0, .ref o), (1, .int t), (2, .int (nI k)), (3, .int 8)], [.ref c], M)) rfl h_o rfl rfl ?_
  refine ps_st (S' := (31, [(0, .ref o), (1, .int t), (2, .int (nI k)), (3, .int 8)], [], M)) rfl rfl rfl ?_
  refine ps_st (S' := (32, [(0, .ref o), (1, .int t), (2, .int (nI k)), (3, .int 8)], [.ref o], M)) rfl rfl rfl ?_
  refine ps_get (S' := (35, [(0, .ref o), (1, .int t), (2, .int (nI k)), (3, .int 8)], [.ref c], M)) rfl h_o rfl rfl ?_
  refine ps_st (S' := (36, [(0, .ref o), (1, .int t), (2, .int (nI k)), (3, .int 8)], [.int t, .ref c], M)) rfl rfl rfl ?_
  refine ps_st (S' := (37, [(0, .ref o), (1, .int t), (2, .int (nI k)), (3, .int 8)], [.int (nI k), .int t, .ref c], M)) rfl rfl rfl ?_
  refine pl_call (a := [.ref c, .int t, .int (nI k)]) (rest := []) rfl rfl rfl (dk_memberAtM (c := c) (b := b) (q := q) (fr := fr) (mr := mr) (l := l) (u2 := u2) (u3 := u3) (u4 := u4) (u5 := u5) (w := w) (R := R) (t := t) (k := k) (a := a) h_c h_mr (ht) (hk) (hl) (hR)) (fun v1 M2 q3 => ?_)
  obtain ⟨rfl, rfl⟩ := q3
  show pl _ _ _ (40, [(1, .int t), (3, .int 8)], [.ref a], M) _
  refine ps_st (S' := (42, [(4, .ref a), (1, .int t), (3, .int 8)], [], M)) rfl rfl rfl ?_
  refine ps_st (S' := (44, [(4, .ref a), (1, .int t), (3, .int 8)], [.ref a], M)) rfl rfl rfl ?_
  refine ps_st (S' := (51, [(4, .ref a), (1, .int t), (3, .int 8)], [], M)) rfl rfl rfl ?_
  refine ps_st (S' := (53, [(4, .ref a), (1, .int t), (3, .int 8)], [.ref a], M)) rfl rfl rfl ?_
  refine ps_st (S' := (54, [(4, .ref a), (1, .int t), (3, .int 8)], [.int t, .ref a], M)) rfl rfl rfl ?_
  refine ps_st (S' := (55, [(4, .ref a), (1, .int t), (3, .int 8)], [.int 8, .int t, .ref a], M)) rfl rfl rfl ?_
  refine pl_call (a := [.ref a, .int t, .int 8]) (rest := []) rfl rfl rfl (dk_mnumM8 (a := a) (t := t) (m0 := m0) (m1 := m1) (m2 := m2) (m3 := m3) (m4 := m4) (m5 := m5) (m6 := m6) (m7 := m7) (m8 := m8) (m9 := m9) (mv := mv) h_a (ht)) (fun v4 M5 q6 => ?_)
  obtain ⟨rfl, rfl⟩ := q6
  show pl _ _ _ (58, [], [.int m8], M) _
  exact ps_reti rfl (⟨rfl, rfl⟩)
set_option maxHeartbeats 1000000 in
theorem dk_memberM9 {g : xe_G} {M : mi_H} {o ca fl : Nat} {cn wp : Int32} {c b q fr mr l : Nat} {u2 u3 u4 u5 : Int32} {w : List Value} {R : Nat → Value} {a : Nat} {m0 m1 m2 m3 m4 m5 m6 m7 m8 m9 : Int32} {t : Int32} {k : Nat} {mv : Value} (h_o : M.1 o = some (ob 11 [.ref ca, .int cn, .ref fl, .ref c, .int wp])) (h_c : M.1 c = some (ob 3 (.ref b :: .ref q :: .int u2 :: .int u3 :: .int u4 :: .int u5 :: .ref fr :: .ref mr :: w))) (h_mr : M.1 mr = some (ro "ClassGate$Member" l R)) (h_a : M.1 a = some (ob 6 [.int m0, .int m1, .int m2, .int m3, .int m4, .int m5, .int m6, .int m7, .int m8, .int m9, mv])) (ht : ¬ t = 0) (hk : k < l) (hl : l < 65536) (hR : R k = .ref a) : pt (mT g) 15 [.ref o, .int t, .int (nI k), .int 9] M (fun v M' => (v = some (.int m9) ∧ M = M')) := by
  refine pt_in (b := mb_15 g) rfl (fun kf => ?_)
  show pl (mT g) kf (mb_15 g).2 (0, [(0, .ref o), (1, .int t), (2, .int (nI k)), (3, .int 9)], [], M) _
  refine ps_st (S' := (1, [(0, .ref o), (1, .int t), (2, .int (nI k)), (3, .int 9)], [.int 9], M)) rfl rfl rfl ?_
  refine ps_if (S1 := (10, [(0, .ref o), (1, .int t), (2, .int (nI k)), (3, .int 9)], [], M)) (S2 := (4, [(0, .ref o), (1, .int t), (2, .int (nI k)), (3, .int 9)], [], M)) rfl rfl rfl (fun c_1 => ?_) (fun c_1 => ?_)
  · exact absurd (of_decide_eq_true c_1) (by decide)
  refine ps_st (S' := (5, [(0, .ref o), (1, .int t), (2, .int (nI k)), (3, .int 9)], [.int 9], M)) rfl rfl rfl ?_
  refine ps_st (S' := (7, [(0, .ref o), (1, .int t), (2, .int (nI k)), (3, .int 9)], [.int 9, .int 9], M)) rfl rfl rfl ?_
  refine ps_if2 (S1 := (20, [(0, .ref o), (1, .int t), (2, .int (nI k)), (3, .int 9)], [], M)) (S2 := (10, [(0, .ref o), (1, .int t), (2, .int (nI k)), (3, .int 9)], [], M)) rfl rfl rfl (fun c_7 => ?_) (fun c_7 => ?_)
  rotate_left
  · exact absurd (by decide) (of_decide_eq_false c_7)
  refine ps_st (S' := (21, [(0, .ref o), (1, .int t), (2, .int (nI k)), (3, .int 9)], [.ref o], M)) rfl rfl rfl ?_
  refine ps_get (S' := (24, [(0, .ref o), (1, .int t), (2, .int (nI k)), (3, .int 9)], [.ref c], M)) rfl h_o rfl rfl ?_
  refine ps_st (S' := (31, [(0, .ref o), (1, .int t), (2, .int (nI k)), (3, .int 9)], [], M)) rfl rfl rfl ?_
  refine ps_st (S' := (32, [(0, .ref o), (1, .int t), (2, .int (nI k)), (3, .int 9)], [.ref o], M)) rfl rfl rfl ?_
  refine ps_get (S' := (35, [(0, .ref o), (1, .int t), (2, .int (nI k)), (3, .int 9)], [.ref c], M)) rfl h_o rfl rfl ?_
  refine ps_st (S' := (36, [(0, .ref o), (1, .int t), (2, .int (nI k)), (3, .int 9)], [.int t, .ref c], M)) rfl rfl rfl ?_
  refine ps_st (S' := (37, [(0, .ref o), (1, .int t), (2, .int (nI k)), (3, .int 9)], [.int (nI k), .int t, .ref c], M)) rfl rfl rfl ?_
  refine pl_call (a := [.ref c, .int t, .int (nI k)]) (rest := []) rfl rfl rfl (dk_memberAtM (c := c) (b := b) (q := q) (fr := fr) (mr := mr) (l := l) (u2 := u2) (u3 := u3) (u4 := u4) (u5 := u5) (w := w) (R := R) (t := t) (k := k) (a := a) h_c h_mr (ht) (hk) (hl) (hR)) (fun v1 M2 q3 => ?_)
  obtain ⟨rfl, rfl⟩ := q3
  show pl _ _ _ (40, [(1, .int t), (3, .int 9)], [.ref a], M) _
  refine ps_st (S' := (42, [(4, .ref a), (1, .int t), (3, .int 9)], [], M)) rfl rfl rfl ?_
  refine ps_st (S' := (44, [(4, .ref a), (1, .int t), (3, .int 9)], [.ref a], M)) rfl rfl rfl ?_
  refine ps_st (S' := (51, [(4, .ref a), (1, .int t), (3, .int 9)], [], M)) rfl rfl rfl ?_
  refine ps_st (S' := (53, [(4, .ref a), (1, .int t), (3, .int 9)], [.ref a], M)) rfl rfl rfl ?_
  refine ps_st (S' := (54, [(4, .ref a), (1, .int t), (3, .int 9)], [.int t, .ref a], M)) rfl rfl rfl ?_
  refine ps_st (S' := (55, [(4, .ref a), (1, .int t), (3, .int 9)], [.int 9, .int t, .ref a], M)) rfl rfl rfl ?_
  refine pl_call (a := [.ref a, .int t, .int 9]) (rest := []) rfl rfl rfl (dk_mnumM9 (a := a) (t := t) (m0 := m0) (m1 := m1) (m2 := m2) (m3 := m3) (m4 := m4) (m5 := m5) (m6 := m6) (m7 := m7) (m8 := m8) (m9 := m9) (mv := mv) h_a (ht)) (fun v4 M5 q6 => ?_)
  obtain ⟨rfl, rfl⟩ := q6
  show pl _ _ _ (58, [], [.int m9], M) _
  exact ps_reti rfl (⟨rfl, rfl⟩)
theorem dk_memberK {g : xe_G} {M : mi_H} {ko : Option (Nat × (Nat → Int32))} {kv : Value} {cm o fl : Nat} {cn wp t i x : Int32} (hx : M.1 o = some (ob 11 [.ref cm, .int cn, .ref fl, kv, .int wp])) (hK : KPC g ko kv cm M) (h0 : ¬ x < 0) (h1 : x ≤ 9) : pt (mT g) 15 [.ref o, .int t, .int i, .int x] M (fun v M' => v = some (.int (meK ko t i x)) ∧ M = M') := by
  cases ko with
  | none =>
    have e : kv = .null := hK
    subst e
    exact dk_member0k hx h0 h1
  | some r =>
    obtain ⟨c, da, rfl, ⟨b, q, N, E, p1, pF, pM, pA, w', k1, k2, k3, k4, k5, rfl, -, k7, fr, mr, G1, G2, _, _, bc, K, rfl, m1, m2, m3, m4, m5, m6, m7, m8, m9, m10⟩, -, -⟩ := hK
    rw [meK_is k5]
    have hb1 := mbs_len m4
    have hb2 := mbs_len m5
    obtain ⟨R1, r1, r3⟩ := m1.2.1
    obtain ⟨R2, r2, r4⟩ := m2.2.1
    by_cases ht : t = 0
    · rw [if_pos ht]
      unfold meI
      by_cases hi : i < 0 ∨ nI (mbs r.2 r.1 (by2 r.2 pF) (pF + 2)).length ≤ i
      · rw [if_pos hi]
        exact dk_memberNF hx k1 r1 h0 h1 ht hi
      · rw [if_neg hi]
        obtain ⟨ei, li⟩ := i32_in hb1 hi
        obtain ⟨k, ek⟩ : ∃ k, k = i.toNatClampNeg := ⟨_, rfl⟩
        rw [← ek] at ei li ⊢
        subst ei
        obtain ⟨ew, hw⟩ := i32_10 h0 h1
        obtain ⟨j, ej⟩ : ∃ j, j = x.toNatClampNeg := ⟨_, rfl⟩
        rw [← ej] at ew hw ⊢
        subst ew
        have hc := (m9 k li li).2
        have hr := r3 k li
        rcases (show j = 0 ∨ j = 1 ∨ j = 2 ∨ j = 3 ∨ j = 4 ∨ j = 5 ∨ j = 6 ∨ j = 7 ∨ j = 8 ∨ j = 9 by omega) with rfl | rfl | rfl | rfl | rfl | rfl | rfl | rfl | rfl | rfl
        · exact dk_memberF0 hx k1 r1 hc ht li hb1 hr
        · exact dk_memberF1 hx k1 r1 hc ht li hb1 hr
        · exact dk_memberF2 hx k1 r1 hc ht li hb1 hr
        · exact dk_memberF3 hx k1 r1 hc ht li hb1 hr
        · exact dk_memberF4 hx k1 r1 hc ht li hb1 hr
        · exact dk_memberF5 hx k1 r1 hc ht li hb1 hr
        · exact dk_memberF6 hx k1 r1 hc ht li hb1 hr
        · exact dk_memberF7 hx k1 r1 hc ht li hb1 hr
        · exact dk_memberF8 hx k1 r1 hc ht li hb1 hr
        · exact dk_memberF9 hx k1 r1 hc ht li hb1 hr
    · rw [if_neg ht]
      unfold meI
      by_cases hi : i < 0 ∨ nI (mbs r.2 r.1 (by2 r.2 pM) (pM + 2)).length ≤ i
      · rw [if_pos hi]
        exact dk_memberNM hx k1 r2 h0 h1 ht hi
      · rw [if_neg hi]
        obtain ⟨ei, li⟩ := i32_in hb2 hi
        obtain ⟨k, ek⟩ : ∃ k, k = i.toNatClampNeg := ⟨_, rfl⟩
        rw [← ek] at ei li ⊢
        subst ei
        obtain ⟨ew, hw⟩ := i32_10 h0 h1
        obtain ⟨j, ej⟩ : ∃ j, j = x.toNatClampNeg := ⟨_, rfl⟩
        rw [← ej] at ew hw ⊢
        subst ew
        obtain ⟨-, v, hc, hcd⟩ := m10 k li
        have hr := r4 k li
        rcases hcd with ⟨hp, rfl⟩ | ⟨hp, zz, w8, w9, w10, rfl, hzl, hzc⟩
        · rcases (show j = 0 ∨ j = 1 ∨ j = 2 ∨ j = 3 ∨ j = 4 ∨ j = 5 ∨ j = 6 ∨ j = 7 ∨ j = 8 ∨ j = 9 by omega) with rfl | rfl | rfl | rfl | rfl | rfl | rfl | rfl | rfl | rfl
          · exact dk_memberM0 hx k1 r2 hc ht li hb2 hr
          · exact dk_memberM1 hx k1 r2 hc ht li hb2 hr
          · exact dk_memberM2 hx k1 r2 hc ht li hb2 hr
          · exact dk_memberM3 hx k1 r2 hc ht li hb2 hr
          · rw [meM_4N hp]
            exact dk_memberM4N hx k1 r2 hc ht li hb2 hr
          · rw [meM_5N hp]
            exact dk_memberM5N hx k1 r2 hc ht li hb2 hr
          · rw [meM_6N hp]
            exact dk_memberM6N hx k1 r2 hc ht li hb2 hr
          · rw [meM_7N hp]
            exact dk_memberM7N hx k1 r2 hc ht li hb2 hr
          · exact dk_memberM8 hx k1 r2 hc ht li hb2 hr
          · exact dk_memberM9 hx k1 r2 hc ht li hb2 hr
        · rcases (show j = 0 ∨ j = 1 ∨ j = 2 ∨ j = 3 ∨ j = 4 ∨ j = 5 ∨ j = 6 ∨ j = 7 ∨ j = 8 ∨ j = 9 by omega) with rfl | rfl | rfl | rfl | rfl | rfl | rfl | rfl | rfl | rfl
          · exact dk_memberM0 hx k1 r2 hc ht li hb2 hr
          · exact dk_memberM1 hx k1 r2 hc ht li hb2 hr
          · exact dk_memberM2 hx k1 r2 hc ht li hb2 hr
          · exact dk_memberM3 hx k1 r2 hc ht li hb2 hr
          · rw [meM_4C hp]
            exact dk_memberM4C hx k1 r2 hc hzc ht li hb2 hr
          · rw [meM_5C hp]
            exact dk_memberM5C hx k1 r2 hc hzc ht li hb2 hr
          · rw [meM_6C hp]
            exact dk_memberM6C hx k1 r2 hc hzc ht li hb2 hr
          · rw [meM_7C hp]
            exact dk_memberM7C hx k1 r2 hc hzc ht li hb2 hr
          · exact dk_memberM8 hx k1 r2 hc ht li hb2 hr
          · exact dk_memberM9 hx k1 r2 hc ht li hb2 hr
set_option maxHeartbeats 1000000 in
theorem dk_codeOf0 {g : xe_G} {M : mi_H} {o ca fl : Nat} {cn wp m : Int32} (h_o : M.1 o = some (ob 11 [.ref ca, .int cn, .ref fl, .null, .int wp]))  : pt (mT g) 4 [.ref o, .int m] M (fun v M' => (v = some (.null) ∧ M = M')) := by
  refine pt_in (b := mb_4 g) rfl (fun kf => ?_)
  show pl (mT g) kf (mb_4 g).2 (0, [(0, .ref o), (1, .int m)], [], M) _
  refine ps_st (S' := (1, [(0, .ref o), (1, .int m)], [.ref o], M)) rfl rfl rfl ?_
  refine ps_get (S' := (4, [(0, .ref o), (1, .int m)], [.null], M)) rfl h_o rfl rfl ?_
  refine ps_st (S' := (7, [(0, .ref o), (1, .int m)], [], M)) rfl rfl rfl ?_
  refine ps_st (S' := (8, [(0, .ref o), (1, .int m)], [.null], M)) rfl rfl rfl ?_
  refine ps_st (S' := (20, [], [.null], M)) rfl rfl rfl ?_
  refine ps_st (S' := (21, [(2, .null)], [], M)) rfl rfl rfl ?_
  refine ps_st (S' := (22, [(2, .null)], [.null], M)) rfl rfl rfl ?_
  refine ps_st (S' := (25, [(2, .null)], [], M)) rfl rfl rfl ?_
  refine ps_st (S' := (26, [(2, .null)], [.null], M)) rfl rfl rfl ?_
  refine ps_st (S' := (33, [], [.null], M)) rfl rfl rfl ?_
  exact ps_ret rfl rfl (⟨rfl, rfl⟩)
set_option maxHeartbeats 1000000 in
theorem dk_codeOfN {g : xe_G} {M : mi_H} {o ca fl : Nat} {cn wp : Int32} {c b q fr mr l : Nat} {u2 u3 u4 u5 : Int32} {w : List Value} {R : Nat → Value} {m : Int32} (h_o : M.1 o = some (ob 11 [.ref ca, .int cn, .ref fl, .ref c, .int wp])) (h_c : M.1 c = some (ob 3 (.ref b :: .ref q :: .int u2 :: .int u3 :: .int u4 :: .int u5 :: .ref fr :: .ref mr :: w))) (h_mr : M.1 mr = some (ro "ClassGate$Member" l R)) (hi : m < 0 ∨ nI l ≤ m) : pt (mT g) 4 [.ref o, .int m] M (fun v M' => (v = some (.null) ∧ M = M')) := by
  refine pt_in (b := mb_4 g) rfl (fun kf => ?_)
  show pl (mT g) kf (mb_4 g).2 (0, [(0, .ref o), (1, .int m)], [], M) _
  refine ps_st (S' := (1, [(0, .ref o), (1, .int m)], [.ref o], M)) rfl rfl rfl ?_
  refine ps_get (S' := (4, [(0, .ref o), (1, .int m)], [.ref c], M)) rfl h_o rfl rfl ?_
  refine ps_st (S' := (11, [(0, .ref o), (1, .int m)], [], M)) rfl rfl rfl ?_
  refine ps_st (S' := (12, [(0, .ref o), (1, .int m)], [.ref o], M)) rfl rfl rfl ?_
  refine ps_get (S' := (15, [(0, .ref o), (1, .int m)], [.ref c], M)) rfl h_o rfl rfl ?_
  refine ps_st (S' := (16, [(0, .ref o), (1, .int m)], [.int 1, .ref c], M)) rfl rfl rfl ?_
  refine ps_st (S' := (17, [(0, .ref o), (1, .int m)], [.int m, .int 1, .ref c], M)) rfl rfl rfl ?_
  refine pl_call (a := [.ref c, .int 1, .int m]) (rest := []) rfl rfl rfl (dk_memberAtNM (c := c) (b := b) (q := q) (fr := fr) (mr := mr) (l := l) (u2 := u2) (u3 := u3) (u4 := u4) (u5 := u5) (w := w) (R := R) (t := 1) (i := m) h_c h_mr (by decide) (hi)) (fun v1 M2 q3 => ?_)
  obtain ⟨rfl, rfl⟩ := q3
  show pl _ _ _ (20, [], [.null], M) _
  refine ps_st (S' := (21, [(2, .null)], [], M)) rfl rfl rfl ?_
  refine ps_st (S' := (22, [(2, .null)], [.null], M)) rfl rfl rfl ?_
  refine ps_st (S' := (25, [(2, .null)], [], M)) rfl rfl rfl ?_
  refine ps_st (S' := (26, [(2, .null)], [.null], M)) rfl rfl rfl ?_
  refine ps_st (S' := (33, [], [.null], M)) rfl rfl rfl ?_
  exact ps_ret rfl rfl (⟨rfl, rfl⟩)
set_option maxHeartbeats 1000000 in
theorem dk_codeOfB {g : xe_G} {M : mi_H} {o ca fl : Nat} {cn wp : Int32} {c b q fr mr l : Nat} {u2 u3 u4 u5 : Int32} {w : List Value} {R : Nat → Value} {a : Nat} {m0 m1 m2 m3 m4 m5 m6 m7 m8 m9 : Int32} {k : Nat} (h_o : M.1 o = some (ob 11 [.ref ca, .int cn, .ref fl, .ref c, .int wp])) (h_c : M.1 c = some (ob 3 (.ref b :: .ref q :: .int u2 :: .int u3 :: .int u4 :: .int u5 :: .ref fr :: .ref mr :: w))) (h_mr : M.1 mr = some (ro "ClassGate$Member" l R)) (h_a : M.1 a = some (ob 6 [.int m0, .int m1, .int m2, .int m3, .int m4, .int m5, .int m6, .int m7, .int m8, .int m9, .null])) (hk : k < l) (hl : l < 65536) (hR : R k = .ref a) : pt (mT g) 4 [.ref o, .int (nI k)] M (fun v M' => (v = some (.null) ∧ M = M')) := by
  refine pt_in (b := mb_4 g) rfl (fun kf => ?_)
  show pl (mT g) kf (mb_4 g).2 (0, [(0, .ref o), (1, .int (nI k))], [], M) _
  refine ps_st (S' := (1, [(0, .ref o), (1, .int (nI k))], [.ref o], M)) rfl rfl rfl ?_
  refine ps_get (S' := (4, [(0, .ref o), (1, .int (nI k))], [.ref c], M)) rfl h_o rfl rfl ?_
  refine ps_st (S' := (11, [(0, .ref o), (1, .int (nI k))], [], M)) rfl rfl rfl ?_
  refine ps_st (S' := (12, [(0, .ref o), (1, .int (nI k))], [.ref o], M)) rfl rfl rfl ?_
  refine ps_get (S' := (15, [(0, .ref o), (1, .int (nI k))], [.ref c], M)) rfl h_o rfl rfl ?_
  refine ps_st (S' := (16, [(0, .ref o), (1, .int (nI k))], [.int 1, .ref c], M)) rfl rfl rfl ?_
  refine ps_st (S' := (17, [(0, .ref o), (1, .int (nI k))], [.int (nI k), .int 1, .ref c], M)) rfl rfl rfl ?_
  refine pl_call (a := [.ref c, .int 1, .int (nI k)]) (rest := []) rfl rfl rfl (dk_memberAtM (c := c) (b := b) (q := q) (fr := fr) (mr := mr) (l := l) (u2 := u2) (u3 := u3) (u4 := u4) (u5 := u5) (w := w) (R := R) (t := 1) (k := k) (a := a) h_c h_mr (by decide) (hk) (hl) (hR)) (fun v1 M2 q3 => ?_)
  obtain ⟨rfl, rfl⟩ := q3
  show pl _ _ _ (20, [], [.ref a], M) _
  refine ps_st (S' := (21, [(2, .ref a)], [], M)) rfl rfl rfl ?_
  refine ps_st (S' := (22, [(2, .ref a)], [.ref a], M)) rfl rfl rfl ?_
  refine ps_st (S' := (29, [(2, .ref a)], [], M)) rfl rfl rfl ?_
  refine ps_st (S' := (30, [(2, .ref a)], [.ref a], M)) rfl rfl rfl ?_
  refine ps_get (S' := (33, [], [.null], M)) rfl h_a rfl rfl ?_
  exact ps_ret rfl rfl (⟨rfl, rfl⟩)
set_option maxHeartbeats 1000000 in
theorem dk_codeOfC {g : xe_G} {M : mi_H} {o ca fl : Nat} {cn wp : Int32} {c b q fr mr l : Nat} {u2 u3 u4 u5 : Int32} {w : List Value} {R : Nat → Value} {a : Nat} {m0 m1 m2 m3 m4 m5 m6 m7 m8 m9 : Int32} {k : Nat} {z : Nat} (h_o : M.1 o = some (ob 11 [.ref ca, .int cn, .ref fl, .ref c, .int wp])) (h_c : M.1 c = some (ob 3 (.ref b :: .ref q :: .int u2 :: .int u3 :: .int u4 :: .int u5 :: .ref fr :: .ref mr :: w))) (h_mr : M.1 mr = some (ro "ClassGate$Member" l R)) (h_a : M.1 a = some (ob 6 [.int m0, .int m1, .int m2, .int m3, .int m4, .int m5, .int m6, .int m7, .int m8, .int m9, .ref z])) (hk : k < l) (hl : l < 65536) (hR : R k = .ref a) : pt (mT g) 4 [.ref o, .int (nI k)] M (fun v M' => (v = some (.ref z) ∧ M = M')) := by
  refine pt_in (b := mb_4 g) rfl (fun kf => ?_)
  show pl (mT g) kf (mb_4 g).2 (0, [(0, .ref o), (1, .int (nI k))], [], M) _
  refine ps_st (S' := (1, [(0, .ref o), (1, .int (nI k))], [.ref o], M)) rfl rfl rfl ?_
  refine ps_get (S' := (4, [(0, .ref o), (1, .int (nI k))], [.ref c], M)) rfl h_o rfl rfl ?_
  refine ps_st (S' := (11, [(0, .ref o), (1, .int (nI k))], [], M)) rfl rfl rfl ?_
  refine ps_st (S' := (12, [(0, .ref o), (1, .int (nI k))], [.ref o], M)) rfl rfl rfl ?_
  refine ps_get (S' := (15, [(0, .ref o), (1, .int (nI k))], [.ref c], M)) rfl h_o rfl rfl ?_
  refine ps_st (S' := (16, [(0, .ref o), (1, .int (nI k))], [.int 1, .ref c], M)) rfl rfl rfl ?_
  refine ps_st (S' := (17, [(0, .ref o), (1, .int (nI k))], [.int (nI k), .int 1, .ref c], M)) rfl rfl rfl ?_
  refine pl_call (a := [.ref c, .int 1, .int (nI k)]) (rest := []) rfl rfl rfl (dk_memberAtM (c := c) (b := b) (q := q) (fr := fr) (mr := mr) (l := l) (u2 := u2) (u3 := u3) (u4 := u4) (u5 := u5) (w := w) (R := R) (t := 1) (k := k) (a := a) h_c h_mr (by decide) (hk) (hl) (hR)) (fun v1 M2 q3 => ?_)
  obtain ⟨rfl, rfl⟩ := q3
  show pl _ _ _ (20, [], [.ref a], M) _
  refine ps_st (S' := (21, [(2, .ref a)], [], M)) rfl rfl rfl ?_
  refine ps_st (S' := (22, [(2, .ref a)], [.ref a], M)) rfl rfl rfl ?_
  refine ps_st (S' := (29, [(2, .ref a)], [], M)) rfl rfl rfl ?_
  refine ps_st (S' := (30, [(2, .ref a)], [.ref a], M)) rfl rfl rfl ?_
  refine ps_get (S' := (33, [], [.ref z], M)) rfl h_a rfl rfl ?_
  exact ps_ret rfl rfl (⟨rfl, rfl⟩)
set_option maxHeartbeats 1000000 in
theorem dk_row0 {g : xe_G} {M : mi_H} {o ca fl : Nat} {cn wp m r x : Int32} (h_o : M.1 o = some (ob 11 [.ref ca, .int cn, .ref fl, .null, .int wp])) (h0 : ¬ x < 0) (h1 : x ≤ 3) : pt (mT g) 19 [.ref o, .int m, .int r, .int x] M (fun v M' => (v = some (.int (-1)) ∧ M = M')) := by
  refine pt_in (b := mb_19 g) rfl (fun kf => ?_)
  show pl (mT g) kf (mb_19 g).2 (0, [(0, .ref o), (1, .int m), (2, .int r), (3, .int x)], [], M) _
  refine ps_st (S' := (1, [(0, .ref o), (1, .int m), (2, .int r), (3, .int x)], [.int x], M)) rfl rfl rfl ?_
  refine ps_if (S1 := (9, [(0, .ref o), (1, .int m), (2, .int r), (3, .int x)], [], M)) (S2 := (4, [(0, .ref o), (1, .int m), (2, .int r), (3, .int x)], [], M)) rfl rfl rfl (fun c_1 => ?_) (fun c_1 => ?_)
  · exact absurd (of_decide_eq_true c_1) (h0)
  refine ps_st (S' := (5, [(0, .ref o), (1, .int m), (2, .int r), (3, .int x)], [.int x], M)) rfl rfl rfl ?_
  refine ps_st (S' := (6, [(0, .ref o), (1, .int m), (2, .int r), (3, .int x)], [.int 3, .int x], M)) rfl rfl rfl ?_
  refine ps_if2 (S1 := (19, [(0, .ref o), (1, .int m), (2, .int r), (3, .int x)], [], M)) (S2 := (9, [(0, .ref o), (1, .int m), (2, .int r), (3, .int x)], [], M)) rfl rfl rfl (fun c_6 => ?_) (fun c_6 => ?_)
  rotate_left
  · exact absurd (h1) (of_decide_eq_false c_6)
  refine ps_st (S' := (20, [(0, .ref o), (1, .int m), (2, .int r), (3, .int x)], [.ref o], M)) rfl rfl rfl ?_
  refine ps_st (S' := (21, [(0, .ref o), (1, .int m), (2, .int r), (3, .int x)], [.int m, .ref o], M)) rfl rfl rfl ?_
  refine pl_call (a := [.ref o, .int m]) (rest := []) rfl rfl rfl (dk_codeOf0 (o := o) (ca := ca) (fl := fl) (cn := cn) (wp := wp) (m := m) h_o) (fun v1 M2 q3 => ?_)
  obtain ⟨rfl, rfl⟩ := q3
  show pl _ _ _ (24, [(0, .ref o), (1, .int m), (2, .int r), (3, .int x)], [.null], M) _
  refine ps_st (S' := (26, [(4, .null), (0, .ref o), (1, .int m), (2, .int r), (3, .int x)], [], M)) rfl rfl rfl ?_
  refine ps_st (S' := (28, [(4, .null), (0, .ref o), (1, .int m), (2, .int r), (3, .int x)], [.null], M)) rfl rfl rfl ?_
  refine ps_st (S' := (44, [], [], M)) rfl rfl rfl ?_
  refine ps_st (S' := (45, [], [.int (-1)], M)) rfl rfl rfl ?_
  exact ps_ret rfl rfl (⟨rfl, rfl⟩)
set_option maxHeartbeats 1000000 in
theorem dk_rowN {g : xe_G} {M : mi_H} {o ca fl : Nat} {cn wp : Int32} {c b q fr mr l : Nat} {u2 u3 u4 u5 : Int32} {w : List Value} {R : Nat → Value} {m r x : Int32} (h_o : M.1 o = some (ob 11 [.ref ca, .int cn, .ref fl, .ref c, .int wp])) (h_c : M.1 c = some (ob 3 (.ref b :: .ref q :: .int u2 :: .int u3 :: .int u4 :: .int u5 :: .ref fr :: .ref mr :: w))) (h_mr : M.1 mr = some (ro "ClassGate$Member" l R)) (h0 : ¬ x < 0) (h1 : x ≤ 3) (hi : m < 0 ∨ nI l ≤ m) : pt (mT g) 19 [.ref o, .int m, .int r, .int x] M (fun v M' => (v = some (.int (-1)) ∧ M = M')) := by
  refine pt_in (b := mb_19 g) rfl (fun kf => ?_)
  show pl (mT g) kf (mb_19 g).2 (0, [(0, .ref o), (1, .int m), (2, .int r), (3, .int x)], [], M) _
  refine ps_st (S' := (1, [(0, .ref o), (1, .int m), (2, .int r), (3, .int x)], [.int x], M)) rfl rfl rfl ?_
  refine ps_if (S1 := (9, [(0, .ref o), (1, .int m), (2, .int r), (3, .int x)], [], M)) (S2 := (4, [(0, .ref o), (1, .int m), (2, .int r), (3, .int x)], [], M)) rfl rfl rfl (fun c_1 => ?_) (fun c_1 => ?_)
  · exact absurd (of_decide_eq_true c_1) (h0)
  refine ps_st (S' := (5, [(0, .ref o), (1, .int m), (2, .int r), (3, .int x)], [.int x], M)) rfl rfl rfl ?_
  refine ps_st (S' := (6, [(0, .ref o), (1, .int m), (2, .int r), (3, .int x)], [.int 3, .int x], M)) rfl rfl rfl ?_
  refine ps_if2 (S1 := (19, [(0, .ref o), (1, .int m), (2, .int r), (3, .int x)], [], M)) (S2 := (9, [(0, .ref o), (1, .int m), (2, .int r), (3, .int x)], [], M)) rfl rfl rfl (fun c_6 => ?_) (fun c_6 => ?_)
  rotate_left
  · exact absurd (h1) (of_decide_eq_false c_6)
  refine ps_st (S' := (20, [(0, .ref o), (1, .int m), (2, .int r), (3, .int x)], [.ref o], M)) rfl rfl rfl ?_
  refine ps_st (S' := (21, [(0, .ref o), (1, .int m), (2, .int r), (3, .int x)], [.int m, .ref o], M)) rfl rfl rfl ?_
  refine pl_call (a := [.ref o, .int m]) (rest := []) rfl rfl rfl (dk_codeOfN (o := o) (ca := ca) (fl := fl) (cn := cn) (wp := wp) (c := c) (b := b) (q := q) (fr := fr) (mr := mr) (l := l) (u2 := u2) (u3 := u3) (u4 := u4) (u5 := u5) (w := w) (R := R) (m := m) h_o h_c h_mr (hi)) (fun v1 M2 q3 => ?_)
  obtain ⟨rfl, rfl⟩ := q3
  show pl _ _ _ (24, [(0, .ref o), (1, .int m), (2, .int r), (3, .int x)], [.null], M) _
  refine ps_st (S' := (26, [(4, .null), (0, .ref o), (1, .int m), (2, .int r), (3, .int x)], [], M)) rfl rfl rfl ?_
  refine ps_st (S' := (28, [(4, .null), (0, .ref o), (1, .int m), (2, .int r), (3, .int x)], [.null], M)) rfl rfl rfl ?_
  refine ps_st (S' := (44, [], [], M)) rfl rfl rfl ?_
  refine ps_st (S' := (45, [], [.int (-1)], M)) rfl rfl rfl ?_
  exact ps_ret rfl rfl (⟨rfl, rfl⟩)
set_option maxHeartbeats 1000000 in
theorem dk_rowB {g : xe_G} {M : mi_H} {o ca fl : Nat} {cn wp : Int32} {c b q fr mr l : Nat} {u2 u3 u4 u5 : Int32} {w : List Value} {R : Nat → Value} {a : Nat} {m0 m1 m2 m3 m4 m5 m6 m7 m8 m9 : Int32} {k : Nat} {r x : Int32} (h_o : M.1 o = some (ob 11 [.ref ca, .int cn, .ref fl, .ref c, .int wp])) (h_c : M.1 c = some (ob 3 (.ref b :: .ref q :: .int u2 :: .int u3 :: .int u4 :: .int u5 :: .ref fr :: .ref mr :: w))) (h_mr : M.1 mr = some (ro "ClassGate$Member" l R)) (h_a : M.1 a = some (ob 6 [.int m0, .int m1, .int m2, .int m3, .int m4, .int m5, .int m6, .int m7, .int m8, .int m9, .null])) (h0 : ¬ x < 0) (h1 : x ≤ 3) (hk : k < l) (hl : l < 65536) (hR : R k = .ref a) : pt (mT g) 19 [.ref o, .int (nI k), .int r, .int x] M (fun v M' => (v = some (.int (-1)) ∧ M = M')) := by
  refine pt_in (b := mb_19 g) rfl (fun kf => ?_)
  show pl (mT g) kf (mb_19 g).2 (0, [(0, .ref o), (1, .int (nI k)), (2, .int r), (3, .int x)], [], M) _
  refine ps_st (S' := (1, [(0, .ref o), (1, .int (nI k)), (2, .int r), (3, .int x)], [.int x], M)) rfl rfl rfl ?_
  refine ps_if (S1 := (9, [(0, .ref o), (1, .int (nI k)), (2, .int r), (3, .int x)], [], M)) (S2 := (4, [(0, .ref o), (1, .int (nI k)), (2, .int r), (3, .int x)], [], M)) rfl rfl rfl (fun c_1 => ?_) (fun c_1 => ?_)
  · exact absurd (of_decide_eq_true c_1) (h0)
  refine ps_st (S' := (5, [(0, .ref o), (1, .int (nI k)), (2, .int r), (3, .int x)], [.int x], M)) rfl rfl rfl ?_
  refine ps_st (S' := (6, [(0, .ref o), (1, .int (nI k)), (2, .int r), (3, .int x)], [.int 3, .int x], M)) rfl rfl rfl ?_
  refine ps_if2 (S1 := (19, [(0, .ref o), (1, .int (nI k)), (2, .int r), (3, .int x)], [], M)) (S2 := (9, [(0, .ref o), (1, .int (nI k)), (2, .int r), (3, .int x)], [], M)) rfl rfl rfl (fun c_6 => ?_) (fun c_6 => ?_)
  rotate_left
  · exact absurd (h1) (of_decide_eq_false c_6)
  refine ps_st (S' := (20, [(0, .ref o), (1, .int (nI k)), (2, .int r), (3, .int x)], [.ref o], M)) rfl rfl rfl ?_
  refine ps_st (S' := (21, [(0, .ref o), (1, .int (nI k)), (2, .int r), (3, .int x)], [.int (nI k), .ref o], M)) rfl rfl rfl ?_
  refine pl_call (a := [.ref o, .int (nI k)]) (rest := []) rfl rfl rfl (dk_codeOfB (o := o) (ca := ca) (fl := fl) (cn := cn) (wp := wp) (c := c) (b := b) (q := q) (fr := fr) (mr := mr) (l := l) (u2 := u2) (u3 := u3) (u4 := u4) (u5 := u5) (w := w) (R := R) (a := a) (m0 := m0) (m1 := m1) (m2 := m2) (m3 := m3) (m4 := m4) (m5 := m5) (m6 := m6) (m7 := m7) (m8 := m8) (m9 := m9) (k := k) h_o h_c h_mr h_a (hk) (hl) (hR)) (fun v1 M2 q3 => ?_)
  obtain ⟨rfl, rfl⟩ := q3
  show pl _ _ _ (24, [(0, .ref o), (1, .int (nI k)), (2, .int r), (3, .int x)], [.null], M) _
  refine ps_st (S' := (26, [(4, .null), (0, .ref o), (1, .int (nI k)), (2, .int r), (3, .int x)], [], M)) rfl rfl rfl ?_
  refine ps_st (S' := (28, [(4, .null), (0, .ref o), (1, .int (nI k)), (2, .int r), (3, .int x)], [.null], M)) rfl rfl rfl ?_
  refine ps_st (S' := (44, [], [], M)) rfl rfl rfl ?_
  refine ps_st (S' := (45, [], [.int (-1)], M)) rfl rfl rfl ?_
  exact ps_ret rfl rfl (⟨rfl, rfl⟩)
set_option maxHeartbeats 1000000 in
theorem dk_rowR {g : xe_G} {M : mi_H} {o ca fl : Nat} {cn wp : Int32} {c b q fr mr l : Nat} {u2 u3 u4 u5 : Int32} {w : List Value} {R : Nat → Value} {a : Nat} {m0 m1 m2 m3 m4 m5 m6 m7 m8 m9 : Int32} {z ra rc : Nat} {c0 c1 c2 : Int32} {v5 v6 v7 v8 v9 v10 : Value} {k : Nat} {r x : Int32} (h_o : M.1 o = some (ob 11 [.ref ca, .int cn, .ref fl, .ref c, .int wp])) (h_c : M.1 c = some (ob 3 (.ref b :: .ref q :: .int u2 :: .int u3 :: .int u4 :: .int u5 :: .ref fr :: .ref mr :: w))) (h_mr : M.1 mr = some (ro "ClassGate$Member" l R)) (h_a : M.1 a = some (ob 6 [.int m0, .int m1, .int m2, .int m3, .int m4, .int m5, .int m6, .int m7, .int m8, .int m9, .ref z])) (h_z : M.1 z = some (ob 4 [.int c0, .int c1, .int c2, .int (nI ra), .int (nI rc), v5, v6, v7, v8, v9, v10])) (h0 : ¬ x < 0) (h1 : x ≤ 3) (hk : k < l) (hl : l < 65536) (hR : R k = .ref a) (hr : r < 0 ∨ nI rc ≤ r) : pt (mT g) 19 [.ref o, .int (nI k), .int r, .int x] M (fun v M' => (v = some (.int (-1)) ∧ M = M')) := by
  refine pt_in (b := mb_19 g) rfl (fun kf => ?_)
  show pl (mT g) kf (mb_19 g).2 (0, [(0, .ref o), (1, .int (nI k)), (2, .int r), (3, .int x)], [], M) _
  refine ps_st (S' := (1, [(0, .ref o), (1, .int (nI k)), (2, .int r), (3, .int x)], [.int x], M)) rfl rfl rfl ?_
  refine ps_if (S1 := (9, [(0, .ref o), (1, .int (nI k)), (2, .int r), (3, .int x)], [], M)) (S2 := (4, [(0, .ref o), (1, .int (nI k)), (2, .int r), (3, .int x)], [], M)) rfl rfl rfl (fun c_1 => ?_) (fun c_1 => ?_)
  · exact absurd (of_decide_eq_true c_1) (h0)
  refine ps_st (S' := (5, [(0, .ref o), (1, .int (nI k)), (2, .int r), (3, .int x)], [.int x], M)) rfl rfl rfl ?_
  refine ps_st (S' := (6, [(0, .ref o), (1, .int (nI k)), (2, .int r), (3, .int x)], [.int 3, .int x], M)) rfl rfl rfl ?_
  refine ps_if2 (S1 := (19, [(0, .ref o), (1, .int (nI k)), (2, .int r), (3, .int x)], [], M)) (S2 := (9, [(0, .ref o), (1, .int (nI k)), (2, .int r), (3, .int x)], [], M)) rfl rfl rfl (fun c_6 => ?_) (fun c_6 => ?_)
  rotate_left
  · exact absurd (h1) (of_decide_eq_false c_6)
  refine ps_st (S' := (20, [(0, .ref o), (1, .int (nI k)), (2, .int r), (3, .int x)], [.ref o], M)) rfl rfl rfl ?_
  refine ps_st (S' := (21, [(0, .ref o), (1, .int (nI k)), (2, .int r), (3, .int x)], [.int (nI k), .ref o], M)) rfl rfl rfl ?_
  refine pl_call (a := [.ref o, .int (nI k)]) (rest := []) rfl rfl rfl (dk_codeOfC (o := o) (ca := ca) (fl := fl) (cn := cn) (wp := wp) (c := c) (b := b) (q := q) (fr := fr) (mr := mr) (l := l) (u2 := u2) (u3 := u3) (u4 := u4) (u5 := u5) (w := w) (R := R) (a := a) (m0 := m0) (m1 := m1) (m2 := m2) (m3 := m3) (m4 := m4) (m5 := m5) (m6 := m6) (m7 := m7) (m8 := m8) (m9 := m9) (k := k) (z := z) h_o h_c h_mr h_a (hk) (hl) (hR)) (fun v1 M2 q3 => ?_)
  obtain ⟨rfl, rfl⟩ := q3
  show pl _ _ _ (24, [(0, .ref o), (1, .int (nI k)), (2, .int r), (3, .int x)], [.ref z], M) _
  refine ps_st (S' := (26, [(4, .ref z), (0, .ref o), (1, .int (nI k)), (2, .int r), (3, .int x)], [], M)) rfl rfl rfl ?_
  refine ps_st (S' := (28, [(4, .ref z), (0, .ref o), (1, .int (nI k)), (2, .int r), (3, .int x)], [.ref z], M)) rfl rfl rfl ?_
  refine ps_st (S' := (31, [(4, .ref z), (0, .ref o), (1, .int (nI k)), (2, .int r), (3, .int x)], [], M)) rfl rfl rfl ?_
  refine ps_st (S' := (32, [(4, .ref z), (0, .ref o), (1, .int (nI k)), (2, .int r), (3, .int x)], [.int r], M)) rfl rfl rfl ?_
  refine ps_if (S1 := (44, [], [], M)) (S2 := (35, [(4, .ref z), (0, .ref o), (1, .int (nI k)), (2, .int r), (3, .int x)], [], M)) rfl rfl rfl (fun c_32 => ?_) (fun c_32 => ?_)
  · have c_32 : r < 0 := of_decide_eq_true c_32
    refine ps_st (S' := (45, [], [.int (-1)], M)) rfl rfl rfl ?_
    exact ps_ret rfl rfl (⟨rfl, rfl⟩)
  · have c_32 : ¬ (r < 0) := of_decide_eq_false c_32
    refine ps_st (S' := (36, [(4, .ref z), (0, .ref o), (1, .int (nI k)), (2, .int r), (3, .int x)], [.int r], M)) rfl rfl rfl ?_
    refine ps_st (S' := (38, [(4, .ref z), (0, .ref o), (1, .int (nI k)), (2, .int r), (3, .int x)], [.ref z, .int r], M)) rfl rfl rfl ?_
    refine ps_get (S' := (41, [(4, .ref z), (0, .ref o), (1, .int (nI k)), (2, .int r), (3, .int x)], [.int (nI rc), .int r], M)) rfl h_z rfl rfl ?_
    refine ps_if2 (S1 := (46, [(4, .ref z), (0, .ref o), (1, .int (nI k)), (2, .int r), (3, .int x)], [], M)) (S2 := (44, [], [], M)) rfl rfl rfl (fun c_41 => ?_) (fun c_41 => ?_)
    · exact absurd (of_decide_eq_true c_41) (Int32.not_lt.mpr (hr.resolve_left c_32))
    refine ps_st (S' := (45, [], [.int (-1)], M)) rfl rfl rfl ?_
    exact ps_ret rfl rfl (⟨rfl, rfl⟩)
set_option maxHeartbeats 1000000 in
theorem dk_rowV {g : xe_G} {M : mi_H} {o ca fl : Nat} {cn wp : Int32} {c b q fr mr l : Nat} {u2 u3 u4 u5 : Int32} {w : List Value} {R : Nat → Value} {a : Nat} {m0 m1 m2 m3 m4 m5 m6 m7 m8 m9 : Int32} {z ra rc : Nat} {c0 c1 c2 : Int32} {v5 v6 v7 v8 v9 v10 : Value} {f : Nat → Int32} {n da k u x : Nat} (h_o : M.1 o = some (ob 11 [.ref ca, .int cn, .ref fl, .ref c, .int wp])) (h_c : M.1 c = some (ob 3 (.ref b :: .ref q :: .int u2 :: .int u3 :: .int u4 :: .int u5 :: .ref fr :: .ref mr :: w))) (h_mr : M.1 mr = some (ro "ClassGate$Member" l R)) (h_b : M.1 b = some (ob 1 [.ref da])) (h_da : M.1 da = some (ar .byte n f)) (h_a : M.1 a = some (ob 6 [.int m0, .int m1, .int m2, .int m3, .int m4, .int m5, .int m6, .int m7, .int m8, .int m9, .ref z])) (h_z : M.1 z = some (ob 4 [.int c0, .int c1, .int c2, .int (nI ra), .int (nI rc), v5, v6, v7, v8, v9, v10])) (hx : x ≤ 3) (hn : n ≤ 65540) (hk : k < l) (hl : l < 65536) (hR : R k = .ref a) (hu : u < rc) (hrc : rc < 65536) (hin : ra + 8 * rc ≤ n) : pt (mT g) 19 [.ref o, .int (nI k), .int (nI u), .int (nI x)] M (fun v M' => (v = some (.int (nI (by2 f (ra + 8 * u + 2 * x)))) ∧ M = M')) := by
  refine pt_in (b := mb_19 g) rfl (fun kf => ?_)
  show pl (mT g) kf (mb_19 g).2 (0, [(0, .ref o), (1, .int (nI k)), (2, .int (nI u)), (3, .int (nI x))], [], M) _
  refine ps_st (S' := (1, [(0, .ref o), (1, .int (nI k)), (2, .int (nI u)), (3, .int (nI x))], [.int (nI x)], M)) rfl rfl rfl ?_
  refine ps_if (S1 := (9, [(0, .ref o), (1, .int (nI k)), (2, .int (nI u)), (3, .int (nI x))], [], M)) (S2 := (4, [(0, .ref o), (1, .int (nI k)), (2, .int (nI u)), (3, .int (nI x))], [], M)) rfl rfl rfl (fun c_1 => ?_) (fun c_1 => ?_)
  · exact absurd (of_decide_eq_true c_1) (nI_n0 (by omega))
  refine ps_st (S' := (5, [(0, .ref o), (1, .int (nI k)), (2, .int (nI u)), (3, .int (nI x))], [.int (nI x)], M)) rfl rfl rfl ?_
  refine ps_st (S' := (6, [(0, .ref o), (1, .int (nI k)), (2, .int (nI u)), (3, .int (nI x))], [.int 3, .int (nI x)], M)) rfl rfl rfl ?_
  refine ps_if2 (S1 := (19, [(0, .ref o), (1, .int (nI k)), (2, .int (nI u)), (3, .int (nI x))], [], M)) (S2 := (9, [(0, .ref o), (1, .int (nI k)), (2, .int (nI u)), (3, .int (nI x))], [], M)) rfl rfl rfl (fun c_6 => ?_) (fun c_6 => ?_)
  rotate_left
  · exact absurd ((le_nI (p := x) (n := 3) (by omega) (by decide)).mpr hx) (of_decide_eq_false c_6)
  refine ps_st (S' := (20, [(0, .ref o), (1, .int (nI k)), (2, .int (nI u)), (3, .int (nI x))], [.ref o], M)) rfl rfl rfl ?_
  refine ps_st (S' := (21, [(0, .ref o), (1, .int (nI k)), (2, .int (nI u)), (3, .int (nI x))], [.int (nI k), .ref o], M)) rfl rfl rfl ?_
  refine pl_call (a := [.ref o, .int (nI k)]) (rest := []) rfl rfl rfl (dk_codeOfC (o := o) (ca := ca) (fl := fl) (cn := cn) (wp := wp) (c := c) (b := b) (q := q) (fr := fr) (mr := mr) (l := l) (u2 := u2) (u3 := u3) (u4 := u4) (u5 := u5) (w := w) (R := R) (a := a) (m0 := m0) (m1 := m1) (m2 := m2) (m3 := m3) (m4 := m4) (m5 := m5) (m6 := m6) (m7 := m7) (m8 := m8) (m9 := m9) (k := k) (z := z) h_o h_c h_mr h_a (hk) (hl) (hR)) (fun v1 M2 q3 => ?_)
  obtain ⟨rfl, rfl⟩ := q3
  show pl _ _ _ (24, [(0, .ref o), (1, .int (nI k)), (2, .int (nI u)), (3, .int (nI x))], [.ref z], M) _
  refine ps_st (S' := (26, [(4, .ref z), (0, .ref o), (1, .int (nI k)), (2, .int (nI u)), (3, .int (nI x))], [], M)) rfl rfl rfl ?_
  refine ps_st (S' := (28, [(4, .ref z), (0, .ref o), (1, .int (nI k)), (2, .int (nI u)), (3, .int (nI x))], [.ref z], M)) rfl rfl rfl ?_
  refine ps_st (S' := (31, [(4, .ref z), (0, .ref o), (1, .int (nI k)), (2, .int (nI u)), (3, .int (nI x))], [], M)) rfl rfl rfl ?_
  refine ps_st (S' := (32, [(4, .ref z), (0, .ref o), (1, .int (nI k)), (2, .int (nI u)), (3, .int (nI x))], [.int (nI u)], M)) rfl rfl rfl ?_
  refine ps_if (S1 := (44, [], [], M)) (S2 := (35, [(4, .ref z), (0, .ref o), (1, .int (nI k)), (2, .int (nI u)), (3, .int (nI x))], [], M)) rfl rfl rfl (fun c_32 => ?_) (fun c_32 => ?_)
  · exact absurd (of_decide_eq_true c_32) (nI_n0 (by omega))
  refine ps_st (S' := (36, [(4, .ref z), (0, .ref o), (1, .int (nI k)), (2, .int (nI u)), (3, .int (nI x))], [.int (nI u)], M)) rfl rfl rfl ?_
  refine ps_st (S' := (38, [(4, .ref z), (0, .ref o), (1, .int (nI k)), (2, .int (nI u)), (3, .int (nI x))], [.ref z, .int (nI u)], M)) rfl rfl rfl ?_
  refine ps_get (S' := (41, [(4, .ref z), (0, .ref o), (1, .int (nI k)), (2, .int (nI u)), (3, .int (nI x))], [.int (nI rc), .int (nI u)], M)) rfl h_z rfl rfl ?_
  refine ps_if2 (S1 := (46, [(4, .ref z), (0, .ref o), (1, .int (nI k)), (2, .int (nI u)), (3, .int (nI x))], [], M)) (S2 := (44, [], [], M)) rfl rfl rfl (fun c_41 => ?_) (fun c_41 => ?_)
  rotate_left
  · exact absurd ((lt_nI (p := u) (n := rc) (by omega) (by omega)).mpr hu) (of_decide_eq_false c_41)
  refine ps_st (S' := (47, [(4, .ref z), (0, .ref o), (1, .int (nI k)), (2, .int (nI u)), (3, .int (nI x))], [.ref o], M)) rfl rfl rfl ?_
  refine ps_get (S' := (50, [(4, .ref z), (0, .ref o), (1, .int (nI k)), (2, .int (nI u)), (3, .int (nI x))], [.ref c], M)) rfl h_o rfl rfl ?_
  refine ps_get (S' := (53, [(4, .ref z), (0, .ref o), (1, .int (nI k)), (2, .int (nI u)), (3, .int (nI x))], [.ref b], M)) rfl h_c rfl rfl ?_
  refine ps_st (S' := (55, [(4, .ref z), (0, .ref o), (1, .int (nI k)), (2, .int (nI u)), (3, .int (nI x))], [.ref z, .ref b], M)) rfl rfl rfl ?_
  refine ps_get (S' := (58, [(4, .ref z), (0, .ref o), (1, .int (nI k)), (2, .int (nI u)), (3, .int (nI x))], [.int (nI ra), .ref b], M)) rfl h_z rfl rfl ?_
  refine ps_st (S' := (60, [(4, .ref z), (0, .ref o), (1, .int (nI k)), (2, .int (nI u)), (3, .int (nI x))], [.int 8, .int (nI ra), .ref b], M)) rfl rfl rfl ?_
  refine ps_st (S' := (61, [(4, .ref z), (0, .ref o), (1, .int (nI k)), (2, .int (nI u)), (3, .int (nI x))], [.int (nI u), .int 8, .int (nI ra), .ref b], M)) rfl rfl rfl ?_
  refine ps_st (S' := (62, [(4, .ref z), (0, .ref o), (1, .int (nI k)), (2, .int (nI u)), (3, .int (nI x))], [.int (8 * (nI u)), .int (nI ra), .ref b], M)) rfl rfl rfl ?_
  rw [nI_mul1 (p := 8) (k := u) (x := 8) (y := (nI u)) rfl rfl (by omega)]
  show pl _ _ _ (_, [(4, .ref z), (0, .ref o), (1, .int (nI k)), (2, .int (nI u)), (3, .int (nI x))], [.int (nI (8 * u)), .int (nI ra), .ref b], M) _
  refine ps_st (S' := (63, [(4, .ref z), (0, .ref o), (1, .int (nI k)), (2, .int (nI u)), (3, .int (nI x))], [.int ((nI ra) + (nI (8 * u))), .ref b], M)) rfl rfl rfl ?_
  rw [nI_add1 (p := ra) (k := 8 * u) (x := (nI (8 * u))) rfl (by omega)]
  show pl _ _ _ (_, [(4, .ref z), (0, .ref o), (1, .int (nI k)), (2, .int (nI u)), (3, .int (nI x))], [.int (nI (ra + 8 * u)), .ref b], M) _
  refine ps_st (S' := (64, [(4, .ref z), (0, .ref o), (1, .int (nI k)), (2, .int (nI u)), (3, .int (nI x))], [.int 2, .int (nI (ra + 8 * u)), .ref b], M)) rfl rfl rfl ?_
  refine ps_st (S' := (65, [(4, .ref z), (0, .ref o), (1, .int (nI k)), (2, .int (nI u)), (3, .int (nI x))], [.int (nI x), .int 2, .int (nI (ra + 8 * u)), .ref b], M)) rfl rfl rfl ?_
  refine ps_st (S' := (66, [(4, .ref z), (0, .ref o), (1, .int (nI k)), (2, .int (nI u)), (3, .int (nI x))], [.int (2 * (nI x)), .int (nI (ra + 8 * u)), .ref b], M)) rfl rfl rfl ?_
  rw [nI_mul1 (p := 2) (k := x) (x := 2) (y := (nI x)) rfl rfl (by omega)]
  show pl _ _ _ (_, [(4, .ref z), (0, .ref o), (1, .int (nI k)), (2, .int (nI u)), (3, .int (nI x))], [.int (nI (2 * x)), .int (nI (ra + 8 * u)), .ref b], M) _
  refine ps_st (S' := (67, [(4, .ref z), (0, .ref o), (1, .int (nI k)), (2, .int (nI u)), (3, .int (nI x))], [.int ((nI (ra + 8 * u)) + (nI (2 * x))), .ref b], M)) rfl rfl rfl ?_
  rw [nI_add1 (p := ra + 8 * u) (k := 2 * x) (x := (nI (2 * x))) rfl (by omega)]
  show pl _ _ _ (_, [(4, .ref z), (0, .ref o), (1, .int (nI k)), (2, .int (nI u)), (3, .int (nI x))], [.int (nI (ra + 8 * u + 2 * x)), .ref b], M) _
  refine pl_call (a := [.ref b, .int (nI (ra + 8 * u + 2 * x))]) (rest := []) rfl rfl rfl (dk_u2 (f := f) (n := n) (b := b) (da := da) (p := (ra + 8 * u + 2 * x)) h_b h_da (hn) (by omega)) (fun v4 M5 q6 => ?_)
  obtain ⟨rfl, rfl⟩ := q6
  show pl _ _ _ (70, [(4, .ref z), (0, .ref o), (1, .int (nI k)), (2, .int (nI u)), (3, .int (nI x))], [.int (nI (by2 f (ra + 8 * u + 2 * x)))], M) _
  have hu_67 := by2_lt f (ra + 8 * u + 2 * x)
  exact ps_reti rfl (⟨rfl, rfl⟩)
theorem dk_rowK {g : xe_G} {M : mi_H} {ko : Option (Nat × (Nat → Int32))} {kv : Value} {cm o fl : Nat} {cn wp m r x : Int32} (hx : M.1 o = some (ob 11 [.ref cm, .int cn, .ref fl, kv, .int wp])) (hK : KPC g ko kv cm M) (h0 : ¬ x < 0) (h1 : x ≤ 3) : pt (mT g) 19 [.ref o, .int m, .int r, .int x] M (fun v M' => v = some (.int (roK ko m r x)) ∧ M = M') := by
  cases ko with
  | none =>
    have e : kv = .null := hK
    subst e
    exact dk_row0 hx h0 h1
  | some y =>
    obtain ⟨c, da, rfl, ⟨b, q, N, E, p1, pF, pM, pA, w', k1, k2, k3, k4, k5, rfl, -, k7, fr, mr, G1, G2, _, _, bc, K, rfl, m1, m2, m3, m4, m5, m6, m7, m8, m9, m10⟩, -, hrd⟩ := hK
    rw [roK_is k5]
    have hb2 := mbs_len m5
    obtain ⟨R2, r2, r4⟩ := m2.2.1
    by_cases hi : m < 0 ∨ nI (mbs y.2 y.1 (by2 y.2 pM) (pM + 2)).length ≤ m
    · rw [if_pos hi]
      exact dk_rowN hx k1 r2 h0 h1 hi
    · rw [if_neg hi]
      obtain ⟨ei, li⟩ := i32_in hb2 hi
      obtain ⟨k, ek⟩ : ∃ k, k = m.toNatClampNeg := ⟨_, rfl⟩
      rw [← ek] at ei li ⊢
      subst ei
      obtain ⟨-, v, hc, hcd⟩ := m10 k li
      have hr := r4 k li
      unfold roI
      rcases hcd with ⟨hp, rfl⟩ | ⟨hp, zz, w8, w9, w10, rfl, hzl, hzc⟩
      · rw [if_pos hp]
        exact dk_rowB hx k1 r2 hc h0 h1 li hb2 hr
      · rw [if_neg hp]
        have hin := (code_in k5 hrd m5 li).resolve_left hp
        obtain ⟨cp, ecp⟩ : ∃ cp, cp = (mK y.2 y.1 E ((mbs y.2 y.1 (by2 y.2 pM) (pM + 2)).getD k 0)).2.1 := ⟨_, rfl⟩
        rw [← ecp] at hin hzc ⊢
        have hl9 := by2_lt y.2 (cp + 14 + by4 y.2 (cp + 10))
        by_cases h5 : r < 0 ∨ nI (by2 y.2 (cp + 14 + by4 y.2 (cp + 10))) ≤ r
        · rw [if_pos h5]
          exact dk_rowR hx k1 r2 hc hzc h0 h1 li hb2 hr h5
        · rw [if_neg h5]
          obtain ⟨er, lr⟩ := i32_in hl9 h5
          obtain ⟨u, eu⟩ : ∃ u, u = r.toNatClampNeg := ⟨_, rfl⟩
          rw [← eu] at er lr ⊢
          subst er
          obtain ⟨ew, hw⟩ := i32_4 h0 h1
          obtain ⟨j, ej⟩ : ∃ j, j = x.toNatClampNeg := ⟨_, rfl⟩
          rw [← ej] at ew hw ⊢
          subst ew
          have hin1 := hin.1
          exact dk_rowV hx k1 r2 k2 k3 hc hzc (by omega) k7 li hb2 hr lr hl9 (by omega)
