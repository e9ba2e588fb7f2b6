/-! what the helpers promise (laid by wip/p2/c92.py) -/
theorem hp_end_no (l : Launch) (D : va_G) (g : xe_G) {x qo : Nat} {cc : GH} {fed P : Nat} {aO : ClassId} {M : mi_H} {x1 : Int32} (hnt : l.stackTraces = false) (hG : GATX g x cc fed P M) (hbad : x1 < 0 ∨ ¬ x1 ≤ nI cc.1) : HP l g D x qo aO yL_end cL_end 4 [(0, 9, 12, 19)] [.ref x, .int x1, .ref qo] cc fed P (64 + 40 * fed) (fun r _ => r = 1) M := by
  obtain ⟨F, hx0, hF1⟩ := hG.cell
  refine ⟨_, _, lhx_end l D g hx0 hF1 hnt hbad, by decide, by decide, by decide, by show 6 ≤ 160000 + (64 + 40 * fed); omega, fun r M' v hp => ?_⟩
  obtain ⟨hr, z, hz, rfl⟩ := hp
  exact ⟨hr, P, Nat.le_refl _, hG.room hz, by show 1 + P ≤ P + 26; omega, by show 6 + P ≤ P + (64 + 40 * fed); omega⟩
theorem hp_end_ok (l : Launch) (D : va_G) (g : xe_G) {x qo : Nat} {cc : GH} {fed P : Nat} {aO : ClassId} {M : mi_H} {x1 : Int32} (hnt : l.stackTraces = false) (hG : GATX g x cc fed P M) (hq0 : ¬ x1 < 0) (hq1 : x1 ≤ nI cc.1) : HP l g D x qo aO yL_end cL_end 4 [(0, 9, 12, 19)] [.ref x, .int x1, .ref qo] (enG cc (Int32.toNatClampNeg x1)) fed P (64 + 40 * fed) (fun r v => r = 0 ∧ v = Int32.toInt64 x1) M := by
  obtain ⟨F, hx0, hF1⟩ := hG.cell
  obtain ⟨v, M', hM, rfl, P', hP, hG', g1, g2⟩ := (gx_end (x1 := x1) hG hq0 hq1 (d := 16) (by decide)).met (l := l)
  have hp := hG'.pot
  have m1 := hM.1
  have m2 := hM.2.1
  refine ⟨_, _, lh_end l D g hM hx0, by show 16 + 1 + 8 ≤ 60; decide, by show 40 * (16 + 1) + 1000 ≤ 4000; decide, by show M'.2.1 - M.2.1 ≤ 160000; omega, by show M'.2.2 - M.2.2 ≤ 160000 + (64 + 40 * fed); omega, fun r M1 v hq => ?_⟩
  obtain ⟨rfl, rfl, rfl⟩ := hq
  exact ⟨⟨rfl, rfl⟩, P', hP, hG', by show M1.2.1 - M.2.1 + P ≤ P' + 26; omega, by show M1.2.2 - M.2.2 + P ≤ P' + (64 + 40 * fed); omega⟩
theorem hp_count_no (l : Launch) (D : va_G) (g : xe_G) {x qo : Nat} {cc : GH} {fed P : Nat} {aO : ClassId} {M : mi_H} {x1 : Int32} (hnt : l.stackTraces = false) (hG : GATX g x cc fed P M) (hbad : x1 < 0 ∨ ¬ x1 ≤ 15) : HP l g D x qo aO yL_count cL_count 4 [(0, 9, 12, 19)] [.ref x, .int x1, .ref qo] cc fed P (64 + 40 * fed) (fun r _ => r = 1) M := by
  obtain ⟨F, hx0, hF1⟩ := hG.cell
  refine ⟨_, _, lhx_count l D g hx0 hnt hbad, by decide, by decide, by decide, by show 6 ≤ 160000 + (64 + 40 * fed); omega, fun r M' v hp => ?_⟩
  obtain ⟨hr, z, hz, rfl⟩ := hp
  exact ⟨hr, P, Nat.le_refl _, hG.room hz, by show 1 + P ≤ P + 26; omega, by show 6 + P ≤ P + (64 + 40 * fed); omega⟩
theorem hp_count_ok (l : Launch) (D : va_G) (g : xe_G) {x qo : Nat} {cc : GH} {fed P : Nat} {aO : ClassId} {M : mi_H} {x1 : Int32} (hnt : l.stackTraces = false) (hG : GATX g x cc fed P M) (hq0 : ¬ x1 < 0) (hq1 : x1 ≤ 15) : HP l g D x qo aO yL_count cL_count 4 [(0, 9, 12, 19)] [.ref x, .int x1, .ref qo] cc fed P (64 + 40 * fed) (fun r v => r = 0 ∧ v = Int32.toInt64 (cnK cc.2.2.2.2.2 x1)) M := by
  obtain ⟨F, hx0, hF1⟩ := hG.cell
  obtain ⟨v, M', hM, rfl, P', hP, hG', g1, g2⟩ := (gx_countX (x1 := x1) hG hq0 hq1 (d := 16) (by decide)).met (l := l)
  have hp := hG'.pot
  have m1 := hM.1
  have m2 := hM.2.1
  refine ⟨_, _, lh_count l D g hM hx0, by show 16 + 1 + 8 ≤ 60; decide, by show 40 * (16 + 1) + 1000 ≤ 4000; decide, by show M'.2.1 - M.2.1 ≤ 160000; omega, by show M'.2.2 - M.2.2 ≤ 160000 + (64 + 40 * fed); omega, fun r M1 v hq => ?_⟩
  obtain ⟨rfl, rfl, rfl⟩ := hq
  exact ⟨⟨rfl, rfl⟩, P', hP, hG', by show M1.2.1 - M.2.1 + P ≤ P' + 26; omega, by show M1.2.2 - M.2.2 + P ≤ P' + (64 + 40 * fed); omega⟩
theorem hp_entry (l : Launch) (D : va_G) (g : xe_G) {x qo : Nat} {cc : GH} {fed P : Nat} {aO : ClassId} {M : mi_H} {x1 x2 : Int32} (hnt : l.stackTraces = false) (hG : GATX g x cc fed P M) : HP l g D x qo aO yL_entry cL_entry 5 [(0, 10, 13, 19)] [.ref x, .int x1, .int x2, .ref qo] cc fed P (64 + 40 * fed) (fun _ _ => True) M := by
  obtain ⟨F, hx0, hF1⟩ := hG.cell
  by_cases hbad : x2 < 0 ∨ ¬ x2 ≤ 2
  · refine ⟨_, _, lhx_entry l D g hx0 hnt hbad, by decide, by decide, by decide, by show 6 ≤ 160000 + (64 + 40 * fed); omega, fun r M' v hp => ?_⟩
    obtain ⟨-, z, hz, rfl⟩ := hp
    exact ⟨trivial, P, Nat.le_refl _, hG.room hz, by show 1 + P ≤ P + 26; omega, by show 6 + P ≤ P + (64 + 40 * fed); omega⟩
  · obtain ⟨v, M', hM, rfl, P', hP, hG', g1, g2⟩ := (gx_entry (x1 := x1) (x2 := x2) hG (fun h => hbad (Or.inl h)) (Decidable.not_not.mp (fun h => hbad (Or.inr h))) (d := 16) (by decide)).met (l := l)
    have hp := hG'.pot
    have m1 := hM.1
    have m2 := hM.2.1
    refine ⟨_, _, lh_entry l D g hM hx0, by show 16 + 1 + 8 ≤ 60; decide, by show 40 * (16 + 1) + 1000 ≤ 4000; decide, by show M'.2.1 - M.2.1 ≤ 160000; omega, by show M'.2.2 - M.2.2 ≤ 160000 + (64 + 40 * fed); omega, fun r M1 v hq => ?_⟩
    obtain ⟨rfl, rfl, rfl⟩ := hq
    exact ⟨trivial, P', hP, hG', by show M1.2.1 - M.2.1 + P ≤ P' + 26; omega, by show M1.2.2 - M.2.2 + P ≤ P' + (64 + 40 * fed); omega⟩
theorem hp_member (l : Launch) (D : va_G) (g : xe_G) {x qo : Nat} {cc : GH} {fed P : Nat} {aO : ClassId} {M : mi_H} {x1 x2 x3 : Int32} (hnt : l.stackTraces = false) (hG : GATX g x cc fed P M) : HP l g D x qo aO yL_member cL_member 6 [(0, 12, 15, 19)] [.ref x, .int x1, .int x2, .int x3, .ref qo] cc fed P (64 + 40 * fed) (fun _ _ => True) M := by
  obtain ⟨F, hx0, hF1⟩ := hG.cell
  by_cases hbad : x3 < 0 ∨ ¬ x3 ≤ 9
  · refine ⟨_, _, lhx_member l D g hx0 hnt hbad, by decide, by decide, by decide, by show 6 ≤ 160000 + (64 + 40 * fed); omega, fun r M' v hp => ?_⟩
    obtain ⟨-, z, hz, rfl⟩ := hp
    exact ⟨trivial, P, Nat.le_refl _, hG.room hz, by show 1 + P ≤ P + 26; omega, by show 6 + P ≤ P + (64 + 40 * fed); omega⟩
  · obtain ⟨v, M', hM, ⟨y, rfl⟩, P', hP, hG', g1, g2⟩ := (gx_member (x1 := x1) (x2 := x2) (x3 := x3) hG (fun h => hbad (Or.inl h)) (Decidable.not_not.mp (fun h => hbad (Or.inr h))) (d := 16) (by decide)).met (l := l)
    have hp := hG'.pot
    have m1 := hM.1
    have m2 := hM.2.1
    refine ⟨_, _, lh_member l D g hM hx0, by show 16 + 1 + 8 ≤ 60; decide, by show 40 * (16 + 1) + 1000 ≤ 4000; decide, by show M'.2.1 - M.2.1 ≤ 160000; omega, by show M'.2.2 - M.2.2 ≤ 160000 + (64 + 40 * fed); omega, fun r M1 v hq => ?_⟩
    obtain ⟨rfl, rfl, rfl⟩ := hq
    exact ⟨trivial, P', hP, hG', by show M1.2.1 - M.2.1 + P ≤ P' + 26; omega, by show M1.2.2 - M.2.2 + P ≤ P' + (64 + 40 * fed); omega⟩
theorem hp_row (l : Launch) (D : va_G) (g : xe_G) {x qo : Nat} {cc : GH} {fed P : Nat} {aO : ClassId} {M : mi_H} {x1 x2 x3 : Int32} (hnt : l.stackTraces = false) (hG : GATX g x cc fed P M) : HP l g D x qo aO yL_row cL_row 6 [(0, 12, 15, 19)] [.ref x, .int x1, .int x2, .int x3, .ref qo] cc fed P (64 + 40 * fed) (fun _ _ => True) M := by
  obtain ⟨F, hx0, hF1⟩ := hG.cell
  by_cases hbad : x3 < 0 ∨ ¬ x3 ≤ 3
  · refine ⟨_, _, lhx_row l D g hx0 hnt hbad, by decide, by decide, by decide, by show 6 ≤ 160000 + (64 + 40 * fed); omega, fun r M' v hp => ?_⟩
    obtain ⟨-, z, hz, rfl⟩ := hp
    exact ⟨trivial, P, Nat.le_refl _, hG.room hz, by show 1 + P ≤ P + 26; omega, by show 6 + P ≤ P + (64 + 40 * fed); omega⟩
  · obtain ⟨v, M', hM, ⟨y, rfl⟩, P', hP, hG', g1, g2⟩ := (gx_row (x1 := x1) (x2 := x2) (x3 := x3) hG (fun h => hbad (Or.inl h)) (Decidable.not_not.mp (fun h => hbad (Or.inr h))) (d := 16) (by decide)).met (l := l)
    have hp := hG'.pot
    have m1 := hM.1
    have m2 := hM.2.1
    refine ⟨_, _, lh_row l D g hM hx0, by show 16 + 1 + 8 ≤ 60; decide, by show 40 * (16 + 1) + 1000 ≤ 4000; decide, by show M'.2.1 - M.2.1 ≤ 160000; omega, by show M'.2.2 - M.2.2 ≤ 160000 + (64 + 40 * fed); omega, fun r M1 v hq => ?_⟩
    obtain ⟨rfl, rfl, rfl⟩ := hq
    exact ⟨trivial, P', hP, hG', by show M1.2.1 - M.2.1 + P ≤ P' + 26; omega, by show M1.2.2 - M.2.2 + P ≤ P' + (64 + 40 * fed); omega⟩
theorem hp_instruction (l : Launch) (D : va_G) (g : xe_G) {x qo : Nat} {cc : GH} {fed P : Nat} {aO : ClassId} {M : mi_H} {x1 x2 x3 : Int32} (hnt : l.stackTraces = false) (hG : GATX g x cc fed P M) : HP l g D x qo aO yL_instruction cL_instruction 6 [(0, 12, 15, 19)] [.ref x, .int x1, .int x2, .int x3, .ref qo] cc fed P (64 + 40 * fed) (fun _ _ => True) M := by
  obtain ⟨F, hx0, hF1⟩ := hG.cell
  by_cases hbad : x3 < 0 ∨ ¬ x3 ≤ 4
  · refine ⟨_, _, lhx_instruction l D g hx0 hnt hbad, by decide, by decide, by decide, by show 6 ≤ 160000 + (64 + 40 * fed); omega, fun r M' v hp => ?_⟩
    obtain ⟨-, z, hz, rfl⟩ := hp
    exact ⟨trivial, P, Nat.le_refl _, hG.room hz, by show 1 + P ≤ P + 26; omega, by show 6 + P ≤ P + (64 + 40 * fed); omega⟩
  · obtain ⟨v, M', hM, ⟨y, rfl⟩, P', hP, hG', g1, g2⟩ := (gx_instruction (x1 := x1) (x2 := x2) (x3 := x3) hG (fun h => hbad (Or.inl h)) (Decidable.not_not.mp (fun h => hbad (Or.inr h))) (d := 16) (by decide)).met (l := l)
    have hp := hG'.pot
    have m1 := hM.1
    have m2 := hM.2.1
    refine ⟨_, _, lh_instruction l D g hM hx0, by show 16 + 1 + 8 ≤ 60; decide, by show 40 * (16 + 1) + 1000 ≤ 4000; decide, by show M'.2.1 - M.2.1 ≤ 160000; omega, by show M'.2.2 - M.2.2 ≤ 160000 + (64 + 40 * fed); omega, fun r M1 v hq => ?_⟩
    obtain ⟨rfl, rfl, rfl⟩ := hq
    exact ⟨trivial, P', hP, hG', by show M1.2.1 - M.2.1 + P ≤ P' + 26; omega, by show M1.2.2 - M.2.2 + P ≤ P' + (64 + 40 * fed); omega⟩
theorem hp_feed (l : Launch) (D : va_G) (g : xe_G) {x qo : Nat} {cc : GH} {fed P : Nat} {aO : ClassId} {M : mi_H} {x1 x2 x3 x4 x5 : Int32} (hG : GATX g x cc fed P M) (hfd : fed < 512) : HP l g D x qo aO yL_feed cL_feed 8 [(0, 16, 19, 13)] [.ref x, .int x1, .int x2, .int x3, .int x4, .int x5, .ref qo] (fdG cc x1 x2 x3 x4 x5) (fed + 1) P 64 (fun r v => r = 0 ∧ v = Int32.toInt64 (nI (cc.1 + 20))) M := by
  obtain ⟨F, hx0, hF1⟩ := hG.cell
  obtain ⟨v, M', hM, rfl, P', hP, hG', g1, g2⟩ := (gx_feed (x1 := x1) (x2 := x2) (x3 := x3) (x4 := x4) (x5 := x5) hG hfd (d := 16) (by decide)).met (l := l)
  have hp := hG'.pot
  have m1 := hM.1
  have m2 := hM.2.1
  refine ⟨_, _, lh_feed l D g hM hx0, by show 16 + 1 + 8 ≤ 60; decide, by show 40 * (16 + 1) + 1000 ≤ 4000; decide, by show M'.2.1 - M.2.1 ≤ 160000; omega, by show M'.2.2 - M.2.2 ≤ 160000 + (64); omega, fun r M1 v hq => ?_⟩
  obtain ⟨rfl, rfl, rfl⟩ := hq
  exact ⟨⟨rfl, rfl⟩, P', hP, hG', by show M1.2.1 - M.2.1 + P ≤ P' + 26; omega, by show M1.2.2 - M.2.2 + P ≤ P' + (64); omega⟩
