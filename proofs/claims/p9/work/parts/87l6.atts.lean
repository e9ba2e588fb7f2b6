/-! a method's attributes, as the reference checks them (laid by wip/p4/e16.py) -/
def CX (h x : Nat) (I : rI) (R : rR) : Prop := if h = 0 then R 37 x = some (-1) else ∃ c, c < 70000 ∧ R 37 x = some (nI c)
theorem CX.mono {h x : Nat} {I I' : rI} {R R' : rR} (hc : CX h x I R) (hI : ∀ k, k ∈ ([] : List Nat) → I' k = I k) (hR : ∀ k, k ∈ [37] → R' k = R k) : CX h x I' R' := by
  unfold CX
  rw [hR 37 (by decide)]
  exact hc
section MAS
variable {f : Nat → Int32} {n : Nat} {E : List (Nat × Nat)} {mj wa c i p s h w : Nat}
variable (f n E mj wa) in
/-- what a method's attribute of the reference's number w (1: code, 2: exceptions) at p says -/
def mbS (w p : Nat) : (Nat × Nat) ⊕ Nat := if w = 1 then cdS f n E mj wa p 0 else if clA f E (p + 6 + 2) (by2 f (p + 6)) 0 = 0 then .inl (32, p) else .inr 0
theorem caS_any : ∀ {r p s s0 : Nat}, sb s 4 = sb s0 4 → (∀ e, caS f n E mj r p s0 = .inl e → caS f n E mj r p s = .inl e) ∧ (∀ s1, caS f n E mj r p s0 = .inr s1 → ∃ s', caS f n E mj r p s = .inr s' ∧ ∀ j, ¬ j = 4 → sb s' j = sb s j) := by
  intro r
  induction r with
  | zero =>
    intro p s s0 _
    exact ⟨fun e h9 => (by cases h9), fun s1 _ => ⟨s, rfl, fun _ _ => rfl⟩⟩
  | succ r ih =>
    intro p s s0 hs
    have hk : smN4 f n E mj (by2 f p) = 0 ∨ smN4 f n E mj (by2 f p) = 4 := by
      unfold smN4
      split
      · exact Or.inr rfl
      · exact Or.inl rfl
    unfold caS
    by_cases ht : ¬ tg f E (by2 f p) = 1
    · have e1 : ∀ s k, nwS f E s k p = .inl (28, p) := fun s k => by unfold nwS; rw [if_pos ht]
      rw [e1, e1]
      exact ⟨fun e h9 => h9, fun s1 h9 => (by cases h9)⟩
    · rcases hk with hk | hk
      · have e1 : ∀ s, nwS f E s 0 p = .inr s := fun s => by unfold nwS; rw [if_neg ht, if_pos rfl]
        rw [hk, e1, e1]
        exact ih hs
      · by_cases h4 : ¬ sb s 4 = 0
        · have e1 : ∀ s, ¬ sb s 4 = 0 → nwS f E s 4 p = .inl (29, p) := fun s h => by unfold nwS; rw [if_neg ht, if_neg (by decide), if_pos h]
          rw [hk, e1 s h4, e1 s0 (by omega)]
          exact ⟨fun e h9 => h9, fun s1 h9 => (by cases h9)⟩
        · have e1 : ∀ s, ¬ ¬ sb s 4 = 0 → nwS f E s 4 p = .inr (so s 4) := fun s h => by unfold nwS; rw [if_neg ht, if_neg (by decide), if_neg h]
          rw [hk, e1 s h4, e1 s0 (by omega)]
          have h9 := ih (p := p + 6 + by4 f (p + 2)) (s := so s 4) (s0 := so s0 4) (by rw [sb_so, sb_so, if_pos rfl, if_pos rfl])
          refine ⟨h9.1, fun s1 h8 => ?_⟩
          obtain ⟨s', h7, h6⟩ := h9.2 s1 h8
          exact ⟨s', h7, fun j hj => by rw [h6 j hj, sb_so, if_neg hj]⟩
theorem cdS_any (hs : sb s 4 = 0) : (∀ e, cdS f n E mj wa p 0 = .inl e → cdS f n E mj wa p s = .inl e) ∧ (∀ s1, cdS f n E mj wa p 0 = .inr s1 → ∃ s', cdS f n E mj wa p s = .inr s' ∧ ∀ j, ¬ j = 4 → sb s' j = sb s j) := by
  unfold cdS
  split
  · exact ⟨fun e h9 => h9, fun s1 h9 => (by cases h9)⟩
  · split
    · exact ⟨fun e h9 => h9, fun s1 h9 => (by cases h9)⟩
    · split
      · exact ⟨fun e h9 => h9, fun s1 h9 => (by cases h9)⟩
      · exact caS_any (by rw [hs, sb_0])
theorem maS_28 (hi : i < c) (ht : ¬ tg f E (by2 f p) = 1) : maS f n E mj wa (c - i) p s h = .inl (28, p) := by
  rw [maS_st hi, show nwS f E s (mkN f n E (by2 f p)) p = .inl (28, p) by unfold nwS; rw [if_pos ht]]
theorem maS_29 (hi : i < c) (ht : tg f E (by2 f p) = 1) (hk : mkN f n E (by2 f p) = w + 1) (hs : ¬ sb s (w + 1) = 0) : maS f n E mj wa (c - i) p s h = .inl (29, p) := by
  rw [maS_st hi, hk, show nwS f E s (w + 1) p = .inl (29, p) by unfold nwS; rw [if_neg (fun h9 => h9 ht), if_neg (by omega), if_pos hs]]
theorem maS_u (hi : i < c) (ht : tg f E (by2 f p) = 1) (hk : mkN f n E (by2 f p) = 0) : maS f n E mj wa (c - i) p s h = maS f n E mj wa (c - (i + 1)) (p + 6 + by4 f (p + 2)) s h := by
  rw [maS_st hi, hk, show nwS f E s 0 p = .inr s by unfold nwS; rw [if_neg (fun h9 => h9 ht), if_pos rfl]]
  dsimp only
  rw [if_neg (fun h9 => h9.1 rfl), if_neg (by decide), if_neg (fun h9 => absurd h9.1 (by decide))]
theorem nw_k (ht : tg f E (by2 f p) = 1) (hs : sb s (w + 1) = 0) : nwS f E s (w + 1) p = .inr (so s (w + 1)) := by
  unfold nwS
  rw [if_neg (fun h9 => h9 ht), if_neg (by omega), if_neg (fun h9 => h9 hs)]
theorem maS_30 (hi : i < c) (ht : tg f E (by2 f p) = 1) (hk : mkN f n E (by2 f p) = w + 1) (hs : sb s (w + 1) = 0) (hf : ¬ s_fe f (w + 1) (p + 6) (p + 6 + by4 f (p + 2)) = some (p + 6 + by4 f (p + 2))) : maS f n E mj wa (c - i) p s h = .inl (30, p) := by
  rw [maS_st hi, hk, nw_k ht hs]
  dsimp only
  rw [if_pos ⟨by omega, hf⟩]
theorem maS_kb {e : Nat × Nat} (hi : i < c) (ht : tg f E (by2 f p) = 1) (hk : mkN f n E (by2 f p) = w + 1) (hw : w = 1 ∨ w = 2) (hs : sb s (w + 1) = 0) (h4 : sb s 2 = 0 → sb s 4 = 0) (hf : s_fe f (w + 1) (p + 6) (p + 6 + by4 f (p + 2)) = some (p + 6 + by4 f (p + 2))) (hm : mbS f n E mj wa w p = .inl e) : maS f n E mj wa (c - i) p s h = .inl e := by
  rw [maS_st hi, hk, nw_k ht hs]
  dsimp only
  rw [if_neg (fun h9 => h9.2 hf)]
  rcases hw with rfl | rfl
  · unfold mbS at hm
    rw [if_pos rfl] at hm
    rw [if_pos (by decide), (cdS_any (s := so s (1 + 1)) (by rw [sb_so, if_neg (by decide)]; exact h4 hs)).1 e hm]
  · unfold mbS at hm
    rw [if_neg (by decide)] at hm
    split at hm
    · rename_i h9
      cases hm
      rw [if_neg (by decide), if_pos ⟨by decide, h9⟩]
    · cases hm
theorem maS_kg {s1 : Nat} (hi : i < c) (ht : tg f E (by2 f p) = 1) (hk : mkN f n E (by2 f p) = w + 1) (hw : w = 1 ∨ w = 2) (hs : sb s (w + 1) = 0) (h4 : sb s 2 = 0 → sb s 4 = 0) (hf : s_fe f (w + 1) (p + 6) (p + 6 + by4 f (p + 2)) = some (p + 6 + by4 f (p + 2))) (hm : mbS f n E mj wa w p = .inr s1) :
    ∃ s', maS f n E mj wa (c - i) p s h = maS f n E mj wa (c - (i + 1)) (p + 6 + by4 f (p + 2)) s' (if w = 1 then 1 else h) ∧ (∀ j, ¬ j = 4 → sb s' j = sb (so s (w + 1)) j) ∧ (w = 2 → s' = so s 3) := by
  rw [maS_st hi, hk, nw_k ht hs]
  dsimp only
  rw [if_neg (fun h9 => h9.2 hf)]
  rcases hw with rfl | rfl
  · unfold mbS at hm
    rw [if_pos rfl] at hm
    obtain ⟨s', h9, h8⟩ := (cdS_any (s := so s (1 + 1)) (by rw [sb_so, if_neg (by decide)]; exact h4 hs)).2 s1 hm
    refine ⟨s', ?_, h8, fun h7 => absurd h7 (by decide)⟩
    rw [if_pos (by decide), h9, if_pos rfl]
  · unfold mbS at hm
    rw [if_neg (by decide)] at hm
    split at hm
    · cases hm
    · rename_i h9
      refine ⟨so s 3, ?_, fun _ _ => rfl, fun _ => rfl⟩
      rw [if_neg (by decide), if_neg (fun h8 => h9 h8.2), if_neg (by decide)]
theorem mk_b {s3 s4 : Nat} (hw : w = 1 ∨ w = 2) (hb : sb s3 1 = sb s 2 ∧ sb s3 2 = sb s 3 ∧ (sb s 2 = 0 → sb s 4 = 0)) (hf : ∀ j, ¬ j = 4 → sb s4 j = sb (so s (w + 1)) j) (hg : w = 2 → s4 = so s 3) : sb (so s3 w) 1 = sb s4 2 ∧ sb (so s3 w) 2 = sb s4 3 ∧ (sb s4 2 = 0 → sb s4 4 = 0) := by
  rw [hf 2 (by decide), hf 3 (by decide)]
  rcases hw with rfl | rfl
  · rw [sb_so, sb_so, sb_so, sb_so]
    exact ⟨rfl, hb.2.1, fun h9 => absurd h9 (by rw [if_pos rfl]; decide)⟩
  · rw [hg rfl, sb_so, sb_so, sb_so, sb_so, sb_so]
    exact ⟨hb.1, rfl, hb.2.2⟩
end MAS
theorem kb_2 {mj : Nat} {l : List Nat} : kb mj 2 l 10 = if ¬ eqN l (ltx 17) = 0 then some 2 else if ¬ eqN l (ltx 16) = 0 then some 1 else none := by
  simp only [kb, kiN, kfN]
  simp
theorem lt_2 : ltx 1 = ltx 16 ∧ ltx 2 = ltx 17 := by decide +kernel
theorem lt_21 : ¬ ltx 16 = ltx 17 := by decide +kernel
theorem mk_kb {f : Nat → Int32} {n mj x : Nat} {E : List (Nat × Nat)} : (kb mj 2 (tX f n E x) 10 = none ∧ mkN f n E x = 0) ∨ ∃ w, kb mj 2 (tX f n E x) 10 = some w ∧ (w = 1 ∨ w = 2) ∧ mkN f n E x = w + 1 := by
  rw [kb_2]
  unfold mkN
  rw [lt_2.1, lt_2.2]
  generalize tX f n E x = l
  by_cases h1 : l = ltx 16
  · have e1 : eqN l (ltx 16) = 1 := by unfold eqN; rw [if_pos h1]
    have e2 : eqN l (ltx 17) = 0 := by unfold eqN; rw [if_neg (fun h => lt_21 (h1.symm.trans h))]
    rw [e1, e2]
    exact Or.inr ⟨1, rfl, Or.inl rfl, rfl⟩
  · have e1 : eqN l (ltx 16) = 0 := by unfold eqN; rw [if_neg h1]
    rw [e1]
    by_cases h2 : ¬ eqN l (ltx 17) = 0
    · exact Or.inr ⟨2, by rw [if_pos h2], Or.inr rfl, by rw [if_neg (by decide), if_pos h2]⟩
    · exact Or.inl ⟨by rw [if_neg h2, if_neg (by decide)], by rw [if_neg (by decide), if_neg h2]⟩
theorem mk_y {f : Nat → Int32} {n mj x : Nat} {E : List (Nat × Nat)} (h : ¬ (gI (kb mj 2 (tX f n E x) 10) < 0)) : ∃ w, kb mj 2 (tX f n E x) 10 = some w ∧ (w = 1 ∨ w = 2) ∧ mkN f n E x = w + 1 := by
  rcases mk_kb (f := f) (n := n) (E := E) (x := x) (mj := mj) with h9 | h9
  · rw [h9.1] at h
    exact absurd (by decide) h
  · exact h9
theorem mk_n {f : Nat → Int32} {n mj x : Nat} {E : List (Nat × Nat)} (h : gI (kb mj 2 (tX f n E x) 10) < 0) : mkN f n E x = 0 := by
  rcases mk_kb (f := f) (n := n) (E := E) (x := x) (mj := mj) with h9 | ⟨w, h8, h7, h6⟩
  · exact h9.2
  · rw [h8] at h
    exfalso
    have h2 : nI w < nI 0 := h
    have h3 := (lt_nI (p := w) (n := 0) (by omega) (by decide)).mp h2
    omega
set_option maxHeartbeats 1000000 in
theorem rd_attrM {g : xe_G} {m0 : Nat} {q : Nat → Nat} {z : Nat × Nat} {I : rI} {R : rR} {M : mi_H} {n : Nat} {f : Nat → Int32} {tx : List (List Nat)} {cN : Nat} {A : Nat → Nat} {N mj : Nat} {E : List (Nat × Nat)} {p e x s3 w fl ds wa h : Nat} {l : List Nat} {t : Int32} (hR : RS g m0 q z I R M) (hi51 : I 51 = some 0) (hi52 : I 52 = some (nI N)) (hi53 : I 53 = some (nI mj)) (hF : FK n f I R) (hY : SYT tx cN A I R) (hP : RPV f n E tx N I R) (hK : KX I R) (hX : MX fl ds x I R) (hC : CX h x I R) (hEP : EP f n E) (hN : N < 65536) (hmj : mj < 65536) (he : p + 6 ≤ e ∧ e ≤ n) (hs3 : s3 < 2048) (hx : x < 8300) (hdt : ds < tx.length ∧ tx.getD ds [] = l) (hmt : ¬ mthN l = 0) (hf6 : fl < 65536) (hwa : wa = argN l + (if aN fl 8 = 0 then 1 else 0)) (hw : w = 1 ∨ w = 2) : pt (mT g) 177 [.ref m0, .int (nI w), .int t, .int (nI (p + 6)), .int (nI e), .int (nI x), .int (nI s3)] M (fun v M' => (∃  (I' : rI) (R' : rR), (¬ s_fe f (w + 1) (p + 6) e = some e) ∧ v = some (.int 30) ∧ RS g m0 q z I' R' M' ∧ eqI [47, 48] I I' ∧ eqR [37, 38, 39, 40, 41, 42, 44] R R') ∨ (∃ (r : Nat) (I' : rI) (R' : rR), (s_fe f (w + 1) (p + 6) e = some e) ∧ (mbS f n E mj wa w p = .inl (r, p)) ∧ (32 ≤ r ∧ r ≤ 43) ∧ v = some (.int (nI r)) ∧ RS g m0 q z I' R' M' ∧ eqI [47, 48] I I' ∧ eqR [37, 38, 39, 40, 41, 42, 44] R R') ∨ (∃ (e9 : Nat × Nat) (I' : rI) (R' : rR), (s_fe f (w + 1) (p + 6) e = some e) ∧ (mbS f n E mj wa w p = .inl e9) ∧ v = some (.int (-1)) ∧ RS g m0 q z I' R' M' ∧ eqI [47, 48] I I' ∧ eqR [37, 38, 39, 40, 41, 42, 44] R R' ∧ I' 47 = some (nI e9.1) ∧ I' 48 = some (nI e9.2)) ∨ (∃ (s' : Nat) (I' : rI) (R' : rR), (s_fe f (w + 1) (p + 6) e = some e) ∧ (mbS f n E mj wa w p = .inr s') ∧ v = some (.int 0) ∧ RS g m0 q z I' R' M' ∧ eqI [47, 48] I I' ∧ eqR [37, 38, 39, 40, 41, 42, 44] R R' ∧ CX (if w = 1 then 1 else h) x I' R')) := by
  rcases hw with rfl | rfl
  · refine pt.mono (rd_attr1 (w := wa) (s3 := s3) (t := t) hR hi51 hi52 hi53 hF hY hP hK hEP hN hmj he hx hX.1 hX.2 hdt hmt hf6 hwa) (fun v M' h9 => ?_)
    rcases h9 with ⟨I', R', hs, hv, hR', hI', hX'⟩ | ⟨r, I', R', hs, hb, hl, hv, hR', hI', hX'⟩ | ⟨e9, I', R', hs, hb, hv, hR', hI', hX', h47, h48⟩ | ⟨s', I', R', hs, hb, hc, hv, hR', hI', hX'⟩
    · exact Or.inl ⟨I', R', hs, hv, hR', eqI.rf.tr hI' (by decide), eqR.rf.tr hX' (by decide)⟩
    · exact Or.inr (Or.inl ⟨r, I', R', hs, by unfold mbS; rw [if_pos rfl]; exact hb, by omega, hv, hR', eqI.rf.tr hI' (by decide), eqR.rf.tr hX' (by decide)⟩)
    · exact Or.inr (Or.inr (Or.inl ⟨e9, I', R', hs, by unfold mbS; rw [if_pos rfl]; exact hb, hv, hR', eqI.rf.tr hI' (by decide), eqR.rf.tr hX' (by decide), h47, h48⟩))
    · exact Or.inr (Or.inr (Or.inr ⟨s', I', R', hs, by unfold mbS; rw [if_pos rfl]; exact hb, hv, hR', eqI.rf.tr hI' (by decide), eqR.rf.tr hX' (by decide), by (unfold CX; rw [if_pos rfl, if_neg (by decide)]; exact ⟨p + 14, by have := hF.1; omega, hc⟩)⟩))
  · refine pt.mono (rd_attr2 (p0 := p + 6) hR hi51 hi52 hi53 hF hY hP hEP hN hmj he hs3 hx) (fun v M' h9 => ?_)
    rcases h9 with ⟨I', R', hs, hv, hR', hI', hX'⟩ | ⟨I', R', hs, hb, hv, hR', hI', hX'⟩ | ⟨I', R', hs, hb, hv, hR', hI', hX'⟩
    · exact Or.inl ⟨I', R', hs, hv, hR', eqI.rf.tr hI' (by decide), eqR.rf.tr hX' (by decide)⟩
    · exact Or.inr (Or.inl ⟨32, I', R', hs, by unfold mbS; rw [if_neg (by decide), if_pos hb], by decide, hv, hR', eqI.rf.tr hI' (by decide), eqR.rf.tr hX' (by decide)⟩)
    · exact Or.inr (Or.inr (Or.inr ⟨0, I', R', hs, by unfold mbS; rw [if_neg (by decide), if_neg hb], hv, hR', eqI.rf.tr hI' (by decide), eqR.rf.tr hX' (by decide), by (rw [if_neg (by decide)]; exact hC.mono (fun _ h => absurd h (List.not_mem_nil)) (cRx hX' (by decide)))⟩))
set_option maxHeartbeats 4000000 in
theorem rd_checkAttributes2 {g : xe_G} {m0 : Nat} {q : Nat → Nat} {z : Nat × Nat} {I : rI} {R : rR} {M : mi_H} {n : Nat} {f : Nat → Int32} {tx : List (List Nat)} {cN : Nat} {A : Nat → Nat} {N mj : Nat} {E : List (Nat × Nat)} {p1 e x fl ds wa : Nat} {l : List Nat} (hR : RS g m0 q z I R M) (hi51 : I 51 = some 0) (hi52 : I 52 = some (nI N)) (hi53 : I 53 = some (nI mj)) (hF : FK n f I R) (hY : SYT tx cN A I R) (hP : RPV f n E tx N I R) (hK : KX I R) (hX : MX fl ds x I R) (hC : CX 0 x I R) (hEP : EP f n E) (hN : N < 65536) (hmj : mj < 65536) (hin : p1 + 2 ≤ e ∧ e ≤ n) (hat : s_atE f e (by2 f p1) (p1 + 2) = some e) (hx : x < 8300) (hdt : ds < tx.length ∧ tx.getD ds [] = l) (hmt : ¬ mthN l = 0) (hf6 : fl < 65536) (hwa : wa = argN l + (if aN fl 8 = 0 then 1 else 0)) : pt (mT g) 187 [.ref m0, .int (nI p1), .int 2, .int (nI x)] M (fun v M' => (∃ (e9 : Nat × Nat) (I' : rI) (R' : rR), (maS f n E mj wa (by2 f p1) (p1 + 2) 0 0 = .inl e9) ∧ v = some (.int (-1)) ∧ RS g m0 q z I' R' M' ∧ eqI [47, 48] I I' ∧ eqR [37, 38, 39, 40, 41, 42, 43, 44] R R' ∧ I' 47 = some (nI e9.1) ∧ I' 48 = some (nI e9.2)) ∨ (∃ (h9 : Nat) (I' : rI) (R' : rR), (maS f n E mj wa (by2 f p1) (p1 + 2) 0 0 = .inr h9) ∧ v = some (.int (nI e)) ∧ RS g m0 q z I' R' M' ∧ eqI [47, 48] I I' ∧ eqR [37, 38, 39, 40, 41, 42, 43, 44] R R' ∧ CX h9 x I' R')) := by
  refine pt_in (b := mb_187 g) rfl (fun kf => ?_)
  show pl (mT g) kf (mb_187 g).2 (0, [(0, .ref m0), (1, .int (nI p1)), (2, .int 2), (3, .int (nI x))], [], M) _
  have hEI : eqI [47, 48] I I := eqI.rf
  have hER : eqR [37, 38, 39, 40, 41, 42, 43, 44] R R := eqR.rf
  have hn := hF.1
  have LL : ∀ (kf : Nat), (∀ (i p s2 s3 : Nat) (h : Nat) (M1 : mi_H) (I1 : rI) (R1 : rR), (RS g m0 q z I1 R1 M1) → (eqI [47, 48] I I1) → (eqR [37, 38, 39, 40, 41, 42, 43, 44] R R1) → (I1 51 = some 0) → (I1 52 = some (nI N)) → (I1 53 = some (nI mj)) → (FK n f I1 R1) → (SYT tx cN A I1 R1) → (RPV f n E tx N I1 R1) → (KX I1 R1) → (MX fl ds x I1 R1) → (CX h x I1 R1) → (i ≤ by2 f p1) → (s3 < 2048) → (sb s3 1 = sb s2 2 ∧ sb s3 2 = sb s2 3 ∧ (sb s2 2 = 0 → sb s2 4 = 0)) → (s_atE f e (by2 f p1 - i) p = some e) → (maS f n E mj wa (by2 f p1 - i) p s2 h = maS f n E mj wa (by2 f p1) (p1 + 2) 0 0) →  pl (mT g) kf (mb_187 g).2 (18, [(0, .ref m0), (2, .int 2), (3, .int (nI x)), (4, .int (nI (by2 f p1))), (5, .int (nI p)), (6, .int (nI s3)), (7, .int (nI i))], [], M1) (fun v M' => (∃ (e9 : Nat × Nat) (I' : rI) (R' : rR), (maS f n E mj wa (by2 f p1) (p1 + 2) 0 0 = .inl e9) ∧ v = some (.int (-1)) ∧ RS g m0 q z I' R' M' ∧ eqI [47, 48] I I' ∧ eqR [37, 38, 39, 40, 41, 42, 43, 44] R R' ∧ I' 47 = some (nI e9.1) ∧ I' 48 = some (nI e9.2)) ∨ (∃ (h9 : Nat) (I' : rI) (R' : rR), (maS f n E mj wa (by2 f p1) (p1 + 2) 0 0 = .inr h9) ∧ v = some (.int (nI e)) ∧ RS g m0 q z I' R' M' ∧ eqI [47, 48] I I' ∧ eqR [37, 38, 39, 40, 41, 42, 43, 44] R R' ∧ CX h9 x I' R'))) ∧ (∀ (i p s2 s3 k t : Nat) (h : Nat) (M1 : mi_H) (I1 : rI) (R1 : rR), (RS g m0 q z I1 R1 M1) → (eqI [47, 48] I I1) → (eqR [37, 38, 39, 40, 41, 42, 43, 44] R R1) → (I1 51 = some 0) → (I1 52 = some (nI N)) → (I1 53 = some (nI mj)) → (FK n f I1 R1) → (SYT tx cN A I1 R1) → (RPV f n E tx N I1 R1) → (KX I1 R1) → (MX fl ds x I1 R1) → (CX h x I1 R1) → (i < by2 f p1) → (s3 < 2048) → (sb s3 1 = sb s2 2 ∧ sb s3 2 = sb s2 3 ∧ (sb s2 2 = 0 → sb s2 4 = 0)) → (s_atE f e (by2 f p1 - i) p = some e) → (maS f n E mj wa (by2 f p1 - i) p s2 h = maS f n E mj wa (by2 f p1) (p1 + 2) 0 0) → (k ≤ 10) → (tg f E (by2 f p) = 1) → (t < tx.length ∧ tx.getD t [] = tX f n E (by2 f p)) →  pl (mT g) kf (mb_187 g).2 (79, [(0, .ref m0), (2, .int 2), (3, .int (nI x)), (4, .int (nI (by2 f p1))), (5, .int (nI p)), (6, .int (nI s3)), (7, .int (nI i)), (8, .int (nI (by4 f (p + 2)))), (9, .int (nI t)), (10, .int (gI (kb mj 2 (tX f n E (by2 f p)) k))), (11, .int (nI k))], [], M1) (fun v M' => (∃ (e9 : Nat × Nat) (I' : rI) (R' : rR), (maS f n E mj wa (by2 f p1) (p1 + 2) 0 0 = .inl e9) ∧ v = some (.int (-1)) ∧ RS g m0 q z I' R' M' ∧ eqI [47, 48] I I' ∧ eqR [37, 38, 39, 40, 41, 42, 43, 44] R R' ∧ I' 47 = some (nI e9.1) ∧ I' 48 = some (nI e9.2)) ∨ (∃ (h9 : Nat) (I' : rI) (R' : rR), (maS f n E mj wa (by2 f p1) (p1 + 2) 0 0 = .inr h9) ∧ v = some (.int (nI e)) ∧ RS g m0 q z I' R' M' ∧ eqI [47, 48] I I' ∧ eqR [37, 38, 39, 40, 41, 42, 43, 44] R R' ∧ CX h9 x I' R'))) := by
    intro kf
    induction kf with
    | zero => exact ⟨by intros; exact pl_0, by intros; exact pl_0⟩
    | succ kf ih =>
      refine ⟨?_, ?_⟩
      · skip
        intro i p s2 s3 h M1 I1 R1 hR1 hEI1 hER1 hl51 hl52 hl53 hF1 hY1 hP1 hK1 hX1 hC1 hi hl hb ha hs9
        have hn := hF1.1
        have hu9 := by2_lt f p1
        have htl := hY1.1.2.2.1
        refine ps_st1 (S' := (20, [(0, .ref m0), (2, .int 2), (3, .int (nI x)), (4, .int (nI (by2 f p1))), (5, .int (nI p)), (6, .int (nI s3)), (7, .int (nI i))], [.int (nI i)], M1)) rfl rfl rfl ?_
        refine ps_st (S' := (22, [(0, .ref m0), (2, .int 2), (3, .int (nI x)), (4, .int (nI (by2 f p1))), (5, .int (nI p)), (6, .int (nI s3)), (7, .int (nI i))], [.int (nI (by2 f p1)), .int (nI i)], M1)) rfl rfl rfl ?_
        refine ps_if2 (S1 := (284, [(0, .ref m0), (2, .int 2), (3, .int (nI x)), (4, .int (nI (by2 f p1))), (5, .int (nI p)), (6, .int (nI s3)), (7, .int (nI i))], [], M1)) (S2 := (25, [(0, .ref m0), (2, .int 2), (3, .int (nI x)), (4, .int (nI (by2 f p1))), (5, .int (nI p)), (6, .int (nI s3)), (7, .int (nI i))], [], M1)) rfl rfl rfl (fun c_22 => ?_) (fun c_22 => ?_)
        · have c_22 : (nI (by2 f p1)) ≤ (nI i) := of_decide_eq_true c_22
          have n_22 : by2 f p1 ≤ i := (le_nI (p := by2 f p1) (n := i) (Nat.lt_trans (by2_lt _ _) (by decide)) (by omega)).mp c_22
          refine ps_st (S' := (286, [(0, .ref m0), (2, .int 2), (3, .int (nI x)), (4, .int (nI (by2 f p1))), (5, .int (nI p)), (6, .int (nI s3)), (7, .int (nI i))], [.int (nI p)], M1)) rfl rfl rfl ?_
          exact ps_reti rfl (Or.inr ⟨h, I1, R1, by rw [← hs9, show by2 f p1 - i = 0 by omega]; rfl, by rw [show e = p by (rw [show by2 f p1 - i = 0 by omega] at ha; exact (Option.some.inj ha).symm)], hR1, hEI1, hER1, hC1⟩)
        · have c_22 : ¬ ((nI (by2 f p1)) ≤ (nI i)) := of_decide_eq_false c_22
          have n_22 : ¬ (by2 f p1 ≤ i) := fun h9 => c_22 ((le_nI (p := by2 f p1) (n := i) (Nat.lt_trans (by2_lt _ _) (by decide)) (by omega)).mpr h9)
          obtain ⟨hq5, hq6, hq7⟩ := s_atE_in (i := i) (p := p) ha (by omega)
          refine ps_st (S' := (26, [(0, .ref m0), (2, .int 2), (3, .int (nI x)), (4, .int (nI (by2 f p1))), (5, .int (nI p)), (6, .int (nI s3)), (7, .int (nI i))], [.ref m0], M1)) rfl rfl rfl ?_
          refine ps_st (S' := (28, [(0, .ref m0), (2, .int 2), (3, .int (nI x)), (4, .int (nI (by2 f p1))), (5, .int (nI p)), (6, .int (nI s3)), (7, .int (nI i))], [.int (nI p), .ref m0], M1)) rfl rfl rfl ?_
          refine ps_st (S' := (29, [(0, .ref m0), (2, .int 2), (3, .int (nI x)), (4, .int (nI (by2 f p1))), (5, .int (nI p)), (6, .int (nI s3)), (7, .int (nI i))], [.int 2, .int (nI p), .ref m0], M1)) rfl rfl rfl ?_
          refine ps_st (S' := (30, [(0, .ref m0), (2, .int 2), (3, .int (nI x)), (4, .int (nI (by2 f p1))), (5, .int (nI p)), (6, .int (nI s3)), (7, .int (nI i))], [.int ((nI p) + 2), .ref m0], M1)) rfl rfl rfl ?_
          rw [nI_add1 (p := p) (k := 2) (x := 2) rfl (by omega)]
          show pl _ _ _ (_, [(0, .ref m0), (2, .int 2), (3, .int (nI x)), (4, .int (nI (by2 f p1))), (5, .int (nI p)), (6, .int (nI s3)), (7, .int (nI i))], [.int (nI (p + 2)), .ref m0], M1) _
          refine pl_call (a := [.ref m0, .int (nI (p + 2))]) (rest := []) rfl rfl rfl (rd_u4 (n := n) (f := f) (p := (p + 2)) hR1 hF1 (by omega)) (fun v1 M2 q3 => ?_)
          obtain ⟨rfl, rfl⟩ := q3
          show pl _ _ _ (33, [(0, .ref m0), (2, .int 2), (3, .int (nI x)), (4, .int (nI (by2 f p1))), (5, .int (nI p)), (6, .int (nI s3)), (7, .int (nI i))], [.long (nL (by4 f (p + 2)))], M1) _
          have hu_30 := by4_lt f (p + 2)
          refine ps_st (S' := (34, [(0, .ref m0), (2, .int 2), (3, .int (nI x)), (4, .int (nI (by2 f p1))), (5, .int (nI p)), (6, .int (nI s3)), (7, .int (nI i))], [.int (Int64.toInt32 (nL (by4 f (p + 2))))], M1)) rfl rfl rfl ?_
          rw [l2i_nL (p := by4 f (p + 2)) (by omega)]
          show pl _ _ _ (_, [(0, .ref m0), (2, .int 2), (3, .int (nI x)), (4, .int (nI (by2 f p1))), (5, .int (nI p)), (6, .int (nI s3)), (7, .int (nI i))], [.int (nI (by4 f (p + 2)))], M1) _
          refine ps_st (S' := (36, [(8, .int (nI (by4 f (p + 2)))), (0, .ref m0), (2, .int 2), (3, .int (nI x)), (4, .int (nI (by2 f p1))), (5, .int (nI p)), (6, .int (nI s3)), (7, .int (nI i))], [], M1)) rfl rfl rfl ?_
          refine ps_st (S' := (37, [(8, .int (nI (by4 f (p + 2)))), (0, .ref m0), (2, .int 2), (3, .int (nI x)), (4, .int (nI (by2 f p1))), (5, .int (nI p)), (6, .int (nI s3)), (7, .int (nI i))], [.ref m0], M1)) rfl rfl rfl ?_
          refine ps_st (S' := (38, [(8, .int (nI (by4 f (p + 2)))), (0, .ref m0), (2, .int 2), (3, .int (nI x)), (4, .int (nI (by2 f p1))), (5, .int (nI p)), (6, .int (nI s3)), (7, .int (nI i))], [.ref m0, .ref m0], M1)) rfl rfl rfl ?_
          refine ps_st (S' := (40, [(8, .int (nI (by4 f (p + 2)))), (0, .ref m0), (2, .int 2), (3, .int (nI x)), (4, .int (nI (by2 f p1))), (5, .int (nI p)), (6, .int (nI s3)), (7, .int (nI i))], [.int (nI p), .ref m0, .ref m0], M1)) rfl rfl rfl ?_
          refine pl_call (a := [.ref m0, .int (nI p)]) (rest := [.ref m0]) rfl rfl rfl (rd_u2 (n := n) (f := f) (p := p) hR1 hF1 (by omega)) (fun v4 M5 q6 => ?_)
          obtain ⟨rfl, rfl⟩ := q6
          show pl _ _ _ (43, [(8, .int (nI (by4 f (p + 2)))), (0, .ref m0), (2, .int 2), (3, .int (nI x)), (4, .int (nI (by2 f p1))), (5, .int (nI p)), (6, .int (nI s3)), (7, .int (nI i))], [.int (nI (by2 f p)), .ref m0], M1) _
          have hu_40 := by2_lt f p
          refine pl_call (a := [.ref m0, .int (nI (by2 f p))]) (rest := []) rfl rfl rfl (rd_tag (n := n) (f := f) (tx := tx) (cN := cN) (A := A) (N := N) (mj := mj) (E := E) (k := (by2 f p)) hR1 hl51 hl52 hl53 hF1 hY1 hP1 (hEP) (hN) (hmj) (by2_lt _ _)) (fun v7 M8 q9 => ?_)
          obtain ⟨rfl, rfl⟩ := q9
          show pl _ _ _ (46, [(8, .int (nI (by4 f (p + 2)))), (0, .ref m0), (2, .int 2), (3, .int (nI x)), (4, .int (nI (by2 f p1))), (5, .int (nI p)), (6, .int (nI s3)), (7, .int (nI i))], [.int (nI (tg f E (by2 f p)))], M1) _
          have htg_43 := tg_lt f E (by2 f p)
          refine ps_st (S' := (47, [(8, .int (nI (by4 f (p + 2)))), (0, .ref m0), (2, .int 2), (3, .int (nI x)), (4, .int (nI (by2 f p1))), (5, .int (nI p)), (6, .int (nI s3)), (7, .int (nI i))], [.int 1, .int (nI (tg f E (by2 f p)))], M1)) rfl rfl rfl ?_
          refine ps_if2 (S1 := (61, [(8, .int (nI (by4 f (p + 2)))), (0, .ref m0), (2, .int 2), (3, .int (nI x)), (4, .int (nI (by2 f p1))), (5, .int (nI p)), (6, .int (nI s3)), (7, .int (nI i))], [], M1)) (S2 := (50, [(8, .int (nI (by4 f (p + 2)))), (0, .ref m0), (2, .int 2), (3, .int (nI x)), (4, .int (nI (by2 f p1))), (5, .int (nI p)), (6, .int (nI s3)), (7, .int (nI i))], [], M1)) rfl rfl rfl (fun c_47 => ?_) (fun c_47 => ?_)
          · have c_47 : (nI (tg f E (by2 f p))) = 1 := of_decide_eq_true c_47
            have n_47 : tg f E (by2 f p) = 1 := (eq_nI (p := tg f E (by2 f p)) (n := 1) (Nat.lt_trans (tg_lt _ _ _) (by decide)) (by decide)).mp c_47
            refine ps_st (S' := (62, [(8, .int (nI (by4 f (p + 2)))), (0, .ref m0), (2, .int 2), (3, .int (nI x)), (4, .int (nI (by2 f p1))), (5, .int (nI p)), (6, .int (nI s3)), (7, .int (nI i))], [.ref m0], M1)) rfl rfl rfl ?_
            refine ps_st (S' := (63, [(8, .int (nI (by4 f (p + 2)))), (0, .ref m0), (2, .int 2), (3, .int (nI x)), (4, .int (nI (by2 f p1))), (5, .int (nI p)), (6, .int (nI s3)), (7, .int (nI i))], [.ref m0, .ref m0], M1)) rfl rfl rfl ?_
            refine ps_st (S' := (65, [(8, .int (nI (by4 f (p + 2)))), (0, .ref m0), (2, .int 2), (3, .int (nI x)), (4, .int (nI (by2 f p1))), (5, .int (nI p)), (6, .int (nI s3)), (7, .int (nI i))], [.int (nI p), .ref m0, .ref m0], M1)) rfl rfl rfl ?_
            refine pl_call (a := [.ref m0, .int (nI p)]) (rest := [.ref m0]) rfl rfl rfl (rd_u2 (n := n) (f := f) (p := p) hR1 hF1 (by omega)) (fun v10 M11 q12 => ?_)
            obtain ⟨rfl, rfl⟩ := q12
            show pl _ _ _ (68, [(8, .int (nI (by4 f (p + 2)))), (0, .ref m0), (2, .int 2), (3, .int (nI x)), (4, .int (nI (by2 f p1))), (5, .int (nI p)), (6, .int (nI s3)), (7, .int (nI i))], [.int (nI (by2 f p)), .ref m0], M1) _
            have hu_65 := by2_lt f p
            refine pl_call (a := [.ref m0, .int (nI (by2 f p))]) (rest := []) rfl rfl rfl (rd_symOf (n := n) (f := f) (tx := tx) (cN := cN) (A := A) (N := N) (mj := mj) (E := E) (k := (by2 f p)) hR1 hl51 hl52 hl53 hF1 hY1 hP1 (hEP) (hN) (hmj) (by omega)) (fun v13 M14 q15 => ?_)
            obtain ⟨s16, q68_s, rfl, rfl⟩ := q15
            show pl _ _ _ (71, [(8, .int (nI (by4 f (p + 2)))), (0, .ref m0), (2, .int 2), (3, .int (nI x)), (4, .int (nI (by2 f p1))), (5, .int (nI p)), (6, .int (nI s3)), (7, .int (nI i))], [.int (nI s16)], M1) _
            have hsl_68 := q68_s.1
            have htl_68 := hY1.1.2.2.1
            refine ps_st (S' := (73, [(9, .int (nI s16)), (8, .int (nI (by4 f (p + 2)))), (0, .ref m0), (2, .int 2), (3, .int (nI x)), (4, .int (nI (by2 f p1))), (5, .int (nI p)), (6, .int (nI s3)), (7, .int (nI i))], [], M1)) rfl rfl rfl ?_
            refine ps_st (S' := (74, [(9, .int (nI s16)), (8, .int (nI (by4 f (p + 2)))), (0, .ref m0), (2, .int 2), (3, .int (nI x)), (4, .int (nI (by2 f p1))), (5, .int (nI p)), (6, .int (nI s3)), (7, .int (nI i))], [.int (-1)], M1)) rfl rfl rfl ?_
            refine ps_st (S' := (76, [(10, .int (-1)), (9, .int (nI s16)), (8, .int (nI (by4 f (p + 2)))), (0, .ref m0), (2, .int 2), (3, .int (nI x)), (4, .int (nI (by2 f p1))), (5, .int (nI p)), (6, .int (nI s3)), (7, .int (nI i))], [], M1)) rfl rfl rfl ?_
            refine ps_st (S' := (77, [(10, .int (-1)), (9, .int (nI s16)), (8, .int (nI (by4 f (p + 2)))), (0, .ref m0), (2, .int 2), (3, .int (nI x)), (4, .int (nI (by2 f p1))), (5, .int (nI p)), (6, .int (nI s3)), (7, .int (nI i))], [.int 0], M1)) rfl rfl rfl ?_
            refine ps_st (S' := (79, [(0, .ref m0), (2, .int 2), (3, .int (nI x)), (4, .int (nI (by2 f p1))), (5, .int (nI p)), (6, .int (nI s3)), (7, .int (nI i)), (8, .int (nI (by4 f (p + 2)))), (9, .int (nI s16)), (10, .int (-1)), (11, .int 0)], [], M1)) rfl rfl rfl ?_
            exact ih.2 (i) (p) (s2) (s3) (0) (s16) (h) M1 I1 R1 hR1 hEI1 hER1 hl51 hl52 hl53 hF1 hY1 hP1 hK1 hX1 hC1 (by omega) (hl) (hb) (ha) (hs9) (by omega) (by omega) (q68_s)
          · have c_47 : ¬ ((nI (tg f E (by2 f p))) = 1) := of_decide_eq_false c_47
            have n_47 : ¬ (tg f E (by2 f p) = 1) := fun h9 => c_47 ((eq_nI (p := tg f E (by2 f p)) (n := 1) (Nat.lt_trans (tg_lt _ _ _) (by decide)) (by decide)).mpr h9)
            refine ps_st (S' := (51, [(8, .int (nI (by4 f (p + 2)))), (0, .ref m0), (2, .int 2), (3, .int (nI x)), (4, .int (nI (by2 f p1))), (5, .int (nI p)), (6, .int (nI s3)), (7, .int (nI i))], [.ref m0], M1)) rfl rfl rfl ?_
            refine ps_st (S' := (53, [(8, .int (nI (by4 f (p + 2)))), (0, .ref m0), (2, .int 2), (3, .int (nI x)), (4, .int (nI (by2 f p1))), (5, .int (nI p)), (6, .int (nI s3)), (7, .int (nI i))], [.int 28, .ref m0], M1)) rfl rfl rfl ?_
            refine ps_st (S' := (55, [(8, .int (nI (by4 f (p + 2)))), (0, .ref m0), (2, .int 2), (3, .int (nI x)), (4, .int (nI (by2 f p1))), (5, .int (nI p)), (6, .int (nI s3)), (7, .int (nI i))], [.int (nI p), .int 28, .ref m0], M1)) rfl rfl rfl ?_
            refine pl_call (a := [.ref m0, .int 28, .int (nI p)]) (rest := []) rfl rfl rfl (rd_wrong (x1 := 28) (x2 := (nI p)) hR1) (fun v17 M18 q19 => ?_)
            obtain ⟨I20, R21, rfl, hR22, hI23, hX24, hi25, hi26⟩ := q19
            have hi27 := (hI23 51 (by decide)).trans hl51
            have hi28 := (hI23 52 (by decide)).trans hl52
            have hi29 := (hI23 53 (by decide)).trans hl53
            have hF_30 := hF1.mono (cIx hI23 (by decide)) (cRx hX24 (by decide))
            have hY_31 := hY1.mono (cIx hI23 (by decide)) (cRx hX24 (by decide))
            have hP_32 := hP1.mono (cIx hI23 (by decide)) (cRx hX24 (by decide))
            have hK_33 := hK1.mono (cIx hI23 (by decide)) (cRx hX24 (by decide))
            have hX_34 := hX1.mono (cIx hI23 (by decide)) (cRx hX24 (by decide))
            have hC_35 := hC1.mono (cIx hI23 (by decide)) (cRx hX24 (by decide))
            have hEI36 := hEI1.tr hI23 (by decide)
            have hER37 := hER1.tr hX24 (by decide)
            show pl _ _ _ (58, [(8, .int (nI (by4 f (p + 2)))), (0, .ref m0), (2, .int 2), (3, .int (nI x)), (4, .int (nI (by2 f p1))), (5, .int (nI p)), (6, .int (nI s3)), (7, .int (nI i))], [.int 0], M18) _
            refine ps_st (S' := (59, [(8, .int (nI (by4 f (p + 2)))), (0, .ref m0), (2, .int 2), (3, .int (nI x)), (4, .int (nI (by2 f p1))), (5, .int (nI p)), (6, .int (nI s3)), (7, .int (nI i))], [], M18)) rfl rfl rfl ?_
            refine ps_st (S' := (60, [(8, .int (nI (by4 f (p + 2)))), (0, .ref m0), (2, .int 2), (3, .int (nI x)), (4, .int (nI (by2 f p1))), (5, .int (nI p)), (6, .int (nI s3)), (7, .int (nI i))], [.int (-1)], M18)) rfl rfl rfl ?_
            exact ps_ret rfl rfl (Or.inl ⟨(28, p), I20, R21, by
                rw [← hs9, maS_28 (i := i) (p := p) (s := s2) (by omega) (by omega)], rfl, hR22, hEI36, hER37, hi25, hi26⟩)
      · skip
        intro i p s2 s3 k t h M1 I1 R1 hR1 hEI1 hER1 hl51 hl52 hl53 hF1 hY1 hP1 hK1 hX1 hC1 hi0 hl hb ha hs9 hk h1 hsy
        have hn := hF1.1
        have hu9 := by2_lt f p1
        have htl := hY1.1.2.2.1
        obtain ⟨hq5, hq6, hq7⟩ := s_atE_in (i := i) (p := p) ha hi0
        refine ps_st1 (S' := (81, [(0, .ref m0), (2, .int 2), (3, .int (nI x)), (4, .int (nI (by2 f p1))), (5, .int (nI p)), (6, .int (nI s3)), (7, .int (nI i)), (8, .int (nI (by4 f (p + 2)))), (9, .int (nI t)), (10, .int (gI (kb mj 2 (tX f n E (by2 f p)) k))), (11, .int (nI k))], [.int (nI k)], M1)) rfl rfl rfl ?_
        refine ps_st (S' := (82, [(0, .ref m0), (2, .int 2), (3, .int (nI x)), (4, .int (nI (by2 f p1))), (5, .int (nI p)), (6, .int (nI s3)), (7, .int (nI i)), (8, .int (nI (by4 f (p + 2)))), (9, .int (nI t)), (10, .int (gI (kb mj 2 (tX f n E (by2 f p)) k))), (11, .int (nI k))], [.ref m0, .int (nI k)], M1)) rfl rfl rfl ?_
        refine pr_ref (j := 62) (S' := (85, [(0, .ref m0), (2, .int 2), (3, .int (nI x)), (4, .int (nI (by2 f p1))), (5, .int (nI p)), (6, .int (nI s3)), (7, .int (nI i)), (8, .int (nI (by4 f (p + 2)))), (9, .int (nI t)), (10, .int (gI (kb mj 2 (tX f n E (by2 f p)) k))), (11, .int (nI k))], [.ref (q 62), .int (nI k)], M1)) rfl hR1 rfl rfl ?_
        refine pr_knl (S' := (86, [(0, .ref m0), (2, .int 2), (3, .int (nI x)), (4, .int (nI (by2 f p1))), (5, .int (nI p)), (6, .int (nI s3)), (7, .int (nI i)), (8, .int (nI (by4 f (p + 2)))), (9, .int (nI t)), (10, .int (gI (kb mj 2 (tX f n E (by2 f p)) k))), (11, .int (nI k))], [.int (nI 10), .int (nI k)], M1)) rfl hR1 rfl ?_
        refine ps_if2 (S1 := (140, [(0, .ref m0), (2, .int 2), (3, .int (nI x)), (4, .int (nI (by2 f p1))), (5, .int (nI p)), (6, .int (nI s3)), (7, .int (nI i)), (8, .int (nI (by4 f (p + 2)))), (9, .int (nI t)), (10, .int (gI (kb mj 2 (tX f n E (by2 f p)) k))), (11, .int (nI k))], [], M1)) (S2 := (89, [(0, .ref m0), (2, .int 2), (3, .int (nI x)), (4, .int (nI (by2 f p1))), (5, .int (nI p)), (6, .int (nI s3)), (7, .int (nI i)), (8, .int (nI (by4 f (p + 2)))), (9, .int (nI t)), (10, .int (gI (kb mj 2 (tX f n E (by2 f p)) k))), (11, .int (nI k))], [], M1)) rfl rfl rfl (fun c_86 => ?_) (fun c_86 => ?_)
        · have c_86 : (nI 10) ≤ (nI k) := of_decide_eq_true c_86
          have n_86 : 10 ≤ k := (le_nI (p := 10) (n := k) (by decide) (by omega)).mp c_86
          have ek : k = 10 := by omega
          refine ps_st (S' := (142, [(0, .ref m0), (2, .int 2), (3, .int (nI x)), (4, .int (nI (by2 f p1))), (5, .int (nI p)), (6, .int (nI s3)), (7, .int (nI i)), (8, .int (nI (by4 f (p + 2)))), (9, .int (nI t)), (10, .int (gI (kb mj 2 (tX f n E (by2 f p)) k))), (11, .int (nI k))], [.int (gI (kb mj 2 (tX f n E (by2 f p)) k))], M1)) rfl rfl rfl ?_
          refine ps_if (S1 := (268, [(0, .ref m0), (2, .int 2), (3, .int (nI x)), (4, .int (nI (by2 f p1))), (5, .int (nI p)), (6, .int (nI s3)), (7, .int (nI i)), (8, .int (nI (by4 f (p + 2))))], [], M1)) (S2 := (145, [(0, .ref m0), (2, .int 2), (3, .int (nI x)), (4, .int (nI (by2 f p1))), (5, .int (nI p)), (6, .int (nI s3)), (7, .int (nI i)), (8, .int (nI (by4 f (p + 2)))), (9, .int (nI t)), (10, .int (gI (kb mj 2 (tX f n E (by2 f p)) k))), (11, .int (nI k))], [], M1)) rfl rfl rfl (fun c_142 => ?_) (fun c_142 => ?_)
          · have c_142 : (gI (kb mj 2 (tX f n E (by2 f p)) k)) < 0 := of_decide_eq_true c_142
            rw [ek] at c_142
            have hsm := mk_n c_142
            refine ps_st (S' := (270, [(0, .ref m0), (2, .int 2), (3, .int (nI x)), (4, .int (nI (by2 f p1))), (5, .int (nI p)), (6, .int (nI s3)), (7, .int (nI i)), (8, .int (nI (by4 f (p + 2))))], [.int (nI p)], M1)) rfl rfl rfl ?_
            refine ps_st (S' := (272, [(0, .ref m0), (2, .int 2), (3, .int (nI x)), (4, .int (nI (by2 f p1))), (5, .int (nI p)), (6, .int (nI s3)), (7, .int (nI i)), (8, .int (nI (by4 f (p + 2))))], [.int 6, .int (nI p)], M1)) rfl rfl rfl ?_
            refine ps_st (S' := (274, [(0, .ref m0), (2, .int 2), (3, .int (nI x)), (4, .int (nI (by2 f p1))), (5, .int (nI p)), (6, .int (nI s3)), (7, .int (nI i)), (8, .int (nI (by4 f (p + 2))))], [.int (nI (by4 f (p + 2))), .int 6, .int (nI p)], M1)) rfl rfl rfl ?_
            refine ps_st (S' := (275, [(0, .ref m0), (2, .int 2), (3, .int (nI x)), (4, .int (nI (by2 f p1))), (5, .int (nI p)), (6, .int (nI s3)), (7, .int (nI i)), (8, .int (nI (by4 f (p + 2))))], [.int (6 + (nI (by4 f (p + 2)))), .int (nI p)], M1)) rfl rfl rfl ?_
            rw [nI_add2 (p := 6) (k := by4 f (p + 2)) (x := 6) (y := (nI (by4 f (p + 2)))) rfl rfl (by omega)]
            show pl _ _ _ (_, [(0, .ref m0), (2, .int 2), (3, .int (nI x)), (4, .int (nI (by2 f p1))), (5, .int (nI p)), (6, .int (nI s3)), (7, .int (nI i)), (8, .int (nI (by4 f (p + 2))))], [.int (nI (6 + by4 f (p + 2))), .int (nI p)], M1) _
            refine ps_st (S' := (276, [(0, .ref m0), (2, .int 2), (3, .int (nI x)), (4, .int (nI (by2 f p1))), (5, .int (nI p)), (6, .int (nI s3)), (7, .int (nI i)), (8, .int (nI (by4 f (p + 2))))], [.int ((nI p) + (nI (6 + by4 f (p + 2))))], M1)) rfl rfl rfl ?_
            rw [nI_add1 (p := p) (k := 6 + by4 f (p + 2)) (x := (nI (6 + by4 f (p + 2)))) rfl (by omega)]
            rw [show nI (p + (6 + by4 f (p + 2))) = nI (p + 6 + by4 f (p + 2)) from congrArg nI (by omega)]
            show pl _ _ _ (_, [(0, .ref m0), (2, .int 2), (3, .int (nI x)), (4, .int (nI (by2 f p1))), (5, .int (nI p)), (6, .int (nI s3)), (7, .int (nI i)), (8, .int (nI (by4 f (p + 2))))], [.int (nI (p + 6 + by4 f (p + 2)))], M1) _
            refine ps_st (S' := (278, [(5, .int (nI (p + 6 + by4 f (p + 2)))), (0, .ref m0), (2, .int 2), (3, .int (nI x)), (4, .int (nI (by2 f p1))), (6, .int (nI s3)), (7, .int (nI i)), (8, .int (nI (by4 f (p + 2))))], [], M1)) rfl rfl rfl ?_
            refine ps_st (S' := (281, [(7, .int ((nI i) + 1)), (5, .int (nI (p + 6 + by4 f (p + 2)))), (0, .ref m0), (2, .int 2), (3, .int (nI x)), (4, .int (nI (by2 f p1))), (6, .int (nI s3)), (8, .int (nI (by4 f (p + 2))))], [], M1)) rfl rfl rfl ?_
            rw [nI_add1 (p := i) (k := 1) (x := 1) rfl (by omega)]
            show pl _ _ _ (_, [(7, .int (nI (i + 1))), (5, .int (nI (p + 6 + by4 f (p + 2)))), (0, .ref m0), (2, .int 2), (3, .int (nI x)), (4, .int (nI (by2 f p1))), (6, .int (nI s3)), (8, .int (nI (by4 f (p + 2))))], [], M1) _
            refine ps_st (S' := (18, [(0, .ref m0), (2, .int 2), (3, .int (nI x)), (4, .int (nI (by2 f p1))), (5, .int (nI (p + 6 + by4 f (p + 2)))), (6, .int (nI s3)), (7, .int (nI (i + 1)))], [], M1)) rfl rfl rfl ?_
            exact ih.1 (i + 1) (p + 6 + by4 f (p + 2)) (s2) (s3) (h) M1 I1 R1 hR1 hEI1 hER1 hl51 hl52 hl53 hF1 hY1 hP1 hK1 hX1 hC1 (by omega) (hl) (hb) (hq7) (by
                rw [← hs9, maS_u (i := i) (p := p) (s := s2) hi0 h1 hsm])
          · have c_142 : ¬ ((gI (kb mj 2 (tX f n E (by2 f p)) k)) < 0) := of_decide_eq_false c_142
            rw [ek] at c_142
            obtain ⟨w, hw1, hw2, hsm⟩ := mk_y c_142
            have hws : sb s3 w = sb s2 (w + 1) := by rcases hw2 with rfl | rfl; exact hb.1; exact hb.2.1
            have hb2 := sb_lt s3 w
            rw [show gI (kb mj 2 (tX f n E (by2 f p)) k) = nI w by rw [ek, hw1]; rfl]
            show pl _ _ _ (145, [(0, .ref m0), (2, .int 2), (3, .int (nI x)), (4, .int (nI (by2 f p1))), (5, .int (nI p)), (6, .int (nI s3)), (7, .int (nI i)), (8, .int (nI (by4 f (p + 2)))), (9, .int (nI t)), (10, .int (nI w)), (11, .int (nI k))], [], M1) _
            refine ps_st (S' := (146, [(0, .ref m0), (2, .int 2), (3, .int (nI x)), (4, .int (nI (by2 f p1))), (5, .int (nI p)), (6, .int (nI s3)), (7, .int (nI i)), (8, .int (nI (by4 f (p + 2)))), (9, .int (nI t)), (10, .int (nI w)), (11, .int (nI k))], [.int 2], M1)) rfl rfl rfl ?_
            refine ps_st (S' := (147, [(0, .ref m0), (2, .int 2), (3, .int (nI x)), (4, .int (nI (by2 f p1))), (5, .int (nI p)), (6, .int (nI s3)), (7, .int (nI i)), (8, .int (nI (by4 f (p + 2)))), (9, .int (nI t)), (10, .int (nI w)), (11, .int (nI k))], [.int 1, .int 2], M1)) rfl rfl rfl ?_
            refine ps_if2 (S1 := (160, [(0, .ref m0), (2, .int 2), (3, .int (nI x)), (4, .int (nI (by2 f p1))), (5, .int (nI p)), (6, .int (nI s3)), (7, .int (nI i)), (8, .int (nI (by4 f (p + 2)))), (10, .int (nI w))], [], M1)) (S2 := (150, [(0, .ref m0), (2, .int 2), (3, .int (nI x)), (4, .int (nI (by2 f p1))), (5, .int (nI p)), (6, .int (nI s3)), (7, .int (nI i)), (8, .int (nI (by4 f (p + 2)))), (9, .int (nI t)), (10, .int (nI w)), (11, .int (nI k))], [], M1)) rfl rfl rfl (fun c_147 => ?_) (fun c_147 => ?_)
            rotate_left
            · exact absurd (by decide) (of_decide_eq_false c_147)
            refine ps_st (S' := (161, [(0, .ref m0), (2, .int 2), (3, .int (nI x)), (4, .int (nI (by2 f p1))), (5, .int (nI p)), (6, .int (nI s3)), (7, .int (nI i)), (8, .int (nI (by4 f (p + 2)))), (10, .int (nI w))], [.int 2], M1)) rfl rfl rfl ?_
            refine ps_st (S' := (162, [(0, .ref m0), (2, .int 2), (3, .int (nI x)), (4, .int (nI (by2 f p1))), (5, .int (nI p)), (6, .int (nI s3)), (7, .int (nI i)), (8, .int (nI (by4 f (p + 2)))), (10, .int (nI w))], [.int 2, .int 2], M1)) rfl rfl rfl ?_
            refine ps_if2 (S1 := (175, [(0, .ref m0), (2, .int 2), (3, .int (nI x)), (4, .int (nI (by2 f p1))), (5, .int (nI p)), (6, .int (nI s3)), (7, .int (nI i)), (8, .int (nI (by4 f (p + 2)))), (10, .int (nI w))], [], M1)) (S2 := (165, [(0, .ref m0), (2, .int 2), (3, .int (nI x)), (4, .int (nI (by2 f p1))), (5, .int (nI p)), (6, .int (nI s3)), (7, .int (nI i)), (8, .int (nI (by4 f (p + 2)))), (10, .int (nI w))], [], M1)) rfl rfl rfl (fun c_162 => ?_) (fun c_162 => ?_)
            · exact absurd (of_decide_eq_true c_162) (by decide)
            refine ps_st (S' := (166, [(0, .ref m0), (2, .int 2), (3, .int (nI x)), (4, .int (nI (by2 f p1))), (5, .int (nI p)), (6, .int (nI s3)), (7, .int (nI i)), (8, .int (nI (by4 f (p + 2)))), (10, .int (nI w))], [.ref m0], M1)) rfl rfl rfl ?_
            refine pr_ref (j := 43) (S' := (169, [(0, .ref m0), (2, .int 2), (3, .int (nI x)), (4, .int (nI (by2 f p1))), (5, .int (nI p)), (6, .int (nI s3)), (7, .int (nI i)), (8, .int (nI (by4 f (p + 2)))), (10, .int (nI w))], [.ref (q 43)], M1)) rfl hR1 rfl rfl ?_
            refine ps_st (S' := (170, [(0, .ref m0), (2, .int 2), (3, .int (nI x)), (4, .int (nI (by2 f p1))), (5, .int (nI p)), (6, .int (nI s3)), (7, .int (nI i)), (8, .int (nI (by4 f (p + 2)))), (10, .int (nI w))], [.int (nI x), .ref (q 43)], M1)) rfl rfl rfl ?_
            refine ps_st (S' := (171, [(0, .ref m0), (2, .int 2), (3, .int (nI x)), (4, .int (nI (by2 f p1))), (5, .int (nI p)), (6, .int (nI s3)), (7, .int (nI i)), (8, .int (nI (by4 f (p + 2)))), (10, .int (nI w))], [.int (nI x), .ref (q 43), .int (nI x), .ref (q 43)], M1)) rfl rfl rfl ?_
            refine pr_ldu (a := 43) rfl hR1 rfl (fun y_171 i0_171 i1_171 hy_171 => ?_)
            show pl _ _ _ (172, [(0, .ref m0), (2, .int 2), (3, .int (nI x)), (4, .int (nI (by2 f p1))), (5, .int (nI p)), (6, .int (nI s3)), (7, .int (nI i)), (8, .int (nI (by4 f (p + 2)))), (10, .int (nI w))], [.int y_171, .int (nI x), .ref (q 43)], M1) _
            rw [nI_toNat (by omega)] at i1_171 hy_171
            refine ps_st (S' := (173, [(0, .ref m0), (2, .int 2), (3, .int (nI x)), (4, .int (nI (by2 f p1))), (5, .int (nI p)), (6, .int (nI s3)), (7, .int (nI i)), (8, .int (nI (by4 f (p + 2)))), (10, .int (nI w))], [.int 1, .int y_171, .int (nI x), .ref (q 43)], M1)) rfl rfl rfl ?_
            refine ps_st (S' := (174, [(0, .ref m0), (2, .int 2), (3, .int (nI x)), (4, .int (nI (by2 f p1))), (5, .int (nI p)), (6, .int (nI s3)), (7, .int (nI i)), (8, .int (nI (by4 f (p + 2)))), (10, .int (nI w))], [.int (y_171 + 1), .int (nI x), .ref (q 43)], M1)) rfl rfl rfl ?_
            refine pr_st (a := 43) (j := x) rfl hR1 rfl (by omega) (fun M38 R39 i1_174 hR40 hS41 => ?_)
            have hF_42 := hF1.mono (fun _ _ => rfl) (rRx hS41 (by decide))
            have hY_43 := hY1.mono (fun _ _ => rfl) (rRx hS41 (by decide))
            have hP_44 := hP1.mono (fun _ _ => rfl) (rRx hS41 (by decide))
            have hK_45 := hK1.mono (fun _ _ => rfl) (rRx hS41 (by decide))
            have hX_46 := hX1.mono (fun _ _ => rfl) (rRx hS41 (by decide))
            have hC_47 := hC1.mono (fun _ _ => rfl) (rRx hS41 (by decide))
            have hER48 := hER1.st hS41 (by decide)
            show pl _ _ _ (175, [(0, .ref m0), (2, .int 2), (3, .int (nI x)), (4, .int (nI (by2 f p1))), (5, .int (nI p)), (6, .int (nI s3)), (7, .int (nI i)), (8, .int (nI (by4 f (p + 2)))), (10, .int (nI w))], [], M38) _
            refine ps_st (S' := (176, [(0, .ref m0), (2, .int 2), (3, .int (nI x)), (4, .int (nI (by2 f p1))), (5, .int (nI p)), (6, .int (nI s3)), (7, .int (nI i)), (8, .int (nI (by4 f (p + 2)))), (10, .int (nI w))], [.int 2], M38)) rfl rfl rfl ?_
            refine ps_st (S' := (177, [(0, .ref m0), (2, .int 2), (3, .int (nI x)), (4, .int (nI (by2 f p1))), (5, .int (nI p)), (6, .int (nI s3)), (7, .int (nI i)), (8, .int (nI (by4 f (p + 2)))), (10, .int (nI w))], [.int 4, .int 2], M38)) rfl rfl rfl ?_
            refine ps_if2 (S1 := (190, [(0, .ref m0), (2, .int 2), (3, .int (nI x)), (4, .int (nI (by2 f p1))), (5, .int (nI p)), (6, .int (nI s3)), (7, .int (nI i)), (8, .int (nI (by4 f (p + 2)))), (10, .int (nI w))], [], M38)) (S2 := (180, [(0, .ref m0), (2, .int 2), (3, .int (nI x)), (4, .int (nI (by2 f p1))), (5, .int (nI p)), (6, .int (nI s3)), (7, .int (nI i)), (8, .int (nI (by4 f (p + 2)))), (10, .int (nI w))], [], M38)) rfl rfl rfl (fun c_177 => ?_) (fun c_177 => ?_)
            rotate_left
            · exact absurd (by decide) (of_decide_eq_false c_177)
            refine ps_st (S' := (192, [(0, .ref m0), (2, .int 2), (3, .int (nI x)), (4, .int (nI (by2 f p1))), (5, .int (nI p)), (6, .int (nI s3)), (7, .int (nI i)), (8, .int (nI (by4 f (p + 2)))), (10, .int (nI w))], [.int (nI s3)], M38)) rfl rfl rfl ?_
            refine ps_st (S' := (194, [(0, .ref m0), (2, .int 2), (3, .int (nI x)), (4, .int (nI (by2 f p1))), (5, .int (nI p)), (6, .int (nI s3)), (7, .int (nI i)), (8, .int (nI (by4 f (p + 2)))), (10, .int (nI w))], [.int (nI w), .int (nI s3)], M38)) rfl rfl rfl ?_
            refine ps_st (S' := (195, [(0, .ref m0), (2, .int 2), (3, .int (nI x)), (4, .int (nI (by2 f p1))), (5, .int (nI p)), (6, .int (nI s3)), (7, .int (nI i)), (8, .int (nI (by4 f (p + 2)))), (10, .int (nI w))], [.int ((nI s3) >>> ((nI w) &&& 31))], M38)) rfl rfl rfl ?_
            refine ps_st (S' := (196, [(0, .ref m0), (2, .int 2), (3, .int (nI x)), (4, .int (nI (by2 f p1))), (5, .int (nI p)), (6, .int (nI s3)), (7, .int (nI i)), (8, .int (nI (by4 f (p + 2)))), (10, .int (nI w))], [.int 1, .int ((nI s3) >>> ((nI w) &&& 31))], M38)) rfl rfl rfl ?_
            refine ps_st (S' := (197, [(0, .ref m0), (2, .int 2), (3, .int (nI x)), (4, .int (nI (by2 f p1))), (5, .int (nI p)), (6, .int (nI s3)), (7, .int (nI i)), (8, .int (nI (by4 f (p + 2)))), (10, .int (nI w))], [.int (((nI s3) >>> ((nI w) &&& 31)) &&& 1)], M38)) rfl rfl rfl ?_
            rw [shr_k s3 (by omega) w (by omega)]
            show pl _ _ _ (_, [(0, .ref m0), (2, .int 2), (3, .int (nI x)), (4, .int (nI (by2 f p1))), (5, .int (nI p)), (6, .int (nI s3)), (7, .int (nI i)), (8, .int (nI (by4 f (p + 2)))), (10, .int (nI w))], [.int (nI (sb s3 w))], M38) _
            refine ps_st (S' := (198, [(0, .ref m0), (2, .int 2), (3, .int (nI x)), (4, .int (nI (by2 f p1))), (5, .int (nI p)), (6, .int (nI s3)), (7, .int (nI i)), (8, .int (nI (by4 f (p + 2)))), (10, .int (nI w))], [.int 1, .int (nI (sb s3 w))], M38)) rfl rfl rfl ?_
            refine ps_if2 (S1 := (212, [(0, .ref m0), (2, .int 2), (3, .int (nI x)), (4, .int (nI (by2 f p1))), (5, .int (nI p)), (6, .int (nI s3)), (7, .int (nI i)), (8, .int (nI (by4 f (p + 2)))), (10, .int (nI w))], [], M38)) (S2 := (201, [(0, .ref m0), (2, .int 2), (3, .int (nI x)), (4, .int (nI (by2 f p1))), (5, .int (nI p)), (6, .int (nI s3)), (7, .int (nI i)), (8, .int (nI (by4 f (p + 2)))), (10, .int (nI w))], [], M38)) rfl rfl rfl (fun c_198 => ?_) (fun c_198 => ?_)
            · have c_198 : ¬ (nI (sb s3 w)) = 1 := of_decide_eq_true c_198
              have n_198 : ¬ (sb s3 w = 1) := fun h9 => c_198 ((eq_nI (p := sb s3 w) (n := 1) (Nat.lt_trans (sb_lt _ _) (by decide)) (by decide)).mpr h9)
              refine ps_st (S' := (213, [(0, .ref m0), (2, .int 2), (3, .int (nI x)), (4, .int (nI (by2 f p1))), (5, .int (nI p)), (6, .int (nI s3)), (7, .int (nI i)), (8, .int (nI (by4 f (p + 2)))), (10, .int (nI w))], [.ref m0], M38)) rfl rfl rfl ?_
              refine ps_st (S' := (215, [(0, .ref m0), (2, .int 2), (3, .int (nI x)), (4, .int (nI (by2 f p1))), (5, .int (nI p)), (6, .int (nI s3)), (7, .int (nI i)), (8, .int (nI (by4 f (p + 2)))), (10, .int (nI w))], [.int (nI w), .ref m0], M38)) rfl rfl rfl ?_
              refine ps_st (S' := (217, [(0, .ref m0), (2, .int 2), (3, .int (nI x)), (4, .int (nI (by2 f p1))), (5, .int (nI p)), (6, .int (nI s3)), (7, .int (nI i)), (8, .int (nI (by4 f (p + 2)))), (10, .int (nI w))], [.int (nI p), .int (nI w), .ref m0], M38)) rfl rfl rfl ?_
              refine ps_st (S' := (219, [(0, .ref m0), (2, .int 2), (3, .int (nI x)), (4, .int (nI (by2 f p1))), (5, .int (nI p)), (6, .int (nI s3)), (7, .int (nI i)), (8, .int (nI (by4 f (p + 2)))), (10, .int (nI w))], [.int (nI p), .int (nI p), .int (nI w), .ref m0], M38)) rfl rfl rfl ?_
              refine ps_st (S' := (221, [(0, .ref m0), (2, .int 2), (3, .int (nI x)), (4, .int (nI (by2 f p1))), (5, .int (nI p)), (6, .int (nI s3)), (7, .int (nI i)), (8, .int (nI (by4 f (p + 2)))), (10, .int (nI w))], [.int 6, .int (nI p), .int (nI p), .int (nI w), .ref m0], M38)) rfl rfl rfl ?_
              refine ps_st (S' := (222, [(0, .ref m0), (2, .int 2), (3, .int (nI x)), (4, .int (nI (by2 f p1))), (5, .int (nI p)), (6, .int (nI s3)), (7, .int (nI i)), (8, .int (nI (by4 f (p + 2)))), (10, .int (nI w))], [.int ((nI p) + 6), .int (nI p), .int (nI w), .ref m0], M38)) rfl rfl rfl ?_
              rw [nI_add1 (p := p) (k := 6) (x := 6) rfl (by omega)]
              show pl _ _ _ (_, [(0, .ref m0), (2, .int 2), (3, .int (nI x)), (4, .int (nI (by2 f p1))), (5, .int (nI p)), (6, .int (nI s3)), (7, .int (nI i)), (8, .int (nI (by4 f (p + 2)))), (10, .int (nI w))], [.int (nI (p + 6)), .int (nI p), .int (nI w), .ref m0], M38) _
              refine ps_st (S' := (224, [(0, .ref m0), (2, .int 2), (3, .int (nI x)), (4, .int (nI (by2 f p1))), (5, .int (nI p)), (6, .int (nI s3)), (7, .int (nI i)), (8, .int (nI (by4 f (p + 2)))), (10, .int (nI w))], [.int (nI p), .int (nI (p + 6)), .int (nI p), .int (nI w), .ref m0], M38)) rfl rfl rfl ?_
              refine ps_st (S' := (226, [(0, .ref m0), (2, .int 2), (3, .int (nI x)), (4, .int (nI (by2 f p1))), (5, .int (nI p)), (6, .int (nI s3)), (7, .int (nI i)), (8, .int (nI (by4 f (p + 2)))), (10, .int (nI w))], [.int 6, .int (nI p), .int (nI (p + 6)), .int (nI p), .int (nI w), .ref m0], M38)) rfl rfl rfl ?_
              refine ps_st (S' := (227, [(0, .ref m0), (2, .int 2), (3, .int (nI x)), (4, .int (nI (by2 f p1))), (5, .int (nI p)), (6, .int (nI s3)), (7, .int (nI i)), (8, .int (nI (by4 f (p + 2)))), (10, .int (nI w))], [.int ((nI p) + 6), .int (nI (p + 6)), .int (nI p), .int (nI w), .ref m0], M38)) rfl rfl rfl ?_
              rw [nI_add1 (p := p) (k := 6) (x := 6) rfl (by omega)]
              show pl _ _ _ (_, [(0, .ref m0), (2, .int 2), (3, .int (nI x)), (4, .int (nI (by2 f p1))), (5, .int (nI p)), (6, .int (nI s3)), (7, .int (nI i)), (8, .int (nI (by4 f (p + 2)))), (10, .int (nI w))], [.int (nI (p + 6)), .int (nI (p + 6)), .int (nI p), .int (nI w), .ref m0], M38) _
              refine ps_st (S' := (229, [(0, .ref m0), (2, .int 2), (3, .int (nI x)), (4, .int (nI (by2 f p1))), (5, .int (nI p)), (6, .int (nI s3)), (7, .int (nI i)), (8, .int (nI (by4 f (p + 2)))), (10, .int (nI w))], [.int (nI (by4 f (p + 2))), .int (nI (p + 6)), .int (nI (p + 6)), .int (nI p), .int (nI w), .ref m0], M38)) rfl rfl rfl ?_
              refine ps_st (S' := (230, [(0, .ref m0), (2, .int 2), (3, .int (nI x)), (4, .int (nI (by2 f p1))), (5, .int (nI p)), (6, .int (nI s3)), (7, .int (nI i)), (8, .int (nI (by4 f (p + 2)))), (10, .int (nI w))], [.int ((nI (p + 6)) + (nI (by4 f (p + 2)))), .int (nI (p + 6)), .int (nI p), .int (nI w), .ref m0], M38)) rfl rfl rfl ?_
              rw [nI_add1 (p := p + 6) (k := by4 f (p + 2)) (x := (nI (by4 f (p + 2)))) rfl (by omega)]
              show pl _ _ _ (_, [(0, .ref m0), (2, .int 2), (3, .int (nI x)), (4, .int (nI (by2 f p1))), (5, .int (nI p)), (6, .int (nI s3)), (7, .int (nI i)), (8, .int (nI (by4 f (p + 2)))), (10, .int (nI w))], [.int (nI (p + 6 + by4 f (p + 2))), .int (nI (p + 6)), .int (nI p), .int (nI w), .ref m0], M38) _
              refine ps_st (S' := (231, [(0, .ref m0), (2, .int 2), (3, .int (nI x)), (4, .int (nI (by2 f p1))), (5, .int (nI p)), (6, .int (nI s3)), (7, .int (nI i)), (8, .int (nI (by4 f (p + 2)))), (10, .int (nI w))], [.int (nI x), .int (nI (p + 6 + by4 f (p + 2))), .int (nI (p + 6)), .int (nI p), .int (nI w), .ref m0], M38)) rfl rfl rfl ?_
              refine ps_st (S' := (233, [(0, .ref m0), (2, .int 2), (3, .int (nI x)), (4, .int (nI (by2 f p1))), (5, .int (nI p)), (6, .int (nI s3)), (7, .int (nI i)), (8, .int (nI (by4 f (p + 2)))), (10, .int (nI w))], [.int (nI s3), .int (nI x), .int (nI (p + 6 + by4 f (p + 2))), .int (nI (p + 6)), .int (nI p), .int (nI w), .ref m0], M38)) rfl rfl rfl ?_
              have hs0 : sb s2 (w + 1) = 0 := by omega
              refine pl_call (a := [.ref m0, .int (nI w), .int (nI p), .int (nI (p + 6)), .int (nI (p + 6 + by4 f (p + 2))), .int (nI x), .int (nI s3)]) (rest := []) rfl rfl rfl (rd_attrM (n := n) (f := f) (tx := tx) (cN := cN) (A := A) (N := N) (mj := mj) (E := E) (p := p) (e := (p + 6 + by4 f (p + 2))) (x := x) (s3 := s3) (w := w) (fl := fl) (ds := ds) (wa := wa) (h := h) (l := l) (t := (nI p)) hR40 hl51 hl52 hl53 hF_42 hY_43 hP_44 hK_45 hX_46 hC_47 (hEP) (hN) (hmj) (⟨by omega, by omega⟩) (hl) (hx) (hdt) (hmt) (hf6) (hwa) (hw2)) (fun v49 M50 q51 => ?_)
              rcases q51 with q51 | q51 | q51 | q51
              · skip
                obtain ⟨I52, R53, q233_s, rfl, hR54, hI55, hX56⟩ := q51
                have hi57 := (hI55 51 (by decide)).trans hl51
                have hi58 := (hI55 52 (by decide)).trans hl52
                have hi59 := (hI55 53 (by decide)).trans hl53
                have hF_60 := hF_42.mono (cIx hI55 (by decide)) (cRx hX56 (by decide))
                have hY_61 := hY_43.mono (cIx hI55 (by decide)) (cRx hX56 (by decide))
                have hP_62 := hP_44.mono (cIx hI55 (by decide)) (cRx hX56 (by decide))
                have hK_63 := hK_45.mono (cIx hI55 (by decide)) (cRx hX56 (by decide))
                have hX_64 := hX_46.mono (cIx hI55 (by decide)) (cRx hX56 (by decide))
                have hEI65 := hEI1.tr hI55 (by decide)
                have hER66 := hER48.tr hX56 (by decide)
                show pl _ _ _ (236, [(0, .ref m0), (2, .int 2), (3, .int (nI x)), (4, .int (nI (by2 f p1))), (5, .int (nI p)), (6, .int (nI s3)), (7, .int (nI i)), (8, .int (nI (by4 f (p + 2)))), (10, .int (nI w))], [.int 30], M50) _
                refine ps_st (S' := (238, [(11, .int 30), (0, .ref m0), (2, .int 2), (3, .int (nI x)), (4, .int (nI (by2 f p1))), (5, .int (nI p)), (6, .int (nI s3)), (7, .int (nI i)), (8, .int (nI (by4 f (p + 2)))), (10, .int (nI w))], [], M50)) rfl rfl rfl ?_
                refine ps_st (S' := (240, [(11, .int 30), (0, .ref m0), (2, .int 2), (3, .int (nI x)), (4, .int (nI (by2 f p1))), (5, .int (nI p)), (6, .int (nI s3)), (7, .int (nI i)), (8, .int (nI (by4 f (p + 2)))), (10, .int (nI w))], [.int (nI s3)], M50)) rfl rfl rfl ?_
                refine ps_st (S' := (241, [(11, .int 30), (0, .ref m0), (2, .int 2), (3, .int (nI x)), (4, .int (nI (by2 f p1))), (5, .int (nI p)), (6, .int (nI s3)), (7, .int (nI i)), (8, .int (nI (by4 f (p + 2)))), (10, .int (nI w))], [.int 1, .int (nI s3)], M50)) rfl rfl rfl ?_
                refine ps_st (S' := (243, [(11, .int 30), (0, .ref m0), (2, .int 2), (3, .int (nI x)), (4, .int (nI (by2 f p1))), (5, .int (nI p)), (6, .int (nI s3)), (7, .int (nI i)), (8, .int (nI (by4 f (p + 2)))), (10, .int (nI w))], [.int (nI w), .int 1, .int (nI s3)], M50)) rfl rfl rfl ?_
                refine ps_st (S' := (244, [(11, .int 30), (0, .ref m0), (2, .int 2), (3, .int (nI x)), (4, .int (nI (by2 f p1))), (5, .int (nI p)), (6, .int (nI s3)), (7, .int (nI i)), (8, .int (nI (by4 f (p + 2)))), (10, .int (nI w))], [.int (1 <<< ((nI w) &&& 31)), .int (nI s3)], M50)) rfl rfl rfl ?_
                refine ps_st (S' := (245, [(11, .int 30), (0, .ref m0), (2, .int 2), (3, .int (nI x)), (4, .int (nI (by2 f p1))), (5, .int (nI p)), (6, .int (nI s3)), (7, .int (nI i)), (8, .int (nI (by4 f (p + 2)))), (10, .int (nI w))], [.int ((nI s3) ||| (1 <<< ((nI w) &&& 31)))], M50)) rfl rfl rfl ?_
                rw [or_k s3 w (by omega)]
                show pl _ _ _ (_, [(11, .int 30), (0, .ref m0), (2, .int 2), (3, .int (nI x)), (4, .int (nI (by2 f p1))), (5, .int (nI p)), (6, .int (nI s3)), (7, .int (nI i)), (8, .int (nI (by4 f (p + 2)))), (10, .int (nI w))], [.int (nI (so s3 w))], M50) _
                refine ps_st (S' := (247, [(6, .int (nI (so s3 w))), (11, .int 30), (0, .ref m0), (2, .int 2), (3, .int (nI x)), (4, .int (nI (by2 f p1))), (5, .int (nI p)), (7, .int (nI i)), (8, .int (nI (by4 f (p + 2)))), (10, .int (nI w))], [], M50)) rfl rfl rfl ?_
                refine ps_st (S' := (249, [(6, .int (nI (so s3 w))), (11, .int 30), (0, .ref m0), (2, .int 2), (3, .int (nI x)), (4, .int (nI (by2 f p1))), (5, .int (nI p)), (7, .int (nI i)), (8, .int (nI (by4 f (p + 2)))), (10, .int (nI w))], [.int 30], M50)) rfl rfl rfl ?_
                refine ps_if (S1 := (261, [(0, .ref m0), (2, .int 2), (3, .int (nI x)), (4, .int (nI (by2 f p1))), (5, .int (nI p)), (6, .int (nI (so s3 w))), (7, .int (nI i)), (8, .int (nI (by4 f (p + 2)))), (11, .int 30)], [], M50)) (S2 := (252, [(6, .int (nI (so s3 w))), (11, .int 30), (0, .ref m0), (2, .int 2), (3, .int (nI x)), (4, .int (nI (by2 f p1))), (5, .int (nI p)), (7, .int (nI i)), (8, .int (nI (by4 f (p + 2)))), (10, .int (nI w))], [], M50)) rfl rfl rfl (fun c_249 => ?_) (fun c_249 => ?_)
                · exact absurd (of_decide_eq_true c_249) (by decide)
                refine ps_st (S' := (253, [(6, .int (nI (so s3 w))), (11, .int 30), (0, .ref m0), (2, .int 2), (3, .int (nI x)), (4, .int (nI (by2 f p1))), (5, .int (nI p)), (7, .int (nI i)), (8, .int (nI (by4 f (p + 2)))), (10, .int (nI w))], [.ref m0], M50)) rfl rfl rfl ?_
                refine ps_st (S' := (255, [(6, .int (nI (so s3 w))), (11, .int 30), (0, .ref m0), (2, .int 2), (3, .int (nI x)), (4, .int (nI (by2 f p1))), (5, .int (nI p)), (7, .int (nI i)), (8, .int (nI (by4 f (p + 2)))), (10, .int (nI w))], [.int 30, .ref m0], M50)) rfl rfl rfl ?_
                refine ps_st (S' := (257, [(6, .int (nI (so s3 w))), (11, .int 30), (0, .ref m0), (2, .int 2), (3, .int (nI x)), (4, .int (nI (by2 f p1))), (5, .int (nI p)), (7, .int (nI i)), (8, .int (nI (by4 f (p + 2)))), (10, .int (nI w))], [.int (nI p), .int 30, .ref m0], M50)) rfl rfl rfl ?_
                refine pl_call (a := [.ref m0, .int 30, .int (nI p)]) (rest := []) rfl rfl rfl (rd_wrong (x1 := 30) (x2 := (nI p)) hR54) (fun v67 M68 q69 => ?_)
                obtain ⟨I70, R71, rfl, hR72, hI73, hX74, hi75, hi76⟩ := q69
                have hi77 := (hI73 51 (by decide)).trans hi57
                have hi78 := (hI73 52 (by decide)).trans hi58
                have hi79 := (hI73 53 (by decide)).trans hi59
                have hF_80 := hF_60.mono (cIx hI73 (by decide)) (cRx hX74 (by decide))
                have hY_81 := hY_61.mono (cIx hI73 (by decide)) (cRx hX74 (by decide))
                have hP_82 := hP_62.mono (cIx hI73 (by decide)) (cRx hX74 (by decide))
                have hK_83 := hK_63.mono (cIx hI73 (by decide)) (cRx hX74 (by decide))
                have hX_84 := hX_64.mono (cIx hI73 (by decide)) (cRx hX74 (by decide))
                have hEI85 := hEI65.tr hI73 (by decide)
                have hER86 := hER66.tr hX74 (by decide)
                show pl _ _ _ (260, [(6, .int (nI (so s3 w))), (11, .int 30), (0, .ref m0), (2, .int 2), (3, .int (nI x)), (4, .int (nI (by2 f p1))), (5, .int (nI p)), (7, .int (nI i)), (8, .int (nI (by4 f (p + 2)))), (10, .int (nI w))], [.int 0], M68) _
                refine ps_st (S' := (261, [(0, .ref m0), (2, .int 2), (3, .int (nI x)), (4, .int (nI (by2 f p1))), (5, .int (nI p)), (6, .int (nI (so s3 w))), (7, .int (nI i)), (8, .int (nI (by4 f (p + 2)))), (11, .int 30)], [], M68)) rfl rfl rfl ?_
                refine ps_st (S' := (263, [(0, .ref m0), (2, .int 2), (3, .int (nI x)), (4, .int (nI (by2 f p1))), (5, .int (nI p)), (6, .int (nI (so s3 w))), (7, .int (nI i)), (8, .int (nI (by4 f (p + 2)))), (11, .int 30)], [.int 30], M68)) rfl rfl rfl ?_
                refine ps_if (S1 := (268, [(0, .ref m0), (2, .int 2), (3, .int (nI x)), (4, .int (nI (by2 f p1))), (5, .int (nI p)), (6, .int (nI (so s3 w))), (7, .int (nI i)), (8, .int (nI (by4 f (p + 2))))], [], M68)) (S2 := (266, [(0, .ref m0), (2, .int 2), (3, .int (nI x)), (4, .int (nI (by2 f p1))), (5, .int (nI p)), (6, .int (nI (so s3 w))), (7, .int (nI i)), (8, .int (nI (by4 f (p + 2)))), (11, .int 30)], [], M68)) rfl rfl rfl (fun c_263 => ?_) (fun c_263 => ?_)
                · exact absurd (of_decide_eq_true c_263) (by decide)
                refine ps_st (S' := (267, [(0, .ref m0), (2, .int 2), (3, .int (nI x)), (4, .int (nI (by2 f p1))), (5, .int (nI p)), (6, .int (nI (so s3 w))), (7, .int (nI i)), (8, .int (nI (by4 f (p + 2)))), (11, .int 30)], [.int (-1)], M68)) rfl rfl rfl ?_
                exact ps_ret rfl rfl (Or.inl ⟨(30, p), I70, R71, by
                    rw [← hs9, maS_30 (i := i) (p := p) (s := s2) hi0 h1 hsm hs0 q233_s], rfl, hR72, hEI85, hER86, hi75, hi76⟩)
              · skip
                obtain ⟨r87, I88, R89, q233_s, q233_b, q233_l, rfl, hR90, hI91, hX92⟩ := q51
                have hi93 := (hI91 51 (by decide)).trans hl51
                have hi94 := (hI91 52 (by decide)).trans hl52
                have hi95 := (hI91 53 (by decide)).trans hl53
                have hF_96 := hF_42.mono (cIx hI91 (by decide)) (cRx hX92 (by decide))
                have hY_97 := hY_43.mono (cIx hI91 (by decide)) (cRx hX92 (by decide))
                have hP_98 := hP_44.mono (cIx hI91 (by decide)) (cRx hX92 (by decide))
                have hK_99 := hK_45.mono (cIx hI91 (by decide)) (cRx hX92 (by decide))
                have hX_100 := hX_46.mono (cIx hI91 (by decide)) (cRx hX92 (by decide))
                have hEI101 := hEI1.tr hI91 (by decide)
                have hER102 := hER48.tr hX92 (by decide)
                show pl _ _ _ (236, [(0, .ref m0), (2, .int 2), (3, .int (nI x)), (4, .int (nI (by2 f p1))), (5, .int (nI p)), (6, .int (nI s3)), (7, .int (nI i)), (8, .int (nI (by4 f (p + 2)))), (10, .int (nI w))], [.int (nI r87)], M50) _
                refine ps_st (S' := (238, [(11, .int (nI r87)), (0, .ref m0), (2, .int 2), (3, .int (nI x)), (4, .int (nI (by2 f p1))), (5, .int (nI p)), (6, .int (nI s3)), (7, .int (nI i)), (8, .int (nI (by4 f (p + 2)))), (10, .int (nI w))], [], M50)) rfl rfl rfl ?_
                refine ps_st (S' := (240, [(11, .int (nI r87)), (0, .ref m0), (2, .int 2), (3, .int (nI x)), (4, .int (nI (by2 f p1))), (5, .int (nI p)), (6, .int (nI s3)), (7, .int (nI i)), (8, .int (nI (by4 f (p + 2)))), (10, .int (nI w))], [.int (nI s3)], M50)) rfl rfl rfl ?_
                refine ps_st (S' := (241, [(11, .int (nI r87)), (0, .ref m0), (2, .int 2), (3, .int (nI x)), (4, .int (nI (by2 f p1))), (5, .int (nI p)), (6, .int (nI s3)), (7, .int (nI i)), (8, .int (nI (by4 f (p + 2)))), (10, .int (nI w))], [.int 1, .int (nI s3)], M50)) rfl rfl rfl ?_
                refine ps_st (S' := (243, [(11, .int (nI r87)), (0, .ref m0), (2, .int 2), (3, .int (nI x)), (4, .int (nI (by2 f p1))), (5, .int (nI p)), (6, .int (nI s3)), (7, .int (nI i)), (8, .int (nI (by4 f (p + 2)))), (10, .int (nI w))], [.int (nI w), .int 1, .int (nI s3)], M50)) rfl rfl rfl ?_
                refine ps_st (S' := (244, [(11, .int (nI r87)), (0, .ref m0), (2, .int 2), (3, .int (nI x)), (4, .int (nI (by2 f p1))), (5, .int (nI p)), (6, .int (nI s3)), (7, .int (nI i)), (8, .int (nI (by4 f (p + 2)))), (10, .int (nI w))], [.int (1 <<< ((nI w) &&& 31)), .int (nI s3)], M50)) rfl rfl rfl ?_
                refine ps_st (S' := (245, [(11, .int (nI r87)), (0, .ref m0), (2, .int 2), (3, .int (nI x)), (4, .int (nI (by2 f p1))), (5, .int (nI p)), (6, .int (nI s3)), (7, .int (nI i)), (8, .int (nI (by4 f (p + 2)))), (10, .int (nI w))], [.int ((nI s3) ||| (1 <<< ((nI w) &&& 31)))], M50)) rfl rfl rfl ?_
                rw [or_k s3 w (by omega)]
                show pl _ _ _ (_, [(11, .int (nI r87)), (0, .ref m0), (2, .int 2), (3, .int (nI x)), (4, .int (nI (by2 f p1))), (5, .int (nI p)), (6, .int (nI s3)), (7, .int (nI i)), (8, .int (nI (by4 f (p + 2)))), (10, .int (nI w))], [.int (nI (so s3 w))], M50) _
                refine ps_st (S' := (247, [(6, .int (nI (so s3 w))), (11, .int (nI r87)), (0, .ref m0), (2, .int 2), (3, .int (nI x)), (4, .int (nI (by2 f p1))), (5, .int (nI p)), (7, .int (nI i)), (8, .int (nI (by4 f (p + 2)))), (10, .int (nI w))], [], M50)) rfl rfl rfl ?_
                refine ps_st (S' := (249, [(6, .int (nI (so s3 w))), (11, .int (nI r87)), (0, .ref m0), (2, .int 2), (3, .int (nI x)), (4, .int (nI (by2 f p1))), (5, .int (nI p)), (7, .int (nI i)), (8, .int (nI (by4 f (p + 2)))), (10, .int (nI w))], [.int (nI r87)], M50)) rfl rfl rfl ?_
                refine ps_if (S1 := (261, [(0, .ref m0), (2, .int 2), (3, .int (nI x)), (4, .int (nI (by2 f p1))), (5, .int (nI p)), (6, .int (nI (so s3 w))), (7, .int (nI i)), (8, .int (nI (by4 f (p + 2)))), (11, .int (nI r87))], [], M50)) (S2 := (252, [(6, .int (nI (so s3 w))), (11, .int (nI r87)), (0, .ref m0), (2, .int 2), (3, .int (nI x)), (4, .int (nI (by2 f p1))), (5, .int (nI p)), (7, .int (nI i)), (8, .int (nI (by4 f (p + 2)))), (10, .int (nI w))], [], M50)) rfl rfl rfl (fun c_249 => ?_) (fun c_249 => ?_)
                · exact absurd (of_decide_eq_true c_249) (show ¬ ((nI r87) ≤ 0) from fun h9 => absurd ((le_nI (p := r87) (n := 0) (by omega) (by decide)).mp h9) (by omega))
                refine ps_st (S' := (253, [(6, .int (nI (so s3 w))), (11, .int (nI r87)), (0, .ref m0), (2, .int 2), (3, .int (nI x)), (4, .int (nI (by2 f p1))), (5, .int (nI p)), (7, .int (nI i)), (8, .int (nI (by4 f (p + 2)))), (10, .int (nI w))], [.ref m0], M50)) rfl rfl rfl ?_
                refine ps_st (S' := (255, [(6, .int (nI (so s3 w))), (11, .int (nI r87)), (0, .ref m0), (2, .int 2), (3, .int (nI x)), (4, .int (nI (by2 f p1))), (5, .int (nI p)), (7, .int (nI i)), (8, .int (nI (by4 f (p + 2)))), (10, .int (nI w))], [.int (nI r87), .ref m0], M50)) rfl rfl rfl ?_
                refine ps_st (S' := (257, [(6, .int (nI (so s3 w))), (11, .int (nI r87)), (0, .ref m0), (2, .int 2), (3, .int (nI x)), (4, .int (nI (by2 f p1))), (5, .int (nI p)), (7, .int (nI i)), (8, .int (nI (by4 f (p + 2)))), (10, .int (nI w))], [.int (nI p), .int (nI r87), .ref m0], M50)) rfl rfl rfl ?_
                refine pl_call (a := [.ref m0, .int (nI r87), .int (nI p)]) (rest := []) rfl rfl rfl (rd_wrong (x1 := (nI r87)) (x2 := (nI p)) hR90) (fun v103 M104 q105 => ?_)
                obtain ⟨I106, R107, rfl, hR108, hI109, hX110, hi111, hi112⟩ := q105
                have hi113 := (hI109 51 (by decide)).trans hi93
                have hi114 := (hI109 52 (by decide)).trans hi94
                have hi115 := (hI109 53 (by decide)).trans hi95
                have hF_116 := hF_96.mono (cIx hI109 (by decide)) (cRx hX110 (by decide))
                have hY_117 := hY_97.mono (cIx hI109 (by decide)) (cRx hX110 (by decide))
                have hP_118 := hP_98.mono (cIx hI109 (by decide)) (cRx hX110 (by decide))
                have hK_119 := hK_99.mono (cIx hI109 (by decide)) (cRx hX110 (by decide))
                have hX_120 := hX_100.mono (cIx hI109 (by decide)) (cRx hX110 (by decide))
                have hEI121 := hEI101.tr hI109 (by decide)
                have hER122 := hER102.tr hX110 (by decide)
                show pl _ _ _ (260, [(6, .int (nI (so s3 w))), (11, .int (nI r87)), (0, .ref m0), (2, .int 2), (3, .int (nI x)), (4, .int (nI (by2 f p1))), (5, .int (nI p)), (7, .int (nI i)), (8, .int (nI (by4 f (p + 2)))), (10, .int (nI w))], [.int 0], M104) _
                refine ps_st (S' := (261, [(0, .ref m0), (2, .int 2), (3, .int (nI x)), (4, .int (nI (by2 f p1))), (5, .int (nI p)), (6, .int (nI (so s3 w))), (7, .int (nI i)), (8, .int (nI (by4 f (p + 2)))), (11, .int (nI r87))], [], M104)) rfl rfl rfl ?_
                refine ps_st (S' := (263, [(0, .ref m0), (2, .int 2), (3, .int (nI x)), (4, .int (nI (by2 f p1))), (5, .int (nI p)), (6, .int (nI (so s3 w))), (7, .int (nI i)), (8, .int (nI (by4 f (p + 2)))), (11, .int (nI r87))], [.int (nI r87)], M104)) rfl rfl rfl ?_
                refine ps_if (S1 := (268, [(0, .ref m0), (2, .int 2), (3, .int (nI x)), (4, .int (nI (by2 f p1))), (5, .int (nI p)), (6, .int (nI (so s3 w))), (7, .int (nI i)), (8, .int (nI (by4 f (p + 2))))], [], M104)) (S2 := (266, [(0, .ref m0), (2, .int 2), (3, .int (nI x)), (4, .int (nI (by2 f p1))), (5, .int (nI p)), (6, .int (nI (so s3 w))), (7, .int (nI i)), (8, .int (nI (by4 f (p + 2)))), (11, .int (nI r87))], [], M104)) rfl rfl rfl (fun c_263 => ?_) (fun c_263 => ?_)
                · exact absurd (of_decide_eq_true c_263) (show ¬ ((nI r87) = 0) from fun h9 => absurd ((eq_nI (p := r87) (n := 0) (by omega) (by decide)).mp h9) (by omega))
                refine ps_st (S' := (267, [(0, .ref m0), (2, .int 2), (3, .int (nI x)), (4, .int (nI (by2 f p1))), (5, .int (nI p)), (6, .int (nI (so s3 w))), (7, .int (nI i)), (8, .int (nI (by4 f (p + 2)))), (11, .int (nI r87))], [.int (-1)], M104)) rfl rfl rfl ?_
                exact ps_ret rfl rfl (Or.inl ⟨(r87, p), I106, R107, by
                    rw [← hs9, maS_kb (i := i) (p := p) (s := s2) hi0 h1 hsm hw2 hs0 hb.2.2 q233_s q233_b], rfl, hR108, hEI121, hER122, hi111, hi112⟩)
              · skip
                obtain ⟨e9123, I124, R125, q233_s, q233_b, rfl, hR126, hI127, hX128, hi129, hi130⟩ := q51
                have hi131 := (hI127 51 (by decide)).trans hl51
                have hi132 := (hI127 52 (by decide)).trans hl52
                have hi133 := (hI127 53 (by decide)).trans hl53
                have hF_134 := hF_42.mono (cIx hI127 (by decide)) (cRx hX128 (by decide))
                have hY_135 := hY_43.mono (cIx hI127 (by decide)) (cRx hX128 (by decide))
                have hP_136 := hP_44.mono (cIx hI127 (by decide)) (cRx hX128 (by decide))
                have hK_137 := hK_45.mono (cIx hI127 (by decide)) (cRx hX128 (by decide))
                have hX_138 := hX_46.mono (cIx hI127 (by decide)) (cRx hX128 (by decide))
                have hEI139 := hEI1.tr hI127 (by decide)
                have hER140 := hER48.tr hX128 (by decide)
                show pl _ _ _ (236, [(0, .ref m0), (2, .int 2), (3, .int (nI x)), (4, .int (nI (by2 f p1))), (5, .int (nI p)), (6, .int (nI s3)), (7, .int (nI i)), (8, .int (nI (by4 f (p + 2)))), (10, .int (nI w))], [.int (-1)], M50) _
                refine ps_st (S' := (238, [(11, .int (-1)), (0, .ref m0), (2, .int 2), (3, .int (nI x)), (4, .int (nI (by2 f p1))), (5, .int (nI p)), (6, .int (nI s3)), (7, .int (nI i)), (8, .int (nI (by4 f (p + 2)))), (10, .int (nI w))], [], M50)) rfl rfl rfl ?_
                refine ps_st (S' := (240, [(11, .int (-1)), (0, .ref m0), (2, .int 2), (3, .int (nI x)), (4, .int (nI (by2 f p1))), (5, .int (nI p)), (6, .int (nI s3)), (7, .int (nI i)), (8, .int (nI (by4 f (p + 2)))), (10, .int (nI w))], [.int (nI s3)], M50)) rfl rfl rfl ?_
                refine ps_st (S' := (241, [(11, .int (-1)), (0, .ref m0), (2, .int 2), (3, .int (nI x)), (4, .int (nI (by2 f p1))), (5, .int (nI p)), (6, .int (nI s3)), (7, .int (nI i)), (8, .int (nI (by4 f (p + 2)))), (10, .int (nI w))], [.int 1, .int (nI s3)], M50)) rfl rfl rfl ?_
                refine ps_st (S' := (243, [(11, .int (-1)), (0, .ref m0), (2, .int 2), (3, .int (nI x)), (4, .int (nI (by2 f p1))), (5, .int (nI p)), (6, .int (nI s3)), (7, .int (nI i)), (8, .int (nI (by4 f (p + 2)))), (10, .int (nI w))], [.int (nI w), .int 1, .int (nI s3)], M50)) rfl rfl rfl ?_
                refine ps_st (S' := (244, [(11, .int (-1)), (0, .ref m0), (2, .int 2), (3, .int (nI x)), (4, .int (nI (by2 f p1))), (5, .int (nI p)), (6, .int (nI s3)), (7, .int (nI i)), (8, .int (nI (by4 f (p + 2)))), (10, .int (nI w))], [.int (1 <<< ((nI w) &&& 31)), .int (nI s3)], M50)) rfl rfl rfl ?_
                refine ps_st (S' := (245, [(11, .int (-1)), (0, .ref m0), (2, .int 2), (3, .int (nI x)), (4, .int (nI (by2 f p1))), (5, .int (nI p)), (6, .int (nI s3)), (7, .int (nI i)), (8, .int (nI (by4 f (p + 2)))), (10, .int (nI w))], [.int ((nI s3) ||| (1 <<< ((nI w) &&& 31)))], M50)) rfl rfl rfl ?_
                rw [or_k s3 w (by omega)]
                show pl _ _ _ (_, [(11, .int (-1)), (0, .ref m0), (2, .int 2), (3, .int (nI x)), (4, .int (nI (by2 f p1))), (5, .int (nI p)), (6, .int (nI s3)), (7, .int (nI i)), (8, .int (nI (by4 f (p + 2)))), (10, .int (nI w))], [.int (nI (so s3 w))], M50) _
                refine ps_st (S' := (247, [(6, .int (nI (so s3 w))), (11, .int (-1)), (0, .ref m0), (2, .int 2), (3, .int (nI x)), (4, .int (nI (by2 f p1))), (5, .int (nI p)), (7, .int (nI i)), (8, .int (nI (by4 f (p + 2)))), (10, .int (nI w))], [], M50)) rfl rfl rfl ?_
                refine ps_st (S' := (249, [(6, .int (nI (so s3 w))), (11, .int (-1)), (0, .ref m0), (2, .int 2), (3, .int (nI x)), (4, .int (nI (by2 f p1))), (5, .int (nI p)), (7, .int (nI i)), (8, .int (nI (by4 f (p + 2)))), (10, .int (nI w))], [.int (-1)], M50)) rfl rfl rfl ?_
                refine ps_if (S1 := (261, [(0, .ref m0), (2, .int 2), (3, .int (nI x)), (4, .int (nI (by2 f p1))), (5, .int (nI p)), (6, .int (nI (so s3 w))), (7, .int (nI i)), (8, .int (nI (by4 f (p + 2)))), (11, .int (-1))], [], M50)) (S2 := (252, [(6, .int (nI (so s3 w))), (11, .int (-1)), (0, .ref m0), (2, .int 2), (3, .int (nI x)), (4, .int (nI (by2 f p1))), (5, .int (nI p)), (7, .int (nI i)), (8, .int (nI (by4 f (p + 2)))), (10, .int (nI w))], [], M50)) rfl rfl rfl (fun c_249 => ?_) (fun c_249 => ?_)
                rotate_left
                · exact absurd (by decide) (of_decide_eq_false c_249)
                refine ps_st (S' := (263, [(0, .ref m0), (2, .int 2), (3, .int (nI x)), (4, .int (nI (by2 f p1))), (5, .int (nI p)), (6, .int (nI (so s3 w))), (7, .int (nI i)), (8, .int (nI (by4 f (p + 2)))), (11, .int (-1))], [.int (-1)], M50)) rfl rfl rfl ?_
                refine ps_if (S1 := (268, [(0, .ref m0), (2, .int 2), (3, .int (nI x)), (4, .int (nI (by2 f p1))), (5, .int (nI p)), (6, .int (nI (so s3 w))), (7, .int (nI i)), (8, .int (nI (by4 f (p + 2))))], [], M50)) (S2 := (266, [(0, .ref m0), (2, .int 2), (3, .int (nI x)), (4, .int (nI (by2 f p1))), (5, .int (nI p)), (6, .int (nI (so s3 w))), (7, .int (nI i)), (8, .int (nI (by4 f (p + 2)))), (11, .int (-1))], [], M50)) rfl rfl rfl (fun c_263 => ?_) (fun c_263 => ?_)
                · exact absurd (of_decide_eq_true c_263) (by decide)
                refine ps_st (S' := (267, [(0, .ref m0), (2, .int 2), (3, .int (nI x)), (4, .int (nI (by2 f p1))), (5, .int (nI p)), (6, .int (nI (so s3 w))), (7, .int (nI i)), (8, .int (nI (by4 f (p + 2)))), (11, .int (-1))], [.int (-1)], M50)) rfl rfl rfl ?_
                exact ps_ret rfl rfl (Or.inl ⟨e9123, I124, R125, by
                    rw [← hs9, maS_kb (i := i) (p := p) (s := s2) hi0 h1 hsm hw2 hs0 hb.2.2 q233_s q233_b], rfl, hR126, hEI139, hER140, hi129, hi130⟩)
              · skip
                obtain ⟨s'141, I142, R143, q233_s, q233_b, rfl, hR144, hI145, hX146, hC_147⟩ := q51
                have hi148 := (hI145 51 (by decide)).trans hl51
                have hi149 := (hI145 52 (by decide)).trans hl52
                have hi150 := (hI145 53 (by decide)).trans hl53
                have hF_151 := hF_42.mono (cIx hI145 (by decide)) (cRx hX146 (by decide))
                have hY_152 := hY_43.mono (cIx hI145 (by decide)) (cRx hX146 (by decide))
                have hP_153 := hP_44.mono (cIx hI145 (by decide)) (cRx hX146 (by decide))
                have hK_154 := hK_45.mono (cIx hI145 (by decide)) (cRx hX146 (by decide))
                have hX_155 := hX_46.mono (cIx hI145 (by decide)) (cRx hX146 (by decide))
                have hEI156 := hEI1.tr hI145 (by decide)
                have hER157 := hER48.tr hX146 (by decide)
                show pl _ _ _ (236, [(0, .ref m0), (2, .int 2), (3, .int (nI x)), (4, .int (nI (by2 f p1))), (5, .int (nI p)), (6, .int (nI s3)), (7, .int (nI i)), (8, .int (nI (by4 f (p + 2)))), (10, .int (nI w))], [.int 0], M50) _
                refine ps_st (S' := (238, [(11, .int 0), (0, .ref m0), (2, .int 2), (3, .int (nI x)), (4, .int (nI (by2 f p1))), (5, .int (nI p)), (6, .int (nI s3)), (7, .int (nI i)), (8, .int (nI (by4 f (p + 2)))), (10, .int (nI w))], [], M50)) rfl rfl rfl ?_
                refine ps_st (S' := (240, [(11, .int 0), (0, .ref m0), (2, .int 2), (3, .int (nI x)), (4, .int (nI (by2 f p1))), (5, .int (nI p)), (6, .int (nI s3)), (7, .int (nI i)), (8, .int (nI (by4 f (p + 2)))), (10, .int (nI w))], [.int (nI s3)], M50)) rfl rfl rfl ?_
                refine ps_st (S' := (241, [(11, .int 0), (0, .ref m0), (2, .int 2), (3, .int (nI x)), (4, .int (nI (by2 f p1))), (5, .int (nI p)), (6, .int (nI s3)), (7, .int (nI i)), (8, .int (nI (by4 f (p + 2)))), (10, .int (nI w))], [.int 1, .int (nI s3)], M50)) rfl rfl rfl ?_
                refine ps_st (S' := (243, [(11, .int 0), (0, .ref m0), (2, .int 2), (3, .int (nI x)), (4, .int (nI (by2 f p1))), (5, .int (nI p)), (6, .int (nI s3)), (7, .int (nI i)), (8, .int (nI (by4 f (p + 2)))), (10, .int (nI w))], [.int (nI w), .int 1, .int (nI s3)], M50)) rfl rfl rfl ?_
                refine ps_st (S' := (244, [(11, .int 0), (0, .ref m0), (2, .int 2), (3, .int (nI x)), (4, .int (nI (by2 f p1))), (5, .int (nI p)), (6, .int (nI s3)), (7, .int (nI i)), (8, .int (nI (by4 f (p + 2)))), (10, .int (nI w))], [.int (1 <<< ((nI w) &&& 31)), .int (nI s3)], M50)) rfl rfl rfl ?_
                refine ps_st (S' := (245, [(11, .int 0), (0, .ref m0), (2, .int 2), (3, .int (nI x)), (4, .int (nI (by2 f p1))), (5, .int (nI p)), (6, .int (nI s3)), (7, .int (nI i)), (8, .int (nI (by4 f (p + 2)))), (10, .int (nI w))], [.int ((nI s3) ||| (1 <<< ((nI w) &&& 31)))], M50)) rfl rfl rfl ?_
                rw [or_k s3 w (by omega)]
                show pl _ _ _ (_, [(11, .int 0), (0, .ref m0), (2, .int 2), (3, .int (nI x)), (4, .int (nI (by2 f p1))), (5, .int (nI p)), (6, .int (nI s3)), (7, .int (nI i)), (8, .int (nI (by4 f (p + 2)))), (10, .int (nI w))], [.int (nI (so s3 w))], M50) _
                refine ps_st (S' := (247, [(6, .int (nI (so s3 w))), (11, .int 0), (0, .ref m0), (2, .int 2), (3, .int (nI x)), (4, .int (nI (by2 f p1))), (5, .int (nI p)), (7, .int (nI i)), (8, .int (nI (by4 f (p + 2)))), (10, .int (nI w))], [], M50)) rfl rfl rfl ?_
                refine ps_st (S' := (249, [(6, .int (nI (so s3 w))), (11, .int 0), (0, .ref m0), (2, .int 2), (3, .int (nI x)), (4, .int (nI (by2 f p1))), (5, .int (nI p)), (7, .int (nI i)), (8, .int (nI (by4 f (p + 2)))), (10, .int (nI w))], [.int 0], M50)) rfl rfl rfl ?_
                refine ps_if (S1 := (261, [(0, .ref m0), (2, .int 2), (3, .int (nI x)), (4, .int (nI (by2 f p1))), (5, .int (nI p)), (6, .int (nI (so s3 w))), (7, .int (nI i)), (8, .int (nI (by4 f (p + 2)))), (11, .int 0)], [], M50)) (S2 := (252, [(6, .int (nI (so s3 w))), (11, .int 0), (0, .ref m0), (2, .int 2), (3, .int (nI x)), (4, .int (nI (by2 f p1))), (5, .int (nI p)), (7, .int (nI i)), (8, .int (nI (by4 f (p + 2)))), (10, .int (nI w))], [], M50)) rfl rfl rfl (fun c_249 => ?_) (fun c_249 => ?_)
                rotate_left
                · exact absurd (by decide) (of_decide_eq_false c_249)
                refine ps_st (S' := (263, [(0, .ref m0), (2, .int 2), (3, .int (nI x)), (4, .int (nI (by2 f p1))), (5, .int (nI p)), (6, .int (nI (so s3 w))), (7, .int (nI i)), (8, .int (nI (by4 f (p + 2)))), (11, .int 0)], [.int 0], M50)) rfl rfl rfl ?_
                refine ps_if (S1 := (268, [(0, .ref m0), (2, .int 2), (3, .int (nI x)), (4, .int (nI (by2 f p1))), (5, .int (nI p)), (6, .int (nI (so s3 w))), (7, .int (nI i)), (8, .int (nI (by4 f (p + 2))))], [], M50)) (S2 := (266, [(0, .ref m0), (2, .int 2), (3, .int (nI x)), (4, .int (nI (by2 f p1))), (5, .int (nI p)), (6, .int (nI (so s3 w))), (7, .int (nI i)), (8, .int (nI (by4 f (p + 2)))), (11, .int 0)], [], M50)) rfl rfl rfl (fun c_263 => ?_) (fun c_263 => ?_)
                rotate_left
                · exact absurd (by decide) (of_decide_eq_false c_263)
                refine ps_st (S' := (270, [(0, .ref m0), (2, .int 2), (3, .int (nI x)), (4, .int (nI (by2 f p1))), (5, .int (nI p)), (6, .int (nI (so s3 w))), (7, .int (nI i)), (8, .int (nI (by4 f (p + 2))))], [.int (nI p)], M50)) rfl rfl rfl ?_
                refine ps_st (S' := (272, [(0, .ref m0), (2, .int 2), (3, .int (nI x)), (4, .int (nI (by2 f p1))), (5, .int (nI p)), (6, .int (nI (so s3 w))), (7, .int (nI i)), (8, .int (nI (by4 f (p + 2))))], [.int 6, .int (nI p)], M50)) rfl rfl rfl ?_
                refine ps_st (S' := (274, [(0, .ref m0), (2, .int 2), (3, .int (nI x)), (4, .int (nI (by2 f p1))), (5, .int (nI p)), (6, .int (nI (so s3 w))), (7, .int (nI i)), (8, .int (nI (by4 f (p + 2))))], [.int (nI (by4 f (p + 2))), .int 6, .int (nI p)], M50)) rfl rfl rfl ?_
                refine ps_st (S' := (275, [(0, .ref m0), (2, .int 2), (3, .int (nI x)), (4, .int (nI (by2 f p1))), (5, .int (nI p)), (6, .int (nI (so s3 w))), (7, .int (nI i)), (8, .int (nI (by4 f (p + 2))))], [.int (6 + (nI (by4 f (p + 2)))), .int (nI p)], M50)) rfl rfl rfl ?_
                rw [nI_add2 (p := 6) (k := by4 f (p + 2)) (x := 6) (y := (nI (by4 f (p + 2)))) rfl rfl (by omega)]
                show pl _ _ _ (_, [(0, .ref m0), (2, .int 2), (3, .int (nI x)), (4, .int (nI (by2 f p1))), (5, .int (nI p)), (6, .int (nI (so s3 w))), (7, .int (nI i)), (8, .int (nI (by4 f (p + 2))))], [.int (nI (6 + by4 f (p + 2))), .int (nI p)], M50) _
                refine ps_st (S' := (276, [(0, .ref m0), (2, .int 2), (3, .int (nI x)), (4, .int (nI (by2 f p1))), (5, .int (nI p)), (6, .int (nI (so s3 w))), (7, .int (nI i)), (8, .int (nI (by4 f (p + 2))))], [.int ((nI p) + (nI (6 + by4 f (p + 2))))], M50)) rfl rfl rfl ?_
                rw [nI_add1 (p := p) (k := 6 + by4 f (p + 2)) (x := (nI (6 + by4 f (p + 2)))) rfl (by omega)]
                rw [show nI (p + (6 + by4 f (p + 2))) = nI (p + 6 + by4 f (p + 2)) from congrArg nI (by omega)]
                show pl _ _ _ (_, [(0, .ref m0), (2, .int 2), (3, .int (nI x)), (4, .int (nI (by2 f p1))), (5, .int (nI p)), (6, .int (nI (so s3 w))), (7, .int (nI i)), (8, .int (nI (by4 f (p + 2))))], [.int (nI (p + 6 + by4 f (p + 2)))], M50) _
                refine ps_st (S' := (278, [(5, .int (nI (p + 6 + by4 f (p + 2)))), (0, .ref m0), (2, .int 2), (3, .int (nI x)), (4, .int (nI (by2 f p1))), (6, .int (nI (so s3 w))), (7, .int (nI i)), (8, .int (nI (by4 f (p + 2))))], [], M50)) rfl rfl rfl ?_
                refine ps_st (S' := (281, [(7, .int ((nI i) + 1)), (5, .int (nI (p + 6 + by4 f (p + 2)))), (0, .ref m0), (2, .int 2), (3, .int (nI x)), (4, .int (nI (by2 f p1))), (6, .int (nI (so s3 w))), (8, .int (nI (by4 f (p + 2))))], [], M50)) rfl rfl rfl ?_
                rw [nI_add1 (p := i) (k := 1) (x := 1) rfl (by omega)]
                show pl _ _ _ (_, [(7, .int (nI (i + 1))), (5, .int (nI (p + 6 + by4 f (p + 2)))), (0, .ref m0), (2, .int 2), (3, .int (nI x)), (4, .int (nI (by2 f p1))), (6, .int (nI (so s3 w))), (8, .int (nI (by4 f (p + 2))))], [], M50) _
                refine ps_st (S' := (18, [(0, .ref m0), (2, .int 2), (3, .int (nI x)), (4, .int (nI (by2 f p1))), (5, .int (nI (p + 6 + by4 f (p + 2)))), (6, .int (nI (so s3 w))), (7, .int (nI (i + 1)))], [], M50)) rfl rfl rfl ?_
                obtain ⟨s4, e4, f4, g4⟩ := maS_kg (i := i) (p := p) (s := s2) hi0 h1 hsm hw2 hs0 hb.2.2 q233_s q233_b
                exact ih.1 (i + 1) (p + 6 + by4 f (p + 2)) (s4) (so s3 w) (if w = 1 then 1 else h) M50 I142 R143 hR144 hEI156 hER157 hi148 hi149 hi150 hF_151 hY_152 hP_153 hK_154 hX_155 hC_147 (by omega) (so_lt hl (by omega)) (mk_b hw2 hb f4 g4) (hq7) (by rw [← hs9, e4])
            · have c_198 : ¬ (¬ (nI (sb s3 w)) = 1) := of_decide_eq_false c_198
              have n_198 : sb s3 w = 1 := (eq_nI (p := sb s3 w) (n := 1) (Nat.lt_trans (sb_lt _ _) (by decide)) (by decide)).mp (Decidable.not_not.mp c_198)
              refine ps_st (S' := (202, [(0, .ref m0), (2, .int 2), (3, .int (nI x)), (4, .int (nI (by2 f p1))), (5, .int (nI p)), (6, .int (nI s3)), (7, .int (nI i)), (8, .int (nI (by4 f (p + 2)))), (10, .int (nI w))], [.ref m0], M38)) rfl rfl rfl ?_
              refine ps_st (S' := (204, [(0, .ref m0), (2, .int 2), (3, .int (nI x)), (4, .int (nI (by2 f p1))), (5, .int (nI p)), (6, .int (nI s3)), (7, .int (nI i)), (8, .int (nI (by4 f (p + 2)))), (10, .int (nI w))], [.int 29, .ref m0], M38)) rfl rfl rfl ?_
              refine ps_st (S' := (206, [(0, .ref m0), (2, .int 2), (3, .int (nI x)), (4, .int (nI (by2 f p1))), (5, .int (nI p)), (6, .int (nI s3)), (7, .int (nI i)), (8, .int (nI (by4 f (p + 2)))), (10, .int (nI w))], [.int (nI p), .int 29, .ref m0], M38)) rfl rfl rfl ?_
              refine pl_call (a := [.ref m0, .int 29, .int (nI p)]) (rest := []) rfl rfl rfl (rd_wrong (x1 := 29) (x2 := (nI p)) hR40) (fun v158 M159 q160 => ?_)
              obtain ⟨I161, R162, rfl, hR163, hI164, hX165, hi166, hi167⟩ := q160
              have hi168 := (hI164 51 (by decide)).trans hl51
              have hi169 := (hI164 52 (by decide)).trans hl52
              have hi170 := (hI164 53 (by decide)).trans hl53
              have hF_171 := hF_42.mono (cIx hI164 (by decide)) (cRx hX165 (by decide))
              have hY_172 := hY_43.mono (cIx hI164 (by decide)) (cRx hX165 (by decide))
              have hP_173 := hP_44.mono (cIx hI164 (by decide)) (cRx hX165 (by decide))
              have hK_174 := hK_45.mono (cIx hI164 (by decide)) (cRx hX165 (by decide))
              have hX_175 := hX_46.mono (cIx hI164 (by decide)) (cRx hX165 (by decide))
              have hC_176 := hC_47.mono (cIx hI164 (by decide)) (cRx hX165 (by decide))
              have hEI177 := hEI1.tr hI164 (by decide)
              have hER178 := hER48.tr hX165 (by decide)
              show pl _ _ _ (209, [(0, .ref m0), (2, .int 2), (3, .int (nI x)), (4, .int (nI (by2 f p1))), (5, .int (nI p)), (6, .int (nI s3)), (7, .int (nI i)), (8, .int (nI (by4 f (p + 2)))), (10, .int (nI w))], [.int 0], M159) _
              refine ps_st (S' := (210, [(0, .ref m0), (2, .int 2), (3, .int (nI x)), (4, .int (nI (by2 f p1))), (5, .int (nI p)), (6, .int (nI s3)), (7, .int (nI i)), (8, .int (nI (by4 f (p + 2)))), (10, .int (nI w))], [], M159)) rfl rfl rfl ?_
              refine ps_st (S' := (211, [(0, .ref m0), (2, .int 2), (3, .int (nI x)), (4, .int (nI (by2 f p1))), (5, .int (nI p)), (6, .int (nI s3)), (7, .int (nI i)), (8, .int (nI (by4 f (p + 2)))), (10, .int (nI w))], [.int (-1)], M159)) rfl rfl rfl ?_
              exact ps_ret rfl rfl (Or.inl ⟨(29, p), I161, R162, by
                  rw [← hs9, maS_29 (i := i) (p := p) (s := s2) hi0 h1 hsm (by omega)], rfl, hR163, hEI177, hER178, hi166, hi167⟩)
        · have c_86 : ¬ ((nI 10) ≤ (nI k)) := of_decide_eq_false c_86
          have n_86 : ¬ (10 ≤ k) := fun h9 => c_86 ((le_nI (p := 10) (n := k) (by decide) (by omega)).mpr h9)
          refine ps_st (S' := (90, [(0, .ref m0), (2, .int 2), (3, .int (nI x)), (4, .int (nI (by2 f p1))), (5, .int (nI p)), (6, .int (nI s3)), (7, .int (nI i)), (8, .int (nI (by4 f (p + 2)))), (9, .int (nI t)), (10, .int (gI (kb mj 2 (tX f n E (by2 f p)) k))), (11, .int (nI k))], [.ref m0], M1)) rfl rfl rfl ?_
          refine pr_ref (j := 63) (S' := (93, [(0, .ref m0), (2, .int 2), (3, .int (nI x)), (4, .int (nI (by2 f p1))), (5, .int (nI p)), (6, .int (nI s3)), (7, .int (nI i)), (8, .int (nI (by4 f (p + 2)))), (9, .int (nI t)), (10, .int (gI (kb mj 2 (tX f n E (by2 f p)) k))), (11, .int (nI k))], [.ref (q 63)], M1)) rfl hR1 rfl rfl ?_
          refine ps_st (S' := (95, [(0, .ref m0), (2, .int 2), (3, .int (nI x)), (4, .int (nI (by2 f p1))), (5, .int (nI p)), (6, .int (nI s3)), (7, .int (nI i)), (8, .int (nI (by4 f (p + 2)))), (9, .int (nI t)), (10, .int (gI (kb mj 2 (tX f n E (by2 f p)) k))), (11, .int (nI k))], [.int (nI k), .ref (q 63)], M1)) rfl rfl rfl ?_
          have hki_95 := kiN_lt k
          refine pr_ld (a := 63) (j := k) (y := (nI (kiN k))) (S' := (96, [(0, .ref m0), (2, .int 2), (3, .int (nI x)), (4, .int (nI (by2 f p1))), (5, .int (nI p)), (6, .int (nI s3)), (7, .int (nI i)), (8, .int (nI (by4 f (p + 2)))), (9, .int (nI t)), (10, .int (gI (kb mj 2 (tX f n E (by2 f p)) k))), (11, .int (nI k))], [.int (nI (kiN k))], M1)) rfl hR1 rfl (by omega) (fun _ => (hK1 k (by omega)).1) rfl (fun i1_95 => ?_)
          refine ps_st (S' := (97, [(0, .ref m0), (2, .int 2), (3, .int (nI x)), (4, .int (nI (by2 f p1))), (5, .int (nI p)), (6, .int (nI s3)), (7, .int (nI i)), (8, .int (nI (by4 f (p + 2)))), (9, .int (nI t)), (10, .int (gI (kb mj 2 (tX f n E (by2 f p)) k))), (11, .int (nI k))], [.int 2, .int (nI (kiN k))], M1)) rfl rfl rfl ?_
          refine ps_if2 (S1 := (134, [(0, .ref m0), (2, .int 2), (3, .int (nI x)), (4, .int (nI (by2 f p1))), (5, .int (nI p)), (6, .int (nI s3)), (7, .int (nI i)), (8, .int (nI (by4 f (p + 2)))), (9, .int (nI t)), (10, .int (gI (kb mj 2 (tX f n E (by2 f p)) k))), (11, .int (nI k))], [], M1)) (S2 := (100, [(0, .ref m0), (2, .int 2), (3, .int (nI x)), (4, .int (nI (by2 f p1))), (5, .int (nI p)), (6, .int (nI s3)), (7, .int (nI i)), (8, .int (nI (by4 f (p + 2)))), (9, .int (nI t)), (10, .int (gI (kb mj 2 (tX f n E (by2 f p)) k))), (11, .int (nI k))], [], M1)) rfl rfl rfl (fun c_97 => ?_) (fun c_97 => ?_)
          · have c_97 : ¬ (nI (kiN k)) = 2 := of_decide_eq_true c_97
            have n_97 : ¬ (kiN k = 2) := fun h9 => c_97 ((eq_nI (p := kiN k) (n := 2) (Nat.lt_trans (kiN_lt _) (by decide)) (by decide)).mpr h9)
            refine ps_st (S' := (137, [(11, .int ((nI k) + 1)), (0, .ref m0), (2, .int 2), (3, .int (nI x)), (4, .int (nI (by2 f p1))), (5, .int (nI p)), (6, .int (nI s3)), (7, .int (nI i)), (8, .int (nI (by4 f (p + 2)))), (9, .int (nI t)), (10, .int (gI (kb mj 2 (tX f n E (by2 f p)) k)))], [], M1)) rfl rfl rfl ?_
            rw [nI_add1 (p := k) (k := 1) (x := 1) rfl (by omega)]
            show pl _ _ _ (_, [(11, .int (nI (k + 1))), (0, .ref m0), (2, .int 2), (3, .int (nI x)), (4, .int (nI (by2 f p1))), (5, .int (nI p)), (6, .int (nI s3)), (7, .int (nI i)), (8, .int (nI (by4 f (p + 2)))), (9, .int (nI t)), (10, .int (gI (kb mj 2 (tX f n E (by2 f p)) k)))], [], M1) _
            refine ps_st (S' := (79, [(0, .ref m0), (2, .int 2), (3, .int (nI x)), (4, .int (nI (by2 f p1))), (5, .int (nI p)), (6, .int (nI s3)), (7, .int (nI i)), (8, .int (nI (by4 f (p + 2)))), (9, .int (nI t)), (10, .int (gI (kb mj 2 (tX f n E (by2 f p)) k))), (11, .int (nI (k + 1)))], [], M1)) rfl rfl rfl ?_
            have hkb : (gI (kb mj 2 (tX f n E (by2 f p)) k)) = gI (kb mj 2 (tX f n E (by2 f p)) (k + 1)) := by
              conv => rhs; unfold kb
              rw [if_neg (by omega)]
            rw [hkb]
            exact ih.2 (i) (p) (s2) (s3) (k + 1) (t) (h) M1 I1 R1 hR1 hEI1 hER1 hl51 hl52 hl53 hF1 hY1 hP1 hK1 hX1 hC1 (hi0) (hl) (hb) (ha) (hs9) (by omega) (h1) (hsy)
          · have c_97 : ¬ (¬ (nI (kiN k)) = 2) := of_decide_eq_false c_97
            have n_97 : kiN k = 2 := (eq_nI (p := kiN k) (n := 2) (Nat.lt_trans (kiN_lt _) (by decide)) (by decide)).mp (Decidable.not_not.mp c_97)
            refine ps_st (S' := (101, [(0, .ref m0), (2, .int 2), (3, .int (nI x)), (4, .int (nI (by2 f p1))), (5, .int (nI p)), (6, .int (nI s3)), (7, .int (nI i)), (8, .int (nI (by4 f (p + 2)))), (9, .int (nI t)), (10, .int (gI (kb mj 2 (tX f n E (by2 f p)) k))), (11, .int (nI k))], [.ref m0], M1)) rfl rfl rfl ?_
            refine pr_int (j := 53) (S' := (104, [(0, .ref m0), (2, .int 2), (3, .int (nI x)), (4, .int (nI (by2 f p1))), (5, .int (nI p)), (6, .int (nI s3)), (7, .int (nI i)), (8, .int (nI (by4 f (p + 2)))), (9, .int (nI t)), (10, .int (gI (kb mj 2 (tX f n E (by2 f p)) k))), (11, .int (nI k))], [.int (nI mj)], M1)) rfl hR1 rfl hl53 rfl ?_
            refine ps_st (S' := (105, [(0, .ref m0), (2, .int 2), (3, .int (nI x)), (4, .int (nI (by2 f p1))), (5, .int (nI p)), (6, .int (nI s3)), (7, .int (nI i)), (8, .int (nI (by4 f (p + 2)))), (9, .int (nI t)), (10, .int (gI (kb mj 2 (tX f n E (by2 f p)) k))), (11, .int (nI k))], [.ref m0, .int (nI mj)], M1)) rfl rfl rfl ?_
            refine pr_ref (j := 64) (S' := (108, [(0, .ref m0), (2, .int 2), (3, .int (nI x)), (4, .int (nI (by2 f p1))), (5, .int (nI p)), (6, .int (nI s3)), (7, .int (nI i)), (8, .int (nI (by4 f (p + 2)))), (9, .int (nI t)), (10, .int (gI (kb mj 2 (tX f n E (by2 f p)) k))), (11, .int (nI k))], [.ref (q 64), .int (nI mj)], M1)) rfl hR1 rfl rfl ?_
            refine ps_st (S' := (110, [(0, .ref m0), (2, .int 2), (3, .int (nI x)), (4, .int (nI (by2 f p1))), (5, .int (nI p)), (6, .int (nI s3)), (7, .int (nI i)), (8, .int (nI (by4 f (p + 2)))), (9, .int (nI t)), (10, .int (gI (kb mj 2 (tX f n E (by2 f p)) k))), (11, .int (nI k))], [.int (nI k), .ref (q 64), .int (nI mj)], M1)) rfl rfl rfl ?_
            have hkf_110 := kfN_lt k
            refine pr_ld (a := 64) (j := k) (y := (nI (kfN k))) (S' := (111, [(0, .ref m0), (2, .int 2), (3, .int (nI x)), (4, .int (nI (by2 f p1))), (5, .int (nI p)), (6, .int (nI s3)), (7, .int (nI i)), (8, .int (nI (by4 f (p + 2)))), (9, .int (nI t)), (10, .int (gI (kb mj 2 (tX f n E (by2 f p)) k))), (11, .int (nI k))], [.int (nI (kfN k)), .int (nI mj)], M1)) rfl hR1 rfl (by omega) (fun _ => (hK1 k (by omega)).2) rfl (fun i1_110 => ?_)
            refine ps_if2 (S1 := (134, [(0, .ref m0), (2, .int 2), (3, .int (nI x)), (4, .int (nI (by2 f p1))), (5, .int (nI p)), (6, .int (nI s3)), (7, .int (nI i)), (8, .int (nI (by4 f (p + 2)))), (9, .int (nI t)), (10, .int (gI (kb mj 2 (tX f n E (by2 f p)) k))), (11, .int (nI k))], [], M1)) (S2 := (114, [(0, .ref m0), (2, .int 2), (3, .int (nI x)), (4, .int (nI (by2 f p1))), (5, .int (nI p)), (6, .int (nI s3)), (7, .int (nI i)), (8, .int (nI (by4 f (p + 2)))), (9, .int (nI t)), (10, .int (gI (kb mj 2 (tX f n E (by2 f p)) k))), (11, .int (nI k))], [], M1)) rfl rfl rfl (fun c_111 => ?_) (fun c_111 => ?_)
            · have c_111 : (nI mj) < (nI (kfN k)) := of_decide_eq_true c_111
              have n_111 : mj < kfN k := (lt_nI (p := mj) (n := kfN k) (by omega) (Nat.lt_trans (kfN_lt _) (by decide))).mp c_111
              refine ps_st (S' := (137, [(11, .int ((nI k) + 1)), (0, .ref m0), (2, .int 2), (3, .int (nI x)), (4, .int (nI (by2 f p1))), (5, .int (nI p)), (6, .int (nI s3)), (7, .int (nI i)), (8, .int (nI (by4 f (p + 2)))), (9, .int (nI t)), (10, .int (gI (kb mj 2 (tX f n E (by2 f p)) k)))], [], M1)) rfl rfl rfl ?_
              rw [nI_add1 (p := k) (k := 1) (x := 1) rfl (by omega)]
              show pl _ _ _ (_, [(11, .int (nI (k + 1))), (0, .ref m0), (2, .int 2), (3, .int (nI x)), (4, .int (nI (by2 f p1))), (5, .int (nI p)), (6, .int (nI s3)), (7, .int (nI i)), (8, .int (nI (by4 f (p + 2)))), (9, .int (nI t)), (10, .int (gI (kb mj 2 (tX f n E (by2 f p)) k)))], [], M1) _
              refine ps_st (S' := (79, [(0, .ref m0), (2, .int 2), (3, .int (nI x)), (4, .int (nI (by2 f p1))), (5, .int (nI p)), (6, .int (nI s3)), (7, .int (nI i)), (8, .int (nI (by4 f (p + 2)))), (9, .int (nI t)), (10, .int (gI (kb mj 2 (tX f n E (by2 f p)) k))), (11, .int (nI (k + 1)))], [], M1)) rfl rfl rfl ?_
              have hkb : (gI (kb mj 2 (tX f n E (by2 f p)) k)) = gI (kb mj 2 (tX f n E (by2 f p)) (k + 1)) := by
                conv => rhs; unfold kb
                rw [if_neg (by omega)]
              rw [hkb]
              exact ih.2 (i) (p) (s2) (s3) (k + 1) (t) (h) M1 I1 R1 hR1 hEI1 hER1 hl51 hl52 hl53 hF1 hY1 hP1 hK1 hX1 hC1 (hi0) (hl) (hb) (ha) (hs9) (by omega) (h1) (hsy)
            · have c_111 : ¬ ((nI mj) < (nI (kfN k))) := of_decide_eq_false c_111
              have n_111 : ¬ (mj < kfN k) := fun h9 => c_111 ((lt_nI (p := mj) (n := kfN k) (by omega) (Nat.lt_trans (kfN_lt _) (by decide))).mpr h9)
              refine ps_st (S' := (115, [(0, .ref m0), (2, .int 2), (3, .int (nI x)), (4, .int (nI (by2 f p1))), (5, .int (nI p)), (6, .int (nI s3)), (7, .int (nI i)), (8, .int (nI (by4 f (p + 2)))), (9, .int (nI t)), (10, .int (gI (kb mj 2 (tX f n E (by2 f p)) k))), (11, .int (nI k))], [.ref m0], M1)) rfl rfl rfl ?_
              refine ps_st (S' := (117, [(0, .ref m0), (2, .int 2), (3, .int (nI x)), (4, .int (nI (by2 f p1))), (5, .int (nI p)), (6, .int (nI s3)), (7, .int (nI i)), (8, .int (nI (by4 f (p + 2)))), (9, .int (nI t)), (10, .int (gI (kb mj 2 (tX f n E (by2 f p)) k))), (11, .int (nI k))], [.int (nI t), .ref m0], M1)) rfl rfl rfl ?_
              refine ps_st (S' := (118, [(0, .ref m0), (2, .int 2), (3, .int (nI x)), (4, .int (nI (by2 f p1))), (5, .int (nI p)), (6, .int (nI s3)), (7, .int (nI i)), (8, .int (nI (by4 f (p + 2)))), (9, .int (nI t)), (10, .int (gI (kb mj 2 (tX f n E (by2 f p)) k))), (11, .int (nI k))], [.ref m0, .int (nI t), .ref m0], M1)) rfl rfl rfl ?_
              refine pr_ref (j := 62) (S' := (121, [(0, .ref m0), (2, .int 2), (3, .int (nI x)), (4, .int (nI (by2 f p1))), (5, .int (nI p)), (6, .int (nI s3)), (7, .int (nI i)), (8, .int (nI (by4 f (p + 2)))), (9, .int (nI t)), (10, .int (gI (kb mj 2 (tX f n E (by2 f p)) k))), (11, .int (nI k))], [.ref (q 62), .int (nI t), .ref m0], M1)) rfl hR1 rfl rfl ?_
              refine ps_st (S' := (123, [(0, .ref m0), (2, .int 2), (3, .int (nI x)), (4, .int (nI (by2 f p1))), (5, .int (nI p)), (6, .int (nI s3)), (7, .int (nI i)), (8, .int (nI (by4 f (p + 2)))), (9, .int (nI t)), (10, .int (gI (kb mj 2 (tX f n E (by2 f p)) k))), (11, .int (nI k))], [.int (nI k), .ref (q 62), .int (nI t), .ref m0], M1)) rfl rfl rfl ?_
              refine pr_kn (j := k) (S' := (124, [(0, .ref m0), (2, .int 2), (3, .int (nI x)), (4, .int (nI (by2 f p1))), (5, .int (nI p)), (6, .int (nI s3)), (7, .int (nI i)), (8, .int (nI (by4 f (p + 2)))), (9, .int (nI t)), (10, .int (gI (kb mj 2 (tX f n E (by2 f p)) k))), (11, .int (nI k))], [.ref (g.2.1 (15 + k)), .int (nI t), .ref m0], M1)) rfl hR1 (by omega) rfl ?_
              refine pl_call (a := [.ref m0, .int (nI t), .ref (g.2.1 (15 + k))]) (rest := []) rfl rfl rfl (rd_is (tx := tx) (cN := cN) (A := A) (s := t) (l := (tX f n E (by2 f p))) (lk := (15 + k)) hR1 hY1 (hsy) (⟨by omega, by omega⟩)) (fun v179 M180 q181 => ?_)
              obtain ⟨rfl, rfl⟩ := q181
              show pl _ _ _ (127, [(0, .ref m0), (2, .int 2), (3, .int (nI x)), (4, .int (nI (by2 f p1))), (5, .int (nI p)), (6, .int (nI s3)), (7, .int (nI i)), (8, .int (nI (by4 f (p + 2)))), (9, .int (nI t)), (10, .int (gI (kb mj 2 (tX f n E (by2 f p)) k))), (11, .int (nI k))], [.int (nI (eqN (tX f n E (by2 f p)) (ltx (15 + k))))], M1) _
              refine ps_if (S1 := (134, [(0, .ref m0), (2, .int 2), (3, .int (nI x)), (4, .int (nI (by2 f p1))), (5, .int (nI p)), (6, .int (nI s3)), (7, .int (nI i)), (8, .int (nI (by4 f (p + 2)))), (9, .int (nI t)), (10, .int (gI (kb mj 2 (tX f n E (by2 f p)) k))), (11, .int (nI k))], [], M1)) (S2 := (130, [(0, .ref m0), (2, .int 2), (3, .int (nI x)), (4, .int (nI (by2 f p1))), (5, .int (nI p)), (6, .int (nI s3)), (7, .int (nI i)), (8, .int (nI (by4 f (p + 2)))), (9, .int (nI t)), (10, .int (gI (kb mj 2 (tX f n E (by2 f p)) k))), (11, .int (nI k))], [], M1)) rfl rfl rfl (fun c_127 => ?_) (fun c_127 => ?_)
              · have c_127 : (nI (eqN (tX f n E (by2 f p)) (ltx (15 + k)))) = 0 := of_decide_eq_true c_127
                have n_127 : eqN (tX f n E (by2 f p)) (ltx (15 + k)) = 0 := (eq_nI (p := eqN (tX f n E (by2 f p)) (ltx (15 + k))) (n := 0) (Nat.lt_trans (le1_eq _ _) (by decide)) (by decide)).mp c_127
                refine ps_st (S' := (137, [(11, .int ((nI k) + 1)), (0, .ref m0), (2, .int 2), (3, .int (nI x)), (4, .int (nI (by2 f p1))), (5, .int (nI p)), (6, .int (nI s3)), (7, .int (nI i)), (8, .int (nI (by4 f (p + 2)))), (9, .int (nI t)), (10, .int (gI (kb mj 2 (tX f n E (by2 f p)) k)))], [], M1)) rfl rfl rfl ?_
                rw [nI_add1 (p := k) (k := 1) (x := 1) rfl (by omega)]
                show pl _ _ _ (_, [(11, .int (nI (k + 1))), (0, .ref m0), (2, .int 2), (3, .int (nI x)), (4, .int (nI (by2 f p1))), (5, .int (nI p)), (6, .int (nI s3)), (7, .int (nI i)), (8, .int (nI (by4 f (p + 2)))), (9, .int (nI t)), (10, .int (gI (kb mj 2 (tX f n E (by2 f p)) k)))], [], M1) _
                refine ps_st (S' := (79, [(0, .ref m0), (2, .int 2), (3, .int (nI x)), (4, .int (nI (by2 f p1))), (5, .int (nI p)), (6, .int (nI s3)), (7, .int (nI i)), (8, .int (nI (by4 f (p + 2)))), (9, .int (nI t)), (10, .int (gI (kb mj 2 (tX f n E (by2 f p)) k))), (11, .int (nI (k + 1)))], [], M1)) rfl rfl rfl ?_
                have hkb : (gI (kb mj 2 (tX f n E (by2 f p)) k)) = gI (kb mj 2 (tX f n E (by2 f p)) (k + 1)) := by
                  conv => rhs; unfold kb
                  rw [if_neg (by omega)]
                rw [hkb]
                exact ih.2 (i) (p) (s2) (s3) (k + 1) (t) (h) M1 I1 R1 hR1 hEI1 hER1 hl51 hl52 hl53 hF1 hY1 hP1 hK1 hX1 hC1 (hi0) (hl) (hb) (ha) (hs9) (by omega) (h1) (hsy)
              · have c_127 : ¬ ((nI (eqN (tX f n E (by2 f p)) (ltx (15 + k)))) = 0) := of_decide_eq_false c_127
                have n_127 : ¬ (eqN (tX f n E (by2 f p)) (ltx (15 + k)) = 0) := fun h9 => c_127 ((eq_nI (p := eqN (tX f n E (by2 f p)) (ltx (15 + k))) (n := 0) (Nat.lt_trans (le1_eq _ _) (by decide)) (by decide)).mpr h9)
                refine ps_st (S' := (132, [(0, .ref m0), (2, .int 2), (3, .int (nI x)), (4, .int (nI (by2 f p1))), (5, .int (nI p)), (6, .int (nI s3)), (7, .int (nI i)), (8, .int (nI (by4 f (p + 2)))), (9, .int (nI t)), (10, .int (gI (kb mj 2 (tX f n E (by2 f p)) k))), (11, .int (nI k))], [.int (nI k)], M1)) rfl rfl rfl ?_
                refine ps_st (S' := (134, [(0, .ref m0), (2, .int 2), (3, .int (nI x)), (4, .int (nI (by2 f p1))), (5, .int (nI p)), (6, .int (nI s3)), (7, .int (nI i)), (8, .int (nI (by4 f (p + 2)))), (9, .int (nI t)), (10, .int (nI k)), (11, .int (nI k))], [], M1)) rfl rfl rfl ?_
                refine ps_st (S' := (137, [(11, .int ((nI k) + 1)), (0, .ref m0), (2, .int 2), (3, .int (nI x)), (4, .int (nI (by2 f p1))), (5, .int (nI p)), (6, .int (nI s3)), (7, .int (nI i)), (8, .int (nI (by4 f (p + 2)))), (9, .int (nI t)), (10, .int (nI k))], [], M1)) rfl rfl rfl ?_
                rw [nI_add1 (p := k) (k := 1) (x := 1) rfl (by omega)]
                show pl _ _ _ (_, [(11, .int (nI (k + 1))), (0, .ref m0), (2, .int 2), (3, .int (nI x)), (4, .int (nI (by2 f p1))), (5, .int (nI p)), (6, .int (nI s3)), (7, .int (nI i)), (8, .int (nI (by4 f (p + 2)))), (9, .int (nI t)), (10, .int (nI k))], [], M1) _
                refine ps_st (S' := (79, [(0, .ref m0), (2, .int 2), (3, .int (nI x)), (4, .int (nI (by2 f p1))), (5, .int (nI p)), (6, .int (nI s3)), (7, .int (nI i)), (8, .int (nI (by4 f (p + 2)))), (9, .int (nI t)), (10, .int (nI k)), (11, .int (nI (k + 1)))], [], M1)) rfl rfl rfl ?_
                have hkb : (nI k) = gI (kb mj 2 (tX f n E (by2 f p)) (k + 1)) := by
                  conv => rhs; unfold kb
                  rw [if_pos ⟨by omega, by omega, by omega⟩]
                  rfl
                rw [hkb]
                exact ih.2 (i) (p) (s2) (s3) (k + 1) (t) (h) M1 I1 R1 hR1 hEI1 hER1 hl51 hl52 hl53 hF1 hY1 hP1 hK1 hX1 hC1 (hi0) (hl) (hb) (ha) (hs9) (by omega) (h1) (hsy)
  refine ps_st (S' := (1, [(0, .ref m0), (1, .int (nI p1)), (2, .int 2), (3, .int (nI x))], [.ref m0], M)) rfl rfl rfl ?_
  refine ps_st (S' := (2, [(0, .ref m0), (1, .int (nI p1)), (2, .int 2), (3, .int (nI x))], [.int (nI p1), .ref m0], M)) rfl rfl rfl ?_
  refine pl_call (a := [.ref m0, .int (nI p1)]) (rest := []) rfl rfl rfl (rd_u2 (n := n) (f := f) (p := p1) hR hF (by omega)) (fun v182 M183 q184 => ?_)
  obtain ⟨rfl, rfl⟩ := q184
  show pl _ _ _ (5, [(0, .ref m0), (1, .int (nI p1)), (2, .int 2), (3, .int (nI x))], [.int (nI (by2 f p1))], M) _
  have hu_2 := by2_lt f p1
  refine ps_st (S' := (7, [(4, .int (nI (by2 f p1))), (0, .ref m0), (1, .int (nI p1)), (2, .int 2), (3, .int (nI x))], [], M)) rfl rfl rfl ?_
  refine ps_st (S' := (8, [(4, .int (nI (by2 f p1))), (0, .ref m0), (1, .int (nI p1)), (2, .int 2), (3, .int (nI x))], [.int (nI p1)], M)) rfl rfl rfl ?_
  refine ps_st (S' := (9, [(4, .int (nI (by2 f p1))), (0, .ref m0), (1, .int (nI p1)), (2, .int 2), (3, .int (nI x))], [.int 2, .int (nI p1)], M)) rfl rfl rfl ?_
  refine ps_st (S' := (10, [(4, .int (nI (by2 f p1))), (0, .ref m0), (1, .int (nI p1)), (2, .int 2), (3, .int (nI x))], [.int ((nI p1) + 2)], M)) rfl rfl rfl ?_
  rw [nI_add1 (p := p1) (k := 2) (x := 2) rfl (by omega)]
  show pl _ _ _ (_, [(4, .int (nI (by2 f p1))), (0, .ref m0), (1, .int (nI p1)), (2, .int 2), (3, .int (nI x))], [.int (nI (p1 + 2))], M) _
  refine ps_st (S' := (12, [(5, .int (nI (p1 + 2))), (4, .int (nI (by2 f p1))), (0, .ref m0), (1, .int (nI p1)), (2, .int 2), (3, .int (nI x))], [], M)) rfl rfl rfl ?_
  refine ps_st (S' := (13, [(5, .int (nI (p1 + 2))), (4, .int (nI (by2 f p1))), (0, .ref m0), (1, .int (nI p1)), (2, .int 2), (3, .int (nI x))], [.int 0], M)) rfl rfl rfl ?_
  refine ps_st (S' := (15, [(6, .int 0), (5, .int (nI (p1 + 2))), (4, .int (nI (by2 f p1))), (0, .ref m0), (1, .int (nI p1)), (2, .int 2), (3, .int (nI x))], [], M)) rfl rfl rfl ?_
  refine ps_st (S' := (16, [(6, .int 0), (5, .int (nI (p1 + 2))), (4, .int (nI (by2 f p1))), (0, .ref m0), (1, .int (nI p1)), (2, .int 2), (3, .int (nI x))], [.int 0], M)) rfl rfl rfl ?_
  refine ps_st (S' := (18, [(0, .ref m0), (2, .int 2), (3, .int (nI x)), (4, .int (nI (by2 f p1))), (5, .int (nI (p1 + 2))), (6, .int 0), (7, .int 0)], [], M)) rfl rfl rfl ?_
  exact (LL kf).1 (0) (p1 + 2) (0) (0) (0) M I R hR hEI hER hi51 hi52 hi53 hF hY hP hK hX hC (by omega) (by decide) (⟨rfl, rfl, fun _ => sb_0⟩) (hat) (rfl)
