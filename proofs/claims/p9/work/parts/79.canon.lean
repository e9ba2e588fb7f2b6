/-! the reference: a heap that knows no more than needed (my own text) -/
section MIB
def cH (g : xe_G) (m0 : Nat) (q : Nat → Nat) (I : rI) (R : rR) : mi_H :=
  (fun a => if a = m0 then some (.inr (12, rfld q I)) else
    match (List.range 82).find? (fun k => rx k && (q k == a)) with
    | some k => if k = 62 then some (.inl (.object "java/lang/String", 10, fun i => (knl[i]?).map (fun j => Value.ref (g.2.1 j)))) else
        (rt k).map (fun t => (.inl (t.1, t.2, fun i => (R k i).map Value.int)))
    | none => ((List.range 30).find? (fun k => decide (15 ≤ k) && (g.2.1 k == a))).map (fun k => .inr (100 + k, fun _ => none)), 0, 0)
theorem fnd {p : Nat → Bool} {n k : Nat} (hk : k < n) (hp : p k = true) (hu : ∀ j, p j = true → j = k) : (List.range n).find? p = some k := by
  cases h : (List.range n).find? p with
  | none => exact absurd hp (List.find?_eq_none.mp h k (List.mem_range.mpr hk))
  | some j => rw [hu j (List.find?_some h)]
theorem fnd0 {p : Nat → Bool} {n : Nat} (hu : ∀ j, p j = true → False) : (List.range n).find? p = none := List.find?_eq_none.mpr (fun j _ hj => hu j hj)
theorem rt_lt {k : Nat} {t : FieldType × Nat} (h : rt k = some t) : k < 82 := by
  unfold rt at h
  split at h <;> first | decide | cases h
theorem rx_lt {k : Nat} (h : rx k = true) : k < 82 := by
  unfold rx at h
  cases e : rt k with
  | some t => exact rt_lt e
  | none =>
    rw [e] at h
    have : k = 62 := by simpa using h
    omega
theorem rt_rx {k : Nat} {t : FieldType × Nat} (h : rt k = some t) : rx k = true := by
  unfold rx
  rw [h]
  rfl
theorem rt_62 {k : Nat} {t : FieldType × Nat} (h : rt k = some t) : k ≠ 62 := by
  rintro rfl
  cases h
theorem rx_62 : rx 62 = true := by decide
theorem rx_cell {g : xe_G} {m0 : Nat} {q : Nat → Nat} {z : Nat × Nat} {I : rI} {R : rR} {M : mi_H} (hR : RS g m0 q z I R M) {k : Nat} (h : rx k = true) : ∃ c, M.1 (q k) = some (.inl c) := by
  by_cases e : k = 62
  · subst e
    exact ⟨_, hR.2.2.1⟩
  · cases h2 : rt k with
    | some t => exact ⟨_, hR.2.1 k t h2⟩
    | none =>
      unfold rx at h
      rw [h2] at h
      exact absurd (by simpa using h) e
variable {g : xe_G} {m0 : Nat} {q : Nat → Nat} {z : Nat × Nat} {I I' : rI} {R R' : rR} {M : mi_H}
theorem q_ne (hR : RS g m0 q z I R M) {k : Nat} (h : rx k = true) : q k ≠ m0 := fun e => by
  obtain ⟨c, h1⟩ := rx_cell hR h
  rw [e, hR.1] at h1
  cases h1
theorem l_ne (hR : RS g m0 q z I R M) {k : Nat} (h : rlk k) : g.2.1 k ≠ m0 := fun e => by
  obtain ⟨f, h1⟩ := hR.2.2.2.2.2 k h
  rw [e, hR.1] at h1
  have e2 : 12 = 100 + k := congrArg (fun c : Option mi_C => match c with | some (.inr o) => o.1 | _ => 0) h1
  omega
theorem l_nq (hR : RS g m0 q z I R M) {k j : Nat} (h : rlk k) (hj : rx j = true) : q j ≠ g.2.1 k := fun e => by
  obtain ⟨f, h1⟩ := hR.2.2.2.2.2 k h
  obtain ⟨c, h2⟩ := rx_cell hR hj
  rw [e, h1] at h2
  cases h2
theorem l_inj (hR : RS g m0 q z I R M) {k j : Nat} (h : rlk k) (hj : rlk j) (e : g.2.1 j = g.2.1 k) : j = k := by
  obtain ⟨f, h1⟩ := hR.2.2.2.2.2 k h
  obtain ⟨f', h2⟩ := hR.2.2.2.2.2 j hj
  rw [e, h1] at h2
  have e2 : 100 + k = 100 + j := congrArg (fun c : Option mi_C => match c with | some (.inr o) => o.1 | _ => 0) h2
  omega
theorem cH_q (hR : RS g m0 q z I' R' M) {k : Nat} (h : rx k = true) : (cH g m0 q I R).1 (q k) = if k = 62 then some (.inl (.object "java/lang/String", 10, fun i => (knl[i]?).map (fun j => Value.ref (g.2.1 j)))) else (rt k).map (fun t => (.inl (t.1, t.2, fun i => (R k i).map Value.int))) := by
  have hf : (List.range 82).find? (fun j => rx j && (q j == q k)) = some k := fnd (rx_lt h) (by simp [h]) (fun j hj => by
    have hj' : rx j = true ∧ q j = q k := by simpa using hj
    exact hR.2.2.2.1 j k hj'.1 h hj'.2)
  show (if q k = m0 then _ else _) = _
  rw [if_neg (q_ne hR h), hf]
theorem cH_l (hR : RS g m0 q z I' R' M) {k : Nat} (h : rlk k) : (cH g m0 q I R).1 (g.2.1 k) = some (.inr (100 + k, fun _ => none)) := by
  have hf : (List.range 82).find? (fun j => rx j && (q j == g.2.1 k)) = none := fnd0 (fun j hj => by
    have hj' : rx j = true ∧ q j = g.2.1 k := by simpa using hj
    exact l_nq hR h hj'.1 hj'.2)
  cases h3 : (List.range 30).find? (fun j => decide (15 ≤ j) && (g.2.1 j == g.2.1 k)) with
  | none => exact absurd (by simp [h.1] : (decide (15 ≤ k) && (g.2.1 k == g.2.1 k)) = true) (List.find?_eq_none.mp h3 k (List.mem_range.mpr h.2))
  | some j =>
    have h4' : 15 ≤ j ∧ g.2.1 j = g.2.1 k := by simpa using List.find?_some h3
    have h4 := h4'.2
    have h5 : rlk j := ⟨h4'.1, List.mem_range.mp (List.mem_of_find?_eq_some h3)⟩
    show (if g.2.1 k = m0 then _ else _) = _
    rw [if_neg (l_ne hR h), hf, h3, l_inj hR h h5 h4]
    rfl
theorem cH_RS (hR : RS g m0 q z I' R' M) : RS g m0 q (0, 0) I R (cH g m0 q I R) := by
  refine ⟨?_, fun k t ht => ?_, ?_, hR.2.2.2.1, rfl, fun k hk => ⟨_, cH_l hR hk⟩⟩
  · show (if m0 = m0 then _ else _) = _
    rw [if_pos rfl]
  · rw [cH_q hR (rt_rx ht), if_neg (rt_62 ht), ht]
    rfl
  · rw [cH_q hR rx_62, if_pos rfl]
def leI (I I' : rI) : Prop := ∀ k v, rx k = false → I k = some v → I' k = some v
def leR (R R' : rR) : Prop := ∀ k t i v, rt k = some t → R k i = some v → R' k i = some v
theorem cH_le (hR : RS g m0 q z I' R' M) (hI : leI I I') (hr : leR R R') : hle (cH g m0 q I R) M := by
  intro a c hc
  by_cases e : a = m0
  · subst e
    have h1 : some (.inr (12, rfld q I)) = some c := ((cH_RS (I := I) (R := R) hR).1).symm.trans hc
    cases h1
    refine ⟨_, hR.1, rfl, fun k v hk => ?_⟩
    have hk : rfld q I k = some v := hk
    show rfld q I' k = some v
    unfold rfld at hk ⊢
    cases hx : rx k with
    | true => rw [hx] at hk; simpa using hk
    | false =>
      rw [hx] at hk
      simp only [Bool.false_eq_true, if_false] at hk ⊢
      cases h2 : I k with
      | none => rw [h2] at hk; cases hk
      | some w =>
        rw [h2] at hk
        rw [hI k w hx h2]
        exact hk
  · cases h3 : (List.range 82).find? (fun k => rx k && (q k == a)) with
    | some k =>
      have h4 : rx k = true ∧ q k = a := by simpa using List.find?_some h3
      obtain ⟨h5, rfl⟩ := h4
      rw [cH_q hR h5] at hc
      by_cases e2 : k = 62
      · subst e2
        rw [if_pos rfl] at hc
        cases hc
        exact ⟨_, hR.2.2.1, rfl, rfl, fun i v h => h⟩
      · rw [if_neg e2] at hc
        cases h6 : rt k with
        | none => rw [h6] at hc; cases hc
        | some t =>
          rw [h6] at hc
          cases hc
          refine ⟨_, hR.2.1 k t h6, rfl, rfl, fun i v hv => ?_⟩
          have hv' : (R k i).map Value.int = some v := hv
          cases h7 : R k i with
          | none => rw [h7] at hv'; cases hv'
          | some w =>
            rw [h7] at hv'
            show (R' k i).map Value.int = some v
            rw [hr k t i w h6 h7]
            exact hv'
    | none =>
      have h4 : (cH g m0 q I R).1 a = ((List.range 30).find? (fun k => decide (15 ≤ k) && (g.2.1 k == a))).map (fun k => .inr (100 + k, fun _ => none)) := by
        show (if a = m0 then _ else _) = _
        rw [if_neg e, h3]
      rw [h4] at hc
      cases h5 : (List.range 30).find? (fun k => decide (15 ≤ k) && (g.2.1 k == a)) with
      | none => rw [h5] at hc; cases hc
      | some k =>
        have h6' : 15 ≤ k ∧ g.2.1 k = a := by simpa using List.find?_some h5
        obtain ⟨h60, rfl⟩ := h6'
        rw [h5] at hc
        cases hc
        obtain ⟨f, h7⟩ := hR.2.2.2.2.2 k ⟨h60, List.mem_range.mp (List.mem_of_find?_eq_some h5)⟩
        exact ⟨_, h7, rfl, fun _ v h => by cases h⟩
theorem le_of {z' : Nat × Nat} {M' : mi_H} (hR : RS g m0 q z I R M) (hR' : RS g m0 q z' I' R' M') (h : hle M M') : leI I I' ∧ leR R R' := by
  refine ⟨fun k v hx hv => ?_, fun k t i v ht hv => ?_⟩
  · obtain ⟨c, h1, h2⟩ := h m0 _ hR.1
    rw [hR'.1] at h1
    cases h1
    have h3 := h2.2 k (.int v) (by show rfld q I k = _; unfold rfld; rw [hx, hv]; rfl)
    have h4 : rfld q I' k = some (.int v) := h3
    unfold rfld at h4
    rw [hx] at h4
    simp only [Bool.false_eq_true, if_false] at h4
    cases h5 : I' k with
    | none => rw [h5] at h4; cases h4
    | some w => rw [h5] at h4; cases h4; rfl
  · obtain ⟨c, h1, h2⟩ := h (q k) _ (hR.2.1 k t ht)
    rw [hR'.2.1 k t ht] at h1
    cases h1
    have h3 := h2.2.2 i (.int v) (by show (R k i).map Value.int = _; rw [hv]; rfl)
    have h4 : (R' k i).map Value.int = some (.int v) := h3
    cases h5 : R' k i with
    | none => rw [h5] at h4; cases h4
    | some w => rw [h5] at h4; cases h4; rfl
/-- what was known of the fields stays known -/
theorem kp_of {z' : Nat × Nat} {M' : mi_H} (hR : RS g m0 q z I R M) (hR' : RS g m0 q z' I' R' M') (h : hkp M M') {k : Nat} {v : Int32} (hx : rx k = false) (hv : I k = some v) : ∃ w, I' k = some w := by
  obtain ⟨f', v', h1, h2⟩ := h m0 12 _ k (.int v) hR.1 (by unfold rfld; rw [hx, hv]; rfl)
  rw [hR'.1] at h1
  cases h1
  unfold rfld at h2
  rw [hx] at h2
  simp only [Bool.false_eq_true, if_false] at h2
  cases h5 : I' k with
  | none => rw [h5] at h2; cases h2
  | some w => exact ⟨w, rfl⟩
def Iu : rI := fun k => if k = 49 then some 0 else none
def Ru (kr : rR) : rR := fun k i => if k = 63 ∨ k = 64 then kr k i else none
def CLF (Ic : rI) (Rc : rR) : Prop := ∃ S cN : Nat, SYM S cN Ic Rc ∧ S ≤ 3 ∧ cN ≤ 30 ∧ (∃ a, Ic 9 = some a) ∧ (∃ a, Ic 10 = some a) ∧ (∃ a, Ic 11 = some a) ∧ Ic 20 = some 0 ∧ Ic 25 = some 0 ∧ Ic 26 = some 0
/-- how clear ends from the least knowledge -/
def CAN (g : xe_G) (m0 : Nat) (q : Nat → Nat) (kr : rR) (Ic : rI) (Rc : rR) : Prop := Ic 49 = some 0 ∧ Rc 63 = kr 63 ∧ Rc 64 = kr 64 ∧ CLF Ic Rc ∧ ∃ Mc, RS g m0 q (0, 0) Ic Rc Mc ∧ mt (mT g) 3 195 [.ref m0] (cH g m0 q Iu (Ru kr)) (fun v M' => v = none ∧ M' = Mc)
theorem can_ex (hR : RS g m0 q z I R M) (kr : rR) : ∃ Ic Rc, CAN g m0 q kr Ic Rc := by
  obtain ⟨r, h1, h2, Ic, Rc, h3, h4, h5, h6⟩ := rm_clear (cH_RS (I := Iu) (R := Ru kr) hR) (d := 3) (Nat.le_refl 3)
  refine ⟨Ic, Rc, (h4 49 (by decide)).trans rfl, (h5 63 (by decide)).trans ?_, (h5 64 (by decide)).trans ?_, h6, r.2, h3, r, h1, h2, rfl⟩
  · funext i
    rfl
  · funext i
    rfl
def Ifn (n : Nat) (Ic : rI) : rI := fun k => if k = 16 then some (nI n) else Ic k
def Rfn (f : Nat → Int32) (n : Nat) (Rc : rR) : rR := fun k i => if k = 12 then (if i < n then some (f i) else none) else Rc k i
/-- how a file is judged -/
def CANX (g : xe_G) (m0 : Nat) (q : Nat → Nat) (Ic : rI) (Rc : rR) (f : Nat → Int32) (n : Nat) (x : Int32) : Prop := mt (mT g) 9 190 [.ref m0] (cH g m0 q (Ifn n Ic) (Rfn f n Rc)) (fun v _ => v = some (.int x))
theorem canx_ex {kr : rR} {Ic : rI} {Rc : rR} {f : Nat → Int32} {n : Nat} (hR : RS g m0 q z I R M) (h : CAN g m0 q kr Ic Rc) (hK : KW Iu kr) (hn : n ≤ 65540) : ∃ x, (x = 0 ∨ x = 1) ∧ CANX g m0 q Ic Rc f n x := by
  obtain ⟨h49, h63, h64, ⟨S, cN, hS, hS3, hC3, ⟨a9, h9⟩, ⟨a10, h10⟩, ⟨a11, h11⟩, h20, h25, h26⟩, -⟩ := h
  have hI : ∀ k, k ≠ 16 → Ifn n Ic k = Ic k := fun k hk => if_neg hk
  have hr : ∀ k, k ≠ 12 → Rfn f n Rc k = Rc k := fun k hk => funext (fun i => if_neg hk)
  obtain ⟨r, h1, x, I', R', h2, h3, h4, h5, h6, h7⟩ := rm_checkFile (d := 9) (si := a9) (sc := a10) (so := a11) (n := n) (f := f) (S := S) (cN := cN) (cH_RS (I := Ifn n Ic) (R := Rfn f n Rc) hR) ((hI 20 (by decide)).trans h20) ((hI 25 (by decide)).trans h25) ((hI 26 (by decide)).trans h26) ((hI 9 (by decide)).trans h9) ((hI 10 (by decide)).trans h10) ((hI 11 (by decide)).trans h11) ⟨hn, (hI 49 (by decide)).trans h49, if_pos rfl, fun i hi => by show (if 12 = 12 then _ else _) = _; rw [if_pos rfl, if_pos hi]⟩ (hS.mono (fun k hk => hI k (by rintro rfl; revert hk; decide)) (fun k hk => hr k (by rintro rfl; revert hk; decide))) (hK.mono (fun k hk => by cases hk) (fun k hk => by
    rcases List.mem_cons.mp hk with rfl | hk
    · exact (hr 63 (by decide)).trans h63
    · rcases List.mem_cons.mp hk with rfl | hk
      · exact (hr 64 (by decide)).trans h64
      · cases hk)) hS3 hC3 (Nat.le_refl 9)
  exact ⟨x, h6, r, h1, h2⟩
end MIB
