/-! partial runs: what is true of the end, if there is one (my own text) -/
section PPA
variable {T : Nat → Option (Nat × mi_B)} {tb : mi_B} {pc k : Nat} {lv : List (Nat × Value)} {st : List Value} {M : mi_H} {S S1 : mi_S} {Q Q' : Option Value → mi_H → Prop}
/-- whatever ends within k steps ends with Q -/
def pl (T : Nat → Option (Nat × mi_B)) (k : Nat) (tb : mi_B) (S : mi_S) (Q : Option Value → mi_H → Prop) : Prop := ∀ (k' n d : Nat) (r : mi_R), k' ≤ k → mi_loop tb (mi_run T n d) k' S = some r → Q r.1 r.2
def pt (T : Nat → Option (Nat × mi_B)) (y : Nat) (a : List Value) (M : mi_H) (Q : Option Value → mi_H → Prop) : Prop := ∀ (n d : Nat) (r : mi_R), mi_run T n d y a M = some r → Q r.1 r.2
theorem pl_0 : pl T 0 tb S Q := by
  intro k' n d r hk h
  have e : k' = 0 := by omega
  subst e
  cases h
theorem pl.le {j : Nat} (h : pl T k tb S Q) (hj : j ≤ k) : pl T j tb S Q := fun k' n d r hk => h k' n d r (Nat.le_trans hk hj)
theorem pl.mono (h : pl T k tb S Q) (hq : ∀ v M', Q v M' → Q' v M') : pl T k tb S Q' := fun k' n d r hk hr => hq _ _ (h k' n d r hk hr)
theorem pt.mono {y : Nat} {a : List Value} (h : pt T y a M Q) (hq : ∀ v M', Q v M' → Q' v M') : pt T y a M Q' := fun n d r hr => hq _ _ (h n d r hr)
theorem pt.and {y : Nat} {a : List Value} (h : pt T y a M Q) (h' : pt T y a M Q') : pt T y a M (fun v M' => Q v M' ∧ Q' v M') := fun n d r hr => ⟨h n d r hr, h' n d r hr⟩
/-- safe, and what is true of the end -/
theorem mt.also {d y : Nat} {a : List Value} (h : mt T d y a M Q) (h' : pt T y a M Q') : mt T d y a M (fun v M' => Q v M' ∧ Q' v M') := by
  obtain ⟨r, ⟨n0, hr⟩, hq⟩ := h
  exact ⟨r, ⟨n0, hr⟩, hq, h' n0 d r (hr n0 (Nat.le_refl _))⟩
/-- a step, counted -/
theorem pl_s1 {o : mi_O} (h1 : tb.1 pc = some (.inl o)) (kk : ∀ S1, o (pc, lv, st, M) = some S1 → pl T k tb (mi_nk tb.2 S1) Q) : pl T (k + 1) tb (pc, lv, st, M) Q := by
  intro k' n d r hk h
  cases k' with
  | zero => cases h
  | succ k' =>
    rw [mi_loop] at h
    simp only [h1] at h
    split at h
    · rename_i S' hS
      exact kk S' hS k' n d r (by omega) h
    · cases h
theorem pl_st {o : mi_O} (h1 : tb.1 pc = some (.inl o)) (kk : ∀ S1, o (pc, lv, st, M) = some S1 → pl T k tb (mi_nk tb.2 S1) Q) : pl T k tb (pc, lv, st, M) Q := (pl_s1 h1 kk).le (Nat.le_succ k)
theorem pl_ret {f : List Value → Option (Option Value)} (h1 : tb.1 pc = some (.inr (.inr f))) (hq : ∀ v, f st = some v → Q v M) : pl T k tb (pc, lv, st, M) Q := by
  intro k' n d r hk h
  cases k' with
  | zero => cases h
  | succ k' =>
    rw [mi_loop] at h
    simp only [h1] at h
    cases hf : f st with
    | none => rw [hf] at h; cases h
    | some v =>
      rw [hf] at h
      cases h
      exact hq v hf
theorem pl_call {c : Nat × Nat × Option Nat} {a rest : List Value} (h1 : tb.1 pc = some (.inr (.inl c))) (ha : (st.take c.2.1).reverse = a) (hr : st.drop c.2.1 = rest) (hm : pt T c.1 a M Q')
    (kk : ∀ v M', Q' v M' → pl T k tb (mi_nk tb.2 (pc + 3, lv, v.toList ++ rest, M')) Q) : pl T k tb (pc, lv, st, M) Q := by
  intro k' n d r hk h
  cases k' with
  | zero => cases h
  | succ k' =>
    rw [mi_loop] at h
    simp only [h1] at h
    split at h
    · rw [ha, hr] at h
      split at h
      · rename_i r9 h9
        exact kk r9.1 r9.2 (hm n d r9 h9) k' n d r (by omega) h
      · cases h
    · cases h
theorem pt_in {y : Nat} {a : List Value} {b : Nat × mi_B} (hT : T y = some b) (kk : ∀ k, pl T k b.2 (0, lv_args 0 a, [], M) Q) : pt T y a M Q := by
  intro n d r h
  cases d with
  | zero => cases h
  | succ d =>
    rw [mi_run] at h
    simp only [hT] at h
    split at h
    · exact kk n n n d r (Nat.le_refl _) h
    · cases h
/-- a step that can go one way alone -/
theorem pl_do {o : mi_O} {S' : mi_S} (h1 : tb.1 pc = some (.inl o)) (h2 : ∀ S1, o (pc, lv, st, M) = some S1 → S1 = S') (kk : pl T k tb (mi_nk tb.2 S') Q) : pl T k tb (pc, lv, st, M) Q := pl_st h1 (fun S1 h => by rw [h2 S1 h]; exact kk)
theorem pl_is {o : mi_O} {S' : mi_S} (h1 : tb.1 pc = some (.inl o)) (h2 : o (pc, lv, st, M) = some S') (kk : pl T k tb (mi_nk tb.2 S') Q) : pl T k tb (pc, lv, st, M) Q := pl_st h1 (fun S1 h => by rw [h2] at h; cases h; exact kk)
theorem pl_if {f : Int32 → Bool} {t : Nat} {x : Int32} (h1 : tb.1 pc = some (.inl (o_if f t))) (kt : f x = true → pl T k tb (mi_nk tb.2 (t, lv, st, M)) Q) (kf : f x = false → pl T k tb (mi_nk tb.2 (pc + 3, lv, st, M)) Q) : pl T k tb (pc, lv, .int x :: st, M) Q := by
  cases hf : f x with
  | true => exact pl_is h1 (S' := (t, lv, st, M)) (by simp only [o_if, hf]) (kt hf)
  | false => exact pl_is h1 (S' := (pc + 3, lv, st, M)) (by simp only [o_if, hf]) (kf hf)
theorem pl_if2 {f : Int32 → Int32 → Bool} {t : Nat} {x y : Int32} (h1 : tb.1 pc = some (.inl (o_if2 f t))) (kt : f x y = true → pl T k tb (mi_nk tb.2 (t, lv, st, M)) Q) (kf : f x y = false → pl T k tb (mi_nk tb.2 (pc + 3, lv, st, M)) Q) : pl T k tb (pc, lv, .int y :: .int x :: st, M) Q := by
  cases hf : f x y with
  | true => exact pl_is h1 (S' := (t, lv, st, M)) (by simp only [o_if2, hf]) (kt hf)
  | false => exact pl_is h1 (S' := (pc + 3, lv, st, M)) (by simp only [o_if2, hf]) (kf hf)
theorem pl_sw {ps : List (Int × Nat)} {dt : Nat} {x : Int32} (h1 : tb.1 pc = some (.inl (o_sw ps dt))) (kk : ∀ t, mi_sw ps dt x = t → pl T k tb (mi_nk tb.2 (t, lv, st, M)) Q) : pl T k tb (pc, lv, .int x :: st, M) Q := pl_is h1 (S' := (mi_sw ps dt x, lv, st, M)) (by simp only [o_sw]) (kk _ rfl)
/-- cells -/
theorem pl_get {ci j a : Nat} {v : Value} (h1 : tb.1 pc = some (.inl (o_get ci j))) (hv : mi_gf M a ci j = some v) (kk : pl T k tb (mi_nk tb.2 (pc + 3, lv, v :: st, M)) Q) : pl T k tb (pc, lv, .ref a :: st, M) Q := pl_is h1 (S' := (pc + 3, lv, v :: st, M)) (by simp only [o_get, hv]) kk
theorem pl_ald {ty : FieldType} {a n : Nat} {i : Int32} {f : Nat → Int32} (h1 : tb.1 pc = some (.inl (o_ald ty))) (hg : M.1 a = some (ar ty n f)) (kk : ¬ i < 0 → i.toNatClampNeg < n → pl T k tb (mi_nk tb.2 (pc + 1, lv, .int (f i.toNatClampNeg) :: st, M)) Q) : pl T k tb (pc, lv, .int i :: .ref a :: st, M) Q := by
  refine pl_st h1 (fun S1 h => ?_)
  unfold o_ald at h
  simp only [mi_ga, hg, ar, if_true] at h
  split at h
  · cases h
  · rename_i hin
    cases h
    exact kk (fun h9 => hin (Or.inl h9)) (Nat.not_le.mp (fun h9 => hin (Or.inr h9)))
end PPA
section PPB
variable {T : Nat → Option (Nat × mi_B)} {tb : mi_B} {pc k : Nat} {lv : List (Nat × Value)} {st : List Value} {M : mi_H} {S S1 : mi_S} {Q Q' : Option Value → mi_H → Prop}
theorem ps_st {o : mi_O} {S1 S' : mi_S} (h1 : tb.1 pc = some (.inl o)) (h2 : o (pc, lv, st, M) = some S1) (h3 : mi_nk tb.2 S1 = S') (kk : pl T k tb S' Q) : pl T k tb (pc, lv, st, M) Q := by
  subst h3
  exact pl_is h1 h2 kk
theorem ps_if {f : Int32 → Bool} {t : Nat} {x : Int32} {S1 S2 : mi_S} (h1 : tb.1 pc = some (.inl (o_if f t))) (e1 : mi_nk tb.2 (t, lv, st, M) = S1) (e2 : mi_nk tb.2 (pc + 3, lv, st, M) = S2) (kt : f x = true → pl T k tb S1 Q) (kf : f x = false → pl T k tb S2 Q) : pl T k tb (pc, lv, .int x :: st, M) Q := by
  subst e1
  subst e2
  exact pl_if h1 kt kf
theorem ps_if2 {f : Int32 → Int32 → Bool} {t : Nat} {x y : Int32} {S1 S2 : mi_S} (h1 : tb.1 pc = some (.inl (o_if2 f t))) (e1 : mi_nk tb.2 (t, lv, st, M) = S1) (e2 : mi_nk tb.2 (pc + 3, lv, st, M) = S2) (kt : f x y = true → pl T k tb S1 Q) (kf : f x y = false → pl T k tb S2 Q) : pl T k tb (pc, lv, .int y :: .int x :: st, M) Q := by
  subst e1
  subst e2
  exact pl_if2 h1 kt kf
theorem ps_get {ci j a : Nat} {l : List Value} {v : Value} {S' : mi_S} (h1 : tb.1 pc = some (.inl (o_get ci j))) (h : M.1 a = some (ob ci l)) (hv : l[j]? = some v) (e1 : mi_nk tb.2 (pc + 3, lv, v :: st, M) = S') (kk : pl T k tb S' Q) : pl T k tb (pc, lv, .ref a :: st, M) Q := by
  subst e1
  exact pl_get h1 (gf_ob h hv) kk
theorem ps_ald {ty : FieldType} {a n : Nat} {i : Int32} {f : Nat → Int32} {S' : mi_S} (h1 : tb.1 pc = some (.inl (o_ald ty))) (h : M.1 a = some (ar ty n f)) (e1 : mi_nk tb.2 (pc + 1, lv, .int (f i.toNatClampNeg) :: st, M) = S') (kk : ¬ i < 0 → i.toNatClampNeg < n → pl T k tb S' Q) : pl T k tb (pc, lv, .int i :: .ref a :: st, M) Q := by
  subst e1
  exact pl_ald h1 h kk
theorem ps_alen {ty : FieldType} {a n : Nat} {f : Nat → Int32} {S' : mi_S} (h1 : tb.1 pc = some (.inl (o_alen ty))) (h : M.1 a = some (ar ty n f)) (e1 : mi_nk tb.2 (pc + 1, lv, .int (nI n) :: st, M) = S') (kk : pl T k tb S' Q) : pl T k tb (pc, lv, .ref a :: st, M) Q := by
  subst e1
  exact pl_is h1 (S' := (pc + 1, lv, .int (nI n) :: st, M)) (by simp only [o_alen, ga_ar h]; rfl) kk
theorem ps_put {ci j a : Nat} {ty : FieldType} {l l' : List Value} {v : Value} (h1 : tb.1 pc = some (.inl (o_put ci j ty))) (h : M.1 a = some (ob ci l)) (hj : decide (j < l.length) = true) (hl : l.set j v = l')
    (kk : ∀ M2 : mi_H, M2.1 a = some (ob ci l') → (∀ z, z ≠ a → M2.1 z = M.1 z) → M2.2 = M.2 → pl T k tb (mi_nk tb.2 (pc + 3, lv, st, M2)) Q) : pl T k tb (pc, lv, v :: .ref a :: st, M) Q := by
  refine pl_st h1 (fun S1 hS => ?_)
  unfold o_put at hS
  simp only [h, ob] at hS
  split at hS
  · cases hS
    refine kk _ ?_ (fun z hz => by simp [va_up, hz]) rfl
    rw [← hl, ob, ← ob_set (of_decide_eq_true hj)]
    simp [va_up]
  · cases hS
theorem ps_ast {ty : FieldType} {nar : Int32 → Int32} {a n : Nat} {i x : Int32} {f : Nat → Int32} (h1 : tb.1 pc = some (.inl (o_ast ty nar))) (h : M.1 a = some (ar ty n f))
    (kk : ∀ M2 : mi_H, ¬ i < 0 → i.toNatClampNeg < n → M2.1 a = some (ar ty n (upd f i.toNatClampNeg (nar x))) → (∀ z, z ≠ a → M2.1 z = M.1 z) → M2.2 = M.2 → pl T k tb (mi_nk tb.2 (pc + 1, lv, st, M2)) Q) : pl T k tb (pc, lv, .int x :: .int i :: .ref a :: st, M) Q := by
  refine pl_st h1 (fun S1 hS => ?_)
  unfold o_ast at hS
  simp only [ga_ar h] at hS
  split at hS
  · cases hS
  · rename_i hin
    cases hS
    refine kk _ (fun h9 => hin (Or.inl h9)) (Nat.not_le.mp (fun h9 => hin (Or.inr h9))) ?_ (fun z hz => by simp [va_up, hz]) rfl
    simp only [va_up, if_true]
    rw [ar, ← ar_set]
theorem ps_new {ci N : Nat} {ds : List Value} (h1 : tb.1 pc = some (.inl (o_new ci N ds))) (kk : ∀ M2 : mi_H, M2.1 M.2.1 = some (ob ci ds) → (∀ z, z ≠ M.2.1 → M2.1 z = M.1 z) → M2.2 = (M.2.1 + 1, M.2.2 + N) → pl T k tb (mi_nk tb.2 (pc + 3, lv, .ref M.2.1 :: st, M2)) Q) : pl T k tb (pc, lv, st, M) Q := by
  refine pl_st h1 (fun S1 hS => ?_)
  cases hS
  exact kk _ (by simp [va_up, ob]) (fun z hz => by simp [va_up, hz]) rfl
theorem ps_ret {f : List Value → Option (Option Value)} {v : Option Value} (h1 : tb.1 pc = some (.inr (.inr f))) (h2 : f st = some v) (hq : Q v M) : pl T k tb (pc, lv, st, M) Q := pl_ret h1 (fun v' hv => by rw [h2] at hv; cases hv; exact hq)
/-- a contract of the small machine, as one of whatever ends -/
theorem mt.pt {d y : Nat} {a : List Value} (h : mt T d y a M Q) : pt T y a M Q := by
  intro n d' r hr
  obtain ⟨r0, ⟨n0, h0⟩, hq⟩ := h
  have up1 : ∀ e, mi_run T (max n n0) (d + e) y a M = some r0 := fun e => by
    induction e with
    | zero => exact h0 _ (Nat.le_max_right _ _)
    | succ e ih => exact mi_run_mono _ _ _ _ _ ih
  have up2 : ∀ e, mi_run T (max n n0) (d' + e) y a M = some r := fun e => by
    induction e with
    | zero => exact mi_run_le (Nat.le_max_left _ _) hr
    | succ e ih => exact mi_run_mono _ _ _ _ _ ih
  have e1 := up1 d'
  have e2 := up2 d
  rw [Nat.add_comm] at e2
  rw [e1] at e2
  cases e2
  exact hq
theorem ob_ne {a b ci cj : Nat} {l l' : List Value} (h1 : M.1 a = some (ob ci l)) (h2 : M.1 b = some (ob cj l')) (h : ci ≠ cj) : a ≠ b := by
  intro e
  rw [e, h2] at h1
  simp only [ob, Option.some.injEq, Sum.inr.injEq, Prod.mk.injEq] at h1
  exact h h1.1.symm
theorem ob_ar {a b ci n : Nat} {l : List Value} {ty : FieldType} {f : Nat → Int32} (h1 : M.1 a = some (ob ci l)) (h2 : M.1 b = some (ar ty n f)) : a ≠ b := by
  intro e
  rw [e, h2] at h1
  cases h1
/-- what is left alone: all but these cells, and no room taken -/
def fm (S : List Nat) (M M' : mi_H) : Prop := (∀ z, z ∉ S → M'.1 z = M.1 z) ∧ M'.2 = M.2
theorem fm.rf {S : List Nat} : fm S M M := ⟨fun _ _ => rfl, rfl⟩
theorem fm.up {S : List Nat} {M1 M2 : mi_H} {a : Nat} (h : fm S M M1) (ha : a ∈ S) (h1 : ∀ z, z ≠ a → M2.1 z = M1.1 z) (h2 : M2.2 = M1.2) : fm S M M2 := ⟨fun z hz => (h1 z (fun e => hz (e ▸ ha))).trans (h.1 z hz), h2.trans h.2⟩
theorem fm.tr {S S' : List Nat} {M1 M2 : mi_H} (h : fm S M M1) (h' : fm S' M1 M2) (hs : ∀ z, z ∈ S' → z ∈ S) : fm S M M2 := ⟨fun z hz => (h'.1 z (fun q => hz (hs z q))).trans (h.1 z hz), h'.2.trans h.2⟩
end PPB
section PPC
variable {T : Nat → Option (Nat × mi_B)} {tb : mi_B} {pc k : Nat} {lv : List (Nat × Value)} {st : List Value} {M : mi_H} {Q : Option Value → mi_H → Prop}
theorem ps_st1 {o : mi_O} {S1 S' : mi_S} (h1 : tb.1 pc = some (.inl o)) (h2 : o (pc, lv, st, M) = some S1) (h3 : mi_nk tb.2 S1 = S') (kk : pl T k tb S' Q) : pl T (k + 1) tb (pc, lv, st, M) Q := by
  subst h3
  exact pl_s1 h1 (fun S2 h => by rw [h2] at h; cases h; exact kk)
theorem ar_ne {a b n n' : Nat} {ty ty' : FieldType} {f f' : Nat → Int32} (h1 : M.1 a = some (ar ty n f)) (h2 : M.1 b = some (ar ty' n' f')) (h : ty ≠ ty') : a ≠ b := by
  intro e
  rw [e, h2] at h1
  simp only [ar, Option.some.injEq, Sum.inl.injEq, Prod.mk.injEq] at h1
  exact h h1.1.symm
theorem nin1 {a b : Nat} (h : a ≠ b) : a ∉ [b] := by simp [h]
theorem nin2 {a b c : Nat} (h : a ≠ b) (h' : a ≠ c) : a ∉ [b, c] := by simp [h, h']
theorem nin3 {a b c d : Nat} (h : a ≠ b) (h' : a ≠ c) (h'' : a ≠ d) : a ∉ [b, c, d] := by simp [h, h', h'']
end PPC
theorem nin4 {a b c d e : Nat} (h1 : a ≠ b) (h2 : a ≠ c) (h3 : a ≠ d) (h4 : a ≠ e) : a ∉ [b, c, d, e] := by simp [h1, h2, h3, h4]
theorem nin6 {a b c d e f g : Nat} (h1 : a ≠ b) (h2 : a ≠ c) (h3 : a ≠ d) (h4 : a ≠ e) (h5 : a ≠ f) (h6 : a ≠ g) : a ∉ [b, c, d, e, f, g] := by simp [h1, h2, h3, h4, h5, h6]
theorem nin8 {a b c d e f g i j : Nat} (h1 : a ≠ b) (h2 : a ≠ c) (h3 : a ≠ d) (h4 : a ≠ e) (h5 : a ≠ f) (h6 : a ≠ g) (h7 : a ≠ i) (h8 : a ≠ j) : a ∉ [b, c, d, e, f, g, i, j] := by simp [h1, h2, h3, h4, h5, h6, h7, h8]
section PPD
variable {T : Nat → Option (Nat × mi_B)} {tb : mi_B} {pc k : Nat} {lv : List (Nat × Value)} {st : List Value} {M : mi_H} {Q : Option Value → mi_H → Prop}
theorem ps_newa {ty : FieldType} {n : Int32} {z : Nat} (h1 : tb.1 pc = some (.inl (o_newa ty))) (hz : M.2.1 = z) (kk : ∀ M2 : mi_H, ¬ n < 0 → M2.1 z = some (ar ty n.toNatClampNeg (fun _ => 0)) → (∀ y, y ≠ z → M2.1 y = M.1 y) → M2.2.1 = z + 1 → pl T k tb (mi_nk tb.2 (pc + 2, lv, .ref z :: st, M2)) Q) : pl T k tb (pc, lv, .int n :: st, M) Q := by
  subst hz
  refine pl_st h1 (fun S1 hS => ?_)
  unfold o_newa at hS
  dsimp only at hS
  split at hS
  · cases hS
  · rename_i hin
    cases hS
    exact kk _ (fun h9 => hin (Or.inl h9)) (by simp [va_up, ar]) (fun y hy => by simp [va_up, hy]) rfl
theorem ps_newz {ci N z : Nat} {ds : List Value} (h1 : tb.1 pc = some (.inl (o_new ci N ds))) (hz : M.2.1 = z) (kk : ∀ M2 : mi_H, M2.1 z = some (ob ci ds) → (∀ y, y ≠ z → M2.1 y = M.1 y) → M2.2.1 = z + 1 → pl T k tb (mi_nk tb.2 (pc + 3, lv, .ref z :: st, M2)) Q) : pl T k tb (pc, lv, st, M) Q := by
  subst hz
  exact ps_new h1 (fun M2 a1 a2 a3 => kk M2 a1 a2 (by rw [a3]))
/-- what is left alone of what was there; new cells may come -/
def gm (S : List Nat) (M M' : mi_H) : Prop := (∀ z, z < M.2.1 → z ∉ S → M'.1 z = M.1 z) ∧ M.2.1 ≤ M'.2.1
theorem gm.rf {S : List Nat} : gm S M M := ⟨fun _ _ _ => rfl, Nat.le_refl _⟩
theorem gm.up {S : List Nat} {M1 M2 : mi_H} {a : Nat} (h : gm S M M1) (ha : a ∈ S ∨ M.2.1 ≤ a) (h1 : ∀ z, z ≠ a → M2.1 z = M1.1 z) (h2 : M1.2.1 ≤ M2.2.1) : gm S M M2 := ⟨fun z hl hz => (h1 z (fun e => ha.elim (fun q => hz (e ▸ q)) (fun q => by omega))).trans (h.1 z hl hz), Nat.le_trans h.2 h2⟩
theorem gm.trf {S S' : List Nat} {M1 M2 : mi_H} (h : gm S M M1) (h' : fm S' M1 M2) (hs : ∀ z, z ∈ S' → z ∈ S ∨ M.2.1 ≤ z) : gm S M M2 := ⟨fun z hl hz => (h'.1 z (fun q => (hs z q).elim hz (fun e => by omega))).trans (h.1 z hl hz), by rw [h'.2]; exact h.2⟩
theorem gm.tr {S S' : List Nat} {M1 M2 : mi_H} (h : gm S M M1) (h' : gm S' M1 M2) (hs : ∀ z, z ∈ S' → z ∈ S ∨ M.2.1 ≤ z) : gm S M M2 := ⟨fun z hl hz => (h'.1 z (Nat.lt_of_lt_of_le hl h.2) (fun q => (hs z q).elim hz (fun e => by omega))).trans (h.1 z hl hz), Nat.le_trans h.2 h'.2⟩
theorem fm.gm {S : List Nat} {M' : mi_H} (h : fm S M M') : gm S M M' := ⟨fun z _ hz => h.1 z hz, by rw [h.2]; exact Nat.le_refl _⟩
end PPD
