/-! runs of the small machine that end: rules (my own text) -/
section MIL
def ml (T : Nat → Option (Nat × mi_B)) (d : Nat) (tb : mi_B) (S : mi_S) (Q : Option Value → mi_H → Prop) : Prop :=
  ∃ r : mi_R, (∃ n0 k0, ∀ n k, n0 ≤ n → k0 ≤ k → mi_loop tb (mi_run T n d) k S = some r) ∧ Q r.1 r.2
def mt (T : Nat → Option (Nat × mi_B)) (d y : Nat) (a : List Value) (M : mi_H) (Q : Option Value → mi_H → Prop) : Prop :=
  ∃ r : mi_R, (∃ n0, ∀ n, n0 ≤ n → mi_run T n d y a M = some r) ∧ Q r.1 r.2
variable {T : Nat → Option (Nat × mi_B)} {d pc : Nat} {tb : mi_B} {lv : List (Nat × Value)} {st : List Value} {M : mi_H} {Q Q' : Option Value → mi_H → Prop}
theorem mi_loop_st {call : Nat → List Value → mi_H → Option mi_R} {n : Nat} {o : mi_O} {S S1 : mi_S} (h1 : tb.1 S.1 = some (.inl o)) (h2 : o S = some S1) : mi_loop tb call (n + 1) S = mi_loop tb call n (mi_nk tb.2 S1) := by
  rw [mi_loop]
  simp only [h1, h2]
theorem mi_loop_call {call : Nat → List Value → mi_H → Option mi_R} {n : Nat} {c : Nat × Nat × Option Nat} {S : mi_S} {r : mi_R} (h1 : tb.1 S.1 = some (.inr (.inl c))) (h2 : mi_okc c.2.2 c.2.1 S = true) (h3 : call c.1 (S.2.2.1.take c.2.1).reverse S.2.2.2 = some r) : mi_loop tb call (n + 1) S = mi_loop tb call n (mi_nk tb.2 (S.1 + 3, S.2.1, r.1.toList ++ S.2.2.1.drop c.2.1, r.2)) := by
  rw [mi_loop]
  simp only [h1, h2, h3]
theorem ml_st {o : mi_O} {S1 S' : mi_S} (h1 : tb.1 pc = some (.inl o)) (h2 : o (pc, lv, st, M) = some S1) (h3 : mi_nk tb.2 S1 = S') (k : ml T d tb S' Q) : ml T d tb (pc, lv, st, M) Q := by
  obtain ⟨r, ⟨n0, k0, h⟩, hq⟩ := k
  refine ⟨r, ⟨n0, k0 + 1, fun n k hn hk => ?_⟩, hq⟩
  obtain ⟨k', rfl⟩ : ∃ k', k = k' + 1 := ⟨k - 1, by omega⟩
  rw [mi_loop_st (S := (pc, lv, st, M)) h1 h2, h3]
  exact h n k' hn (by omega)
theorem ml_ret {f : List Value → Option (Option Value)} {v : Option Value} (h1 : tb.1 pc = some (.inr (.inr f))) (h2 : f st = some v) (hq : Q v M) : ml T d tb (pc, lv, st, M) Q := by
  refine ⟨(v, M), ⟨0, 1, fun n k _ hk => ?_⟩, hq⟩
  obtain ⟨k', rfl⟩ : ∃ k', k = k' + 1 := ⟨k - 1, by omega⟩
  rw [mi_loop]
  simp only [h1, h2, Option.map_some]
theorem ml_call {c : Nat × Nat × Option Nat} {a rest : List Value} (h1 : tb.1 pc = some (.inr (.inl c))) (h2 : mi_okc c.2.2 c.2.1 (pc, lv, st, M) = true) (ha : (st.take c.2.1).reverse = a) (hr : st.drop c.2.1 = rest) (hm : mt T d c.1 a M Q')
    (k : ∀ v M', Q' v M' → ml T d tb (mi_nk tb.2 (pc + 3, lv, v.toList ++ rest, M')) Q) : ml T d tb (pc, lv, st, M) Q := by
  obtain ⟨r, ⟨n0, h⟩, hq⟩ := hm
  obtain ⟨r2, ⟨n1, k1, h5⟩, hq2⟩ := k r.1 r.2 hq
  refine ⟨r2, ⟨max n0 n1, k1 + 1, fun n k hn hk => ?_⟩, hq2⟩
  obtain ⟨k', rfl⟩ : ∃ k', k = k' + 1 := ⟨k - 1, by omega⟩
  have h6 := h n (by omega)
  rw [mi_loop_call (S := (pc, lv, st, M)) (r := r) h1 h2 (by dsimp only; rw [ha]; exact h6)]
  dsimp only
  rw [hr]
  exact h5 n k' (by omega) (by omega)
theorem mt_in {y : Nat} {a : List Value} {b : Nat × mi_B} (hT : T y = some b) (hl : decide ((lg_sl a).length ≤ b.1) = true) (k : ml T d b.2 (0, lv_args 0 a, [], M) Q) : mt T (d + 1) y a M Q := by
  obtain ⟨r, ⟨n0, k0, h⟩, hq⟩ := k
  refine ⟨r, ⟨max n0 k0, fun n hn => ?_⟩, hq⟩
  rw [mi_run]
  simp only [hT, hl]
  exact h n n (by omega) (by omega)
theorem ml.mono (h : ml T d tb (pc, lv, st, M) Q) (hq : ∀ v M', Q v M' → Q' v M') : ml T d tb (pc, lv, st, M) Q' := by
  obtain ⟨r, h1, h2⟩ := h
  exact ⟨r, h1, hq _ _ h2⟩
theorem mt.mono {y : Nat} {a : List Value} (h : mt T d y a M Q) (hq : ∀ v M', Q v M' → Q' v M') : mt T d y a M Q' := by
  obtain ⟨r, h1, h2⟩ := h
  exact ⟨r, h1, hq _ _ h2⟩
/-- one run has one end -/
theorem mt.both {y : Nat} {a : List Value} (h : mt T d y a M Q) (h' : mt T d y a M Q') : mt T d y a M (fun v M' => Q v M' ∧ Q' v M') := by
  obtain ⟨r, ⟨n0, h1⟩, h2⟩ := h
  obtain ⟨r', ⟨n1, h3⟩, h4⟩ := h'
  have e : r = r' := Option.some.inj ((h1 (max n0 n1) (by omega)).symm.trans (h3 (max n0 n1) (by omega)))
  subst e
  exact ⟨r, ⟨n0, h1⟩, h2, h4⟩
theorem mi_loop_mono {c1 c2 : Nat → List Value → mi_H → Option mi_R} (hc : ∀ y a M r, c1 y a M = some r → c2 y a M = some r) : ∀ (n : Nat) (S : mi_S) (r : mi_R), mi_loop tb c1 n S = some r → mi_loop tb c2 n S = some r := by
  intro n
  induction n with
  | zero => intro S r h; cases h
  | succ n ih =>
    intro S r h
    rw [mi_loop] at h ⊢
    split at h
    · split at h
      · exact ih _ _ h
      · cases h
    · split at h
      · split at h
        · rename_i r9 h9
          rw [hc _ _ _ _ h9]
          exact ih _ _ h
        · cases h
      · cases h
    · exact h
    · cases h
theorem mi_run_mono {n : Nat} : ∀ (d y : Nat) (a : List Value) (M : mi_H) (r : mi_R), mi_run T n d y a M = some r → mi_run T n (d + 1) y a M = some r := by
  intro d
  induction d with
  | zero => intro y a M r h; cases h
  | succ d ih =>
    intro y a M r h
    rw [mi_run] at h ⊢
    split at h
    · cases h
    · split at h
      · exact mi_loop_mono (fun y a M r h => ih y a M r h) _ _ _ h
      · cases h
theorem mt.deeper {y : Nat} {a : List Value} (h : mt T d y a M Q) (e : Nat) : mt T (d + e) y a M Q := by
  induction e with
  | zero => exact h
  | succ e ih =>
    obtain ⟨r, ⟨n0, h1⟩, h2⟩ := ih
    exact ⟨r, ⟨n0, fun n hn => mi_run_mono _ _ _ _ _ (h1 n hn)⟩, h2⟩
theorem mt.at {d' y : Nat} {a : List Value} (h : mt T d' y a M Q) (hd : d' ≤ d) : mt T d y a M Q := by
  obtain ⟨e, rfl⟩ := Nat.le.dest hd
  exact h.deeper e
/-- branches -/
theorem ml_if {f : Int32 → Bool} {t : Nat} {x : Int32} {S1 S2 : mi_S} (h1 : tb.1 pc = some (.inl (o_if f t))) (e1 : mi_nk tb.2 (t, lv, st, M) = S1) (e2 : mi_nk tb.2 (pc + 3, lv, st, M) = S2) (kt : f x = true → ml T d tb S1 Q) (kf : f x = false → ml T d tb S2 Q) : ml T d tb (pc, lv, .int x :: st, M) Q := by
  cases hf : f x with
  | true => exact ml_st h1 (S1 := (t, lv, st, M)) (by simp only [o_if, hf]) e1 (kt hf)
  | false => exact ml_st h1 (S1 := (pc + 3, lv, st, M)) (by simp only [o_if, hf]) e2 (kf hf)
theorem ml_if2 {f : Int32 → Int32 → Bool} {t : Nat} {x y : Int32} {S1 S2 : mi_S} (h1 : tb.1 pc = some (.inl (o_if2 f t))) (e1 : mi_nk tb.2 (t, lv, st, M) = S1) (e2 : mi_nk tb.2 (pc + 3, lv, st, M) = S2) (kt : f x y = true → ml T d tb S1 Q) (kf : f x y = false → ml T d tb S2 Q) : ml T d tb (pc, lv, .int y :: .int x :: st, M) Q := by
  cases hf : f x y with
  | true => exact ml_st h1 (S1 := (t, lv, st, M)) (by simp only [o_if2, hf]) e1 (kt hf)
  | false => exact ml_st h1 (S1 := (pc + 3, lv, st, M)) (by simp only [o_if2, hf]) e2 (kf hf)
/-- cells -/
theorem ml_get {ci k a : Nat} {v : Value} {S' : mi_S} (h1 : tb.1 pc = some (.inl (o_get ci k))) (hv : mi_gf M a ci k = some v) (e1 : mi_nk tb.2 (pc + 3, lv, v :: st, M) = S') (kk : ml T d tb S' Q) : ml T d tb (pc, lv, .ref a :: st, M) Q :=
  ml_st h1 (S1 := (pc + 3, lv, v :: st, M)) (by simp only [o_get, hv]) e1 kk
theorem ml_ald {ty : FieldType} {a n : Nat} {i : Int32} {f : Nat → Option Value} {v : Value} {S' : mi_S} (h1 : tb.1 pc = some (.inl (o_ald ty))) (hg : mi_ga M a ty = some (n, f)) (hi : vp_in i n) (hv : f i.toNatClampNeg = some v) (e1 : mi_nk tb.2 (pc + 1, lv, v :: st, M) = S') (kk : ml T d tb S' Q) : ml T d tb (pc, lv, .int i :: .ref a :: st, M) Q :=
  ml_st h1 (S1 := (pc + 1, lv, v :: st, M)) (by simp only [o_ald, hg]; rw [if_neg hi]; simp only [hv]) e1 kk
theorem ml_alen {ty : FieldType} {a n : Nat} {f : Nat → Option Value} {S' : mi_S} (h1 : tb.1 pc = some (.inl (o_alen ty))) (hg : mi_ga M a ty = some (n, f)) (e1 : mi_nk tb.2 (pc + 1, lv, .int (Int32.ofNat n) :: st, M) = S') (kk : ml T d tb S' Q) : ml T d tb (pc, lv, .ref a :: st, M) Q :=
  ml_st h1 (S1 := (pc + 1, lv, .int (Int32.ofNat n) :: st, M)) (by simp only [o_alen, hg]) e1 kk
theorem ml_ast {ty : FieldType} {nar : Int32 → Int32} {a n : Nat} {i x : Int32} {f : Nat → Option Value} {S' : mi_S} (h1 : tb.1 pc = some (.inl (o_ast ty nar))) (hg : mi_ga M a ty = some (n, f)) (hi : vp_in i n) (e1 : mi_nk tb.2 (pc + 1, lv, st, va_up M.1 a (some (.inl (ty, n, va_up f i.toNatClampNeg (some (.int (nar x)))))), M.2) = S') (kk : ml T d tb S' Q) : ml T d tb (pc, lv, .int x :: .int i :: .ref a :: st, M) Q :=
  ml_st h1 (S1 := (pc + 1, lv, st, va_up M.1 a (some (.inl (ty, n, va_up f i.toNatClampNeg (some (.int (nar x)))))), M.2)) (by simp only [o_ast, hg]; rw [if_neg hi]) e1 kk
theorem ml_put {ci k a : Nat} {ty : FieldType} {f : Nat → Option Value} {v : Value} {S' : mi_S} (h1 : tb.1 pc = some (.inl (o_put ci k ty))) (hg : M.1 a = some (.inr (ci, f))) (hv : mi_fit ty v = true) (e1 : mi_nk tb.2 (pc + 3, lv, st, va_up M.1 a (some (.inr (ci, va_up f k (some v)))), M.2) = S') (kk : ml T d tb S' Q) : ml T d tb (pc, lv, v :: .ref a :: st, M) Q :=
  ml_st h1 (S1 := (pc + 3, lv, st, va_up M.1 a (some (.inr (ci, va_up f k (some v)))), M.2)) (by simp only [o_put, hg, hv, and_self, if_true]) e1 kk
theorem ml_sw {ps : List (Int × Nat)} {dt : Nat} {x : Int32} (h1 : tb.1 pc = some (.inl (o_sw ps dt))) (kk : ∀ t, mi_sw ps dt x = t → ml T d tb (mi_nk tb.2 (t, lv, st, M)) Q) : ml T d tb (pc, lv, .int x :: st, M) Q :=
  ml_st h1 (S1 := (mi_sw ps dt x, lv, st, M)) (by simp only [o_sw]) rfl (kk _ rfl)
end MIL
