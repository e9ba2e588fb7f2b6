/-! the reference: how its constructor ends (my own text) -/
section MIB6
def qf (a0 k : Nat) : Nat := a0 + LL.idxOf k
def l63 : List Int32 := [1, 2, 2, 3, 4, 4, 4, 4, 4, 4]
def l64 : List Int32 := [0, 0, 0, 50, 0, 51, 55, 55, 60, 61]
def R09 : rR := fun k i => if k = 63 then some (l63.getD i 0) else if k = 64 then some (l64.getD i 0) else some 0
theorem ll_at' : ∀ k, k < 82 → rx k = true → LL[LL.idxOf k]? = some k := by decide
theorem ll_at {k : Nat} (h : rx k = true) : LL[LL.idxOf k]? = some k := ll_at' k (rx_lt h) h
theorem ll_inj {j k : Nat} (hj : rx j = true) (hk : rx k = true) (e : LL.idxOf j = LL.idxOf k) : j = k := by
  have h1 := ll_at hj
  rw [e, ll_at hk] at h1
  cases h1
  rfl
variable {g : xe_G} {m0 a0 s : Nat} {M0 M : mi_H}
def wk (g : xe_G) (a0 : Nat) (M : mi_H) : mi_H := (va_up M.1 (qf a0 62) (some (.inl (.object "java/lang/String", 10, fun i => (knl[i]?).map (fun j => Value.ref (g.2.1 j))))), M.2)
theorem cc_63 : CC g 63 = .inl (.int, 10, fun i => (R09 63 i).map Value.int) := by
  show Sum.inl (FieldType.int, 10, _) = _
  congr 3
  funext i
  match i with
  | 0 => rfl
  | 1 => rfl
  | 2 => rfl
  | 3 => rfl
  | 4 => rfl
  | 5 => rfl
  | 6 => rfl
  | 7 => rfl
  | 8 => rfl
  | 9 => rfl
  | n + 10 => simp [va_up, R09, l63, Int32.toNatClampNeg]
theorem cc_64 : CC g 64 = .inl (.int, 10, fun i => (R09 64 i).map Value.int) := by
  show Sum.inl (FieldType.int, 10, _) = _
  congr 3
  funext i
  match i with
  | 0 => rfl
  | 1 => rfl
  | 2 => rfl
  | 3 => rfl
  | 4 => rfl
  | 5 => rfl
  | 6 => rfl
  | 7 => rfl
  | 8 => rfl
  | 9 => rfl
  | n + 10 => simp [va_up, R09, l64, Int32.toNatClampNeg]
theorem cc_row {k : Nat} {t : FieldType × Nat} (h : rt k = some t) : CC g k = .inl (t.1, t.2, fun i => (R09 k i).map Value.int) := by
  by_cases e3 : k = 63
  · subst e3
    cases h
    exact cc_63
  by_cases e4 : k = 64
  · subst e4
    cases h
    exact cc_64
  unfold CC R09
  rw [if_neg (rt_62 h), if_neg e3, if_neg e4, h]
  simp only [if_neg e3, if_neg e4]
  rfl
theorem wk_RS (hB : BS m0 a0 (CC g) LL I09 M0 M s) (hlt : ∀ k, rlk k → g.2.1 k < a0) (hlm : ∀ k, rlk k → g.2.1 k ≠ m0) (hlit : ∀ k, rlk k → ∃ f, M0.1 (g.2.1 k) = some (.inr (100 + k, f))) : RS g m0 (qf a0) M.2 I09 R09 (wk g a0 M) := by
  obtain ⟨⟨F, hF, hF1, hF2⟩, hr, ho, hz, hm⟩ := hB
  refine ⟨?_, fun k t ht => ?_, ?_, fun j k hj hk e => ?_, rfl, fun k hk => ?_⟩
  · show va_up M.1 (qf a0 62) _ m0 = _
    rw [va_up, if_neg (by unfold qf; omega), hF]
    congr 3
    funext k
    unfold rfld
    cases hx : rx k with
    | true => exact hF1 _ k (ll_at hx)
    | false => exact hF2 k hx
  · show va_up M.1 (qf a0 62) _ (qf a0 k) = _
    rw [va_up, if_neg (fun e => rt_62 ht (ll_inj (rt_rx ht) rx_62 (by unfold qf at e; omega)))]
    rw [show M.1 (qf a0 k) = some (CC g k) from hr _ k (ll_at (rt_rx ht)), cc_row ht]
  · show va_up M.1 (qf a0 62) _ (qf a0 62) = _
    rw [va_up, if_pos rfl]
  · exact ll_inj hj hk (by unfold qf at e; omega)
  · have h1 := hlt k hk
    obtain ⟨f, h2⟩ := hlit k hk
    refine ⟨f, ?_⟩
    show va_up M.1 (qf a0 62) _ (g.2.1 k) = _
    rw [va_up, if_neg (by unfold qf; omega), ho _ h1 (hlm k hk)]
    exact h2
theorem wk_le (hB : BS m0 a0 (CC g) LL I09 M0 M s) : hle (wk g a0 M) M := by
  obtain ⟨-, hr, -⟩ := hB
  intro a c hc
  by_cases e : a = qf a0 62
  · subst e
    have h1 : va_up M.1 (qf a0 62) _ (qf a0 62) = some c := hc
    rw [va_up, if_pos rfl] at h1
    cases h1
    refine ⟨_, hr _ 62 (ll_at rx_62), rfl, rfl, fun i v h => ?_⟩
    match i, h with
    | 0, h => exact h
    | 1, h => exact h
    | 2, h => exact h
    | 3, h => exact h
    | 4, h => exact h
    | 5, h => exact h
    | 6, h => exact h
    | 7, h => exact h
    | 8, h => exact h
    | 9, h => exact h
    | n + 10, h =>
      exfalso
      have h2 : (knl[n + 10]?).map (fun j => Value.ref (g.2.1 j)) = some v := h
      simp [knl] at h2
  · have h1 : va_up M.1 (qf a0 62) _ a = some c := hc
    rw [va_up, if_neg e] at h1
    exact ⟨c, h1, cle.rf⟩
theorem KW09 : KW I09 R09 := by
  refine ⟨fun k h0 h1 => ?_, fun k h0 h1 => ⟨_, rfl⟩⟩
  have h : k.toInt = 0 ∨ k.toInt = 1 ∨ k.toInt = 2 ∨ k.toInt = 3 ∨ k.toInt = 4 ∨ k.toInt = 5 ∨ k.toInt = 6 ∨ k.toInt = 7 ∨ k.toInt = 8 ∨ k.toInt = 9 := by omega
  rcases h with h | h | h | h | h | h | h | h | h | h
  · rw [show k = 0 from Int32.toInt_inj.mp h]; decide
  · rw [show k = 1 from Int32.toInt_inj.mp h]; decide
  · rw [show k = 2 from Int32.toInt_inj.mp h]; decide
  · rw [show k = 3 from Int32.toInt_inj.mp h]; decide
  · rw [show k = 4 from Int32.toInt_inj.mp h]; decide
  · rw [show k = 5 from Int32.toInt_inj.mp h]; decide
  · rw [show k = 6 from Int32.toInt_inj.mp h]; decide
  · rw [show k = 7 from Int32.toInt_inj.mp h]; decide
  · rw [show k = 8 from Int32.toInt_inj.mp h]; decide
  · rw [show k = 9 from Int32.toInt_inj.mp h]; decide
theorem rm_init {F0 : Nat → Option Value} (h0 : M.1 m0 = some (.inr (12, F0))) (hF0 : ∀ k, rx k = false → F0 k = (I00 k).map Value.int) (hm : m0 < M.2.1) (hlt : ∀ k, rlk k → g.2.1 k < M.2.1) (hlm : ∀ k, rlk k → g.2.1 k ≠ m0) (hlit : ∀ k, rlk k → ∃ f, M.1 (g.2.1 k) = some (.inr (100 + k, f))) {d : Nat} (hd : 4 ≤ d) : mt (mT g) d 173 [.ref m0] M (fun v M' => v = none ∧ ∃ (I' : rI) (R' : rR) (M1 : mi_H), RS g m0 (qf M.2.1) M'.2 I' R' M1 ∧ hle M1 M' ∧ M'.2 = (M.2.1 + 39, M.2.2 + 898568) ∧ eqI [3, 8, 9, 10, 11, 20, 25, 26] I09 I' ∧ eqR [1, 2, 4, 5, 6, 7] R09 R' ∧ CLF I' R') := by
  obtain ⟨d, rfl⟩ : ∃ e, d = e + 1 := ⟨d - 1, by omega⟩
  refine mt_in (b := mb_173 g) rfl rfl ?_
  show ml (mT g) d (mb_173 g).2 (0, [(0, .ref m0)], [], M) _
  refine rm_rows (m0 := m0) (M := M) ⟨⟨F0, h0, fun p k hp => by simp at hp, hF0⟩, fun p k hp => by simp at hp, fun _ _ _ => rfl, rfl, hm⟩ hlt hlm hlit (fun M9 hB9 => ?_)
  have hRS := wk_RS hB9 hlt hlm hlit
  have hz : M9.2 = (M.2.1 + LL.length, _) := hB9.2.2.2.1
  obtain ⟨⟨F9, hF9, -, -⟩, -⟩ := id hB9
  refine ml_blk 1 (S' := (503, [(0, .ref m0)], [.ref m0], M9)) rfl ?_
  refine ml_call (a := [.ref m0]) (rest := []) rfl ?_ rfl rfl (mt.up (y := 195) (by decide) (rm_clear hRS (by omega)) (wk_le hB9)) (fun v M' h => ?_)
  · show mi_okc (some 12) 1 (503, [(0, .ref m0)], [.ref m0], M9) = true
    simp [mi_okc, hF9]
  · obtain ⟨M1, ⟨rfl, I', R', h1, h2, h3, h4⟩, h5, h6⟩ := h
    show ml _ _ _ (506, [(0, .ref m0)], [], M') _
    refine ml_ret rfl rfl ⟨rfl, I', R', M1, by rw [h6]; exact h1, h5, ?_, h2, h3, h4⟩
    rw [h6, hz]
    exact congr (congrArg Prod.mk rfl) (by omega)
end MIB6
