/-! rows are written; what code and members say (my own text) -/
section MIB
variable {g : xe_G} {Y Y' : yT} {M M' : mi_H}
theorem WF.uprow {a ka : Nat} {pa : List Nat} {cl : mi_C} {x : FieldType × Nat × (Nat → Option Value)} (h : WF g Y M) (hY : Y.1 a = some (ka, pa)) (h1 : ka ≠ 31) (h3 : ka ≠ 33) (h4 : ka ≠ 34) (hc : M.1 a = some (.inl x)) (ho : okY Y (up M a cl) a ka pa) : WF g Y (up M a cl) := by
  refine ⟨fun b kb pb hb => ?_, h.2.1, fun i hi => ?_⟩
  · by_cases e : b = a
    · subst e
      cases hY.symm.trans hb
      exact ho
    · rcases h.1 b kb pb hb with ⟨hk, l, q1, q2, q3, q4, q5⟩ | ⟨n, r, e', ty, f, q1, q2, q3⟩ | ⟨hk, n, da, m, e', hn, f, q1, q2⟩
      · refine Or.inl ⟨hk, l, up_eq q1 e, q2, q3, q4, ?_⟩
        unfold xtr at q5 ⊢
        split at q5
        · exact q5
        · exact q5
        · exact q5
        · exact q5
        · obtain ⟨a1, a2, cc, sz, g1, g3, g4, b1, b2, b3, b4, b5, b6, b7⟩ := q5
          obtain ⟨k1, k2, k3, k4, k5, k6⟩ := q4
          exact ⟨a1, a2, cc, sz, g1, g3, g4, b1, b2, b3, up_eq b4 (ykne k1 hY (fun e => h1 e.symm)), up_eq b5 (ykne k3 hY (fun e => h3 e.symm)), up_eq b6 (ykne k4 hY (fun e => h4 e.symm)), b7⟩
        · exact q5
        · trivial
      · exact Or.inr (Or.inl ⟨n, r, e', ty, f, q1, up_eq q2 e, q3⟩)
      · exact Or.inr (Or.inr ⟨hk, n, da, m, e', hn, f, up_eq q1 e, q2⟩)
  · obtain ⟨hb, f, hf⟩ := h.2.2 i hi
    refine ⟨hb, f, up_eq hf ?_⟩
    intro e
    rw [e, hc] at hf
    cases hf
variable {T : Nat → Option (Nat × mi_B)} {d pc : Nat} {tb : mi_B} {lv : List (Nat × Value)} {s0 : List Value} {Q : Option Value → mi_H → Prop}
theorem ts_int {M0 : mi_H} {n a kr : Nat} {r : List Nat} {i x : Int32} {nar : Int32 → Int32} (h1 : tb.1 pc = some (.inl (o_ast .int nar))) (hS : st g Y M0 M) (hY : Y.1 a = some (kr, n :: r)) (hi : vp_in i n) (hk : kr = 21 ∨ kr = 35) (kk : ∀ M', st g Y M0 M' → (∀ z, z ≠ a → M'.1 z = M.1 z) → ml T d tb (mi_nk tb.2 (pc + 1, lv, s0, M')) Q) : ml T d tb (pc, lv, .int x :: .int i :: .ref a :: s0, M) Q := by
  have hr : rowT kr = some .int := by rcases hk with rfl | rfl <;> rfl
  obtain ⟨ty, f, h2, h3, h4, -⟩ := (hS.1.1 a _ _ hY).row hr
  cases hr.symm.trans h2
  refine mo_ast h1 h3 hi rfl (kk _ (hS.tr ⟨hS.1.uprow hY (by omega) (by omega) (by omega) h3 ?_, rfl, fun z hz => up_ne ?_⟩) (fun z hz => up_ne hz))
  · exact Or.inr (Or.inl ⟨n, r, rfl, .int, _, hr, up_at, h4, fun q => by omega, fun q => by omega, fun q => by omega⟩)
  · intro e
    subst e
    rw [hY] at hz
    cases hz
theorem ts_mem {M0 : mi_H} {n a da m b : Nat} {i : Int32} (h1 : tb.1 pc = some (.inl (o_aast "ClassGate$Member"))) (hS : st g Y M0 M) (hY : Y.1 a = some (23, [n, da, m])) (hb : Y.1 b = some (6, [da, m])) (hi : vp_in i n) (kk : ∀ M', st g Y M0 M' → (∀ z, z ≠ a → M'.1 z = M.1 z) → ml T d tb (mi_nk tb.2 (pc + 1, lv, s0, M')) Q) : ml T d tb (pc, lv, .ref b :: .int i :: .ref a :: s0, M) Q := by
  obtain ⟨h4, f, h2, h3⟩ := (hS.1.1 a _ _ hY).mem
  obtain ⟨l, hl⟩ := hS.1.cls hb (by decide)
  have hok : mi_ok M "ClassGate$Member" b = true := by
    unfold mi_ok
    rw [hl]
    rfl
  have hg : mi_ga M a (.object "ClassGate$Member") = some (n, fun i => some (va_rf (f i))) := by
    unfold mi_ga
    rw [h2]
    simp
  refine ml_st (S1 := (pc + 1, lv, s0, va_up M.1 a (some (.inl (.object "ClassGate$Member", n, va_up (fun i => some (va_rf (f i))) i.toNatClampNeg (some (.ref b))))), M.2)) h1 ?_ rfl ?_
  · simp only [o_aast, hg, hok]
    rw [if_neg hi, if_pos True.intro]
  have e : va_up (fun i => some (va_rf (f i))) i.toNatClampNeg (some (.ref b)) = fun j => some (va_rf ((if j = i.toNatClampNeg then some b else f j))) := by
    funext j
    by_cases h : j = i.toNatClampNeg
    · simp [va_up, h, va_rf]
    · simp [va_up, h]
  rw [e]
  refine kk (up M a _) (hS.tr ⟨hS.1.uprow hY (by decide) (by decide) (by decide) h2 ?_, rfl, fun z hz => up_ne ?_⟩) (fun z hz => up_ne hz)
  · refine Or.inr (Or.inr ⟨rfl, n, da, m, rfl, h4, _, up_at, fun j c hc => ?_⟩)
    by_cases h : j = i.toNatClampNeg
    · rw [if_pos h] at hc
      cases hc
      exact hb
    · rw [if_neg h] at hc
      exact h3 j c hc
  · intro e
    subst e
    rw [hY] at hz
    cases hz
theorem WF.pl8 {p n m t tp f s sh ch : Nat} (h : WF g Y M) (hY : Y.1 p = some (7, [n, m, t, tp, f, s, sh, ch])) : ∃ (g1 g3 g4 : Nat → Int32) (cc : Int32), M.1 t = some (ar .int n g1) ∧ M.1 f = some (ar .int n g3) ∧ M.1 s = some (ar .int n g4) ∧ n < 1073741824 ∧ m < 1073741824 ∧ ∀ k, k < n → g1 k = 1 → 0 ≤ (g3 k).toInt ∧ 0 ≤ (g4 k).toInt ∧ (g3 k).toInt + (g4 k).toInt ≤ m := by
  obtain ⟨l, h1, h0, -, h4, j1, j2, cc, sz, g1, g3, g4, e7, e0, hs, m1, m3, m4, hx⟩ := (h.1 p 7 _ hY).obj (by decide)
  refine ⟨g1, g3, g4, cc, m1, m3, m4, j1, j2, fun k hk hg => ?_⟩
  obtain ⟨a1, a2, a3⟩ := hx
  obtain ⟨b1, b2, b3⟩ := a3 k hk hg
  exact ⟨b1, b2, Int.le_trans b3 a2⟩
theorem WF.psz {p : Nat} {pp : List Nat} {x : Int32} (h : WF g Y M) (hY : Y.1 p = some (7, pp)) (hg : mi_gf M p 7 0 = some (.int x)) : x.toInt ≤ 65535 := by
  obtain ⟨size, n, m, q, f, cc, hP, hT, hn, hm, hs, -⟩ := h.pool hY
  have : mi_gf M p 7 0 = some (.int size) := gf_ob hP.1 rfl
  rw [this] at hg
  cases hg
  exact hs
theorem tp_shapeOf {p n m t tp f s sh ch : Nat} {x1 x2 : Int32} (hW : WF g Y M) (hY : Y.1 p = some (7, [n, m, t, tp, f, s, sh, ch])) (h1 : 0 ≤ x1.toInt) (h2 : x2.toInt ≤ m) (hd : 4 ≤ d) : mt (mT g) d 137 [.ref p, .int x1, .int x2] M (pI M) := by
  obtain ⟨size, n', m', q, f', cc, hP, hT, hn, hm, hs, hc, hpp⟩ := hW.pool hY
  have e : m = m' := by simp only [List.cons.injEq] at hpp; exact hpp.2.1
  subst e
  exact ct_shapeOf hP h1 h2 hm hd
theorem u2_le {n : Nat} {f : Nat → Int32} {a : Int32} : (sp_u2 n f a).toInt ≤ 65535 := by
  have key : ∀ x y : Int32, (((x &&& 255) <<< (8 &&& 31)) ||| (y &&& 255)).toInt ≤ 65535 := by
    intro x y
    have h1 : (((x &&& 255) <<< ((8 : Int32) &&& 31)) ||| (y &&& 255)).toBitVec.msb = false := by
      show (((x.toBitVec &&& 255#32) <<< (8 : Nat)) ||| (y.toBitVec &&& 255#32)).msb = false
      simp [BitVec.msb_eq_getLsbD_last]
    have h2 := BitVec.toInt_eq_toNat_of_msb h1
    show (((x &&& 255) <<< ((8 : Int32) &&& 31)) ||| (y &&& 255)).toBitVec.toInt ≤ 65535
    rw [h2]
    have h3 : (((x &&& 255) <<< ((8 : Int32) &&& 31)) ||| (y &&& 255)).toBitVec.toNat < 2 ^ 16 := by
      show (((x.toBitVec &&& 255#32) <<< (8 : Nat)) ||| (y.toBitVec &&& 255#32)).toNat < 2 ^ 16
      rw [BitVec.toNat_or]
      have hx : (x.toBitVec &&& 255#32).toNat < 2 ^ 8 := by
        rw [BitVec.toNat_and]
        exact Nat.lt_of_le_of_lt Nat.and_le_right (by decide)
      have hy : (y.toBitVec &&& 255#32).toNat < 2 ^ 8 := by
        rw [BitVec.toNat_and]
        exact Nat.lt_of_le_of_lt Nat.and_le_right (by decide)
      refine Nat.or_lt_two_pow ?_ (by omega)
      rw [BitVec.toNat_shiftLeft, Nat.shiftLeft_eq]
      exact Nat.lt_of_le_of_lt (Nat.mod_le _ _) (by omega)
    omega
  unfold sp_u2
  split
  · decide
  · split
    · exact key _ _
    · decide
theorem mm_newf {c : Nat} {k N : Nat} {ds : List Value} (h1 : tb.1 pc = some (.inl (o_new k N ds))) (hW : WF g Y M) (kk : ∀ M1, sm g Y M Y M1 ds k 1 N → (∀ x, x ≠ M.2.1 → M1.1 x = M.1 x) → ml T d tb (mi_nk tb.2 (pc + 3, lv, .ref M.2.1 :: s0, M1)) Q) : ml T d tb (pc, lv, s0, M) Q :=
  ml_new h1 rfl (kk _ (sm.mk hW) (fun x hx => mk1_ne hx))
theorem room_ok {x a : Int32} {n : Nat} (hn : n < 1073741824) (h0 : 0 ≤ a.toInt) (h1 : a.toInt ≤ n) : 0 ≤ (if 0 < (if ((nI n - a) / 8) < x then ((nI n - a) / 8) else x) then (if ((nI n - a) / 8) < x then ((nI n - a) / 8) else x) else 0).toInt ∧ 8 * (if 0 < (if ((nI n - a) / 8) < x then ((nI n - a) / 8) else x) then (if ((nI n - a) / 8) < x then ((nI n - a) / 8) else x) else 0).toInt ≤ n := by
  have z : (0 : Int32).toInt = 0 := rfl
  have e : (nI n - a).toInt = n - a.toInt := by
    rw [i_sub (by rw [nI_val hn]; omega) (by rw [nI_val hn]; omega), nI_val hn]
  have e8 : ((nI n - a) / 8).toInt = (n - a.toInt) / 8 := by rw [i_div8 (by omega), e]
  have hu : (if ((nI n - a) / 8) < x then ((nI n - a) / 8) else x).toInt ≤ (n - a.toInt) / 8 := by
    split
    · omega
    · rename_i h2
      have := i_nlt h2
      omega
  generalize (if ((nI n - a) / 8) < x then ((nI n - a) / 8) else x) = u at *
  split
  · rename_i h2
    have := i_lt h2
    omega
  · omega
theorem WF.code {a p o k : Nat} (h : WF g Y M) (hY : Y.1 a = some (4, [p, o, k])) : k ≤ 65540 ∧ ∃ x : Int32, mi_gf M a 4 2 = some (.int x) ∧ 0 ≤ x.toInt ∧ x.toInt ≤ k := by
  obtain ⟨l, h1, -, -, -, h0, x, h2, h3⟩ := (h.1 a 4 _ hY).obj (by decide)
  exact ⟨h0, x, gf_ob h1 h2, h3⟩
theorem WF.mem {a da n : Nat} (h : WF g Y M) (hY : Y.1 a = some (6, [da, n])) : ∃ x y : Int32, mi_gf M a 6 4 = some (.int x) ∧ mi_gf M a 6 5 = some (.int y) ∧ 0 ≤ x.toInt ∧ AW (Y.2 da) n x.toInt.toNat y := by
  obtain ⟨l, h1, -, -, -, x, y, h2, h3, h4, h5⟩ := (h.1 a 6 _ hY).obj (by decide)
  exact ⟨x, y, gf_ob h1 h2, gf_ob h1 h3, h4, h5⟩
theorem vin_c {i ln : Int32} (h0 : 0 ≤ i.toInt) (h : i.toInt < ln.toInt) : vp_in i ln.toNatClampNeg := by
  rintro (q | q)
  · exact nlt0 h0 q
  · have : ln.toInt.toNat ≤ i.toInt.toNat := q
    omega
theorem WF.mlen {a k da n : Nat} (h : WF g Y M) (hY : Y.1 a = some (23, [k, da, n])) : k < 1073741824 ∧ 8 * k ≤ n := (h.1 a _ _ hY).mem.1
/-- bit 2 of what was seen -/
def b2 (s : Int32) : Prop := ¬ (((s >>> (2 &&& 31)) &&& 1) = 0)
theorem ssr_bit (v : BitVec 32) : (v.sshiftRight 2 &&& 1#32).getLsbD 0 = v.getLsbD 2 := by
  rw [BitVec.getLsbD_and, BitVec.getLsbD_sshiftRight]
  simp
theorem b2_iff (s : Int32) : b2 s ↔ s.toBitVec.getLsbD 2 = true := by
  unfold b2
  rw [← Int32.toBitVec_inj]
  show ¬ (s.toBitVec.sshiftRight 2 &&& 1#32 = 0#32) ↔ _
  constructor
  · intro h
    cases hb : s.toBitVec.getLsbD 2 with
    | true => rfl
    | false =>
      refine absurd (BitVec.eq_of_getLsbD_eq fun i hi => ?_) h
      rcases i with _ | i
      · rw [ssr_bit, hb]
        rfl
      · simp
  · intro h e
    have e2 := congrArg (fun v => BitVec.getLsbD v 0) e
    rw [ssr_bit, h] at e2
    exact absurd e2 (by decide)
theorem b2_or {s t : Int32} (h : b2 s) : b2 (s ||| t) := by
  rw [b2_iff] at h ⊢
  rw [Int32.toBitVec_or, BitVec.getLsbD_or, h]
  rfl
theorem b2_two {s x : Int32} (h : x = 2) : b2 (s ||| (1 <<< (x &&& 31))) := by
  subst h
  rw [b2_iff, Int32.toBitVec_or, BitVec.getLsbD_or]
  have : ((1 : Int32) <<< ((2 : Int32) &&& 31)).toBitVec.getLsbD 2 = true := by decide
  rw [this, Bool.or_true]
end MIB
