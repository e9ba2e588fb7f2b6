/-! what a file's pool holds, as both sides see it (my own text) -/
section VWA
/-- the place of aN entry -/
def lk : List (Nat × Nat) → Nat → Option Nat
  | [], _ => none
  | q :: r, j => if q.1 = j then some q.2 else lk r j
theorem lk_in : ∀ {E : List (Nat × Nat)} {j p : Nat}, lk E j = some p → (j, p) ∈ E := by
  intro E
  induction E with
  | nil => intro j p h; cases h
  | cons q r ih =>
    intro j p h
    unfold lk at h
    split at h
    · rename_i h1
      cases h
      rw [← h1]
      exact List.mem_cons_self
    · exact List.mem_cons_of_mem _ (ih h)
theorem lk_no : ∀ {E : List (Nat × Nat)} {j : Nat}, lk E j = none → ∀ q ∈ E, ¬ q.1 = j := by
  intro E
  induction E with
  | nil => intro j h q hq; cases hq
  | cons q0 r ih =>
    intro j h q hq
    unfold lk at h
    split at h
    · cases h
    · rename_i h1
      rcases List.mem_cons.mp hq with rfl | hq
      · exact h1
      · exact ih h q hq
def tg (f : Nat → Int32) (E : List (Nat × Nat)) (j : Nat) : Nat := match lk E j with
  | some p => by1 f p
  | none => 0
def ixa (f : Nat → Int32) (p : Nat) : Nat := if by1 f p < 7 then 0 else if by1 f p = 15 then by1 f (p + 1) else by2 f (p + 1)
def ixb (f : Nat → Int32) (p : Nat) : Nat := if by1 f p < 7 then 0 else if by1 f p = 15 then by2 f (p + 2) else if by1 f p = 7 ∨ by1 f p = 8 ∨ by1 f p = 16 ∨ by1 f p = 19 ∨ by1 f p = 20 then 0 else by2 f (p + 3)
def fi (f : Nat → Int32) (E : List (Nat × Nat)) (j : Nat) : Nat := match lk E j with
  | some p => ixa f p
  | none => 0
def se (f : Nat → Int32) (E : List (Nat × Nat)) (j : Nat) : Nat := match lk E j with
  | some p => ixb f p
  | none => 0
def txo (s : (Nat × Nat) ⊕ List Nat) : List Nat := match s with
  | .inl _ => []
  | .inr l => l
def tX (f : Nat → Int32) (n : Nat) (E : List (Nat × Nat)) (j : Nat) : List Nat := match lk E j with
  | some p => if by1 f p = 1 then txo (s_utf f n (p + 1)) else []
  | none => []
theorem tg_lt (f : Nat → Int32) (E : List (Nat × Nat)) (j : Nat) : tg f E j < 256 := by
  unfold tg
  split
  · exact by1_lt _ _
  · omega
theorem fi_lt (f : Nat → Int32) (E : List (Nat × Nat)) (j : Nat) : fi f E j < 65536 := by
  unfold fi ixa
  split
  · rename_i p _
    have h1 := by1_lt f (p + 1)
    have h2 := by2_lt f (p + 1)
    repeat' split
    all_goals omega
  · omega
theorem se_lt (f : Nat → Int32) (E : List (Nat × Nat)) (j : Nat) : se f E j < 65536 := by
  unfold se ixb
  split
  · rename_i p _
    have h1 := by2_lt f (p + 2)
    have h2 := by2_lt f (p + 3)
    repeat' split
    all_goals omega
  · omega
theorem tx_no {f : Nat → Int32} {n : Nat} {E : List (Nat × Nat)} {j : Nat} (h : ¬ tg f E j = 1) : tX f n E j = [] := by
  unfold tg at h
  unfold tX
  split
  · rename_i p hp
    rw [hp] at h
    dsimp only at h
    rw [if_neg h]
  · rfl
theorem fi_no {f : Nat → Int32} {E : List (Nat × Nat)} {j : Nat} (h : tg f E j < 7) : fi f E j = 0 := by
  unfold tg at h
  unfold fi ixa
  split
  · rename_i p hp
    rw [hp] at h
    dsimp only at h
    rw [if_pos h]
  · rfl
theorem se_no {f : Nat → Int32} {E : List (Nat × Nat)} {j : Nat} (h : tg f E j < 7) : se f E j = 0 := by
  unfold tg at h
  unfold se ixb
  split
  · rename_i p hp
    rw [hp] at h
    dsimp only at h
    rw [if_pos h]
  · rfl
theorem s_text_ch {f : Nat → Int32} {e : Nat} : ∀ {r p : Nat} {l l' : List Nat}, (∀ c ∈ l, c < 65536) → s_text f e r p l = .inr l' → ∀ c ∈ l', c < 65536 := by
  intro r
  induction r with
  | zero => intro p l l' h hs; cases hs; exact h
  | succ r ih =>
    intro p l l' h hs
    unfold s_text at hs
    split at hs
    · cases hs; exact h
    · split at hs
      · cases hs
      · refine ih (fun c hc => ?_) hs
        rcases List.mem_append.mp hc with hc | hc
        · exact h c hc
        · have : c = u8n f p (u8k f e p) := by simpa using hc
          rw [this]
          exact (u8n_eq _ _ _).2
theorem s_text_len {f : Nat → Int32} {e : Nat} : ∀ {r p : Nat} {l l' : List Nat}, s_text f e r p l = .inr l' → l'.length ≤ l.length + r := by
  intro r
  induction r with
  | zero => intro p l l' hs; cases hs; omega
  | succ r ih =>
    intro p l l' hs
    unfold s_text at hs
    split at hs
    · cases hs; omega
    · split at hs
      · cases hs
      · have := ih hs
        simp only [List.length_append, List.length_cons, List.length_nil] at this
        omega
theorem s_utf_ch {f : Nat → Int32} {n p : Nat} : (∀ c ∈ txo (s_utf f n p), c < 65536) ∧ (txo (s_utf f n p)).length < 65536 := by
  unfold s_utf
  split
  · exact ⟨fun c hc => (by cases hc), by show 0 < 65536; decide⟩
  · split
    · exact ⟨fun c hc => (by cases hc), by show 0 < 65536; decide⟩
    · cases hs : s_text f (p + 2 + by2 f p) (by2 f p) (p + 2) [] with
      | inl w => exact ⟨fun c hc => (by cases hc), by simp [txo]⟩
      | inr l =>
        have h1 := s_text_ch (fun c hc => by cases hc) hs
        have h2 := s_text_len hs
        have h3 := by2_lt f p
        simp only [List.length_nil] at h2
        exact ⟨h1, by show l.length < 65536; omega⟩
theorem tx_len (f : Nat → Int32) (n : Nat) (E : List (Nat × Nat)) (j : Nat) : (tX f n E j).length < 65536 := by
  unfold tX
  split
  · split
    · exact s_utf_ch.2
    · simp
  · simp
theorem tx_ch (f : Nat → Int32) (n : Nat) (E : List (Nat × Nat)) (j i : Nat) : (tX f n E j).getD i 0 < 65536 := by
  have h : ∀ c ∈ tX f n E j, c < 65536 := by
    unfold tX
    split
    · split
      · exact s_utf_ch.1
      · intro c hc; cases hc
    · intro c hc; cases hc
  by_cases hi : i < (tX f n E j).length
  · rw [List.getD_eq_getElem?_getD, List.getElem?_eq_getElem hi, Option.getD_some]
    exact h _ (List.getElem_mem hi)
  · rw [List.getD_eq_getElem?_getD, List.getElem?_eq_none (by omega)]
    decide
/-- texts of literals -/
def ltx (k : Nat) : List Nat := (xe_lt k).2.2.2.map (fun c => c.toInt.toNat)
/-- literals of the class are where they were, each with a text equal to its own -/
def LT (g : xe_G) (M : mi_H) : Prop := ∀ k, k < 15 → g.2.1 k < M.2.1 ∧ ∃ (k' : Nat) (fl : Nat → Option Value), k' < 30 ∧ M.1 (g.2.1 k) = some (.inr (100 + k', fl)) ∧ (xe_lt k').2.2.2 = (xe_lt k).2.2.2
end VWA
section VWB
variable {T : Nat → Option (Nat × mi_B)} {tb : mi_B} {pc k : Nat} {lv : List (Nat × Value)} {st : List Value} {M : mi_H} {S' : mi_S} {Q : Option Value → mi_H → Prop}
theorem ps_reti {chk : Int32 → Bool} {x : Int32} (h1 : tb.1 pc = some (.inr (.inr (r_int chk)))) (hq : Q (some (.int x)) M) : pl T k tb (pc, lv, [.int x], M) Q := by
  refine pl_ret h1 (fun v hv => ?_)
  unfold r_int at hv
  dsimp only at hv
  split at hv
  · cases hv
    exact hq
  · cases hv
theorem ps_slen {a k' L : Nat} {fl : Nat → Option Value} (h1 : tb.1 pc = some (.inl o_slength)) (h : M.1 a = some (.inr (100 + k', fl))) (hL : (xe_lt k').2.2.2.length = L) (e1 : mi_nk tb.2 (pc + 3, lv, .int (nI L) :: st, M) = S') (kk : pl T k tb S' Q) : pl T k tb (pc, lv, .ref a :: st, M) Q := by
  subst e1
  refine pl_st h1 (fun S1 hS => ?_)
  unfold o_slength at hS
  simp only [h] at hS
  split at hS
  · cases hS
    rw [Nat.add_sub_cancel_left, hL]
    exact kk
  · cases hS
theorem xe_ch_all : ∀ k, k < 30 → ∀ j, j < (xe_lt k).2.2.2.length → xe_ch k j = nI ((ltx k).getD j 0) := by
  decide +kernel
theorem ps_schar {a k' k0 j : Nat} {fl : Nat → Option Value} (h1 : tb.1 pc = some (.inl o_scharAt)) (h : M.1 a = some (.inr (100 + k', fl))) (hk : k0 < 30 ∧ (xe_lt k').2.2.2 = (xe_lt k0).2.2.2) (hj : j < 1073741824) (e1 : mi_nk tb.2 (pc + 3, lv, .int (nI ((ltx k0).getD j 0)) :: st, M) = S') (kk : pl T k tb S' Q) : pl T k tb (pc, lv, .int (nI j) :: .ref a :: st, M) Q := by
  subst e1
  refine pl_st h1 (fun S1 hS => ?_)
  unfold o_scharAt at hS
  simp only [h] at hS
  split at hS
  · rename_i hc
    cases hS
    have e := hc.2.2.2.2
    rw [Nat.add_sub_cancel_left, nI_toNat hj] at e ⊢
    rw [hk.2] at e
    have e2 : xe_ch k' j = nI ((ltx k0).getD j 0) := by
      rw [← xe_ch_all k0 hk.1 j e]
      unfold xe_ch
      rw [hk.2]
    rw [e2]
    exact kk
  · cases hS
/-- rows of objects -/
def ro (C : String) (n : Nat) (G : Nat → Value) : mi_C := .inl (.object C, n, fun i => some (G i))
theorem ga_ro {a n : Nat} {C : String} {G : Nat → Value} (h : M.1 a = some (ro C n G)) : mi_ga M a (.object C) = some (n, fun i => some (G i)) := by
  unfold mi_ga
  rw [h]
  simp [ro]
theorem ps_aald {C : String} {a n j : Nat} {G : Nat → Value} {v : Value} (h1 : tb.1 pc = some (.inl (o_ald (.object C)))) (h : M.1 a = some (ro C n G)) (hv : j < 1073741824 ∧ G j = v) (e1 : mi_nk tb.2 (pc + 1, lv, v :: st, M) = S') (kk : pl T k tb S' Q) : pl T k tb (pc, lv, .int (nI j) :: .ref a :: st, M) Q := by
  subst e1
  refine pl_st h1 (fun S1 hS => ?_)
  unfold o_ald at hS
  simp only [ga_ro h] at hS
  split at hS
  · cases hS
  · cases hS
    rw [nI_toNat hv.1, hv.2]
    exact kk
theorem ps_aalen {C : String} {a n : Nat} {G : Nat → Value} (h1 : tb.1 pc = some (.inl (o_alen (.object C)))) (h : M.1 a = some (ro C n G)) (e1 : mi_nk tb.2 (pc + 1, lv, .int (nI n) :: st, M) = S') (kk : pl T k tb S' Q) : pl T k tb (pc, lv, .ref a :: st, M) Q := by
  subst e1
  exact pl_is h1 (S' := (pc + 1, lv, .int (nI n) :: st, M)) (by simp only [o_alen, ga_ro h]; rfl) kk
theorem ps_anew {C : String} {n : Int32} {z : Nat} (h1 : tb.1 pc = some (.inl (o_anew C))) (hz : M.2.1 = z) (kk : ∀ M2 : mi_H, ¬ n < 0 → M2.1 z = some (ro C n.toNatClampNeg (fun _ => .null)) → (∀ y, y ≠ z → M2.1 y = M.1 y) → M2.2.1 = z + 1 → pl T k tb (mi_nk tb.2 (pc + 3, lv, .ref z :: st, M2)) Q) : pl T k tb (pc, lv, .int n :: st, M) Q := by
  subst hz
  refine pl_st h1 (fun S1 hS => ?_)
  unfold o_anew at hS
  dsimp only at hS
  split at hS
  · cases hS
  · rename_i hin
    cases hS
    exact kk _ (fun h9 => hin (Or.inl h9)) (by simp [va_up, ro]) (fun y hy => by simp [va_up, hy]) rfl
def upv (G : Nat → Value) (i : Nat) (v : Value) : Nat → Value := fun j => if j = i then v else G j
theorem ps_aast {C : String} {a n b j : Nat} {G : Nat → Value} (h1 : tb.1 pc = some (.inl (o_aast C))) (h : M.1 a = some (ro C n G)) (hj : j < 1073741824)
    (kk : ∀ M2 : mi_H, j < n → M2.1 a = some (ro C n (upv G j (.ref b))) → (∀ z, z ≠ a → M2.1 z = M.1 z) → M2.2 = M.2 → pl T k tb (mi_nk tb.2 (pc + 1, lv, st, M2)) Q) : pl T k tb (pc, lv, .ref b :: .int (nI j) :: .ref a :: st, M) Q := by
  refine pl_st h1 (fun S1 hS => ?_)
  unfold o_aast at hS
  simp only [ga_ro h] at hS
  split at hS
  · cases hS
  · rename_i hin
    split at hS
    · cases hS
      rw [nI_toNat hj] at hin ⊢
      refine kk _ (Nat.not_le.mp (fun h9 => hin (Or.inr h9))) ?_ (fun z hz => by simp [va_up, hz]) rfl
      have e : va_up (fun i => some (G i)) j (some (Value.ref b)) = fun i => some (upv G j (.ref b) i) := by
        funext i
        unfold va_up upv
        split <;> rfl
      simp only [va_up, if_true, ro]
      rw [← e]
    · cases hS
/-- numbers -/
def aN (x m : Nat) : Nat := x &&& m
theorem nI_an {p k : Nat} {x : Int32} (hx : x = nI k) : nI p &&& x = nI (aN p k) := by
  subst hx
  apply Int32.toBitVec_inj.mp
  apply BitVec.eq_of_toNat_eq
  rw [Int32.toBitVec_and, BitVec.toNat_and, nI_bv, nI_bv, nI_bv]
  simp only [BitVec.toNat_ofNat, aN]
  rw [Nat.and_mod_two_pow]
theorem an_le (x m : Nat) : aN x m ≤ m := Nat.and_le_right
theorem nI_mul1 {p k : Nat} {x y : Int32} (hx : x = nI p) (hy : y = nI k) (h : p * k < 1073741824) : x * y = nI (p * k) := by
  subst hx
  subst hy
  apply Int32.toBitVec_inj.mp
  apply BitVec.eq_of_toNat_eq
  rw [Int32.toBitVec_mul, BitVec.toNat_mul, nI_bv, nI_bv, nI_bv]
  simp only [BitVec.toNat_ofNat]
  rw [← Nat.mul_mod]
theorem nI_sub1 {p k : Nat} {x : Int32} (hx : x = nI k) (h : k ≤ p) (hp : p < 1073741824) : nI p - x = nI (p - k) := by
  subst hx
  apply Int32.toInt_inj.mp
  rw [nI_val (by omega), nI_sub (nI_val (by omega)) (by omega) hp]
  omega
theorem nI_add2 {p k : Nat} {x y : Int32} (hx : x = nI p) (hy : y = nI k) (h : p + k < 1073741824) : x + y = nI (p + k) := by
  subst hx
  exact nI_add1 hy h
theorem m1_ne {x : Nat} (h : x < 1073741824) : ¬ (-1 : Int32) = nI x := fun e => by
  have e2 := congrArg Int32.toInt e
  rw [nI_val h] at e2
  have e3 : (-1 : Int32).toInt = -1 := rfl
  omega
/-- cells that are none of a view's -/
def n7 (S : List Nat) (M : mi_H) : Prop := ∀ a ∈ S, ∃ ci l, M.1 a = some (ob ci l) ∧ ¬ ci = 7 ∧ ci < 100
theorem n7nil : n7 [] M := fun a ha => by cases ha
theorem n7c {S : List Nat} {a ci : Nat} {l : List Value} (h : M.1 a = some (ob ci l)) (hc : ¬ ci = 7 ∧ ci < 100) (hs : n7 S M) : n7 (a :: S) M := fun b hb => by
  rcases List.mem_cons.mp hb with rfl | hb
  · exact ⟨ci, l, h, hc⟩
  · exact hs b hb
/-- the shape of a text as the class notes it -/
def shI (x : Nat) : Int32 := if x = 0 then -1 else nI x
end VWB
section VWC
theorem sub_v {e p : Nat} (he : e < 1000000) (hp : p < 1000000) : (nI e - nI p).toInt = (e : Int) - p := nI_sub (nI_val (by omega)) (by omega) (by omega)
theorem sub_v2 {e p p2 : Nat} (he : e < 1000000) (hp : p + p2 < 1000000) : (nI e - nI p - nI p2).toInt = (e : Int) - (p + p2 : Nat) := by
  have h1 := sub_v (e := e) (p := p) he (by omega)
  have h2 : (nI p2).toInt = p2 := nI_val (by omega)
  rw [Int32.toInt_sub, h1, h2]
  rw [Int.bmod_eq_of_le (by omega) (by omega)]
  omega
theorem sub_lt1 {e p k : Nat} (he : e < 1000000) (hp : p < 1000000) (hk : k < 1000000) : nI e - nI p < nI k ↔ e < p + k := by
  rw [Int32.lt_iff_toInt_lt, sub_v he hp, nI_val (by omega)]
  omega
theorem sub_le1 {e p k : Nat} (he : e < 1000000) (hp : p < 1000000) (hk : k < 1000000) : nI e - nI p ≤ nI k ↔ e ≤ p + k := by
  rw [Int32.le_iff_toInt_le, sub_v he hp, nI_val (by omega)]
  omega
theorem lt_sub1 {e p k : Nat} (he : e < 1000000) (hp : p < 1000000) (hk : k < 2147483648) : nI k < nI e - nI p ↔ k + p < e := by
  rw [Int32.lt_iff_toInt_lt, sub_v he hp, nI_val31 hk]
  omega
theorem le_sub1 {e p k : Nat} (he : e < 1000000) (hp : p < 1000000) (hk : k < 2147483648) : nI k ≤ nI e - nI p ↔ k + p ≤ e := by
  rw [Int32.le_iff_toInt_le, sub_v he hp, nI_val31 hk]
  omega
theorem sub_lt2 {e p p2 k : Nat} (he : e < 1000000) (hp : p + p2 < 1000000) (hk : k < 1000000) : nI e - nI p - nI p2 < nI k ↔ e < p + p2 + k := by
  rw [Int32.lt_iff_toInt_lt, sub_v2 he hp, nI_val (by omega)]
  omega
theorem sub_le2 {e p p2 k : Nat} (he : e < 1000000) (hp : p + p2 < 1000000) (hk : k < 1000000) : nI e - nI p - nI p2 ≤ nI k ↔ e ≤ p + p2 + k := by
  rw [Int32.le_iff_toInt_le, sub_v2 he hp, nI_val (by omega)]
  omega
theorem lt_sub2 {e p p2 k : Nat} (he : e < 1000000) (hp : p + p2 < 1000000) (hk : k < 2147483648) : nI k < nI e - nI p - nI p2 ↔ k + (p + p2) < e := by
  rw [Int32.lt_iff_toInt_lt, sub_v2 he hp, nI_val31 hk]
  omega
theorem le_sub2 {e p p2 k : Nat} (he : e < 1000000) (hp : p + p2 < 1000000) (hk : k < 2147483648) : nI k ≤ nI e - nI p - nI p2 ↔ k + (p + p2) ≤ e := by
  rw [Int32.le_iff_toInt_le, sub_v2 he hp, nI_val31 hk]
  omega
end VWC
