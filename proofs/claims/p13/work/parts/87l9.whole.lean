section
/-! the whole file as the reference checks it (my own text) -/
section WMA
variable {f : Nat → Int32} {n : Nat} {E : List (Nat × Nat)}
theorem whole_in {p1 pF pM pA : Nat} (h : s_whole f n = .inr (E, p1, pF, pM, pA)) : s_pool f n (by2 f 6) = .inr (p1, E) := by
  unfold s_whole at h
  split at h
  · cases h
  · cases hp : s_pool f n (by2 f 6) with
    | inl e => rw [hp] at h; cases h
    | inr y =>
      obtain ⟨a, b⟩ := y
      rw [hp] at h
      dsimp only at h
      cases hc : s_class f n a with
      | inl e => rw [hc] at h; cases h
      | inr pF' =>
        rw [hc] at h
        dsimp only at h
        cases hf : s_mbs f n pF' with
        | inl e => rw [hf] at h; cases h
        | inr pM' =>
          rw [hf] at h
          dsimp only at h
          cases hm : s_mbs f n pM' with
          | inl e => rw [hm] at h; cases h
          | inr pA' =>
            rw [hm] at h
            dsimp only at h
            cases he : s_end f n pA' with
            | some e => rw [he] at h; cases h
            | none =>
              rw [he] at h
              cases h
              rfl
/-- an entry lies well in the file -/
def ep1 (f : Nat → Int32) (n p : Nat) : Prop := p + 1 ≤ n ∧ (by1 f p = 15 → p + 4 ≤ n) ∧ (7 ≤ by1 f p → p + 3 ≤ n) ∧ (7 ≤ by1 f p ∧ ¬ (by1 f p = 15 ∨ by1 f p = 7 ∨ by1 f p = 8 ∨ by1 f p = 16 ∨ by1 f p = 19 ∨ by1 f p = 20) → p + 5 ≤ n) ∧ ¬ by1 f p = 0
theorem ent_ok {mj N k p : Nat} {y : Nat × ((List Nat) ⊕ (Option (Nat × Nat)))} (h : s_entry f n mj N k p = .inr y) : ep1 f n p := by
  unfold s_entry at h
  split at h
  · cases h
  · rename_i h0
    split at h
    · cases h
    · rename_i hT
      have h00 : ¬ by1 f p = 0 := fun e => hT (by rw [e]; unfold tgOk; omega)
      split at h
      · cases h
      · split at h
        · unfold ep1; omega
        · split at h
          · unfold ep1; omega
          · split at h
            · unfold ep1; omega
            · cases he : s_ix f n (by1 f p) (p + 1) with
              | inl e => rw [he] at h; cases h
              | inr z =>
                clear h
                unfold s_ix at he
                unfold ep1
                split at he
                · split at he
                  · cases he
                  · split at he
                    · cases he
                    · omega
                · split at he
                  · cases he
                  · split at he
                    · omega
                    · split at he
                      · cases he
                      · omega
theorem ents_ok {mj N : Nat} : ∀ {r k p p' : Nat} {E0 E : List (Nat × Nat)}, (∀ q ∈ E0, ep1 f n q.2) → s_ents f n mj N r k p E0 = .inr (p', E) → ∀ q ∈ E, ep1 f n q.2 := by
  intro r
  induction r with
  | zero => intro k p p' E0 E h0 h; cases h; exact h0
  | succ r ih =>
    intro k p p' E0 E h0 h
    unfold s_ents at h
    split at h
    · cases h; exact h0
    · cases he : s_entry f n mj N k p with
      | inl e => rw [he] at h; cases h
      | inr y =>
        obtain ⟨p2, x⟩ := y
        rw [he] at h
        refine ih ?_ h
        intro q hq
        rcases List.mem_append.mp hq with hq | hq
        · exact h0 q hq
        · have e : q = (k, p) := by simpa using hq
          rw [e]
          exact ent_ok he
theorem EP_of {mj p' : Nat} (h : s_pool f n mj = .inr (p', E)) : EP f n E ∧ 1 ≤ by2 f 8 := by
  unfold s_pool at h
  split at h
  · cases h
  · split at h
    · cases h
    · exact ⟨fun j p hp => ents_ok (fun q hq => by cases hq) h _ (lk_in hp), by omega⟩
theorem chkP_all {mj : Nat} : ∀ {r k : Nat}, chkP f n E mj r k = none → ∀ j, k ≤ j → j < k + r → ¬ lnkN f E j = 0 ∧ brkN f n E mj j = 0 := by
  intro r
  induction r with
  | zero => intro k h j h1 h2; omega
  | succ r ih =>
    intro k h j h1 h2
    unfold chkP at h
    split at h
    · cases h
    · split at h
      · by_cases e : j = k
        · rw [e]
          exact ⟨by assumption, by assumption⟩
        · exact ih h j (by omega) (by omega)
      · cases h
theorem CP_of {mj N : Nat} (h : chkP f n E mj (N - 1) 1 = none) (hE : ∀ q ∈ E, 1 ≤ q.1 ∧ q.1 < N) : CP f n E := by
  intro k hk
  have hkE : 1 ≤ k ∧ k < N := by
    unfold tg at hk
    cases hl : lk E k with
    | none => rw [hl] at hk; cases hk
    | some p => exact hE _ (lk_in hl)
  obtain ⟨h1, h2⟩ := chkP_all h k hkE.1 (by omega)
  have h3 : tg f E (fi f E k) = 1 := by
    unfold lnkN at h1
    rw [if_pos (Or.inl hk)] at h1
    split at h1
    · assumption
    · exact absurd rfl h1
  refine ⟨h3, ?_⟩
  unfold brkN at h2
  rw [if_pos hk] at h2
  split at h2
  · cases h2
  · rename_i h4
    cases ht : tX f n E (fi f E k) with
    | nil => rw [ht] at h4; exact absurd (by decide) h4
    | cons a l => exact Nat.succ_pos _
theorem atE_of {e : Nat} : ∀ {c p x : Nat}, p ≤ n → s_atts f n c p = .inr x → x ≤ e → s_atE f e c p = some x := by
  intro c
  induction c with
  | zero => intro p x hp h he; cases h; rfl
  | succ c ih =>
    intro p x hp h he
    unfold s_atts at h
    split at h
    · cases h
    · split at h
      · cases h
      · split at h
        · cases h
        · have h1 := s_atts_le (by omega) h
          unfold s_atE
          rw [if_neg (by omega), if_neg (by omega)]
          exact ih (by omega) h he
theorem atE_at {p e : Nat} (h : s_attributes f n p = .inr e) : p + 2 ≤ e ∧ e ≤ n ∧ s_atE f e (by2 f p) (p + 2) = some e := by
  have h1 := s_attributes_le2 h
  have h2 := s_atts_of h
  exact ⟨h1.1, h1.2, atE_of h2.1 h2.2 (Nat.le_refl _)⟩
/-- where a member that begins at p ends -/
def mE (f : Nat → Int32) (n p : Nat) : Nat := match s_attributes f n (p + 6) with
  | .inr e => e
  | .inl _ => 0
theorem mE_is {p e : Nat} (h : s_attributes f n (p + 6) = .inr e) : mE f n p = e := by
  unfold mE
  rw [h]
theorem mbs_all : ∀ {c p x : Nat}, s_mems f n c p = .inr x → (mbs f n c p).length = c ∧ (0 < c → (mbs f n c p).getD 0 0 = p) ∧ ∀ i, i < c → s_attributes f n ((mbs f n c p).getD i 0 + 6) = .inr (mE f n ((mbs f n c p).getD i 0)) ∧ (i + 1 < c → (mbs f n c p).getD (i + 1) 0 = mE f n ((mbs f n c p).getD i 0)) := by
  intro c
  induction c with
  | zero => intro p x h; exact ⟨rfl, fun h9 => by omega, fun i hi => by omega⟩
  | succ c ih =>
    intro p x h
    unfold s_mems at h
    split at h
    · cases h
    · split at h
      · cases h
      · split at h
        · cases h
        · cases ha : s_attributes f n (p + 6) with
          | inl e => rw [ha] at h; cases h
          | inr y =>
            rw [ha] at h
            obtain ⟨h1, h2, h3⟩ := ih h
            have e : mbs f n (c + 1) p = p :: mbs f n c y := by
              show p :: _ = _
              rw [ha]
            rw [e]
            refine ⟨by rw [List.length_cons, h1], fun _ => rfl, fun i hi => ?_⟩
            cases i with
            | zero =>
              refine ⟨?_, fun h9 => ?_⟩
              · show s_attributes f n (p + 6) = .inr (mE f n p)
                rw [mE_is ha]
                exact ha
              · show (mbs f n c y).getD 0 0 = mE f n p
                rw [mE_is ha]
                exact h2 (by omega)
            | succ i =>
              have := h3 i (by omega)
              exact ⟨this.1, fun h9 => this.2 (by omega)⟩
theorem MBS_of {p x : Nat} (h : s_mbs f n p = .inr x) : MBS f n (mbs f n (by2 f p) (p + 2)) p (fun i => mE f n ((mbs f n (by2 f p) (p + 2)).getD i 0)) := by
  unfold s_mbs at h
  split at h
  · cases h
  · obtain ⟨h1, h2, h3⟩ := mbs_all h
    refine ⟨h1, by omega, fun h9 => h2 (by omega), fun i hi => ?_⟩
    obtain ⟨h4, h5⟩ := h3 i (by omega)
    obtain ⟨h6, h7, h8⟩ := atE_at h4
    refine ⟨by dsimp only; omega, h7, h8, fun h9 => h5 (by omega)⟩
end WMA

section WMB
variable {f : Nat → Int32} {n : Nat} {I I' : rI} {R R' : rR}
theorem cc_none {E : List (Nat × Nat)} {h : Nat} (e : ccS f n E h = none) : hdS f n E h = none ∧ ifS f n E (h + 8) (by2 f (h + 6)) 0 = none := by
  unfold ccS at e
  split at e
  · cases e
  · exact ⟨by assumption, e⟩
theorem cc_some {E : List (Nat × Nat)} {h : Nat} {e9 : Nat × Nat} {o : Option (Nat × Nat)} (e : ccS f n E h = some e9) : (match hdS f n E h with
    | some e => some e
    | none => match ifS f n E (h + 8) (by2 f (h + 6)) 0 with
      | some e => some e
      | none => o) = some e9 := by
  unfold ccS at e
  split at e
  · rename_i h1
    rw [h1]
    exact e
  · rename_i h1
    rw [h1]
    dsimp only
    rw [e]
theorem clS_lt {E : List (Nat × Nat)} {x mj : Nat} : ∀ {c p s bc b : Nat}, bc < 65536 → clS f n E x mj c p s bc = .inr b → b < 65536 := by
  intro c
  induction c with
  | zero => intro p s bc b hb h; cases h; exact hb
  | succ c ih =>
    intro p s bc b hb h
    unfold clS at h
    split at h
    · cases h
    · split at h
      · cases h
      · split at h
        · cases h
        · cases h
        · refine ih ?_ h
          split
          · exact by2_lt _ _
          · exact hb
theorem clS_bc {E : List (Nat × Nat)} {x mj c p b : Nat} (h : clS f n E x mj c p 0 0 = .inr b) : b < 65536 := clS_lt (by decide) h
/-- n bytes of a row -/
def BX (a n : Nat) (f : Nat → Int32) (I : rI) (R : rR) : Prop := ∀ i, i < n → R a i = some (f i) ∧ vp_nar .byte (f i) = f i
theorem BX.mono {a : Nat} (h : BX a n f I R) (hI : ∀ k, k ∈ ([] : List Nat) → I' k = I k) (hR : ∀ k, k ∈ [a] → R' k = R k) : BX a n f I' R' := fun i hi => by
  rw [hR a List.mem_cons_self]
  exact h i hi
theorem BX.st {a i : Nat} {x : Int32} (h : BX a i f I R) (hR : R' = rset R a i (vp_nar .byte x)) (hx : vp_nar .byte (f i) = f i) (e : x = f i) : BX a (i + 1) f I' R' := fun j hj => by
  subst hR
  by_cases e9 : j = i
  · rw [e9, rset_at, e, hx]
    exact ⟨rfl, rfl⟩
  · rw [rset_el e9]
    exact h j (by omega)
theorem BX.le {a m : Nat} (h : BX a n f I R) (hm : m ≤ n) : BX a m f I R := fun i hi => h i (by omega)
/-- what is kept, if anything is -/
def KP (kn : Int32) (I : rI) (R : rR) : Prop := kn < 0 ∨ ∃ (n2 : Nat) (f2 : Nat → Int32), kn = nI n2 ∧ n2 ≤ 65540 ∧ BX 14 n2 f2 I R
theorem KP.mono {kn : Int32} (h : KP kn I R) (hI : ∀ k, k ∈ ([] : List Nat) → I' k = I k) (hR : ∀ k, k ∈ [14] → R' k = R k) : KP kn I' R' :=
  h.imp id (fun ⟨n2, f2, h1, h2, h3⟩ => ⟨n2, f2, h1, h2, h3.mono hI hR⟩)
theorem KP.ge {kn : Int32} (h : KP kn I R) (hk : ¬ kn < 0) : ∃ (n2 : Nat) (f2 : Nat → Int32), kn = nI n2 ∧ n2 ≤ 65540 ∧ BX 14 n2 f2 I R := h.resolve_left hk
theorem KP.of (hn : n ≤ 65540) (h : BX 14 n f I R) : KP (nI n) I R := Or.inr ⟨n, f, rfl, hn, h⟩
end WMB
set_option maxHeartbeats 4000000 in
theorem rd_checkFile {g : xe_G} {m0 : Nat} {q : Nat → Nat} {z : Nat × Nat} {I : rI} {R : rR} {M : mi_H} {n : Nat} {f : Nat → Int32} {tx : List (List Nat)} {cN : Nat} {A : Nat → Nat} {s1 s2 s3 : Nat} (hR : RS g m0 q z I R M) (hi20 : I 20 = some 0) (hi25 : I 25 = some 0) (hi26 : I 26 = some 0) (hi9 : I 9 = some (nI s1)) (hi10 : I 10 = some (nI s2)) (hi11 : I 11 = some (nI s3)) (hF : FK n f I R) (hY : SYT tx cN A I R) (hK : KX I R) (hs1 : s1 < tx.length ∧ tx.getD s1 [] = ltx 25) (hs2 : s2 < tx.length ∧ tx.getD s2 [] = ltx 26) (hs3 : s3 < tx.length ∧ tx.getD s3 [] = ltx 27) : pt (mT g) 190 [.ref m0] M (fun v M' => (∃  (I' : rI) (R' : rR), (s_read f n = none) ∧ v = some (.int 1) ∧ RS g m0 q z I' R' M' ∧ eqI [3, 8, 20, 25, 26, 47, 48, 50, 51, 52, 53, 54, 55, 56, 57, 58, 59, 60, 61, 65, 66, 67, 68, 69, 70, 71, 72] I I' ∧ eqR [1, 2, 4, 5, 6, 7, 21, 22, 27, 28, 29, 30, 31, 32, 33, 34, 35, 36, 37, 38, 39, 40, 41, 42, 43, 44, 45, 46] R R') ∨ (∃ (e9 : Nat × Nat) (I' : rI) (R' : rR), (s_read f n = some e9) ∧ v = some (.int 0) ∧ RS g m0 q z I' R' M' ∧ eqI [3, 8, 20, 25, 26, 47, 48, 50, 51, 52, 53, 54, 55, 56, 57, 58, 59, 60, 61, 65, 66, 67, 68, 69, 70, 71, 72] I I' ∧ eqR [1, 2, 4, 5, 6, 7, 21, 22, 27, 28, 29, 30, 31, 32, 33, 34, 35, 36, 37, 38, 39, 40, 41, 42, 43, 44, 45, 46] R R' ∧ I' 47 = some (nI e9.1) ∧ I' 48 = some (nI e9.2))) := by
  refine pt_in (b := mb_190 g) rfl (fun kf => ?_)
  show pl (mT g) kf (mb_190 g).2 (0, [(0, .ref m0)], [], M) _
  have hEI : eqI [3, 8, 20, 25, 26, 47, 48, 50, 51, 52, 53, 54, 55, 56, 57, 58, 59, 60, 61, 65, 66, 67, 68, 69, 70, 71, 72] I I := eqI.rf
  have hER : eqR [1, 2, 4, 5, 6, 7, 21, 22, 27, 28, 29, 30, 31, 32, 33, 34, 35, 36, 37, 38, 39, 40, 41, 42, 43, 44, 45, 46] R R := eqR.rf
  have hn := hF.1
  have LL : ∀ (kf : Nat), (∀ (N mj p1 pF pM pA : Nat) (E : List (Nat × Nat)) (tx : List (List Nat)) (cN : Nat) (A : Nat → Nat) (M1 : mi_H) (I1 : rI) (R1 : rR), (RS g m0 q z I1 R1 M1) → (eqI [3, 8, 20, 25, 26, 47, 48, 50, 51, 52, 53, 54, 55, 56, 57, 58, 59, 60, 61, 65, 66, 67, 68, 69, 70, 71, 72] I I1) → (eqR [1, 2, 4, 5, 6, 7, 21, 22, 27, 28, 29, 30, 31, 32, 33, 34, 35, 36, 37, 38, 39, 40, 41, 42, 43, 44, 45, 46] R R1) → (I1 51 = some 0) → (I1 52 = some (nI N)) → (I1 53 = some (nI mj)) → (I1 54 = some (nI p1)) → (I1 55 = some (nI pF)) → (I1 56 = some (nI pM)) → (I1 57 = some (nI pA)) → (I1 25 = some (nI 0)) → (I1 26 = some (nI 0)) → (I1 71 = some (nI 0)) → (I1 66 = some 0) → (I1 65 = some (nI 0)) → (I1 68 = some (nI 0)) → (I1 69 = some (nI 0)) → (I1 70 = some (-1)) → (I1 72 = some (-1)) → (I1 9 = some (nI s1)) → (I1 10 = some (nI s2)) → (I1 11 = some (nI s3)) → (FK n f I1 R1) → (SYT tx cN A I1 R1) → (RPV f n E tx N I1 R1) → (KX I1 R1) → (N = by2 f 8) → (mj = by2 f 6) → (s_whole f n = .inr (E, p1, pF, pM, pA)) → (s1 < tx.length ∧ tx.getD s1 [] = ltx 25) → (s2 < tx.length ∧ tx.getD s2 [] = ltx 26) → (s3 < tx.length ∧ tx.getD s3 [] = ltx 27) → (s_class f n p1 = .inr pF) → (s_mbs f n pF = .inr pM) → (s_mbs f n pM = .inr pA) → (s_attributes f n pA = .inr n) →  pl (mT g) kf (mb_190 g).2 (47, [(0, .ref m0)], [], M1) (fun v M' => (∃  (I' : rI) (R' : rR), (s_read f n = none) ∧ v = some (.int 1) ∧ RS g m0 q z I' R' M' ∧ eqI [3, 8, 20, 25, 26, 47, 48, 50, 51, 52, 53, 54, 55, 56, 57, 58, 59, 60, 61, 65, 66, 67, 68, 69, 70, 71, 72] I I' ∧ eqR [1, 2, 4, 5, 6, 7, 21, 22, 27, 28, 29, 30, 31, 32, 33, 34, 35, 36, 37, 38, 39, 40, 41, 42, 43, 44, 45, 46] R R') ∨ (∃ (e9 : Nat × Nat) (I' : rI) (R' : rR), (s_read f n = some e9) ∧ v = some (.int 0) ∧ RS g m0 q z I' R' M' ∧ eqI [3, 8, 20, 25, 26, 47, 48, 50, 51, 52, 53, 54, 55, 56, 57, 58, 59, 60, 61, 65, 66, 67, 68, 69, 70, 71, 72] I I' ∧ eqR [1, 2, 4, 5, 6, 7, 21, 22, 27, 28, 29, 30, 31, 32, 33, 34, 35, 36, 37, 38, 39, 40, 41, 42, 43, 44, 45, 46] R R' ∧ I' 47 = some (nI e9.1) ∧ I' 48 = some (nI e9.2)))) ∧ (∀ (N mj bc k : Nat) (E : List (Nat × Nat)) (tx : List (List Nat)) (cN : Nat) (A : Nat → Nat) (M1 : mi_H) (I1 : rI) (R1 : rR), (RS g m0 q z I1 R1 M1) → (eqI [3, 8, 20, 25, 26, 47, 48, 50, 51, 52, 53, 54, 55, 56, 57, 58, 59, 60, 61, 65, 66, 67, 68, 69, 70, 71, 72] I I1) → (eqR [1, 2, 4, 5, 6, 7, 21, 22, 27, 28, 29, 30, 31, 32, 33, 34, 35, 36, 37, 38, 39, 40, 41, 42, 43, 44, 45, 46] R R1) → (I1 51 = some 0) → (I1 52 = some (nI N)) → (I1 53 = some (nI mj)) → (I1 71 = some (nI bc)) → (FK n f I1 R1) → (SYT tx cN A I1 R1) → (RPV f n E tx N I1 R1) → (EP f n E) → (N < 65536) → (mj < 65536) → (bc < 65536) → (1 ≤ k ∧ k ≤ N) → (s_read f n = chkB f E bc (N - 1) 1) → (chkB f E bc (N - k) k = chkB f E bc (N - 1) 1) →  pl (mT g) kf (mb_190 g).2 (94, [(0, .ref m0), (1, .int (nI k))], [], M1) (fun v M' => (∃  (I' : rI) (R' : rR), (s_read f n = none) ∧ v = some (.int 1) ∧ RS g m0 q z I' R' M' ∧ eqI [3, 8, 20, 25, 26, 47, 48, 50, 51, 52, 53, 54, 55, 56, 57, 58, 59, 60, 61, 65, 66, 67, 68, 69, 70, 71, 72] I I' ∧ eqR [1, 2, 4, 5, 6, 7, 21, 22, 27, 28, 29, 30, 31, 32, 33, 34, 35, 36, 37, 38, 39, 40, 41, 42, 43, 44, 45, 46] R R') ∨ (∃ (e9 : Nat × Nat) (I' : rI) (R' : rR), (s_read f n = some e9) ∧ v = some (.int 0) ∧ RS g m0 q z I' R' M' ∧ eqI [3, 8, 20, 25, 26, 47, 48, 50, 51, 52, 53, 54, 55, 56, 57, 58, 59, 60, 61, 65, 66, 67, 68, 69, 70, 71, 72] I I' ∧ eqR [1, 2, 4, 5, 6, 7, 21, 22, 27, 28, 29, 30, 31, 32, 33, 34, 35, 36, 37, 38, 39, 40, 41, 42, 43, 44, 45, 46] R R' ∧ I' 47 = some (nI e9.1) ∧ I' 48 = some (nI e9.2)))) := by
    intro kf
    induction kf with
    | zero => exact ⟨by intros; exact pl_0, by intros; exact pl_0⟩
    | succ kf ih =>
      refine ⟨?_, ?_⟩
      · skip
        intro N mj p1 pF pM pA E tx cN A M1 I1 R1 hR1 hEI1 hER1 hl51 hl52 hl53 hl54 hl55 hl56 hl57 hl25 hl26 hl71 hl66 hl65 hl68 hl69 hl70 hl72 hl9 hl10 hl11 hF1 hY1 hP1 hK1 hN8 hm6 hwh hs1 hs2 hs3 hc hf hm ha
        have hn := hF1.1
        obtain ⟨hEP, hN0⟩ := EP_of (whole_in hwh)
        have hN : N < 65536 := by rw [hN8]; exact by2_lt _ _
        have hmj : mj < 65536 := by rw [hm6]; exact by2_lt _ _
        have hN1 : 1 ≤ N := by omega
        have hin := (s_class_in hc).1
        have hMF := MBS_of hf
        have hMM := MBS_of hm
        have hat := atE_at ha
        have hb1 := by2_lt f pF
        have hb2 := by2_lt f pM
        have hcf := by2_lt f p1
        refine ps_st1 (S' := (48, [(0, .ref m0)], [.ref m0], M1)) rfl rfl rfl ?_
        refine pl_call (a := [.ref m0]) (rest := []) rfl rfl rfl (rd_checkPool (n := n) (f := f) (tx := tx) (cN := cN) (A := A) (N := N) (mj := mj) (E := E) (s1 := s1) hR1 hl51 hl52 hl53 hl9 hF1 hY1 hP1 (hEP) (hN) (hmj) (hs1) (hN1)) (fun v1 M2 q3 => ?_)
        rcases q3 with q3 | q3
        · skip
          obtain ⟨I4, R5, q48_s, rfl, hR6, hI7, hX8⟩ := q3
          have hi12 := (hI7 51 (by decide)).trans hl51
          have hi13 := (hI7 52 (by decide)).trans hl52
          have hi14 := (hI7 53 (by decide)).trans hl53
          have hi15 := (hI7 54 (by decide)).trans hl54
          have hi16 := (hI7 55 (by decide)).trans hl55
          have hi17 := (hI7 56 (by decide)).trans hl56
          have hi18 := (hI7 57 (by decide)).trans hl57
          have hi19 := (hI7 25 (by decide)).trans hl25
          have hi21 := (hI7 26 (by decide)).trans hl26
          have hi22 := (hI7 71 (by decide)).trans hl71
          have hi23 := (hI7 66 (by decide)).trans hl66
          have hi24 := (hI7 65 (by decide)).trans hl65
          have hi27 := (hI7 68 (by decide)).trans hl68
          have hi28 := (hI7 69 (by decide)).trans hl69
          have hi29 := (hI7 70 (by decide)).trans hl70
          have hi30 := (hI7 72 (by decide)).trans hl72
          have hi31 := (hI7 9 (by decide)).trans hl9
          have hi32 := (hI7 10 (by decide)).trans hl10
          have hi33 := (hI7 11 (by decide)).trans hl11
          have hF_34 := hF1.mono (cIx hI7 (by decide)) (cRx hX8 (by decide))
          have hY_35 := hY1.mono (cIx hI7 (by decide)) (cRx hX8 (by decide))
          have hP_36 := hP1.mono (cIx hI7 (by decide)) (cRx hX8 (by decide))
          have hK_37 := hK1.mono (cIx hI7 (by decide)) (cRx hX8 (by decide))
          have hEI38 := hEI1.tr hI7 (by decide)
          have hER39 := hER1.tr hX8 (by decide)
          show pl _ _ _ (51, [(0, .ref m0)], [.int 1], M2) _
          have hCP := CP_of q48_s hP1.1
          refine ps_if (S1 := (75, [], [], M2)) (S2 := (54, [(0, .ref m0)], [], M2)) rfl rfl rfl (fun c_51 => ?_) (fun c_51 => ?_)
          · exact absurd (of_decide_eq_true c_51) (by decide)
          refine ps_st (S' := (55, [(0, .ref m0)], [.ref m0], M2)) rfl rfl rfl ?_
          refine pl_call (a := [.ref m0]) (rest := []) rfl rfl rfl (rd_checkClass (n := n) (f := f) (tx := tx) (cN := cN) (A := A) (N := N) (mj := mj) (E := E) (hA := p1) (s3 := s3) hR6 hi15 hi33 hi12 hi13 hi14 hF_34 hY_35 hP_36 (hEP) (hN) (hmj) (hs3) (hCP) (hin)) (fun v40 M41 q42 => ?_)
          rcases q42 with q42 | q42
          · skip
            obtain ⟨I43, R44, q55_s, rfl, hR45, hI46, hX47, hi48, hi49⟩ := q42
            have hi50 := (hI46 51 (by decide)).trans hi12
            have hi51 := (hI46 52 (by decide)).trans hi13
            have hi52 := (hI46 53 (by decide)).trans hi14
            have hi53 := (hI46 54 (by decide)).trans hi15
            have hi54 := (hI46 55 (by decide)).trans hi16
            have hi55 := (hI46 56 (by decide)).trans hi17
            have hi56 := (hI46 57 (by decide)).trans hi18
            have hi57 := (hI46 25 (by decide)).trans hi19
            have hi58 := (hI46 26 (by decide)).trans hi21
            have hi59 := (hI46 71 (by decide)).trans hi22
            have hi60 := (hI46 66 (by decide)).trans hi23
            have hi61 := (hI46 65 (by decide)).trans hi24
            have hi62 := (hI46 68 (by decide)).trans hi27
            have hi63 := (hI46 69 (by decide)).trans hi28
            have hi64 := (hI46 70 (by decide)).trans hi29
            have hi65 := (hI46 72 (by decide)).trans hi30
            have hi66 := (hI46 9 (by decide)).trans hi31
            have hi67 := (hI46 10 (by decide)).trans hi32
            have hi68 := (hI46 11 (by decide)).trans hi33
            have hF_69 := hF_34.mono (cIx hI46 (by decide)) (cRx hX47 (by decide))
            have hY_70 := hY_35.mono (cIx hI46 (by decide)) (cRx hX47 (by decide))
            have hP_71 := hP_36.mono (cIx hI46 (by decide)) (cRx hX47 (by decide))
            have hK_72 := hK_37.mono (cIx hI46 (by decide)) (cRx hX47 (by decide))
            have hEI73 := hEI38.tr hI46 (by decide)
            have hER74 := hER39.tr hX47 (by decide)
            show pl _ _ _ (58, [(0, .ref m0)], [.int 1], M41) _
            refine ps_if (S1 := (75, [], [], M41)) (S2 := (61, [(0, .ref m0)], [], M41)) rfl rfl rfl (fun c_58 => ?_) (fun c_58 => ?_)
            · exact absurd (of_decide_eq_true c_58) (by decide)
            refine ps_st (S' := (62, [(0, .ref m0)], [.ref m0], M41)) rfl rfl rfl ?_
            refine pl_call (a := [.ref m0]) (rest := []) rfl rfl rfl (rd_checkFields (n := n) (f := f) (tx := tx) (cN := cN) (A := A) (N := N) (mj := mj) (E := E) (pF := pF) (f0 := 0) (cf := (by2 f p1)) (B := (mbs f n (by2 f pF) (pF + 2))) (E1 := (fun i => mE f n ((mbs f n (by2 f pF) (pF + 2)).getD i 0))) hR45 hi50 hi51 hi52 hi48 hi54 hi57 hF_69 hY_70 hP_71 hK_72 (hEP) (hN) (hmj) (hMF) (by omega) (hcf)) (fun v75 M76 q77 => ?_)
            rcases q77 with q77 | q77
            · skip
              obtain ⟨I78, R79, q62_s, rfl, hR80, hI81, hX82, hi83⟩ := q77
              have hi84 := (hI81 51 (by decide)).trans hi50
              have hi85 := (hI81 52 (by decide)).trans hi51
              have hi86 := (hI81 53 (by decide)).trans hi52
              have hi87 := (hI81 54 (by decide)).trans hi53
              have hi88 := (hI81 55 (by decide)).trans hi54
              have hi89 := (hI81 56 (by decide)).trans hi55
              have hi90 := (hI81 57 (by decide)).trans hi56
              have hi91 := (hI81 26 (by decide)).trans hi58
              have hi92 := (hI81 71 (by decide)).trans hi59
              have hi93 := (hI81 66 (by decide)).trans hi60
              have hi94 := (hI81 65 (by decide)).trans hi61
              have hi95 := (hI81 68 (by decide)).trans hi62
              have hi96 := (hI81 69 (by decide)).trans hi63
              have hi97 := (hI81 70 (by decide)).trans hi64
              have hi98 := (hI81 72 (by decide)).trans hi65
              have hi99 := (hI81 9 (by decide)).trans hi66
              have hi100 := (hI81 10 (by decide)).trans hi67
              have hi101 := (hI81 11 (by decide)).trans hi68
              have hi102 := (hI81 58 (by decide)).trans hi48
              have hi103 := (hI81 61 (by decide)).trans hi49
              have hF_104 := hF_69.mono (cIx hI81 (by decide)) (cRx hX82 (by decide))
              have hY_105 := hY_70.mono (cIx hI81 (by decide)) (cRx hX82 (by decide))
              have hP_106 := hP_71.mono (cIx hI81 (by decide)) (cRx hX82 (by decide))
              have hK_107 := hK_72.mono (cIx hI81 (by decide)) (cRx hX82 (by decide))
              have hEI108 := hEI73.tr hI81 (by decide)
              have hER109 := hER74.tr hX82 (by decide)
              show pl _ _ _ (65, [(0, .ref m0)], [.int 1], M76) _
              refine ps_if (S1 := (75, [], [], M76)) (S2 := (68, [(0, .ref m0)], [], M76)) rfl rfl rfl (fun c_65 => ?_) (fun c_65 => ?_)
              · exact absurd (of_decide_eq_true c_65) (by decide)
              refine ps_st (S' := (69, [(0, .ref m0)], [.ref m0], M76)) rfl rfl rfl ?_
              refine pl_call (a := [.ref m0]) (rest := []) rfl rfl rfl (rd_checkMethods (n := n) (f := f) (tx := tx) (cN := cN) (A := A) (N := N) (mj := mj) (E := E) (pM := pM) (f0 := 0) (cf := (by2 f p1)) (si := s1) (sc := s2) (B := (mbs f n (by2 f pM) (pM + 2))) (E1 := (fun i => mE f n ((mbs f n (by2 f pM) (pM + 2)).getD i 0))) hR80 hi84 hi85 hi86 hi102 hi89 hi91 hi99 hi100 hF_104 hY_105 hP_106 hK_107 (hEP) (hN) (hmj) (hMM) (by omega) (hcf) (⟨hs1.1, hs1.2.trans lt_eq.2.1⟩) (⟨hs2.1, hs2.2.trans lt_eq.2.2.1⟩)) (fun v110 M111 q112 => ?_)
              rcases q112 with q112 | q112
              · skip
                obtain ⟨I113, R114, q69_s, rfl, hR115, hI116, hX117, hi118⟩ := q112
                have hi119 := (hI116 51 (by decide)).trans hi84
                have hi120 := (hI116 52 (by decide)).trans hi85
                have hi121 := (hI116 53 (by decide)).trans hi86
                have hi122 := (hI116 54 (by decide)).trans hi87
                have hi123 := (hI116 55 (by decide)).trans hi88
                have hi124 := (hI116 56 (by decide)).trans hi89
                have hi125 := (hI116 57 (by decide)).trans hi90
                have hi126 := (hI116 71 (by decide)).trans hi92
                have hi127 := (hI116 66 (by decide)).trans hi93
                have hi128 := (hI116 65 (by decide)).trans hi94
                have hi129 := (hI116 68 (by decide)).trans hi95
                have hi130 := (hI116 69 (by decide)).trans hi96
                have hi131 := (hI116 70 (by decide)).trans hi97
                have hi132 := (hI116 72 (by decide)).trans hi98
                have hi133 := (hI116 9 (by decide)).trans hi99
                have hi134 := (hI116 10 (by decide)).trans hi100
                have hi135 := (hI116 11 (by decide)).trans hi101
                have hi136 := (hI116 58 (by decide)).trans hi102
                have hi137 := (hI116 61 (by decide)).trans hi103
                have hi138 := (hI116 25 (by decide)).trans hi83
                have hF_139 := hF_104.mono (cIx hI116 (by decide)) (cRx hX117 (by decide))
                have hY_140 := hY_105.mono (cIx hI116 (by decide)) (cRx hX117 (by decide))
                have hP_141 := hP_106.mono (cIx hI116 (by decide)) (cRx hX117 (by decide))
                have hK_142 := hK_107.mono (cIx hI116 (by decide)) (cRx hX117 (by decide))
                have hEI143 := hEI108.tr hI116 (by decide)
                have hER144 := hER109.tr hX117 (by decide)
                show pl _ _ _ (72, [(0, .ref m0)], [.int 1], M111) _
                refine ps_if (S1 := (77, [(0, .ref m0)], [], M111)) (S2 := (75, [], [], M111)) rfl rfl rfl (fun c_72 => ?_) (fun c_72 => ?_)
                rotate_left
                · exact absurd (by decide) (of_decide_eq_false c_72)
                refine ps_st (S' := (78, [(0, .ref m0)], [.ref m0], M111)) rfl rfl rfl ?_
                refine ps_st (S' := (79, [(0, .ref m0)], [.ref m0, .ref m0], M111)) rfl rfl rfl ?_
                refine pr_int (j := 57) (S' := (82, [(0, .ref m0)], [.int (nI pA), .ref m0], M111)) rfl hR115 rfl hi125 rfl ?_
                refine ps_st (S' := (83, [(0, .ref m0)], [.int 4, .int (nI pA), .ref m0], M111)) rfl rfl rfl ?_
                refine ps_st (S' := (84, [(0, .ref m0)], [.int 0, .int 4, .int (nI pA), .ref m0], M111)) rfl rfl rfl ?_
                refine pl_call (a := [.ref m0, .int (nI pA), .int 4, .int 0]) (rest := []) rfl rfl rfl (rd_checkAttributes4 (n := n) (f := f) (tx := tx) (cN := cN) (A := A) (N := N) (mj := mj) (E := E) (p1 := pA) (e := n) (x := 0) (fl := (by2 f p1)) hR115 hi119 hi120 hi121 hi136 hi126 hi127 hi128 hi129 hi130 hi131 hi132 hF_139 hY_140 hP_141 hK_142 (hEP) (hN) (hmj) (⟨hat.1, hat.2.1⟩) (hat.2.2) (hcf)) (fun v145 M146 q147 => ?_)
                rcases q147 with q147 | q147
                · skip
                  obtain ⟨e9148, I149, R150, q84_s, rfl, hR151, hI152, hX153, hi154, hi155⟩ := q147
                  have hi156 := (hI152 51 (by decide)).trans hi119
                  have hi157 := (hI152 52 (by decide)).trans hi120
                  have hi158 := (hI152 53 (by decide)).trans hi121
                  have hi159 := (hI152 54 (by decide)).trans hi122
                  have hi160 := (hI152 55 (by decide)).trans hi123
                  have hi161 := (hI152 56 (by decide)).trans hi124
                  have hi162 := (hI152 57 (by decide)).trans hi125
                  have hi163 := (hI152 9 (by decide)).trans hi133
                  have hi164 := (hI152 10 (by decide)).trans hi134
                  have hi165 := (hI152 11 (by decide)).trans hi135
                  have hi166 := (hI152 58 (by decide)).trans hi136
                  have hi167 := (hI152 61 (by decide)).trans hi137
                  have hi168 := (hI152 25 (by decide)).trans hi138
                  have hi169 := (hI152 26 (by decide)).trans hi118
                  have hF_170 := hF_139.mono (cIx hI152 (by decide)) (cRx hX153 (by decide))
                  have hY_171 := hY_140.mono (cIx hI152 (by decide)) (cRx hX153 (by decide))
                  have hP_172 := hP_141.mono (cIx hI152 (by decide)) (cRx hX153 (by decide))
                  have hK_173 := hK_142.mono (cIx hI152 (by decide)) (cRx hX153 (by decide))
                  have hEI174 := hEI143.tr hI152 (by decide)
                  have hER175 := hER144.tr hX153 (by decide)
                  show pl _ _ _ (87, [(0, .ref m0)], [.int (-1)], M146) _
                  refine ps_if (S1 := (92, [(0, .ref m0)], [], M146)) (S2 := (90, [(0, .ref m0)], [], M146)) rfl rfl rfl (fun c_87 => ?_) (fun c_87 => ?_)
                  · exact absurd (of_decide_eq_true c_87) (by decide)
                  refine ps_st (S' := (91, [(0, .ref m0)], [.int 0], M146)) rfl rfl rfl ?_
                  exact ps_ret rfl rfl (Or.inr ⟨e9148, I149, R150, by
                      refine s_read_2 hwh ?_
                      rw [← hN8, ← hm6]
                      unfold s_chk
                      rw [q48_s]
                      dsimp only
                      obtain ⟨hh9, hh8⟩ := cc_none q55_s
                      rw [hh9]
                      dsimp only
                      rw [hh8]
                      dsimp only
                      rw [q62_s]
                      dsimp only
                      rw [q69_s]
                      dsimp only
                      rw [q84_s], rfl, hR151, hEI174, hER175, hi154, hi155⟩)
                · skip
                  obtain ⟨bc176, K177, I178, R179, q84_s, q84_U, rfl, hR180, hI181, hX182, hi183, hi184, hi185, hi186, hi187, hi188, hi189⟩ := q147
                  have hi190 := (hI181 51 (by decide)).trans hi119
                  have hi191 := (hI181 52 (by decide)).trans hi120
                  have hi192 := (hI181 53 (by decide)).trans hi121
                  have hi193 := (hI181 54 (by decide)).trans hi122
                  have hi194 := (hI181 55 (by decide)).trans hi123
                  have hi195 := (hI181 56 (by decide)).trans hi124
                  have hi196 := (hI181 57 (by decide)).trans hi125
                  have hi197 := (hI181 9 (by decide)).trans hi133
                  have hi198 := (hI181 10 (by decide)).trans hi134
                  have hi199 := (hI181 11 (by decide)).trans hi135
                  have hi200 := (hI181 58 (by decide)).trans hi136
                  have hi201 := (hI181 61 (by decide)).trans hi137
                  have hi202 := (hI181 25 (by decide)).trans hi138
                  have hi203 := (hI181 26 (by decide)).trans hi118
                  have hF_204 := hF_139.mono (cIx hI181 (by decide)) (cRx hX182 (by decide))
                  have hY_205 := hY_140.mono (cIx hI181 (by decide)) (cRx hX182 (by decide))
                  have hP_206 := hP_141.mono (cIx hI181 (by decide)) (cRx hX182 (by decide))
                  have hK_207 := hK_142.mono (cIx hI181 (by decide)) (cRx hX182 (by decide))
                  have hEI208 := hEI143.tr hI181 (by decide)
                  have hER209 := hER144.tr hX182 (by decide)
                  show pl _ _ _ (87, [(0, .ref m0)], [.int (nI n)], M146) _
                  refine ps_if (S1 := (92, [(0, .ref m0)], [], M146)) (S2 := (90, [(0, .ref m0)], [], M146)) rfl rfl rfl (fun c_87 => ?_) (fun c_87 => ?_)
                  rotate_left
                  · exact absurd ((le_nI (p := 0) (n := n) (by decide) (by omega)).mpr (by omega)) (of_decide_eq_false c_87)
                  refine ps_st (S' := (93, [(0, .ref m0)], [.int 1], M146)) rfl rfl rfl ?_
                  refine ps_st (S' := (94, [(0, .ref m0), (1, .int 1)], [], M146)) rfl rfl rfl ?_
                  exact ih.2 (N) (mj) (bc176) (1) (E) (tx) (cN) (A) M146 I178 R179 hR180 hEI208 hER209 hi190 hi191 hi192 hi183 hF_204 hY_205 hP_206 (hEP) (hN) (hmj) (clS_bc q84_s) (⟨Nat.le_refl _, hN1⟩) (by
                      refine s_read_2 hwh ?_
                      rw [← hN8, ← hm6]
                      unfold s_chk
                      rw [q48_s]
                      dsimp only
                      obtain ⟨hh9, hh8⟩ := cc_none q55_s
                      rw [hh9]
                      dsimp only
                      rw [hh8]
                      dsimp only
                      rw [q62_s]
                      dsimp only
                      rw [q69_s]
                      dsimp only
                      rw [q84_s]) (rfl)
              · skip
                obtain ⟨e9210, I211, R212, q69_s, rfl, hR213, hI214, hX215, hi216, hi217⟩ := q112
                have hi218 := (hI214 51 (by decide)).trans hi84
                have hi219 := (hI214 52 (by decide)).trans hi85
                have hi220 := (hI214 53 (by decide)).trans hi86
                have hi221 := (hI214 54 (by decide)).trans hi87
                have hi222 := (hI214 55 (by decide)).trans hi88
                have hi223 := (hI214 56 (by decide)).trans hi89
                have hi224 := (hI214 57 (by decide)).trans hi90
                have hi225 := (hI214 71 (by decide)).trans hi92
                have hi226 := (hI214 66 (by decide)).trans hi93
                have hi227 := (hI214 65 (by decide)).trans hi94
                have hi228 := (hI214 68 (by decide)).trans hi95
                have hi229 := (hI214 69 (by decide)).trans hi96
                have hi230 := (hI214 70 (by decide)).trans hi97
                have hi231 := (hI214 72 (by decide)).trans hi98
                have hi232 := (hI214 9 (by decide)).trans hi99
                have hi233 := (hI214 10 (by decide)).trans hi100
                have hi234 := (hI214 11 (by decide)).trans hi101
                have hi235 := (hI214 58 (by decide)).trans hi102
                have hi236 := (hI214 61 (by decide)).trans hi103
                have hi237 := (hI214 25 (by decide)).trans hi83
                have hF_238 := hF_104.mono (cIx hI214 (by decide)) (cRx hX215 (by decide))
                have hY_239 := hY_105.mono (cIx hI214 (by decide)) (cRx hX215 (by decide))
                have hP_240 := hP_106.mono (cIx hI214 (by decide)) (cRx hX215 (by decide))
                have hK_241 := hK_107.mono (cIx hI214 (by decide)) (cRx hX215 (by decide))
                have hEI242 := hEI108.tr hI214 (by decide)
                have hER243 := hER109.tr hX215 (by decide)
                show pl _ _ _ (72, [(0, .ref m0)], [.int 0], M111) _
                refine ps_if (S1 := (77, [(0, .ref m0)], [], M111)) (S2 := (75, [], [], M111)) rfl rfl rfl (fun c_72 => ?_) (fun c_72 => ?_)
                · exact absurd (of_decide_eq_true c_72) (by decide)
                refine ps_st (S' := (76, [], [.int 0], M111)) rfl rfl rfl ?_
                exact ps_ret rfl rfl (Or.inr ⟨e9210, I211, R212, by
                    refine s_read_2 hwh ?_
                    rw [← hN8, ← hm6]
                    unfold s_chk
                    rw [q48_s]
                    dsimp only
                    obtain ⟨hh9, hh8⟩ := cc_none q55_s
                    rw [hh9]
                    dsimp only
                    rw [hh8]
                    dsimp only
                    rw [q62_s]
                    dsimp only
                    rw [q69_s], rfl, hR213, hEI242, hER243, hi216, hi217⟩)
            · skip
              obtain ⟨e9244, I245, R246, q62_s, rfl, hR247, hI248, hX249, hi250, hi251⟩ := q77
              have hi252 := (hI248 51 (by decide)).trans hi50
              have hi253 := (hI248 52 (by decide)).trans hi51
              have hi254 := (hI248 53 (by decide)).trans hi52
              have hi255 := (hI248 54 (by decide)).trans hi53
              have hi256 := (hI248 55 (by decide)).trans hi54
              have hi257 := (hI248 56 (by decide)).trans hi55
              have hi258 := (hI248 57 (by decide)).trans hi56
              have hi259 := (hI248 26 (by decide)).trans hi58
              have hi260 := (hI248 71 (by decide)).trans hi59
              have hi261 := (hI248 66 (by decide)).trans hi60
              have hi262 := (hI248 65 (by decide)).trans hi61
              have hi263 := (hI248 68 (by decide)).trans hi62
              have hi264 := (hI248 69 (by decide)).trans hi63
              have hi265 := (hI248 70 (by decide)).trans hi64
              have hi266 := (hI248 72 (by decide)).trans hi65
              have hi267 := (hI248 9 (by decide)).trans hi66
              have hi268 := (hI248 10 (by decide)).trans hi67
              have hi269 := (hI248 11 (by decide)).trans hi68
              have hi270 := (hI248 58 (by decide)).trans hi48
              have hi271 := (hI248 61 (by decide)).trans hi49
              have hF_272 := hF_69.mono (cIx hI248 (by decide)) (cRx hX249 (by decide))
              have hY_273 := hY_70.mono (cIx hI248 (by decide)) (cRx hX249 (by decide))
              have hP_274 := hP_71.mono (cIx hI248 (by decide)) (cRx hX249 (by decide))
              have hK_275 := hK_72.mono (cIx hI248 (by decide)) (cRx hX249 (by decide))
              have hEI276 := hEI73.tr hI248 (by decide)
              have hER277 := hER74.tr hX249 (by decide)
              show pl _ _ _ (65, [(0, .ref m0)], [.int 0], M76) _
              refine ps_if (S1 := (75, [], [], M76)) (S2 := (68, [(0, .ref m0)], [], M76)) rfl rfl rfl (fun c_65 => ?_) (fun c_65 => ?_)
              rotate_left
              · exact absurd (by decide) (of_decide_eq_false c_65)
              refine ps_st (S' := (76, [], [.int 0], M76)) rfl rfl rfl ?_
              exact ps_ret rfl rfl (Or.inr ⟨e9244, I245, R246, by
                  refine s_read_2 hwh ?_
                  rw [← hN8, ← hm6]
                  unfold s_chk
                  rw [q48_s]
                  dsimp only
                  obtain ⟨hh9, hh8⟩ := cc_none q55_s
                  rw [hh9]
                  dsimp only
                  rw [hh8]
                  dsimp only
                  rw [q62_s], rfl, hR247, hEI276, hER277, hi250, hi251⟩)
          · skip
            obtain ⟨e278, I279, R280, q55_s, rfl, hR281, hI282, hX283, hi284, hi285⟩ := q42
            have hi286 := (hI282 51 (by decide)).trans hi12
            have hi287 := (hI282 52 (by decide)).trans hi13
            have hi288 := (hI282 53 (by decide)).trans hi14
            have hi289 := (hI282 54 (by decide)).trans hi15
            have hi290 := (hI282 55 (by decide)).trans hi16
            have hi291 := (hI282 56 (by decide)).trans hi17
            have hi292 := (hI282 57 (by decide)).trans hi18
            have hi293 := (hI282 25 (by decide)).trans hi19
            have hi294 := (hI282 26 (by decide)).trans hi21
            have hi295 := (hI282 71 (by decide)).trans hi22
            have hi296 := (hI282 66 (by decide)).trans hi23
            have hi297 := (hI282 65 (by decide)).trans hi24
            have hi298 := (hI282 68 (by decide)).trans hi27
            have hi299 := (hI282 69 (by decide)).trans hi28
            have hi300 := (hI282 70 (by decide)).trans hi29
            have hi301 := (hI282 72 (by decide)).trans hi30
            have hi302 := (hI282 9 (by decide)).trans hi31
            have hi303 := (hI282 10 (by decide)).trans hi32
            have hi304 := (hI282 11 (by decide)).trans hi33
            have hF_305 := hF_34.mono (cIx hI282 (by decide)) (cRx hX283 (by decide))
            have hY_306 := hY_35.mono (cIx hI282 (by decide)) (cRx hX283 (by decide))
            have hP_307 := hP_36.mono (cIx hI282 (by decide)) (cRx hX283 (by decide))
            have hK_308 := hK_37.mono (cIx hI282 (by decide)) (cRx hX283 (by decide))
            have hEI309 := hEI38.tr hI282 (by decide)
            have hER310 := hER39.tr hX283 (by decide)
            show pl _ _ _ (58, [(0, .ref m0)], [.int 0], M41) _
            refine ps_if (S1 := (75, [], [], M41)) (S2 := (61, [(0, .ref m0)], [], M41)) rfl rfl rfl (fun c_58 => ?_) (fun c_58 => ?_)
            rotate_left
            · exact absurd (by decide) (of_decide_eq_false c_58)
            refine ps_st (S' := (76, [], [.int 0], M41)) rfl rfl rfl ?_
            exact ps_ret rfl rfl (Or.inr ⟨e278, I279, R280, by
                refine s_read_2 hwh ?_
                rw [← hN8, ← hm6]
                unfold s_chk
                rw [q48_s]
                dsimp only
                exact cc_some q55_s, rfl, hR281, hEI309, hER310, hi284, hi285⟩)
        · skip
          obtain ⟨e311, I312, R313, q48_s, rfl, hR314, hI315, hX316, hi317, hi318⟩ := q3
          have hi319 := (hI315 51 (by decide)).trans hl51
          have hi320 := (hI315 52 (by decide)).trans hl52
          have hi321 := (hI315 53 (by decide)).trans hl53
          have hi322 := (hI315 54 (by decide)).trans hl54
          have hi323 := (hI315 55 (by decide)).trans hl55
          have hi324 := (hI315 56 (by decide)).trans hl56
          have hi325 := (hI315 57 (by decide)).trans hl57
          have hi326 := (hI315 25 (by decide)).trans hl25
          have hi327 := (hI315 26 (by decide)).trans hl26
          have hi328 := (hI315 71 (by decide)).trans hl71
          have hi329 := (hI315 66 (by decide)).trans hl66
          have hi330 := (hI315 65 (by decide)).trans hl65
          have hi331 := (hI315 68 (by decide)).trans hl68
          have hi332 := (hI315 69 (by decide)).trans hl69
          have hi333 := (hI315 70 (by decide)).trans hl70
          have hi334 := (hI315 72 (by decide)).trans hl72
          have hi335 := (hI315 9 (by decide)).trans hl9
          have hi336 := (hI315 10 (by decide)).trans hl10
          have hi337 := (hI315 11 (by decide)).trans hl11
          have hF_338 := hF1.mono (cIx hI315 (by decide)) (cRx hX316 (by decide))
          have hY_339 := hY1.mono (cIx hI315 (by decide)) (cRx hX316 (by decide))
          have hP_340 := hP1.mono (cIx hI315 (by decide)) (cRx hX316 (by decide))
          have hK_341 := hK1.mono (cIx hI315 (by decide)) (cRx hX316 (by decide))
          have hEI342 := hEI1.tr hI315 (by decide)
          have hER343 := hER1.tr hX316 (by decide)
          show pl _ _ _ (51, [(0, .ref m0)], [.int 0], M2) _
          refine ps_if (S1 := (75, [], [], M2)) (S2 := (54, [(0, .ref m0)], [], M2)) rfl rfl rfl (fun c_51 => ?_) (fun c_51 => ?_)
          rotate_left
          · exact absurd (by decide) (of_decide_eq_false c_51)
          refine ps_st (S' := (76, [], [.int 0], M2)) rfl rfl rfl ?_
          exact ps_ret rfl rfl (Or.inr ⟨e311, I312, R313, by
              refine s_read_2 hwh ?_
              rw [← hN8, ← hm6]
              unfold s_chk
              rw [q48_s], rfl, hR314, hEI342, hER343, hi317, hi318⟩)
      · skip
        intro N mj bc k E tx cN A M1 I1 R1 hR1 hEI1 hER1 hl51 hl52 hl53 hl71 hF1 hY1 hP1 hEP hN hmj hbc hk hr hs
        have hn := hF1.1
        refine ps_st1 (S' := (95, [(0, .ref m0), (1, .int (nI k))], [.int (nI k)], M1)) rfl rfl rfl ?_
        refine ps_st (S' := (96, [(0, .ref m0), (1, .int (nI k))], [.ref m0, .int (nI k)], M1)) rfl rfl rfl ?_
        refine pr_int (j := 52) (S' := (99, [(0, .ref m0), (1, .int (nI k))], [.int (nI N), .int (nI k)], M1)) rfl hR1 rfl hl52 rfl ?_
        refine ps_if2 (S1 := (157, [(0, .ref m0), (1, .int (nI k))], [], M1)) (S2 := (102, [(0, .ref m0), (1, .int (nI k))], [], M1)) rfl rfl rfl (fun c_99 => ?_) (fun c_99 => ?_)
        · have c_99 : (nI N) ≤ (nI k) := of_decide_eq_true c_99
          have n_99 : N ≤ k := (le_nI (p := N) (n := k) (by omega) (by omega)).mp c_99
          refine ps_st (S' := (158, [(0, .ref m0), (1, .int (nI k))], [.int 1], M1)) rfl rfl rfl ?_
          exact ps_ret rfl rfl (Or.inl ⟨I1, R1, by
              rw [hr, ← hs, show N - k = 0 by omega]
              rfl, rfl, hR1, hEI1, hER1⟩)
        · have c_99 : ¬ ((nI N) ≤ (nI k)) := of_decide_eq_false c_99
          have n_99 : ¬ (N ≤ k) := fun h9 => c_99 ((le_nI (p := N) (n := k) (by omega) (by omega)).mpr h9)
          refine ps_st (S' := (103, [(0, .ref m0), (1, .int (nI k))], [.ref m0], M1)) rfl rfl rfl ?_
          refine ps_st (S' := (104, [(0, .ref m0), (1, .int (nI k))], [.int (nI k), .ref m0], M1)) rfl rfl rfl ?_
          refine pl_call (a := [.ref m0, .int (nI k)]) (rest := []) rfl rfl rfl (rd_tag (n := n) (f := f) (tx := tx) (cN := cN) (A := A) (N := N) (mj := mj) (E := E) (k := k) hR1 hl51 hl52 hl53 hF1 hY1 hP1 (hEP) (hN) (hmj) (by omega)) (fun v344 M345 q346 => ?_)
          obtain ⟨rfl, rfl⟩ := q346
          show pl _ _ _ (107, [(0, .ref m0), (1, .int (nI k))], [.int (nI (tg f E k))], M1) _
          have htg_104 := tg_lt f E k
          refine ps_st (S' := (108, [(2, .int (nI (tg f E k))), (0, .ref m0), (1, .int (nI k))], [], M1)) rfl rfl rfl ?_
          refine ps_st (S' := (109, [(2, .int (nI (tg f E k))), (0, .ref m0), (1, .int (nI k))], [.int (nI (tg f E k))], M1)) rfl rfl rfl ?_
          refine ps_st (S' := (111, [(2, .int (nI (tg f E k))), (0, .ref m0), (1, .int (nI k))], [.int 17, .int (nI (tg f E k))], M1)) rfl rfl rfl ?_
          refine ps_if2 (S1 := (120, [(0, .ref m0), (1, .int (nI k))], [], M1)) (S2 := (114, [(2, .int (nI (tg f E k))), (0, .ref m0), (1, .int (nI k))], [], M1)) rfl rfl rfl (fun c_111 => ?_) (fun c_111 => ?_)
          · have c_111 : (nI (tg f E k)) = 17 := of_decide_eq_true c_111
            have n_111 : tg f E k = 17 := (eq_nI (p := tg f E k) (n := 17) (Nat.lt_trans (tg_lt _ _ _) (by decide)) (by decide)).mp c_111
            refine ps_st (S' := (121, [(0, .ref m0), (1, .int (nI k))], [.ref m0], M1)) rfl rfl rfl ?_
            refine ps_st (S' := (122, [(0, .ref m0), (1, .int (nI k))], [.int (nI k), .ref m0], M1)) rfl rfl rfl ?_
            refine ps_st (S' := (123, [(0, .ref m0), (1, .int (nI k))], [.int 1, .int (nI k), .ref m0], M1)) rfl rfl rfl ?_
            refine pl_call (a := [.ref m0, .int (nI k), .int 1]) (rest := []) rfl rfl rfl (rd_idx1 (n := n) (f := f) (tx := tx) (cN := cN) (A := A) (N := N) (mj := mj) (E := E) (k := k) hR1 hl51 hl52 hl53 hF1 hY1 hP1 (hEP) (hN) (hmj) (by omega)) (fun v347 M348 q349 => ?_)
            obtain ⟨rfl, rfl⟩ := q349
            show pl _ _ _ (126, [(0, .ref m0), (1, .int (nI k))], [.int (nI (fi f E k))], M1) _
            have hix_123 := fi_lt f E k
            refine ps_st (S' := (127, [(0, .ref m0), (1, .int (nI k))], [.ref m0, .int (nI (fi f E k))], M1)) rfl rfl rfl ?_
            refine pr_int (j := 71) (S' := (130, [(0, .ref m0), (1, .int (nI k))], [.int (nI bc), .int (nI (fi f E k))], M1)) rfl hR1 rfl hl71 rfl ?_
            refine ps_if2 (S1 := (151, [(0, .ref m0), (1, .int (nI k))], [], M1)) (S2 := (133, [(0, .ref m0), (1, .int (nI k))], [], M1)) rfl rfl rfl (fun c_130 => ?_) (fun c_130 => ?_)
            · have c_130 : (nI (fi f E k)) < (nI bc) := of_decide_eq_true c_130
              have n_130 : fi f E k < bc := (lt_nI (p := fi f E k) (n := bc) (Nat.lt_trans (fi_lt _ _ _) (by decide)) (by omega)).mp c_130
              refine ps_st (S' := (154, [(1, .int ((nI k) + 1)), (0, .ref m0)], [], M1)) rfl rfl rfl ?_
              rw [nI_add1 (p := k) (k := 1) (x := 1) rfl (by omega)]
              show pl _ _ _ (_, [(1, .int (nI (k + 1))), (0, .ref m0)], [], M1) _
              refine ps_st (S' := (94, [(0, .ref m0), (1, .int (nI (k + 1)))], [], M1)) rfl rfl rfl ?_
              exact ih.2 (N) (mj) (bc) (k + 1) (E) (tx) (cN) (A) M1 I1 R1 hR1 hEI1 hER1 hl51 hl52 hl53 hl71 hF1 hY1 hP1 (hEP) (hN) (hmj) (hbc) (by omega) (hr) (by
                  rw [← hs, chkB_st (k := k) (by omega), if_neg (by omega)])
            · have c_130 : ¬ ((nI (fi f E k)) < (nI bc)) := of_decide_eq_false c_130
              have n_130 : ¬ (fi f E k < bc) := fun h9 => c_130 ((lt_nI (p := fi f E k) (n := bc) (Nat.lt_trans (fi_lt _ _ _) (by decide)) (by omega)).mpr h9)
              obtain ⟨p, hk9, hb9⟩ := tg_lk (f := f) (E := E) (k := k) (by omega)
              have hep9 := hEP k p hk9
              refine ps_st (S' := (134, [(0, .ref m0), (1, .int (nI k))], [.ref m0], M1)) rfl rfl rfl ?_
              refine ps_st (S' := (136, [(0, .ref m0), (1, .int (nI k))], [.int 40, .ref m0], M1)) rfl rfl rfl ?_
              refine ps_st (S' := (137, [(0, .ref m0), (1, .int (nI k))], [.ref m0, .int 40, .ref m0], M1)) rfl rfl rfl ?_
              refine pr_ref (j := 21) (S' := (140, [(0, .ref m0), (1, .int (nI k))], [.ref (q 21), .int 40, .ref m0], M1)) rfl hR1 rfl rfl ?_
              refine ps_st (S' := (141, [(0, .ref m0), (1, .int (nI k))], [.ref m0, .ref (q 21), .int 40, .ref m0], M1)) rfl rfl rfl ?_
              refine pr_int (j := 51) (S' := (144, [(0, .ref m0), (1, .int (nI k))], [.int 0, .ref (q 21), .int 40, .ref m0], M1)) rfl hR1 rfl hl51 rfl ?_
              refine ps_st (S' := (145, [(0, .ref m0), (1, .int (nI k))], [.int (nI k), .int 0, .ref (q 21), .int 40, .ref m0], M1)) rfl rfl rfl ?_
              refine ps_st (S' := (146, [(0, .ref m0), (1, .int (nI k))], [.int (0 + (nI k)), .ref (q 21), .int 40, .ref m0], M1)) rfl rfl rfl ?_
              rw [show (0 : Int32) + (nI k) = (nI k) from Int32.zero_add _]
              show pl _ _ _ (_, [(0, .ref m0), (1, .int (nI k))], [.int (nI k), .ref (q 21), .int 40, .ref m0], M1) _
              refine pr_ld (a := 21) (j := k) (y := (nI p)) (S' := (147, [(0, .ref m0), (1, .int (nI k))], [.int (nI p), .int 40, .ref m0], M1)) rfl hR1 rfl (by omega) (fun _ => by rw [hP1.2.1 k (by omega), hk9]; rfl) rfl (fun i1_146 => ?_)
              refine pl_call (a := [.ref m0, .int 40, .int (nI p)]) (rest := []) rfl rfl rfl (rd_wrong (x1 := 40) (x2 := (nI p)) hR1) (fun v350 M351 q352 => ?_)
              obtain ⟨I353, R354, rfl, hR355, hI356, hX357, hi358, hi359⟩ := q352
              have hi360 := (hI356 51 (by decide)).trans hl51
              have hi361 := (hI356 52 (by decide)).trans hl52
              have hi362 := (hI356 53 (by decide)).trans hl53
              have hi363 := (hI356 71 (by decide)).trans hl71
              have hF_364 := hF1.mono (cIx hI356 (by decide)) (cRx hX357 (by decide))
              have hY_365 := hY1.mono (cIx hI356 (by decide)) (cRx hX357 (by decide))
              have hP_366 := hP1.mono (cIx hI356 (by decide)) (cRx hX357 (by decide))
              have hEI367 := hEI1.tr hI356 (by decide)
              have hER368 := hER1.tr hX357 (by decide)
              show pl _ _ _ (150, [(0, .ref m0), (1, .int (nI k))], [.int 0], M351) _
              exact ps_ret rfl rfl (Or.inr ⟨(40, p), I353, R354, by
                  rw [hr, ← hs, chkB_st (k := k) (by omega), if_pos (by omega), tp_is hk9], rfl, hR355, hEI367, hER368, hi358, hi359⟩)
          · have c_111 : ¬ ((nI (tg f E k)) = 17) := of_decide_eq_false c_111
            have n_111 : ¬ (tg f E k = 17) := fun h9 => c_111 ((eq_nI (p := tg f E k) (n := 17) (Nat.lt_trans (tg_lt _ _ _) (by decide)) (by decide)).mpr h9)
            refine ps_st (S' := (115, [(2, .int (nI (tg f E k))), (0, .ref m0), (1, .int (nI k))], [.int (nI (tg f E k))], M1)) rfl rfl rfl ?_
            refine ps_st (S' := (117, [(2, .int (nI (tg f E k))), (0, .ref m0), (1, .int (nI k))], [.int 18, .int (nI (tg f E k))], M1)) rfl rfl rfl ?_
            refine ps_if2 (S1 := (151, [(0, .ref m0), (1, .int (nI k))], [], M1)) (S2 := (120, [(0, .ref m0), (1, .int (nI k))], [], M1)) rfl rfl rfl (fun c_117 => ?_) (fun c_117 => ?_)
            · have c_117 : ¬ (nI (tg f E k)) = 18 := of_decide_eq_true c_117
              have n_117 : ¬ (tg f E k = 18) := fun h9 => c_117 ((eq_nI (p := tg f E k) (n := 18) (Nat.lt_trans (tg_lt _ _ _) (by decide)) (by decide)).mpr h9)
              refine ps_st (S' := (154, [(1, .int ((nI k) + 1)), (0, .ref m0)], [], M1)) rfl rfl rfl ?_
              rw [nI_add1 (p := k) (k := 1) (x := 1) rfl (by omega)]
              show pl _ _ _ (_, [(1, .int (nI (k + 1))), (0, .ref m0)], [], M1) _
              refine ps_st (S' := (94, [(0, .ref m0), (1, .int (nI (k + 1)))], [], M1)) rfl rfl rfl ?_
              exact ih.2 (N) (mj) (bc) (k + 1) (E) (tx) (cN) (A) M1 I1 R1 hR1 hEI1 hER1 hl51 hl52 hl53 hl71 hF1 hY1 hP1 (hEP) (hN) (hmj) (hbc) (by omega) (hr) (by
                  rw [← hs, chkB_st (k := k) (by omega), if_neg (by omega)])
            · have c_117 : ¬ (¬ (nI (tg f E k)) = 18) := of_decide_eq_false c_117
              have n_117 : tg f E k = 18 := (eq_nI (p := tg f E k) (n := 18) (Nat.lt_trans (tg_lt _ _ _) (by decide)) (by decide)).mp (Decidable.not_not.mp c_117)
              refine ps_st (S' := (121, [(0, .ref m0), (1, .int (nI k))], [.ref m0], M1)) rfl rfl rfl ?_
              refine ps_st (S' := (122, [(0, .ref m0), (1, .int (nI k))], [.int (nI k), .ref m0], M1)) rfl rfl rfl ?_
              refine ps_st (S' := (123, [(0, .ref m0), (1, .int (nI k))], [.int 1, .int (nI k), .ref m0], M1)) rfl rfl rfl ?_
              refine pl_call (a := [.ref m0, .int (nI k), .int 1]) (rest := []) rfl rfl rfl (rd_idx1 (n := n) (f := f) (tx := tx) (cN := cN) (A := A) (N := N) (mj := mj) (E := E) (k := k) hR1 hl51 hl52 hl53 hF1 hY1 hP1 (hEP) (hN) (hmj) (by omega)) (fun v369 M370 q371 => ?_)
              obtain ⟨rfl, rfl⟩ := q371
              show pl _ _ _ (126, [(0, .ref m0), (1, .int (nI k))], [.int (nI (fi f E k))], M1) _
              have hix_123 := fi_lt f E k
              refine ps_st (S' := (127, [(0, .ref m0), (1, .int (nI k))], [.ref m0, .int (nI (fi f E k))], M1)) rfl rfl rfl ?_
              refine pr_int (j := 71) (S' := (130, [(0, .ref m0), (1, .int (nI k))], [.int (nI bc), .int (nI (fi f E k))], M1)) rfl hR1 rfl hl71 rfl ?_
              refine ps_if2 (S1 := (151, [(0, .ref m0), (1, .int (nI k))], [], M1)) (S2 := (133, [(0, .ref m0), (1, .int (nI k))], [], M1)) rfl rfl rfl (fun c_130 => ?_) (fun c_130 => ?_)
              · have c_130 : (nI (fi f E k)) < (nI bc) := of_decide_eq_true c_130
                have n_130 : fi f E k < bc := (lt_nI (p := fi f E k) (n := bc) (Nat.lt_trans (fi_lt _ _ _) (by decide)) (by omega)).mp c_130
                refine ps_st (S' := (154, [(1, .int ((nI k) + 1)), (0, .ref m0)], [], M1)) rfl rfl rfl ?_
                rw [nI_add1 (p := k) (k := 1) (x := 1) rfl (by omega)]
                show pl _ _ _ (_, [(1, .int (nI (k + 1))), (0, .ref m0)], [], M1) _
                refine ps_st (S' := (94, [(0, .ref m0), (1, .int (nI (k + 1)))], [], M1)) rfl rfl rfl ?_
                exact ih.2 (N) (mj) (bc) (k + 1) (E) (tx) (cN) (A) M1 I1 R1 hR1 hEI1 hER1 hl51 hl52 hl53 hl71 hF1 hY1 hP1 (hEP) (hN) (hmj) (hbc) (by omega) (hr) (by
                    rw [← hs, chkB_st (k := k) (by omega), if_neg (by omega)])
              · have c_130 : ¬ ((nI (fi f E k)) < (nI bc)) := of_decide_eq_false c_130
                have n_130 : ¬ (fi f E k < bc) := fun h9 => c_130 ((lt_nI (p := fi f E k) (n := bc) (Nat.lt_trans (fi_lt _ _ _) (by decide)) (by omega)).mpr h9)
                obtain ⟨p, hk9, hb9⟩ := tg_lk (f := f) (E := E) (k := k) (by omega)
                have hep9 := hEP k p hk9
                refine ps_st (S' := (134, [(0, .ref m0), (1, .int (nI k))], [.ref m0], M1)) rfl rfl rfl ?_
                refine ps_st (S' := (136, [(0, .ref m0), (1, .int (nI k))], [.int 40, .ref m0], M1)) rfl rfl rfl ?_
                refine ps_st (S' := (137, [(0, .ref m0), (1, .int (nI k))], [.ref m0, .int 40, .ref m0], M1)) rfl rfl rfl ?_
                refine pr_ref (j := 21) (S' := (140, [(0, .ref m0), (1, .int (nI k))], [.ref (q 21), .int 40, .ref m0], M1)) rfl hR1 rfl rfl ?_
                refine ps_st (S' := (141, [(0, .ref m0), (1, .int (nI k))], [.ref m0, .ref (q 21), .int 40, .ref m0], M1)) rfl rfl rfl ?_
                refine pr_int (j := 51) (S' := (144, [(0, .ref m0), (1, .int (nI k))], [.int 0, .ref (q 21), .int 40, .ref m0], M1)) rfl hR1 rfl hl51 rfl ?_
                refine ps_st (S' := (145, [(0, .ref m0), (1, .int (nI k))], [.int (nI k), .int 0, .ref (q 21), .int 40, .ref m0], M1)) rfl rfl rfl ?_
                refine ps_st (S' := (146, [(0, .ref m0), (1, .int (nI k))], [.int (0 + (nI k)), .ref (q 21), .int 40, .ref m0], M1)) rfl rfl rfl ?_
                rw [show (0 : Int32) + (nI k) = (nI k) from Int32.zero_add _]
                show pl _ _ _ (_, [(0, .ref m0), (1, .int (nI k))], [.int (nI k), .ref (q 21), .int 40, .ref m0], M1) _
                refine pr_ld (a := 21) (j := k) (y := (nI p)) (S' := (147, [(0, .ref m0), (1, .int (nI k))], [.int (nI p), .int 40, .ref m0], M1)) rfl hR1 rfl (by omega) (fun _ => by rw [hP1.2.1 k (by omega), hk9]; rfl) rfl (fun i1_146 => ?_)
                refine pl_call (a := [.ref m0, .int 40, .int (nI p)]) (rest := []) rfl rfl rfl (rd_wrong (x1 := 40) (x2 := (nI p)) hR1) (fun v372 M373 q374 => ?_)
                obtain ⟨I375, R376, rfl, hR377, hI378, hX379, hi380, hi381⟩ := q374
                have hi382 := (hI378 51 (by decide)).trans hl51
                have hi383 := (hI378 52 (by decide)).trans hl52
                have hi384 := (hI378 53 (by decide)).trans hl53
                have hi385 := (hI378 71 (by decide)).trans hl71
                have hF_386 := hF1.mono (cIx hI378 (by decide)) (cRx hX379 (by decide))
                have hY_387 := hY1.mono (cIx hI378 (by decide)) (cRx hX379 (by decide))
                have hP_388 := hP1.mono (cIx hI378 (by decide)) (cRx hX379 (by decide))
                have hEI389 := hEI1.tr hI378 (by decide)
                have hER390 := hER1.tr hX379 (by decide)
                show pl _ _ _ (150, [(0, .ref m0), (1, .int (nI k))], [.int 0], M373) _
                exact ps_ret rfl rfl (Or.inr ⟨(40, p), I375, R376, by
                    rw [hr, ← hs, chkB_st (k := k) (by omega), if_pos (by omega), tp_is hk9], rfl, hR377, hEI389, hER390, hi380, hi381⟩)
  refine ps_st (S' := (1, [(0, .ref m0)], [.ref m0], M)) rfl rfl rfl ?_
  refine ps_st (S' := (2, [(0, .ref m0)], [.int (-1), .ref m0], M)) rfl rfl rfl ?_
  refine pr_put (j := 67) rfl hR rfl (fun M391 I392 hR393 hi394 hI395 => ?_)
  have hi396 := (hI395 20 (by decide)).trans hi20
  have hi397 := (hI395 25 (by decide)).trans hi25
  have hi398 := (hI395 26 (by decide)).trans hi26
  have hi399 := (hI395 9 (by decide)).trans hi9
  have hi400 := (hI395 10 (by decide)).trans hi10
  have hi401 := (hI395 11 (by decide)).trans hi11
  have hF_402 := hF.mono (pIx hI395 (by decide)) (fun _ _ => rfl)
  have hY_403 := hY.mono (pIx hI395 (by decide)) (fun _ _ => rfl)
  have hK_404 := hK.mono (pIx hI395 (by decide)) (fun _ _ => rfl)
  have hEI405 := hEI.put hI395 (by decide)
  show pl _ _ _ (5, [(0, .ref m0)], [], M391) _
  refine ps_st (S' := (6, [(0, .ref m0)], [.ref m0], M391)) rfl rfl rfl ?_
  refine ps_st (S' := (7, [(0, .ref m0)], [.int 0, .ref m0], M391)) rfl rfl rfl ?_
  refine pr_put (j := 68) rfl hR393 rfl (fun M406 I407 hR408 hi409 hI410 => ?_)
  have hi411 := (hI410 20 (by decide)).trans hi396
  have hi412 := (hI410 25 (by decide)).trans hi397
  have hi413 := (hI410 26 (by decide)).trans hi398
  have hi414 := (hI410 9 (by decide)).trans hi399
  have hi415 := (hI410 10 (by decide)).trans hi400
  have hi416 := (hI410 11 (by decide)).trans hi401
  have hi417 := (hI410 67 (by decide)).trans hi394
  have hF_418 := hF_402.mono (pIx hI410 (by decide)) (fun _ _ => rfl)
  have hY_419 := hY_403.mono (pIx hI410 (by decide)) (fun _ _ => rfl)
  have hK_420 := hK_404.mono (pIx hI410 (by decide)) (fun _ _ => rfl)
  have hEI421 := hEI405.put hI410 (by decide)
  show pl _ _ _ (10, [(0, .ref m0)], [], M406) _
  refine ps_st (S' := (11, [(0, .ref m0)], [.ref m0], M406)) rfl rfl rfl ?_
  refine ps_st (S' := (12, [(0, .ref m0)], [.int 0, .ref m0], M406)) rfl rfl rfl ?_
  refine pr_put (j := 69) rfl hR408 rfl (fun M422 I423 hR424 hi425 hI426 => ?_)
  have hi427 := (hI426 20 (by decide)).trans hi411
  have hi428 := (hI426 25 (by decide)).trans hi412
  have hi429 := (hI426 26 (by decide)).trans hi413
  have hi430 := (hI426 9 (by decide)).trans hi414
  have hi431 := (hI426 10 (by decide)).trans hi415
  have hi432 := (hI426 11 (by decide)).trans hi416
  have hi433 := (hI426 67 (by decide)).trans hi417
  have hi434 := (hI426 68 (by decide)).trans hi409
  have hF_435 := hF_418.mono (pIx hI426 (by decide)) (fun _ _ => rfl)
  have hY_436 := hY_419.mono (pIx hI426 (by decide)) (fun _ _ => rfl)
  have hK_437 := hK_420.mono (pIx hI426 (by decide)) (fun _ _ => rfl)
  have hEI438 := hEI421.put hI426 (by decide)
  show pl _ _ _ (15, [(0, .ref m0)], [], M422) _
  refine ps_st (S' := (16, [(0, .ref m0)], [.ref m0], M422)) rfl rfl rfl ?_
  refine ps_st (S' := (17, [(0, .ref m0)], [.int 0, .ref m0], M422)) rfl rfl rfl ?_
  refine pr_put (j := 65) rfl hR424 rfl (fun M439 I440 hR441 hi442 hI443 => ?_)
  have hi444 := (hI443 20 (by decide)).trans hi427
  have hi445 := (hI443 25 (by decide)).trans hi428
  have hi446 := (hI443 26 (by decide)).trans hi429
  have hi447 := (hI443 9 (by decide)).trans hi430
  have hi448 := (hI443 10 (by decide)).trans hi431
  have hi449 := (hI443 11 (by decide)).trans hi432
  have hi450 := (hI443 67 (by decide)).trans hi433
  have hi451 := (hI443 68 (by decide)).trans hi434
  have hi452 := (hI443 69 (by decide)).trans hi425
  have hF_453 := hF_435.mono (pIx hI443 (by decide)) (fun _ _ => rfl)
  have hY_454 := hY_436.mono (pIx hI443 (by decide)) (fun _ _ => rfl)
  have hK_455 := hK_437.mono (pIx hI443 (by decide)) (fun _ _ => rfl)
  have hEI456 := hEI438.put hI443 (by decide)
  show pl _ _ _ (20, [(0, .ref m0)], [], M439) _
  refine ps_st (S' := (21, [(0, .ref m0)], [.ref m0], M439)) rfl rfl rfl ?_
  refine ps_st (S' := (22, [(0, .ref m0)], [.int 0, .ref m0], M439)) rfl rfl rfl ?_
  refine pr_put (j := 66) rfl hR441 rfl (fun M457 I458 hR459 hi460 hI461 => ?_)
  have hi462 := (hI461 20 (by decide)).trans hi444
  have hi463 := (hI461 25 (by decide)).trans hi445
  have hi464 := (hI461 26 (by decide)).trans hi446
  have hi465 := (hI461 9 (by decide)).trans hi447
  have hi466 := (hI461 10 (by decide)).trans hi448
  have hi467 := (hI461 11 (by decide)).trans hi449
  have hi468 := (hI461 67 (by decide)).trans hi450
  have hi469 := (hI461 68 (by decide)).trans hi451
  have hi470 := (hI461 69 (by decide)).trans hi452
  have hi471 := (hI461 65 (by decide)).trans hi442
  have hF_472 := hF_453.mono (pIx hI461 (by decide)) (fun _ _ => rfl)
  have hY_473 := hY_454.mono (pIx hI461 (by decide)) (fun _ _ => rfl)
  have hK_474 := hK_455.mono (pIx hI461 (by decide)) (fun _ _ => rfl)
  have hEI475 := hEI456.put hI461 (by decide)
  show pl _ _ _ (25, [(0, .ref m0)], [], M457) _
  refine ps_st (S' := (26, [(0, .ref m0)], [.ref m0], M457)) rfl rfl rfl ?_
  refine ps_st (S' := (27, [(0, .ref m0)], [.int (-1), .ref m0], M457)) rfl rfl rfl ?_
  refine pr_put (j := 70) rfl hR459 rfl (fun M476 I477 hR478 hi479 hI480 => ?_)
  have hi481 := (hI480 20 (by decide)).trans hi462
  have hi482 := (hI480 25 (by decide)).trans hi463
  have hi483 := (hI480 26 (by decide)).trans hi464
  have hi484 := (hI480 9 (by decide)).trans hi465
  have hi485 := (hI480 10 (by decide)).trans hi466
  have hi486 := (hI480 11 (by decide)).trans hi467
  have hi487 := (hI480 67 (by decide)).trans hi468
  have hi488 := (hI480 68 (by decide)).trans hi469
  have hi489 := (hI480 69 (by decide)).trans hi470
  have hi490 := (hI480 65 (by decide)).trans hi471
  have hi491 := (hI480 66 (by decide)).trans hi460
  have hF_492 := hF_472.mono (pIx hI480 (by decide)) (fun _ _ => rfl)
  have hY_493 := hY_473.mono (pIx hI480 (by decide)) (fun _ _ => rfl)
  have hK_494 := hK_474.mono (pIx hI480 (by decide)) (fun _ _ => rfl)
  have hEI495 := hEI475.put hI480 (by decide)
  show pl _ _ _ (30, [(0, .ref m0)], [], M476) _
  refine ps_st (S' := (31, [(0, .ref m0)], [.ref m0], M476)) rfl rfl rfl ?_
  refine ps_st (S' := (32, [(0, .ref m0)], [.int 0, .ref m0], M476)) rfl rfl rfl ?_
  refine pr_put (j := 71) rfl hR478 rfl (fun M496 I497 hR498 hi499 hI500 => ?_)
  have hi501 := (hI500 20 (by decide)).trans hi481
  have hi502 := (hI500 25 (by decide)).trans hi482
  have hi503 := (hI500 26 (by decide)).trans hi483
  have hi504 := (hI500 9 (by decide)).trans hi484
  have hi505 := (hI500 10 (by decide)).trans hi485
  have hi506 := (hI500 11 (by decide)).trans hi486
  have hi507 := (hI500 67 (by decide)).trans hi487
  have hi508 := (hI500 68 (by decide)).trans hi488
  have hi509 := (hI500 69 (by decide)).trans hi489
  have hi510 := (hI500 65 (by decide)).trans hi490
  have hi511 := (hI500 66 (by decide)).trans hi491
  have hi512 := (hI500 70 (by decide)).trans hi479
  have hF_513 := hF_492.mono (pIx hI500 (by decide)) (fun _ _ => rfl)
  have hY_514 := hY_493.mono (pIx hI500 (by decide)) (fun _ _ => rfl)
  have hK_515 := hK_494.mono (pIx hI500 (by decide)) (fun _ _ => rfl)
  have hEI516 := hEI495.put hI500 (by decide)
  show pl _ _ _ (35, [(0, .ref m0)], [], M496) _
  refine ps_st (S' := (36, [(0, .ref m0)], [.ref m0], M496)) rfl rfl rfl ?_
  refine ps_st (S' := (37, [(0, .ref m0)], [.int (-1), .ref m0], M496)) rfl rfl rfl ?_
  refine pr_put (j := 72) rfl hR498 rfl (fun M517 I518 hR519 hi520 hI521 => ?_)
  have hi522 := (hI521 20 (by decide)).trans hi501
  have hi523 := (hI521 25 (by decide)).trans hi502
  have hi524 := (hI521 26 (by decide)).trans hi503
  have hi525 := (hI521 9 (by decide)).trans hi504
  have hi526 := (hI521 10 (by decide)).trans hi505
  have hi527 := (hI521 11 (by decide)).trans hi506
  have hi528 := (hI521 67 (by decide)).trans hi507
  have hi529 := (hI521 68 (by decide)).trans hi508
  have hi530 := (hI521 69 (by decide)).trans hi509
  have hi531 := (hI521 65 (by decide)).trans hi510
  have hi532 := (hI521 66 (by decide)).trans hi511
  have hi533 := (hI521 70 (by decide)).trans hi512
  have hi534 := (hI521 71 (by decide)).trans hi499
  have hF_535 := hF_513.mono (pIx hI521 (by decide)) (fun _ _ => rfl)
  have hY_536 := hY_514.mono (pIx hI521 (by decide)) (fun _ _ => rfl)
  have hK_537 := hK_515.mono (pIx hI521 (by decide)) (fun _ _ => rfl)
  have hEI538 := hEI516.put hI521 (by decide)
  show pl _ _ _ (40, [(0, .ref m0)], [], M517) _
  refine ps_st (S' := (41, [(0, .ref m0)], [.ref m0], M517)) rfl rfl rfl ?_
  refine pl_call (a := [.ref m0]) (rest := []) rfl rfl rfl (rd_readFile (n := n) (f := f) (tx := tx) (cN := cN) (A := A) hR519 hi522 hF_535 hY_536) (fun v539 M540 q541 => ?_)
  rcases q541 with q541 | q541
  · skip
    obtain ⟨E542, p1543, pF544, pM545, pA546, tx1547, cN1548, A1549, I550, R551, q41_s, q41_k, q41_c, q41_f, q41_m, q41_a, rfl, hR552, hI553, hX554, hi555, hi556, hi557, hi558, hi559, hi560, hi561, hY_562, hP_563⟩ := q541
    have hi564 := (hI553 25 (by decide)).trans hi523
    have hi565 := (hI553 26 (by decide)).trans hi524
    have hi566 := (hI553 9 (by decide)).trans hi525
    have hi567 := (hI553 10 (by decide)).trans hi526
    have hi568 := (hI553 11 (by decide)).trans hi527
    have hi569 := (hI553 67 (by decide)).trans hi528
    have hi570 := (hI553 68 (by decide)).trans hi529
    have hi571 := (hI553 69 (by decide)).trans hi530
    have hi572 := (hI553 65 (by decide)).trans hi531
    have hi573 := (hI553 66 (by decide)).trans hi532
    have hi574 := (hI553 70 (by decide)).trans hi533
    have hi575 := (hI553 71 (by decide)).trans hi534
    have hi576 := (hI553 72 (by decide)).trans hi520
    have hF_577 := hF_535.mono (cIx hI553 (by decide)) (cRx hX554 (by decide))
    have hK_578 := hK_537.mono (cIx hI553 (by decide)) (cRx hX554 (by decide))
    have hEI579 := hEI538.tr hI553 (by decide)
    have hER580 := hER.tr hX554 (by decide)
    show pl _ _ _ (44, [(0, .ref m0)], [.int 1], M540) _
    refine ps_if (S1 := (75, [], [], M540)) (S2 := (47, [(0, .ref m0)], [], M540)) rfl rfl rfl (fun c_44 => ?_) (fun c_44 => ?_)
    · exact absurd (of_decide_eq_true c_44) (by decide)
    exact (LL kf).1 (by2 f 8) (by2 f 6) (p1543) (pF544) (pM545) (pA546) (E542) (tx1547) (cN1548) (A1549) M540 I550 R551 hR552 hEI579 hER580 hi555 hi556 hi557 hi558 hi559 hi560 hi561 hi564 hi565 hi575 hi573 hi572 hi570 hi571 hi574 hi576 hi566 hi567 hi568 hF_577 hY_562 hP_563 hK_578 (rfl) (rfl) (q41_s) (⟨Nat.lt_of_lt_of_le hs1.1 q41_k.1, (q41_k.2 _ hs1.1).trans hs1.2⟩) (⟨Nat.lt_of_lt_of_le hs2.1 q41_k.1, (q41_k.2 _ hs2.1).trans hs2.2⟩) (⟨Nat.lt_of_lt_of_le hs3.1 q41_k.1, (q41_k.2 _ hs3.1).trans hs3.2⟩) (q41_c) (q41_f) (q41_m) (q41_a)
  · skip
    obtain ⟨e581, I582, R583, q41_s, rfl, hR584, hI585, hX586, hi587, hi588⟩ := q541
    have hi589 := (hI585 25 (by decide)).trans hi523
    have hi590 := (hI585 26 (by decide)).trans hi524
    have hi591 := (hI585 9 (by decide)).trans hi525
    have hi592 := (hI585 10 (by decide)).trans hi526
    have hi593 := (hI585 11 (by decide)).trans hi527
    have hi594 := (hI585 67 (by decide)).trans hi528
    have hi595 := (hI585 68 (by decide)).trans hi529
    have hi596 := (hI585 69 (by decide)).trans hi530
    have hi597 := (hI585 65 (by decide)).trans hi531
    have hi598 := (hI585 66 (by decide)).trans hi532
    have hi599 := (hI585 70 (by decide)).trans hi533
    have hi600 := (hI585 71 (by decide)).trans hi534
    have hi601 := (hI585 72 (by decide)).trans hi520
    have hF_602 := hF_535.mono (cIx hI585 (by decide)) (cRx hX586 (by decide))
    have hK_603 := hK_537.mono (cIx hI585 (by decide)) (cRx hX586 (by decide))
    have hEI604 := hEI538.tr hI585 (by decide)
    have hER605 := hER.tr hX586 (by decide)
    show pl _ _ _ (44, [(0, .ref m0)], [.int 0], M540) _
    refine ps_if (S1 := (75, [], [], M540)) (S2 := (47, [(0, .ref m0)], [], M540)) rfl rfl rfl (fun c_44 => ?_) (fun c_44 => ?_)
    rotate_left
    · exact absurd (by decide) (of_decide_eq_false c_44)
    refine ps_st (S' := (76, [], [.int 0], M540)) rfl rfl rfl ?_
    exact ps_ret rfl rfl (Or.inr ⟨e581, I582, R583, by
        exact s_read_1 q41_s, rfl, hR584, hEI604, hER605, hi587, hi588⟩)
set_option maxHeartbeats 4000000 in
theorem rd_parse13 {g : xe_G} {m0 : Nat} {q : Nat → Nat} {z : Nat × Nat} {I : rI} {R : rR} {M : mi_H} {n : Nat} {f : Nat → Int32} (hR : RS g m0 q z I R M) (hi49 : I 49 = some 0) (hB : BX 13 n f I R) (hK : KX I R) (hn : n ≤ 65540) : pt (mT g) 230 [.ref m0, .ref (q 13), .int (nI n)] M (fun v M' => (∃  (I' : rI) (R' : rR), (s_read f n = none) ∧ v = some (.int 1) ∧ RS g m0 q z I' R' M' ∧ eqI [3, 8, 9, 10, 11, 16, 20, 25, 26, 47, 48, 50, 51, 52, 53, 54, 55, 56, 57, 58, 59, 60, 61, 65, 66, 67, 68, 69, 70, 71, 72] I I' ∧ eqR [1, 2, 4, 5, 6, 7, 12, 21, 22, 27, 28, 29, 30, 31, 32, 33, 34, 35, 36, 37, 38, 39, 40, 41, 42, 43, 44, 45, 46] R R') ∨ (∃ (e9 : Nat × Nat) (I' : rI) (R' : rR), (s_read f n = some e9) ∧ v = some (.int 0) ∧ RS g m0 q z I' R' M' ∧ eqI [3, 8, 9, 10, 11, 16, 20, 25, 26, 47, 48, 50, 51, 52, 53, 54, 55, 56, 57, 58, 59, 60, 61, 65, 66, 67, 68, 69, 70, 71, 72] I I' ∧ eqR [1, 2, 4, 5, 6, 7, 12, 21, 22, 27, 28, 29, 30, 31, 32, 33, 34, 35, 36, 37, 38, 39, 40, 41, 42, 43, 44, 45, 46] R R' ∧ I' 47 = some (nI e9.1) ∧ I' 48 = some (nI e9.2))) := by
  refine pt_in (b := mb_230 g) rfl (fun kf => ?_)
  show pl (mT g) kf (mb_230 g).2 (0, [(0, .ref m0), (1, .ref (q 13)), (2, .int (nI n))], [], M) _
  have hEI : eqI [3, 8, 9, 10, 11, 16, 20, 25, 26, 47, 48, 50, 51, 52, 53, 54, 55, 56, 57, 58, 59, 60, 61, 65, 66, 67, 68, 69, 70, 71, 72] I I := eqI.rf
  have hER : eqR [1, 2, 4, 5, 6, 7, 12, 21, 22, 27, 28, 29, 30, 31, 32, 33, 34, 35, 36, 37, 38, 39, 40, 41, 42, 43, 44, 45, 46] R R := eqR.rf
  have LL : ∀ (kf : Nat), (∀ (i : Nat) (tx : List (List Nat)) (cN : Nat) (A : Nat → Nat) (s1 s2 s3 : Nat) (M1 : mi_H) (I1 : rI) (R1 : rR), (RS g m0 q z I1 R1 M1) → (eqI [3, 8, 9, 10, 11, 16, 20, 25, 26, 47, 48, 50, 51, 52, 53, 54, 55, 56, 57, 58, 59, 60, 61, 65, 66, 67, 68, 69, 70, 71, 72] I I1) → (eqR [1, 2, 4, 5, 6, 7, 12, 21, 22, 27, 28, 29, 30, 31, 32, 33, 34, 35, 36, 37, 38, 39, 40, 41, 42, 43, 44, 45, 46] R R1) → (I1 49 = some 0) → (I1 16 = some (nI n)) → (I1 20 = some 0) → (I1 25 = some 0) → (I1 26 = some 0) → (I1 9 = some (nI s1)) → (I1 10 = some (nI s2)) → (I1 11 = some (nI s3)) → (BX 13 n f I1 R1) → (KX I1 R1) → (SYT tx cN A I1 R1) → (BX 12 i f I1 R1) → (i ≤ n) → (s1 < tx.length ∧ tx.getD s1 [] = ltx 25) → (s2 < tx.length ∧ tx.getD s2 [] = ltx 26) → (s3 < tx.length ∧ tx.getD s3 [] = ltx 27) →  pl (mT g) kf (mb_230 g).2 (11, [(0, .ref m0), (1, .ref (q 13)), (2, .int (nI n)), (3, .int (nI i))], [], M1) (fun v M' => (∃  (I' : rI) (R' : rR), (s_read f n = none) ∧ v = some (.int 1) ∧ RS g m0 q z I' R' M' ∧ eqI [3, 8, 9, 10, 11, 16, 20, 25, 26, 47, 48, 50, 51, 52, 53, 54, 55, 56, 57, 58, 59, 60, 61, 65, 66, 67, 68, 69, 70, 71, 72] I I' ∧ eqR [1, 2, 4, 5, 6, 7, 12, 21, 22, 27, 28, 29, 30, 31, 32, 33, 34, 35, 36, 37, 38, 39, 40, 41, 42, 43, 44, 45, 46] R R') ∨ (∃ (e9 : Nat × Nat) (I' : rI) (R' : rR), (s_read f n = some e9) ∧ v = some (.int 0) ∧ RS g m0 q z I' R' M' ∧ eqI [3, 8, 9, 10, 11, 16, 20, 25, 26, 47, 48, 50, 51, 52, 53, 54, 55, 56, 57, 58, 59, 60, 61, 65, 66, 67, 68, 69, 70, 71, 72] I I' ∧ eqR [1, 2, 4, 5, 6, 7, 12, 21, 22, 27, 28, 29, 30, 31, 32, 33, 34, 35, 36, 37, 38, 39, 40, 41, 42, 43, 44, 45, 46] R R' ∧ I' 47 = some (nI e9.1) ∧ I' 48 = some (nI e9.2)))) := by
    intro kf
    induction kf with
    | zero => exact (by intros; exact pl_0)
    | succ kf ih =>
      intro i tx cN A s1 s2 s3 M1 I1 R1 hR1 hEI1 hER1 hl49 hl16 hl20 hl25 hl26 hl9 hl10 hl11 hB1 hK1 hY1 hC1 hi hs1 hs2 hs3
      refine ps_st1 (S' := (12, [(0, .ref m0), (1, .ref (q 13)), (2, .int (nI n)), (3, .int (nI i))], [.int (nI i)], M1)) rfl rfl rfl ?_
      refine ps_st (S' := (13, [(0, .ref m0), (1, .ref (q 13)), (2, .int (nI n)), (3, .int (nI i))], [.int (nI n), .int (nI i)], M1)) rfl rfl rfl ?_
      refine ps_if2 (S1 := (31, [(0, .ref m0), (1, .ref (q 13)), (2, .int (nI n)), (3, .int (nI i))], [], M1)) (S2 := (16, [(0, .ref m0), (1, .ref (q 13)), (2, .int (nI n)), (3, .int (nI i))], [], M1)) rfl rfl rfl (fun c_13 => ?_) (fun c_13 => ?_)
      · have c_13 : (nI n) ≤ (nI i) := of_decide_eq_true c_13
        have n_13 : n ≤ i := (le_nI (p := n) (n := i) (by omega) (by omega)).mp c_13
        refine ps_st (S' := (32, [(0, .ref m0), (1, .ref (q 13)), (2, .int (nI n)), (3, .int (nI i))], [.ref m0], M1)) rfl rfl rfl ?_
        have hF9 : FK n f I1 R1 := ⟨hn, hl49, hl16, fun i9 h9 => (hC1 i9 (by omega)).1⟩
        refine pl_call (a := [.ref m0]) (rest := []) rfl rfl rfl (rd_checkFile (n := n) (f := f) (tx := tx) (cN := cN) (A := A) (s1 := s1) (s2 := s2) (s3 := s3) hR1 hl20 hl25 hl26 hl9 hl10 hl11 hF9 hY1 hK1 (hs1) (hs2) (hs3)) (fun v1 M2 q3 => ?_)
        rcases q3 with q3 | q3
        · skip
          obtain ⟨I4, R5, q32_s, rfl, hR6, hI7, hX8⟩ := q3
          have hi9 := (hI7 49 (by decide)).trans hl49
          have hi10 := (hI7 16 (by decide)).trans hl16
          have hi11 := (hI7 9 (by decide)).trans hl9
          have hi12 := (hI7 10 (by decide)).trans hl10
          have hi13 := (hI7 11 (by decide)).trans hl11
          have hB_14 := hB1.mono (cIx hI7 (by decide)) (cRx hX8 (by decide))
          have hK_15 := hK1.mono (cIx hI7 (by decide)) (cRx hX8 (by decide))
          have hC_16 := hC1.mono (cIx hI7 (by decide)) (cRx hX8 (by decide))
          have hF_17 := hF9.mono (cIx hI7 (by decide)) (cRx hX8 (by decide))
          have hEI18 := hEI1.tr hI7 (by decide)
          have hER19 := hER1.tr hX8 (by decide)
          show pl _ _ _ (35, [(0, .ref m0), (1, .ref (q 13)), (2, .int (nI n)), (3, .int (nI i))], [.int 1], M2) _
          exact ps_ret rfl rfl (Or.inl ⟨I4, R5, q32_s, rfl, hR6, hEI18, hER19⟩)
        · skip
          obtain ⟨e920, I21, R22, q32_s, rfl, hR23, hI24, hX25, hi26, hi27⟩ := q3
          have hi28 := (hI24 49 (by decide)).trans hl49
          have hi29 := (hI24 16 (by decide)).trans hl16
          have hi30 := (hI24 9 (by decide)).trans hl9
          have hi31 := (hI24 10 (by decide)).trans hl10
          have hi32 := (hI24 11 (by decide)).trans hl11
          have hB_33 := hB1.mono (cIx hI24 (by decide)) (cRx hX25 (by decide))
          have hK_34 := hK1.mono (cIx hI24 (by decide)) (cRx hX25 (by decide))
          have hC_35 := hC1.mono (cIx hI24 (by decide)) (cRx hX25 (by decide))
          have hF_36 := hF9.mono (cIx hI24 (by decide)) (cRx hX25 (by decide))
          have hEI37 := hEI1.tr hI24 (by decide)
          have hER38 := hER1.tr hX25 (by decide)
          show pl _ _ _ (35, [(0, .ref m0), (1, .ref (q 13)), (2, .int (nI n)), (3, .int (nI i))], [.int 0], M2) _
          exact ps_ret rfl rfl (Or.inr ⟨e920, I21, R22, q32_s, rfl, hR23, hEI37, hER38, hi26, hi27⟩)
      · have c_13 : ¬ ((nI n) ≤ (nI i)) := of_decide_eq_false c_13
        have n_13 : ¬ (n ≤ i) := fun h9 => c_13 ((le_nI (p := n) (n := i) (by omega) (by omega)).mpr h9)
        refine ps_st (S' := (17, [(0, .ref m0), (1, .ref (q 13)), (2, .int (nI n)), (3, .int (nI i))], [.ref m0], M1)) rfl rfl rfl ?_
        refine pr_ref (j := 12) (S' := (20, [(0, .ref m0), (1, .ref (q 13)), (2, .int (nI n)), (3, .int (nI i))], [.ref (q 12)], M1)) rfl hR1 rfl rfl ?_
        refine ps_st (S' := (21, [(0, .ref m0), (1, .ref (q 13)), (2, .int (nI n)), (3, .int (nI i))], [.int (nI i), .ref (q 12)], M1)) rfl rfl rfl ?_
        refine ps_st (S' := (22, [(0, .ref m0), (1, .ref (q 13)), (2, .int (nI n)), (3, .int (nI i))], [.ref (q 13), .int (nI i), .ref (q 12)], M1)) rfl rfl rfl ?_
        refine ps_st (S' := (23, [(0, .ref m0), (1, .ref (q 13)), (2, .int (nI n)), (3, .int (nI i))], [.int (nI i), .ref (q 13), .int (nI i), .ref (q 12)], M1)) rfl rfl rfl ?_
        refine pr_ld (a := 13) (j := i) (y := (f i)) (S' := (24, [(0, .ref m0), (1, .ref (q 13)), (2, .int (nI n)), (3, .int (nI i))], [.int (f i), .int (nI i), .ref (q 12)], M1)) rfl hR1 rfl (by omega) (fun _ => (hB1 i (by omega)).1) rfl (fun i1_23 => ?_)
        refine pr_st (a := 12) (j := i) rfl hR1 rfl (by omega) (fun M39 R40 i1_24 hR41 hS42 => ?_)
        have hB_43 := hB1.mono (fun _ _ => rfl) (rRx hS42 (by decide))
        have hK_44 := hK1.mono (fun _ _ => rfl) (rRx hS42 (by decide))
        have hY_45 := hY1.mono (fun _ _ => rfl) (rRx hS42 (by decide))
        have hER46 := hER1.st hS42 (by decide)
        show pl _ _ _ (25, [(0, .ref m0), (1, .ref (q 13)), (2, .int (nI n)), (3, .int (nI i))], [], M39) _
        have hC_47 : BX 12 (i + 1) f I1 R40 := BX.st hC1 hS42 (hB1 i (by omega)).2 rfl
        refine ps_st (S' := (28, [(3, .int ((nI i) + 1)), (0, .ref m0), (1, .ref (q 13)), (2, .int (nI n))], [], M39)) rfl rfl rfl ?_
        rw [nI_add1 (p := i) (k := 1) (x := 1) rfl (by omega)]
        show pl _ _ _ (_, [(3, .int (nI (i + 1))), (0, .ref m0), (1, .ref (q 13)), (2, .int (nI n))], [], M39) _
        refine ps_st (S' := (11, [(0, .ref m0), (1, .ref (q 13)), (2, .int (nI n)), (3, .int (nI (i + 1)))], [], M39)) rfl rfl rfl ?_
        exact ih (i + 1) (tx) (cN) (A) (s1) (s2) (s3) M39 I1 R40 hR41 hEI1 hER46 hl49 hl16 hl20 hl25 hl26 hl9 hl10 hl11 hB_43 hK_44 hY_45 hC_47 (by omega) (hs1) (hs2) (hs3)
  refine ps_st (S' := (1, [(0, .ref m0), (1, .ref (q 13)), (2, .int (nI n))], [.ref m0], M)) rfl rfl rfl ?_
  refine pl_call (a := [.ref m0]) (rest := []) rfl rfl rfl (rd_clear hR) (fun v48 M49 q50 => ?_)
  obtain ⟨tx51, cN52, A53, s154, s255, s356, I57, R58, q1_s, rfl, hR59, hI60, hX61, hi62, hi63, hi64, hi65, hi66, hi67, hY_68⟩ := q50
  have hi69 := (hI60 49 (by decide)).trans hi49
  have hB_70 := hB.mono (cIx hI60 (by decide)) (cRx hX61 (by decide))
  have hK_71 := hK.mono (cIx hI60 (by decide)) (cRx hX61 (by decide))
  have hEI72 := hEI.tr hI60 (by decide)
  have hER73 := hER.tr hX61 (by decide)
  show pl _ _ _ (4, [(0, .ref m0), (1, .ref (q 13)), (2, .int (nI n))], [], M49) _
  refine ps_st (S' := (5, [(0, .ref m0), (1, .ref (q 13)), (2, .int (nI n))], [.ref m0], M49)) rfl rfl rfl ?_
  refine ps_st (S' := (6, [(0, .ref m0), (1, .ref (q 13)), (2, .int (nI n))], [.int (nI n), .ref m0], M49)) rfl rfl rfl ?_
  refine pr_put (j := 16) rfl hR59 rfl (fun M74 I75 hR76 hi77 hI78 => ?_)
  have hi79 := (hI78 49 (by decide)).trans hi69
  have hi80 := (hI78 9 (by decide)).trans hi62
  have hi81 := (hI78 10 (by decide)).trans hi63
  have hi82 := (hI78 11 (by decide)).trans hi64
  have hi83 := (hI78 20 (by decide)).trans hi65
  have hi84 := (hI78 25 (by decide)).trans hi66
  have hi85 := (hI78 26 (by decide)).trans hi67
  have hB_86 := hB_70.mono (pIx hI78 (by decide)) (fun _ _ => rfl)
  have hK_87 := hK_71.mono (pIx hI78 (by decide)) (fun _ _ => rfl)
  have hY_88 := hY_68.mono (pIx hI78 (by decide)) (fun _ _ => rfl)
  have hEI89 := hEI72.put hI78 (by decide)
  show pl _ _ _ (9, [(0, .ref m0), (1, .ref (q 13)), (2, .int (nI n))], [], M74) _
  refine ps_st (S' := (10, [(0, .ref m0), (1, .ref (q 13)), (2, .int (nI n))], [.int 0], M74)) rfl rfl rfl ?_
  refine ps_st (S' := (11, [(0, .ref m0), (1, .ref (q 13)), (2, .int (nI n)), (3, .int 0)], [], M74)) rfl rfl rfl ?_
  have hC0 : BX 12 0 f I75 R58 := fun i9 h9 => absurd h9 (Nat.not_lt_zero _)
  exact (LL kf) (0) (tx51) (cN52) (A53) (s154) (s255) (s356) M74 I75 R58 hR76 hEI89 hER73 hi79 hi77 hi83 hi84 hi85 hi80 hi81 hi82 hB_86 hK_87 hY_88 hC0 (by omega) (⟨q1_s.1, q1_s.2.1⟩) (⟨q1_s.2.2.1, q1_s.2.2.2.1⟩) (⟨q1_s.2.2.2.2.1, q1_s.2.2.2.2.2⟩)
set_option maxHeartbeats 4000000 in
theorem rd_parse14 {g : xe_G} {m0 : Nat} {q : Nat → Nat} {z : Nat × Nat} {I : rI} {R : rR} {M : mi_H} {n : Nat} {f : Nat → Int32} (hR : RS g m0 q z I R M) (hi49 : I 49 = some 0) (hB : BX 14 n f I R) (hK : KX I R) (hn : n ≤ 65540) : pt (mT g) 230 [.ref m0, .ref (q 14), .int (nI n)] M (fun v M' => (∃  (I' : rI) (R' : rR), (s_read f n = none) ∧ v = some (.int 1) ∧ RS g m0 q z I' R' M' ∧ eqI [3, 8, 9, 10, 11, 16, 20, 25, 26, 47, 48, 50, 51, 52, 53, 54, 55, 56, 57, 58, 59, 60, 61, 65, 66, 67, 68, 69, 70, 71, 72] I I' ∧ eqR [1, 2, 4, 5, 6, 7, 12, 21, 22, 27, 28, 29, 30, 31, 32, 33, 34, 35, 36, 37, 38, 39, 40, 41, 42, 43, 44, 45, 46] R R') ∨ (∃ (e9 : Nat × Nat) (I' : rI) (R' : rR), (s_read f n = some e9) ∧ v = some (.int 0) ∧ RS g m0 q z I' R' M' ∧ eqI [3, 8, 9, 10, 11, 16, 20, 25, 26, 47, 48, 50, 51, 52, 53, 54, 55, 56, 57, 58, 59, 60, 61, 65, 66, 67, 68, 69, 70, 71, 72] I I' ∧ eqR [1, 2, 4, 5, 6, 7, 12, 21, 22, 27, 28, 29, 30, 31, 32, 33, 34, 35, 36, 37, 38, 39, 40, 41, 42, 43, 44, 45, 46] R R' ∧ I' 47 = some (nI e9.1) ∧ I' 48 = some (nI e9.2))) := by
  refine pt_in (b := mb_230 g) rfl (fun kf => ?_)
  show pl (mT g) kf (mb_230 g).2 (0, [(0, .ref m0), (1, .ref (q 14)), (2, .int (nI n))], [], M) _
  have hEI : eqI [3, 8, 9, 10, 11, 16, 20, 25, 26, 47, 48, 50, 51, 52, 53, 54, 55, 56, 57, 58, 59, 60, 61, 65, 66, 67, 68, 69, 70, 71, 72] I I := eqI.rf
  have hER : eqR [1, 2, 4, 5, 6, 7, 12, 21, 22, 27, 28, 29, 30, 31, 32, 33, 34, 35, 36, 37, 38, 39, 40, 41, 42, 43, 44, 45, 46] R R := eqR.rf
  have LL : ∀ (kf : Nat), (∀ (i : Nat) (tx : List (List Nat)) (cN : Nat) (A : Nat → Nat) (s1 s2 s3 : Nat) (M1 : mi_H) (I1 : rI) (R1 : rR), (RS g m0 q z I1 R1 M1) → (eqI [3, 8, 9, 10, 11, 16, 20, 25, 26, 47, 48, 50, 51, 52, 53, 54, 55, 56, 57, 58, 59, 60, 61, 65, 66, 67, 68, 69, 70, 71, 72] I I1) → (eqR [1, 2, 4, 5, 6, 7, 12, 21, 22, 27, 28, 29, 30, 31, 32, 33, 34, 35, 36, 37, 38, 39, 40, 41, 42, 43, 44, 45, 46] R R1) → (I1 49 = some 0) → (I1 16 = some (nI n)) → (I1 20 = some 0) → (I1 25 = some 0) → (I1 26 = some 0) → (I1 9 = some (nI s1)) → (I1 10 = some (nI s2)) → (I1 11 = some (nI s3)) → (BX 14 n f I1 R1) → (KX I1 R1) → (SYT tx cN A I1 R1) → (BX 12 i f I1 R1) → (i ≤ n) → (s1 < tx.length ∧ tx.getD s1 [] = ltx 25) → (s2 < tx.length ∧ tx.getD s2 [] = ltx 26) → (s3 < tx.length ∧ tx.getD s3 [] = ltx 27) →  pl (mT g) kf (mb_230 g).2 (11, [(0, .ref m0), (1, .ref (q 14)), (2, .int (nI n)), (3, .int (nI i))], [], M1) (fun v M' => (∃  (I' : rI) (R' : rR), (s_read f n = none) ∧ v = some (.int 1) ∧ RS g m0 q z I' R' M' ∧ eqI [3, 8, 9, 10, 11, 16, 20, 25, 26, 47, 48, 50, 51, 52, 53, 54, 55, 56, 57, 58, 59, 60, 61, 65, 66, 67, 68, 69, 70, 71, 72] I I' ∧ eqR [1, 2, 4, 5, 6, 7, 12, 21, 22, 27, 28, 29, 30, 31, 32, 33, 34, 35, 36, 37, 38, 39, 40, 41, 42, 43, 44, 45, 46] R R') ∨ (∃ (e9 : Nat × Nat) (I' : rI) (R' : rR), (s_read f n = some e9) ∧ v = some (.int 0) ∧ RS g m0 q z I' R' M' ∧ eqI [3, 8, 9, 10, 11, 16, 20, 25, 26, 47, 48, 50, 51, 52, 53, 54, 55, 56, 57, 58, 59, 60, 61, 65, 66, 67, 68, 69, 70, 71, 72] I I' ∧ eqR [1, 2, 4, 5, 6, 7, 12, 21, 22, 27, 28, 29, 30, 31, 32, 33, 34, 35, 36, 37, 38, 39, 40, 41, 42, 43, 44, 45, 46] R R' ∧ I' 47 = some (nI e9.1) ∧ I' 48 = some (nI e9.2)))) := by
    intro kf
    induction kf with
    | zero => exact (by intros; exact pl_0)
    | succ kf ih =>
      intro i tx cN A s1 s2 s3 M1 I1 R1 hR1 hEI1 hER1 hl49 hl16 hl20 hl25 hl26 hl9 hl10 hl11 hB1 hK1 hY1 hC1 hi hs1 hs2 hs3
      refine ps_st1 (S' := (12, [(0, .ref m0), (1, .ref (q 14)), (2, .int (nI n)), (3, .int (nI i))], [.int (nI i)], M1)) rfl rfl rfl ?_
      refine ps_st (S' := (13, [(0, .ref m0), (1, .ref (q 14)), (2, .int (nI n)), (3, .int (nI i))], [.int (nI n), .int (nI i)], M1)) rfl rfl rfl ?_
      refine ps_if2 (S1 := (31, [(0, .ref m0), (1, .ref (q 14)), (2, .int (nI n)), (3, .int (nI i))], [], M1)) (S2 := (16, [(0, .ref m0), (1, .ref (q 14)), (2, .int (nI n)), (3, .int (nI i))], [], M1)) rfl rfl rfl (fun c_13 => ?_) (fun c_13 => ?_)
      · have c_13 : (nI n) ≤ (nI i) := of_decide_eq_true c_13
        have n_13 : n ≤ i := (le_nI (p := n) (n := i) (by omega) (by omega)).mp c_13
        refine ps_st (S' := (32, [(0, .ref m0), (1, .ref (q 14)), (2, .int (nI n)), (3, .int (nI i))], [.ref m0], M1)) rfl rfl rfl ?_
        have hF9 : FK n f I1 R1 := ⟨hn, hl49, hl16, fun i9 h9 => (hC1 i9 (by omega)).1⟩
        refine pl_call (a := [.ref m0]) (rest := []) rfl rfl rfl (rd_checkFile (n := n) (f := f) (tx := tx) (cN := cN) (A := A) (s1 := s1) (s2 := s2) (s3 := s3) hR1 hl20 hl25 hl26 hl9 hl10 hl11 hF9 hY1 hK1 (hs1) (hs2) (hs3)) (fun v1 M2 q3 => ?_)
        rcases q3 with q3 | q3
        · skip
          obtain ⟨I4, R5, q32_s, rfl, hR6, hI7, hX8⟩ := q3
          have hi9 := (hI7 49 (by decide)).trans hl49
          have hi10 := (hI7 16 (by decide)).trans hl16
          have hi11 := (hI7 9 (by decide)).trans hl9
          have hi12 := (hI7 10 (by decide)).trans hl10
          have hi13 := (hI7 11 (by decide)).trans hl11
          have hB_14 := hB1.mono (cIx hI7 (by decide)) (cRx hX8 (by decide))
          have hK_15 := hK1.mono (cIx hI7 (by decide)) (cRx hX8 (by decide))
          have hC_16 := hC1.mono (cIx hI7 (by decide)) (cRx hX8 (by decide))
          have hF_17 := hF9.mono (cIx hI7 (by decide)) (cRx hX8 (by decide))
          have hEI18 := hEI1.tr hI7 (by decide)
          have hER19 := hER1.tr hX8 (by decide)
          show pl _ _ _ (35, [(0, .ref m0), (1, .ref (q 14)), (2, .int (nI n)), (3, .int (nI i))], [.int 1], M2) _
          exact ps_ret rfl rfl (Or.inl ⟨I4, R5, q32_s, rfl, hR6, hEI18, hER19⟩)
        · skip
          obtain ⟨e920, I21, R22, q32_s, rfl, hR23, hI24, hX25, hi26, hi27⟩ := q3
          have hi28 := (hI24 49 (by decide)).trans hl49
          have hi29 := (hI24 16 (by decide)).trans hl16
          have hi30 := (hI24 9 (by decide)).trans hl9
          have hi31 := (hI24 10 (by decide)).trans hl10
          have hi32 := (hI24 11 (by decide)).trans hl11
          have hB_33 := hB1.mono (cIx hI24 (by decide)) (cRx hX25 (by decide))
          have hK_34 := hK1.mono (cIx hI24 (by decide)) (cRx hX25 (by decide))
          have hC_35 := hC1.mono (cIx hI24 (by decide)) (cRx hX25 (by decide))
          have hF_36 := hF9.mono (cIx hI24 (by decide)) (cRx hX25 (by decide))
          have hEI37 := hEI1.tr hI24 (by decide)
          have hER38 := hER1.tr hX25 (by decide)
          show pl _ _ _ (35, [(0, .ref m0), (1, .ref (q 14)), (2, .int (nI n)), (3, .int (nI i))], [.int 0], M2) _
          exact ps_ret rfl rfl (Or.inr ⟨e920, I21, R22, q32_s, rfl, hR23, hEI37, hER38, hi26, hi27⟩)
      · have c_13 : ¬ ((nI n) ≤ (nI i)) := of_decide_eq_false c_13
        have n_13 : ¬ (n ≤ i) := fun h9 => c_13 ((le_nI (p := n) (n := i) (by omega) (by omega)).mpr h9)
        refine ps_st (S' := (17, [(0, .ref m0), (1, .ref (q 14)), (2, .int (nI n)), (3, .int (nI i))], [.ref m0], M1)) rfl rfl rfl ?_
        refine pr_ref (j := 12) (S' := (20, [(0, .ref m0), (1, .ref (q 14)), (2, .int (nI n)), (3, .int (nI i))], [.ref (q 12)], M1)) rfl hR1 rfl rfl ?_
        refine ps_st (S' := (21, [(0, .ref m0), (1, .ref (q 14)), (2, .int (nI n)), (3, .int (nI i))], [.int (nI i), .ref (q 12)], M1)) rfl rfl rfl ?_
        refine ps_st (S' := (22, [(0, .ref m0), (1, .ref (q 14)), (2, .int (nI n)), (3, .int (nI i))], [.ref (q 14), .int (nI i), .ref (q 12)], M1)) rfl rfl rfl ?_
        refine ps_st (S' := (23, [(0, .ref m0), (1, .ref (q 14)), (2, .int (nI n)), (3, .int (nI i))], [.int (nI i), .ref (q 14), .int (nI i), .ref (q 12)], M1)) rfl rfl rfl ?_
        refine pr_ld (a := 14) (j := i) (y := (f i)) (S' := (24, [(0, .ref m0), (1, .ref (q 14)), (2, .int (nI n)), (3, .int (nI i))], [.int (f i), .int (nI i), .ref (q 12)], M1)) rfl hR1 rfl (by omega) (fun _ => (hB1 i (by omega)).1) rfl (fun i1_23 => ?_)
        refine pr_st (a := 12) (j := i) rfl hR1 rfl (by omega) (fun M39 R40 i1_24 hR41 hS42 => ?_)
        have hB_43 := hB1.mono (fun _ _ => rfl) (rRx hS42 (by decide))
        have hK_44 := hK1.mono (fun _ _ => rfl) (rRx hS42 (by decide))
        have hY_45 := hY1.mono (fun _ _ => rfl) (rRx hS42 (by decide))
        have hER46 := hER1.st hS42 (by decide)
        show pl _ _ _ (25, [(0, .ref m0), (1, .ref (q 14)), (2, .int (nI n)), (3, .int (nI i))], [], M39) _
        have hC_47 : BX 12 (i + 1) f I1 R40 := BX.st hC1 hS42 (hB1 i (by omega)).2 rfl
        refine ps_st (S' := (28, [(3, .int ((nI i) + 1)), (0, .ref m0), (1, .ref (q 14)), (2, .int (nI n))], [], M39)) rfl rfl rfl ?_
        rw [nI_add1 (p := i) (k := 1) (x := 1) rfl (by omega)]
        show pl _ _ _ (_, [(3, .int (nI (i + 1))), (0, .ref m0), (1, .ref (q 14)), (2, .int (nI n))], [], M39) _
        refine ps_st (S' := (11, [(0, .ref m0), (1, .ref (q 14)), (2, .int (nI n)), (3, .int (nI (i + 1)))], [], M39)) rfl rfl rfl ?_
        exact ih (i + 1) (tx) (cN) (A) (s1) (s2) (s3) M39 I1 R40 hR41 hEI1 hER46 hl49 hl16 hl20 hl25 hl26 hl9 hl10 hl11 hB_43 hK_44 hY_45 hC_47 (by omega) (hs1) (hs2) (hs3)
  refine ps_st (S' := (1, [(0, .ref m0), (1, .ref (q 14)), (2, .int (nI n))], [.ref m0], M)) rfl rfl rfl ?_
  refine pl_call (a := [.ref m0]) (rest := []) rfl rfl rfl (rd_clear hR) (fun v48 M49 q50 => ?_)
  obtain ⟨tx51, cN52, A53, s154, s255, s356, I57, R58, q1_s, rfl, hR59, hI60, hX61, hi62, hi63, hi64, hi65, hi66, hi67, hY_68⟩ := q50
  have hi69 := (hI60 49 (by decide)).trans hi49
  have hB_70 := hB.mono (cIx hI60 (by decide)) (cRx hX61 (by decide))
  have hK_71 := hK.mono (cIx hI60 (by decide)) (cRx hX61 (by decide))
  have hEI72 := hEI.tr hI60 (by decide)
  have hER73 := hER.tr hX61 (by decide)
  show pl _ _ _ (4, [(0, .ref m0), (1, .ref (q 14)), (2, .int (nI n))], [], M49) _
  refine ps_st (S' := (5, [(0, .ref m0), (1, .ref (q 14)), (2, .int (nI n))], [.ref m0], M49)) rfl rfl rfl ?_
  refine ps_st (S' := (6, [(0, .ref m0), (1, .ref (q 14)), (2, .int (nI n))], [.int (nI n), .ref m0], M49)) rfl rfl rfl ?_
  refine pr_put (j := 16) rfl hR59 rfl (fun M74 I75 hR76 hi77 hI78 => ?_)
  have hi79 := (hI78 49 (by decide)).trans hi69
  have hi80 := (hI78 9 (by decide)).trans hi62
  have hi81 := (hI78 10 (by decide)).trans hi63
  have hi82 := (hI78 11 (by decide)).trans hi64
  have hi83 := (hI78 20 (by decide)).trans hi65
  have hi84 := (hI78 25 (by decide)).trans hi66
  have hi85 := (hI78 26 (by decide)).trans hi67
  have hB_86 := hB_70.mono (pIx hI78 (by decide)) (fun _ _ => rfl)
  have hK_87 := hK_71.mono (pIx hI78 (by decide)) (fun _ _ => rfl)
  have hY_88 := hY_68.mono (pIx hI78 (by decide)) (fun _ _ => rfl)
  have hEI89 := hEI72.put hI78 (by decide)
  show pl _ _ _ (9, [(0, .ref m0), (1, .ref (q 14)), (2, .int (nI n))], [], M74) _
  refine ps_st (S' := (10, [(0, .ref m0), (1, .ref (q 14)), (2, .int (nI n))], [.int 0], M74)) rfl rfl rfl ?_
  refine ps_st (S' := (11, [(0, .ref m0), (1, .ref (q 14)), (2, .int (nI n)), (3, .int 0)], [], M74)) rfl rfl rfl ?_
  have hC0 : BX 12 0 f I75 R58 := fun i9 h9 => absurd h9 (Nat.not_lt_zero _)
  exact (LL kf) (0) (tx51) (cN52) (A53) (s154) (s255) (s356) M74 I75 R58 hR76 hEI89 hER73 hi79 hi77 hi83 hi84 hi85 hi80 hi81 hi82 hB_86 hK_87 hY_88 hC0 (by omega) (⟨q1_s.1, q1_s.2.1⟩) (⟨q1_s.2.2.1, q1_s.2.2.2.1⟩) (⟨q1_s.2.2.2.2.1, q1_s.2.2.2.2.2⟩)
set_option maxHeartbeats 4000000 in
theorem rd_read {g : xe_G} {m0 : Nat} {q : Nat → Nat} {z : Nat × Nat} {I : rI} {R : rR} {M : mi_H} {n : Nat} {f : Nat → Int32} {kn : Int32} (hR : RS g m0 q z I R M) (hi49 : I 49 = some 0) (hi17 : I 17 = some (nI n)) (hi18 : I 18 = some kn) (hB : BX 13 n f I R) (hK : KX I R) (hKP : KP kn I R) (hn : n ≤ 65540) : pt (mT g) 236 [.ref m0] M (fun v M' => (∃ (kn2 : Int32) (I' : rI) (R' : rR), v = some (.int (rdR (s_read f n))) ∧ RS g m0 q z I' R' M' ∧ eqI [0, 3, 8, 9, 10, 11, 16, 17, 18, 20, 25, 26, 47, 48, 50, 51, 52, 53, 54, 55, 56, 57, 58, 59, 60, 61, 65, 66, 67, 68, 69, 70, 71, 72, 73, 74] I I' ∧ eqR [1, 2, 4, 5, 6, 7, 12, 14, 21, 22, 27, 28, 29, 30, 31, 32, 33, 34, 35, 36, 37, 38, 39, 40, 41, 42, 43, 44, 45, 46] R R' ∧ I' 73 = some (rdP (s_read f n)) ∧ I' 17 = some (nI 0) ∧ I' 18 = some kn2 ∧ KP kn2 I' R')) := by
  refine pt_in (b := mb_236 g) rfl (fun kf => ?_)
  show pl (mT g) kf (mb_236 g).2 (0, [(0, .ref m0)], [], M) _
  have hEI : eqI [0, 3, 8, 9, 10, 11, 16, 17, 18, 20, 25, 26, 47, 48, 50, 51, 52, 53, 54, 55, 56, 57, 58, 59, 60, 61, 65, 66, 67, 68, 69, 70, 71, 72, 73, 74] I I := eqI.rf
  have hER : eqR [1, 2, 4, 5, 6, 7, 12, 14, 21, 22, 27, 28, 29, 30, 31, 32, 33, 34, 35, 36, 37, 38, 39, 40, 41, 42, 43, 44, 45, 46] R R := eqR.rf
  have LL : ∀ (kf : Nat), (∀ (i : Nat) (M1 : mi_H) (I1 : rI) (R1 : rR), (RS g m0 q z I1 R1 M1) → (eqI [0, 3, 8, 9, 10, 11, 16, 17, 18, 20, 25, 26, 47, 48, 50, 51, 52, 53, 54, 55, 56, 57, 58, 59, 60, 61, 65, 66, 67, 68, 69, 70, 71, 72, 73, 74] I I1) → (eqR [1, 2, 4, 5, 6, 7, 12, 14, 21, 22, 27, 28, 29, 30, 31, 32, 33, 34, 35, 36, 37, 38, 39, 40, 41, 42, 43, 44, 45, 46] R R1) → (I1 17 = some (nI n)) → (I1 73 = some (-1)) → (BX 13 n f I1 R1) → (BX 14 i f I1 R1) → (i ≤ n) → (s_read f n = none) →  pl (mT g) kf (mb_236 g).2 (53, [(0, .ref m0), (2, .int 0), (3, .int (nI i))], [], M1) (fun v M' => (∃ (kn2 : Int32) (I' : rI) (R' : rR), v = some (.int (rdR (s_read f n))) ∧ RS g m0 q z I' R' M' ∧ eqI [0, 3, 8, 9, 10, 11, 16, 17, 18, 20, 25, 26, 47, 48, 50, 51, 52, 53, 54, 55, 56, 57, 58, 59, 60, 61, 65, 66, 67, 68, 69, 70, 71, 72, 73, 74] I I' ∧ eqR [1, 2, 4, 5, 6, 7, 12, 14, 21, 22, 27, 28, 29, 30, 31, 32, 33, 34, 35, 36, 37, 38, 39, 40, 41, 42, 43, 44, 45, 46] R R' ∧ I' 73 = some (rdP (s_read f n)) ∧ I' 17 = some (nI 0) ∧ I' 18 = some kn2 ∧ KP kn2 I' R'))) := by
    intro kf
    induction kf with
    | zero => exact (by intros; exact pl_0)
    | succ kf ih =>
      intro i M1 I1 R1 hR1 hEI1 hER1 hl17 hl73 hB1 hD1 hi hr
      refine ps_st1 (S' := (54, [(0, .ref m0), (2, .int 0), (3, .int (nI i))], [.int (nI i)], M1)) rfl rfl rfl ?_
      refine ps_st (S' := (55, [(0, .ref m0), (2, .int 0), (3, .int (nI i))], [.ref m0, .int (nI i)], M1)) rfl rfl rfl ?_
      refine pr_int (j := 17) (S' := (58, [(0, .ref m0), (2, .int 0), (3, .int (nI i))], [.int (nI n), .int (nI i)], M1)) rfl hR1 rfl hl17 rfl ?_
      refine ps_if2 (S1 := (79, [(0, .ref m0), (2, .int 0), (3, .int (nI i))], [], M1)) (S2 := (61, [(0, .ref m0), (2, .int 0), (3, .int (nI i))], [], M1)) rfl rfl rfl (fun c_58 => ?_) (fun c_58 => ?_)
      · have c_58 : (nI n) ≤ (nI i) := of_decide_eq_true c_58
        have n_58 : n ≤ i := (le_nI (p := n) (n := i) (by omega) (by omega)).mp c_58
        refine ps_st (S' := (80, [(0, .ref m0), (2, .int 0), (3, .int (nI i))], [.ref m0], M1)) rfl rfl rfl ?_
        refine ps_st (S' := (81, [(0, .ref m0), (2, .int 0), (3, .int (nI i))], [.ref m0, .ref m0], M1)) rfl rfl rfl ?_
        refine pr_int (j := 17) (S' := (84, [(0, .ref m0), (2, .int 0), (3, .int (nI i))], [.int (nI n), .ref m0], M1)) rfl hR1 rfl hl17 rfl ?_
        refine pr_put (j := 18) rfl hR1 rfl (fun M1 I2 hR3 hi4 hI5 => ?_)
        have hi6 := (hI5 17 (by decide)).trans hl17
        have hi7 := (hI5 73 (by decide)).trans hl73
        have hB_8 := hB1.mono (pIx hI5 (by decide)) (fun _ _ => rfl)
        have hD_9 := hD1.mono (pIx hI5 (by decide)) (fun _ _ => rfl)
        have hEI10 := hEI1.put hI5 (by decide)
        show pl _ _ _ (87, [(0, .ref m0), (2, .int 0), (3, .int (nI i))], [], M1) _
        refine ps_st (S' := (110, [(0, .ref m0), (2, .int 0)], [], M1)) rfl rfl rfl ?_
        refine ps_st (S' := (111, [(0, .ref m0), (2, .int 0)], [.ref m0], M1)) rfl rfl rfl ?_
        refine ps_st (S' := (112, [(0, .ref m0), (2, .int 0)], [.int (-1), .ref m0], M1)) rfl rfl rfl ?_
        refine pr_put (j := 74) rfl hR3 rfl (fun M11 I12 hR13 hi14 hI15 => ?_)
        have hi16 := (hI15 17 (by decide)).trans hi6
        have hi19 := (hI15 73 (by decide)).trans hi7
        have hi20 := (hI15 18 (by decide)).trans hi4
        have hB_21 := hB_8.mono (pIx hI15 (by decide)) (fun _ _ => rfl)
        have hD_22 := hD_9.mono (pIx hI15 (by decide)) (fun _ _ => rfl)
        have hEI23 := hEI10.put hI15 (by decide)
        show pl _ _ _ (115, [(0, .ref m0), (2, .int 0)], [], M11) _
        refine ps_st (S' := (116, [(0, .ref m0), (2, .int 0)], [.ref m0], M11)) rfl rfl rfl ?_
        refine ps_st (S' := (117, [(0, .ref m0), (2, .int 0)], [.int 0, .ref m0], M11)) rfl rfl rfl ?_
        refine pr_put (j := 17) rfl hR13 rfl (fun M24 I25 hR26 hi27 hI28 => ?_)
        have hi29 := (hI28 73 (by decide)).trans hi19
        have hi30 := (hI28 18 (by decide)).trans hi20
        have hi31 := (hI28 74 (by decide)).trans hi14
        have hB_32 := hB_21.mono (pIx hI28 (by decide)) (fun _ _ => rfl)
        have hD_33 := hD_22.mono (pIx hI28 (by decide)) (fun _ _ => rfl)
        have hEI34 := hEI23.put hI28 (by decide)
        show pl _ _ _ (120, [(0, .ref m0), (2, .int 0)], [], M24) _
        refine ps_st (S' := (121, [(0, .ref m0), (2, .int 0)], [.int 0], M24)) rfl rfl rfl ?_
        exact ps_ret rfl rfl (⟨(nI n), I25, R1, by
            rw [hr]
            rfl, hR26, hEI34, hER1, by
            rw [hr]
            exact hi29, hi27, hi30, KP.of hn (BX.le hD_33 (by omega))⟩)
      · have c_58 : ¬ ((nI n) ≤ (nI i)) := of_decide_eq_false c_58
        have n_58 : ¬ (n ≤ i) := fun h9 => c_58 ((le_nI (p := n) (n := i) (by omega) (by omega)).mpr h9)
        refine ps_st (S' := (62, [(0, .ref m0), (2, .int 0), (3, .int (nI i))], [.ref m0], M1)) rfl rfl rfl ?_
        refine pr_ref (j := 14) (S' := (65, [(0, .ref m0), (2, .int 0), (3, .int (nI i))], [.ref (q 14)], M1)) rfl hR1 rfl rfl ?_
        refine ps_st (S' := (66, [(0, .ref m0), (2, .int 0), (3, .int (nI i))], [.int (nI i), .ref (q 14)], M1)) rfl rfl rfl ?_
        refine ps_st (S' := (67, [(0, .ref m0), (2, .int 0), (3, .int (nI i))], [.ref m0, .int (nI i), .ref (q 14)], M1)) rfl rfl rfl ?_
        refine pr_ref (j := 13) (S' := (70, [(0, .ref m0), (2, .int 0), (3, .int (nI i))], [.ref (q 13), .int (nI i), .ref (q 14)], M1)) rfl hR1 rfl rfl ?_
        refine ps_st (S' := (71, [(0, .ref m0), (2, .int 0), (3, .int (nI i))], [.int (nI i), .ref (q 13), .int (nI i), .ref (q 14)], M1)) rfl rfl rfl ?_
        refine pr_ld (a := 13) (j := i) (y := (f i)) (S' := (72, [(0, .ref m0), (2, .int 0), (3, .int (nI i))], [.int (f i), .int (nI i), .ref (q 14)], M1)) rfl hR1 rfl (by omega) (fun _ => (hB1 i (by omega)).1) rfl (fun i1_71 => ?_)
        refine pr_st (a := 14) (j := i) rfl hR1 rfl (by omega) (fun M35 R36 i1_72 hR37 hS38 => ?_)
        have hB_39 := hB1.mono (fun _ _ => rfl) (rRx hS38 (by decide))
        have hER40 := hER1.st hS38 (by decide)
        show pl _ _ _ (73, [(0, .ref m0), (2, .int 0), (3, .int (nI i))], [], M35) _
        have hD_41 : BX 14 (i + 1) f I1 R36 := BX.st hD1 hS38 (hB1 i (by omega)).2 rfl
        refine ps_st (S' := (76, [(3, .int ((nI i) + 1)), (0, .ref m0), (2, .int 0)], [], M35)) rfl rfl rfl ?_
        rw [nI_add1 (p := i) (k := 1) (x := 1) rfl (by omega)]
        show pl _ _ _ (_, [(3, .int (nI (i + 1))), (0, .ref m0), (2, .int 0)], [], M35) _
        refine ps_st (S' := (53, [(0, .ref m0), (2, .int 0), (3, .int (nI (i + 1)))], [], M35)) rfl rfl rfl ?_
        exact ih (i + 1) M35 I1 R36 hR37 hEI1 hER40 hl17 hl73 hB_39 hD_41 (by omega) (hr)
  refine ps_st (S' := (1, [(0, .ref m0)], [.ref m0], M)) rfl rfl rfl ?_
  refine ps_st (S' := (2, [(0, .ref m0)], [.int 0, .ref m0], M)) rfl rfl rfl ?_
  refine pr_put (j := 0) rfl hR rfl (fun M42 I43 hR44 hi45 hI46 => ?_)
  have hi47 := (hI46 49 (by decide)).trans hi49
  have hi48 := (hI46 17 (by decide)).trans hi17
  have hi50 := (hI46 18 (by decide)).trans hi18
  have hB_51 := hB.mono (pIx hI46 (by decide)) (fun _ _ => rfl)
  have hK_52 := hK.mono (pIx hI46 (by decide)) (fun _ _ => rfl)
  have hKP_53 := hKP.mono (pIx hI46 (by decide)) (fun _ _ => rfl)
  have hEI54 := hEI.put hI46 (by decide)
  show pl _ _ _ (5, [(0, .ref m0)], [], M42) _
  refine ps_st (S' := (6, [(0, .ref m0)], [.ref m0], M42)) rfl rfl rfl ?_
  refine ps_st (S' := (7, [(0, .ref m0)], [.ref m0, .ref m0], M42)) rfl rfl rfl ?_
  refine pr_ref (j := 13) (S' := (10, [(0, .ref m0)], [.ref (q 13), .ref m0], M42)) rfl hR44 rfl rfl ?_
  refine ps_st (S' := (11, [(0, .ref m0)], [.ref m0, .ref (q 13), .ref m0], M42)) rfl rfl rfl ?_
  refine pr_int (j := 17) (S' := (14, [(0, .ref m0)], [.int (nI n), .ref (q 13), .ref m0], M42)) rfl hR44 rfl hi48 rfl ?_
  refine pl_call (a := [.ref m0, .ref (q 13), .int (nI n)]) (rest := []) rfl rfl rfl (rd_parse13 (n := n) (f := f) hR44 hi47 hB_51 hK_52 (hn)) (fun v55 M56 q57 => ?_)
  rcases q57 with q57 | q57
  · skip
    obtain ⟨I58, R59, q14_s, rfl, hR60, hI61, hX62⟩ := q57
    have hi63 := (hI61 49 (by decide)).trans hi47
    have hi64 := (hI61 17 (by decide)).trans hi48
    have hi65 := (hI61 18 (by decide)).trans hi50
    have hi66 := (hI61 0 (by decide)).trans hi45
    have hB_67 := hB_51.mono (cIx hI61 (by decide)) (cRx hX62 (by decide))
    have hK_68 := hK_52.mono (cIx hI61 (by decide)) (cRx hX62 (by decide))
    have hKP_69 := hKP_53.mono (cIx hI61 (by decide)) (cRx hX62 (by decide))
    have hEI70 := hEI54.tr hI61 (by decide)
    have hER71 := hER.tr hX62 (by decide)
    show pl _ _ _ (17, [(0, .ref m0)], [.int 1], M56) _
    refine ps_st (S' := (18, [(1, .int 1), (0, .ref m0)], [], M56)) rfl rfl rfl ?_
    refine ps_st (S' := (19, [(1, .int 1), (0, .ref m0)], [.ref m0], M56)) rfl rfl rfl ?_
    refine ps_st (S' := (20, [(1, .int 1), (0, .ref m0)], [.int 1, .ref m0], M56)) rfl rfl rfl ?_
    refine ps_if (S1 := (27, [(1, .int 1), (0, .ref m0)], [.ref m0], M56)) (S2 := (23, [(1, .int 1), (0, .ref m0)], [.ref m0], M56)) rfl rfl rfl (fun c_20 => ?_) (fun c_20 => ?_)
    · exact absurd (of_decide_eq_true c_20) (by decide)
    refine ps_st (S' := (24, [(1, .int 1), (0, .ref m0)], [.int (-1), .ref m0], M56)) rfl rfl rfl ?_
    refine ps_st (S' := (31, [(0, .ref m0), (1, .int 1)], [.int (-1), .ref m0], M56)) rfl rfl rfl ?_
    refine pr_put (j := 73) rfl hR60 rfl (fun M72 I73 hR74 hi75 hI76 => ?_)
    have hi77 := (hI76 49 (by decide)).trans hi63
    have hi78 := (hI76 17 (by decide)).trans hi64
    have hi79 := (hI76 18 (by decide)).trans hi65
    have hi80 := (hI76 0 (by decide)).trans hi66
    have hB_81 := hB_67.mono (pIx hI76 (by decide)) (fun _ _ => rfl)
    have hK_82 := hK_68.mono (pIx hI76 (by decide)) (fun _ _ => rfl)
    have hKP_83 := hKP_69.mono (pIx hI76 (by decide)) (fun _ _ => rfl)
    have hEI84 := hEI70.put hI76 (by decide)
    show pl _ _ _ (34, [(0, .ref m0), (1, .int 1)], [], M72) _
    refine ps_st (S' := (35, [(0, .ref m0), (1, .int 1)], [.int 1], M72)) rfl rfl rfl ?_
    refine ps_if (S1 := (42, [(0, .ref m0), (1, .int 1)], [], M72)) (S2 := (38, [(0, .ref m0), (1, .int 1)], [], M72)) rfl rfl rfl (fun c_35 => ?_) (fun c_35 => ?_)
    · exact absurd (of_decide_eq_true c_35) (by decide)
    refine ps_st (S' := (39, [(0, .ref m0), (1, .int 1)], [.int 0], M72)) rfl rfl rfl ?_
    refine ps_st (S' := (46, [(0, .ref m0), (1, .int 1)], [.int 0], M72)) rfl rfl rfl ?_
    refine ps_st (S' := (47, [(2, .int 0), (0, .ref m0), (1, .int 1)], [], M72)) rfl rfl rfl ?_
    refine ps_st (S' := (48, [(2, .int 0), (0, .ref m0), (1, .int 1)], [.int 1], M72)) rfl rfl rfl ?_
    refine ps_if (S1 := (90, [(2, .int 0), (0, .ref m0), (1, .int 1)], [], M72)) (S2 := (51, [(2, .int 0), (0, .ref m0), (1, .int 1)], [], M72)) rfl rfl rfl (fun c_48 => ?_) (fun c_48 => ?_)
    · exact absurd (of_decide_eq_true c_48) (by decide)
    refine ps_st (S' := (52, [(2, .int 0), (0, .ref m0), (1, .int 1)], [.int 0], M72)) rfl rfl rfl ?_
    refine ps_st (S' := (53, [(0, .ref m0), (2, .int 0), (3, .int 0)], [], M72)) rfl rfl rfl ?_
    have hD0 : BX 14 0 f I73 R59 := fun i9 h9 => absurd h9 (Nat.not_lt_zero _)
    exact (LL kf) (0) M72 I73 R59 hR74 hEI84 hER71 hi78 hi75 hB_81 hD0 (by omega) (q14_s)
  · skip
    obtain ⟨e985, I86, R87, q14_s, rfl, hR88, hI89, hX90, hi91, hi92⟩ := q57
    have hi93 := (hI89 49 (by decide)).trans hi47
    have hi94 := (hI89 17 (by decide)).trans hi48
    have hi95 := (hI89 18 (by decide)).trans hi50
    have hi96 := (hI89 0 (by decide)).trans hi45
    have hB_97 := hB_51.mono (cIx hI89 (by decide)) (cRx hX90 (by decide))
    have hK_98 := hK_52.mono (cIx hI89 (by decide)) (cRx hX90 (by decide))
    have hKP_99 := hKP_53.mono (cIx hI89 (by decide)) (cRx hX90 (by decide))
    have hEI100 := hEI54.tr hI89 (by decide)
    have hER101 := hER.tr hX90 (by decide)
    show pl _ _ _ (17, [(0, .ref m0)], [.int 0], M56) _
    refine ps_st (S' := (18, [(1, .int 0), (0, .ref m0)], [], M56)) rfl rfl rfl ?_
    refine ps_st (S' := (19, [(1, .int 0), (0, .ref m0)], [.ref m0], M56)) rfl rfl rfl ?_
    refine ps_st (S' := (20, [(1, .int 0), (0, .ref m0)], [.int 0, .ref m0], M56)) rfl rfl rfl ?_
    refine ps_if (S1 := (27, [(1, .int 0), (0, .ref m0)], [.ref m0], M56)) (S2 := (23, [(1, .int 0), (0, .ref m0)], [.ref m0], M56)) rfl rfl rfl (fun c_20 => ?_) (fun c_20 => ?_)
    rotate_left
    · exact absurd (by decide) (of_decide_eq_false c_20)
    refine ps_st (S' := (28, [(1, .int 0), (0, .ref m0)], [.ref m0, .ref m0], M56)) rfl rfl rfl ?_
    refine pr_int (j := 48) (S' := (31, [(0, .ref m0), (1, .int 0)], [.int (nI e985.2), .ref m0], M56)) rfl hR88 rfl hi92 rfl ?_
    refine pr_put (j := 73) rfl hR88 rfl (fun M102 I103 hR104 hi105 hI106 => ?_)
    have hi107 := (hI106 49 (by decide)).trans hi93
    have hi108 := (hI106 17 (by decide)).trans hi94
    have hi109 := (hI106 18 (by decide)).trans hi95
    have hi110 := (hI106 0 (by decide)).trans hi96
    have hi111 := (hI106 47 (by decide)).trans hi91
    have hi112 := (hI106 48 (by decide)).trans hi92
    have hB_113 := hB_97.mono (pIx hI106 (by decide)) (fun _ _ => rfl)
    have hK_114 := hK_98.mono (pIx hI106 (by decide)) (fun _ _ => rfl)
    have hKP_115 := hKP_99.mono (pIx hI106 (by decide)) (fun _ _ => rfl)
    have hEI116 := hEI100.put hI106 (by decide)
    show pl _ _ _ (34, [(0, .ref m0), (1, .int 0)], [], M102) _
    refine ps_st (S' := (35, [(0, .ref m0), (1, .int 0)], [.int 0], M102)) rfl rfl rfl ?_
    refine ps_if (S1 := (42, [(0, .ref m0), (1, .int 0)], [], M102)) (S2 := (38, [(0, .ref m0), (1, .int 0)], [], M102)) rfl rfl rfl (fun c_35 => ?_) (fun c_35 => ?_)
    rotate_left
    · exact absurd (by decide) (of_decide_eq_false c_35)
    refine ps_st (S' := (43, [(0, .ref m0), (1, .int 0)], [.ref m0], M102)) rfl rfl rfl ?_
    refine pr_int (j := 47) (S' := (46, [(0, .ref m0), (1, .int 0)], [.int (nI e985.1)], M102)) rfl hR104 rfl hi111 rfl ?_
    refine ps_st (S' := (47, [(2, .int (nI e985.1)), (0, .ref m0), (1, .int 0)], [], M102)) rfl rfl rfl ?_
    refine ps_st (S' := (48, [(2, .int (nI e985.1)), (0, .ref m0), (1, .int 0)], [.int 0], M102)) rfl rfl rfl ?_
    refine ps_if (S1 := (90, [(2, .int (nI e985.1)), (0, .ref m0), (1, .int 0)], [], M102)) (S2 := (51, [(2, .int (nI e985.1)), (0, .ref m0), (1, .int 0)], [], M102)) rfl rfl rfl (fun c_48 => ?_) (fun c_48 => ?_)
    rotate_left
    · exact absurd (by decide) (of_decide_eq_false c_48)
    refine ps_st (S' := (91, [(2, .int (nI e985.1)), (0, .ref m0), (1, .int 0)], [.ref m0], M102)) rfl rfl rfl ?_
    refine pr_int (j := 18) (S' := (94, [(2, .int (nI e985.1)), (0, .ref m0), (1, .int 0)], [.int kn], M102)) rfl hR104 rfl hi109 rfl ?_
    refine ps_if (S1 := (110, [(0, .ref m0), (2, .int (nI e985.1))], [], M102)) (S2 := (97, [(2, .int (nI e985.1)), (0, .ref m0), (1, .int 0)], [], M102)) rfl rfl rfl (fun c_94 => ?_) (fun c_94 => ?_)
    · have c_94 : kn < 0 := of_decide_eq_true c_94
      refine ps_st (S' := (111, [(0, .ref m0), (2, .int (nI e985.1))], [.ref m0], M102)) rfl rfl rfl ?_
      refine ps_st (S' := (112, [(0, .ref m0), (2, .int (nI e985.1))], [.int (-1), .ref m0], M102)) rfl rfl rfl ?_
      refine pr_put (j := 74) rfl hR104 rfl (fun M117 I118 hR119 hi120 hI121 => ?_)
      have hi122 := (hI121 49 (by decide)).trans hi107
      have hi123 := (hI121 17 (by decide)).trans hi108
      have hi124 := (hI121 18 (by decide)).trans hi109
      have hi125 := (hI121 0 (by decide)).trans hi110
      have hi126 := (hI121 47 (by decide)).trans hi111
      have hi127 := (hI121 48 (by decide)).trans hi112
      have hi128 := (hI121 73 (by decide)).trans hi105
      have hB_129 := hB_113.mono (pIx hI121 (by decide)) (fun _ _ => rfl)
      have hK_130 := hK_114.mono (pIx hI121 (by decide)) (fun _ _ => rfl)
      have hKP_131 := hKP_115.mono (pIx hI121 (by decide)) (fun _ _ => rfl)
      have hEI132 := hEI116.put hI121 (by decide)
      show pl _ _ _ (115, [(0, .ref m0), (2, .int (nI e985.1))], [], M117) _
      refine ps_st (S' := (116, [(0, .ref m0), (2, .int (nI e985.1))], [.ref m0], M117)) rfl rfl rfl ?_
      refine ps_st (S' := (117, [(0, .ref m0), (2, .int (nI e985.1))], [.int 0, .ref m0], M117)) rfl rfl rfl ?_
      refine pr_put (j := 17) rfl hR119 rfl (fun M133 I134 hR135 hi136 hI137 => ?_)
      have hi138 := (hI137 49 (by decide)).trans hi122
      have hi139 := (hI137 18 (by decide)).trans hi124
      have hi140 := (hI137 0 (by decide)).trans hi125
      have hi141 := (hI137 47 (by decide)).trans hi126
      have hi142 := (hI137 48 (by decide)).trans hi127
      have hi143 := (hI137 73 (by decide)).trans hi128
      have hi144 := (hI137 74 (by decide)).trans hi120
      have hB_145 := hB_129.mono (pIx hI137 (by decide)) (fun _ _ => rfl)
      have hK_146 := hK_130.mono (pIx hI137 (by decide)) (fun _ _ => rfl)
      have hKP_147 := hKP_131.mono (pIx hI137 (by decide)) (fun _ _ => rfl)
      have hEI148 := hEI132.put hI137 (by decide)
      show pl _ _ _ (120, [(0, .ref m0), (2, .int (nI e985.1))], [], M133) _
      refine ps_st (S' := (121, [(0, .ref m0), (2, .int (nI e985.1))], [.int (nI e985.1)], M133)) rfl rfl rfl ?_
      exact ps_reti rfl (⟨kn, I134, R87, by
          rw [q14_s]
          rfl, hR135, hEI148, hER101, by
          rw [q14_s]
          exact hi143, hi136, hi139, hKP_147⟩)
    · have c_94 : ¬ (kn < 0) := of_decide_eq_false c_94
      obtain ⟨n2, f2, hk1, hk2, hk3⟩ := KP.ge hKP_115 (by assumption)
      have hk149 := hi109.trans (congrArg some hk1)
      refine ps_st (S' := (98, [(2, .int (nI e985.1)), (0, .ref m0), (1, .int 0)], [.ref m0], M102)) rfl rfl rfl ?_
      refine ps_st (S' := (99, [(2, .int (nI e985.1)), (0, .ref m0), (1, .int 0)], [.ref m0, .ref m0], M102)) rfl rfl rfl ?_
      refine pr_ref (j := 14) (S' := (102, [(2, .int (nI e985.1)), (0, .ref m0), (1, .int 0)], [.ref (q 14), .ref m0], M102)) rfl hR104 rfl rfl ?_
      refine ps_st (S' := (103, [(2, .int (nI e985.1)), (0, .ref m0), (1, .int 0)], [.ref m0, .ref (q 14), .ref m0], M102)) rfl rfl rfl ?_
      refine pr_int (j := 18) (S' := (106, [(2, .int (nI e985.1)), (0, .ref m0), (1, .int 0)], [.int (nI n2), .ref (q 14), .ref m0], M102)) rfl hR104 rfl hk149 rfl ?_
      refine pl_call (a := [.ref m0, .ref (q 14), .int (nI n2)]) (rest := []) rfl rfl rfl (rd_parse14 (n := n2) (f := f2) hR104 hi107 hk3 hK_114 (hk2)) (fun v150 M151 q152 => ?_)
      rcases q152 with q152 | q152
      · skip
        obtain ⟨I153, R154, q106_s, rfl, hR155, hI156, hX157⟩ := q152
        have hi158 := (hI156 49 (by decide)).trans hi107
        have hi159 := (hI156 17 (by decide)).trans hi108
        have hi160 := (hI156 18 (by decide)).trans hk149
        have hi161 := (hI156 0 (by decide)).trans hi110
        have hi162 := (hI156 73 (by decide)).trans hi105
        have hB_163 := hB_113.mono (cIx hI156 (by decide)) (cRx hX157 (by decide))
        have hK_164 := hK_114.mono (cIx hI156 (by decide)) (cRx hX157 (by decide))
        have hKP_165 := hKP_115.mono (cIx hI156 (by decide)) (cRx hX157 (by decide))
        have hQ_166 := hk3.mono (cIx hI156 (by decide)) (cRx hX157 (by decide))
        have hEI167 := hEI116.tr hI156 (by decide)
        have hER168 := hER101.tr hX157 (by decide)
        show pl _ _ _ (109, [(2, .int (nI e985.1)), (0, .ref m0), (1, .int 0)], [.int 1], M151) _
        refine ps_st (S' := (110, [(0, .ref m0), (2, .int (nI e985.1))], [], M151)) rfl rfl rfl ?_
        refine ps_st (S' := (111, [(0, .ref m0), (2, .int (nI e985.1))], [.ref m0], M151)) rfl rfl rfl ?_
        refine ps_st (S' := (112, [(0, .ref m0), (2, .int (nI e985.1))], [.int (-1), .ref m0], M151)) rfl rfl rfl ?_
        refine pr_put (j := 74) rfl hR155 rfl (fun M169 I170 hR171 hi172 hI173 => ?_)
        have hi174 := (hI173 49 (by decide)).trans hi158
        have hi175 := (hI173 17 (by decide)).trans hi159
        have hi176 := (hI173 18 (by decide)).trans hi160
        have hi177 := (hI173 0 (by decide)).trans hi161
        have hi178 := (hI173 73 (by decide)).trans hi162
        have hB_179 := hB_163.mono (pIx hI173 (by decide)) (fun _ _ => rfl)
        have hK_180 := hK_164.mono (pIx hI173 (by decide)) (fun _ _ => rfl)
        have hKP_181 := hKP_165.mono (pIx hI173 (by decide)) (fun _ _ => rfl)
        have hQ_182 := hQ_166.mono (pIx hI173 (by decide)) (fun _ _ => rfl)
        have hEI183 := hEI167.put hI173 (by decide)
        show pl _ _ _ (115, [(0, .ref m0), (2, .int (nI e985.1))], [], M169) _
        refine ps_st (S' := (116, [(0, .ref m0), (2, .int (nI e985.1))], [.ref m0], M169)) rfl rfl rfl ?_
        refine ps_st (S' := (117, [(0, .ref m0), (2, .int (nI e985.1))], [.int 0, .ref m0], M169)) rfl rfl rfl ?_
        refine pr_put (j := 17) rfl hR171 rfl (fun M184 I185 hR186 hi187 hI188 => ?_)
        have hi189 := (hI188 49 (by decide)).trans hi174
        have hi190 := (hI188 18 (by decide)).trans hi176
        have hi191 := (hI188 0 (by decide)).trans hi177
        have hi192 := (hI188 73 (by decide)).trans hi178
        have hi193 := (hI188 74 (by decide)).trans hi172
        have hB_194 := hB_179.mono (pIx hI188 (by decide)) (fun _ _ => rfl)
        have hK_195 := hK_180.mono (pIx hI188 (by decide)) (fun _ _ => rfl)
        have hKP_196 := hKP_181.mono (pIx hI188 (by decide)) (fun _ _ => rfl)
        have hQ_197 := hQ_182.mono (pIx hI188 (by decide)) (fun _ _ => rfl)
        have hEI198 := hEI183.put hI188 (by decide)
        show pl _ _ _ (120, [(0, .ref m0), (2, .int (nI e985.1))], [], M184) _
        refine ps_st (S' := (121, [(0, .ref m0), (2, .int (nI e985.1))], [.int (nI e985.1)], M184)) rfl rfl rfl ?_
        exact ps_reti rfl (⟨(nI n2), I185, R154, by
            rw [q14_s]
            rfl, hR186, hEI198, hER168, by
            rw [q14_s]
            exact hi192, hi187, hi190, KP.of hk2 hQ_197⟩)
      · skip
        obtain ⟨e9199, I200, R201, q106_s, rfl, hR202, hI203, hX204, hi205, hi206⟩ := q152
        have hi207 := (hI203 49 (by decide)).trans hi107
        have hi208 := (hI203 17 (by decide)).trans hi108
        have hi209 := (hI203 18 (by decide)).trans hk149
        have hi210 := (hI203 0 (by decide)).trans hi110
        have hi211 := (hI203 73 (by decide)).trans hi105
        have hB_212 := hB_113.mono (cIx hI203 (by decide)) (cRx hX204 (by decide))
        have hK_213 := hK_114.mono (cIx hI203 (by decide)) (cRx hX204 (by decide))
        have hKP_214 := hKP_115.mono (cIx hI203 (by decide)) (cRx hX204 (by decide))
        have hQ_215 := hk3.mono (cIx hI203 (by decide)) (cRx hX204 (by decide))
        have hEI216 := hEI116.tr hI203 (by decide)
        have hER217 := hER101.tr hX204 (by decide)
        show pl _ _ _ (109, [(2, .int (nI e985.1)), (0, .ref m0), (1, .int 0)], [.int 0], M151) _
        refine ps_st (S' := (110, [(0, .ref m0), (2, .int (nI e985.1))], [], M151)) rfl rfl rfl ?_
        refine ps_st (S' := (111, [(0, .ref m0), (2, .int (nI e985.1))], [.ref m0], M151)) rfl rfl rfl ?_
        refine ps_st (S' := (112, [(0, .ref m0), (2, .int (nI e985.1))], [.int (-1), .ref m0], M151)) rfl rfl rfl ?_
        refine pr_put (j := 74) rfl hR202 rfl (fun M218 I219 hR220 hi221 hI222 => ?_)
        have hi223 := (hI222 49 (by decide)).trans hi207
        have hi224 := (hI222 17 (by decide)).trans hi208
        have hi225 := (hI222 18 (by decide)).trans hi209
        have hi226 := (hI222 0 (by decide)).trans hi210
        have hi227 := (hI222 73 (by decide)).trans hi211
        have hi228 := (hI222 47 (by decide)).trans hi205
        have hi229 := (hI222 48 (by decide)).trans hi206
        have hB_230 := hB_212.mono (pIx hI222 (by decide)) (fun _ _ => rfl)
        have hK_231 := hK_213.mono (pIx hI222 (by decide)) (fun _ _ => rfl)
        have hKP_232 := hKP_214.mono (pIx hI222 (by decide)) (fun _ _ => rfl)
        have hQ_233 := hQ_215.mono (pIx hI222 (by decide)) (fun _ _ => rfl)
        have hEI234 := hEI216.put hI222 (by decide)
        show pl _ _ _ (115, [(0, .ref m0), (2, .int (nI e985.1))], [], M218) _
        refine ps_st (S' := (116, [(0, .ref m0), (2, .int (nI e985.1))], [.ref m0], M218)) rfl rfl rfl ?_
        refine ps_st (S' := (117, [(0, .ref m0), (2, .int (nI e985.1))], [.int 0, .ref m0], M218)) rfl rfl rfl ?_
        refine pr_put (j := 17) rfl hR220 rfl (fun M235 I236 hR237 hi238 hI239 => ?_)
        have hi240 := (hI239 49 (by decide)).trans hi223
        have hi241 := (hI239 18 (by decide)).trans hi225
        have hi242 := (hI239 0 (by decide)).trans hi226
        have hi243 := (hI239 73 (by decide)).trans hi227
        have hi244 := (hI239 47 (by decide)).trans hi228
        have hi245 := (hI239 48 (by decide)).trans hi229
        have hi246 := (hI239 74 (by decide)).trans hi221
        have hB_247 := hB_230.mono (pIx hI239 (by decide)) (fun _ _ => rfl)
        have hK_248 := hK_231.mono (pIx hI239 (by decide)) (fun _ _ => rfl)
        have hKP_249 := hKP_232.mono (pIx hI239 (by decide)) (fun _ _ => rfl)
        have hQ_250 := hQ_233.mono (pIx hI239 (by decide)) (fun _ _ => rfl)
        have hEI251 := hEI234.put hI239 (by decide)
        show pl _ _ _ (120, [(0, .ref m0), (2, .int (nI e985.1))], [], M235) _
        refine ps_st (S' := (121, [(0, .ref m0), (2, .int (nI e985.1))], [.int (nI e985.1)], M235)) rfl rfl rfl ?_
        exact ps_reti rfl (⟨(nI n2), I236, R201, by
            rw [q14_s]
            rfl, hR237, hEI251, hER217, by
            rw [q14_s]
            exact hi243, hi238, hi241, KP.of hk2 hQ_250⟩)
end
section
/-! the bytes that come (my own text) -/
section BTA
def ush (x y : Int32) : Int32 := (x.toUInt32 >>> (y.toUInt32 &&& Int32.toUInt32 31)).toInt32
/-- a word's byte -/
def wB (x : Int32) (k : Nat) : Int32 := if k = 0 then (ush x 24).toInt8.toInt32 else if k = 1 then (ush x 16).toInt8.toInt32 else if k = 2 then (ush x 8).toInt8.toInt32 else x.toInt8.toInt32
theorem ush_0 (x : Int32) : ush x 0 = x := by
  unfold ush
  apply Int32.toBitVec_inj.mp
  simp
theorem nar_b (x : Int32) : vp_nar .byte x.toInt8.toInt32 = x.toInt8.toInt32 := by
  rw [vp_nar_byte]
  simp
theorem wB_nar (x : Int32) (k : Nat) : vp_nar .byte (wB x k) = wB x k := by
  unfold wB
  split
  · exact nar_b _
  · split
    · exact nar_b _
    · split
      · exact nar_b _
      · exact nar_b _
/-- four bytes behind the first c -/
def wr4 (C : Nat → Int32) (c : Nat) (x : Int32) : Nat → Int32 := fun i => if i < c then C i else wB x (i - c)
theorem wr4_lo {C : Nat → Int32} {c i : Nat} {x : Int32} (h : i < c) : wr4 C c x i = C i := by
  unfold wr4
  rw [if_pos h]
theorem wr4_at {C : Nat → Int32} {c k : Nat} {x : Int32} : wr4 C c x (c + k) = wB x k := by
  unfold wr4
  rw [if_neg (by omega), Nat.add_sub_cancel_left]
/-- five words -/
def fdC (C : Nat → Int32) (c : Nat) (x1 x2 x3 x4 x5 : Int32) : Nat → Int32 := wr4 (wr4 (wr4 (wr4 (wr4 C c x1) (c + 4) x2) (c + 8) x3) (c + 12) x4) (c + 16) x5
theorem BX.cg {a n : Nat} {f f' : Nat → Int32} {I I' : rI} {R : rR} (h : BX a n f I R) (e : ∀ i, i < n → f' i = f i) : BX a n f' I' R := fun i hi => by
  rw [e i hi]
  exact h i hi
theorem BX.w4 {c k : Nat} {C : Nat → Int32} {x y : Int32} {I I' : rI} {R R' : rR} (h : BX 15 (c + k) (wr4 C c x) I R) (hR : R' = rset R 15 (c + k) (vp_nar .byte y)) (e : y = wB x k) : BX 15 (c + k + 1) (wr4 C c x) I' R' :=
  BX.st h hR (by rw [wr4_at]; exact wB_nar _ _) (by rw [wr4_at]; exact e)
end BTA
set_option maxHeartbeats 1000000 in
theorem rd_four {g : xe_G} {m0 : Nat} {q : Nat → Nat} {z : Nat × Nat} {I : rI} {R : rR} {M : mi_H} {c : Nat} {C : Nat → Int32} {x : Int32} (hR : RS g m0 q z I R M) (hi19 : I 19 = some (nI c)) (hC : BX 15 c C I R) (hc : c + 4 ≤ 65540) : pt (mT g) 211 [.ref m0, .int x] M (fun v M' => (∃  (I' : rI) (R' : rR), v = none ∧ RS g m0 q z I' R' M' ∧ eqI [19] I I' ∧ eqR [15] R R' ∧ I' 19 = some (nI (c + 4)) ∧ BX 15 (c + 4) (wr4 C c x) I' R')) := by
  refine pt_in (b := mb_211 g) rfl (fun kf => ?_)
  show pl (mT g) kf (mb_211 g).2 (0, [(0, .ref m0), (1, .int x)], [], M) _
  have hEI : eqI [19] I I := eqI.rf
  have hER : eqR [15] R R := eqR.rf
  refine ps_st (S' := (2, [(0, .ref m0), (1, .int x)], [.int 24], M)) rfl rfl rfl ?_
  refine ps_st (S' := (3, [(0, .ref m0), (1, .int x), (2, .int 24)], [], M)) rfl rfl rfl ?_
  have hC_1 : BX 15 (c + 0) (wr4 C c x) I R := BX.cg hC (fun i hi => wr4_lo (by omega))
  refine ps_st (S' := (4, [(0, .ref m0), (1, .int x), (2, .int 24)], [.int 24], M)) rfl rfl rfl ?_
  refine ps_if (S1 := (33, [(0, .ref m0), (1, .int x), (2, .int 24)], [], M)) (S2 := (7, [(0, .ref m0), (1, .int x), (2, .int 24)], [], M)) rfl rfl rfl (fun c_4 => ?_) (fun c_4 => ?_)
  · exact absurd (of_decide_eq_true c_4) (by decide)
  refine ps_st (S' := (8, [(0, .ref m0), (1, .int x), (2, .int 24)], [.ref m0], M)) rfl rfl rfl ?_
  refine pr_ref (j := 15) (S' := (11, [(0, .ref m0), (1, .int x), (2, .int 24)], [.ref (q 15)], M)) rfl hR rfl rfl ?_
  refine ps_st (S' := (12, [(0, .ref m0), (1, .int x), (2, .int 24)], [.ref m0, .ref (q 15)], M)) rfl rfl rfl ?_
  refine ps_st (S' := (13, [(0, .ref m0), (1, .int x), (2, .int 24)], [.ref m0, .ref m0, .ref (q 15)], M)) rfl rfl rfl ?_
  refine pr_int (j := 19) (S' := (16, [(0, .ref m0), (1, .int x), (2, .int 24)], [.int (nI c), .ref m0, .ref (q 15)], M)) rfl hR rfl hi19 rfl ?_
  refine ps_st (S' := (17, [(0, .ref m0), (1, .int x), (2, .int 24)], [.int (nI c), .ref m0, .int (nI c), .ref (q 15)], M)) rfl rfl rfl ?_
  refine ps_st (S' := (18, [(0, .ref m0), (1, .int x), (2, .int 24)], [.int 1, .int (nI c), .ref m0, .int (nI c), .ref (q 15)], M)) rfl rfl rfl ?_
  refine ps_st (S' := (19, [(0, .ref m0), (1, .int x), (2, .int 24)], [.int ((nI c) + 1), .ref m0, .int (nI c), .ref (q 15)], M)) rfl rfl rfl ?_
  rw [nI_add1 (p := c) (k := 1) (x := 1) rfl (by omega)]
  show pl _ _ _ (_, [(0, .ref m0), (1, .int x), (2, .int 24)], [.int (nI (c + 1)), .ref m0, .int (nI c), .ref (q 15)], M) _
  refine pr_put (j := 19) rfl hR rfl (fun M2 I3 hR4 hi5 hI6 => ?_)
  have hC_7 := hC_1.mono (pIx hI6 (by decide)) (fun _ _ => rfl)
  have hEI8 := hEI.put hI6 (by decide)
  show pl _ _ _ (22, [(0, .ref m0), (1, .int x), (2, .int 24)], [.int (nI c), .ref (q 15)], M2) _
  refine ps_st (S' := (23, [(0, .ref m0), (1, .int x), (2, .int 24)], [.int x, .int (nI c), .ref (q 15)], M2)) rfl rfl rfl ?_
  refine ps_st (S' := (24, [(0, .ref m0), (1, .int x), (2, .int 24)], [.int 24, .int x, .int (nI c), .ref (q 15)], M2)) rfl rfl rfl ?_
  refine ps_st (S' := (25, [(0, .ref m0), (1, .int x), (2, .int 24)], [.int ((x.toUInt32 >>> ((24 : Int32).toUInt32 &&& Int32.toUInt32 31)).toInt32), .int (nI c), .ref (q 15)], M2)) rfl rfl rfl ?_
  refine ps_st (S' := (26, [(0, .ref m0), (1, .int x), (2, .int 24)], [.int (((x.toUInt32 >>> ((24 : Int32).toUInt32 &&& Int32.toUInt32 31)).toInt32).toInt8.toInt32), .int (nI c), .ref (q 15)], M2)) rfl rfl rfl ?_
  refine pr_st (a := 15) (j := c) rfl hR4 rfl (by omega) (fun M9 R10 i1_26 hR11 hS12 => ?_)
  have hER13 := hER.st hS12 (by decide)
  show pl _ _ _ (27, [(0, .ref m0), (1, .int x), (2, .int 24)], [], M9) _
  have hC_14 : BX 15 (c + 1) (wr4 C c x) I3 R10 := BX.w4 (k := 0) hC_1 hS12 (rfl)
  refine ps_st (S' := (30, [(2, .int (24 + (-8))), (0, .ref m0), (1, .int x)], [], M9)) rfl rfl rfl ?_
  refine ps_st (S' := (3, [(0, .ref m0), (1, .int x), (2, .int (24 + (-8)))], [], M9)) rfl rfl rfl ?_
  rw [show ((24 + (-8)) : Int32) = 16 by decide]
  show pl _ _ _ (3, [(0, .ref m0), (1, .int x), (2, .int 16)], [], M9) _
  refine ps_st (S' := (4, [(0, .ref m0), (1, .int x), (2, .int 16)], [.int 16], M9)) rfl rfl rfl ?_
  refine ps_if (S1 := (33, [(0, .ref m0), (1, .int x), (2, .int 16)], [], M9)) (S2 := (7, [(0, .ref m0), (1, .int x), (2, .int 16)], [], M9)) rfl rfl rfl (fun c_4 => ?_) (fun c_4 => ?_)
  · exact absurd (of_decide_eq_true c_4) (by decide)
  refine ps_st (S' := (8, [(0, .ref m0), (1, .int x), (2, .int 16)], [.ref m0], M9)) rfl rfl rfl ?_
  refine pr_ref (j := 15) (S' := (11, [(0, .ref m0), (1, .int x), (2, .int 16)], [.ref (q 15)], M9)) rfl hR11 rfl rfl ?_
  refine ps_st (S' := (12, [(0, .ref m0), (1, .int x), (2, .int 16)], [.ref m0, .ref (q 15)], M9)) rfl rfl rfl ?_
  refine ps_st (S' := (13, [(0, .ref m0), (1, .int x), (2, .int 16)], [.ref m0, .ref m0, .ref (q 15)], M9)) rfl rfl rfl ?_
  refine pr_int (j := 19) (S' := (16, [(0, .ref m0), (1, .int x), (2, .int 16)], [.int (nI (c + 1)), .ref m0, .ref (q 15)], M9)) rfl hR11 rfl hi5 rfl ?_
  refine ps_st (S' := (17, [(0, .ref m0), (1, .int x), (2, .int 16)], [.int (nI (c + 1)), .ref m0, .int (nI (c + 1)), .ref (q 15)], M9)) rfl rfl rfl ?_
  refine ps_st (S' := (18, [(0, .ref m0), (1, .int x), (2, .int 16)], [.int 1, .int (nI (c + 1)), .ref m0, .int (nI (c + 1)), .ref (q 15)], M9)) rfl rfl rfl ?_
  refine ps_st (S' := (19, [(0, .ref m0), (1, .int x), (2, .int 16)], [.int ((nI (c + 1)) + 1), .ref m0, .int (nI (c + 1)), .ref (q 15)], M9)) rfl rfl rfl ?_
  rw [nI_add1 (p := c + 1) (k := 1) (x := 1) rfl (by omega)]
  show pl _ _ _ (_, [(0, .ref m0), (1, .int x), (2, .int 16)], [.int (nI (c + 2)), .ref m0, .int (nI (c + 1)), .ref (q 15)], M9) _
  refine pr_put (j := 19) rfl hR11 rfl (fun M15 I16 hR17 hi18 hI19 => ?_)
  have hC_20 := hC_14.mono (pIx hI19 (by decide)) (fun _ _ => rfl)
  have hEI21 := hEI8.put hI19 (by decide)
  show pl _ _ _ (22, [(0, .ref m0), (1, .int x), (2, .int 16)], [.int (nI (c + 1)), .ref (q 15)], M15) _
  refine ps_st (S' := (23, [(0, .ref m0), (1, .int x), (2, .int 16)], [.int x, .int (nI (c + 1)), .ref (q 15)], M15)) rfl rfl rfl ?_
  refine ps_st (S' := (24, [(0, .ref m0), (1, .int x), (2, .int 16)], [.int 16, .int x, .int (nI (c + 1)), .ref (q 15)], M15)) rfl rfl rfl ?_
  refine ps_st (S' := (25, [(0, .ref m0), (1, .int x), (2, .int 16)], [.int ((x.toUInt32 >>> ((16 : Int32).toUInt32 &&& Int32.toUInt32 31)).toInt32), .int (nI (c + 1)), .ref (q 15)], M15)) rfl rfl rfl ?_
  refine ps_st (S' := (26, [(0, .ref m0), (1, .int x), (2, .int 16)], [.int (((x.toUInt32 >>> ((16 : Int32).toUInt32 &&& Int32.toUInt32 31)).toInt32).toInt8.toInt32), .int (nI (c + 1)), .ref (q 15)], M15)) rfl rfl rfl ?_
  refine pr_st (a := 15) (j := c + 1) rfl hR17 rfl (by omega) (fun M22 R23 i1_26 hR24 hS25 => ?_)
  have hER26 := hER13.st hS25 (by decide)
  show pl _ _ _ (27, [(0, .ref m0), (1, .int x), (2, .int 16)], [], M22) _
  have hC_27 : BX 15 (c + 2) (wr4 C c x) I16 R23 := BX.w4 (k := 1) hC_14 hS25 (rfl)
  refine ps_st (S' := (30, [(2, .int (16 + (-8))), (0, .ref m0), (1, .int x)], [], M22)) rfl rfl rfl ?_
  refine ps_st (S' := (3, [(0, .ref m0), (1, .int x), (2, .int (16 + (-8)))], [], M22)) rfl rfl rfl ?_
  rw [show ((16 + (-8)) : Int32) = 8 by decide]
  show pl _ _ _ (3, [(0, .ref m0), (1, .int x), (2, .int 8)], [], M22) _
  refine ps_st (S' := (4, [(0, .ref m0), (1, .int x), (2, .int 8)], [.int 8], M22)) rfl rfl rfl ?_
  refine ps_if (S1 := (33, [(0, .ref m0), (1, .int x), (2, .int 8)], [], M22)) (S2 := (7, [(0, .ref m0), (1, .int x), (2, .int 8)], [], M22)) rfl rfl rfl (fun c_4 => ?_) (fun c_4 => ?_)
  · exact absurd (of_decide_eq_true c_4) (by decide)
  refine ps_st (S' := (8, [(0, .ref m0), (1, .int x), (2, .int 8)], [.ref m0], M22)) rfl rfl rfl ?_
  refine pr_ref (j := 15) (S' := (11, [(0, .ref m0), (1, .int x), (2, .int 8)], [.ref (q 15)], M22)) rfl hR24 rfl rfl ?_
  refine ps_st (S' := (12, [(0, .ref m0), (1, .int x), (2, .int 8)], [.ref m0, .ref (q 15)], M22)) rfl rfl rfl ?_
  refine ps_st (S' := (13, [(0, .ref m0), (1, .int x), (2, .int 8)], [.ref m0, .ref m0, .ref (q 15)], M22)) rfl rfl rfl ?_
  refine pr_int (j := 19) (S' := (16, [(0, .ref m0), (1, .int x), (2, .int 8)], [.int (nI (c + 2)), .ref m0, .ref (q 15)], M22)) rfl hR24 rfl hi18 rfl ?_
  refine ps_st (S' := (17, [(0, .ref m0), (1, .int x), (2, .int 8)], [.int (nI (c + 2)), .ref m0, .int (nI (c + 2)), .ref (q 15)], M22)) rfl rfl rfl ?_
  refine ps_st (S' := (18, [(0, .ref m0), (1, .int x), (2, .int 8)], [.int 1, .int (nI (c + 2)), .ref m0, .int (nI (c + 2)), .ref (q 15)], M22)) rfl rfl rfl ?_
  refine ps_st (S' := (19, [(0, .ref m0), (1, .int x), (2, .int 8)], [.int ((nI (c + 2)) + 1), .ref m0, .int (nI (c + 2)), .ref (q 15)], M22)) rfl rfl rfl ?_
  rw [nI_add1 (p := c + 2) (k := 1) (x := 1) rfl (by omega)]
  show pl _ _ _ (_, [(0, .ref m0), (1, .int x), (2, .int 8)], [.int (nI (c + 3)), .ref m0, .int (nI (c + 2)), .ref (q 15)], M22) _
  refine pr_put (j := 19) rfl hR24 rfl (fun M28 I29 hR30 hi31 hI32 => ?_)
  have hC_33 := hC_27.mono (pIx hI32 (by decide)) (fun _ _ => rfl)
  have hEI34 := hEI21.put hI32 (by decide)
  show pl _ _ _ (22, [(0, .ref m0), (1, .int x), (2, .int 8)], [.int (nI (c + 2)), .ref (q 15)], M28) _
  refine ps_st (S' := (23, [(0, .ref m0), (1, .int x), (2, .int 8)], [.int x, .int (nI (c + 2)), .ref (q 15)], M28)) rfl rfl rfl ?_
  refine ps_st (S' := (24, [(0, .ref m0), (1, .int x), (2, .int 8)], [.int 8, .int x, .int (nI (c + 2)), .ref (q 15)], M28)) rfl rfl rfl ?_
  refine ps_st (S' := (25, [(0, .ref m0), (1, .int x), (2, .int 8)], [.int ((x.toUInt32 >>> ((8 : Int32).toUInt32 &&& Int32.toUInt32 31)).toInt32), .int (nI (c + 2)), .ref (q 15)], M28)) rfl rfl rfl ?_
  refine ps_st (S' := (26, [(0, .ref m0), (1, .int x), (2, .int 8)], [.int (((x.toUInt32 >>> ((8 : Int32).toUInt32 &&& Int32.toUInt32 31)).toInt32).toInt8.toInt32), .int (nI (c + 2)), .ref (q 15)], M28)) rfl rfl rfl ?_
  refine pr_st (a := 15) (j := c + 2) rfl hR30 rfl (by omega) (fun M35 R36 i1_26 hR37 hS38 => ?_)
  have hER39 := hER26.st hS38 (by decide)
  show pl _ _ _ (27, [(0, .ref m0), (1, .int x), (2, .int 8)], [], M35) _
  have hC_40 : BX 15 (c + 3) (wr4 C c x) I29 R36 := BX.w4 (k := 2) hC_27 hS38 (rfl)
  refine ps_st (S' := (30, [(2, .int (8 + (-8))), (0, .ref m0), (1, .int x)], [], M35)) rfl rfl rfl ?_
  refine ps_st (S' := (3, [(0, .ref m0), (1, .int x), (2, .int (8 + (-8)))], [], M35)) rfl rfl rfl ?_
  rw [show ((8 + (-8)) : Int32) = 0 by decide]
  show pl _ _ _ (3, [(0, .ref m0), (1, .int x), (2, .int 0)], [], M35) _
  refine ps_st (S' := (4, [(0, .ref m0), (1, .int x), (2, .int 0)], [.int 0], M35)) rfl rfl rfl ?_
  refine ps_if (S1 := (33, [(0, .ref m0), (1, .int x), (2, .int 0)], [], M35)) (S2 := (7, [(0, .ref m0), (1, .int x), (2, .int 0)], [], M35)) rfl rfl rfl (fun c_4 => ?_) (fun c_4 => ?_)
  · exact absurd (of_decide_eq_true c_4) (by decide)
  refine ps_st (S' := (8, [(0, .ref m0), (1, .int x), (2, .int 0)], [.ref m0], M35)) rfl rfl rfl ?_
  refine pr_ref (j := 15) (S' := (11, [(0, .ref m0), (1, .int x), (2, .int 0)], [.ref (q 15)], M35)) rfl hR37 rfl rfl ?_
  refine ps_st (S' := (12, [(0, .ref m0), (1, .int x), (2, .int 0)], [.ref m0, .ref (q 15)], M35)) rfl rfl rfl ?_
  refine ps_st (S' := (13, [(0, .ref m0), (1, .int x), (2, .int 0)], [.ref m0, .ref m0, .ref (q 15)], M35)) rfl rfl rfl ?_
  refine pr_int (j := 19) (S' := (16, [(0, .ref m0), (1, .int x), (2, .int 0)], [.int (nI (c + 3)), .ref m0, .ref (q 15)], M35)) rfl hR37 rfl hi31 rfl ?_
  refine ps_st (S' := (17, [(0, .ref m0), (1, .int x), (2, .int 0)], [.int (nI (c + 3)), .ref m0, .int (nI (c + 3)), .ref (q 15)], M35)) rfl rfl rfl ?_
  refine ps_st (S' := (18, [(0, .ref m0), (1, .int x), (2, .int 0)], [.int 1, .int (nI (c + 3)), .ref m0, .int (nI (c + 3)), .ref (q 15)], M35)) rfl rfl rfl ?_
  refine ps_st (S' := (19, [(0, .ref m0), (1, .int x), (2, .int 0)], [.int ((nI (c + 3)) + 1), .ref m0, .int (nI (c + 3)), .ref (q 15)], M35)) rfl rfl rfl ?_
  rw [nI_add1 (p := c + 3) (k := 1) (x := 1) rfl (by omega)]
  show pl _ _ _ (_, [(0, .ref m0), (1, .int x), (2, .int 0)], [.int (nI (c + 4)), .ref m0, .int (nI (c + 3)), .ref (q 15)], M35) _
  refine pr_put (j := 19) rfl hR37 rfl (fun M41 I42 hR43 hi44 hI45 => ?_)
  have hC_46 := hC_40.mono (pIx hI45 (by decide)) (fun _ _ => rfl)
  have hEI47 := hEI34.put hI45 (by decide)
  show pl _ _ _ (22, [(0, .ref m0), (1, .int x), (2, .int 0)], [.int (nI (c + 3)), .ref (q 15)], M41) _
  refine ps_st (S' := (23, [(0, .ref m0), (1, .int x), (2, .int 0)], [.int x, .int (nI (c + 3)), .ref (q 15)], M41)) rfl rfl rfl ?_
  refine ps_st (S' := (24, [(0, .ref m0), (1, .int x), (2, .int 0)], [.int 0, .int x, .int (nI (c + 3)), .ref (q 15)], M41)) rfl rfl rfl ?_
  refine ps_st (S' := (25, [(0, .ref m0), (1, .int x), (2, .int 0)], [.int ((x.toUInt32 >>> ((0 : Int32).toUInt32 &&& Int32.toUInt32 31)).toInt32), .int (nI (c + 3)), .ref (q 15)], M41)) rfl rfl rfl ?_
  refine ps_st (S' := (26, [(0, .ref m0), (1, .int x), (2, .int 0)], [.int (((x.toUInt32 >>> ((0 : Int32).toUInt32 &&& Int32.toUInt32 31)).toInt32).toInt8.toInt32), .int (nI (c + 3)), .ref (q 15)], M41)) rfl rfl rfl ?_
  refine pr_st (a := 15) (j := c + 3) rfl hR43 rfl (by omega) (fun M48 R49 i1_26 hR50 hS51 => ?_)
  have hER52 := hER39.st hS51 (by decide)
  show pl _ _ _ (27, [(0, .ref m0), (1, .int x), (2, .int 0)], [], M48) _
  have hC_53 : BX 15 (c + 4) (wr4 C c x) I42 R49 := BX.w4 (k := 3) hC_40 hS51 (by show (ush x 0).toInt8.toInt32 = wB x 3; rw [ush_0]; rfl)
  refine ps_st (S' := (30, [(2, .int (0 + (-8))), (0, .ref m0), (1, .int x)], [], M48)) rfl rfl rfl ?_
  refine ps_st (S' := (3, [(0, .ref m0), (1, .int x), (2, .int (0 + (-8)))], [], M48)) rfl rfl rfl ?_
  rw [show ((0 + (-8)) : Int32) = (-8) by decide]
  show pl _ _ _ (3, [(0, .ref m0), (1, .int x), (2, .int (-8))], [], M48) _
  refine ps_st (S' := (4, [(0, .ref m0), (1, .int x), (2, .int (-8))], [.int (-8)], M48)) rfl rfl rfl ?_
  refine ps_if (S1 := (33, [(0, .ref m0), (1, .int x), (2, .int (-8))], [], M48)) (S2 := (7, [(0, .ref m0), (1, .int x), (2, .int (-8))], [], M48)) rfl rfl rfl (fun c_4 => ?_) (fun c_4 => ?_)
  rotate_left
  · exact absurd (by decide) (of_decide_eq_false c_4)
  exact ps_ret rfl rfl (⟨I42, R49, rfl, hR50, hEI47, hER52, hi44, hC_53⟩)
set_option maxHeartbeats 1000000 in
theorem rd_feed {g : xe_G} {m0 : Nat} {q : Nat → Nat} {z : Nat × Nat} {I : rI} {R : rR} {M : mi_H} {c : Nat} {C : Nat → Int32} {x1 x2 x3 x4 x5 : Int32} (hR : RS g m0 q z I R M) (hi19 : I 19 = some (nI c)) (hC : BX 15 c C I R) (hc : c + 20 ≤ 65540) : pt (mT g) 205 [.ref m0, .int x1, .int x2, .int x3, .int x4, .int x5] M (fun v M' => (∃  (I' : rI) (R' : rR), v = some (.int (nI (c + 20))) ∧ RS g m0 q z I' R' M' ∧ eqI [0, 19] I I' ∧ eqR [15] R R' ∧ I' 19 = some (nI (c + 20)) ∧ BX 15 (c + 20) (fdC C c x1 x2 x3 x4 x5) I' R')) := by
  refine pt_in (b := mb_205 g) rfl (fun kf => ?_)
  show pl (mT g) kf (mb_205 g).2 (0, [(0, .ref m0), (1, .int x1), (2, .int x2), (3, .int x3), (4, .int x4), (5, .int x5)], [], M) _
  have hEI : eqI [0, 19] I I := eqI.rf
  have hER : eqR [15] R R := eqR.rf
  refine ps_st (S' := (1, [(0, .ref m0), (1, .int x1), (2, .int x2), (3, .int x3), (4, .int x4), (5, .int x5)], [.ref m0], M)) rfl rfl rfl ?_
  refine ps_st (S' := (2, [(0, .ref m0), (1, .int x1), (2, .int x2), (3, .int x3), (4, .int x4), (5, .int x5)], [.int 0, .ref m0], M)) rfl rfl rfl ?_
  refine pr_put (j := 0) rfl hR rfl (fun M1 I2 hR3 hi4 hI5 => ?_)
  have hi6 := (hI5 19 (by decide)).trans hi19
  have hC_7 := hC.mono (pIx hI5 (by decide)) (fun _ _ => rfl)
  have hEI8 := hEI.put hI5 (by decide)
  show pl _ _ _ (5, [(0, .ref m0), (1, .int x1), (2, .int x2), (3, .int x3), (4, .int x4), (5, .int x5)], [], M1) _
  refine ps_st (S' := (6, [(0, .ref m0), (1, .int x1), (2, .int x2), (3, .int x3), (4, .int x4), (5, .int x5)], [.ref m0], M1)) rfl rfl rfl ?_
  refine pr_int (j := 19) (S' := (9, [(0, .ref m0), (1, .int x1), (2, .int x2), (3, .int x3), (4, .int x4), (5, .int x5)], [.int (nI c)], M1)) rfl hR3 rfl hi6 rfl ?_
  refine ps_st (S' := (11, [(0, .ref m0), (1, .int x1), (2, .int x2), (3, .int x3), (4, .int x4), (5, .int x5)], [.int 20, .int (nI c)], M1)) rfl rfl rfl ?_
  refine ps_st (S' := (12, [(0, .ref m0), (1, .int x1), (2, .int x2), (3, .int x3), (4, .int x4), (5, .int x5)], [.int ((nI c) + 20)], M1)) rfl rfl rfl ?_
  rw [nI_add1 (p := c) (k := 20) (x := 20) rfl (by omega)]
  show pl _ _ _ (_, [(0, .ref m0), (1, .int x1), (2, .int x2), (3, .int x3), (4, .int x4), (5, .int x5)], [.int (nI (c + 20))], M1) _
  refine ps_st (S' := (14, [(0, .ref m0), (1, .int x1), (2, .int x2), (3, .int x3), (4, .int x4), (5, .int x5)], [.int 65540, .int (nI (c + 20))], M1)) rfl rfl rfl ?_
  refine ps_if2 (S1 := (24, [(0, .ref m0), (1, .int x1), (2, .int x2), (3, .int x3), (4, .int x4), (5, .int x5)], [], M1)) (S2 := (17, [(0, .ref m0), (1, .int x1), (2, .int x2), (3, .int x3), (4, .int x4), (5, .int x5)], [], M1)) rfl rfl rfl (fun c_14 => ?_) (fun c_14 => ?_)
  · have c_14 : (nI (c + 20)) ≤ 65540 := of_decide_eq_true c_14
    have n_14 : c + 20 ≤ 65540 := (le_nI (p := c + 20) (n := 65540) (by omega) (by decide)).mp c_14
    refine ps_st (S' := (25, [(0, .ref m0), (1, .int x1), (2, .int x2), (3, .int x3), (4, .int x4), (5, .int x5)], [.ref m0], M1)) rfl rfl rfl ?_
    refine ps_st (S' := (26, [(0, .ref m0), (1, .int x1), (2, .int x2), (3, .int x3), (4, .int x4), (5, .int x5)], [.int x1, .ref m0], M1)) rfl rfl rfl ?_
    refine pl_call (a := [.ref m0, .int x1]) (rest := []) rfl rfl rfl (rd_four (c := c) (C := C) (x := x1) hR3 hi6 hC_7 (by omega)) (fun v9 M10 q11 => ?_)
    obtain ⟨I12, R13, rfl, hR14, hI15, hX16, hi17, hC_18⟩ := q11
    have hi20 := (hI15 0 (by decide)).trans hi4
    have hEI21 := hEI8.tr hI15 (by decide)
    have hER22 := hER.tr hX16 (by decide)
    show pl _ _ _ (29, [(0, .ref m0), (1, .int x1), (2, .int x2), (3, .int x3), (4, .int x4), (5, .int x5)], [], M10) _
    refine ps_st (S' := (30, [(0, .ref m0), (1, .int x1), (2, .int x2), (3, .int x3), (4, .int x4), (5, .int x5)], [.ref m0], M10)) rfl rfl rfl ?_
    refine ps_st (S' := (31, [(0, .ref m0), (1, .int x1), (2, .int x2), (3, .int x3), (4, .int x4), (5, .int x5)], [.int x2, .ref m0], M10)) rfl rfl rfl ?_
    refine pl_call (a := [.ref m0, .int x2]) (rest := []) rfl rfl rfl (rd_four (c := (c + 4)) (C := (wr4 C c x1)) (x := x2) hR14 hi17 hC_18 (by omega)) (fun v23 M24 q25 => ?_)
    obtain ⟨I26, R27, rfl, hR28, hI29, hX30, hi31, hC_32⟩ := q25
    have hi33 := (hI29 0 (by decide)).trans hi20
    have hEI34 := hEI21.tr hI29 (by decide)
    have hER35 := hER22.tr hX30 (by decide)
    show pl _ _ _ (34, [(0, .ref m0), (1, .int x1), (2, .int x2), (3, .int x3), (4, .int x4), (5, .int x5)], [], M24) _
    refine ps_st (S' := (35, [(0, .ref m0), (1, .int x1), (2, .int x2), (3, .int x3), (4, .int x4), (5, .int x5)], [.ref m0], M24)) rfl rfl rfl ?_
    refine ps_st (S' := (36, [(0, .ref m0), (1, .int x1), (2, .int x2), (3, .int x3), (4, .int x4), (5, .int x5)], [.int x3, .ref m0], M24)) rfl rfl rfl ?_
    refine pl_call (a := [.ref m0, .int x3]) (rest := []) rfl rfl rfl (rd_four (c := (c + 8)) (C := (wr4 (wr4 C c x1) (c + 4) x2)) (x := x3) hR28 hi31 hC_32 (by omega)) (fun v36 M37 q38 => ?_)
    obtain ⟨I39, R40, rfl, hR41, hI42, hX43, hi44, hC_45⟩ := q38
    have hi46 := (hI42 0 (by decide)).trans hi33
    have hEI47 := hEI34.tr hI42 (by decide)
    have hER48 := hER35.tr hX43 (by decide)
    show pl _ _ _ (39, [(0, .ref m0), (1, .int x1), (2, .int x2), (3, .int x3), (4, .int x4), (5, .int x5)], [], M37) _
    refine ps_st (S' := (40, [(0, .ref m0), (1, .int x1), (2, .int x2), (3, .int x3), (4, .int x4), (5, .int x5)], [.ref m0], M37)) rfl rfl rfl ?_
    refine ps_st (S' := (42, [(0, .ref m0), (1, .int x1), (2, .int x2), (3, .int x3), (4, .int x4), (5, .int x5)], [.int x4, .ref m0], M37)) rfl rfl rfl ?_
    refine pl_call (a := [.ref m0, .int x4]) (rest := []) rfl rfl rfl (rd_four (c := (c + 12)) (C := (wr4 (wr4 (wr4 C c x1) (c + 4) x2) (c + 8) x3)) (x := x4) hR41 hi44 hC_45 (by omega)) (fun v49 M50 q51 => ?_)
    obtain ⟨I52, R53, rfl, hR54, hI55, hX56, hi57, hC_58⟩ := q51
    have hi59 := (hI55 0 (by decide)).trans hi46
    have hEI60 := hEI47.tr hI55 (by decide)
    have hER61 := hER48.tr hX56 (by decide)
    show pl _ _ _ (45, [(0, .ref m0), (1, .int x1), (2, .int x2), (3, .int x3), (4, .int x4), (5, .int x5)], [], M50) _
    refine ps_st (S' := (46, [(0, .ref m0), (1, .int x1), (2, .int x2), (3, .int x3), (4, .int x4), (5, .int x5)], [.ref m0], M50)) rfl rfl rfl ?_
    refine ps_st (S' := (48, [(0, .ref m0), (1, .int x1), (2, .int x2), (3, .int x3), (4, .int x4), (5, .int x5)], [.int x5, .ref m0], M50)) rfl rfl rfl ?_
    refine pl_call (a := [.ref m0, .int x5]) (rest := []) rfl rfl rfl (rd_four (c := (c + 16)) (C := (wr4 (wr4 (wr4 (wr4 C c x1) (c + 4) x2) (c + 8) x3) (c + 12) x4)) (x := x5) hR54 hi57 hC_58 (by omega)) (fun v62 M63 q64 => ?_)
    obtain ⟨I65, R66, rfl, hR67, hI68, hX69, hi70, hC_71⟩ := q64
    have hi72 := (hI68 0 (by decide)).trans hi59
    have hEI73 := hEI60.tr hI68 (by decide)
    have hER74 := hER61.tr hX69 (by decide)
    show pl _ _ _ (51, [(0, .ref m0), (1, .int x1), (2, .int x2), (3, .int x3), (4, .int x4), (5, .int x5)], [], M63) _
    refine ps_st (S' := (52, [(0, .ref m0), (1, .int x1), (2, .int x2), (3, .int x3), (4, .int x4), (5, .int x5)], [.ref m0], M63)) rfl rfl rfl ?_
    refine pr_int (j := 19) (S' := (55, [(0, .ref m0), (1, .int x1), (2, .int x2), (3, .int x3), (4, .int x4), (5, .int x5)], [.int (nI (c + 20))], M63)) rfl hR67 rfl hi70 rfl ?_
    exact ps_reti rfl (⟨I65, R66, rfl, hR67, hEI73, hER74, hi70, hC_71⟩)
  · have c_14 : ¬ ((nI (c + 20)) ≤ 65540) := of_decide_eq_false c_14
    have n_14 : ¬ (c + 20 ≤ 65540) := fun h9 => c_14 ((le_nI (p := c + 20) (n := 65540) (by omega) (by decide)).mpr h9)
    refine ps_st (S' := (18, [(0, .ref m0), (1, .int x1), (2, .int x2), (3, .int x3), (4, .int x4), (5, .int x5)], [.ref m0], M1)) rfl rfl rfl ?_
    refine ps_st (S' := (19, [(0, .ref m0), (1, .int x1), (2, .int x2), (3, .int x3), (4, .int x4), (5, .int x5)], [.int 1, .ref m0], M1)) rfl rfl rfl ?_
    refine pr_put (j := 0) rfl hR3 rfl (fun M75 I76 hR77 hi78 hI79 => ?_)
    have hi80 := (hI79 19 (by decide)).trans hi6
    have hC_81 := hC_7.mono (pIx hI79 (by decide)) (fun _ _ => rfl)
    have hEI82 := hEI8.put hI79 (by decide)
    show pl _ _ _ (22, [(0, .ref m0), (1, .int x1), (2, .int x2), (3, .int x3), (4, .int x4), (5, .int x5)], [], M75) _
    refine ps_st (S' := (23, [(0, .ref m0), (1, .int x1), (2, .int x2), (3, .int x3), (4, .int x4), (5, .int x5)], [.int 0], M75)) rfl rfl rfl ?_
    exact ps_ret rfl rfl (absurd hc (by omega))
set_option maxHeartbeats 1000000 in
theorem rd_bad {g : xe_G} {m0 : Nat} {q : Nat → Nat} {z : Nat × Nat} {I : rI} {R : rR} {M : mi_H}  (hR : RS g m0 q z I R M)    : pt (mT g) 182 [.ref m0] M (fun v M' => (∃  (I' : rI) (R' : rR), v = some (.int 0) ∧ RS g m0 q z I' R' M' ∧ eqI [0] I I' ∧ eqR [] R R' ∧ I' 0 = some 1)) := by
  refine pt_in (b := mb_182 g) rfl (fun kf => ?_)
  show pl (mT g) kf (mb_182 g).2 (0, [(0, .ref m0)], [], M) _
  have hEI : eqI [0] I I := eqI.rf
  have hER : eqR [] R R := eqR.rf
  refine ps_st (S' := (1, [(0, .ref m0)], [.ref m0], M)) rfl rfl rfl ?_
  refine ps_st (S' := (2, [(0, .ref m0)], [.int 1, .ref m0], M)) rfl rfl rfl ?_
  refine pr_put (j := 0) rfl hR rfl (fun M1 I2 hR3 hi4 hI5 => ?_)
  have hEI6 := hEI.put hI5 (by decide)
  show pl _ _ _ (5, [(0, .ref m0)], [], M1) _
  refine ps_st (S' := (6, [(0, .ref m0)], [.int 0], M1)) rfl rfl rfl ?_
  exact ps_ret rfl rfl (⟨I2, R, rfl, hR3, hEI6, hER, hi4⟩)
set_option maxHeartbeats 1000000 in
theorem rd_endok {g : xe_G} {m0 : Nat} {q : Nat → Nat} {z : Nat × Nat} {I : rI} {R : rR} {M : mi_H} {c k : Nat} {C : Nat → Int32} (hR : RS g m0 q z I R M) (hi19 : I 19 = some (nI c)) (hC : BX 15 c C I R) (hc : c ≤ 65540) (hk : k ≤ c) : pt (mT g) 202 [.ref m0, .int (nI k)] M (fun v M' => (∃  (I' : rI) (R' : rR), v = some (.int (nI k)) ∧ RS g m0 q z I' R' M' ∧ eqI [0, 17, 19] I I' ∧ eqR [13] R R' ∧ I' 17 = some (nI k) ∧ I' 19 = some (nI 0) ∧ BX 13 k C I' R')) := by
  refine pt_in (b := mb_202 g) rfl (fun kf => ?_)
  show pl (mT g) kf (mb_202 g).2 (0, [(0, .ref m0), (1, .int (nI k))], [], M) _
  have hEI : eqI [0, 17, 19] I I := eqI.rf
  have hER : eqR [13] R R := eqR.rf
  have LL : ∀ (kf : Nat), (∀ (i : Nat) (M1 : mi_H) (I1 : rI) (R1 : rR), (RS g m0 q z I1 R1 M1) → (eqI [0, 17, 19] I I1) → (eqR [13] R R1) → (BX 15 c C I1 R1) → (BX 13 i C I1 R1) → (i ≤ k) →  pl (mT g) kf (mb_202 g).2 (24, [(0, .ref m0), (1, .int (nI k)), (2, .int (nI i))], [], M1) (fun v M' => (∃  (I' : rI) (R' : rR), v = some (.int (nI k)) ∧ RS g m0 q z I' R' M' ∧ eqI [0, 17, 19] I I' ∧ eqR [13] R R' ∧ I' 17 = some (nI k) ∧ I' 19 = some (nI 0) ∧ BX 13 k C I' R'))) := by
    intro kf
    induction kf with
    | zero => exact (by intros; exact pl_0)
    | succ kf ih =>
      intro i M1 I1 R1 hR1 hEI1 hER1 hC1 hB1 hi
      refine ps_st1 (S' := (25, [(0, .ref m0), (1, .int (nI k)), (2, .int (nI i))], [.int (nI i)], M1)) rfl rfl rfl ?_
      refine ps_st (S' := (26, [(0, .ref m0), (1, .int (nI k)), (2, .int (nI i))], [.int (nI k), .int (nI i)], M1)) rfl rfl rfl ?_
      refine ps_if2 (S1 := (47, [(0, .ref m0), (1, .int (nI k)), (2, .int (nI i))], [], M1)) (S2 := (29, [(0, .ref m0), (1, .int (nI k)), (2, .int (nI i))], [], M1)) rfl rfl rfl (fun c_26 => ?_) (fun c_26 => ?_)
      · have c_26 : (nI k) ≤ (nI i) := of_decide_eq_true c_26
        have n_26 : k ≤ i := (le_nI (p := k) (n := i) (by omega) (by omega)).mp c_26
        refine ps_st (S' := (48, [(0, .ref m0), (1, .int (nI k)), (2, .int (nI i))], [.ref m0], M1)) rfl rfl rfl ?_
        refine ps_st (S' := (49, [(0, .ref m0), (1, .int (nI k)), (2, .int (nI i))], [.int (nI k), .ref m0], M1)) rfl rfl rfl ?_
        refine pr_put (j := 17) rfl hR1 rfl (fun M1 I2 hR3 hi4 hI5 => ?_)
        have hC_6 := hC1.mono (pIx hI5 (by decide)) (fun _ _ => rfl)
        have hB_7 := hB1.mono (pIx hI5 (by decide)) (fun _ _ => rfl)
        have hEI8 := hEI1.put hI5 (by decide)
        show pl _ _ _ (52, [(0, .ref m0), (1, .int (nI k)), (2, .int (nI i))], [], M1) _
        refine ps_st (S' := (53, [(0, .ref m0), (1, .int (nI k)), (2, .int (nI i))], [.ref m0], M1)) rfl rfl rfl ?_
        refine ps_st (S' := (54, [(0, .ref m0), (1, .int (nI k)), (2, .int (nI i))], [.int 0, .ref m0], M1)) rfl rfl rfl ?_
        refine pr_put (j := 19) rfl hR3 rfl (fun M9 I10 hR11 hi12 hI13 => ?_)
        have hi14 := (hI13 17 (by decide)).trans hi4
        have hC_15 := hC_6.mono (pIx hI13 (by decide)) (fun _ _ => rfl)
        have hB_16 := hB_7.mono (pIx hI13 (by decide)) (fun _ _ => rfl)
        have hEI17 := hEI8.put hI13 (by decide)
        show pl _ _ _ (57, [(0, .ref m0), (1, .int (nI k)), (2, .int (nI i))], [], M9) _
        refine ps_st (S' := (58, [(0, .ref m0), (1, .int (nI k)), (2, .int (nI i))], [.int (nI k)], M9)) rfl rfl rfl ?_
        exact ps_reti rfl (⟨I10, R1, rfl, hR11, hEI17, hER1, hi14, hi12, BX.le hB_16 (by omega)⟩)
      · have c_26 : ¬ ((nI k) ≤ (nI i)) := of_decide_eq_false c_26
        have n_26 : ¬ (k ≤ i) := fun h9 => c_26 ((le_nI (p := k) (n := i) (by omega) (by omega)).mpr h9)
        refine ps_st (S' := (30, [(0, .ref m0), (1, .int (nI k)), (2, .int (nI i))], [.ref m0], M1)) rfl rfl rfl ?_
        refine pr_ref (j := 13) (S' := (33, [(0, .ref m0), (1, .int (nI k)), (2, .int (nI i))], [.ref (q 13)], M1)) rfl hR1 rfl rfl ?_
        refine ps_st (S' := (34, [(0, .ref m0), (1, .int (nI k)), (2, .int (nI i))], [.int (nI i), .ref (q 13)], M1)) rfl rfl rfl ?_
        refine ps_st (S' := (35, [(0, .ref m0), (1, .int (nI k)), (2, .int (nI i))], [.ref m0, .int (nI i), .ref (q 13)], M1)) rfl rfl rfl ?_
        refine pr_ref (j := 15) (S' := (38, [(0, .ref m0), (1, .int (nI k)), (2, .int (nI i))], [.ref (q 15), .int (nI i), .ref (q 13)], M1)) rfl hR1 rfl rfl ?_
        refine ps_st (S' := (39, [(0, .ref m0), (1, .int (nI k)), (2, .int (nI i))], [.int (nI i), .ref (q 15), .int (nI i), .ref (q 13)], M1)) rfl rfl rfl ?_
        refine pr_ld (a := 15) (j := i) (y := (C i)) (S' := (40, [(0, .ref m0), (1, .int (nI k)), (2, .int (nI i))], [.int (C i), .int (nI i), .ref (q 13)], M1)) rfl hR1 rfl (by omega) (fun _ => (hC1 i (by omega)).1) rfl (fun i1_39 => ?_)
        refine pr_st (a := 13) (j := i) rfl hR1 rfl (by omega) (fun M18 R19 i1_40 hR20 hS21 => ?_)
        have hC_22 := hC1.mono (fun _ _ => rfl) (rRx hS21 (by decide))
        have hER23 := hER1.st hS21 (by decide)
        show pl _ _ _ (41, [(0, .ref m0), (1, .int (nI k)), (2, .int (nI i))], [], M18) _
        have hB_24 : BX 13 (i + 1) C I1 R19 := BX.st hB1 hS21 (hC1 i (by omega)).2 rfl
        refine ps_st (S' := (44, [(2, .int ((nI i) + 1)), (0, .ref m0), (1, .int (nI k))], [], M18)) rfl rfl rfl ?_
        rw [nI_add1 (p := i) (k := 1) (x := 1) rfl (by omega)]
        show pl _ _ _ (_, [(2, .int (nI (i + 1))), (0, .ref m0), (1, .int (nI k))], [], M18) _
        refine ps_st (S' := (24, [(0, .ref m0), (1, .int (nI k)), (2, .int (nI (i + 1)))], [], M18)) rfl rfl rfl ?_
        exact ih (i + 1) M18 I1 R19 hR20 hEI1 hER23 hC_22 hB_24 (by omega)
  refine ps_st (S' := (1, [(0, .ref m0), (1, .int (nI k))], [.ref m0], M)) rfl rfl rfl ?_
  refine ps_st (S' := (2, [(0, .ref m0), (1, .int (nI k))], [.int 0, .ref m0], M)) rfl rfl rfl ?_
  refine pr_put (j := 0) rfl hR rfl (fun M25 I26 hR27 hi28 hI29 => ?_)
  have hi30 := (hI29 19 (by decide)).trans hi19
  have hC_31 := hC.mono (pIx hI29 (by decide)) (fun _ _ => rfl)
  have hEI32 := hEI.put hI29 (by decide)
  show pl _ _ _ (5, [(0, .ref m0), (1, .int (nI k))], [], M25) _
  refine ps_st (S' := (6, [(0, .ref m0), (1, .int (nI k))], [.int (nI k)], M25)) rfl rfl rfl ?_
  refine ps_if (S1 := (17, [(0, .ref m0)], [], M25)) (S2 := (9, [(0, .ref m0), (1, .int (nI k))], [], M25)) rfl rfl rfl (fun c_6 => ?_) (fun c_6 => ?_)
  · exact absurd (of_decide_eq_true c_6) (show ¬ ((nI k) < 0) from fun h9 => absurd ((lt_nI (p := k) (n := 0) (by omega) (by decide)).mp h9) (by omega))
  refine ps_st (S' := (10, [(0, .ref m0), (1, .int (nI k))], [.int (nI k)], M25)) rfl rfl rfl ?_
  refine ps_st (S' := (11, [(0, .ref m0), (1, .int (nI k))], [.ref m0, .int (nI k)], M25)) rfl rfl rfl ?_
  refine pr_int (j := 19) (S' := (14, [(0, .ref m0), (1, .int (nI k))], [.int (nI c), .int (nI k)], M25)) rfl hR27 rfl hi30 rfl ?_
  refine ps_if2 (S1 := (22, [(0, .ref m0), (1, .int (nI k))], [], M25)) (S2 := (17, [(0, .ref m0)], [], M25)) rfl rfl rfl (fun c_14 => ?_) (fun c_14 => ?_)
  · have c_14 : (nI k) ≤ (nI c) := of_decide_eq_true c_14
    have n_14 : k ≤ c := (le_nI (p := k) (n := c) (by omega) (by omega)).mp c_14
    refine ps_st (S' := (23, [(0, .ref m0), (1, .int (nI k))], [.int 0], M25)) rfl rfl rfl ?_
    refine ps_st (S' := (24, [(0, .ref m0), (1, .int (nI k)), (2, .int 0)], [], M25)) rfl rfl rfl ?_
    have hB0 : BX 13 0 C I26 R := fun i9 h9 => absurd h9 (Nat.not_lt_zero _)
    exact (LL kf) (0) M25 I26 R hR27 hEI32 hER hC_31 hB0 (by omega)
  · have c_14 : ¬ ((nI k) ≤ (nI c)) := of_decide_eq_false c_14
    have n_14 : ¬ (k ≤ c) := fun h9 => c_14 ((le_nI (p := k) (n := c) (by omega) (by omega)).mpr h9)
    refine ps_st (S' := (18, [(0, .ref m0)], [.ref m0], M25)) rfl rfl rfl ?_
    refine pl_call (a := [.ref m0]) (rest := []) rfl rfl rfl (rd_bad hR27) (fun v33 M34 q35 => ?_)
    obtain ⟨I36, R37, rfl, hR38, hI39, hX40, hi41⟩ := q35
    have hi42 := (hI39 19 (by decide)).trans hi30
    have hC_43 := hC_31.mono (cIx hI39 (by decide)) (cRx hX40 (by decide))
    have hEI44 := hEI32.tr hI39 (by decide)
    have hER45 := hER.tr hX40 (by decide)
    show pl _ _ _ (21, [(0, .ref m0)], [.int 0], M34) _
    exact ps_ret rfl rfl (absurd hk (by omega))
set_option maxHeartbeats 1000000 in
theorem rd_endno {g : xe_G} {m0 : Nat} {q : Nat → Nat} {z : Nat × Nat} {I : rI} {R : rR} {M : mi_H} {c : Nat} {x1 : Int32} (hR : RS g m0 q z I R M) (hi19 : I 19 = some (nI c))  (hc : c ≤ 65540) (hbad : x1 < 0 ∨ ¬ x1 ≤ nI c) : pt (mT g) 202 [.ref m0, .int x1] M (fun v M' => (∃  (I' : rI) (R' : rR), v = some (.int 0) ∧ RS g m0 q z I' R' M' ∧ eqI [0] I I' ∧ eqR [] R R')) := by
  refine pt_in (b := mb_202 g) rfl (fun kf => ?_)
  show pl (mT g) kf (mb_202 g).2 (0, [(0, .ref m0), (1, .int x1)], [], M) _
  have hEI : eqI [0] I I := eqI.rf
  have hER : eqR [] R R := eqR.rf
  refine ps_st (S' := (1, [(0, .ref m0), (1, .int x1)], [.ref m0], M)) rfl rfl rfl ?_
  refine ps_st (S' := (2, [(0, .ref m0), (1, .int x1)], [.int 0, .ref m0], M)) rfl rfl rfl ?_
  refine pr_put (j := 0) rfl hR rfl (fun M1 I2 hR3 hi4 hI5 => ?_)
  have hi6 := (hI5 19 (by decide)).trans hi19
  have hEI7 := hEI.put hI5 (by decide)
  show pl _ _ _ (5, [(0, .ref m0), (1, .int x1)], [], M1) _
  refine ps_st (S' := (6, [(0, .ref m0), (1, .int x1)], [.int x1], M1)) rfl rfl rfl ?_
  refine ps_if (S1 := (17, [(0, .ref m0)], [], M1)) (S2 := (9, [(0, .ref m0), (1, .int x1)], [], M1)) rfl rfl rfl (fun c_6 => ?_) (fun c_6 => ?_)
  · have c_6 : x1 < 0 := of_decide_eq_true c_6
    refine ps_st (S' := (18, [(0, .ref m0)], [.ref m0], M1)) rfl rfl rfl ?_
    refine pl_call (a := [.ref m0]) (rest := []) rfl rfl rfl (rd_bad hR3) (fun v8 M9 q10 => ?_)
    obtain ⟨I11, R12, rfl, hR13, hI14, hX15, hi16⟩ := q10
    have hi17 := (hI14 19 (by decide)).trans hi6
    have hEI18 := hEI7.tr hI14 (by decide)
    have hER19 := hER.tr hX15 (by decide)
    show pl _ _ _ (21, [(0, .ref m0)], [.int 0], M9) _
    exact ps_ret rfl rfl (⟨I11, R12, rfl, hR13, hEI18, hER19⟩)
  · have c_6 : ¬ (x1 < 0) := of_decide_eq_false c_6
    refine ps_st (S' := (10, [(0, .ref m0), (1, .int x1)], [.int x1], M1)) rfl rfl rfl ?_
    refine ps_st (S' := (11, [(0, .ref m0), (1, .int x1)], [.ref m0, .int x1], M1)) rfl rfl rfl ?_
    refine pr_int (j := 19) (S' := (14, [(0, .ref m0), (1, .int x1)], [.int (nI c), .int x1], M1)) rfl hR3 rfl hi6 rfl ?_
    refine ps_if2 (S1 := (22, [(0, .ref m0), (1, .int x1)], [], M1)) (S2 := (17, [(0, .ref m0)], [], M1)) rfl rfl rfl (fun c_14 => ?_) (fun c_14 => ?_)
    · have c_14 : x1 ≤ (nI c) := of_decide_eq_true c_14
      exfalso
      rcases hbad with h9 | h9
      · exact absurd h9 (by assumption)
      · exact h9 (by assumption)
    · have c_14 : ¬ (x1 ≤ (nI c)) := of_decide_eq_false c_14
      refine ps_st (S' := (18, [(0, .ref m0)], [.ref m0], M1)) rfl rfl rfl ?_
      refine pl_call (a := [.ref m0]) (rest := []) rfl rfl rfl (rd_bad hR3) (fun v20 M21 q22 => ?_)
      obtain ⟨I23, R24, rfl, hR25, hI26, hX27, hi28⟩ := q22
      have hi29 := (hI26 19 (by decide)).trans hi6
      have hEI30 := hEI7.tr hI26 (by decide)
      have hER31 := hER.tr hX27 (by decide)
      show pl _ _ _ (21, [(0, .ref m0)], [.int 0], M21) _
      exact ps_ret rfl rfl (⟨I23, R24, rfl, hR25, hEI30, hER31⟩)
set_option maxHeartbeats 1000000 in
theorem rd_place {g : xe_G} {m0 : Nat} {q : Nat → Nat} {z : Nat × Nat} {I : rI} {R : rR} {M : mi_H} {lp : Int32} (hR : RS g m0 q z I R M) (hi73 : I 73 = some lp)   : pt (mT g) 231 [.ref m0] M (fun v M' => (∃  (I' : rI) (R' : rR), v = some (.int lp) ∧ RS g m0 q z I' R' M' ∧ eqI [0] I I' ∧ eqR [] R R')) := by
  refine pt_in (b := mb_231 g) rfl (fun kf => ?_)
  show pl (mT g) kf (mb_231 g).2 (0, [(0, .ref m0)], [], M) _
  have hEI : eqI [0] I I := eqI.rf
  have hER : eqR [] R R := eqR.rf
  refine ps_st (S' := (1, [(0, .ref m0)], [.ref m0], M)) rfl rfl rfl ?_
  refine ps_st (S' := (2, [(0, .ref m0)], [.int 0, .ref m0], M)) rfl rfl rfl ?_
  refine pr_put (j := 0) rfl hR rfl (fun M1 I2 hR3 hi4 hI5 => ?_)
  have hi6 := (hI5 73 (by decide)).trans hi73
  have hEI7 := hEI.put hI5 (by decide)
  show pl _ _ _ (5, [(0, .ref m0)], [], M1) _
  refine ps_st (S' := (6, [(0, .ref m0)], [.ref m0], M1)) rfl rfl rfl ?_
  refine pr_int (j := 73) (S' := (9, [(0, .ref m0)], [.int lp], M1)) rfl hR3 rfl hi6 rfl ?_
  exact ps_reti rfl (⟨I2, R, rfl, hR3, hEI7, hER⟩)
end
section
/-! bytes come to the class (my own text) -/
section CPA
variable {g : xe_G} {M : mi_H} {d : Nat}
theorem ct_copyX {a0 m : Nat} {f : Nat → Int32} {x1 : Int32} (h : M.1 a0 = some (ar .byte m f)) (hf : ∀ i, fits .byte (.int (f i)) = true) (hg : a0 ≠ g.1) (hg2 : M.2.1 ≠ g.1) (h0 : 0 ≤ x1.toInt) (h1 : x1.toInt ≤ 134217728) (hm : m < 1073741824) (hne : x1 ≠ nI m) (hl : a0 < M.2.1) (hd : 1 ≤ d) :
    mt (mT g) d 259 [.ref a0, .int x1] M (fun v M' => v = some (.ref M.2.1) ∧ ∃ f', ((∀ i, fits .byte (.int (f' i)) = true) ∧ ∀ i, f' i = if i < x1.toNatClampNeg ∧ i < m then f i else 0) ∧ M' = mk1 M (ar .byte x1.toNatClampNeg f') x1.toNatClampNeg) := by
  obtain ⟨d, rfl⟩ : ∃ e, d = e + 1 := ⟨d - 1, by omega⟩
  refine mt_in (b := mb_259 g) rfl rfl ?_
  show ml (mT g) d (mb_259 g).2 (0, [(0, .ref a0), (1, .int x1)], [], M) _
  refine ml_blk 2 (S' := (2, [(0, .ref a0), (1, .int x1)], [.ref a0, .int x1], M)) rfl ?_
  refine mo_alen (S' := (3, [(0, .ref a0), (1, .int x1)], [.int (nI m), .int x1], M)) rfl h rfl ?_
  refine ml_if2 (S1 := (14, [(0, .ref a0), (1, .int x1)], [], M)) (S2 := (6, [(0, .ref a0), (1, .int x1)], [], M)) rfl rfl rfl (fun c_3 => ?_) (fun c_3 => ?_)
  rotate_left
  · exact absurd hne (of_decide_eq_false c_3)
  refine ml_st (S' := (15, [(0, .ref a0), (1, .int x1)], [.int x1], M)) rfl rfl rfl ?_
  refine ml_newa (S' := (17, [(0, .ref a0), (1, .int x1)], [.ref M.2.1], mk1 M (ar .byte x1.toNatClampNeg (fun _ => 0)) x1.toNatClampNeg)) rfl h0 h1 rfl ?_
  have k0 : (mk1 M (ar .byte x1.toNatClampNeg (fun _ => 0)) x1.toNatClampNeg).1 a0 = some (ar .byte m f) := (mk1_ne (Nat.ne_of_lt hl)).trans h
  have k1 : (mk1 M (ar .byte x1.toNatClampNeg (fun _ => 0)) x1.toNatClampNeg).1 M.2.1 = some (ar .byte x1.toNatClampNeg (fun _ => 0)) := mk1_at
  have k2 : ∀ c, up (mk1 M (ar .byte x1.toNatClampNeg (fun _ => 0)) x1.toNatClampNeg) M.2.1 c = mk1 M c x1.toNatClampNeg := fun c => mk1_up
  generalize mk1 M (ar .byte x1.toNatClampNeg (fun _ => 0)) x1.toNatClampNeg = M1 at k0 k1 k2 ⊢
  refine ml_st (S' := (18, [(2, .ref M.2.1), (0, .ref a0), (1, .int x1)], [], M1)) rfl rfl rfl ?_
  refine ml_blk 5 (S' := (23, [(2, .ref M.2.1), (0, .ref a0), (1, .int x1)], [.ref a0, .int 0, .ref M.2.1, .int 0, .ref a0], M1)) rfl ?_
  refine mo_alen (S' := (24, [(2, .ref M.2.1), (0, .ref a0), (1, .int x1)], [.int (nI m), .int 0, .ref M.2.1, .int 0, .ref a0], M1)) rfl k0 rfl ?_
  refine ml_blk 2 (S' := (28, [(2, .ref M.2.1), (0, .ref a0), (1, .int x1)], [.int (if x1 < nI m then x1 else nI m), .int 0, .ref M.2.1, .int 0, .ref a0], M1)) rfl ?_
  have hmn : 0 ≤ (if x1 < nI m then x1 else nI m).toInt ∧ (if x1 < nI m then x1 else nI m).toInt ≤ m ∧ (if x1 < nI m then x1 else nI m).toInt ≤ x1.toInt ∧ ((if x1 < nI m then x1 else nI m).toInt = m ∨ (if x1 < nI m then x1 else nI m).toInt = x1.toInt) := by
    have e := nI_val hm
    split
    · rename_i q
      have := i_lt q
      omega
    · rename_i q
      have := i_nlt q
      omega
  generalize (if x1 < nI m then x1 else nI m) = n9 at hmn ⊢
  have hN : (n9.toNatClampNeg : Int) = n9.toInt := by
    show ((n9.toInt.toNat : Nat) : Int) = _
    omega
  have hX : (x1.toNatClampNeg : Int) = x1.toInt := by
    show ((x1.toInt.toNat : Nat) : Int) = _
    omega
  have z0 : Int32.toNatClampNeg 0 = 0 := rfl
  refine ml_st (S1 := (31, [(2, .ref M.2.1), (0, .ref a0), (1, .int x1)], [], mk1 M (ar .byte x1.toNatClampNeg (va_cpy f (fun _ => 0) 0 0 n9.toNatClampNeg)) x1.toNatClampNeg)) (S' := (31, [(2, .ref M.2.1), (0, .ref a0), (1, .int x1)], [], mk1 M (ar .byte x1.toNatClampNeg (va_cpy f (fun _ => 0) 0 0 n9.toNatClampNeg)) x1.toNatClampNeg)) rfl ?_ rfl ?_
  · simp only [o_acopy2, ga_ar k0, ga_ar k1]
    rw [if_pos ⟨Ne.symm (Nat.ne_of_lt hl), hg, hg2, by decide, by decide, nlt0 hmn.1, by rw [z0]; omega, by rw [z0]; omega, by decide, List.all_eq_true.mpr (fun i _ => hf _)⟩]
    rw [← k2, z0, cpy_some]
    rfl
  · refine ml_st (S' := (32, [(2, .ref M.2.1), (0, .ref a0), (1, .int x1)], [.ref M.2.1], mk1 M (ar .byte x1.toNatClampNeg (va_cpy f (fun _ => 0) 0 0 n9.toNatClampNeg)) x1.toNatClampNeg)) rfl rfl rfl ?_
    refine ml_ret rfl rfl ⟨rfl, _, ⟨fun i => ?_, fun i => ?_⟩, rfl⟩
    · unfold va_cpy
      split
      · exact hf _
      · rfl
    · unfold va_cpy
      by_cases h9 : i < x1.toNatClampNeg ∧ i < m
      · rw [if_pos h9, if_pos (by omega)]
        congr 1
        omega
      · rw [if_neg h9, if_neg (by omega)]
theorem pt.im {T : Nat → Option (Nat × mi_B)} {y : Nat} {a : List Value} {Q Q' : Option Value → mi_H → Prop} (h : pt T y a M Q) (k : ∀ v M', Q v M' → Q' v M') : pt T y a M Q' := fun n d r hr => k _ _ (h n d r hr)
theorem upd_b {C : Nat → Int32} {i : Nat} {x : Int32} (h : ∀ i, fits .byte (.int (C i)) = true) : ∀ j, fits .byte (.int (upd C i (vp_nar .byte x) j)) = true := fun j => by
  unfold upd
  split
  · rw [vp_nar_byte]
    exact fits_b _
  · exact h j
/-- the four bytes as the class stores them -/
theorem upd4 {C : Nat → Int32} {c i : Nat} {x : Int32} (hc : c < 1073741000) (hi : i < c + 4) : upd (upd (upd (upd C (Int32.toNatClampNeg (nI c)) (vp_nar .byte (ush x 24).toInt8.toInt32)) (Int32.toNatClampNeg (nI (c + 1))) (vp_nar .byte (ush x 16).toInt8.toInt32)) (Int32.toNatClampNeg (nI (c + 2))) (vp_nar .byte (ush x 8).toInt8.toInt32)) (Int32.toNatClampNeg (nI (c + 3))) (vp_nar .byte x.toInt8.toInt32) i = wr4 C c x i := by
  rw [nI_toNat (by omega), nI_toNat (by omega), nI_toNat (by omega), nI_toNat (by omega), nar_b, nar_b, nar_b, nar_b]
  unfold upd wr4 wB
  by_cases h0 : i < c
  · rw [if_pos h0, if_neg (by omega), if_neg (by omega), if_neg (by omega), if_neg (by omega)]
  · rw [if_neg h0]
    by_cases h3 : i = c + 3
    · rw [if_pos h3, if_neg (by omega), if_neg (by omega), if_neg (by omega)]
    · rw [if_neg h3]
      by_cases h2 : i = c + 2
      · rw [if_pos h2, if_neg (by omega), if_neg (by omega), if_pos (by omega)]
      · rw [if_neg h2]
        by_cases h1 : i = c + 1
        · rw [if_pos h1, if_neg (by omega), if_pos (by omega)]
        · rw [if_neg h1, if_pos (by omega), if_pos (by omega)]
theorem wr4_cg {C C' : Nat → Int32} {c i : Nat} {x : Int32} (h : ∀ j, j < c → C' j = C j) : wr4 C' c x i = wr4 C c x i := by
  unfold wr4
  split
  · exact h i (by assumption)
  · rfl
theorem end_if {k m i : Nat} {a b : Int32} (h : k ≤ m) : (if i < k ∧ i < m then a else b) = if i < k then a else b := by
  by_cases h9 : i < k
  · rw [if_pos h9, if_pos (by omega)]
  · rw [if_neg h9, if_neg (by omega)]
end CPA
theorem dk_copyOf {g : xe_G} {M : mi_H} {m k cm : Nat} {C : Nat → Int32} (h_cm : M.1 cm = some (ar .byte m C)) (hfit : ∀ i, fits .byte (.int (C i)) = true) (hgl : g.1 < M.2.1) (hcg : cm ≠ g.1) (hk : k ≤ 134217728) (hm : m < 1073741824) (hne : ¬ k = m) (hcl : cm < M.2.1) : pt (mT g) 259 [.ref cm, .int (nI k)] M (fun v M' => (∃ (C2 : Nat → Int32), (∀ i, fits .byte (.int (C2 i)) = true) ∧ (∀ i, C2 i = if i < k ∧ i < m then C i else 0) ∧ v = some (.ref (M.2.1)) ∧ M'.1 M.2.1 = some (ar .byte k C2) ∧ gm [] M M' ∧ M'.2.1 = M.2.1 + 1)) := by
  have hk2 := nI_toNat (k := k) (by omega)
  have hkv : (nI k).toInt = k := nI_val (by omega)
  refine ((ct_copyX (d := 1) (x1 := nI k) h_cm hfit hcg (Nat.ne_of_gt hgl) (by rw [hkv]; omega) (by rw [hkv]; omega) hm (fun e => hne ((eq_nI (by omega) (by omega)).mp e)) hcl (Nat.le_refl _)).pt).im (fun v M' hq => ?_)
  obtain ⟨rfl, C2, ⟨hb, hc⟩, rfl⟩ := hq
  rw [hk2] at hc ⊢
  exact ⟨C2, hb, hc, rfl, mk1_at, ⟨fun z h1 _ => mk1_ne (Nat.ne_of_lt h1), Nat.le_succ _⟩, rfl⟩
set_option maxHeartbeats 1000000 in
theorem dk_takeWord {g : xe_G} {M : mi_H} {m cm o c fl : Nat} {C : Nat → Int32} {kv : Value} {wp : Int32} {x : Int32} (h_o : M.1 o = some (ob 11 [.ref cm, .int (nI c), .ref fl, kv, .int wp])) (h_cm : M.1 cm = some (ar .byte m C)) (hfit : ∀ i, fits .byte (.int (C i)) = true) (hgl : g.1 < M.2.1) (hcg : cm ≠ g.1) (hm : m ≤ 60000000) (hm4 : 4 ≤ m) (hc : c ≤ m) (ho : o < M.2.1) (hcl : cm < M.2.1) (hoc : ¬ o = cm) : pt (mT g) 20 [.ref o, .int x] M (fun v M' => (∃ (cm2 m2 : Nat) (C2 : Nat → Int32), (cm2 = cm ∨ M.2.1 ≤ cm2) ∧ (cm2 < M'.2.1) ∧ (c + 4 ≤ m2) ∧ (m2 = m ∨ m2 < 2 * (c + 4)) ∧ (4 ≤ m2) ∧ (∀ i, fits .byte (.int (C2 i)) = true) ∧ (∀ i, i < c + 4 → C2 i = wr4 C c x i) ∧ v = none ∧ M'.1 cm2 = some (ar .byte m2 C2) ∧ M'.1 o = some (ob 11 [.ref cm2, .int (nI (c + 4)), .ref fl, kv, .int wp]) ∧ gm [o, cm] M M' ∧ M.2.1 ≤ M'.2.1)) := by
  refine pt_in (b := mb_20 g) rfl (fun kf => ?_)
  show pl (mT g) kf (mb_20 g).2 (0, [(0, .ref o), (1, .int x)], [], M) _
  have hF : gm [o, cm] M M := gm.rf
  obtain ⟨z0, tp0⟩ : ∃ z0, M.2.1 = z0 := ⟨_, rfl⟩
  refine ps_st (S' := (1, [(0, .ref o), (1, .int x)], [.ref o], M)) rfl rfl rfl ?_
  refine ps_get (S' := (4, [(0, .ref o), (1, .int x)], [.ref cm], M)) rfl h_o rfl rfl ?_
  refine ps_alen (S' := (5, [(0, .ref o), (1, .int x)], [.int (nI m)], M)) rfl h_cm rfl ?_
  refine ps_st (S' := (6, [(0, .ref o), (1, .int x)], [.ref o, .int (nI m)], M)) rfl rfl rfl ?_
  refine ps_get (S' := (9, [(0, .ref o), (1, .int x)], [.int (nI c), .int (nI m)], M)) rfl h_o rfl rfl ?_
  refine ps_st (S' := (10, [(0, .ref o), (1, .int x)], [.int ((nI m) - (nI c))], M)) rfl rfl rfl ?_
  rw [nI_sub1 (p := m) (k := c) (x := (nI c)) rfl (by omega) (by omega)]
  show pl _ _ _ (_, [(0, .ref o), (1, .int x)], [.int (nI (m - c))], M) _
  refine ps_st (S' := (11, [(0, .ref o), (1, .int x)], [.int 4, .int (nI (m - c))], M)) rfl rfl rfl ?_
  refine ps_if2 (S1 := (32, [(0, .ref o), (1, .int x)], [], M)) (S2 := (14, [(0, .ref o), (1, .int x)], [], M)) rfl rfl rfl (fun c_11 => ?_) (fun c_11 => ?_)
  · have c_11 : 4 ≤ (nI (m - c)) := of_decide_eq_true c_11
    have n_11 : 4 ≤ m - c := (le_nI (p := 4) (n := m - c) (by decide) (by omega)).mp c_11
    refine ps_st (S' := (33, [(0, .ref o), (1, .int x)], [.ref o], M)) rfl rfl rfl ?_
    refine ps_get (S' := (36, [(0, .ref o), (1, .int x)], [.ref cm], M)) rfl h_o rfl rfl ?_
    refine ps_st (S' := (37, [(0, .ref o), (1, .int x)], [.ref o, .ref cm], M)) rfl rfl rfl ?_
    refine ps_get (S' := (40, [(0, .ref o), (1, .int x)], [.int (nI c), .ref cm], M)) rfl h_o rfl rfl ?_
    refine ps_st (S' := (41, [(0, .ref o), (1, .int x)], [.int x, .int (nI c), .ref cm], M)) rfl rfl rfl ?_
    refine ps_st (S' := (43, [(0, .ref o), (1, .int x)], [.int 24, .int x, .int (nI c), .ref cm], M)) rfl rfl rfl ?_
    refine ps_st (S' := (44, [(0, .ref o), (1, .int x)], [.int ((x.toUInt32 >>> ((24 : Int32).toUInt32 &&& Int32.toUInt32 31)).toInt32), .int (nI c), .ref cm], M)) rfl rfl rfl ?_
    refine ps_st (S' := (45, [(0, .ref o), (1, .int x)], [.int (((x.toUInt32 >>> ((24 : Int32).toUInt32 &&& Int32.toUInt32 31)).toInt32).toInt8.toInt32), .int (nI c), .ref cm], M)) rfl rfl rfl ?_
    refine ps_ast rfl h_cm (fun M1 i0_45 i1_45 h2 f3 z4 => ?_)
    have h5 := (f3 o (ob_ar h_o h_cm)).trans h_o
    have hF6 := hF.up (Or.inl (by simp)) f3 (by rw [z4]; exact Nat.le_refl _)
    have tp7 : M1.2.1 = z0 := by rw [z4]; exact tp0
    show pl _ _ _ (46, [(0, .ref o), (1, .int x)], [], M1) _
    refine ps_st (S' := (47, [(0, .ref o), (1, .int x)], [.ref o], M1)) rfl rfl rfl ?_
    refine ps_get (S' := (50, [(0, .ref o), (1, .int x)], [.ref cm], M1)) rfl h5 rfl rfl ?_
    refine ps_st (S' := (51, [(0, .ref o), (1, .int x)], [.ref o, .ref cm], M1)) rfl rfl rfl ?_
    refine ps_get (S' := (54, [(0, .ref o), (1, .int x)], [.int (nI c), .ref cm], M1)) rfl h5 rfl rfl ?_
    refine ps_st (S' := (55, [(0, .ref o), (1, .int x)], [.int 1, .int (nI c), .ref cm], M1)) rfl rfl rfl ?_
    refine ps_st (S' := (56, [(0, .ref o), (1, .int x)], [.int ((nI c) + 1), .ref cm], M1)) rfl rfl rfl ?_
    rw [nI_add1 (p := c) (k := 1) (x := 1) rfl (by omega)]
    show pl _ _ _ (_, [(0, .ref o), (1, .int x)], [.int (nI (c + 1)), .ref cm], M1) _
    refine ps_st (S' := (57, [(0, .ref o), (1, .int x)], [.int x, .int (nI (c + 1)), .ref cm], M1)) rfl rfl rfl ?_
    refine ps_st (S' := (59, [(0, .ref o), (1, .int x)], [.int 16, .int x, .int (nI (c + 1)), .ref cm], M1)) rfl rfl rfl ?_
    refine ps_st (S' := (60, [(0, .ref o), (1, .int x)], [.int ((x.toUInt32 >>> ((16 : Int32).toUInt32 &&& Int32.toUInt32 31)).toInt32), .int (nI (c + 1)), .ref cm], M1)) rfl rfl rfl ?_
    refine ps_st (S' := (61, [(0, .ref o), (1, .int x)], [.int (((x.toUInt32 >>> ((16 : Int32).toUInt32 &&& Int32.toUInt32 31)).toInt32).toInt8.toInt32), .int (nI (c + 1)), .ref cm], M1)) rfl rfl rfl ?_
    refine ps_ast rfl h2 (fun M8 i0_61 i1_61 h9 f10 z11 => ?_)
    have h12 := (f10 o (ob_ar h5 h2)).trans h5
    have hF13 := hF6.up (Or.inl (by simp)) f10 (by rw [z11]; exact Nat.le_refl _)
    have tp14 : M8.2.1 = z0 := by rw [z11]; exact tp7
    show pl _ _ _ (62, [(0, .ref o), (1, .int x)], [], M8) _
    refine ps_st (S' := (63, [(0, .ref o), (1, .int x)], [.ref o], M8)) rfl rfl rfl ?_
    refine ps_get (S' := (66, [(0, .ref o), (1, .int x)], [.ref cm], M8)) rfl h12 rfl rfl ?_
    refine ps_st (S' := (67, [(0, .ref o), (1, .int x)], [.ref o, .ref cm], M8)) rfl rfl rfl ?_
    refine ps_get (S' := (70, [(0, .ref o), (1, .int x)], [.int (nI c), .ref cm], M8)) rfl h12 rfl rfl ?_
    refine ps_st (S' := (71, [(0, .ref o), (1, .int x)], [.int 2, .int (nI c), .ref cm], M8)) rfl rfl rfl ?_
    refine ps_st (S' := (72, [(0, .ref o), (1, .int x)], [.int ((nI c) + 2), .ref cm], M8)) rfl rfl rfl ?_
    rw [nI_add1 (p := c) (k := 2) (x := 2) rfl (by omega)]
    show pl _ _ _ (_, [(0, .ref o), (1, .int x)], [.int (nI (c + 2)), .ref cm], M8) _
    refine ps_st (S' := (73, [(0, .ref o), (1, .int x)], [.int x, .int (nI (c + 2)), .ref cm], M8)) rfl rfl rfl ?_
    refine ps_st (S' := (75, [(0, .ref o), (1, .int x)], [.int 8, .int x, .int (nI (c + 2)), .ref cm], M8)) rfl rfl rfl ?_
    refine ps_st (S' := (76, [(0, .ref o), (1, .int x)], [.int ((x.toUInt32 >>> ((8 : Int32).toUInt32 &&& Int32.toUInt32 31)).toInt32), .int (nI (c + 2)), .ref cm], M8)) rfl rfl rfl ?_
    refine ps_st (S' := (77, [(0, .ref o), (1, .int x)], [.int (((x.toUInt32 >>> ((8 : Int32).toUInt32 &&& Int32.toUInt32 31)).toInt32).toInt8.toInt32), .int (nI (c + 2)), .ref cm], M8)) rfl rfl rfl ?_
    refine ps_ast rfl h9 (fun M15 i0_77 i1_77 h16 f17 z18 => ?_)
    have h19 := (f17 o (ob_ar h12 h9)).trans h12
    have hF20 := hF13.up (Or.inl (by simp)) f17 (by rw [z18]; exact Nat.le_refl _)
    have tp21 : M15.2.1 = z0 := by rw [z18]; exact tp14
    show pl _ _ _ (78, [(0, .ref o), (1, .int x)], [], M15) _
    refine ps_st (S' := (79, [(0, .ref o), (1, .int x)], [.ref o], M15)) rfl rfl rfl ?_
    refine ps_get (S' := (82, [(0, .ref o), (1, .int x)], [.ref cm], M15)) rfl h19 rfl rfl ?_
    refine ps_st (S' := (83, [(0, .ref o), (1, .int x)], [.ref o, .ref cm], M15)) rfl rfl rfl ?_
    refine ps_get (S' := (86, [(0, .ref o), (1, .int x)], [.int (nI c), .ref cm], M15)) rfl h19 rfl rfl ?_
    refine ps_st (S' := (87, [(0, .ref o), (1, .int x)], [.int 3, .int (nI c), .ref cm], M15)) rfl rfl rfl ?_
    refine ps_st (S' := (88, [(0, .ref o), (1, .int x)], [.int ((nI c) + 3), .ref cm], M15)) rfl rfl rfl ?_
    rw [nI_add1 (p := c) (k := 3) (x := 3) rfl (by omega)]
    show pl _ _ _ (_, [(0, .ref o), (1, .int x)], [.int (nI (c + 3)), .ref cm], M15) _
    refine ps_st (S' := (89, [(0, .ref o), (1, .int x)], [.int x, .int (nI (c + 3)), .ref cm], M15)) rfl rfl rfl ?_
    refine ps_st (S' := (90, [(0, .ref o), (1, .int x)], [.int (x.toInt8.toInt32), .int (nI (c + 3)), .ref cm], M15)) rfl rfl rfl ?_
    refine ps_ast rfl h16 (fun M22 i0_90 i1_90 h23 f24 z25 => ?_)
    have h26 := (f24 o (ob_ar h19 h16)).trans h19
    have hF27 := hF20.up (Or.inl (by simp)) f24 (by rw [z25]; exact Nat.le_refl _)
    have tp28 : M22.2.1 = z0 := by rw [z25]; exact tp21
    show pl _ _ _ (91, [(0, .ref o), (1, .int x)], [], M22) _
    refine ps_st (S' := (92, [(0, .ref o), (1, .int x)], [.ref o], M22)) rfl rfl rfl ?_
    refine ps_st (S' := (93, [(0, .ref o), (1, .int x)], [.ref o, .ref o], M22)) rfl rfl rfl ?_
    refine ps_get (S' := (96, [(0, .ref o), (1, .int x)], [.int (nI c), .ref o], M22)) rfl h26 rfl rfl ?_
    refine ps_st (S' := (97, [(0, .ref o), (1, .int x)], [.int 4, .int (nI c), .ref o], M22)) rfl rfl rfl ?_
    refine ps_st (S' := (98, [(0, .ref o), (1, .int x)], [.int ((nI c) + 4), .ref o], M22)) rfl rfl rfl ?_
    rw [nI_add1 (p := c) (k := 4) (x := 4) rfl (by omega)]
    show pl _ _ _ (_, [(0, .ref o), (1, .int x)], [.int (nI (c + 4)), .ref o], M22) _
    refine ps_put (l' := [.ref cm, .int (nI (c + 4)), .ref fl, kv, .int wp]) rfl h26 rfl rfl (fun M29 h30 f31 z32 => ?_)
    have h33 := (f31 cm (Ne.symm (ob_ar h26 h23))).trans h23
    have hF34 := hF27.up (Or.inl (by simp)) f31 (by rw [z32]; exact Nat.le_refl _)
    have tp35 : M29.2.1 = z0 := by rw [z32]; exact tp28
    show pl _ _ _ (101, [(0, .ref o), (1, .int x)], [], M29) _
    exact ps_ret rfl rfl (⟨cm, m, _, by omega, by omega, by omega, by omega, by omega, upd_b (upd_b (upd_b (upd_b hfit))), fun i hi => upd4 (by omega) hi, rfl, h33, h30, hF34, hF34.2⟩)
  · have c_11 : ¬ (4 ≤ (nI (m - c))) := of_decide_eq_false c_11
    have n_11 : ¬ (4 ≤ m - c) := fun h9 => c_11 ((le_nI (p := 4) (n := m - c) (by decide) (by omega)).mpr h9)
    refine ps_st (S' := (15, [(0, .ref o), (1, .int x)], [.ref o], M)) rfl rfl rfl ?_
    refine ps_st (S' := (16, [(0, .ref o), (1, .int x)], [.ref o, .ref o], M)) rfl rfl rfl ?_
    refine ps_get (S' := (19, [(0, .ref o), (1, .int x)], [.ref cm, .ref o], M)) rfl h_o rfl rfl ?_
    refine ps_st (S' := (20, [(0, .ref o), (1, .int x)], [.ref o, .ref cm, .ref o], M)) rfl rfl rfl ?_
    refine ps_get (S' := (23, [(0, .ref o), (1, .int x)], [.ref cm, .ref cm, .ref o], M)) rfl h_o rfl rfl ?_
    refine ps_alen (S' := (24, [(0, .ref o), (1, .int x)], [.int (nI m), .ref cm, .ref o], M)) rfl h_cm rfl ?_
    refine ps_st (S' := (25, [(0, .ref o), (1, .int x)], [.int 2, .int (nI m), .ref cm, .ref o], M)) rfl rfl rfl ?_
    refine ps_st (S' := (26, [(0, .ref o), (1, .int x)], [.int ((nI m) * 2), .ref cm, .ref o], M)) rfl rfl rfl ?_
    rw [nI_mul1 (p := m) (k := 2) (x := (nI m)) (y := 2) rfl rfl (by omega)]
    show pl _ _ _ (_, [(0, .ref o), (1, .int x)], [.int (nI (m * 2)), .ref cm, .ref o], M) _
    refine pl_call (a := [.ref cm, .int (nI (m * 2))]) (rest := [.ref o]) rfl rfl rfl (dk_copyOf (m := m) (k := (m * 2)) (cm := cm) (C := C) h_cm (hfit) (by omega) (hcg) (by omega) (by omega) (by omega) (by omega)) (fun v36 M37 q38 => ?_)
    obtain ⟨C239, q26_b, q26_c, rfl, h40, f41, tp42⟩ := q38
    rw [show Value.ref M.2.1 = Value.ref z0 from congrArg Value.ref tp0]
    rw [tp0] at h40 tp42
    have h43 := (f41.1 o (by omega) (by simp)).trans h_o
    have h44 := (f41.1 cm (by omega) (by simp)).trans h_cm
    have hF45 := hF.tr f41 (by intro z hz; simp only [List.mem_cons, List.not_mem_nil, or_false] at hz ⊢; try omega)
    show pl _ _ _ (29, [(0, .ref o), (1, .int x)], [.ref z0, .ref o], M37) _
    refine ps_put (l' := [.ref z0, .int (nI c), .ref fl, kv, .int wp]) rfl h43 rfl rfl (fun M46 h47 f48 z49 => ?_)
    have h50 := (f48 cm (Ne.symm (ob_ar h43 h44))).trans h44
    have h51 := (f48 z0 (show z0 ≠ o by omega)).trans h40
    have hF52 := hF45.up (Or.inl (by simp)) f48 (by rw [z49]; exact Nat.le_refl _)
    have tp53 : M46.2.1 = z0 + 1 := by rw [z49]; exact tp42
    show pl _ _ _ (32, [(0, .ref o), (1, .int x)], [], M46) _
    refine ps_st (S' := (33, [(0, .ref o), (1, .int x)], [.ref o], M46)) rfl rfl rfl ?_
    refine ps_get (S' := (36, [(0, .ref o), (1, .int x)], [.ref z0], M46)) rfl h47 rfl rfl ?_
    refine ps_st (S' := (37, [(0, .ref o), (1, .int x)], [.ref o, .ref z0], M46)) rfl rfl rfl ?_
    refine ps_get (S' := (40, [(0, .ref o), (1, .int x)], [.int (nI c), .ref z0], M46)) rfl h47 rfl rfl ?_
    refine ps_st (S' := (41, [(0, .ref o), (1, .int x)], [.int x, .int (nI c), .ref z0], M46)) rfl rfl rfl ?_
    refine ps_st (S' := (43, [(0, .ref o), (1, .int x)], [.int 24, .int x, .int (nI c), .ref z0], M46)) rfl rfl rfl ?_
    refine ps_st (S' := (44, [(0, .ref o), (1, .int x)], [.int ((x.toUInt32 >>> ((24 : Int32).toUInt32 &&& Int32.toUInt32 31)).toInt32), .int (nI c), .ref z0], M46)) rfl rfl rfl ?_
    refine ps_st (S' := (45, [(0, .ref o), (1, .int x)], [.int (((x.toUInt32 >>> ((24 : Int32).toUInt32 &&& Int32.toUInt32 31)).toInt32).toInt8.toInt32), .int (nI c), .ref z0], M46)) rfl rfl rfl ?_
    refine ps_ast rfl h51 (fun M54 i0_45 i1_45 h55 f56 z57 => ?_)
    have h58 := (f56 o (show o ≠ z0 by omega)).trans h47
    have h59 := (f56 cm (show cm ≠ z0 by omega)).trans h50
    have hF60 := hF52.up (Or.inr (by omega)) f56 (by rw [z57]; exact Nat.le_refl _)
    have tp61 : M54.2.1 = z0 + 1 := by rw [z57]; exact tp53
    show pl _ _ _ (46, [(0, .ref o), (1, .int x)], [], M54) _
    refine ps_st (S' := (47, [(0, .ref o), (1, .int x)], [.ref o], M54)) rfl rfl rfl ?_
    refine ps_get (S' := (50, [(0, .ref o), (1, .int x)], [.ref z0], M54)) rfl h58 rfl rfl ?_
    refine ps_st (S' := (51, [(0, .ref o), (1, .int x)], [.ref o, .ref z0], M54)) rfl rfl rfl ?_
    refine ps_get (S' := (54, [(0, .ref o), (1, .int x)], [.int (nI c), .ref z0], M54)) rfl h58 rfl rfl ?_
    refine ps_st (S' := (55, [(0, .ref o), (1, .int x)], [.int 1, .int (nI c), .ref z0], M54)) rfl rfl rfl ?_
    refine ps_st (S' := (56, [(0, .ref o), (1, .int x)], [.int ((nI c) + 1), .ref z0], M54)) rfl rfl rfl ?_
    rw [nI_add1 (p := c) (k := 1) (x := 1) rfl (by omega)]
    show pl _ _ _ (_, [(0, .ref o), (1, .int x)], [.int (nI (c + 1)), .ref z0], M54) _
    refine ps_st (S' := (57, [(0, .ref o), (1, .int x)], [.int x, .int (nI (c + 1)), .ref z0], M54)) rfl rfl rfl ?_
    refine ps_st (S' := (59, [(0, .ref o), (1, .int x)], [.int 16, .int x, .int (nI (c + 1)), .ref z0], M54)) rfl rfl rfl ?_
    refine ps_st (S' := (60, [(0, .ref o), (1, .int x)], [.int ((x.toUInt32 >>> ((16 : Int32).toUInt32 &&& Int32.toUInt32 31)).toInt32), .int (nI (c + 1)), .ref z0], M54)) rfl rfl rfl ?_
    refine ps_st (S' := (61, [(0, .ref o), (1, .int x)], [.int (((x.toUInt32 >>> ((16 : Int32).toUInt32 &&& Int32.toUInt32 31)).toInt32).toInt8.toInt32), .int (nI (c + 1)), .ref z0], M54)) rfl rfl rfl ?_
    refine ps_ast rfl h55 (fun M62 i0_61 i1_61 h63 f64 z65 => ?_)
    have h66 := (f64 o (show o ≠ z0 by omega)).trans h58
    have h67 := (f64 cm (show cm ≠ z0 by omega)).trans h59
    have hF68 := hF60.up (Or.inr (by omega)) f64 (by rw [z65]; exact Nat.le_refl _)
    have tp69 : M62.2.1 = z0 + 1 := by rw [z65]; exact tp61
    show pl _ _ _ (62, [(0, .ref o), (1, .int x)], [], M62) _
    refine ps_st (S' := (63, [(0, .ref o), (1, .int x)], [.ref o], M62)) rfl rfl rfl ?_
    refine ps_get (S' := (66, [(0, .ref o), (1, .int x)], [.ref z0], M62)) rfl h66 rfl rfl ?_
    refine ps_st (S' := (67, [(0, .ref o), (1, .int x)], [.ref o, .ref z0], M62)) rfl rfl rfl ?_
    refine ps_get (S' := (70, [(0, .ref o), (1, .int x)], [.int (nI c), .ref z0], M62)) rfl h66 rfl rfl ?_
    refine ps_st (S' := (71, [(0, .ref o), (1, .int x)], [.int 2, .int (nI c), .ref z0], M62)) rfl rfl rfl ?_
    refine ps_st (S' := (72, [(0, .ref o), (1, .int x)], [.int ((nI c) + 2), .ref z0], M62)) rfl rfl rfl ?_
    rw [nI_add1 (p := c) (k := 2) (x := 2) rfl (by omega)]
    show pl _ _ _ (_, [(0, .ref o), (1, .int x)], [.int (nI (c + 2)), .ref z0], M62) _
    refine ps_st (S' := (73, [(0, .ref o), (1, .int x)], [.int x, .int (nI (c + 2)), .ref z0], M62)) rfl rfl rfl ?_
    refine ps_st (S' := (75, [(0, .ref o), (1, .int x)], [.int 8, .int x, .int (nI (c + 2)), .ref z0], M62)) rfl rfl rfl ?_
    refine ps_st (S' := (76, [(0, .ref o), (1, .int x)], [.int ((x.toUInt32 >>> ((8 : Int32).toUInt32 &&& Int32.toUInt32 31)).toInt32), .int (nI (c + 2)), .ref z0], M62)) rfl rfl rfl ?_
    refine ps_st (S' := (77, [(0, .ref o), (1, .int x)], [.int (((x.toUInt32 >>> ((8 : Int32).toUInt32 &&& Int32.toUInt32 31)).toInt32).toInt8.toInt32), .int (nI (c + 2)), .ref z0], M62)) rfl rfl rfl ?_
    refine ps_ast rfl h63 (fun M70 i0_77 i1_77 h71 f72 z73 => ?_)
    have h74 := (f72 o (show o ≠ z0 by omega)).trans h66
    have h75 := (f72 cm (show cm ≠ z0 by omega)).trans h67
    have hF76 := hF68.up (Or.inr (by omega)) f72 (by rw [z73]; exact Nat.le_refl _)
    have tp77 : M70.2.1 = z0 + 1 := by rw [z73]; exact tp69
    show pl _ _ _ (78, [(0, .ref o), (1, .int x)], [], M70) _
    refine ps_st (S' := (79, [(0, .ref o), (1, .int x)], [.ref o], M70)) rfl rfl rfl ?_
    refine ps_get (S' := (82, [(0, .ref o), (1, .int x)], [.ref z0], M70)) rfl h74 rfl rfl ?_
    refine ps_st (S' := (83, [(0, .ref o), (1, .int x)], [.ref o, .ref z0], M70)) rfl rfl rfl ?_
    refine ps_get (S' := (86, [(0, .ref o), (1, .int x)], [.int (nI c), .ref z0], M70)) rfl h74 rfl rfl ?_
    refine ps_st (S' := (87, [(0, .ref o), (1, .int x)], [.int 3, .int (nI c), .ref z0], M70)) rfl rfl rfl ?_
    refine ps_st (S' := (88, [(0, .ref o), (1, .int x)], [.int ((nI c) + 3), .ref z0], M70)) rfl rfl rfl ?_
    rw [nI_add1 (p := c) (k := 3) (x := 3) rfl (by omega)]
    show pl _ _ _ (_, [(0, .ref o), (1, .int x)], [.int (nI (c + 3)), .ref z0], M70) _
    refine ps_st (S' := (89, [(0, .ref o), (1, .int x)], [.int x, .int (nI (c + 3)), .ref z0], M70)) rfl rfl rfl ?_
    refine ps_st (S' := (90, [(0, .ref o), (1, .int x)], [.int (x.toInt8.toInt32), .int (nI (c + 3)), .ref z0], M70)) rfl rfl rfl ?_
    refine ps_ast rfl h71 (fun M78 i0_90 i1_90 h79 f80 z81 => ?_)
    have h82 := (f80 o (show o ≠ z0 by omega)).trans h74
    have h83 := (f80 cm (show cm ≠ z0 by omega)).trans h75
    have hF84 := hF76.up (Or.inr (by omega)) f80 (by rw [z81]; exact Nat.le_refl _)
    have tp85 : M78.2.1 = z0 + 1 := by rw [z81]; exact tp77
    show pl _ _ _ (91, [(0, .ref o), (1, .int x)], [], M78) _
    refine ps_st (S' := (92, [(0, .ref o), (1, .int x)], [.ref o], M78)) rfl rfl rfl ?_
    refine ps_st (S' := (93, [(0, .ref o), (1, .int x)], [.ref o, .ref o], M78)) rfl rfl rfl ?_
    refine ps_get (S' := (96, [(0, .ref o), (1, .int x)], [.int (nI c), .ref o], M78)) rfl h82 rfl rfl ?_
    refine ps_st (S' := (97, [(0, .ref o), (1, .int x)], [.int 4, .int (nI c), .ref o], M78)) rfl rfl rfl ?_
    refine ps_st (S' := (98, [(0, .ref o), (1, .int x)], [.int ((nI c) + 4), .ref o], M78)) rfl rfl rfl ?_
    rw [nI_add1 (p := c) (k := 4) (x := 4) rfl (by omega)]
    show pl _ _ _ (_, [(0, .ref o), (1, .int x)], [.int (nI (c + 4)), .ref o], M78) _
    refine ps_put (l' := [.ref z0, .int (nI (c + 4)), .ref fl, kv, .int wp]) rfl h82 rfl rfl (fun M86 h87 f88 z89 => ?_)
    have h90 := (f88 cm (Ne.symm (ob_ar h82 h83))).trans h83
    have h91 := (f88 z0 (show z0 ≠ o by omega)).trans h79
    have hF92 := hF84.up (Or.inl (by simp)) f88 (by rw [z89]; exact Nat.le_refl _)
    have tp93 : M86.2.1 = z0 + 1 := by rw [z89]; exact tp85
    show pl _ _ _ (101, [(0, .ref o), (1, .int x)], [], M86) _
    exact ps_ret rfl rfl (⟨z0, (m * 2), _, by omega, by omega, by omega, by omega, by omega, upd_b (upd_b (upd_b (upd_b q26_b))), fun i hi => (upd4 (by omega) hi).trans (wr4_cg (fun j hj => by rw [q26_c j, if_pos (by omega)])), rfl, h91, h87, hF92, hF92.2⟩)
set_option maxHeartbeats 2000000 in
theorem dk_feed {g : xe_G} {M : mi_H} {m cm o c fl : Nat} {C : Nat → Int32} {kv : Value} {wp : Int32} {x1 x2 x3 x4 x5 : Int32} (h_o : M.1 o = some (ob 11 [.ref cm, .int (nI c), .ref fl, kv, .int wp])) (h_cm : M.1 cm = some (ar .byte m C)) (hfit : ∀ i, fits .byte (.int (C i)) = true) (hgl : g.1 < M.2.1) (hcg : cm ≠ g.1) (hm : m ≤ 1000000) (hm4 : 4 ≤ m) (hc : c ≤ m) (ho : o < M.2.1) (hcl : cm < M.2.1) (hoc : ¬ o = cm) (hc2 : c ≤ 65520) : pt (mT g) 9 [.ref o, .int x1, .int x2, .int x3, .int x4, .int x5] M (fun v M' => (∃ (cm2 m2 : Nat) (C2 : Nat → Int32), (cm2 = cm ∨ M.2.1 ≤ cm2) ∧ (cm2 < M'.2.1) ∧ (c + 20 ≤ m2) ∧ (m2 = m ∨ m2 < 2 * (c + 20)) ∧ (4 ≤ m2) ∧ (∀ i, fits .byte (.int (C2 i)) = true) ∧ (∀ i, i < c + 20 → C2 i = fdC C c x1 x2 x3 x4 x5 i) ∧ v = some (.int (nI (c + 20))) ∧ M'.1 cm2 = some (ar .byte m2 C2) ∧ M'.1 o = some (ob 11 [.ref cm2, .int (nI (c + 20)), .ref fl, kv, .int wp]) ∧ gm [o, cm] M M' ∧ M.2.1 ≤ M'.2.1)) := by
  refine pt_in (b := mb_9 g) rfl (fun kf => ?_)
  show pl (mT g) kf (mb_9 g).2 (0, [(0, .ref o), (1, .int x1), (2, .int x2), (3, .int x3), (4, .int x4), (5, .int x5)], [], M) _
  have hF : gm [o, cm] M M := gm.rf
  obtain ⟨z0, tp0⟩ : ∃ z0, M.2.1 = z0 := ⟨_, rfl⟩
  refine ps_st (S' := (1, [(0, .ref o), (1, .int x1), (2, .int x2), (3, .int x3), (4, .int x4), (5, .int x5)], [.ref o], M)) rfl rfl rfl ?_
  refine ps_get (S' := (4, [(0, .ref o), (1, .int x1), (2, .int x2), (3, .int x3), (4, .int x4), (5, .int x5)], [.int (nI c)], M)) rfl h_o rfl rfl ?_
  refine ps_st (S' := (6, [(0, .ref o), (1, .int x1), (2, .int x2), (3, .int x3), (4, .int x4), (5, .int x5)], [.int 65520, .int (nI c)], M)) rfl rfl rfl ?_
  refine ps_if2 (S1 := (19, [(0, .ref o), (1, .int x1), (2, .int x2), (3, .int x3), (4, .int x4), (5, .int x5)], [], M)) (S2 := (9, [(0, .ref o), (1, .int x1), (2, .int x2), (3, .int x3), (4, .int x4), (5, .int x5)], [], M)) rfl rfl rfl (fun c_6 => ?_) (fun c_6 => ?_)
  · have c_6 : (nI c) ≤ 65520 := of_decide_eq_true c_6
    have n_6 : c ≤ 65520 := (le_nI (p := c) (n := 65520) (by omega) (by decide)).mp c_6
    refine ps_st (S' := (20, [(0, .ref o), (1, .int x1), (2, .int x2), (3, .int x3), (4, .int x4), (5, .int x5)], [.ref o], M)) rfl rfl rfl ?_
    refine ps_st (S' := (21, [(0, .ref o), (1, .int x1), (2, .int x2), (3, .int x3), (4, .int x4), (5, .int x5)], [.int x1, .ref o], M)) rfl rfl rfl ?_
    refine pl_call (a := [.ref o, .int x1]) (rest := []) rfl rfl rfl (dk_takeWord (m := m) (cm := cm) (o := o) (c := c) (fl := fl) (C := C) (kv := kv) (wp := wp) (x := x1) h_o h_cm (hfit) (by omega) (by omega) (by omega) (by omega) (by omega) (by omega) (by omega) (by omega)) (fun v1 M2 q3 => ?_)
    obtain ⟨cm24, m25, C26, q21_a, q21_l, q21_m, q21_n, q21_f, q21_b, q21_c, rfl, h7, h8, f9, tp10⟩ := q3
    obtain ⟨t12, tp13⟩ : ∃ t9, M2.2.1 = t9 := ⟨_, rfl⟩
    rw [tp0, tp13] at tp10
    have hF11 := hF.tr f9 (by intro z hz; simp only [List.mem_cons, List.not_mem_nil, or_false] at hz ⊢; try omega)
    show pl _ _ _ (24, [(0, .ref o), (1, .int x1), (2, .int x2), (3, .int x3), (4, .int x4), (5, .int x5)], [], M2) _
    refine ps_st (S' := (25, [(0, .ref o), (1, .int x1), (2, .int x2), (3, .int x3), (4, .int x4), (5, .int x5)], [.ref o], M2)) rfl rfl rfl ?_
    refine ps_st (S' := (26, [(0, .ref o), (1, .int x1), (2, .int x2), (3, .int x3), (4, .int x4), (5, .int x5)], [.int x2, .ref o], M2)) rfl rfl rfl ?_
    refine pl_call (a := [.ref o, .int x2]) (rest := []) rfl rfl rfl (dk_takeWord (m := m25) (cm := cm24) (o := o) (c := (c + 4)) (fl := fl) (C := C26) (kv := kv) (wp := wp) (x := x2) h8 h7 (q21_b) (by omega) (by omega) (by omega) (by omega) (by omega) (by omega) (by omega) (by omega)) (fun v14 M15 q16 => ?_)
    obtain ⟨cm217, m218, C219, q26_a, q26_l, q26_m, q26_n, q26_f, q26_b, q26_c, rfl, h20, h21, f22, tp23⟩ := q16
    obtain ⟨t25, tp26⟩ : ∃ t9, M15.2.1 = t9 := ⟨_, rfl⟩
    rw [tp13, tp26] at tp23
    have hF24 := hF11.tr f22 (by intro z hz; simp only [List.mem_cons, List.not_mem_nil, or_false] at hz ⊢; try omega)
    show pl _ _ _ (29, [(0, .ref o), (1, .int x1), (2, .int x2), (3, .int x3), (4, .int x4), (5, .int x5)], [], M15) _
    refine ps_st (S' := (30, [(0, .ref o), (1, .int x1), (2, .int x2), (3, .int x3), (4, .int x4), (5, .int x5)], [.ref o], M15)) rfl rfl rfl ?_
    refine ps_st (S' := (31, [(0, .ref o), (1, .int x1), (2, .int x2), (3, .int x3), (4, .int x4), (5, .int x5)], [.int x3, .ref o], M15)) rfl rfl rfl ?_
    refine pl_call (a := [.ref o, .int x3]) (rest := []) rfl rfl rfl (dk_takeWord (m := m218) (cm := cm217) (o := o) (c := (c + 8)) (fl := fl) (C := C219) (kv := kv) (wp := wp) (x := x3) h21 h20 (q26_b) (by omega) (by omega) (by omega) (by omega) (by omega) (by omega) (by omega) (by omega)) (fun v27 M28 q29 => ?_)
    obtain ⟨cm230, m231, C232, q31_a, q31_l, q31_m, q31_n, q31_f, q31_b, q31_c, rfl, h33, h34, f35, tp36⟩ := q29
    obtain ⟨t38, tp39⟩ : ∃ t9, M28.2.1 = t9 := ⟨_, rfl⟩
    rw [tp26, tp39] at tp36
    have hF37 := hF24.tr f35 (by intro z hz; simp only [List.mem_cons, List.not_mem_nil, or_false] at hz ⊢; try omega)
    show pl _ _ _ (34, [(0, .ref o), (1, .int x1), (2, .int x2), (3, .int x3), (4, .int x4), (5, .int x5)], [], M28) _
    refine ps_st (S' := (35, [(0, .ref o), (1, .int x1), (2, .int x2), (3, .int x3), (4, .int x4), (5, .int x5)], [.ref o], M28)) rfl rfl rfl ?_
    refine ps_st (S' := (37, [(0, .ref o), (1, .int x1), (2, .int x2), (3, .int x3), (4, .int x4), (5, .int x5)], [.int x4, .ref o], M28)) rfl rfl rfl ?_
    refine pl_call (a := [.ref o, .int x4]) (rest := []) rfl rfl rfl (dk_takeWord (m := m231) (cm := cm230) (o := o) (c := (c + 12)) (fl := fl) (C := C232) (kv := kv) (wp := wp) (x := x4) h34 h33 (q31_b) (by omega) (by omega) (by omega) (by omega) (by omega) (by omega) (by omega) (by omega)) (fun v40 M41 q42 => ?_)
    obtain ⟨cm243, m244, C245, q37_a, q37_l, q37_m, q37_n, q37_f, q37_b, q37_c, rfl, h46, h47, f48, tp49⟩ := q42
    obtain ⟨t51, tp52⟩ : ∃ t9, M41.2.1 = t9 := ⟨_, rfl⟩
    rw [tp39, tp52] at tp49
    have hF50 := hF37.tr f48 (by intro z hz; simp only [List.mem_cons, List.not_mem_nil, or_false] at hz ⊢; try omega)
    show pl _ _ _ (40, [(0, .ref o), (1, .int x1), (2, .int x2), (3, .int x3), (4, .int x4), (5, .int x5)], [], M41) _
    refine ps_st (S' := (41, [(0, .ref o), (1, .int x1), (2, .int x2), (3, .int x3), (4, .int x4), (5, .int x5)], [.ref o], M41)) rfl rfl rfl ?_
    refine ps_st (S' := (43, [(0, .ref o), (1, .int x1), (2, .int x2), (3, .int x3), (4, .int x4), (5, .int x5)], [.int x5, .ref o], M41)) rfl rfl rfl ?_
    refine pl_call (a := [.ref o, .int x5]) (rest := []) rfl rfl rfl (dk_takeWord (m := m244) (cm := cm243) (o := o) (c := (c + 16)) (fl := fl) (C := C245) (kv := kv) (wp := wp) (x := x5) h47 h46 (q37_b) (by omega) (by omega) (by omega) (by omega) (by omega) (by omega) (by omega) (by omega)) (fun v53 M54 q55 => ?_)
    obtain ⟨cm256, m257, C258, q43_a, q43_l, q43_m, q43_n, q43_f, q43_b, q43_c, rfl, h59, h60, f61, tp62⟩ := q55
    obtain ⟨t64, tp65⟩ : ∃ t9, M54.2.1 = t9 := ⟨_, rfl⟩
    rw [tp52, tp65] at tp62
    have hF63 := hF50.tr f61 (by intro z hz; simp only [List.mem_cons, List.not_mem_nil, or_false] at hz ⊢; try omega)
    show pl _ _ _ (46, [(0, .ref o), (1, .int x1), (2, .int x2), (3, .int x3), (4, .int x4), (5, .int x5)], [], M54) _
    refine ps_st (S' := (47, [(0, .ref o), (1, .int x1), (2, .int x2), (3, .int x3), (4, .int x4), (5, .int x5)], [.ref o], M54)) rfl rfl rfl ?_
    refine ps_get (S' := (50, [(0, .ref o), (1, .int x1), (2, .int x2), (3, .int x3), (4, .int x4), (5, .int x5)], [.int (nI (c + 20))], M54)) rfl h60 rfl rfl ?_
    exact ps_reti rfl (⟨cm256, m257, _, by omega, by omega, by omega, by omega, by omega, q43_b, fun i hi => (q43_c i hi).trans (wr4_cg (fun j hj => (q37_c j hj).trans (wr4_cg (fun j hj => (q31_c j hj).trans (wr4_cg (fun j hj => (q26_c j hj).trans (wr4_cg (fun j hj => q21_c j hj)))))))), rfl, h59, h60, hF63, hF63.2⟩)
  · have c_6 : ¬ ((nI c) ≤ 65520) := of_decide_eq_false c_6
    have n_6 : ¬ (c ≤ 65520) := fun h9 => c_6 ((le_nI (p := c) (n := 65520) (by omega) (by decide)).mpr h9)
    exact absurd hc2 (by omega)
set_option maxHeartbeats 2000000 in
theorem dk_end {g : xe_G} {M : mi_H} {m cm o c fl k : Nat} {C : Nat → Int32} {kv : Value} {wp : Int32} (h_o : M.1 o = some (ob 11 [.ref cm, .int (nI c), .ref fl, kv, .int wp])) (h_cm : M.1 cm = some (ar .byte m C)) (hfit : ∀ i, fits .byte (.int (C i)) = true) (hgl : g.1 < M.2.1) (hcg : cm ≠ g.1) (hm : m ≤ 1000000) (hk : k ≤ c) (hcm : c < m) (ho : o < M.2.1) (hcl : cm < M.2.1) (hoc : ¬ o = cm) : pt (mT g) 7 [.ref o, .int (nI k)] M (fun v M' => (∃ (F2 : Nat → Int32), (∀ i, fits .byte (.int (F2 i)) = true) ∧ (∀ i, F2 i = if i < k then C i else 0) ∧ v = some (.int (nI k)) ∧ M'.1 M.2.1 = some (ar .byte k F2) ∧ M'.1 o = some (ob 11 [.ref cm, .int (nI 0), .ref (M.2.1), kv, .int wp]) ∧ gm [o] M M' ∧ M'.2.1 = M.2.1 + 1)) := by
  refine pt_in (b := mb_7 g) rfl (fun kf => ?_)
  show pl (mT g) kf (mb_7 g).2 (0, [(0, .ref o), (1, .int (nI k))], [], M) _
  have hF : gm [o] M M := gm.rf
  obtain ⟨z0, tp0⟩ : ∃ z0, M.2.1 = z0 := ⟨_, rfl⟩
  refine ps_st (S' := (1, [(0, .ref o), (1, .int (nI k))], [.int (nI k)], M)) rfl rfl rfl ?_
  refine ps_if (S1 := (12, [(0, .ref o), (1, .int (nI k))], [], M)) (S2 := (4, [(0, .ref o), (1, .int (nI k))], [], M)) rfl rfl rfl (fun c_1 => ?_) (fun c_1 => ?_)
  · exact absurd (of_decide_eq_true c_1) (show ¬ ((nI k) < 0) from fun h9 => absurd ((lt_nI (p := k) (n := 0) (by omega) (by decide)).mp h9) (by omega))
  refine ps_st (S' := (5, [(0, .ref o), (1, .int (nI k))], [.int (nI k)], M)) rfl rfl rfl ?_
  refine ps_st (S' := (6, [(0, .ref o), (1, .int (nI k))], [.ref o, .int (nI k)], M)) rfl rfl rfl ?_
  refine ps_get (S' := (9, [(0, .ref o), (1, .int (nI k))], [.int (nI c), .int (nI k)], M)) rfl h_o rfl rfl ?_
  refine ps_if2 (S1 := (22, [(0, .ref o), (1, .int (nI k))], [], M)) (S2 := (12, [(0, .ref o), (1, .int (nI k))], [], M)) rfl rfl rfl (fun c_9 => ?_) (fun c_9 => ?_)
  · have c_9 : (nI k) ≤ (nI c) := of_decide_eq_true c_9
    have n_9 : k ≤ c := (le_nI (p := k) (n := c) (by omega) (by omega)).mp c_9
    refine ps_st (S' := (23, [(0, .ref o), (1, .int (nI k))], [.ref o], M)) rfl rfl rfl ?_
    refine ps_st (S' := (24, [(0, .ref o), (1, .int (nI k))], [.ref o, .ref o], M)) rfl rfl rfl ?_
    refine ps_get (S' := (27, [(0, .ref o), (1, .int (nI k))], [.ref cm, .ref o], M)) rfl h_o rfl rfl ?_
    refine ps_st (S' := (28, [(0, .ref o), (1, .int (nI k))], [.int (nI k), .ref cm, .ref o], M)) rfl rfl rfl ?_
    refine pl_call (a := [.ref cm, .int (nI k)]) (rest := [.ref o]) rfl rfl rfl (dk_copyOf (m := m) (k := k) (cm := cm) (C := C) h_cm (hfit) (by omega) (hcg) (by omega) (by omega) (by omega) (by omega)) (fun v1 M2 q3 => ?_)
    obtain ⟨C24, q28_b, q28_c, rfl, h5, f6, tp7⟩ := q3
    rw [show Value.ref M.2.1 = Value.ref z0 from congrArg Value.ref tp0]
    rw [tp0] at h5 tp7
    have h8 := (f6.1 o (by omega) (by simp)).trans h_o
    have h9 := (f6.1 cm (by omega) (by simp)).trans h_cm
    have hF10 := hF.tr f6 (by intro z hz; simp only [List.mem_cons, List.not_mem_nil, or_false] at hz ⊢; try omega)
    show pl _ _ _ (31, [(0, .ref o), (1, .int (nI k))], [.ref z0, .ref o], M2) _
    refine ps_put (l' := [.ref cm, .int (nI c), .ref z0, kv, .int wp]) rfl h8 rfl rfl (fun M11 h12 f13 z14 => ?_)
    have h15 := (f13 cm (Ne.symm (ob_ar h8 h9))).trans h9
    have h16 := (f13 z0 (show z0 ≠ o by omega)).trans h5
    have hF17 := hF10.up (Or.inl (by simp)) f13 (by rw [z14]; exact Nat.le_refl _)
    have tp18 : M11.2.1 = z0 + 1 := by rw [z14]; exact tp7
    show pl _ _ _ (34, [(0, .ref o), (1, .int (nI k))], [], M11) _
    refine ps_st (S' := (35, [(0, .ref o), (1, .int (nI k))], [.ref o], M11)) rfl rfl rfl ?_
    refine ps_st (S' := (36, [(0, .ref o), (1, .int (nI k))], [.int 0, .ref o], M11)) rfl rfl rfl ?_
    refine ps_put (l' := [.ref cm, .int 0, .ref z0, kv, .int wp]) rfl h12 rfl rfl (fun M19 h20 f21 z22 => ?_)
    have h23 := (f21 cm (Ne.symm (ob_ar h12 h15))).trans h15
    have h24 := (f21 z0 (show z0 ≠ o by omega)).trans h16
    have hF25 := hF17.up (Or.inl (by simp)) f21 (by rw [z22]; exact Nat.le_refl _)
    have tp26 : M19.2.1 = z0 + 1 := by rw [z22]; exact tp18
    show pl _ _ _ (39, [(0, .ref o), (1, .int (nI k))], [], M19) _
    refine ps_st (S' := (40, [(0, .ref o), (1, .int (nI k))], [.int (nI k)], M19)) rfl rfl rfl ?_
    exact ps_reti rfl (⟨_, q28_b, fun i => (q28_c i).trans (end_if (by omega)), rfl, by rw [tp0]; exact h24, h20, hF25, by rw [tp0]; exact tp26⟩)
  · have c_9 : ¬ ((nI k) ≤ (nI c)) := of_decide_eq_false c_9
    have n_9 : ¬ (k ≤ c) := fun h9 => c_9 ((le_nI (p := k) (n := c) (by omega) (by omega)).mpr h9)
    exact absurd hk (by omega)
set_option maxHeartbeats 1000000 in
theorem dk_place {g : xe_G} {M : mi_H} {cm o fl : Nat} {nc : Int32} {kv : Value} {wp : Int32} (h_o : M.1 o = some (ob 11 [.ref cm, .int nc, .ref fl, kv, .int wp]))  : pt (mT g) 16 [.ref o] M (fun v M' => (v = some (.int wp) ∧ M = M')) := by
  refine pt_in (b := mb_16 g) rfl (fun kf => ?_)
  show pl (mT g) kf (mb_16 g).2 (0, [(0, .ref o)], [], M) _
  refine ps_st (S' := (1, [(0, .ref o)], [.ref o], M)) rfl rfl rfl ?_
  refine ps_get (S' := (4, [(0, .ref o)], [.int wp], M)) rfl h_o rfl rfl ?_
  exact ps_reti rfl (⟨rfl, rfl⟩)
end
section
/-! what a run leaves as it was (laid by wip/p4/fr.py) -/
section FRA
/-- cells stay, but for objects of the classes W -/
def frC (W : List Nat) (M M' : mi_H) : Prop := (∀ z, z < M.2.1 → (∀ o, M.1 z = some (.inr o) → o.1 ∉ W) → M'.1 z = M.1 z) ∧ M.2.1 ≤ M'.2.1
theorem frC.rf {W : List Nat} {M : mi_H} : frC W M M := ⟨fun _ _ _ => rfl, Nat.le_refl _⟩
theorem frC.tr {W : List Nat} {M M1 M2 : mi_H} (h : frC W M M1) (h' : frC W M1 M2) : frC W M M2 :=
  ⟨fun z hz ho => by
    have e := h.1 z hz ho
    exact (h'.1 z (Nat.lt_of_lt_of_le hz h.2) (fun o h9 => ho o (by rw [← e]; exact h9))).trans e, Nat.le_trans h.2 h'.2⟩
theorem frC.wide {W W' : List Nat} {M M' : mi_H} (h : frC W M M') (hs : ∀ k, k ∈ W → k ∈ W') : frC W' M M' := ⟨fun z hz ho => h.1 z hz (fun o h9 q => ho o h9 (hs _ q)), h.2⟩
theorem frC.obj {W : List Nat} {M M' : mi_H} {a ci : Nat} {l : List Value} (h : frC W M M') (hl : a < M.2.1) (ha : M.1 a = some (ob ci l)) (hc : ci ∉ W) : M'.1 a = some (ob ci l) :=
  (h.1 a hl (fun o h9 => by rw [ha] at h9; cases h9; exact hc)).trans ha
theorem frC.row {W : List Nat} {M M' : mi_H} {a : Nat} {r : FieldType × Nat × (Nat → Option Value)} (h : frC W M M') (hl : a < M.2.1) (ha : M.1 a = some (.inl r)) : M'.1 a = some (.inl r) :=
  (h.1 a hl (fun o h9 => by rw [ha] at h9; cases h9)).trans ha
def frO (W : List Nat) (o : mi_O) : Prop := ∀ pc lv st M S', o (pc, lv, st, M) = some S' → frC W M S'.2.2.2
def frP (W L : List Nat) : Nat → mi_N → Prop := fun _ e => match e with
  | .inl o => frO W o
  | .inr (.inl c) => L.elem c.1 = true
  | .inr (.inr _) => True
variable {W L : List Nat}
theorem nk_heap {kl : Nat → Option (List Nat)} {S : mi_S} : (mi_nk kl S).2.2.2 = S.2.2.2 := by
  unfold mi_nk
  split <;> rfl
theorem fr_loop {tb : mi_B} {call : Nat → List Value → mi_H → Option mi_R} (hb : mt_all (frP W L) tb.1) (hc : ∀ y a M r, L.elem y = true → call y a M = some r → frC W M r.2) : ∀ n S r, mi_loop tb call n S = some r → frC W S.2.2.2 r.2 := by
  intro n
  induction n with
  | zero => intro S r h; cases h
  | succ n ih =>
    intro S r h
    unfold mi_loop at h
    cases he : tb.1 S.1 with
    | none => rw [he] at h; cases h
    | some e =>
      rw [he] at h
      have hp := hb S.1 e he
      rcases e with o | c | f
      · dsimp only at h
        obtain ⟨pc, lv, st, M⟩ := S
        cases ho : o (pc, lv, st, M) with
        | none => rw [ho] at h; cases h
        | some S' =>
          rw [ho] at h
          have h1 := hp pc lv st M S' ho
          have h2 := ih _ _ h
          rw [nk_heap] at h2
          exact h1.tr h2
      · dsimp only at h
        split at h
        · cases hr : call c.1 (S.2.2.1.take c.2.1).reverse S.2.2.2 with
          | none => rw [hr] at h; cases h
          | some r1 =>
            rw [hr] at h
            have h1 := hc _ _ _ _ hp hr
            have h2 := ih _ _ h
            rw [nk_heap] at h2
            exact h1.tr h2
        · cases h
      · dsimp only at h
        cases hf : f S.2.2.1 with
        | none => rw [hf] at h; cases h
        | some v => rw [hf] at h; cases h; exact frC.rf
theorem fr_run {T : Nat → Option (Nat × mi_B)} {X : Nat → Prop} (hT : ∀ y b, L.elem y = true → ¬ X y → T y = some b → mt_all (frP W L) b.2.1) (hX : ∀ n d y a M r, X y → mi_run T n d y a M = some r → frC W M r.2) (n : Nat) : ∀ d y a M r, L.elem y = true → mi_run T n d y a M = some r → frC W M r.2 := by
  intro d
  induction d with
  | zero => intro y a M r _ h; cases h
  | succ d ih =>
    intro y a M r hy h
    by_cases hx : X y
    · exact hX _ _ _ _ _ _ hx h
    · unfold mi_run at h
      cases hb : T y with
      | none => rw [hb] at h; cases h
      | some b =>
        rw [hb] at h
        dsimp only at h
        split at h
        · exact fr_loop (hT y b hy hx hb) (fun y a M r hy hr => ih y a M r hy hr) n _ r h
        · cases h

theorem fr_ald {ty : FieldType} : frO W (o_ald ty) := by
  intro pc lv st M S' h
  unfold o_ald at h
  dsimp only at h
  repeat' split at h
  all_goals first | (cases h; done) | (cases h; exact frC.rf)
theorem fr_alen {ty : FieldType} : frO W (o_alen ty) := by
  intro pc lv st M S' h
  unfold o_alen at h
  dsimp only at h
  repeat' split at h
  all_goals first | (cases h; done) | (cases h; exact frC.rf)
theorem fr_aload {i n : Nat} : frO W (o_aload i n) := by
  intro pc lv st M S' h
  unfold o_aload at h
  dsimp only at h
  repeat' split at h
  all_goals first | (cases h; done) | (cases h; exact frC.rf)
theorem fr_asto {i n : Nat} : frO W (o_asto i n) := by
  intro pc lv st M S' h
  unfold o_asto at h
  dsimp only at h
  repeat' split at h
  all_goals first | (cases h; done) | (cases h; exact frC.rf)
theorem fr_bin {f : Int32 → Int32 → Int32} {n : Nat} : frO W (o_bin f n) := by
  intro pc lv st M S' h
  unfold o_bin at h
  dsimp only at h
  repeat' split at h
  all_goals first | (cases h; done) | (cases h; exact frC.rf)
theorem fr_binL {f : Int64 → Int64 → Int64} : frO W (o_binL f) := by
  intro pc lv st M S' h
  unfold o_binL at h
  dsimp only at h
  repeat' split at h
  all_goals first | (cases h; done) | (cases h; exact frC.rf)
theorem fr_div {f : Int32 → Int32 → Int32} : frO W (o_div f) := by
  intro pc lv st M S' h
  unfold o_div at h
  dsimp only at h
  repeat' split at h
  all_goals first | (cases h; done) | (cases h; exact frC.rf)
theorem fr_get {ci k : Nat} : frO W (o_get ci k) := by
  intro pc lv st M S' h
  unfold o_get at h
  dsimp only at h
  repeat' split at h
  all_goals first | (cases h; done) | (cases h; exact frC.rf)
theorem fr_goto {t : Nat} : frO W (o_goto t) := by
  intro pc lv st M S' h
  unfold o_goto at h
  dsimp only at h
  repeat' split at h
  all_goals first | (cases h; done) | (cases h; exact frC.rf)
theorem fr_i2l  : frO W (o_i2l ) := by
  intro pc lv st M S' h
  unfold o_i2l at h
  dsimp only at h
  repeat' split at h
  all_goals first | (cases h; done) | (cases h; exact frC.rf)
theorem fr_if {f : Int32 → Bool} {t : Nat} : frO W (o_if f t) := by
  intro pc lv st M S' h
  unfold o_if at h
  dsimp only at h
  repeat' split at h
  all_goals first | (cases h; done) | (cases h; exact frC.rf)
theorem fr_if2 {f : Int32 → Int32 → Bool} {t : Nat} : frO W (o_if2 f t) := by
  intro pc lv st M S' h
  unfold o_if2 at h
  dsimp only at h
  repeat' split at h
  all_goals first | (cases h; done) | (cases h; exact frC.rf)
theorem fr_iinc {i : Nat} {n : Int32} : frO W (o_iinc i n) := by
  intro pc lv st M S' h
  unfold o_iinc at h
  dsimp only at h
  repeat' split at h
  all_goals first | (cases h; done) | (cases h; exact frC.rf)
theorem fr_iload {i n : Nat} : frO W (o_iload i n) := by
  intro pc lv st M S' h
  unfold o_iload at h
  dsimp only at h
  repeat' split at h
  all_goals first | (cases h; done) | (cases h; exact frC.rf)
theorem fr_isto {i n : Nat} : frO W (o_isto i n) := by
  intro pc lv st M S' h
  unfold o_isto at h
  dsimp only at h
  repeat' split at h
  all_goals first | (cases h; done) | (cases h; exact frC.rf)
theorem fr_l2i  : frO W (o_l2i ) := by
  intro pc lv st M S' h
  unfold o_l2i at h
  dsimp only at h
  repeat' split at h
  all_goals first | (cases h; done) | (cases h; exact frC.rf)
theorem fr_lcmp  : frO W (o_lcmp ) := by
  intro pc lv st M S' h
  unfold o_lcmp at h
  dsimp only at h
  repeat' split at h
  all_goals first | (cases h; done) | (cases h; exact frC.rf)
theorem fr_lload {i n : Nat} : frO W (o_lload i n) := by
  intro pc lv st M S' h
  unfold o_lload at h
  dsimp only at h
  repeat' split at h
  all_goals first | (cases h; done) | (cases h; exact frC.rf)
theorem fr_lsto {i n : Nat} : frO W (o_lsto i n) := by
  intro pc lv st M S' h
  unfold o_lsto at h
  dsimp only at h
  repeat' split at h
  all_goals first | (cases h; done) | (cases h; exact frC.rf)
theorem fr_null {a b : Nat} : frO W (o_null a b) := by
  intro pc lv st M S' h
  unfold o_null at h
  dsimp only at h
  repeat' split at h
  all_goals first | (cases h; done) | (cases h; exact frC.rf)
theorem fr_push {v : Value} {n : Nat} : frO W (o_push v n) := by
  intro pc lv st M S' h
  unfold o_push at h
  dsimp only at h
  repeat' split at h
  all_goals first | (cases h; done) | (cases h; exact frC.rf)
theorem fr_put {ci k : Nat} {ty : FieldType} (hw : ci ∈ W) : frO W (o_put ci k ty) := by
  intro pc lv st M S' h
  unfold o_put at h
  dsimp only at h
  split at h
  · rename_i v a st'
    cases hc : M.1 a with
    | none => rw [hc] at h; cases h
    | some c =>
      rw [hc] at h
      cases c with
      | inl r => cases h
      | inr o =>
        dsimp only at h
        split at h
        · rename_i hq
          cases h
          refine ⟨fun z hz hn => ?_, Nat.le_refl _⟩
          show va_up M.1 a _ z = M.1 z
          rw [va_up, if_neg]
          intro e
          subst e
          exact hn _ hc (by rw [hq.1]; exact hw)
        · cases h
  · cases h
theorem fr_scharAt  : frO W (o_scharAt ) := by
  intro pc lv st M S' h
  unfold o_scharAt at h
  dsimp only at h
  repeat' split at h
  all_goals first | (cases h; done) | (cases h; exact frC.rf)
theorem fr_slength  : frO W (o_slength ) := by
  intro pc lv st M S' h
  unfold o_slength at h
  dsimp only at h
  repeat' split at h
  all_goals first | (cases h; done) | (cases h; exact frC.rf)
theorem fr_sw {ps : List (Int × Nat)} {dt : Nat} : frO W (o_sw ps dt) := by
  intro pc lv st M S' h
  unfold o_sw at h
  dsimp only at h
  repeat' split at h
  all_goals first | (cases h; done) | (cases h; exact frC.rf)
theorem fr_un {f : Int32 → Int32} : frO W (o_un f) := by
  intro pc lv st M S' h
  unfold o_un at h
  dsimp only at h
  repeat' split at h
  all_goals first | (cases h; done) | (cases h; exact frC.rf)
def fzS : List Nat := [48, 49, 50, 75, 77, 78, 79, 81, 82, 85, 87, 88, 90, 91, 92, 93, 94, 95, 96, 97, 98, 99, 100, 101, 102, 103, 104, 105, 112, 113, 115, 116, 117, 122, 123, 128, 129, 131, 134, 138, 140, 141]
theorem fz_48_0 {g : xe_G} : mt_all (frP [5] fzS) (mb_48_0 g) := mt_node_ok (mt_node_ok (mt_node_ok (mt_node_ok (mt_leaf_ok (fr_iload)) (mt_leaf_ok (fr_if))) (mt_node_ok (mt_leaf_ok (fr_iload)) (mt_leaf_ok (fr_aload)))) (mt_node_ok (mt_node_ok (mt_leaf_ok (fr_get)) (mt_leaf_ok (fr_alen))) (mt_node_ok (mt_leaf_ok (fr_if2)) (mt_leaf_ok (fr_push))))) (mt_node_ok (mt_node_ok (mt_node_ok (mt_leaf_ok (fr_goto)) (mt_leaf_ok (fr_aload))) (mt_node_ok (mt_leaf_ok (fr_get)) (mt_leaf_ok (fr_iload)))) (mt_node_ok (mt_node_ok (mt_leaf_ok (fr_ald)) (mt_leaf_ok (fr_push))) (mt_node_ok (mt_leaf_ok (fr_bin)) (mt_leaf_ok (trivial)))))
theorem fz_48 {g : xe_G} : mt_all (frP [5] fzS) (mb_48 g).2.1 := (fz_48_0 (g := g))
theorem fz_49_0 {g : xe_G} : mt_all (frP [5] fzS) (mb_49_0 g) := mt_node_ok (mt_node_ok (mt_node_ok (mt_node_ok (mt_leaf_ok (fr_iload)) (mt_node_ok (mt_leaf_ok (fr_if)) (mt_leaf_ok (fr_iload)))) (mt_node_ok (mt_node_ok (mt_leaf_ok (fr_aload)) (mt_leaf_ok (fr_get))) (mt_node_ok (mt_leaf_ok (fr_alen)) (mt_leaf_ok (fr_push))))) (mt_node_ok (mt_node_ok (mt_leaf_ok (fr_bin)) (mt_node_ok (mt_leaf_ok (fr_if2)) (mt_leaf_ok (fr_push)))) (mt_node_ok (mt_node_ok (mt_leaf_ok (trivial)) (mt_leaf_ok (fr_aload))) (mt_node_ok (mt_leaf_ok (fr_get)) (mt_leaf_ok (fr_iload)))))) (mt_node_ok (mt_node_ok (mt_node_ok (mt_leaf_ok (fr_ald)) (mt_node_ok (mt_leaf_ok (fr_push)) (mt_leaf_ok (fr_bin)))) (mt_node_ok (mt_node_ok (mt_leaf_ok (fr_push)) (mt_leaf_ok (fr_bin))) (mt_node_ok (mt_leaf_ok (fr_aload)) (mt_leaf_ok (fr_get))))) (mt_node_ok (mt_node_ok (mt_node_ok (mt_leaf_ok (fr_iload)) (mt_leaf_ok (fr_push))) (mt_node_ok (mt_leaf_ok (fr_bin)) (mt_leaf_ok (fr_ald)))) (mt_node_ok (mt_node_ok (mt_leaf_ok (fr_push)) (mt_leaf_ok (fr_bin))) (mt_node_ok (mt_leaf_ok (fr_bin)) (mt_leaf_ok (trivial))))))
theorem fz_49 {g : xe_G} : mt_all (frP [5] fzS) (mb_49 g).2.1 := (fz_49_0 (g := g))
theorem fz_50_0 {g : xe_G} : mt_all (frP [5] fzS) (mb_50_0 g) := mt_node_ok (mt_node_ok (mt_node_ok (mt_node_ok (mt_node_ok (mt_leaf_ok (fr_iload)) (mt_node_ok (mt_leaf_ok (fr_if)) (mt_leaf_ok (fr_iload)))) (mt_node_ok (mt_leaf_ok (fr_aload)) (mt_node_ok (mt_leaf_ok (fr_get)) (mt_leaf_ok (fr_alen))))) (mt_node_ok (mt_node_ok (mt_leaf_ok (fr_push)) (mt_node_ok (mt_leaf_ok (fr_bin)) (mt_leaf_ok (fr_if2)))) (mt_node_ok (mt_leaf_ok (fr_push)) (mt_node_ok (mt_leaf_ok (trivial)) (mt_leaf_ok (fr_aload)))))) (mt_node_ok (mt_node_ok (mt_node_ok (mt_leaf_ok (fr_get)) (mt_node_ok (mt_leaf_ok (fr_iload)) (mt_leaf_ok (fr_ald)))) (mt_node_ok (mt_leaf_ok (fr_push)) (mt_node_ok (mt_leaf_ok (fr_bin)) (mt_leaf_ok (fr_aload))))) (mt_node_ok (mt_node_ok (mt_leaf_ok (fr_get)) (mt_node_ok (mt_leaf_ok (fr_iload)) (mt_leaf_ok (fr_push)))) (mt_node_ok (mt_leaf_ok (fr_bin)) (mt_node_ok (mt_leaf_ok (fr_ald)) (mt_leaf_ok (fr_push))))))) (mt_node_ok (mt_node_ok (mt_node_ok (mt_node_ok (mt_leaf_ok (fr_bin)) (mt_node_ok (mt_leaf_ok (fr_push)) (mt_leaf_ok (fr_bin)))) (mt_node_ok (mt_leaf_ok (fr_bin)) (mt_node_ok (mt_leaf_ok (fr_aload)) (mt_leaf_ok (fr_get))))) (mt_node_ok (mt_node_ok (mt_leaf_ok (fr_iload)) (mt_node_ok (mt_leaf_ok (fr_push)) (mt_leaf_ok (fr_bin)))) (mt_node_ok (mt_leaf_ok (fr_ald)) (mt_node_ok (mt_leaf_ok (fr_push)) (mt_leaf_ok (fr_bin)))))) (mt_node_ok (mt_node_ok (mt_node_ok (mt_leaf_ok (fr_push)) (mt_node_ok (mt_leaf_ok (fr_bin)) (mt_leaf_ok (fr_bin)))) (mt_node_ok (mt_leaf_ok (fr_aload)) (mt_node_ok (mt_leaf_ok (fr_get)) (mt_leaf_ok (fr_iload))))) (mt_node_ok (mt_node_ok (mt_leaf_ok (fr_push)) (mt_node_ok (mt_leaf_ok (fr_bin)) (mt_leaf_ok (fr_ald)))) (mt_node_ok (mt_leaf_ok (fr_push)) (mt_node_ok (mt_leaf_ok (fr_bin)) (mt_leaf_ok (fr_bin)))))))
theorem fz_50_1 {g : xe_G} : mt_all (frP [5] fzS) (mb_50_1 g) := mt_leaf_ok (trivial)
theorem fz_50 {g : xe_G} : mt_all (frP [5] fzS) (mb_50 g).2.1 := mt_node_ok ((fz_50_0 (g := g))) ((fz_50_1 (g := g)))
theorem fz_75_0 {g : xe_G} : mt_all (frP [5] fzS) (mb_75_0 g) := mt_node_ok (mt_node_ok (mt_node_ok (mt_node_ok (mt_node_ok (mt_leaf_ok (fr_aload)) (mt_node_ok (mt_leaf_ok (fr_get)) (mt_leaf_ok (fr_get)))) (mt_node_ok (mt_leaf_ok (fr_sw)) (mt_node_ok (mt_leaf_ok (fr_iload)) (mt_leaf_ok (fr_push))))) (mt_node_ok (mt_node_ok (mt_leaf_ok (fr_if2)) (mt_node_ok (mt_leaf_ok (fr_aload)) (mt_leaf_ok (fr_get)))) (mt_node_ok (mt_leaf_ok (fr_aload)) (mt_node_ok (mt_leaf_ok (fr_get)) (mt_leaf_ok (fr_get)))))) (mt_node_ok (mt_node_ok (mt_node_ok (mt_leaf_ok (rfl)) (mt_node_ok (mt_leaf_ok (fr_if)) (mt_leaf_ok (fr_push)))) (mt_node_ok (mt_leaf_ok (fr_goto)) (mt_node_ok (mt_leaf_ok (fr_push)) (mt_leaf_ok (trivial))))) (mt_node_ok (mt_node_ok (mt_leaf_ok (fr_aload)) (mt_node_ok (mt_leaf_ok (fr_iload)) (mt_leaf_ok (rfl)))) (mt_node_ok (mt_leaf_ok (trivial)) (mt_node_ok (mt_leaf_ok (fr_aload)) (mt_leaf_ok (fr_iload))))))) (mt_node_ok (mt_node_ok (mt_node_ok (mt_node_ok (mt_leaf_ok (rfl)) (mt_node_ok (mt_leaf_ok (fr_if)) (mt_leaf_ok (fr_aload)))) (mt_node_ok (mt_leaf_ok (fr_get)) (mt_node_ok (mt_leaf_ok (fr_aload)) (mt_leaf_ok (fr_get))))) (mt_node_ok (mt_node_ok (mt_leaf_ok (fr_get)) (mt_node_ok (mt_leaf_ok (rfl)) (mt_leaf_ok (fr_if)))) (mt_node_ok (mt_leaf_ok (fr_push)) (mt_node_ok (mt_leaf_ok (fr_goto)) (mt_leaf_ok (fr_push)))))) (mt_node_ok (mt_node_ok (mt_node_ok (mt_leaf_ok (trivial)) (mt_node_ok (mt_leaf_ok (fr_iload)) (mt_leaf_ok (fr_push)))) (mt_node_ok (mt_leaf_ok (fr_if2)) (mt_node_ok (mt_leaf_ok (fr_aload)) (mt_leaf_ok (fr_get))))) (mt_node_ok (mt_node_ok (mt_leaf_ok (fr_get)) (mt_node_ok (mt_leaf_ok (fr_aload)) (mt_leaf_ok (fr_get)))) (mt_node_ok (mt_leaf_ok (fr_aload)) (mt_node_ok (mt_leaf_ok (fr_get)) (mt_leaf_ok (fr_aload)))))))
theorem fz_75_1 {g : xe_G} : mt_all (frP [5] fzS) (mb_75_1 g) := mt_node_ok (mt_node_ok (mt_node_ok (mt_node_ok (mt_leaf_ok (fr_get)) (mt_leaf_ok (fr_get))) (mt_node_ok (mt_leaf_ok (rfl)) (mt_node_ok (mt_leaf_ok (rfl)) (mt_leaf_ok (fr_push))))) (mt_node_ok (mt_node_ok (mt_leaf_ok (fr_bin)) (mt_leaf_ok (fr_if2))) (mt_node_ok (mt_leaf_ok (fr_push)) (mt_node_ok (mt_leaf_ok (fr_goto)) (mt_leaf_ok (fr_push)))))) (mt_node_ok (mt_node_ok (mt_node_ok (mt_leaf_ok (trivial)) (mt_leaf_ok (fr_iload))) (mt_node_ok (mt_leaf_ok (fr_push)) (mt_node_ok (mt_leaf_ok (fr_if2)) (mt_leaf_ok (fr_push))))) (mt_node_ok (mt_node_ok (mt_leaf_ok (fr_goto)) (mt_leaf_ok (fr_push))) (mt_node_ok (mt_leaf_ok (trivial)) (mt_node_ok (mt_leaf_ok (fr_push)) (mt_leaf_ok (trivial))))))
theorem fz_75 {g : xe_G} : mt_all (frP [5] fzS) (mb_75 g).2.1 := mt_node_ok ((fz_75_0 (g := g))) ((fz_75_1 (g := g)))
theorem fz_77_0 {g : xe_G} : mt_all (frP [5] fzS) (mb_77_0 g) := mt_node_ok (mt_node_ok (mt_node_ok (mt_node_ok (mt_node_ok (mt_leaf_ok (fr_iload)) (mt_leaf_ok (fr_sw))) (mt_node_ok (mt_leaf_ok (fr_push)) (mt_node_ok (mt_leaf_ok (trivial)) (mt_leaf_ok (fr_aload))))) (mt_node_ok (mt_node_ok (mt_leaf_ok (fr_get)) (mt_leaf_ok (fr_push))) (mt_node_ok (mt_leaf_ok (fr_if2)) (mt_node_ok (mt_leaf_ok (fr_push)) (mt_leaf_ok (fr_goto)))))) (mt_node_ok (mt_node_ok (mt_node_ok (mt_leaf_ok (fr_push)) (mt_leaf_ok (trivial))) (mt_node_ok (mt_leaf_ok (fr_aload)) (mt_node_ok (mt_leaf_ok (fr_get)) (mt_leaf_ok (fr_push))))) (mt_node_ok (mt_node_ok (mt_leaf_ok (fr_if2)) (mt_leaf_ok (fr_push))) (mt_node_ok (mt_leaf_ok (fr_goto)) (mt_node_ok (mt_leaf_ok (fr_push)) (mt_leaf_ok (trivial))))))) (mt_node_ok (mt_node_ok (mt_node_ok (mt_node_ok (mt_leaf_ok (fr_aload)) (mt_leaf_ok (fr_get))) (mt_node_ok (mt_leaf_ok (fr_push)) (mt_node_ok (mt_leaf_ok (fr_if2)) (mt_leaf_ok (fr_aload))))) (mt_node_ok (mt_node_ok (mt_leaf_ok (fr_get)) (mt_leaf_ok (fr_aload))) (mt_node_ok (mt_leaf_ok (fr_get)) (mt_node_ok (mt_leaf_ok (fr_aload)) (mt_leaf_ok (fr_get)))))) (mt_node_ok (mt_node_ok (mt_node_ok (mt_leaf_ok (fr_get)) (mt_leaf_ok (rfl))) (mt_node_ok (mt_leaf_ok (rfl)) (mt_node_ok (mt_leaf_ok (fr_push)) (mt_leaf_ok (fr_if2))))) (mt_node_ok (mt_node_ok (mt_leaf_ok (fr_push)) (mt_node_ok (mt_leaf_ok (fr_goto)) (mt_leaf_ok (fr_push)))) (mt_node_ok (mt_leaf_ok (trivial)) (mt_node_ok (mt_leaf_ok (fr_push)) (mt_leaf_ok (trivial)))))))
theorem fz_77 {g : xe_G} : mt_all (frP [5] fzS) (mb_77 g).2.1 := (fz_77_0 (g := g))
theorem fz_78_0 {g : xe_G} : mt_all (frP [5] fzS) (mb_78_0 g) := mt_node_ok (mt_node_ok (mt_node_ok (mt_leaf_ok (fr_iload)) (mt_node_ok (mt_leaf_ok (fr_push)) (mt_leaf_ok (fr_if2)))) (mt_node_ok (mt_node_ok (mt_leaf_ok (fr_iload)) (mt_leaf_ok (fr_push))) (mt_node_ok (mt_leaf_ok (fr_if2)) (mt_leaf_ok (fr_aload))))) (mt_node_ok (mt_node_ok (mt_leaf_ok (fr_get)) (mt_node_ok (mt_leaf_ok (fr_push)) (mt_leaf_ok (fr_if2)))) (mt_node_ok (mt_node_ok (mt_leaf_ok (fr_push)) (mt_leaf_ok (fr_goto))) (mt_node_ok (mt_leaf_ok (fr_push)) (mt_leaf_ok (trivial)))))
theorem fz_78 {g : xe_G} : mt_all (frP [5] fzS) (mb_78 g).2.1 := (fz_78_0 (g := g))
theorem fz_79_0 {g : xe_G} : mt_all (frP [5] fzS) (mb_79_0 g) := mt_node_ok (mt_node_ok (mt_node_ok (mt_node_ok (mt_leaf_ok (fr_iload)) (mt_node_ok (mt_leaf_ok (fr_push)) (mt_leaf_ok (fr_if2)))) (mt_node_ok (mt_leaf_ok (fr_iload)) (mt_node_ok (mt_leaf_ok (fr_push)) (mt_leaf_ok (fr_if2))))) (mt_node_ok (mt_node_ok (mt_leaf_ok (fr_iload)) (mt_node_ok (mt_leaf_ok (fr_push)) (mt_leaf_ok (fr_if2)))) (mt_node_ok (mt_leaf_ok (fr_aload)) (mt_node_ok (mt_leaf_ok (fr_get)) (mt_leaf_ok (fr_aload)))))) (mt_node_ok (mt_node_ok (mt_node_ok (mt_leaf_ok (fr_get)) (mt_node_ok (mt_leaf_ok (fr_aload)) (mt_leaf_ok (fr_get)))) (mt_node_ok (mt_leaf_ok (fr_get)) (mt_node_ok (mt_leaf_ok (rfl)) (mt_leaf_ok (rfl))))) (mt_node_ok (mt_node_ok (mt_leaf_ok (fr_push)) (mt_node_ok (mt_leaf_ok (fr_if2)) (mt_leaf_ok (fr_push)))) (mt_node_ok (mt_leaf_ok (fr_goto)) (mt_node_ok (mt_leaf_ok (fr_push)) (mt_leaf_ok (trivial))))))
theorem fz_79 {g : xe_G} : mt_all (frP [5] fzS) (mb_79 g).2.1 := (fz_79_0 (g := g))
theorem fz_81_0 {g : xe_G} : mt_all (frP [5] fzS) (mb_81_0 g) := mt_node_ok (mt_node_ok (mt_node_ok (mt_node_ok (mt_leaf_ok (fr_aload)) (mt_node_ok (mt_leaf_ok (fr_get)) (mt_leaf_ok (fr_null)))) (mt_node_ok (mt_leaf_ok (fr_lload)) (mt_node_ok (mt_leaf_ok (fr_push)) (mt_leaf_ok (fr_lcmp))))) (mt_node_ok (mt_node_ok (mt_leaf_ok (fr_if)) (mt_node_ok (mt_leaf_ok (fr_lload)) (mt_leaf_ok (fr_aload)))) (mt_node_ok (mt_leaf_ok (fr_get)) (mt_node_ok (mt_leaf_ok (fr_alen)) (mt_leaf_ok (fr_i2l)))))) (mt_node_ok (mt_node_ok (mt_node_ok (mt_leaf_ok (fr_lcmp)) (mt_node_ok (mt_leaf_ok (fr_if)) (mt_leaf_ok (fr_push)))) (mt_node_ok (mt_leaf_ok (fr_goto)) (mt_node_ok (mt_leaf_ok (fr_aload)) (mt_leaf_ok (fr_get))))) (mt_node_ok (mt_node_ok (mt_leaf_ok (fr_lload)) (mt_node_ok (mt_leaf_ok (fr_l2i)) (mt_leaf_ok (fr_ald)))) (mt_node_ok (mt_leaf_ok (fr_push)) (mt_node_ok (mt_leaf_ok (fr_bin)) (mt_leaf_ok (trivial))))))
theorem fz_81 {g : xe_G} : mt_all (frP [5] fzS) (mb_81 g).2.1 := (fz_81_0 (g := g))
theorem fz_82_0 {g : xe_G} : mt_all (frP [5] fzS) (mb_82_0 g) := mt_node_ok (mt_node_ok (mt_node_ok (mt_node_ok (mt_node_ok (mt_leaf_ok (fr_aload)) (mt_node_ok (mt_leaf_ok (fr_get)) (mt_leaf_ok (fr_get)))) (mt_node_ok (mt_leaf_ok (fr_if)) (mt_node_ok (mt_leaf_ok (fr_aload)) (mt_leaf_ok (fr_get))))) (mt_node_ok (mt_node_ok (mt_leaf_ok (fr_get)) (mt_node_ok (mt_leaf_ok (fr_push)) (mt_leaf_ok (fr_if2)))) (mt_node_ok (mt_leaf_ok (fr_aload)) (mt_node_ok (mt_leaf_ok (fr_get)) (mt_leaf_ok (fr_push)))))) (mt_node_ok (mt_node_ok (mt_node_ok (mt_leaf_ok (fr_if2)) (mt_node_ok (mt_leaf_ok (fr_push)) (mt_leaf_ok (fr_goto)))) (mt_node_ok (mt_leaf_ok (fr_push)) (mt_node_ok (mt_leaf_ok (fr_isto)) (mt_leaf_ok (fr_iload))))) (mt_node_ok (mt_node_ok (mt_leaf_ok (fr_if)) (mt_node_ok (mt_leaf_ok (fr_aload)) (mt_leaf_ok (fr_get)))) (mt_node_ok (mt_leaf_ok (fr_get)) (mt_node_ok (mt_leaf_ok (fr_aload)) (mt_leaf_ok (fr_get))))))) (mt_node_ok (mt_node_ok (mt_node_ok (mt_node_ok (mt_leaf_ok (fr_get)) (mt_node_ok (mt_leaf_ok (fr_bin)) (mt_leaf_ok (fr_aload)))) (mt_node_ok (mt_leaf_ok (fr_get)) (mt_node_ok (mt_leaf_ok (fr_if2)) (mt_leaf_ok (fr_push))))) (mt_node_ok (mt_node_ok (mt_leaf_ok (fr_goto)) (mt_node_ok (mt_leaf_ok (fr_push)) (mt_leaf_ok (trivial)))) (mt_node_ok (mt_leaf_ok (fr_aload)) (mt_node_ok (mt_leaf_ok (fr_get)) (mt_leaf_ok (fr_get)))))) (mt_node_ok (mt_node_ok (mt_node_ok (mt_leaf_ok (fr_sw)) (mt_node_ok (mt_leaf_ok (fr_aload)) (mt_leaf_ok (fr_get)))) (mt_node_ok (mt_leaf_ok (fr_push)) (mt_node_ok (mt_leaf_ok (fr_if2)) (mt_leaf_ok (fr_push))))) (mt_node_ok (mt_node_ok (mt_leaf_ok (fr_goto)) (mt_node_ok (mt_leaf_ok (fr_push)) (mt_leaf_ok (trivial)))) (mt_node_ok (mt_leaf_ok (fr_aload)) (mt_node_ok (mt_leaf_ok (fr_get)) (mt_leaf_ok (fr_get)))))))
theorem fz_82_1 {g : xe_G} : mt_all (frP [5] fzS) (mb_82_1 g) := mt_node_ok (mt_node_ok (mt_node_ok (mt_node_ok (mt_node_ok (mt_leaf_ok (fr_push)) (mt_node_ok (mt_leaf_ok (fr_if2)) (mt_leaf_ok (fr_aload)))) (mt_node_ok (mt_leaf_ok (fr_get)) (mt_node_ok (mt_leaf_ok (fr_get)) (mt_leaf_ok (fr_push))))) (mt_node_ok (mt_node_ok (mt_leaf_ok (fr_if2)) (mt_node_ok (mt_leaf_ok (fr_push)) (mt_leaf_ok (fr_goto)))) (mt_node_ok (mt_leaf_ok (fr_push)) (mt_node_ok (mt_leaf_ok (trivial)) (mt_leaf_ok (fr_aload)))))) (mt_node_ok (mt_node_ok (mt_node_ok (mt_leaf_ok (fr_aload)) (mt_node_ok (mt_leaf_ok (fr_get)) (mt_leaf_ok (fr_aload)))) (mt_node_ok (mt_leaf_ok (fr_get)) (mt_node_ok (mt_leaf_ok (fr_get)) (mt_leaf_ok (rfl))))) (mt_node_ok (mt_node_ok (mt_leaf_ok (rfl)) (mt_node_ok (mt_leaf_ok (trivial)) (mt_leaf_ok (fr_aload)))) (mt_node_ok (mt_leaf_ok (fr_aload)) (mt_node_ok (mt_leaf_ok (fr_get)) (mt_leaf_ok (fr_aload))))))) (mt_node_ok (mt_node_ok (mt_node_ok (mt_node_ok (mt_leaf_ok (fr_get)) (mt_node_ok (mt_leaf_ok (fr_get)) (mt_leaf_ok (rfl)))) (mt_node_ok (mt_leaf_ok (rfl)) (mt_node_ok (mt_leaf_ok (trivial)) (mt_leaf_ok (fr_aload))))) (mt_node_ok (mt_node_ok (mt_leaf_ok (fr_get)) (mt_node_ok (mt_leaf_ok (fr_aload)) (mt_leaf_ok (fr_get)))) (mt_node_ok (mt_leaf_ok (fr_get)) (mt_node_ok (mt_leaf_ok (rfl)) (mt_leaf_ok (fr_push)))))) (mt_node_ok (mt_node_ok (mt_node_ok (mt_leaf_ok (fr_if2)) (mt_node_ok (mt_leaf_ok (fr_push)) (mt_leaf_ok (fr_goto)))) (mt_node_ok (mt_leaf_ok (fr_push)) (mt_node_ok (mt_leaf_ok (trivial)) (mt_leaf_ok (fr_aload))))) (mt_node_ok (mt_node_ok (mt_leaf_ok (fr_get)) (mt_node_ok (mt_leaf_ok (fr_aload)) (mt_leaf_ok (fr_get)))) (mt_node_ok (mt_leaf_ok (fr_get)) (mt_node_ok (mt_leaf_ok (rfl)) (mt_leaf_ok (trivial)))))))
theorem fz_82_2 {g : xe_G} : mt_all (frP [5] fzS) (mb_82_2 g) := mt_node_ok (mt_node_ok (mt_node_ok (mt_node_ok (mt_node_ok (mt_leaf_ok (fr_aload)) (mt_node_ok (mt_leaf_ok (fr_get)) (mt_leaf_ok (fr_aload)))) (mt_node_ok (mt_leaf_ok (fr_get)) (mt_node_ok (mt_leaf_ok (fr_get)) (mt_leaf_ok (rfl))))) (mt_node_ok (mt_node_ok (mt_leaf_ok (fr_push)) (mt_node_ok (mt_leaf_ok (fr_if2)) (mt_leaf_ok (fr_aload)))) (mt_node_ok (mt_leaf_ok (fr_get)) (mt_node_ok (mt_leaf_ok (fr_aload)) (mt_leaf_ok (fr_get)))))) (mt_node_ok (mt_node_ok (mt_node_ok (mt_leaf_ok (fr_get)) (mt_node_ok (mt_leaf_ok (rfl)) (mt_leaf_ok (fr_push)))) (mt_node_ok (mt_leaf_ok (fr_if2)) (mt_node_ok (mt_leaf_ok (fr_push)) (mt_leaf_ok (fr_goto))))) (mt_node_ok (mt_node_ok (mt_leaf_ok (fr_push)) (mt_node_ok (mt_leaf_ok (trivial)) (mt_leaf_ok (fr_aload)))) (mt_node_ok (mt_leaf_ok (fr_get)) (mt_node_ok (mt_leaf_ok (fr_aload)) (mt_leaf_ok (fr_get))))))) (mt_node_ok (mt_node_ok (mt_node_ok (mt_node_ok (mt_leaf_ok (fr_get)) (mt_node_ok (mt_leaf_ok (rfl)) (mt_leaf_ok (fr_push)))) (mt_node_ok (mt_leaf_ok (fr_if2)) (mt_node_ok (mt_leaf_ok (fr_push)) (mt_leaf_ok (fr_goto))))) (mt_node_ok (mt_node_ok (mt_leaf_ok (fr_push)) (mt_node_ok (mt_leaf_ok (trivial)) (mt_leaf_ok (fr_aload)))) (mt_node_ok (mt_leaf_ok (fr_get)) (mt_node_ok (mt_leaf_ok (fr_aload)) (mt_leaf_ok (fr_get)))))) (mt_node_ok (mt_node_ok (mt_node_ok (mt_leaf_ok (fr_get)) (mt_node_ok (mt_leaf_ok (rfl)) (mt_leaf_ok (fr_push)))) (mt_node_ok (mt_leaf_ok (fr_if2)) (mt_node_ok (mt_leaf_ok (fr_aload)) (mt_leaf_ok (fr_get))))) (mt_node_ok (mt_node_ok (mt_leaf_ok (fr_get)) (mt_node_ok (mt_leaf_ok (fr_push)) (mt_leaf_ok (fr_if2)))) (mt_node_ok (mt_leaf_ok (fr_aload)) (mt_node_ok (mt_leaf_ok (fr_get)) (mt_leaf_ok (fr_get)))))))
theorem fz_82_3 {g : xe_G} : mt_all (frP [5] fzS) (mb_82_3 g) := mt_node_ok (mt_node_ok (mt_node_ok (mt_node_ok (mt_leaf_ok (fr_aload)) (mt_leaf_ok (fr_get))) (mt_node_ok (mt_leaf_ok (fr_aload)) (mt_node_ok (mt_leaf_ok (fr_get)) (mt_leaf_ok (fr_get))))) (mt_node_ok (mt_node_ok (mt_leaf_ok (rfl)) (mt_leaf_ok (fr_if2))) (mt_node_ok (mt_leaf_ok (fr_push)) (mt_node_ok (mt_leaf_ok (fr_goto)) (mt_leaf_ok (fr_push)))))) (mt_node_ok (mt_node_ok (mt_node_ok (mt_leaf_ok (trivial)) (mt_leaf_ok (fr_aload))) (mt_node_ok (mt_leaf_ok (fr_aload)) (mt_node_ok (mt_leaf_ok (fr_get)) (mt_leaf_ok (fr_aload))))) (mt_node_ok (mt_node_ok (mt_leaf_ok (fr_get)) (mt_leaf_ok (fr_get))) (mt_node_ok (mt_leaf_ok (rfl)) (mt_node_ok (mt_leaf_ok (rfl)) (mt_leaf_ok (trivial))))))
theorem fz_82 {g : xe_G} : mt_all (frP [5] fzS) (mb_82 g).2.1 := mt_node_ok (mt_node_ok ((fz_82_0 (g := g))) ((fz_82_1 (g := g)))) (mt_node_ok ((fz_82_2 (g := g))) ((fz_82_3 (g := g))))
theorem fz_85_0 {g : xe_G} : mt_all (frP [5] fzS) (mb_85_0 g) := mt_node_ok (mt_node_ok (mt_node_ok (mt_node_ok (mt_leaf_ok (fr_push)) (mt_leaf_ok (fr_isto))) (mt_node_ok (mt_leaf_ok (fr_iload)) (mt_node_ok (mt_leaf_ok (fr_aload)) (mt_leaf_ok (fr_get))))) (mt_node_ok (mt_node_ok (mt_leaf_ok (fr_get)) (mt_leaf_ok (fr_if2))) (mt_node_ok (mt_leaf_ok (fr_aload)) (mt_node_ok (mt_leaf_ok (fr_aload)) (mt_leaf_ok (fr_get)))))) (mt_node_ok (mt_node_ok (mt_node_ok (mt_leaf_ok (fr_iload)) (mt_leaf_ok (rfl))) (mt_node_ok (mt_leaf_ok (rfl)) (mt_node_ok (mt_leaf_ok (fr_if)) (mt_leaf_ok (fr_push))))) (mt_node_ok (mt_node_ok (mt_leaf_ok (trivial)) (mt_leaf_ok (fr_iinc))) (mt_node_ok (mt_leaf_ok (fr_goto)) (mt_node_ok (mt_leaf_ok (fr_push)) (mt_leaf_ok (trivial))))))
theorem fz_85 {g : xe_G} : mt_all (frP [5] fzS) (mb_85 g).2.1 := (fz_85_0 (g := g))
theorem fz_87_0 {g : xe_G} : mt_all (frP [5] fzS) (mb_87_0 g) := mt_node_ok (mt_node_ok (mt_node_ok (mt_node_ok (mt_node_ok (mt_leaf_ok (fr_aload)) (mt_node_ok (mt_leaf_ok (fr_get)) (mt_leaf_ok (fr_push)))) (mt_node_ok (mt_leaf_ok (fr_if2)) (mt_node_ok (mt_leaf_ok (fr_aload)) (mt_leaf_ok (fr_get))))) (mt_node_ok (mt_node_ok (mt_leaf_ok (fr_push)) (mt_node_ok (mt_leaf_ok (fr_if2)) (mt_leaf_ok (fr_aload)))) (mt_node_ok (mt_leaf_ok (fr_aload)) (mt_node_ok (mt_leaf_ok (fr_get)) (mt_leaf_ok (fr_push)))))) (mt_node_ok (mt_node_ok (mt_node_ok (mt_leaf_ok (fr_bin)) (mt_node_ok (mt_leaf_ok (fr_push)) (mt_leaf_ok (rfl)))) (mt_node_ok (mt_leaf_ok (trivial)) (mt_node_ok (mt_leaf_ok (fr_aload)) (mt_leaf_ok (fr_get))))) (mt_node_ok (mt_node_ok (mt_leaf_ok (fr_push)) (mt_node_ok (mt_leaf_ok (fr_if2)) (mt_leaf_ok (fr_aload)))) (mt_node_ok (mt_leaf_ok (fr_get)) (mt_node_ok (mt_leaf_ok (fr_push)) (mt_leaf_ok (fr_if2))))))) (mt_node_ok (mt_node_ok (mt_node_ok (mt_node_ok (mt_leaf_ok (fr_aload)) (mt_node_ok (mt_leaf_ok (fr_aload)) (mt_leaf_ok (fr_get)))) (mt_node_ok (mt_leaf_ok (fr_push)) (mt_node_ok (mt_leaf_ok (fr_bin)) (mt_leaf_ok (fr_push))))) (mt_node_ok (mt_node_ok (mt_leaf_ok (rfl)) (mt_node_ok (mt_leaf_ok (trivial)) (mt_leaf_ok (fr_aload)))) (mt_node_ok (mt_leaf_ok (fr_get)) (mt_node_ok (mt_leaf_ok (rfl)) (mt_leaf_ok (fr_if)))))) (mt_node_ok (mt_node_ok (mt_node_ok (mt_leaf_ok (fr_aload)) (mt_node_ok (mt_leaf_ok (fr_aload)) (mt_leaf_ok (fr_aload)))) (mt_node_ok (mt_leaf_ok (fr_get)) (mt_node_ok (mt_leaf_ok (fr_push)) (mt_leaf_ok (fr_bin))))) (mt_node_ok (mt_node_ok (mt_leaf_ok (rfl)) (mt_node_ok (mt_leaf_ok (rfl)) (mt_leaf_ok (trivial)))) (mt_node_ok (mt_leaf_ok (fr_aload)) (mt_node_ok (mt_leaf_ok (fr_get)) (mt_leaf_ok (fr_push)))))))
theorem fz_87_1 {g : xe_G} : mt_all (frP [5] fzS) (mb_87_1 g) := mt_node_ok (mt_node_ok (mt_node_ok (mt_node_ok (mt_node_ok (mt_leaf_ok (fr_if2)) (mt_node_ok (mt_leaf_ok (fr_aload)) (mt_leaf_ok (fr_get)))) (mt_node_ok (mt_leaf_ok (fr_push)) (mt_node_ok (mt_leaf_ok (fr_if2)) (mt_leaf_ok (fr_aload))))) (mt_node_ok (mt_node_ok (mt_leaf_ok (fr_get)) (mt_node_ok (mt_leaf_ok (fr_push)) (mt_leaf_ok (fr_if2)))) (mt_node_ok (mt_leaf_ok (fr_aload)) (mt_node_ok (mt_leaf_ok (fr_get)) (mt_leaf_ok (fr_push)))))) (mt_node_ok (mt_node_ok (mt_node_ok (mt_leaf_ok (fr_if2)) (mt_node_ok (mt_leaf_ok (fr_aload)) (mt_leaf_ok (fr_aload)))) (mt_node_ok (mt_leaf_ok (fr_aload)) (mt_node_ok (mt_leaf_ok (fr_get)) (mt_leaf_ok (fr_push))))) (mt_node_ok (mt_node_ok (mt_leaf_ok (fr_bin)) (mt_node_ok (mt_leaf_ok (rfl)) (mt_leaf_ok (fr_un)))) (mt_node_ok (mt_leaf_ok (fr_aload)) (mt_node_ok (mt_leaf_ok (fr_get)) (mt_leaf_ok (rfl))))))) (mt_node_ok (mt_node_ok (mt_node_ok (mt_node_ok (mt_leaf_ok (trivial)) (mt_node_ok (mt_leaf_ok (fr_aload)) (mt_leaf_ok (fr_get)))) (mt_node_ok (mt_leaf_ok (fr_sw)) (mt_node_ok (mt_leaf_ok (fr_aload)) (mt_leaf_ok (fr_aload))))) (mt_node_ok (mt_node_ok (mt_leaf_ok (fr_aload)) (mt_node_ok (mt_leaf_ok (fr_get)) (mt_leaf_ok (fr_push)))) (mt_node_ok (mt_leaf_ok (fr_bin)) (mt_node_ok (mt_leaf_ok (rfl)) (mt_leaf_ok (fr_un)))))) (mt_node_ok (mt_node_ok (mt_node_ok (mt_leaf_ok ((fr_put (by decide)))) (mt_node_ok (mt_leaf_ok (fr_push)) (mt_leaf_ok (trivial)))) (mt_node_ok (mt_leaf_ok (fr_aload)) (mt_node_ok (mt_leaf_ok (fr_aload)) (mt_leaf_ok (fr_aload))))) (mt_node_ok (mt_node_ok (mt_leaf_ok (fr_get)) (mt_node_ok (mt_leaf_ok (fr_push)) (mt_leaf_ok (fr_bin)))) (mt_node_ok (mt_leaf_ok (rfl)) (mt_node_ok (mt_leaf_ok (fr_un)) (mt_leaf_ok ((fr_put (by decide)))))))))
theorem fz_87_2 {g : xe_G} : mt_all (frP [5] fzS) (mb_87_2 g) := mt_node_ok (mt_node_ok (mt_node_ok (mt_node_ok (mt_node_ok (mt_leaf_ok (fr_push)) (mt_node_ok (mt_leaf_ok (trivial)) (mt_leaf_ok (fr_aload)))) (mt_node_ok (mt_leaf_ok (fr_aload)) (mt_node_ok (mt_leaf_ok (fr_aload)) (mt_leaf_ok (fr_get))))) (mt_node_ok (mt_node_ok (mt_leaf_ok (fr_push)) (mt_node_ok (mt_leaf_ok (fr_bin)) (mt_leaf_ok (rfl)))) (mt_node_ok (mt_leaf_ok ((fr_put (by decide)))) (mt_node_ok (mt_leaf_ok (fr_push)) (mt_leaf_ok (trivial)))))) (mt_node_ok (mt_node_ok (mt_node_ok (mt_leaf_ok (fr_aload)) (mt_node_ok (mt_leaf_ok (fr_push)) (mt_leaf_ok ((fr_put (by decide)))))) (mt_node_ok (mt_leaf_ok (fr_aload)) (mt_node_ok (mt_leaf_ok (fr_aload)) (mt_leaf_ok (fr_aload))))) (mt_node_ok (mt_node_ok (mt_leaf_ok (fr_get)) (mt_node_ok (mt_leaf_ok (fr_push)) (mt_leaf_ok (fr_bin)))) (mt_node_ok (mt_leaf_ok (rfl)) (mt_node_ok (mt_leaf_ok ((fr_put (by decide)))) (mt_leaf_ok (fr_push))))))) (mt_node_ok (mt_node_ok (mt_node_ok (mt_node_ok (mt_leaf_ok (trivial)) (mt_node_ok (mt_leaf_ok (fr_aload)) (mt_leaf_ok (fr_aload)))) (mt_node_ok (mt_leaf_ok (fr_aload)) (mt_node_ok (mt_leaf_ok (fr_get)) (mt_leaf_ok (fr_push))))) (mt_node_ok (mt_node_ok (mt_leaf_ok (fr_bin)) (mt_node_ok (mt_leaf_ok (rfl)) (mt_leaf_ok (fr_un)))) (mt_node_ok (mt_leaf_ok ((fr_put (by decide)))) (mt_node_ok (mt_leaf_ok (fr_aload)) (mt_leaf_ok (fr_aload)))))) (mt_node_ok (mt_node_ok (mt_node_ok (mt_leaf_ok (fr_aload)) (mt_node_ok (mt_leaf_ok (fr_get)) (mt_leaf_ok (fr_push)))) (mt_node_ok (mt_leaf_ok (fr_bin)) (mt_node_ok (mt_leaf_ok (rfl)) (mt_leaf_ok (rfl))))) (mt_node_ok (mt_node_ok (mt_leaf_ok (trivial)) (mt_node_ok (mt_leaf_ok (fr_aload)) (mt_leaf_ok (fr_aload)))) (mt_node_ok (mt_leaf_ok (fr_aload)) (mt_node_ok (mt_leaf_ok (fr_get)) (mt_leaf_ok (fr_push)))))))
theorem fz_87_3 {g : xe_G} : mt_all (frP [5] fzS) (mb_87_3 g) := mt_node_ok (mt_node_ok (mt_node_ok (mt_node_ok (mt_leaf_ok (fr_bin)) (mt_leaf_ok (rfl))) (mt_node_ok (mt_leaf_ok (fr_push)) (mt_leaf_ok (rfl)))) (mt_node_ok (mt_node_ok (mt_leaf_ok (trivial)) (mt_leaf_ok (fr_aload))) (mt_node_ok (mt_leaf_ok (fr_aload)) (mt_node_ok (mt_leaf_ok (fr_aload)) (mt_leaf_ok (fr_get)))))) (mt_node_ok (mt_node_ok (mt_node_ok (mt_leaf_ok (fr_push)) (mt_leaf_ok (fr_bin))) (mt_node_ok (mt_leaf_ok (rfl)) (mt_leaf_ok (fr_push)))) (mt_node_ok (mt_node_ok (mt_leaf_ok (rfl)) (mt_leaf_ok (trivial))) (mt_node_ok (mt_leaf_ok (fr_aload)) (mt_node_ok (mt_leaf_ok (rfl)) (mt_leaf_ok (trivial))))))
theorem fz_87 {g : xe_G} : mt_all (frP [5] fzS) (mb_87 g).2.1 := mt_node_ok (mt_node_ok ((fz_87_0 (g := g))) ((fz_87_1 (g := g)))) (mt_node_ok ((fz_87_2 (g := g))) ((fz_87_3 (g := g))))
theorem fz_88_0 {g : xe_G} : mt_all (frP [5] fzS) (mb_88_0 g) := mt_node_ok (mt_node_ok (mt_node_ok (mt_node_ok (mt_node_ok (mt_leaf_ok (fr_aload)) (mt_node_ok (mt_leaf_ok (fr_get)) (mt_leaf_ok (fr_push)))) (mt_node_ok (mt_leaf_ok (fr_if2)) (mt_node_ok (mt_leaf_ok (fr_push)) (mt_leaf_ok (trivial))))) (mt_node_ok (mt_node_ok (mt_leaf_ok (fr_aload)) (mt_node_ok (mt_leaf_ok (fr_aload)) (mt_leaf_ok (fr_aload)))) (mt_node_ok (mt_leaf_ok (fr_get)) (mt_node_ok (mt_leaf_ok (fr_push)) (mt_leaf_ok (fr_bin)))))) (mt_node_ok (mt_node_ok (mt_node_ok (mt_leaf_ok (rfl)) (mt_node_ok (mt_leaf_ok ((fr_put (by decide)))) (mt_leaf_ok (fr_aload)))) (mt_node_ok (mt_leaf_ok (fr_get)) (mt_node_ok (mt_leaf_ok (fr_sw)) (mt_leaf_ok (fr_aload))))) (mt_node_ok (mt_node_ok (mt_leaf_ok (fr_aload)) (mt_node_ok (mt_leaf_ok (fr_aload)) (mt_leaf_ok (fr_get)))) (mt_node_ok (mt_leaf_ok (fr_push)) (mt_node_ok (mt_leaf_ok (fr_bin)) (mt_leaf_ok (rfl))))))) (mt_node_ok (mt_node_ok (mt_node_ok (mt_node_ok (mt_leaf_ok ((fr_put (by decide)))) (mt_node_ok (mt_leaf_ok (fr_push)) (mt_leaf_ok (trivial)))) (mt_node_ok (mt_leaf_ok (fr_aload)) (mt_node_ok (mt_leaf_ok (fr_aload)) (mt_leaf_ok (fr_aload))))) (mt_node_ok (mt_node_ok (mt_leaf_ok (fr_get)) (mt_node_ok (mt_leaf_ok (fr_push)) (mt_leaf_ok (fr_bin)))) (mt_node_ok (mt_leaf_ok (rfl)) (mt_node_ok (mt_leaf_ok ((fr_put (by decide)))) (mt_leaf_ok (fr_aload)))))) (mt_node_ok (mt_node_ok (mt_node_ok (mt_leaf_ok (fr_aload)) (mt_node_ok (mt_leaf_ok (fr_get)) (mt_leaf_ok (fr_push)))) (mt_node_ok (mt_leaf_ok (fr_bin)) (mt_node_ok (mt_leaf_ok (rfl)) (mt_leaf_ok (fr_if))))) (mt_node_ok (mt_node_ok (mt_leaf_ok (fr_push)) (mt_node_ok (mt_leaf_ok (fr_goto)) (mt_leaf_ok (fr_push)))) (mt_node_ok (mt_leaf_ok (trivial)) (mt_node_ok (mt_leaf_ok (fr_aload)) (mt_leaf_ok (fr_aload)))))))
theorem fz_88_1 {g : xe_G} : mt_all (frP [5] fzS) (mb_88_1 g) := mt_node_ok (mt_node_ok (mt_node_ok (mt_leaf_ok (fr_get)) (mt_leaf_ok (fr_push))) (mt_node_ok (mt_leaf_ok (fr_bin)) (mt_node_ok (mt_leaf_ok (rfl)) (mt_leaf_ok (fr_if))))) (mt_node_ok (mt_node_ok (mt_leaf_ok (fr_push)) (mt_node_ok (mt_leaf_ok (fr_goto)) (mt_leaf_ok (fr_push)))) (mt_node_ok (mt_leaf_ok (trivial)) (mt_node_ok (mt_leaf_ok (fr_push)) (mt_leaf_ok (trivial)))))
theorem fz_88 {g : xe_G} : mt_all (frP [5] fzS) (mb_88 g).2.1 := mt_node_ok ((fz_88_0 (g := g))) ((fz_88_1 (g := g)))
theorem fz_90_0 {g : xe_G} : mt_all (frP [5] fzS) (mb_90_0 g) := mt_node_ok (mt_node_ok (mt_node_ok (mt_leaf_ok (fr_aload)) (mt_leaf_ok (fr_iload))) (mt_node_ok (mt_leaf_ok ((fr_put (by decide)))) (mt_node_ok (mt_leaf_ok (fr_aload)) (mt_leaf_ok (fr_iload))))) (mt_node_ok (mt_node_ok (mt_leaf_ok ((fr_put (by decide)))) (mt_node_ok (mt_leaf_ok (fr_aload)) (mt_leaf_ok (fr_push)))) (mt_node_ok (mt_leaf_ok ((fr_put (by decide)))) (mt_node_ok (mt_leaf_ok (fr_push)) (mt_leaf_ok (trivial)))))
theorem fz_90 {g : xe_G} : mt_all (frP [5] fzS) (mb_90 g).2.1 := (fz_90_0 (g := g))
theorem fz_91_0 {g : xe_G} : mt_all (frP [5] fzS) (mb_91_0 g) := mt_node_ok (mt_node_ok (mt_node_ok (mt_node_ok (mt_leaf_ok (fr_iload)) (mt_leaf_ok (fr_push))) (mt_node_ok (mt_leaf_ok (fr_if2)) (mt_leaf_ok (fr_iload)))) (mt_node_ok (mt_node_ok (mt_leaf_ok (fr_push)) (mt_leaf_ok (fr_if2))) (mt_node_ok (mt_leaf_ok (fr_iload)) (mt_node_ok (mt_leaf_ok (fr_push)) (mt_leaf_ok (fr_if2)))))) (mt_node_ok (mt_node_ok (mt_node_ok (mt_leaf_ok (fr_iload)) (mt_leaf_ok (fr_push))) (mt_node_ok (mt_leaf_ok (fr_if2)) (mt_node_ok (mt_leaf_ok (fr_iload)) (mt_leaf_ok (fr_push))))) (mt_node_ok (mt_node_ok (mt_leaf_ok (fr_if2)) (mt_leaf_ok (fr_push))) (mt_node_ok (mt_leaf_ok (fr_goto)) (mt_node_ok (mt_leaf_ok (fr_push)) (mt_leaf_ok (trivial))))))
theorem fz_91 {g : xe_G} : mt_all (frP [5] fzS) (mb_91 g).2.1 := (fz_91_0 (g := g))
theorem fz_92_0 {g : xe_G} : mt_all (frP [5] fzS) (mb_92_0 g) := mt_node_ok (mt_node_ok (mt_node_ok (mt_node_ok (mt_node_ok (mt_leaf_ok (fr_aload)) (mt_leaf_ok (fr_get))) (mt_node_ok (mt_leaf_ok (fr_push)) (mt_leaf_ok (fr_if2)))) (mt_node_ok (mt_node_ok (mt_leaf_ok (fr_aload)) (mt_leaf_ok (fr_get))) (mt_node_ok (mt_leaf_ok (fr_push)) (mt_leaf_ok (fr_if2))))) (mt_node_ok (mt_node_ok (mt_node_ok (mt_leaf_ok (fr_aload)) (mt_leaf_ok (fr_get))) (mt_node_ok (mt_leaf_ok (fr_push)) (mt_leaf_ok (fr_if2)))) (mt_node_ok (mt_node_ok (mt_leaf_ok (fr_aload)) (mt_leaf_ok (fr_get))) (mt_node_ok (mt_leaf_ok (fr_push)) (mt_leaf_ok (fr_if2)))))) (mt_node_ok (mt_node_ok (mt_node_ok (mt_node_ok (mt_leaf_ok (fr_push)) (mt_leaf_ok (fr_goto))) (mt_node_ok (mt_leaf_ok (fr_push)) (mt_leaf_ok (fr_isto)))) (mt_node_ok (mt_node_ok (mt_leaf_ok (fr_aload)) (mt_leaf_ok (fr_iload))) (mt_node_ok (mt_leaf_ok (fr_if)) (mt_leaf_ok (fr_push))))) (mt_node_ok (mt_node_ok (mt_node_ok (mt_leaf_ok (fr_goto)) (mt_leaf_ok (fr_push))) (mt_node_ok (mt_leaf_ok ((fr_put (by decide)))) (mt_leaf_ok (fr_aload)))) (mt_node_ok (mt_node_ok (mt_leaf_ok (fr_iload)) (mt_leaf_ok ((fr_put (by decide))))) (mt_node_ok (mt_leaf_ok (fr_push)) (mt_leaf_ok (trivial))))))
theorem fz_92 {g : xe_G} : mt_all (frP [5] fzS) (mb_92 g).2.1 := (fz_92_0 (g := g))
theorem fz_93_0 {g : xe_G} : mt_all (frP [5] fzS) (mb_93_0 g) := mt_node_ok (mt_node_ok (mt_node_ok (mt_node_ok (mt_node_ok (mt_leaf_ok (fr_aload)) (mt_node_ok (mt_leaf_ok (fr_get)) (mt_leaf_ok (fr_aload)))) (mt_node_ok (mt_leaf_ok (fr_get)) (mt_node_ok (mt_leaf_ok (fr_bin)) (mt_leaf_ok (fr_push))))) (mt_node_ok (mt_node_ok (mt_leaf_ok (fr_if2)) (mt_node_ok (mt_leaf_ok (fr_push)) (mt_leaf_ok (trivial)))) (mt_node_ok (mt_leaf_ok (fr_aload)) (mt_node_ok (mt_leaf_ok (fr_aload)) (mt_leaf_ok (fr_aload)))))) (mt_node_ok (mt_node_ok (mt_node_ok (mt_leaf_ok (fr_get)) (mt_node_ok (mt_leaf_ok (fr_push)) (mt_leaf_ok (fr_bin)))) (mt_node_ok (mt_leaf_ok (rfl)) (mt_node_ok (mt_leaf_ok ((fr_put (by decide)))) (mt_leaf_ok (fr_aload))))) (mt_node_ok (mt_node_ok (mt_leaf_ok (fr_get)) (mt_node_ok (mt_leaf_ok (fr_if)) (mt_leaf_ok (fr_aload)))) (mt_node_ok (mt_leaf_ok (fr_get)) (mt_node_ok (mt_leaf_ok (fr_aload)) (mt_leaf_ok (fr_get))))))) (mt_node_ok (mt_node_ok (mt_node_ok (mt_node_ok (mt_leaf_ok (fr_aload)) (mt_node_ok (mt_leaf_ok (fr_get)) (mt_leaf_ok (fr_bin)))) (mt_node_ok (mt_leaf_ok (fr_push)) (mt_node_ok (mt_leaf_ok (fr_bin)) (mt_leaf_ok (fr_push))))) (mt_node_ok (mt_node_ok (mt_leaf_ok (fr_div)) (mt_node_ok (mt_leaf_ok (fr_if2)) (mt_leaf_ok (fr_push)))) (mt_node_ok (mt_leaf_ok (trivial)) (mt_node_ok (mt_leaf_ok (fr_aload)) (mt_leaf_ok (fr_aload)))))) (mt_node_ok (mt_node_ok (mt_node_ok (mt_leaf_ok (fr_get)) (mt_node_ok (mt_leaf_ok (fr_push)) (mt_leaf_ok (fr_bin)))) (mt_node_ok (mt_leaf_ok ((fr_put (by decide)))) (mt_node_ok (mt_leaf_ok (fr_aload)) (mt_leaf_ok (fr_aload))))) (mt_node_ok (mt_node_ok (mt_leaf_ok (fr_get)) (mt_node_ok (mt_leaf_ok (fr_push)) (mt_leaf_ok (fr_bin)))) (mt_node_ok (mt_leaf_ok (fr_push)) (mt_node_ok (mt_leaf_ok (fr_aload)) (mt_leaf_ok (fr_get)))))))
theorem fz_93_1 {g : xe_G} : mt_all (frP [5] fzS) (mb_93_1 g) := mt_node_ok (mt_node_ok (mt_node_ok (mt_node_ok (mt_leaf_ok (fr_bin)) (mt_node_ok (mt_leaf_ok (fr_bin)) (mt_leaf_ok (fr_aload)))) (mt_node_ok (mt_leaf_ok (fr_get)) (mt_node_ok (mt_leaf_ok (fr_bin)) (mt_leaf_ok ((fr_put (by decide))))))) (mt_node_ok (mt_node_ok (mt_leaf_ok (fr_push)) (mt_node_ok (mt_leaf_ok (fr_isto)) (mt_leaf_ok (fr_iload)))) (mt_node_ok (mt_node_ok (mt_leaf_ok (fr_aload)) (mt_leaf_ok (fr_get))) (mt_node_ok (mt_leaf_ok (fr_if2)) (mt_leaf_ok (fr_aload)))))) (mt_node_ok (mt_node_ok (mt_node_ok (mt_leaf_ok (fr_iload)) (mt_node_ok (mt_leaf_ok (fr_push)) (mt_leaf_ok (fr_bin)))) (mt_node_ok (mt_node_ok (mt_leaf_ok (rfl)) (mt_leaf_ok (fr_aload))) (mt_node_ok (mt_leaf_ok (fr_iload)) (mt_leaf_ok (rfl))))) (mt_node_ok (mt_node_ok (mt_leaf_ok (fr_if2)) (mt_node_ok (mt_leaf_ok (fr_push)) (mt_leaf_ok (trivial)))) (mt_node_ok (mt_node_ok (mt_leaf_ok (fr_iinc)) (mt_leaf_ok (fr_goto))) (mt_node_ok (mt_leaf_ok (fr_push)) (mt_leaf_ok (trivial))))))
theorem fz_93 {g : xe_G} : mt_all (frP [5] fzS) (mb_93 g).2.1 := mt_node_ok ((fz_93_0 (g := g))) ((fz_93_1 (g := g)))
theorem fz_94_0 {g : xe_G} : mt_all (frP [5] fzS) (mb_94_0 g) := mt_node_ok (mt_node_ok (mt_node_ok (mt_leaf_ok (fr_aload)) (mt_node_ok (mt_leaf_ok (fr_iload)) (mt_leaf_ok (fr_iload)))) (mt_node_ok (mt_leaf_ok (fr_push)) (mt_node_ok (mt_leaf_ok (fr_div)) (mt_leaf_ok (fr_bin))))) (mt_node_ok (mt_node_ok (mt_leaf_ok ((fr_put (by decide)))) (mt_node_ok (mt_leaf_ok (fr_aload)) (mt_leaf_ok (fr_iload)))) (mt_node_ok (mt_node_ok (mt_leaf_ok (fr_push)) (mt_leaf_ok (fr_div))) (mt_node_ok (mt_leaf_ok (rfl)) (mt_leaf_ok (trivial)))))
theorem fz_94 {g : xe_G} : mt_all (frP [5] fzS) (mb_94 g).2.1 := (fz_94_0 (g := g))
theorem fz_95_0 {g : xe_G} : mt_all (frP [5] fzS) (mb_95_0 g) := mt_node_ok (mt_node_ok (mt_node_ok (mt_leaf_ok (fr_aload)) (mt_node_ok (mt_leaf_ok (fr_get)) (mt_leaf_ok (fr_push)))) (mt_node_ok (mt_leaf_ok (fr_if2)) (mt_node_ok (mt_leaf_ok (fr_aload)) (mt_leaf_ok (fr_get))))) (mt_node_ok (mt_node_ok (mt_leaf_ok (fr_push)) (mt_node_ok (mt_leaf_ok (fr_if2)) (mt_leaf_ok (fr_push)))) (mt_node_ok (mt_leaf_ok (fr_goto)) (mt_node_ok (mt_leaf_ok (fr_push)) (mt_leaf_ok (trivial)))))
theorem fz_95 {g : xe_G} : mt_all (frP [5] fzS) (mb_95 g).2.1 := (fz_95_0 (g := g))
theorem fz_96_0 {g : xe_G} : mt_all (frP [5] fzS) (mb_96_0 g) := mt_node_ok (mt_node_ok (mt_node_ok (mt_node_ok (mt_node_ok (mt_leaf_ok (fr_aload)) (mt_leaf_ok (fr_aload))) (mt_node_ok (mt_leaf_ok (fr_get)) (mt_leaf_ok (fr_push)))) (mt_node_ok (mt_node_ok (mt_leaf_ok (fr_bin)) (mt_leaf_ok (fr_push))) (mt_node_ok (mt_leaf_ok (fr_bin)) (mt_leaf_ok ((fr_put (by decide))))))) (mt_node_ok (mt_node_ok (mt_node_ok (mt_leaf_ok (fr_aload)) (mt_leaf_ok (fr_get))) (mt_node_ok (mt_leaf_ok (fr_push)) (mt_leaf_ok (fr_bin)))) (mt_node_ok (mt_node_ok (mt_leaf_ok (fr_isto)) (mt_leaf_ok (fr_iload))) (mt_node_ok (mt_leaf_ok (fr_aload)) (mt_node_ok (mt_leaf_ok (fr_get)) (mt_leaf_ok (fr_if2))))))) (mt_node_ok (mt_node_ok (mt_node_ok (mt_node_ok (mt_leaf_ok (fr_aload)) (mt_leaf_ok (fr_iload))) (mt_node_ok (mt_leaf_ok (rfl)) (mt_leaf_ok (fr_if)))) (mt_node_ok (mt_node_ok (mt_leaf_ok (fr_push)) (mt_leaf_ok (trivial))) (mt_node_ok (mt_leaf_ok (fr_iinc)) (mt_node_ok (mt_leaf_ok (fr_goto)) (mt_leaf_ok (fr_aload)))))) (mt_node_ok (mt_node_ok (mt_node_ok (mt_leaf_ok (fr_get)) (mt_leaf_ok (fr_push))) (mt_node_ok (mt_leaf_ok (fr_if2)) (mt_leaf_ok (fr_aload)))) (mt_node_ok (mt_node_ok (mt_leaf_ok (rfl)) (mt_leaf_ok (fr_goto))) (mt_node_ok (mt_leaf_ok (fr_aload)) (mt_node_ok (mt_leaf_ok (rfl)) (mt_leaf_ok (trivial)))))))
theorem fz_96 {g : xe_G} : mt_all (frP [5] fzS) (mb_96 g).2.1 := (fz_96_0 (g := g))
theorem fz_97_0 {g : xe_G} : mt_all (frP [5] fzS) (mb_97_0 g) := mt_node_ok (mt_node_ok (mt_node_ok (mt_node_ok (mt_node_ok (mt_leaf_ok (fr_aload)) (mt_node_ok (mt_leaf_ok (fr_get)) (mt_leaf_ok (fr_aload)))) (mt_node_ok (mt_leaf_ok (fr_get)) (mt_node_ok (mt_leaf_ok (fr_bin)) (mt_leaf_ok (fr_push))))) (mt_node_ok (mt_node_ok (mt_leaf_ok (fr_if2)) (mt_node_ok (mt_leaf_ok (fr_push)) (mt_leaf_ok (trivial)))) (mt_node_ok (mt_leaf_ok (fr_aload)) (mt_node_ok (mt_leaf_ok (fr_aload)) (mt_leaf_ok (fr_aload)))))) (mt_node_ok (mt_node_ok (mt_node_ok (mt_leaf_ok (fr_get)) (mt_node_ok (mt_leaf_ok (fr_push)) (mt_leaf_ok (fr_bin)))) (mt_node_ok (mt_leaf_ok (rfl)) (mt_node_ok (mt_leaf_ok ((fr_put (by decide)))) (mt_leaf_ok (fr_aload))))) (mt_node_ok (mt_node_ok (mt_leaf_ok (fr_aload)) (mt_node_ok (mt_leaf_ok (fr_aload)) (mt_leaf_ok (fr_get)))) (mt_node_ok (mt_leaf_ok (fr_push)) (mt_node_ok (mt_leaf_ok (fr_bin)) (mt_leaf_ok (rfl))))))) (mt_node_ok (mt_node_ok (mt_node_ok (mt_node_ok (mt_leaf_ok ((fr_put (by decide)))) (mt_node_ok (mt_leaf_ok (fr_aload)) (mt_leaf_ok (fr_get)))) (mt_node_ok (mt_leaf_ok (fr_i2l)) (mt_node_ok (mt_leaf_ok (fr_aload)) (mt_leaf_ok (fr_get))))) (mt_node_ok (mt_node_ok (mt_leaf_ok (fr_i2l)) (mt_node_ok (mt_leaf_ok (fr_binL)) (mt_leaf_ok (fr_push)))) (mt_node_ok (mt_leaf_ok (fr_binL)) (mt_node_ok (mt_leaf_ok (fr_lsto)) (mt_leaf_ok (fr_lload)))))) (mt_node_ok (mt_node_ok (mt_node_ok (mt_leaf_ok (fr_push)) (mt_node_ok (mt_leaf_ok (fr_lcmp)) (mt_leaf_ok (fr_if)))) (mt_node_ok (mt_leaf_ok (fr_lload)) (mt_node_ok (mt_leaf_ok (fr_push)) (mt_leaf_ok (fr_binL))))) (mt_node_ok (mt_node_ok (mt_leaf_ok (fr_aload)) (mt_node_ok (mt_leaf_ok (fr_get)) (mt_leaf_ok (fr_aload)))) (mt_node_ok (mt_leaf_ok (fr_get)) (mt_node_ok (mt_leaf_ok (fr_bin)) (mt_leaf_ok (fr_push)))))))
theorem fz_97_1 {g : xe_G} : mt_all (frP [5] fzS) (mb_97_1 g) := mt_node_ok (mt_node_ok (mt_node_ok (mt_node_ok (mt_leaf_ok (fr_bin)) (mt_node_ok (mt_leaf_ok (fr_i2l)) (mt_leaf_ok (fr_lcmp)))) (mt_node_ok (mt_node_ok (mt_leaf_ok (fr_if)) (mt_leaf_ok (fr_push))) (mt_node_ok (mt_leaf_ok (trivial)) (mt_leaf_ok (fr_aload))))) (mt_node_ok (mt_node_ok (mt_leaf_ok (fr_lload)) (mt_node_ok (mt_leaf_ok (fr_l2i)) (mt_leaf_ok (fr_push)))) (mt_node_ok (mt_node_ok (mt_leaf_ok (fr_bin)) (mt_leaf_ok ((fr_put (by decide))))) (mt_node_ok (mt_leaf_ok (fr_aload)) (mt_leaf_ok (fr_aload)))))) (mt_node_ok (mt_node_ok (mt_node_ok (mt_leaf_ok (fr_get)) (mt_node_ok (mt_leaf_ok (fr_push)) (mt_leaf_ok (fr_bin)))) (mt_node_ok (mt_node_ok (mt_leaf_ok (fr_push)) (mt_leaf_ok (fr_lload))) (mt_node_ok (mt_leaf_ok (fr_l2i)) (mt_leaf_ok (fr_bin))))) (mt_node_ok (mt_node_ok (mt_leaf_ok (fr_bin)) (mt_node_ok (mt_leaf_ok (fr_aload)) (mt_leaf_ok (fr_get)))) (mt_node_ok (mt_node_ok (mt_leaf_ok (fr_bin)) (mt_leaf_ok ((fr_put (by decide))))) (mt_node_ok (mt_leaf_ok (fr_push)) (mt_leaf_ok (trivial))))))
theorem fz_97 {g : xe_G} : mt_all (frP [5] fzS) (mb_97 g).2.1 := mt_node_ok ((fz_97_0 (g := g))) ((fz_97_1 (g := g)))
theorem fz_98_0 {g : xe_G} : mt_all (frP [5] fzS) (mb_98_0 g) := mt_node_ok (mt_node_ok (mt_node_ok (mt_node_ok (mt_node_ok (mt_leaf_ok (fr_aload)) (mt_node_ok (mt_leaf_ok (fr_iload)) (mt_leaf_ok ((fr_put (by decide)))))) (mt_node_ok (mt_leaf_ok (fr_aload)) (mt_node_ok (mt_leaf_ok (fr_aload)) (mt_leaf_ok (fr_iload))))) (mt_node_ok (mt_node_ok (mt_leaf_ok (rfl)) (mt_node_ok (mt_leaf_ok ((fr_put (by decide)))) (mt_leaf_ok (fr_aload)))) (mt_node_ok (mt_leaf_ok (fr_push)) (mt_node_ok (mt_leaf_ok ((fr_put (by decide)))) (mt_leaf_ok (fr_aload)))))) (mt_node_ok (mt_node_ok (mt_node_ok (mt_leaf_ok (fr_push)) (mt_node_ok (mt_leaf_ok ((fr_put (by decide)))) (mt_leaf_ok (fr_aload)))) (mt_node_ok (mt_leaf_ok (fr_push)) (mt_node_ok (mt_leaf_ok ((fr_put (by decide)))) (mt_leaf_ok (fr_aload))))) (mt_node_ok (mt_node_ok (mt_leaf_ok (fr_push)) (mt_node_ok (mt_leaf_ok ((fr_put (by decide)))) (mt_leaf_ok (fr_aload)))) (mt_node_ok (mt_leaf_ok (fr_push)) (mt_node_ok (mt_leaf_ok ((fr_put (by decide)))) (mt_leaf_ok (fr_iload))))))) (mt_node_ok (mt_node_ok (mt_node_ok (mt_node_ok (mt_leaf_ok (fr_if)) (mt_node_ok (mt_leaf_ok (fr_iload)) (mt_leaf_ok (fr_aload)))) (mt_node_ok (mt_leaf_ok (fr_get)) (mt_node_ok (mt_leaf_ok (fr_if2)) (mt_leaf_ok (fr_aload))))) (mt_node_ok (mt_node_ok (mt_leaf_ok (fr_get)) (mt_node_ok (mt_leaf_ok (fr_push)) (mt_leaf_ok (fr_if2)))) (mt_node_ok (mt_leaf_ok (fr_push)) (mt_node_ok (mt_leaf_ok (trivial)) (mt_leaf_ok (fr_aload)))))) (mt_node_ok (mt_node_ok (mt_node_ok (mt_leaf_ok (rfl)) (mt_node_ok (mt_leaf_ok (fr_if)) (mt_leaf_ok (fr_aload)))) (mt_node_ok (mt_leaf_ok (rfl)) (mt_node_ok (mt_leaf_ok (trivial)) (mt_leaf_ok (fr_aload))))) (mt_node_ok (mt_node_ok (mt_leaf_ok (fr_get)) (mt_node_ok (mt_leaf_ok (fr_push)) (mt_leaf_ok (fr_if2)))) (mt_node_ok (mt_leaf_ok (fr_aload)) (mt_node_ok (mt_leaf_ok (rfl)) (mt_leaf_ok (trivial)))))))
theorem fz_98_1 {g : xe_G} : mt_all (frP [5] fzS) (mb_98_1 g) := mt_node_ok (mt_node_ok (mt_node_ok (mt_node_ok (mt_leaf_ok (fr_aload)) (mt_leaf_ok (fr_aload))) (mt_node_ok (mt_leaf_ok (fr_get)) (mt_node_ok (mt_leaf_ok (rfl)) (mt_leaf_ok ((fr_put (by decide))))))) (mt_node_ok (mt_node_ok (mt_leaf_ok (fr_aload)) (mt_leaf_ok (fr_get))) (mt_node_ok (mt_leaf_ok (fr_aload)) (mt_node_ok (mt_leaf_ok (fr_get)) (mt_leaf_ok (fr_aload)))))) (mt_node_ok (mt_node_ok (mt_node_ok (mt_leaf_ok (fr_get)) (mt_leaf_ok (fr_bin))) (mt_node_ok (mt_leaf_ok (fr_if2)) (mt_node_ok (mt_leaf_ok (fr_aload)) (mt_leaf_ok (rfl))))) (mt_node_ok (mt_node_ok (mt_leaf_ok (fr_if)) (mt_leaf_ok (fr_push))) (mt_node_ok (mt_leaf_ok (fr_goto)) (mt_node_ok (mt_leaf_ok (fr_push)) (mt_leaf_ok (trivial))))))
theorem fz_98 {g : xe_G} : mt_all (frP [5] fzS) (mb_98 g).2.1 := mt_node_ok ((fz_98_0 (g := g))) ((fz_98_1 (g := g)))
theorem fz_99_0 {g : xe_G} : mt_all (frP [5] fzS) (mb_99_0 g) := mt_node_ok (mt_node_ok (mt_node_ok (mt_node_ok (mt_node_ok (mt_leaf_ok (fr_aload)) (mt_node_ok (mt_leaf_ok (fr_get)) (mt_leaf_ok (fr_aload)))) (mt_node_ok (mt_leaf_ok (fr_get)) (mt_node_ok (mt_leaf_ok (fr_bin)) (mt_leaf_ok (fr_push))))) (mt_node_ok (mt_node_ok (mt_leaf_ok (fr_if2)) (mt_node_ok (mt_leaf_ok (fr_push)) (mt_leaf_ok (trivial)))) (mt_node_ok (mt_leaf_ok (fr_aload)) (mt_node_ok (mt_leaf_ok (fr_aload)) (mt_leaf_ok (fr_aload)))))) (mt_node_ok (mt_node_ok (mt_node_ok (mt_leaf_ok (fr_get)) (mt_node_ok (mt_leaf_ok (fr_push)) (mt_leaf_ok (fr_bin)))) (mt_node_ok (mt_leaf_ok (rfl)) (mt_node_ok (mt_leaf_ok ((fr_put (by decide)))) (mt_leaf_ok (fr_aload))))) (mt_node_ok (mt_node_ok (mt_leaf_ok (fr_get)) (mt_node_ok (mt_leaf_ok (fr_push)) (mt_leaf_ok (fr_if2)))) (mt_node_ok (mt_leaf_ok (fr_aload)) (mt_node_ok (mt_leaf_ok (fr_push)) (mt_leaf_ok ((fr_put (by decide))))))))) (mt_node_ok (mt_node_ok (mt_node_ok (mt_node_ok (mt_leaf_ok (fr_aload)) (mt_node_ok (mt_leaf_ok (fr_aload)) (mt_leaf_ok (fr_aload)))) (mt_node_ok (mt_leaf_ok (fr_get)) (mt_node_ok (mt_leaf_ok (fr_push)) (mt_leaf_ok (fr_bin))))) (mt_node_ok (mt_node_ok (mt_leaf_ok (rfl)) (mt_node_ok (mt_leaf_ok (fr_un)) (mt_leaf_ok ((fr_put (by decide)))))) (mt_node_ok (mt_leaf_ok (fr_goto)) (mt_node_ok (mt_leaf_ok (fr_aload)) (mt_leaf_ok (fr_push)))))) (mt_node_ok (mt_node_ok (mt_node_ok (mt_leaf_ok ((fr_put (by decide)))) (mt_node_ok (mt_leaf_ok (fr_aload)) (mt_leaf_ok (fr_get)))) (mt_node_ok (mt_leaf_ok (fr_aload)) (mt_node_ok (mt_leaf_ok (fr_get)) (mt_leaf_ok (fr_aload))))) (mt_node_ok (mt_node_ok (mt_leaf_ok (fr_get)) (mt_node_ok (mt_leaf_ok (fr_bin)) (mt_leaf_ok (fr_if2)))) (mt_node_ok (mt_leaf_ok (fr_aload)) (mt_node_ok (mt_leaf_ok (fr_get)) (mt_leaf_ok (fr_push)))))))
theorem fz_99_1 {g : xe_G} : mt_all (frP [5] fzS) (mb_99_1 g) := mt_node_ok (mt_node_ok (mt_node_ok (mt_node_ok (mt_leaf_ok (fr_if2)) (mt_leaf_ok (fr_aload))) (mt_node_ok (mt_leaf_ok (fr_get)) (mt_leaf_ok (rfl)))) (mt_node_ok (mt_node_ok (mt_leaf_ok (fr_if)) (mt_leaf_ok (fr_push))) (mt_node_ok (mt_leaf_ok (trivial)) (mt_leaf_ok (fr_aload))))) (mt_node_ok (mt_node_ok (mt_node_ok (mt_leaf_ok (fr_aload)) (mt_leaf_ok (fr_aload))) (mt_node_ok (mt_leaf_ok (fr_get)) (mt_leaf_ok (fr_push)))) (mt_node_ok (mt_node_ok (mt_leaf_ok (fr_bin)) (mt_leaf_ok (rfl))) (mt_node_ok (mt_leaf_ok (rfl)) (mt_leaf_ok (trivial)))))
theorem fz_99 {g : xe_G} : mt_all (frP [5] fzS) (mb_99 g).2.1 := mt_node_ok ((fz_99_0 (g := g))) ((fz_99_1 (g := g)))
theorem fz_100_0 {g : xe_G} : mt_all (frP [5] fzS) (mb_100_0 g) := mt_node_ok (mt_node_ok (mt_node_ok (mt_node_ok (mt_leaf_ok (fr_iload)) (mt_node_ok (mt_leaf_ok (fr_if)) (mt_leaf_ok (fr_push)))) (mt_node_ok (mt_leaf_ok (trivial)) (mt_node_ok (mt_leaf_ok (fr_aload)) (mt_leaf_ok (fr_get))))) (mt_node_ok (mt_node_ok (mt_leaf_ok (fr_push)) (mt_node_ok (mt_leaf_ok (fr_if2)) (mt_leaf_ok (fr_aload)))) (mt_node_ok (mt_leaf_ok (fr_get)) (mt_node_ok (mt_leaf_ok (fr_iload)) (mt_leaf_ok (fr_bin)))))) (mt_node_ok (mt_node_ok (mt_node_ok (mt_leaf_ok (fr_push)) (mt_node_ok (mt_leaf_ok (fr_bin)) (mt_leaf_ok (fr_goto)))) (mt_node_ok (mt_leaf_ok (fr_aload)) (mt_node_ok (mt_leaf_ok (fr_aload)) (mt_leaf_ok (fr_get))))) (mt_node_ok (mt_node_ok (mt_leaf_ok (fr_push)) (mt_node_ok (mt_leaf_ok (fr_iload)) (mt_leaf_ok (fr_bin)))) (mt_node_ok (mt_leaf_ok (fr_bin)) (mt_node_ok (mt_leaf_ok (rfl)) (mt_leaf_ok (trivial))))))
theorem fz_100 {g : xe_G} : mt_all (frP [5] fzS) (mb_100 g).2.1 := (fz_100_0 (g := g))
theorem fz_101_0 {g : xe_G} : mt_all (frP [5] fzS) (mb_101_0 g) := mt_node_ok (mt_node_ok (mt_node_ok (mt_leaf_ok (fr_aload)) (mt_leaf_ok (fr_get))) (mt_node_ok (mt_leaf_ok (fr_aload)) (mt_leaf_ok (fr_get)))) (mt_node_ok (mt_node_ok (mt_leaf_ok (fr_iload)) (mt_leaf_ok (fr_bin))) (mt_node_ok (mt_leaf_ok (rfl)) (mt_leaf_ok (trivial))))
theorem fz_101 {g : xe_G} : mt_all (frP [5] fzS) (mb_101 g).2.1 := (fz_101_0 (g := g))
theorem fz_102_0 {g : xe_G} : mt_all (frP [5] fzS) (mb_102_0 g) := mt_node_ok (mt_node_ok (mt_node_ok (mt_node_ok (mt_leaf_ok (fr_iload)) (mt_node_ok (mt_leaf_ok (fr_push)) (mt_leaf_ok (fr_if2)))) (mt_node_ok (mt_node_ok (mt_leaf_ok (fr_iload)) (mt_leaf_ok (fr_push))) (mt_node_ok (mt_leaf_ok (fr_if2)) (mt_leaf_ok (fr_iload))))) (mt_node_ok (mt_node_ok (mt_node_ok (mt_leaf_ok (fr_push)) (mt_leaf_ok (fr_if2))) (mt_node_ok (mt_leaf_ok (fr_iload)) (mt_leaf_ok (fr_push)))) (mt_node_ok (mt_node_ok (mt_leaf_ok (fr_if2)) (mt_leaf_ok (fr_push))) (mt_node_ok (mt_leaf_ok (trivial)) (mt_leaf_ok (fr_iload)))))) (mt_node_ok (mt_node_ok (mt_node_ok (mt_node_ok (mt_leaf_ok (rfl)) (mt_leaf_ok (fr_if))) (mt_node_ok (mt_leaf_ok (fr_push)) (mt_leaf_ok (trivial)))) (mt_node_ok (mt_node_ok (mt_leaf_ok (fr_iload)) (mt_leaf_ok (fr_sw))) (mt_node_ok (mt_leaf_ok (fr_push)) (mt_leaf_ok (trivial))))) (mt_node_ok (mt_node_ok (mt_node_ok (mt_leaf_ok (fr_push)) (mt_leaf_ok (trivial))) (mt_node_ok (mt_leaf_ok (fr_push)) (mt_leaf_ok (trivial)))) (mt_node_ok (mt_node_ok (mt_leaf_ok (fr_push)) (mt_leaf_ok (trivial))) (mt_node_ok (mt_leaf_ok (fr_push)) (mt_leaf_ok (trivial))))))
theorem fz_102 {g : xe_G} : mt_all (frP [5] fzS) (mb_102 g).2.1 := (fz_102_0 (g := g))
theorem fz_103_0 {g : xe_G} : mt_all (frP [5] fzS) (mb_103_0 g) := mt_node_ok (mt_node_ok (mt_node_ok (mt_node_ok (mt_node_ok (mt_leaf_ok (fr_aload)) (mt_node_ok (mt_leaf_ok (rfl)) (mt_leaf_ok (fr_if)))) (mt_node_ok (mt_leaf_ok (fr_aload)) (mt_node_ok (mt_leaf_ok (fr_get)) (mt_leaf_ok (fr_i2l))))) (mt_node_ok (mt_node_ok (mt_leaf_ok (fr_aload)) (mt_node_ok (mt_leaf_ok (fr_get)) (mt_leaf_ok (fr_i2l)))) (mt_node_ok (mt_leaf_ok (fr_binL)) (mt_node_ok (mt_leaf_ok (trivial)) (mt_leaf_ok (fr_iload)))))) (mt_node_ok (mt_node_ok (mt_node_ok (mt_leaf_ok (fr_if)) (mt_node_ok (mt_leaf_ok (fr_aload)) (mt_leaf_ok (fr_get)))) (mt_node_ok (mt_leaf_ok (fr_i2l)) (mt_node_ok (mt_leaf_ok (fr_aload)) (mt_leaf_ok (fr_aload))))) (mt_node_ok (mt_node_ok (mt_leaf_ok (fr_get)) (mt_node_ok (mt_leaf_ok (rfl)) (mt_leaf_ok (fr_i2l)))) (mt_node_ok (mt_leaf_ok (fr_binL)) (mt_node_ok (mt_leaf_ok (trivial)) (mt_leaf_ok (fr_aload))))))) (mt_node_ok (mt_node_ok (mt_node_ok (mt_node_ok (mt_leaf_ok (fr_get)) (mt_node_ok (mt_leaf_ok (fr_i2l)) (mt_leaf_ok (fr_aload)))) (mt_node_ok (mt_leaf_ok (fr_aload)) (mt_node_ok (mt_leaf_ok (fr_get)) (mt_leaf_ok (fr_push))))) (mt_node_ok (mt_node_ok (mt_leaf_ok (fr_if2)) (mt_node_ok (mt_leaf_ok (fr_aload)) (mt_leaf_ok (fr_get)))) (mt_node_ok (mt_leaf_ok (fr_push)) (mt_node_ok (mt_leaf_ok (fr_bin)) (mt_leaf_ok (fr_push)))))) (mt_node_ok (mt_node_ok (mt_node_ok (mt_leaf_ok (fr_iload)) (mt_node_ok (mt_leaf_ok (fr_bin)) (mt_leaf_ok (fr_bin)))) (mt_node_ok (mt_leaf_ok (fr_goto)) (mt_node_ok (mt_leaf_ok (fr_aload)) (mt_leaf_ok (fr_get))))) (mt_node_ok (mt_node_ok (mt_leaf_ok (fr_push)) (mt_node_ok (mt_leaf_ok (fr_bin)) (mt_leaf_ok (fr_push)))) (mt_node_ok (mt_leaf_ok (fr_iload)) (mt_node_ok (mt_leaf_ok (fr_bin)) (mt_leaf_ok (fr_bin)))))))
theorem fz_103_1 {g : xe_G} : mt_all (frP [5] fzS) (mb_103_1 g) := mt_node_ok (mt_node_ok (mt_leaf_ok (rfl)) (mt_leaf_ok (fr_i2l))) (mt_node_ok (mt_leaf_ok (fr_binL)) (mt_leaf_ok (trivial)))
theorem fz_103 {g : xe_G} : mt_all (frP [5] fzS) (mb_103 g).2.1 := mt_node_ok ((fz_103_0 (g := g))) ((fz_103_1 (g := g)))
theorem fz_104_0 {g : xe_G} : mt_all (frP [5] fzS) (mb_104_0 g) := mt_node_ok (mt_node_ok (mt_node_ok (mt_leaf_ok (fr_aload)) (mt_leaf_ok (fr_get))) (mt_node_ok (mt_leaf_ok (fr_aload)) (mt_leaf_ok (fr_get)))) (mt_node_ok (mt_node_ok (mt_leaf_ok (fr_iload)) (mt_leaf_ok (fr_bin))) (mt_node_ok (mt_leaf_ok (rfl)) (mt_leaf_ok (trivial))))
theorem fz_104 {g : xe_G} : mt_all (frP [5] fzS) (mb_104 g).2.1 := (fz_104_0 (g := g))
theorem fz_105_0 {g : xe_G} : mt_all (frP [5] fzS) (mb_105_0 g) := mt_node_ok (mt_node_ok (mt_node_ok (mt_leaf_ok (fr_aload)) (mt_leaf_ok (fr_get))) (mt_node_ok (mt_leaf_ok (fr_aload)) (mt_leaf_ok (fr_get)))) (mt_node_ok (mt_node_ok (mt_leaf_ok (fr_iload)) (mt_leaf_ok (fr_bin))) (mt_node_ok (mt_leaf_ok (rfl)) (mt_leaf_ok (trivial))))
theorem fz_105 {g : xe_G} : mt_all (frP [5] fzS) (mb_105 g).2.1 := (fz_105_0 (g := g))
theorem fz_112_0 {g : xe_G} : mt_all (frP [5] fzS) (mb_112_0 g) := mt_node_ok (mt_node_ok (mt_node_ok (mt_leaf_ok (fr_aload)) (mt_node_ok (mt_leaf_ok (fr_iload)) (mt_leaf_ok (rfl)))) (mt_node_ok (mt_leaf_ok (fr_if)) (mt_node_ok (mt_leaf_ok (fr_aload)) (mt_leaf_ok (fr_get))))) (mt_node_ok (mt_node_ok (mt_leaf_ok (fr_iload)) (mt_node_ok (mt_leaf_ok (fr_ald)) (mt_leaf_ok (fr_push)))) (mt_node_ok (mt_node_ok (mt_leaf_ok (fr_div)) (mt_leaf_ok (fr_goto))) (mt_node_ok (mt_leaf_ok (fr_push)) (mt_leaf_ok (trivial)))))
theorem fz_112 {g : xe_G} : mt_all (frP [5] fzS) (mb_112 g).2.1 := (fz_112_0 (g := g))
theorem fz_113_0 {g : xe_G} : mt_all (frP [5] fzS) (mb_113_0 g) := mt_node_ok (mt_node_ok (mt_node_ok (mt_node_ok (mt_leaf_ok (fr_aload)) (mt_node_ok (mt_leaf_ok (fr_iload)) (mt_leaf_ok (rfl)))) (mt_node_ok (mt_leaf_ok (fr_push)) (mt_node_ok (mt_leaf_ok (fr_if2)) (mt_leaf_ok (fr_iload))))) (mt_node_ok (mt_node_ok (mt_leaf_ok (fr_if)) (mt_node_ok (mt_leaf_ok (fr_iload)) (mt_leaf_ok (fr_aload)))) (mt_node_ok (mt_leaf_ok (fr_get)) (mt_node_ok (mt_leaf_ok (fr_iload)) (mt_leaf_ok (fr_ald)))))) (mt_node_ok (mt_node_ok (mt_node_ok (mt_leaf_ok (fr_if2)) (mt_node_ok (mt_leaf_ok (fr_push)) (mt_leaf_ok (fr_goto)))) (mt_node_ok (mt_leaf_ok (fr_aload)) (mt_node_ok (mt_leaf_ok (fr_get)) (mt_leaf_ok (fr_aload))))) (mt_node_ok (mt_node_ok (mt_leaf_ok (fr_get)) (mt_node_ok (mt_leaf_ok (fr_iload)) (mt_leaf_ok (fr_ald)))) (mt_node_ok (mt_node_ok (mt_leaf_ok (fr_iload)) (mt_leaf_ok (fr_bin))) (mt_node_ok (mt_leaf_ok (fr_ald)) (mt_leaf_ok (trivial))))))
theorem fz_113 {g : xe_G} : mt_all (frP [5] fzS) (mb_113 g).2.1 := (fz_113_0 (g := g))
theorem fz_115_0 {g : xe_G} : mt_all (frP [5] fzS) (mb_115_0 g) := mt_node_ok (mt_node_ok (mt_leaf_ok (fr_aload)) (mt_node_ok (mt_leaf_ok (fr_aload)) (mt_leaf_ok (fr_iload)))) (mt_node_ok (mt_leaf_ok (rfl)) (mt_node_ok (mt_leaf_ok (rfl)) (mt_leaf_ok (trivial))))
theorem fz_115 {g : xe_G} : mt_all (frP [5] fzS) (mb_115 g).2.1 := (fz_115_0 (g := g))
theorem fz_116_0 {g : xe_G} : mt_all (frP [5] fzS) (mb_116_0 g) := mt_node_ok (mt_node_ok (mt_node_ok (mt_node_ok (mt_leaf_ok (fr_aload)) (mt_node_ok (mt_leaf_ok (fr_iload)) (mt_leaf_ok (rfl)))) (mt_node_ok (mt_leaf_ok (fr_isto)) (mt_node_ok (mt_leaf_ok (fr_push)) (mt_leaf_ok (fr_isto))))) (mt_node_ok (mt_node_ok (mt_leaf_ok (fr_iload)) (mt_node_ok (mt_leaf_ok (fr_aload)) (mt_leaf_ok (fr_iload)))) (mt_node_ok (mt_node_ok (mt_leaf_ok (rfl)) (mt_leaf_ok (fr_if2))) (mt_node_ok (mt_leaf_ok (fr_aload)) (mt_leaf_ok (fr_get)))))) (mt_node_ok (mt_node_ok (mt_node_ok (mt_leaf_ok (fr_aload)) (mt_node_ok (mt_leaf_ok (fr_get)) (mt_leaf_ok (fr_iload)))) (mt_node_ok (mt_leaf_ok (fr_ald)) (mt_node_ok (mt_leaf_ok (fr_iload)) (mt_leaf_ok (fr_bin))))) (mt_node_ok (mt_node_ok (mt_leaf_ok (fr_ald)) (mt_node_ok (mt_leaf_ok (fr_push)) (mt_leaf_ok (fr_if2)))) (mt_node_ok (mt_node_ok (mt_leaf_ok (fr_iinc)) (mt_leaf_ok (fr_goto))) (mt_node_ok (mt_leaf_ok (fr_iload)) (mt_leaf_ok (trivial))))))
theorem fz_116 {g : xe_G} : mt_all (frP [5] fzS) (mb_116 g).2.1 := (fz_116_0 (g := g))
theorem fz_117_0 {g : xe_G} : mt_all (frP [5] fzS) (mb_117_0 g) := mt_node_ok (mt_node_ok (mt_node_ok (mt_node_ok (mt_leaf_ok (fr_iload)) (mt_leaf_ok (fr_if))) (mt_node_ok (mt_leaf_ok (fr_iload)) (mt_node_ok (mt_leaf_ok (fr_aload)) (mt_leaf_ok (fr_get))))) (mt_node_ok (mt_node_ok (mt_leaf_ok (fr_alen)) (mt_leaf_ok (fr_if2))) (mt_node_ok (mt_leaf_ok (fr_aload)) (mt_node_ok (mt_leaf_ok (fr_get)) (mt_leaf_ok (fr_iload)))))) (mt_node_ok (mt_node_ok (mt_node_ok (mt_leaf_ok (fr_ald)) (mt_leaf_ok (fr_push))) (mt_node_ok (mt_leaf_ok (fr_if2)) (mt_node_ok (mt_leaf_ok (fr_push)) (mt_leaf_ok (fr_goto))))) (mt_node_ok (mt_node_ok (mt_leaf_ok (fr_aload)) (mt_leaf_ok (fr_get))) (mt_node_ok (mt_leaf_ok (fr_iload)) (mt_node_ok (mt_leaf_ok (fr_ald)) (mt_leaf_ok (trivial))))))
theorem fz_117 {g : xe_G} : mt_all (frP [5] fzS) (mb_117 g).2.1 := (fz_117_0 (g := g))
theorem fz_122_0 {g : xe_G} : mt_all (frP [5] fzS) (mb_122_0 g) := mt_node_ok (mt_node_ok (mt_node_ok (mt_leaf_ok (fr_aload)) (mt_node_ok (mt_leaf_ok (fr_iload)) (mt_leaf_ok (rfl)))) (mt_node_ok (mt_node_ok (mt_leaf_ok (fr_push)) (mt_leaf_ok (fr_if2))) (mt_node_ok (mt_leaf_ok (fr_aload)) (mt_leaf_ok (fr_get))))) (mt_node_ok (mt_node_ok (mt_node_ok (mt_leaf_ok (fr_iload)) (mt_leaf_ok (fr_ald))) (mt_node_ok (mt_leaf_ok (fr_push)) (mt_leaf_ok (fr_if2)))) (mt_node_ok (mt_node_ok (mt_leaf_ok (fr_push)) (mt_leaf_ok (fr_goto))) (mt_node_ok (mt_leaf_ok (fr_push)) (mt_leaf_ok (trivial)))))
theorem fz_122 {g : xe_G} : mt_all (frP [5] fzS) (mb_122 g).2.1 := (fz_122_0 (g := g))
theorem fz_123_0 {g : xe_G} : mt_all (frP [5] fzS) (mb_123_0 g) := mt_node_ok (mt_node_ok (mt_node_ok (mt_node_ok (mt_leaf_ok (fr_aload)) (mt_leaf_ok (fr_iload))) (mt_node_ok (mt_leaf_ok (rfl)) (mt_leaf_ok (fr_push)))) (mt_node_ok (mt_node_ok (mt_leaf_ok (fr_if2)) (mt_leaf_ok (fr_aload))) (mt_node_ok (mt_leaf_ok (fr_aload)) (mt_node_ok (mt_leaf_ok (fr_get)) (mt_leaf_ok (fr_iload)))))) (mt_node_ok (mt_node_ok (mt_node_ok (mt_leaf_ok (fr_ald)) (mt_leaf_ok (fr_push))) (mt_node_ok (mt_leaf_ok (rfl)) (mt_leaf_ok (fr_push)))) (mt_node_ok (mt_node_ok (mt_leaf_ok (fr_if2)) (mt_leaf_ok (fr_push))) (mt_node_ok (mt_leaf_ok (fr_goto)) (mt_node_ok (mt_leaf_ok (fr_push)) (mt_leaf_ok (trivial))))))
theorem fz_123 {g : xe_G} : mt_all (frP [5] fzS) (mb_123 g).2.1 := (fz_123_0 (g := g))
theorem fz_128_0 {g : xe_G} : mt_all (frP [5] fzS) (mb_128_0 g) := mt_node_ok (mt_node_ok (mt_leaf_ok (fr_aload)) (mt_node_ok (mt_leaf_ok (fr_aload)) (mt_leaf_ok (fr_iload)))) (mt_node_ok (mt_leaf_ok (rfl)) (mt_node_ok (mt_leaf_ok (rfl)) (mt_leaf_ok (trivial))))
theorem fz_128 {g : xe_G} : mt_all (frP [5] fzS) (mb_128 g).2.1 := (fz_128_0 (g := g))
theorem fz_129_0 {g : xe_G} : mt_all (frP [5] fzS) (mb_129_0 g) := mt_node_ok (mt_node_ok (mt_leaf_ok (fr_aload)) (mt_node_ok (mt_leaf_ok (fr_aload)) (mt_leaf_ok (fr_iload)))) (mt_node_ok (mt_node_ok (mt_leaf_ok (rfl)) (mt_leaf_ok (fr_push))) (mt_node_ok (mt_leaf_ok (rfl)) (mt_leaf_ok (trivial))))
theorem fz_129 {g : xe_G} : mt_all (frP [5] fzS) (mb_129 g).2.1 := (fz_129_0 (g := g))
theorem fz_131_0 {g : xe_G} : mt_all (frP [5] fzS) (mb_131_0 g) := mt_node_ok (mt_node_ok (mt_node_ok (mt_node_ok (mt_leaf_ok (fr_aload)) (mt_leaf_ok (fr_iload))) (mt_node_ok (mt_leaf_ok (rfl)) (mt_node_ok (mt_leaf_ok (fr_push)) (mt_leaf_ok (fr_if2))))) (mt_node_ok (mt_node_ok (mt_leaf_ok (fr_aload)) (mt_leaf_ok (fr_get))) (mt_node_ok (mt_leaf_ok (fr_iload)) (mt_node_ok (mt_leaf_ok (fr_ald)) (mt_leaf_ok (fr_push)))))) (mt_node_ok (mt_node_ok (mt_node_ok (mt_leaf_ok (fr_if2)) (mt_leaf_ok (fr_push))) (mt_node_ok (mt_leaf_ok (trivial)) (mt_node_ok (mt_leaf_ok (fr_aload)) (mt_leaf_ok (fr_get))))) (mt_node_ok (mt_node_ok (mt_leaf_ok (fr_iload)) (mt_leaf_ok (fr_ald))) (mt_node_ok (mt_leaf_ok (fr_push)) (mt_node_ok (mt_leaf_ok (fr_div)) (mt_leaf_ok (trivial))))))
theorem fz_131 {g : xe_G} : mt_all (frP [5] fzS) (mb_131 g).2.1 := (fz_131_0 (g := g))
theorem fz_134_0 {g : xe_G} : mt_all (frP [5] fzS) (mb_134_0 g) := mt_node_ok (mt_node_ok (mt_node_ok (mt_node_ok (mt_leaf_ok (fr_iload)) (mt_leaf_ok (fr_if))) (mt_node_ok (mt_leaf_ok (fr_iload)) (mt_node_ok (mt_leaf_ok (fr_aload)) (mt_leaf_ok (fr_get))))) (mt_node_ok (mt_node_ok (mt_leaf_ok (fr_alen)) (mt_leaf_ok (fr_if2))) (mt_node_ok (mt_leaf_ok (fr_aload)) (mt_node_ok (mt_leaf_ok (fr_get)) (mt_leaf_ok (fr_iload)))))) (mt_node_ok (mt_node_ok (mt_node_ok (mt_leaf_ok (fr_ald)) (mt_leaf_ok (fr_push))) (mt_node_ok (mt_leaf_ok (fr_if2)) (mt_node_ok (mt_leaf_ok (fr_push)) (mt_leaf_ok (fr_goto))))) (mt_node_ok (mt_node_ok (mt_leaf_ok (fr_aload)) (mt_leaf_ok (fr_get))) (mt_node_ok (mt_leaf_ok (fr_iload)) (mt_node_ok (mt_leaf_ok (fr_ald)) (mt_leaf_ok (trivial))))))
theorem fz_134 {g : xe_G} : mt_all (frP [5] fzS) (mb_134 g).2.1 := (fz_134_0 (g := g))
theorem fz_138_0 {g : xe_G} : mt_all (frP [5] fzS) (mb_138_0 g) := mt_node_ok (mt_node_ok (mt_node_ok (mt_leaf_ok (fr_iload)) (mt_node_ok (mt_leaf_ok (fr_if)) (mt_leaf_ok (fr_iload)))) (mt_node_ok (mt_node_ok (mt_leaf_ok (fr_aload)) (mt_leaf_ok (fr_get))) (mt_node_ok (mt_leaf_ok (fr_alen)) (mt_leaf_ok (fr_if2))))) (mt_node_ok (mt_node_ok (mt_leaf_ok (fr_push)) (mt_node_ok (mt_leaf_ok (fr_goto)) (mt_leaf_ok (fr_aload)))) (mt_node_ok (mt_node_ok (mt_leaf_ok (fr_get)) (mt_leaf_ok (fr_iload))) (mt_node_ok (mt_leaf_ok (fr_ald)) (mt_leaf_ok (trivial)))))
theorem fz_138 {g : xe_G} : mt_all (frP [5] fzS) (mb_138 g).2.1 := (fz_138_0 (g := g))
theorem fz_140_0 {g : xe_G} : mt_all (frP [5] fzS) (mb_140_0 g) := mt_node_ok (mt_node_ok (mt_node_ok (mt_node_ok (mt_node_ok (mt_leaf_ok (fr_aload)) (mt_leaf_ok (fr_iload))) (mt_node_ok (mt_leaf_ok (rfl)) (mt_leaf_ok (fr_push)))) (mt_node_ok (mt_node_ok (mt_leaf_ok (fr_if2)) (mt_leaf_ok (fr_aload))) (mt_node_ok (mt_leaf_ok (fr_get)) (mt_node_ok (mt_leaf_ok (fr_iload)) (mt_leaf_ok (fr_ald)))))) (mt_node_ok (mt_node_ok (mt_node_ok (mt_leaf_ok (fr_aload)) (mt_leaf_ok (fr_slength))) (mt_node_ok (mt_leaf_ok (fr_if2)) (mt_node_ok (mt_leaf_ok (fr_push)) (mt_leaf_ok (trivial))))) (mt_node_ok (mt_node_ok (mt_leaf_ok (fr_push)) (mt_leaf_ok (fr_isto))) (mt_node_ok (mt_leaf_ok (fr_iload)) (mt_node_ok (mt_leaf_ok (fr_aload)) (mt_leaf_ok (fr_slength))))))) (mt_node_ok (mt_node_ok (mt_node_ok (mt_node_ok (mt_leaf_ok (fr_if2)) (mt_leaf_ok (fr_aload))) (mt_node_ok (mt_leaf_ok (fr_get)) (mt_node_ok (mt_leaf_ok (fr_aload)) (mt_leaf_ok (fr_get))))) (mt_node_ok (mt_node_ok (mt_leaf_ok (fr_iload)) (mt_leaf_ok (fr_ald))) (mt_node_ok (mt_leaf_ok (fr_iload)) (mt_node_ok (mt_leaf_ok (fr_bin)) (mt_leaf_ok (fr_ald)))))) (mt_node_ok (mt_node_ok (mt_node_ok (mt_leaf_ok (fr_aload)) (mt_leaf_ok (fr_iload))) (mt_node_ok (mt_leaf_ok (fr_scharAt)) (mt_node_ok (mt_leaf_ok (fr_if2)) (mt_leaf_ok (fr_push))))) (mt_node_ok (mt_node_ok (mt_leaf_ok (trivial)) (mt_leaf_ok (fr_iinc))) (mt_node_ok (mt_leaf_ok (fr_goto)) (mt_node_ok (mt_leaf_ok (fr_push)) (mt_leaf_ok (trivial)))))))
theorem fz_140 {g : xe_G} : mt_all (frP [5] fzS) (mb_140 g).2.1 := (fz_140_0 (g := g))
theorem fz_141_0 {g : xe_G} : mt_all (frP [5] fzS) (mb_141_0 g) := mt_node_ok (mt_node_ok (mt_node_ok (mt_leaf_ok (fr_aload)) (mt_node_ok (mt_leaf_ok (fr_iload)) (mt_leaf_ok (rfl)))) (mt_node_ok (mt_leaf_ok (fr_push)) (mt_node_ok (mt_leaf_ok (fr_if2)) (mt_leaf_ok (fr_aload))))) (mt_node_ok (mt_node_ok (mt_leaf_ok (fr_get)) (mt_node_ok (mt_leaf_ok (fr_iload)) (mt_leaf_ok (fr_ald)))) (mt_node_ok (mt_leaf_ok (fr_goto)) (mt_node_ok (mt_leaf_ok (fr_push)) (mt_leaf_ok (trivial)))))
theorem fz_141 {g : xe_G} : mt_all (frP [5] fzS) (mb_141 g).2.1 := (fz_141_0 (g := g))
theorem fz_all {g : xe_G} : ∀ y b, fzS.elem y = true → ¬ False → mT g y = some b → mt_all (frP [5] fzS) b.2.1 := by
  intro y b hy hx hb
  have hy : y ∈ fzS := by simpa using hy
  simp only [fzS, List.mem_cons, List.not_mem_nil, or_false] at hy
  rcases hy with rfl | rfl | rfl | rfl | rfl | rfl | rfl | rfl | rfl | rfl | rfl | rfl | rfl | rfl | rfl | rfl | rfl | rfl | rfl | rfl | rfl | rfl | rfl | rfl | rfl | rfl | rfl | rfl | rfl | rfl | rfl | rfl | rfl | rfl | rfl | rfl | rfl | rfl | rfl | rfl | rfl | rfl
  · cases (show some (mb_48 g) = some b from hb)
    exact fz_48 (g := g)
  · cases (show some (mb_49 g) = some b from hb)
    exact fz_49 (g := g)
  · cases (show some (mb_50 g) = some b from hb)
    exact fz_50 (g := g)
  · cases (show some (mb_75 g) = some b from hb)
    exact fz_75 (g := g)
  · cases (show some (mb_77 g) = some b from hb)
    exact fz_77 (g := g)
  · cases (show some (mb_78 g) = some b from hb)
    exact fz_78 (g := g)
  · cases (show some (mb_79 g) = some b from hb)
    exact fz_79 (g := g)
  · cases (show some (mb_81 g) = some b from hb)
    exact fz_81 (g := g)
  · cases (show some (mb_82 g) = some b from hb)
    exact fz_82 (g := g)
  · cases (show some (mb_85 g) = some b from hb)
    exact fz_85 (g := g)
  · cases (show some (mb_87 g) = some b from hb)
    exact fz_87 (g := g)
  · cases (show some (mb_88 g) = some b from hb)
    exact fz_88 (g := g)
  · cases (show some (mb_90 g) = some b from hb)
    exact fz_90 (g := g)
  · cases (show some (mb_91 g) = some b from hb)
    exact fz_91 (g := g)
  · cases (show some (mb_92 g) = some b from hb)
    exact fz_92 (g := g)
  · cases (show some (mb_93 g) = some b from hb)
    exact fz_93 (g := g)
  · cases (show some (mb_94 g) = some b from hb)
    exact fz_94 (g := g)
  · cases (show some (mb_95 g) = some b from hb)
    exact fz_95 (g := g)
  · cases (show some (mb_96 g) = some b from hb)
    exact fz_96 (g := g)
  · cases (show some (mb_97 g) = some b from hb)
    exact fz_97 (g := g)
  · cases (show some (mb_98 g) = some b from hb)
    exact fz_98 (g := g)
  · cases (show some (mb_99 g) = some b from hb)
    exact fz_99 (g := g)
  · cases (show some (mb_100 g) = some b from hb)
    exact fz_100 (g := g)
  · cases (show some (mb_101 g) = some b from hb)
    exact fz_101 (g := g)
  · cases (show some (mb_102 g) = some b from hb)
    exact fz_102 (g := g)
  · cases (show some (mb_103 g) = some b from hb)
    exact fz_103 (g := g)
  · cases (show some (mb_104 g) = some b from hb)
    exact fz_104 (g := g)
  · cases (show some (mb_105 g) = some b from hb)
    exact fz_105 (g := g)
  · cases (show some (mb_112 g) = some b from hb)
    exact fz_112 (g := g)
  · cases (show some (mb_113 g) = some b from hb)
    exact fz_113 (g := g)
  · cases (show some (mb_115 g) = some b from hb)
    exact fz_115 (g := g)
  · cases (show some (mb_116 g) = some b from hb)
    exact fz_116 (g := g)
  · cases (show some (mb_117 g) = some b from hb)
    exact fz_117 (g := g)
  · cases (show some (mb_122 g) = some b from hb)
    exact fz_122 (g := g)
  · cases (show some (mb_123 g) = some b from hb)
    exact fz_123 (g := g)
  · cases (show some (mb_128 g) = some b from hb)
    exact fz_128 (g := g)
  · cases (show some (mb_129 g) = some b from hb)
    exact fz_129 (g := g)
  · cases (show some (mb_131 g) = some b from hb)
    exact fz_131 (g := g)
  · cases (show some (mb_134 g) = some b from hb)
    exact fz_134 (g := g)
  · cases (show some (mb_138 g) = some b from hb)
    exact fz_138 (g := g)
  · cases (show some (mb_140 g) = some b from hb)
    exact fz_140 (g := g)
  · cases (show some (mb_141 g) = some b from hb)
    exact fz_141 (g := g)
theorem fz_run {g : xe_G} {y : Nat} {a : List Value} {M : mi_H} (hy : fzS.elem y = true) : pt (mT g) y a M (fun _ M' => frC [5] M M') := fun n d r h => fr_run (X := fun _ => False) (fun y b h1 _ h2 => fz_all y b h1 id h2) (fun _ _ _ _ _ _ h => h.elim) n d y a M r hy h
end FRA
end
section
/-! a run beside other cells is the same run, and leaves them as they were (laid by wip/p4/sep.py) -/
section SPA
/-- M2 is M with the cells F beside it -/
def spR (F : Nat → Option mi_C) (M M2 : mi_H) : Prop := M2.2 = M.2 ∧ (∀ a, F a ≠ none → M.1 a = none ∧ a < M.2.1) ∧ ∀ a, M2.1 a = (match F a with | some c => some c | none => M.1 a)
variable {F : Nat → Option mi_C} {M M2 : mi_H}
theorem spR.no {a : Nat} {c : mi_C} (h : spR F M M2) (ha : M.1 a = some c) : F a = none := by
  cases hf : F a with
  | none => rfl
  | some c' =>
    have := (h.2.1 a (by rw [hf]; exact fun e => by cases e)).1
    rw [ha] at this
    cases this
theorem spR.get {a : Nat} {c : mi_C} (h : spR F M M2) (ha : M.1 a = some c) : M2.1 a = some c := by
  rw [h.2.2 a, h.no ha]
  exact ha
theorem spR.old {a : Nat} {c : mi_C} (h : spR F M M2) (ha : F a = some c) : M2.1 a = some c := by
  rw [h.2.2 a, ha]
theorem spR.one {M3 : mi_H} (h : spR F M M2) (h' : spR F M M3) : M3 = M2 := by
  have e1 : M3.1 = M2.1 := by
    funext a
    rw [h.2.2 a, h'.2.2 a]
  have e2 : M3.2 = M2.2 := by rw [h.1, h'.1]
  exact Prod.ext e1 e2
theorem spR.up {a : Nat} {c c' : mi_C} (h : spR F M M2) (ha : M.1 a = some c) : spR F (va_up M.1 a (some c'), M.2) (va_up M2.1 a (some c'), M2.2) := by
  have hn := h.no ha
  refine ⟨h.1, fun b hb => ?_, fun b => ?_⟩
  · have hne : b ≠ a := fun e => hb (by rw [e]; exact hn)
    refine ⟨?_, (h.2.1 b hb).2⟩
    show va_up M.1 a (some c') b = none
    rw [va_up, if_neg hne]
    exact (h.2.1 b hb).1
  · show va_up M2.1 a (some c') b = _
    by_cases e : b = a
    · subst e
      rw [hn]
      show va_up M2.1 b (some c') b = va_up M.1 b (some c') b
      rw [va_up, va_up, if_pos rfl, if_pos rfl]
    · rw [va_up, if_neg e, h.2.2 b]
      show _ = (match F b with | some c => some c | none => va_up M.1 a (some c') b)
      rw [va_up, if_neg e]
theorem spR.new {c' : mi_C} {k : Nat} (h : spR F M M2) : spR F (va_up M.1 M.2.1 (some c'), M.2.1 + 1, M.2.2 + k) (va_up M2.1 M2.2.1 (some c'), M2.2.1 + 1, M2.2.2 + k) := by
  have e1 : M2.2.1 = M.2.1 := by rw [h.1]
  have e2 : M2.2.2 = M.2.2 := by rw [h.1]
  rw [e1, e2]
  have hn : F M.2.1 = none := by
    cases hf : F M.2.1 with
    | none => rfl
    | some c => exact absurd (h.2.1 _ (by rw [hf]; exact fun e => by cases e)).2 (Nat.lt_irrefl _)
  refine ⟨rfl, fun b hb => ?_, fun b => ?_⟩
  · have h1 := h.2.1 b hb
    have hne : b ≠ M.2.1 := Nat.ne_of_lt h1.2
    refine ⟨?_, Nat.lt_succ_of_lt h1.2⟩
    show va_up M.1 M.2.1 (some c') b = none
    rw [va_up, if_neg hne]
    exact h1.1
  · show va_up M2.1 M.2.1 (some c') b = _
    by_cases e : b = M.2.1
    · subst e
      rw [hn]
      show va_up M2.1 M.2.1 (some c') M.2.1 = va_up M.1 M.2.1 (some c') M.2.1
      rw [va_up, va_up, if_pos rfl, if_pos rfl]
    · rw [va_up, if_neg e, h.2.2 b]
      show _ = (match F b with | some c => some c | none => va_up M.1 M.2.1 (some c') b)
      rw [va_up, if_neg e]
theorem spR.gf {a ci k : Nat} {v : Value} (h : spR F M M2) (hv : mi_gf M a ci k = some v) : mi_gf M2 a ci k = some v := by
  unfold mi_gf at hv ⊢
  cases hc : M.1 a with
  | none => rw [hc] at hv; cases hv
  | some c => rw [h.get hc]; rw [hc] at hv; exact hv
theorem spR.ga {a : Nat} {ty : FieldType} {r : Nat × (Nat → Option Value)} (h : spR F M M2) (hv : mi_ga M a ty = some r) : mi_ga M2 a ty = some r := by
  unfold mi_ga at hv ⊢
  cases hc : M.1 a with
  | none => rw [hc] at hv; cases hv
  | some c => rw [h.get hc]; rw [hc] at hv; exact hv
theorem ga_in {a : Nat} {ty : FieldType} {r : Nat × (Nat → Option Value)} (hv : mi_ga M a ty = some r) : ∃ c, M.1 a = some c := by
  unfold mi_ga at hv
  cases hc : M.1 a with
  | none => rw [hc] at hv; cases hv
  | some c => exact ⟨c, rfl⟩
theorem spR.okv {C : String} {v : Nat} (h : spR F M M2) (hv : mi_ok M C v = true) : mi_ok M2 C v = true := by
  unfold mi_ok at hv ⊢
  cases hc : M.1 v with
  | none => rw [hc] at hv; cases hv
  | some c => rw [h.get hc]; rw [hc] at hv; exact hv
theorem spR.okc {k : Option Nat} {na : Nat} {pc : Nat} {lv : List (Nat × Value)} {st : List Value} (h : spR F M M2) (hv : mi_okc k na (pc, lv, st, M) = true) : mi_okc k na (pc, lv, st, M2) = true := by
  unfold mi_okc at hv ⊢
  dsimp only at hv ⊢
  rw [Bool.and_eq_true] at hv ⊢
  refine ⟨hv.1, ?_⟩
  have h2 := hv.2
  cases k with
  | none => rfl
  | some ci =>
    dsimp only at h2 ⊢
    cases hs : (st.take na).reverse with
    | nil => rw [hs] at h2; cases h2
    | cons v r =>
      rw [hs] at h2
      cases v with
      | ref b =>
        dsimp only at h2 ⊢
        cases hc : M.1 b with
        | none => rw [hc] at h2; cases h2
        | some c => rw [h.get hc]; rw [hc] at h2; exact h2
      | _ => cases h2
def spO (o : mi_O) : Prop := ∀ F pc lv st M S' M2, o (pc, lv, st, M) = some S' → spR F M M2 → ∃ M2', o (pc, lv, st, M2) = some (S'.1, S'.2.1, S'.2.2.1, M2') ∧ spR F S'.2.2.2 M2'
def spP (L : List Nat) : Nat → mi_N → Prop := fun _ e => match e with
  | .inl o => spO o
  | .inr (.inl c) => L.elem c.1 = true
  | .inr (.inr _) => True
theorem nk_sp {kl : Nat → Option (List Nat)} {pc : Nat} {lv : List (Nat × Value)} {st : List Value} {M1 M2 : mi_H} : ∃ lv', mi_nk kl (pc, lv, st, M1) = (pc, lv', st, M1) ∧ mi_nk kl (pc, lv, st, M2) = (pc, lv', st, M2) := by
  unfold mi_nk
  dsimp only
  split
  · exact ⟨_, rfl, rfl⟩
  · exact ⟨_, rfl, rfl⟩
theorem sp_loop {L : List Nat} {tb : mi_B} {call : Nat → List Value → mi_H → Option mi_R} (hb : mt_all (spP L) tb.1) (hc : ∀ y a M r F M2, L.elem y = true → call y a M = some r → spR F M M2 → ∃ M2', call y a M2 = some (r.1, M2') ∧ spR F r.2 M2') : ∀ n pc lv st M r F M2, mi_loop tb call n (pc, lv, st, M) = some r → spR F M M2 → ∃ M2', mi_loop tb call n (pc, lv, st, M2) = some (r.1, M2') ∧ spR F r.2 M2' := by
  intro n
  induction n with
  | zero => intro pc lv st M r F M2 h; cases h
  | succ n ih =>
    intro pc lv st M r F M2 h hs
    unfold mi_loop at h ⊢
    dsimp only at h ⊢
    cases he : tb.1 pc with
    | none => rw [he] at h; cases h
    | some e =>
      rw [he] at h
      have hp := hb pc e he
      rcases e with o | c | f
      · dsimp only at h ⊢
        cases ho : o (pc, lv, st, M) with
        | none => rw [ho] at h; cases h
        | some S' =>
          rw [ho] at h
          obtain ⟨p1, l1, s1, m1⟩ := S'
          obtain ⟨M3, h3, h4⟩ := hp F pc lv st M _ M2 ho hs
          dsimp only at h h3 h4 ⊢
          rw [h3]
          dsimp only
          obtain ⟨l2, k1, k2⟩ := nk_sp (kl := tb.2) (pc := p1) (lv := l1) (st := s1) (M1 := m1) (M2 := M3)
          rw [k1] at h
          rw [k2]
          exact ih _ _ _ _ _ _ _ h h4
      · dsimp only at h ⊢
        cases hk : mi_okc c.2.2 c.2.1 (pc, lv, st, M) with
        | false => rw [hk] at h; cases h
        | true =>
          rw [hk] at h
          rw [hs.okc hk]
          dsimp only at h ⊢
          cases hr : call c.1 (st.take c.2.1).reverse M with
          | none => rw [hr] at h; cases h
          | some r1 =>
            rw [hr] at h
            obtain ⟨M3, h3, h4⟩ := hc _ _ _ _ _ _ hp hr hs
            rw [h3]
            dsimp only at h ⊢
            obtain ⟨l2, k1, k2⟩ := nk_sp (kl := tb.2) (pc := pc + 3) (lv := lv) (st := r1.1.toList ++ st.drop c.2.1) (M1 := r1.2) (M2 := M3)
            rw [k1] at h
            rw [k2]
            exact ih _ _ _ _ _ _ _ h h4
      · dsimp only at h ⊢
        cases hf : f st with
        | none => rw [hf] at h; cases h
        | some v =>
          rw [hf] at h
          cases h
          exact ⟨M2, rfl, hs⟩
theorem sp_run {L : List Nat} {T : Nat → Option (Nat × mi_B)} (hT : ∀ y b, L.elem y = true → T y = some b → mt_all (spP L) b.2.1) (n : Nat) : ∀ d y a M r F M2, L.elem y = true → mi_run T n d y a M = some r → spR F M M2 → ∃ M2', mi_run T n d y a M2 = some (r.1, M2') ∧ spR F r.2 M2' := by
  intro d
  induction d with
  | zero => intro y a M r F M2 _ h; cases h
  | succ d ih =>
    intro y a M r F M2 hy h hs
    unfold mi_run at h ⊢
    cases hb : T y with
    | none => rw [hb] at h; cases h
    | some b =>
      rw [hb] at h
      dsimp only at h ⊢
      cases hd : decide ((lg_sl a).length ≤ b.1) with
      | false => rw [hd] at h; cases h
      | true =>
        rw [hd] at h
        exact sp_loop (hT y b hy hb) (fun y a M r F M2 hy hr hs => ih y a M r F M2 hy hr hs) n _ _ _ _ _ _ _ h hs
/-- a safe run beside other cells -/
theorem mt.sep {L : List Nat} {T : Nat → Option (Nat × mi_B)} {d y : Nat} {a : List Value} {Q : Option Value → mi_H → Prop} (hT : ∀ y b, L.elem y = true → T y = some b → mt_all (spP L) b.2.1) (hy : L.elem y = true) (h : mt T d y a M Q) (hs : spR F M M2) : mt T d y a M2 (fun v M2' => ∃ M', Q v M' ∧ spR F M' M2') := by
  obtain ⟨r, ⟨n0, hr⟩, hq⟩ := h
  obtain ⟨M3, h1, h2⟩ := sp_run hT n0 d y a M r F M2 hy (hr n0 (Nat.le_refl _)) hs
  refine ⟨(r.1, M3), ⟨n0, fun n hn => ?_⟩, r.2, hq, h2⟩
  obtain ⟨M4, h3, h4⟩ := sp_run hT n d y a M r F M2 hy (hr n hn) hs
  rw [h3, h2.one h4]

theorem sp_aast {C : String} : spO (o_aast C) := by
  intro F pc lv st M S' M2 h hs
  unfold o_aast at h ⊢
  dsimp only at h ⊢
  split at h
  · rename_i v i a st'
    cases hv : mi_ga M a (.object C) with
    | none => rw [hv] at h; cases h
    | some r =>
      rw [hv] at h
      dsimp only at h ⊢
      rw [hs.ga hv]
      dsimp only
      obtain ⟨c, hc⟩ := ga_in hv
      split at h
      · cases h
      · rename_i hi
        rw [if_neg hi]
        split at h
        · rename_i hk
          cases h
          rw [if_pos (hs.okv hk)]
          exact ⟨_, rfl, hs.up hc⟩
        · cases h
  · cases h
theorem sp_ald {ty : FieldType} : spO (o_ald ty) := by
  intro F pc lv st M S' M2 h hs
  unfold o_ald at h ⊢
  dsimp only at h ⊢
  split at h
  · rename_i i a st'
    cases hv : mi_ga M a ty with
    | none => rw [hv] at h; cases h
    | some r =>
      rw [hv] at h
      dsimp only at h ⊢
      rw [hs.ga hv]
      dsimp only
      split at h
      · cases h
      · rename_i hi
        rw [if_neg hi]
        cases hr : r.2 i.toNatClampNeg with
        | none => rw [hr] at h; cases h
        | some v =>
          rw [hr] at h
          cases h
          exact ⟨M2, rfl, hs⟩
  · cases h
theorem sp_alen {ty : FieldType} : spO (o_alen ty) := by
  intro F pc lv st M S' M2 h hs
  unfold o_alen at h ⊢
  dsimp only at h ⊢
  split at h
  · rename_i a st'
    cases hv : mi_ga M a ty with
    | none => rw [hv] at h; cases h
    | some r =>
      rw [hv] at h
      cases h
      dsimp only
      rw [hs.ga hv]
      exact ⟨M2, rfl, hs⟩
  · cases h
theorem sp_aload {i n : Nat} : spO (o_aload i n) := by
  intro F pc lv st M S' M2 h hs
  unfold o_aload at h ⊢
  dsimp only at h ⊢
  repeat' split at h
  all_goals first | (cases h; done) | (cases h; exact ⟨M2, rfl, hs⟩) | (cases h; refine ⟨M2, ?_, hs⟩; first | (rw [if_pos (by assumption)]; done) | (rw [if_neg (by assumption)]; done) | (simp only [*]; done))
theorem sp_anew {C : String} : spO (o_anew C) := by
  intro F pc lv st M S' M2 h hs
  unfold o_anew at h ⊢
  dsimp only at h ⊢
  have e : M2.2.1 = M.2.1 := by rw [hs.1]
  split at h
  · rename_i n st'
    split at h
    · cases h
    · rename_i hi
      cases h
      dsimp only
      rw [if_neg hi]
      refine ⟨_, ?_, hs.new⟩
      rw [e]
  · cases h
theorem sp_ast {ty : FieldType} {nar : Int32 → Int32} : spO (o_ast ty nar) := by
  intro F pc lv st M S' M2 h hs
  unfold o_ast at h ⊢
  dsimp only at h ⊢
  split at h
  · rename_i x i a st'
    cases hv : mi_ga M a ty with
    | none => rw [hv] at h; cases h
    | some r =>
      rw [hv] at h
      dsimp only at h ⊢
      rw [hs.ga hv]
      dsimp only
      obtain ⟨c, hc⟩ := ga_in hv
      split at h
      · cases h
      · rename_i hi
        cases h
        rw [if_neg hi]
        exact ⟨_, rfl, hs.up hc⟩
  · cases h
theorem sp_asto {i n : Nat} : spO (o_asto i n) := by
  intro F pc lv st M S' M2 h hs
  unfold o_asto at h ⊢
  dsimp only at h ⊢
  repeat' split at h
  all_goals first | (cases h; done) | (cases h; exact ⟨M2, rfl, hs⟩) | (cases h; refine ⟨M2, ?_, hs⟩; first | (rw [if_pos (by assumption)]; done) | (rw [if_neg (by assumption)]; done) | (simp only [*]; done))
theorem sp_bin {f : Int32 → Int32 → Int32} {n : Nat} : spO (o_bin f n) := by
  intro F pc lv st M S' M2 h hs
  unfold o_bin at h ⊢
  dsimp only at h ⊢
  repeat' split at h
  all_goals first | (cases h; done) | (cases h; exact ⟨M2, rfl, hs⟩) | (cases h; refine ⟨M2, ?_, hs⟩; first | (rw [if_pos (by assumption)]; done) | (rw [if_neg (by assumption)]; done) | (simp only [*]; done))
theorem sp_div {f : Int32 → Int32 → Int32} : spO (o_div f) := by
  intro F pc lv st M S' M2 h hs
  unfold o_div at h ⊢
  dsimp only at h ⊢
  repeat' split at h
  all_goals first | (cases h; done) | (cases h; exact ⟨M2, rfl, hs⟩) | (cases h; refine ⟨M2, ?_, hs⟩; first | (rw [if_pos (by assumption)]; done) | (rw [if_neg (by assumption)]; done) | (simp only [*]; done))
theorem sp_drop {n : Nat} : spO (o_drop n) := by
  intro F pc lv st M S' M2 h hs
  unfold o_drop at h ⊢
  dsimp only at h ⊢
  repeat' split at h
  all_goals first | (cases h; done) | (cases h; exact ⟨M2, rfl, hs⟩) | (cases h; refine ⟨M2, ?_, hs⟩; first | (rw [if_pos (by assumption)]; done) | (rw [if_neg (by assumption)]; done) | (simp only [*]; done))
theorem sp_dup  : spO (o_dup ) := by
  intro F pc lv st M S' M2 h hs
  unfold o_dup at h ⊢
  dsimp only at h ⊢
  repeat' split at h
  all_goals first | (cases h; done) | (cases h; exact ⟨M2, rfl, hs⟩) | (cases h; refine ⟨M2, ?_, hs⟩; first | (rw [if_pos (by assumption)]; done) | (rw [if_neg (by assumption)]; done) | (simp only [*]; done))
theorem sp_get {ci k : Nat} : spO (o_get ci k) := by
  intro F pc lv st M S' M2 h hs
  unfold o_get at h ⊢
  dsimp only at h ⊢
  split at h
  · rename_i a st'
    cases hv : mi_gf M a ci k with
    | none => rw [hv] at h; cases h
    | some v =>
      rw [hv] at h
      cases h
      dsimp only
      rw [hs.gf hv]
      exact ⟨M2, rfl, hs⟩
  · cases h
theorem sp_goto {t : Nat} : spO (o_goto t) := by
  intro F pc lv st M S' M2 h hs
  unfold o_goto at h ⊢
  dsimp only at h ⊢
  repeat' split at h
  all_goals first | (cases h; done) | (cases h; exact ⟨M2, rfl, hs⟩) | (cases h; refine ⟨M2, ?_, hs⟩; first | (rw [if_pos (by assumption)]; done) | (rw [if_neg (by assumption)]; done) | (simp only [*]; done))
theorem sp_if {f : Int32 → Bool} {t : Nat} : spO (o_if f t) := by
  intro F pc lv st M S' M2 h hs
  unfold o_if at h ⊢
  dsimp only at h ⊢
  repeat' split at h
  all_goals first | (cases h; done) | (cases h; exact ⟨M2, rfl, hs⟩) | (cases h; refine ⟨M2, ?_, hs⟩; first | (rw [if_pos (by assumption)]; done) | (rw [if_neg (by assumption)]; done) | (simp only [*]; done))
theorem sp_if2 {f : Int32 → Int32 → Bool} {t : Nat} : spO (o_if2 f t) := by
  intro F pc lv st M S' M2 h hs
  unfold o_if2 at h ⊢
  dsimp only at h ⊢
  repeat' split at h
  all_goals first | (cases h; done) | (cases h; exact ⟨M2, rfl, hs⟩) | (cases h; refine ⟨M2, ?_, hs⟩; first | (rw [if_pos (by assumption)]; done) | (rw [if_neg (by assumption)]; done) | (simp only [*]; done))
theorem sp_iinc {i : Nat} {n : Int32} : spO (o_iinc i n) := by
  intro F pc lv st M S' M2 h hs
  unfold o_iinc at h ⊢
  dsimp only at h ⊢
  repeat' split at h
  all_goals first | (cases h; done) | (cases h; exact ⟨M2, rfl, hs⟩) | (cases h; refine ⟨M2, ?_, hs⟩; first | (rw [if_pos (by assumption)]; done) | (rw [if_neg (by assumption)]; done) | (simp only [*]; done))
theorem sp_iload {i n : Nat} : spO (o_iload i n) := by
  intro F pc lv st M S' M2 h hs
  unfold o_iload at h ⊢
  dsimp only at h ⊢
  repeat' split at h
  all_goals first | (cases h; done) | (cases h; exact ⟨M2, rfl, hs⟩) | (cases h; refine ⟨M2, ?_, hs⟩; first | (rw [if_pos (by assumption)]; done) | (rw [if_neg (by assumption)]; done) | (simp only [*]; done))
theorem sp_isto {i n : Nat} : spO (o_isto i n) := by
  intro F pc lv st M S' M2 h hs
  unfold o_isto at h ⊢
  dsimp only at h ⊢
  repeat' split at h
  all_goals first | (cases h; done) | (cases h; exact ⟨M2, rfl, hs⟩) | (cases h; refine ⟨M2, ?_, hs⟩; first | (rw [if_pos (by assumption)]; done) | (rw [if_neg (by assumption)]; done) | (simp only [*]; done))
theorem sp_mm {f : Int32 → Int32 → Int32} : spO (o_mm f) := by
  intro F pc lv st M S' M2 h hs
  unfold o_mm at h ⊢
  dsimp only at h ⊢
  repeat' split at h
  all_goals first | (cases h; done) | (cases h; exact ⟨M2, rfl, hs⟩) | (cases h; refine ⟨M2, ?_, hs⟩; first | (rw [if_pos (by assumption)]; done) | (rw [if_neg (by assumption)]; done) | (simp only [*]; done))
theorem sp_new {ci N : Nat} {ds : List Value} : spO (o_new ci N ds) := by
  intro F pc lv st M S' M2 h hs
  unfold o_new at h ⊢
  cases h
  have e : M2.2.1 = M.2.1 := by rw [hs.1]
  refine ⟨_, ?_, hs.new⟩
  dsimp only
  rw [e]
theorem sp_newa {ty : FieldType} : spO (o_newa ty) := by
  intro F pc lv st M S' M2 h hs
  unfold o_newa at h ⊢
  dsimp only at h ⊢
  have e : M2.2.1 = M.2.1 := by rw [hs.1]
  split at h
  · rename_i n st'
    split at h
    · cases h
    · rename_i hi
      cases h
      dsimp only
      rw [if_neg hi]
      refine ⟨_, ?_, hs.new⟩
      rw [e]
  · cases h
theorem sp_null {a b : Nat} : spO (o_null a b) := by
  intro F pc lv st M S' M2 h hs
  unfold o_null at h ⊢
  dsimp only at h ⊢
  repeat' split at h
  all_goals first | (cases h; done) | (cases h; exact ⟨M2, rfl, hs⟩) | (cases h; refine ⟨M2, ?_, hs⟩; first | (rw [if_pos (by assumption)]; done) | (rw [if_neg (by assumption)]; done) | (simp only [*]; done))
theorem sp_push {v : Value} {n : Nat} : spO (o_push v n) := by
  intro F pc lv st M S' M2 h hs
  unfold o_push at h ⊢
  dsimp only at h ⊢
  repeat' split at h
  all_goals first | (cases h; done) | (cases h; exact ⟨M2, rfl, hs⟩) | (cases h; refine ⟨M2, ?_, hs⟩; first | (rw [if_pos (by assumption)]; done) | (rw [if_neg (by assumption)]; done) | (simp only [*]; done))
theorem sp_put {ci k : Nat} {ty : FieldType} : spO (o_put ci k ty) := by
  intro F pc lv st M S' M2 h hs
  unfold o_put at h ⊢
  dsimp only at h ⊢
  split at h
  · rename_i v a st'
    cases hc : M.1 a with
    | none => rw [hc] at h; cases h
    | some c =>
      rw [hc] at h
      cases c with
      | inl r => cases h
      | inr o =>
        dsimp only at h ⊢
        rw [hs.get hc]
        dsimp only
        split at h
        · rename_i hq
          cases h
          rw [if_pos hq]
          exact ⟨_, rfl, hs.up hc⟩
        · cases h
  · cases h
theorem sp_scharAt : spO o_scharAt := by
  intro F pc lv st M S' M2 h hs
  unfold o_scharAt at h ⊢
  dsimp only at h ⊢
  split at h
  · rename_i a st'
    cases hc : M.1 a with
    | none => rw [hc] at h; cases h
    | some c =>
      rw [hc] at h
      cases c with
      | inl r => cases h
      | inr o =>
        dsimp only at h ⊢
        rw [hs.get hc]
        dsimp only
        split at h
        · rename_i hq
          cases h
          rw [if_pos hq]
          exact ⟨M2, rfl, hs⟩
        · cases h
  · cases h
theorem sp_slength : spO o_slength := by
  intro F pc lv st M S' M2 h hs
  unfold o_slength at h ⊢
  dsimp only at h ⊢
  split at h
  · rename_i a st'
    cases hc : M.1 a with
    | none => rw [hc] at h; cases h
    | some c =>
      rw [hc] at h
      cases c with
      | inl r => cases h
      | inr o =>
        dsimp only at h ⊢
        rw [hs.get hc]
        dsimp only
        split at h
        · rename_i hq
          cases h
          rw [if_pos hq]
          exact ⟨M2, rfl, hs⟩
        · cases h
  · cases h
theorem sp_sw {ps : List (Int × Nat)} {dt : Nat} : spO (o_sw ps dt) := by
  intro F pc lv st M S' M2 h hs
  unfold o_sw at h ⊢
  dsimp only at h ⊢
  repeat' split at h
  all_goals first | (cases h; done) | (cases h; exact ⟨M2, rfl, hs⟩) | (cases h; refine ⟨M2, ?_, hs⟩; first | (rw [if_pos (by assumption)]; done) | (rw [if_neg (by assumption)]; done) | (simp only [*]; done))
theorem sp_un {f : Int32 → Int32} : spO (o_un f) := by
  intro F pc lv st M S' M2 h hs
  unfold o_un at h ⊢
  dsimp only at h ⊢
  repeat' split at h
  all_goals first | (cases h; done) | (cases h; exact ⟨M2, rfl, hs⟩) | (cases h; refine ⟨M2, ?_, hs⟩; first | (rw [if_pos (by assumption)]; done) | (rw [if_neg (by assumption)]; done) | (simp only [*]; done))
def srS : List Nat := [11, 13, 18, 21, 22, 23, 24, 25, 26, 27, 28, 29, 30, 31, 32, 33, 34, 35, 36, 37, 38, 39, 40, 41, 42, 43, 44, 45, 46, 47, 48, 49, 50, 51, 52, 53, 54, 55, 56, 57, 58, 59, 60, 61, 62, 63, 64, 65, 66, 67, 68, 71, 74, 86, 106, 108, 110, 111, 112, 113, 114, 115, 117, 118, 119, 120, 121, 122, 123, 124, 125, 126, 127, 128, 129, 130, 132, 133, 134, 135, 136, 137, 138, 139, 140, 141, 142, 143, 144, 145, 146, 147, 148, 149, 150, 151, 152, 153, 154, 155, 156, 157, 158, 159, 160, 161, 162, 163, 164, 165, 166, 167, 168, 169, 170, 171, 172, 258]
theorem sr_11_0 {g : xe_G} : mt_all (spP srS) (mb_11_0 g) := mt_node_ok (mt_node_ok (mt_node_ok (mt_node_ok (mt_node_ok (mt_leaf_ok (sp_aload)) (mt_node_ok (mt_leaf_ok (sp_get)) (mt_leaf_ok (rfl)))) (mt_node_ok (mt_leaf_ok (sp_new)) (mt_node_ok (mt_leaf_ok (sp_dup)) (mt_leaf_ok (sp_aload))))) (mt_node_ok (mt_node_ok (mt_leaf_ok (sp_aload)) (mt_node_ok (mt_leaf_ok (rfl)) (mt_leaf_ok (sp_asto)))) (mt_node_ok (mt_leaf_ok (sp_new)) (mt_node_ok (mt_leaf_ok (sp_dup)) (mt_leaf_ok (sp_aload)))))) (mt_node_ok (mt_node_ok (mt_node_ok (mt_leaf_ok (sp_aload)) (mt_node_ok (mt_leaf_ok (rfl)) (mt_leaf_ok (sp_asto)))) (mt_node_ok (mt_leaf_ok (sp_new)) (mt_node_ok (mt_leaf_ok (sp_dup)) (mt_leaf_ok (sp_aload))))) (mt_node_ok (mt_node_ok (mt_leaf_ok (sp_aload)) (mt_node_ok (mt_leaf_ok (sp_aload)) (mt_leaf_ok (rfl)))) (mt_node_ok (mt_leaf_ok (sp_asto)) (mt_node_ok (mt_leaf_ok (sp_aload)) (mt_leaf_ok (rfl))))))) (mt_node_ok (mt_node_ok (mt_node_ok (mt_node_ok (mt_leaf_ok (sp_if)) (mt_node_ok (mt_leaf_ok (sp_aload)) (mt_leaf_ok (rfl)))) (mt_node_ok (mt_leaf_ok (sp_if)) (mt_node_ok (mt_leaf_ok (sp_aload)) (mt_leaf_ok (rfl))))) (mt_node_ok (mt_node_ok (mt_leaf_ok (sp_if)) (mt_node_ok (mt_leaf_ok (sp_aload)) (mt_leaf_ok (rfl)))) (mt_node_ok (mt_leaf_ok (sp_if)) (mt_node_ok (mt_leaf_ok (sp_aload)) (mt_leaf_ok (rfl)))))) (mt_node_ok (mt_node_ok (mt_node_ok (mt_leaf_ok (sp_if)) (mt_node_ok (mt_leaf_ok (sp_aload)) (mt_leaf_ok (rfl)))) (mt_node_ok (mt_leaf_ok (sp_if)) (mt_node_ok (mt_leaf_ok (sp_aload)) (mt_leaf_ok (sp_aload))))) (mt_node_ok (mt_node_ok (mt_leaf_ok (sp_get)) (mt_node_ok (mt_leaf_ok (rfl)) (mt_leaf_ok (sp_if)))) (mt_node_ok (mt_leaf_ok (sp_push)) (mt_node_ok (mt_leaf_ok (sp_goto)) (mt_leaf_ok (sp_push)))))))
theorem sr_11_1 {g : xe_G} : mt_all (spP srS) (mb_11_1 g) := mt_leaf_ok (trivial)
theorem sr_11 {g : xe_G} : mt_all (spP srS) (mb_11 g).2.1 := mt_node_ok ((sr_11_0 (g := g))) ((sr_11_1 (g := g)))
theorem sr_13_0 {g : xe_G} : mt_all (spP srS) (mb_13_0 g) := mt_node_ok (mt_node_ok (mt_node_ok (mt_node_ok (mt_leaf_ok (sp_new)) (mt_node_ok (mt_leaf_ok (sp_dup)) (mt_leaf_ok (sp_aload)))) (mt_node_ok (mt_node_ok (mt_leaf_ok (sp_aload)) (mt_leaf_ok (rfl))) (mt_node_ok (mt_leaf_ok (sp_asto)) (mt_leaf_ok (sp_aload))))) (mt_node_ok (mt_node_ok (mt_leaf_ok (rfl)) (mt_node_ok (mt_leaf_ok (sp_if)) (mt_leaf_ok (sp_aload)))) (mt_node_ok (mt_node_ok (mt_leaf_ok (rfl)) (mt_leaf_ok (sp_if))) (mt_node_ok (mt_leaf_ok (sp_aload)) (mt_leaf_ok (rfl)))))) (mt_node_ok (mt_node_ok (mt_node_ok (mt_leaf_ok (sp_if)) (mt_node_ok (mt_leaf_ok (sp_aload)) (mt_leaf_ok (rfl)))) (mt_node_ok (mt_node_ok (mt_leaf_ok (sp_if)) (mt_leaf_ok (sp_aload))) (mt_node_ok (mt_leaf_ok (rfl)) (mt_leaf_ok (sp_if))))) (mt_node_ok (mt_node_ok (mt_leaf_ok (sp_aload)) (mt_node_ok (mt_leaf_ok (rfl)) (mt_leaf_ok (sp_if)))) (mt_node_ok (mt_node_ok (mt_leaf_ok (sp_push)) (mt_leaf_ok (sp_goto))) (mt_node_ok (mt_leaf_ok (sp_push)) (mt_leaf_ok (trivial))))))
theorem sr_13 {g : xe_G} : mt_all (spP srS) (mb_13 g).2.1 := (sr_13_0 (g := g))
theorem sr_18_0 {g : xe_G} : mt_all (spP srS) (mb_18_0 g) := mt_node_ok (mt_node_ok (mt_node_ok (mt_node_ok (mt_node_ok (mt_leaf_ok (sp_new)) (mt_leaf_ok (sp_dup))) (mt_node_ok (mt_leaf_ok (sp_new)) (mt_leaf_ok (sp_dup)))) (mt_node_ok (mt_node_ok (mt_leaf_ok (sp_aload)) (mt_leaf_ok (sp_get))) (mt_node_ok (mt_leaf_ok (rfl)) (mt_leaf_ok (rfl))))) (mt_node_ok (mt_node_ok (mt_node_ok (mt_leaf_ok (sp_asto)) (mt_leaf_ok (sp_new))) (mt_node_ok (mt_leaf_ok (sp_dup)) (mt_leaf_ok (rfl)))) (mt_node_ok (mt_node_ok (mt_leaf_ok (sp_asto)) (mt_leaf_ok (sp_aload))) (mt_node_ok (mt_leaf_ok (sp_push)) (mt_node_ok (mt_leaf_ok (sp_put)) (mt_leaf_ok (sp_aload))))))) (mt_node_ok (mt_node_ok (mt_node_ok (mt_node_ok (mt_leaf_ok (sp_aload)) (mt_leaf_ok (rfl))) (mt_node_ok (mt_leaf_ok (sp_if)) (mt_leaf_ok (sp_aload)))) (mt_node_ok (mt_node_ok (mt_leaf_ok (sp_aload)) (mt_leaf_ok (rfl))) (mt_node_ok (mt_leaf_ok (sp_if)) (mt_leaf_ok (sp_aload))))) (mt_node_ok (mt_node_ok (mt_node_ok (mt_leaf_ok (sp_aload)) (mt_leaf_ok (sp_put))) (mt_node_ok (mt_leaf_ok (sp_aload)) (mt_leaf_ok (sp_aload)))) (mt_node_ok (mt_node_ok (mt_leaf_ok (sp_get)) (mt_leaf_ok (sp_put))) (mt_node_ok (mt_leaf_ok (sp_aload)) (mt_node_ok (mt_leaf_ok (sp_get)) (mt_leaf_ok (trivial)))))))
theorem sr_18 {g : xe_G} : mt_all (spP srS) (mb_18 g).2.1 := (sr_18_0 (g := g))
theorem sr_21_0 {g : xe_G} : mt_all (spP srS) (mb_21_0 g) := mt_node_ok (mt_node_ok (mt_node_ok (mt_node_ok (mt_leaf_ok (sp_aload)) (mt_leaf_ok (sp_drop))) (mt_node_ok (mt_leaf_ok (sp_aload)) (mt_leaf_ok (sp_aload)))) (mt_node_ok (mt_node_ok (mt_leaf_ok (sp_put)) (mt_leaf_ok (sp_aload))) (mt_node_ok (mt_leaf_ok (sp_aload)) (mt_leaf_ok (sp_put))))) (mt_node_ok (mt_node_ok (mt_node_ok (mt_leaf_ok (sp_aload)) (mt_leaf_ok (sp_aload))) (mt_node_ok (mt_leaf_ok (sp_get)) (mt_leaf_ok (sp_put)))) (mt_node_ok (mt_node_ok (mt_leaf_ok (sp_aload)) (mt_leaf_ok (sp_aload))) (mt_node_ok (mt_leaf_ok (sp_get)) (mt_node_ok (mt_leaf_ok (sp_put)) (mt_leaf_ok (trivial))))))
theorem sr_21 {g : xe_G} : mt_all (spP srS) (mb_21 g).2.1 := (sr_21_0 (g := g))
theorem sr_22_0 {g : xe_G} : mt_all (spP srS) (mb_22_0 g) := mt_node_ok (mt_node_ok (mt_node_ok (mt_node_ok (mt_node_ok (mt_leaf_ok (sp_aload)) (mt_leaf_ok (sp_get))) (mt_node_ok (mt_leaf_ok (sp_iload)) (mt_leaf_ok (sp_push)))) (mt_node_ok (mt_node_ok (mt_leaf_ok (sp_bin)) (mt_leaf_ok (rfl))) (mt_node_ok (mt_leaf_ok (sp_isto)) (mt_leaf_ok (sp_push))))) (mt_node_ok (mt_node_ok (mt_node_ok (mt_leaf_ok (sp_isto)) (mt_leaf_ok (sp_iload))) (mt_node_ok (mt_leaf_ok (sp_iload)) (mt_leaf_ok (sp_if2)))) (mt_node_ok (mt_node_ok (mt_leaf_ok (sp_aload)) (mt_leaf_ok (sp_get))) (mt_node_ok (mt_leaf_ok (sp_aload)) (mt_leaf_ok (sp_get)))))) (mt_node_ok (mt_node_ok (mt_node_ok (mt_node_ok (mt_leaf_ok (sp_iload)) (mt_leaf_ok (sp_push))) (mt_node_ok (mt_leaf_ok (sp_bin)) (mt_leaf_ok (sp_push)))) (mt_node_ok (mt_node_ok (mt_leaf_ok (sp_iload)) (mt_leaf_ok (sp_bin))) (mt_node_ok (mt_leaf_ok (sp_bin)) (mt_leaf_ok (rfl))))) (mt_node_ok (mt_node_ok (mt_node_ok (mt_leaf_ok (rfl)) (mt_leaf_ok (sp_push))) (mt_node_ok (mt_leaf_ok (sp_if2)) (mt_leaf_ok (sp_push)))) (mt_node_ok (mt_node_ok (mt_leaf_ok (trivial)) (mt_leaf_ok (sp_iinc))) (mt_node_ok (mt_leaf_ok (sp_goto)) (mt_node_ok (mt_leaf_ok (sp_push)) (mt_leaf_ok (trivial)))))))
theorem sr_22 {g : xe_G} : mt_all (spP srS) (mb_22 g).2.1 := (sr_22_0 (g := g))
theorem sr_23_0 {g : xe_G} : mt_all (spP srS) (mb_23_0 g) := mt_node_ok (mt_node_ok (mt_node_ok (mt_leaf_ok (sp_iload)) (mt_leaf_ok (sp_push))) (mt_node_ok (mt_leaf_ok (sp_bin)) (mt_node_ok (mt_leaf_ok (sp_aload)) (mt_leaf_ok (sp_get))))) (mt_node_ok (mt_node_ok (mt_leaf_ok (sp_iload)) (mt_node_ok (mt_leaf_ok (sp_push)) (mt_leaf_ok (sp_bin)))) (mt_node_ok (mt_leaf_ok (rfl)) (mt_node_ok (mt_leaf_ok (sp_bin)) (mt_leaf_ok (trivial)))))
theorem sr_23 {g : xe_G} : mt_all (spP srS) (mb_23 g).2.1 := (sr_23_0 (g := g))
theorem sr_24_0 {g : xe_G} : mt_all (spP srS) (mb_24_0 g) := mt_node_ok (mt_node_ok (mt_node_ok (mt_node_ok (mt_node_ok (mt_leaf_ok (sp_aload)) (mt_leaf_ok (sp_get))) (mt_node_ok (mt_leaf_ok (sp_iload)) (mt_leaf_ok (rfl)))) (mt_node_ok (mt_node_ok (mt_leaf_ok (sp_isto)) (mt_leaf_ok (sp_iload))) (mt_node_ok (mt_leaf_ok (sp_push)) (mt_node_ok (mt_leaf_ok (sp_bin)) (mt_leaf_ok (sp_isto)))))) (mt_node_ok (mt_node_ok (mt_node_ok (mt_leaf_ok (sp_push)) (mt_leaf_ok (sp_isto))) (mt_node_ok (mt_leaf_ok (sp_iload)) (mt_node_ok (mt_leaf_ok (sp_iload)) (mt_leaf_ok (sp_if2))))) (mt_node_ok (mt_node_ok (mt_leaf_ok (sp_iload)) (mt_leaf_ok (sp_iload))) (mt_node_ok (mt_leaf_ok (sp_bin)) (mt_node_ok (mt_leaf_ok (sp_push)) (mt_leaf_ok (sp_if2))))))) (mt_node_ok (mt_node_ok (mt_node_ok (mt_node_ok (mt_leaf_ok (sp_push)) (mt_leaf_ok (trivial))) (mt_node_ok (mt_leaf_ok (sp_iload)) (mt_leaf_ok (sp_push)))) (mt_node_ok (mt_node_ok (mt_leaf_ok (sp_push)) (mt_leaf_ok (sp_aload))) (mt_node_ok (mt_leaf_ok (sp_get)) (mt_node_ok (mt_leaf_ok (sp_iload)) (mt_leaf_ok (sp_push)))))) (mt_node_ok (mt_node_ok (mt_node_ok (mt_leaf_ok (sp_bin)) (mt_leaf_ok (rfl))) (mt_node_ok (mt_leaf_ok (sp_bin)) (mt_node_ok (mt_leaf_ok (sp_bin)) (mt_leaf_ok (sp_bin))))) (mt_node_ok (mt_node_ok (mt_leaf_ok (sp_isto)) (mt_leaf_ok (sp_iinc))) (mt_node_ok (mt_leaf_ok (sp_goto)) (mt_node_ok (mt_leaf_ok (sp_iload)) (mt_leaf_ok (trivial)))))))
theorem sr_24 {g : xe_G} : mt_all (spP srS) (mb_24 g).2.1 := (sr_24_0 (g := g))
theorem sr_25_0 {g : xe_G} : mt_all (spP srS) (mb_25_0 g) := mt_node_ok (mt_node_ok (mt_node_ok (mt_node_ok (mt_node_ok (mt_leaf_ok (sp_aload)) (mt_node_ok (mt_leaf_ok (sp_get)) (mt_leaf_ok (sp_get)))) (mt_node_ok (mt_leaf_ok (sp_isto)) (mt_node_ok (mt_leaf_ok (sp_push)) (mt_leaf_ok (sp_isto))))) (mt_node_ok (mt_node_ok (mt_leaf_ok (sp_iload)) (mt_node_ok (mt_leaf_ok (sp_aload)) (mt_leaf_ok (sp_get)))) (mt_node_ok (mt_leaf_ok (sp_get)) (mt_node_ok (mt_leaf_ok (sp_if2)) (mt_leaf_ok (sp_aload)))))) (mt_node_ok (mt_node_ok (mt_node_ok (mt_leaf_ok (sp_get)) (mt_node_ok (mt_leaf_ok (sp_aload)) (mt_leaf_ok (sp_get)))) (mt_node_ok (mt_leaf_ok (sp_iload)) (mt_node_ok (mt_leaf_ok (rfl)) (mt_leaf_ok (rfl))))) (mt_node_ok (mt_node_ok (mt_leaf_ok (sp_push)) (mt_node_ok (mt_leaf_ok (sp_if2)) (mt_leaf_ok (sp_push)))) (mt_node_ok (mt_leaf_ok (trivial)) (mt_node_ok (mt_leaf_ok (sp_aload)) (mt_leaf_ok (sp_get))))))) (mt_node_ok (mt_node_ok (mt_node_ok (mt_node_ok (mt_leaf_ok (sp_iload)) (mt_node_ok (mt_leaf_ok (sp_push)) (mt_leaf_ok (sp_bin)))) (mt_node_ok (mt_leaf_ok (rfl)) (mt_node_ok (mt_leaf_ok (sp_isto)) (mt_leaf_ok (sp_iinc))))) (mt_node_ok (mt_node_ok (mt_leaf_ok (sp_push)) (mt_node_ok (mt_leaf_ok (sp_isto)) (mt_leaf_ok (sp_iload)))) (mt_node_ok (mt_leaf_ok (sp_iload)) (mt_node_ok (mt_leaf_ok (sp_if2)) (mt_leaf_ok (sp_aload)))))) (mt_node_ok (mt_node_ok (mt_node_ok (mt_leaf_ok (sp_get)) (mt_node_ok (mt_leaf_ok (sp_aload)) (mt_leaf_ok (sp_get)))) (mt_node_ok (mt_leaf_ok (sp_iload)) (mt_node_ok (mt_leaf_ok (rfl)) (mt_leaf_ok (rfl))))) (mt_node_ok (mt_node_ok (mt_leaf_ok (rfl)) (mt_node_ok (mt_leaf_ok (sp_if)) (mt_leaf_ok (sp_push)))) (mt_node_ok (mt_leaf_ok (trivial)) (mt_node_ok (mt_leaf_ok (sp_iinc)) (mt_leaf_ok (sp_iinc)))))))
theorem sr_25_1 {g : xe_G} : mt_all (spP srS) (mb_25_1 g) := mt_node_ok (mt_node_ok (mt_leaf_ok (sp_goto)) (mt_leaf_ok (sp_iinc))) (mt_node_ok (mt_leaf_ok (sp_goto)) (mt_node_ok (mt_leaf_ok (sp_push)) (mt_leaf_ok (trivial))))
theorem sr_25 {g : xe_G} : mt_all (spP srS) (mb_25 g).2.1 := mt_node_ok ((sr_25_0 (g := g))) ((sr_25_1 (g := g)))
theorem sr_26_0 {g : xe_G} : mt_all (spP srS) (mb_26_0 g) := mt_node_ok (mt_node_ok (mt_node_ok (mt_node_ok (mt_node_ok (mt_leaf_ok (sp_iload)) (mt_node_ok (mt_leaf_ok (sp_sw)) (mt_leaf_ok (sp_aload)))) (mt_node_ok (mt_leaf_ok (sp_get)) (mt_node_ok (mt_leaf_ok (sp_aload)) (mt_leaf_ok (sp_get))))) (mt_node_ok (mt_node_ok (mt_leaf_ok (sp_iload)) (mt_node_ok (mt_leaf_ok (sp_push)) (mt_leaf_ok (sp_bin)))) (mt_node_ok (mt_leaf_ok (rfl)) (mt_node_ok (mt_leaf_ok (sp_put)) (mt_leaf_ok (sp_aload)))))) (mt_node_ok (mt_node_ok (mt_node_ok (mt_leaf_ok (sp_iload)) (mt_node_ok (mt_leaf_ok (rfl)) (mt_leaf_ok (sp_if)))) (mt_node_ok (mt_leaf_ok (sp_push)) (mt_node_ok (mt_leaf_ok (sp_goto)) (mt_leaf_ok (sp_push))))) (mt_node_ok (mt_node_ok (mt_leaf_ok (trivial)) (mt_node_ok (mt_leaf_ok (sp_aload)) (mt_leaf_ok (sp_get)))) (mt_node_ok (mt_leaf_ok (sp_aload)) (mt_node_ok (mt_leaf_ok (sp_get)) (mt_leaf_ok (sp_iload))))))) (mt_node_ok (mt_node_ok (mt_node_ok (mt_node_ok (mt_leaf_ok (sp_push)) (mt_node_ok (mt_leaf_ok (sp_bin)) (mt_leaf_ok (rfl)))) (mt_node_ok (mt_leaf_ok (rfl)) (mt_node_ok (mt_leaf_ok (sp_push)) (mt_leaf_ok (sp_if2))))) (mt_node_ok (mt_node_ok (mt_leaf_ok (sp_aload)) (mt_node_ok (mt_leaf_ok (sp_push)) (mt_leaf_ok (rfl)))) (mt_node_ok (mt_leaf_ok (sp_if)) (mt_node_ok (mt_leaf_ok (sp_push)) (mt_leaf_ok (sp_goto)))))) (mt_node_ok (mt_node_ok (mt_node_ok (mt_leaf_ok (sp_push)) (mt_node_ok (mt_leaf_ok (trivial)) (mt_leaf_ok (sp_aload)))) (mt_node_ok (mt_leaf_ok (sp_get)) (mt_node_ok (mt_leaf_ok (sp_aload)) (mt_leaf_ok (sp_get))))) (mt_node_ok (mt_node_ok (mt_leaf_ok (sp_iload)) (mt_node_ok (mt_leaf_ok (sp_push)) (mt_leaf_ok (sp_bin)))) (mt_node_ok (mt_leaf_ok (rfl)) (mt_node_ok (mt_leaf_ok (sp_put)) (mt_leaf_ok (sp_aload)))))))
theorem sr_26_1 {g : xe_G} : mt_all (spP srS) (mb_26_1 g) := mt_node_ok (mt_node_ok (mt_node_ok (mt_node_ok (mt_node_ok (mt_leaf_ok (sp_iload)) (mt_node_ok (mt_leaf_ok (rfl)) (mt_leaf_ok (sp_if)))) (mt_node_ok (mt_leaf_ok (sp_aload)) (mt_node_ok (mt_leaf_ok (sp_push)) (mt_leaf_ok (rfl))))) (mt_node_ok (mt_node_ok (mt_leaf_ok (sp_if)) (mt_node_ok (mt_leaf_ok (sp_push)) (mt_leaf_ok (sp_goto)))) (mt_node_ok (mt_leaf_ok (sp_push)) (mt_node_ok (mt_leaf_ok (trivial)) (mt_leaf_ok (sp_aload)))))) (mt_node_ok (mt_node_ok (mt_node_ok (mt_leaf_ok (sp_get)) (mt_node_ok (mt_leaf_ok (sp_aload)) (mt_leaf_ok (sp_get)))) (mt_node_ok (mt_leaf_ok (sp_iload)) (mt_node_ok (mt_leaf_ok (sp_push)) (mt_leaf_ok (sp_bin))))) (mt_node_ok (mt_node_ok (mt_leaf_ok (rfl)) (mt_node_ok (mt_leaf_ok (sp_put)) (mt_leaf_ok (sp_aload)))) (mt_node_ok (mt_leaf_ok (sp_iload)) (mt_node_ok (mt_leaf_ok (rfl)) (mt_leaf_ok (sp_if))))))) (mt_node_ok (mt_node_ok (mt_node_ok (mt_node_ok (mt_leaf_ok (sp_aload)) (mt_node_ok (mt_leaf_ok (sp_get)) (mt_leaf_ok (sp_push)))) (mt_node_ok (mt_leaf_ok (rfl)) (mt_node_ok (mt_leaf_ok (sp_if)) (mt_leaf_ok (sp_push))))) (mt_node_ok (mt_node_ok (mt_leaf_ok (sp_goto)) (mt_node_ok (mt_leaf_ok (sp_push)) (mt_leaf_ok (trivial)))) (mt_node_ok (mt_leaf_ok (sp_aload)) (mt_node_ok (mt_leaf_ok (sp_get)) (mt_leaf_ok (sp_aload)))))) (mt_node_ok (mt_node_ok (mt_node_ok (mt_leaf_ok (sp_get)) (mt_node_ok (mt_leaf_ok (sp_iload)) (mt_leaf_ok (sp_push)))) (mt_node_ok (mt_leaf_ok (sp_bin)) (mt_node_ok (mt_leaf_ok (rfl)) (mt_leaf_ok (sp_put))))) (mt_node_ok (mt_node_ok (mt_leaf_ok (sp_aload)) (mt_node_ok (mt_leaf_ok (sp_iload)) (mt_leaf_ok (rfl)))) (mt_node_ok (mt_leaf_ok (sp_if)) (mt_node_ok (mt_leaf_ok (sp_push)) (mt_leaf_ok (sp_goto)))))))
theorem sr_26_2 {g : xe_G} : mt_all (spP srS) (mb_26_2 g) := mt_node_ok (mt_node_ok (mt_node_ok (mt_node_ok (mt_leaf_ok (sp_push)) (mt_node_ok (mt_leaf_ok (trivial)) (mt_leaf_ok (sp_aload)))) (mt_node_ok (mt_leaf_ok (sp_get)) (mt_node_ok (mt_leaf_ok (sp_aload)) (mt_leaf_ok (sp_get))))) (mt_node_ok (mt_node_ok (mt_leaf_ok (sp_iload)) (mt_node_ok (mt_leaf_ok (sp_push)) (mt_leaf_ok (sp_bin)))) (mt_node_ok (mt_node_ok (mt_leaf_ok (rfl)) (mt_leaf_ok (sp_put))) (mt_node_ok (mt_leaf_ok (sp_aload)) (mt_leaf_ok (sp_get)))))) (mt_node_ok (mt_node_ok (mt_node_ok (mt_leaf_ok (sp_iload)) (mt_node_ok (mt_leaf_ok (sp_push)) (mt_leaf_ok (sp_bin)))) (mt_node_ok (mt_leaf_ok (sp_put)) (mt_node_ok (mt_leaf_ok (sp_aload)) (mt_leaf_ok (rfl))))) (mt_node_ok (mt_node_ok (mt_leaf_ok (sp_if)) (mt_node_ok (mt_leaf_ok (sp_push)) (mt_leaf_ok (sp_goto)))) (mt_node_ok (mt_node_ok (mt_leaf_ok (sp_push)) (mt_leaf_ok (trivial))) (mt_node_ok (mt_leaf_ok (sp_push)) (mt_leaf_ok (trivial))))))
theorem sr_26 {g : xe_G} : mt_all (spP srS) (mb_26 g).2.1 := mt_node_ok ((sr_26_0 (g := g))) (mt_node_ok ((sr_26_1 (g := g))) ((sr_26_2 (g := g))))
theorem sr_27_0 {g : xe_G} : mt_all (spP srS) (mb_27_0 g) := mt_node_ok (mt_node_ok (mt_node_ok (mt_node_ok (mt_node_ok (mt_leaf_ok (sp_aload)) (mt_node_ok (mt_leaf_ok (sp_get)) (mt_leaf_ok (sp_iload)))) (mt_node_ok (mt_leaf_ok (sp_push)) (mt_node_ok (mt_leaf_ok (rfl)) (mt_leaf_ok (sp_if))))) (mt_node_ok (mt_node_ok (mt_leaf_ok (sp_push)) (mt_node_ok (mt_leaf_ok (trivial)) (mt_leaf_ok (sp_aload)))) (mt_node_ok (mt_leaf_ok (sp_get)) (mt_node_ok (mt_leaf_ok (sp_get)) (mt_leaf_ok (sp_push)))))) (mt_node_ok (mt_node_ok (mt_node_ok (mt_leaf_ok (sp_if2)) (mt_node_ok (mt_leaf_ok (sp_aload)) (mt_leaf_ok (sp_get)))) (mt_node_ok (mt_leaf_ok (sp_iload)) (mt_node_ok (mt_leaf_ok (sp_push)) (mt_leaf_ok (rfl))))) (mt_node_ok (mt_node_ok (mt_leaf_ok (sp_if)) (mt_node_ok (mt_leaf_ok (sp_push)) (mt_leaf_ok (trivial)))) (mt_node_ok (mt_leaf_ok (sp_aload)) (mt_node_ok (mt_leaf_ok (sp_get)) (mt_leaf_ok (sp_get))))))) (mt_node_ok (mt_node_ok (mt_node_ok (mt_node_ok (mt_leaf_ok (sp_push)) (mt_node_ok (mt_leaf_ok (sp_if2)) (mt_leaf_ok (sp_aload)))) (mt_node_ok (mt_leaf_ok (sp_get)) (mt_node_ok (mt_leaf_ok (sp_iload)) (mt_leaf_ok (sp_push))))) (mt_node_ok (mt_node_ok (mt_leaf_ok (rfl)) (mt_node_ok (mt_leaf_ok (sp_if)) (mt_leaf_ok (sp_push)))) (mt_node_ok (mt_leaf_ok (trivial)) (mt_node_ok (mt_leaf_ok (sp_aload)) (mt_leaf_ok (sp_get)))))) (mt_node_ok (mt_node_ok (mt_node_ok (mt_leaf_ok (sp_get)) (mt_node_ok (mt_leaf_ok (sp_push)) (mt_leaf_ok (sp_if2)))) (mt_node_ok (mt_leaf_ok (sp_aload)) (mt_node_ok (mt_leaf_ok (sp_get)) (mt_leaf_ok (sp_iload))))) (mt_node_ok (mt_node_ok (mt_leaf_ok (sp_push)) (mt_node_ok (mt_leaf_ok (rfl)) (mt_leaf_ok (sp_if)))) (mt_node_ok (mt_leaf_ok (sp_push)) (mt_node_ok (mt_leaf_ok (trivial)) (mt_leaf_ok (sp_aload)))))))
theorem sr_27_1 {g : xe_G} : mt_all (spP srS) (mb_27_1 g) := mt_node_ok (mt_node_ok (mt_node_ok (mt_node_ok (mt_leaf_ok (sp_get)) (mt_node_ok (mt_leaf_ok (sp_get)) (mt_leaf_ok (sp_push)))) (mt_node_ok (mt_leaf_ok (sp_if2)) (mt_node_ok (mt_leaf_ok (sp_aload)) (mt_leaf_ok (sp_get))))) (mt_node_ok (mt_node_ok (mt_leaf_ok (sp_iload)) (mt_node_ok (mt_leaf_ok (sp_push)) (mt_leaf_ok (rfl)))) (mt_node_ok (mt_node_ok (mt_leaf_ok (sp_if)) (mt_leaf_ok (sp_push))) (mt_node_ok (mt_leaf_ok (trivial)) (mt_leaf_ok (sp_aload)))))) (mt_node_ok (mt_node_ok (mt_node_ok (mt_leaf_ok (sp_get)) (mt_node_ok (mt_leaf_ok (sp_get)) (mt_leaf_ok (sp_push)))) (mt_node_ok (mt_node_ok (mt_leaf_ok (sp_if2)) (mt_leaf_ok (sp_aload))) (mt_node_ok (mt_leaf_ok (sp_get)) (mt_leaf_ok (sp_iload))))) (mt_node_ok (mt_node_ok (mt_leaf_ok (sp_push)) (mt_node_ok (mt_leaf_ok (rfl)) (mt_leaf_ok (sp_if)))) (mt_node_ok (mt_node_ok (mt_leaf_ok (sp_push)) (mt_leaf_ok (trivial))) (mt_node_ok (mt_leaf_ok (sp_push)) (mt_leaf_ok (trivial))))))
theorem sr_27 {g : xe_G} : mt_all (spP srS) (mb_27 g).2.1 := mt_node_ok ((sr_27_0 (g := g))) ((sr_27_1 (g := g)))
theorem sr_28_0 {g : xe_G} : mt_all (spP srS) (mb_28_0 g) := mt_node_ok (mt_node_ok (mt_node_ok (mt_node_ok (mt_node_ok (mt_leaf_ok (sp_aload)) (mt_node_ok (mt_leaf_ok (sp_get)) (mt_leaf_ok (sp_iload)))) (mt_node_ok (mt_leaf_ok (rfl)) (mt_node_ok (mt_leaf_ok (sp_isto)) (mt_leaf_ok (sp_iload))))) (mt_node_ok (mt_node_ok (mt_leaf_ok (sp_push)) (mt_node_ok (mt_leaf_ok (sp_bin)) (mt_leaf_ok (sp_isto)))) (mt_node_ok (mt_leaf_ok (sp_push)) (mt_node_ok (mt_leaf_ok (sp_isto)) (mt_leaf_ok (sp_iload)))))) (mt_node_ok (mt_node_ok (mt_node_ok (mt_leaf_ok (sp_iload)) (mt_node_ok (mt_leaf_ok (sp_if2)) (mt_leaf_ok (sp_aload)))) (mt_node_ok (mt_leaf_ok (sp_get)) (mt_node_ok (mt_leaf_ok (sp_get)) (mt_leaf_ok (sp_push))))) (mt_node_ok (mt_node_ok (mt_leaf_ok (sp_if2)) (mt_node_ok (mt_leaf_ok (sp_aload)) (mt_leaf_ok (sp_get)))) (mt_node_ok (mt_leaf_ok (sp_aload)) (mt_node_ok (mt_leaf_ok (sp_get)) (mt_leaf_ok (sp_iload))))))) (mt_node_ok (mt_node_ok (mt_node_ok (mt_node_ok (mt_leaf_ok (rfl)) (mt_node_ok (mt_leaf_ok (sp_push)) (mt_leaf_ok (rfl)))) (mt_node_ok (mt_leaf_ok (sp_if)) (mt_node_ok (mt_leaf_ok (sp_push)) (mt_leaf_ok (sp_goto))))) (mt_node_ok (mt_node_ok (mt_leaf_ok (sp_push)) (mt_node_ok (mt_leaf_ok (sp_isto)) (mt_leaf_ok (sp_aload)))) (mt_node_ok (mt_leaf_ok (sp_iload)) (mt_node_ok (mt_leaf_ok (sp_iload)) (mt_leaf_ok (sp_if)))))) (mt_node_ok (mt_node_ok (mt_node_ok (mt_leaf_ok (sp_push)) (mt_node_ok (mt_leaf_ok (sp_goto)) (mt_leaf_ok (sp_push)))) (mt_node_ok (mt_leaf_ok (rfl)) (mt_node_ok (mt_leaf_ok (sp_if)) (mt_leaf_ok (sp_push))))) (mt_node_ok (mt_node_ok (mt_leaf_ok (trivial)) (mt_node_ok (mt_leaf_ok (sp_aload)) (mt_leaf_ok (sp_iload)))) (mt_node_ok (mt_leaf_ok (rfl)) (mt_node_ok (mt_leaf_ok (sp_isto)) (mt_leaf_ok (sp_iinc)))))))
theorem sr_28_1 {g : xe_G} : mt_all (spP srS) (mb_28_1 g) := mt_node_ok (mt_leaf_ok (sp_goto)) (mt_node_ok (mt_leaf_ok (sp_push)) (mt_leaf_ok (trivial)))
theorem sr_28 {g : xe_G} : mt_all (spP srS) (mb_28 g).2.1 := mt_node_ok ((sr_28_0 (g := g))) ((sr_28_1 (g := g)))
theorem sr_29_0 {g : xe_G} : mt_all (spP srS) (mb_29_0 g) := mt_node_ok (mt_node_ok (mt_node_ok (mt_node_ok (mt_node_ok (mt_leaf_ok (sp_iload)) (mt_node_ok (mt_leaf_ok (sp_iload)) (mt_leaf_ok (sp_bin)))) (mt_node_ok (mt_leaf_ok (sp_push)) (mt_node_ok (mt_leaf_ok (sp_if2)) (mt_leaf_ok (sp_push))))) (mt_node_ok (mt_node_ok (mt_leaf_ok (trivial)) (mt_node_ok (mt_leaf_ok (sp_aload)) (mt_leaf_ok (sp_get)))) (mt_node_ok (mt_leaf_ok (sp_iload)) (mt_node_ok (mt_leaf_ok (sp_push)) (mt_leaf_ok (sp_bin)))))) (mt_node_ok (mt_node_ok (mt_node_ok (mt_leaf_ok (rfl)) (mt_node_ok (mt_leaf_ok (sp_isto)) (mt_leaf_ok (sp_iload)))) (mt_node_ok (mt_leaf_ok (sp_if)) (mt_node_ok (mt_leaf_ok (sp_iload)) (mt_leaf_ok (sp_iload))))) (mt_node_ok (mt_node_ok (mt_leaf_ok (sp_iload)) (mt_node_ok (mt_leaf_ok (sp_bin)) (mt_leaf_ok (sp_push)))) (mt_node_ok (mt_leaf_ok (sp_bin)) (mt_node_ok (mt_leaf_ok (sp_if2)) (mt_leaf_ok (sp_push))))))) (mt_node_ok (mt_node_ok (mt_node_ok (mt_node_ok (mt_leaf_ok (trivial)) (mt_node_ok (mt_leaf_ok (sp_iload)) (mt_leaf_ok (sp_push)))) (mt_node_ok (mt_leaf_ok (sp_bin)) (mt_node_ok (mt_leaf_ok (sp_iload)) (mt_leaf_ok (sp_bin))))) (mt_node_ok (mt_node_ok (mt_leaf_ok (sp_isto)) (mt_node_ok (mt_leaf_ok (sp_iload)) (mt_leaf_ok (sp_iload)))) (mt_node_ok (mt_leaf_ok (sp_bin)) (mt_node_ok (mt_leaf_ok (sp_push)) (mt_leaf_ok (sp_if2)))))) (mt_node_ok (mt_node_ok (mt_node_ok (mt_leaf_ok (sp_iload)) (mt_node_ok (mt_leaf_ok (sp_iload)) (mt_leaf_ok (sp_bin)))) (mt_node_ok (mt_leaf_ok (sp_push)) (mt_node_ok (mt_leaf_ok (sp_bin)) (mt_leaf_ok (sp_push))))) (mt_node_ok (mt_node_ok (mt_leaf_ok (sp_aload)) (mt_node_ok (mt_leaf_ok (sp_get)) (mt_leaf_ok (sp_iload)))) (mt_node_ok (mt_leaf_ok (rfl)) (mt_node_ok (mt_leaf_ok (sp_bin)) (mt_leaf_ok (sp_if2)))))))
theorem sr_29_1 {g : xe_G} : mt_all (spP srS) (mb_29_1 g) := mt_node_ok (mt_node_ok (mt_node_ok (mt_node_ok (mt_node_ok (mt_leaf_ok (sp_push)) (mt_leaf_ok (trivial))) (mt_node_ok (mt_leaf_ok (sp_iload)) (mt_leaf_ok (sp_push)))) (mt_node_ok (mt_node_ok (mt_leaf_ok (sp_bin)) (mt_leaf_ok (sp_push))) (mt_node_ok (mt_leaf_ok (sp_aload)) (mt_leaf_ok (sp_get))))) (mt_node_ok (mt_node_ok (mt_node_ok (mt_leaf_ok (sp_iload)) (mt_leaf_ok (rfl))) (mt_node_ok (mt_leaf_ok (sp_bin)) (mt_leaf_ok (sp_bin)))) (mt_node_ok (mt_node_ok (mt_leaf_ok (sp_isto)) (mt_leaf_ok (sp_iload))) (mt_node_ok (mt_leaf_ok (sp_iload)) (mt_leaf_ok (sp_bin)))))) (mt_node_ok (mt_node_ok (mt_node_ok (mt_node_ok (mt_leaf_ok (sp_push)) (mt_leaf_ok (sp_if2))) (mt_node_ok (mt_leaf_ok (sp_push)) (mt_leaf_ok (trivial)))) (mt_node_ok (mt_node_ok (mt_leaf_ok (sp_aload)) (mt_leaf_ok (sp_get))) (mt_node_ok (mt_leaf_ok (sp_iload)) (mt_leaf_ok (sp_push))))) (mt_node_ok (mt_node_ok (mt_node_ok (mt_leaf_ok (sp_bin)) (mt_leaf_ok (sp_aload))) (mt_node_ok (mt_leaf_ok (sp_get)) (mt_leaf_ok (sp_iload)))) (mt_node_ok (mt_node_ok (mt_leaf_ok (rfl)) (mt_leaf_ok (sp_iload))) (mt_node_ok (mt_leaf_ok (rfl)) (mt_leaf_ok (trivial))))))
theorem sr_29 {g : xe_G} : mt_all (spP srS) (mb_29 g).2.1 := mt_node_ok ((sr_29_0 (g := g))) ((sr_29_1 (g := g)))
theorem sr_30_0 {g : xe_G} : mt_all (spP srS) (mb_30_0 g) := mt_node_ok (mt_node_ok (mt_node_ok (mt_node_ok (mt_node_ok (mt_leaf_ok (sp_new)) (mt_node_ok (mt_leaf_ok (sp_dup)) (mt_leaf_ok (sp_aload)))) (mt_node_ok (mt_leaf_ok (sp_get)) (mt_node_ok (mt_leaf_ok (sp_iload)) (mt_leaf_ok (sp_push))))) (mt_node_ok (mt_node_ok (mt_leaf_ok (sp_bin)) (mt_node_ok (mt_leaf_ok (rfl)) (mt_leaf_ok (sp_asto)))) (mt_node_ok (mt_leaf_ok (sp_aload)) (mt_node_ok (mt_leaf_ok (sp_get)) (mt_leaf_ok (sp_push)))))) (mt_node_ok (mt_node_ok (mt_node_ok (mt_leaf_ok (sp_if2)) (mt_node_ok (mt_leaf_ok (sp_aload)) (mt_leaf_ok (sp_get)))) (mt_node_ok (mt_leaf_ok (sp_push)) (mt_node_ok (mt_leaf_ok (sp_if2)) (mt_leaf_ok (sp_aload))))) (mt_node_ok (mt_node_ok (mt_leaf_ok (sp_get)) (mt_node_ok (mt_leaf_ok (sp_push)) (mt_leaf_ok (sp_iload)))) (mt_node_ok (mt_leaf_ok (rfl)) (mt_node_ok (mt_leaf_ok (trivial)) (mt_leaf_ok (sp_aload))))))) (mt_node_ok (mt_node_ok (mt_node_ok (mt_node_ok (mt_leaf_ok (sp_get)) (mt_node_ok (mt_leaf_ok (sp_aload)) (mt_leaf_ok (sp_get)))) (mt_node_ok (mt_leaf_ok (sp_if2)) (mt_node_ok (mt_leaf_ok (sp_aload)) (mt_leaf_ok (sp_get))))) (mt_node_ok (mt_node_ok (mt_leaf_ok (sp_push)) (mt_node_ok (mt_leaf_ok (sp_iload)) (mt_leaf_ok (rfl)))) (mt_node_ok (mt_leaf_ok (trivial)) (mt_node_ok (mt_leaf_ok (sp_push)) (mt_leaf_ok (sp_isto)))))) (mt_node_ok (mt_node_ok (mt_node_ok (mt_leaf_ok (sp_iload)) (mt_node_ok (mt_leaf_ok (sp_aload)) (mt_leaf_ok (sp_get)))) (mt_node_ok (mt_leaf_ok (sp_if2)) (mt_node_ok (mt_leaf_ok (sp_aload)) (mt_leaf_ok (sp_aload))))) (mt_node_ok (mt_node_ok (mt_leaf_ok (sp_aload)) (mt_node_ok (mt_leaf_ok (sp_get)) (mt_leaf_ok (sp_push)))) (mt_node_ok (mt_leaf_ok (sp_iload)) (mt_node_ok (mt_leaf_ok (sp_bin)) (mt_leaf_ok (sp_bin)))))))
theorem sr_30_1 {g : xe_G} : mt_all (spP srS) (mb_30_1 g) := mt_node_ok (mt_node_ok (mt_node_ok (mt_node_ok (mt_leaf_ok (rfl)) (mt_leaf_ok (sp_if))) (mt_node_ok (mt_leaf_ok (sp_aload)) (mt_node_ok (mt_leaf_ok (sp_get)) (mt_leaf_ok (sp_push))))) (mt_node_ok (mt_node_ok (mt_leaf_ok (sp_iload)) (mt_node_ok (mt_leaf_ok (rfl)) (mt_leaf_ok (trivial)))) (mt_node_ok (mt_leaf_ok (sp_iinc)) (mt_node_ok (mt_leaf_ok (sp_goto)) (mt_leaf_ok (sp_aload)))))) (mt_node_ok (mt_node_ok (mt_node_ok (mt_leaf_ok (sp_aload)) (mt_node_ok (mt_leaf_ok (sp_put)) (mt_leaf_ok (sp_aload)))) (mt_node_ok (mt_leaf_ok (sp_aload)) (mt_node_ok (mt_leaf_ok (sp_get)) (mt_leaf_ok (sp_push))))) (mt_node_ok (mt_node_ok (mt_leaf_ok (sp_aload)) (mt_node_ok (mt_leaf_ok (sp_get)) (mt_leaf_ok (sp_bin)))) (mt_node_ok (mt_leaf_ok (sp_bin)) (mt_node_ok (mt_leaf_ok (rfl)) (mt_leaf_ok (trivial))))))
theorem sr_30 {g : xe_G} : mt_all (spP srS) (mb_30 g).2.1 := mt_node_ok ((sr_30_0 (g := g))) ((sr_30_1 (g := g)))
theorem sr_31_0 {g : xe_G} : mt_all (spP srS) (mb_31_0 g) := mt_node_ok (mt_node_ok (mt_node_ok (mt_node_ok (mt_leaf_ok (sp_aload)) (mt_node_ok (mt_leaf_ok (sp_get)) (mt_leaf_ok (sp_iload)))) (mt_node_ok (mt_node_ok (mt_leaf_ok (sp_push)) (mt_leaf_ok (rfl))) (mt_node_ok (mt_leaf_ok (sp_if)) (mt_leaf_ok (sp_push))))) (mt_node_ok (mt_node_ok (mt_node_ok (mt_leaf_ok (trivial)) (mt_leaf_ok (sp_aload))) (mt_node_ok (mt_leaf_ok (sp_get)) (mt_leaf_ok (sp_iload)))) (mt_node_ok (mt_node_ok (mt_leaf_ok (rfl)) (mt_leaf_ok (sp_push))) (mt_node_ok (mt_leaf_ok (sp_if2)) (mt_leaf_ok (sp_push)))))) (mt_node_ok (mt_node_ok (mt_node_ok (mt_leaf_ok (trivial)) (mt_node_ok (mt_leaf_ok (sp_aload)) (mt_leaf_ok (sp_get)))) (mt_node_ok (mt_node_ok (mt_leaf_ok (sp_iload)) (mt_leaf_ok (sp_push))) (mt_node_ok (mt_leaf_ok (rfl)) (mt_leaf_ok (sp_sw))))) (mt_node_ok (mt_node_ok (mt_node_ok (mt_leaf_ok (sp_push)) (mt_leaf_ok (trivial))) (mt_node_ok (mt_leaf_ok (sp_push)) (mt_leaf_ok (trivial)))) (mt_node_ok (mt_node_ok (mt_leaf_ok (sp_push)) (mt_leaf_ok (trivial))) (mt_node_ok (mt_leaf_ok (sp_push)) (mt_leaf_ok (trivial))))))
theorem sr_31 {g : xe_G} : mt_all (spP srS) (mb_31 g).2.1 := (sr_31_0 (g := g))
theorem sr_32_0 {g : xe_G} : mt_all (spP srS) (mb_32_0 g) := mt_node_ok (mt_node_ok (mt_node_ok (mt_node_ok (mt_node_ok (mt_leaf_ok (sp_iload)) (mt_node_ok (mt_leaf_ok (sp_iload)) (mt_leaf_ok (sp_bin)))) (mt_node_ok (mt_leaf_ok (sp_push)) (mt_node_ok (mt_leaf_ok (sp_if2)) (mt_leaf_ok (sp_push))))) (mt_node_ok (mt_node_ok (mt_leaf_ok (trivial)) (mt_node_ok (mt_leaf_ok (sp_iload)) (mt_leaf_ok (sp_sw)))) (mt_node_ok (mt_leaf_ok (sp_iload)) (mt_node_ok (mt_leaf_ok (sp_push)) (mt_leaf_ok (sp_bin)))))) (mt_node_ok (mt_node_ok (mt_node_ok (mt_leaf_ok (trivial)) (mt_node_ok (mt_leaf_ok (sp_iload)) (mt_leaf_ok (sp_push)))) (mt_node_ok (mt_leaf_ok (sp_bin)) (mt_node_ok (mt_leaf_ok (sp_push)) (mt_leaf_ok (sp_aload))))) (mt_node_ok (mt_node_ok (mt_leaf_ok (sp_get)) (mt_node_ok (mt_leaf_ok (sp_iload)) (mt_leaf_ok (rfl)))) (mt_node_ok (mt_leaf_ok (sp_bin)) (mt_node_ok (mt_leaf_ok (sp_bin)) (mt_leaf_ok (trivial))))))) (mt_node_ok (mt_node_ok (mt_node_ok (mt_node_ok (mt_leaf_ok (sp_iload)) (mt_node_ok (mt_leaf_ok (sp_push)) (mt_leaf_ok (sp_bin)))) (mt_node_ok (mt_leaf_ok (sp_push)) (mt_node_ok (mt_leaf_ok (sp_aload)) (mt_leaf_ok (sp_get))))) (mt_node_ok (mt_node_ok (mt_leaf_ok (sp_iload)) (mt_node_ok (mt_leaf_ok (rfl)) (mt_leaf_ok (sp_bin)))) (mt_node_ok (mt_leaf_ok (sp_bin)) (mt_node_ok (mt_leaf_ok (trivial)) (mt_leaf_ok (sp_aload)))))) (mt_node_ok (mt_node_ok (mt_node_ok (mt_leaf_ok (sp_iload)) (mt_node_ok (mt_leaf_ok (sp_iload)) (mt_leaf_ok (rfl)))) (mt_node_ok (mt_leaf_ok (trivial)) (mt_node_ok (mt_leaf_ok (sp_aload)) (mt_leaf_ok (sp_iload))))) (mt_node_ok (mt_node_ok (mt_leaf_ok (sp_iload)) (mt_node_ok (mt_leaf_ok (rfl)) (mt_leaf_ok (trivial)))) (mt_node_ok (mt_leaf_ok (sp_aload)) (mt_node_ok (mt_leaf_ok (sp_iload)) (mt_leaf_ok (sp_iload)))))))
theorem sr_32_1 {g : xe_G} : mt_all (spP srS) (mb_32_1 g) := mt_node_ok (mt_leaf_ok (rfl)) (mt_leaf_ok (trivial))
theorem sr_32 {g : xe_G} : mt_all (spP srS) (mb_32 g).2.1 := mt_node_ok ((sr_32_0 (g := g))) ((sr_32_1 (g := g)))
theorem sr_33_0 {g : xe_G} : mt_all (spP srS) (mb_33_0 g) := mt_node_ok (mt_node_ok (mt_node_ok (mt_leaf_ok (sp_aload)) (mt_leaf_ok (sp_get))) (mt_node_ok (mt_leaf_ok (sp_iload)) (mt_node_ok (mt_leaf_ok (sp_bin)) (mt_leaf_ok (sp_push))))) (mt_node_ok (mt_node_ok (mt_leaf_ok (sp_bin)) (mt_node_ok (mt_leaf_ok (sp_if)) (mt_leaf_ok (sp_push)))) (mt_node_ok (mt_leaf_ok (sp_goto)) (mt_node_ok (mt_leaf_ok (sp_push)) (mt_leaf_ok (trivial)))))
theorem sr_33 {g : xe_G} : mt_all (spP srS) (mb_33 g).2.1 := (sr_33_0 (g := g))
theorem sr_34_0 {g : xe_G} : mt_all (spP srS) (mb_34_0 g) := mt_node_ok (mt_node_ok (mt_node_ok (mt_node_ok (mt_node_ok (mt_leaf_ok (sp_push)) (mt_node_ok (mt_leaf_ok (sp_isto)) (mt_leaf_ok (sp_iload)))) (mt_node_ok (mt_leaf_ok (sp_aload)) (mt_node_ok (mt_leaf_ok (sp_get)) (mt_leaf_ok (sp_get))))) (mt_node_ok (mt_node_ok (mt_leaf_ok (sp_if2)) (mt_node_ok (mt_leaf_ok (sp_iload)) (mt_leaf_ok (sp_push)))) (mt_node_ok (mt_leaf_ok (sp_bin)) (mt_node_ok (mt_leaf_ok (sp_push)) (mt_leaf_ok (sp_iload)))))) (mt_node_ok (mt_node_ok (mt_node_ok (mt_leaf_ok (sp_bin)) (mt_node_ok (mt_leaf_ok (sp_bin)) (mt_leaf_ok (sp_isto)))) (mt_node_ok (mt_leaf_ok (sp_aload)) (mt_node_ok (mt_leaf_ok (sp_get)) (mt_leaf_ok (sp_iload))))) (mt_node_ok (mt_node_ok (mt_leaf_ok (sp_push)) (mt_node_ok (mt_leaf_ok (sp_bin)) (mt_leaf_ok (rfl)))) (mt_node_ok (mt_leaf_ok (sp_isto)) (mt_node_ok (mt_leaf_ok (sp_aload)) (mt_leaf_ok (sp_get))))))) (mt_node_ok (mt_node_ok (mt_node_ok (mt_node_ok (mt_leaf_ok (sp_iload)) (mt_node_ok (mt_leaf_ok (sp_push)) (mt_leaf_ok (sp_bin)))) (mt_node_ok (mt_leaf_ok (rfl)) (mt_node_ok (mt_leaf_ok (sp_isto)) (mt_leaf_ok (sp_aload))))) (mt_node_ok (mt_node_ok (mt_leaf_ok (sp_get)) (mt_node_ok (mt_leaf_ok (sp_aload)) (mt_leaf_ok (sp_get)))) (mt_node_ok (mt_leaf_ok (sp_iload)) (mt_node_ok (mt_leaf_ok (rfl)) (mt_leaf_ok (rfl)))))) (mt_node_ok (mt_node_ok (mt_node_ok (mt_leaf_ok (sp_push)) (mt_node_ok (mt_leaf_ok (sp_if2)) (mt_leaf_ok (sp_iload)))) (mt_node_ok (mt_leaf_ok (sp_if)) (mt_node_ok (mt_leaf_ok (sp_aload)) (mt_leaf_ok (sp_get))))) (mt_node_ok (mt_node_ok (mt_leaf_ok (sp_iload)) (mt_node_ok (mt_leaf_ok (rfl)) (mt_leaf_ok (sp_push)))) (mt_node_ok (mt_leaf_ok (sp_if2)) (mt_node_ok (mt_leaf_ok (sp_iload)) (mt_leaf_ok (sp_if)))))))
theorem sr_34_1 {g : xe_G} : mt_all (spP srS) (mb_34_1 g) := mt_node_ok (mt_node_ok (mt_node_ok (mt_leaf_ok (sp_aload)) (mt_node_ok (mt_leaf_ok (sp_get)) (mt_leaf_ok (sp_iload)))) (mt_node_ok (mt_leaf_ok (rfl)) (mt_node_ok (mt_leaf_ok (sp_push)) (mt_leaf_ok (sp_if2))))) (mt_node_ok (mt_node_ok (mt_leaf_ok (sp_push)) (mt_node_ok (mt_leaf_ok (trivial)) (mt_leaf_ok (sp_iinc)))) (mt_node_ok (mt_leaf_ok (sp_goto)) (mt_node_ok (mt_leaf_ok (sp_push)) (mt_leaf_ok (trivial)))))
theorem sr_34 {g : xe_G} : mt_all (spP srS) (mb_34 g).2.1 := mt_node_ok ((sr_34_0 (g := g))) ((sr_34_1 (g := g)))
theorem sr_35_0 {g : xe_G} : mt_all (spP srS) (mb_35_0 g) := mt_node_ok (mt_node_ok (mt_node_ok (mt_node_ok (mt_leaf_ok (sp_iload)) (mt_leaf_ok (sp_push))) (mt_node_ok (mt_leaf_ok (sp_if2)) (mt_leaf_ok (sp_iload)))) (mt_node_ok (mt_node_ok (mt_leaf_ok (sp_push)) (mt_leaf_ok (sp_if2))) (mt_node_ok (mt_leaf_ok (sp_iload)) (mt_leaf_ok (sp_push))))) (mt_node_ok (mt_node_ok (mt_node_ok (mt_leaf_ok (sp_if2)) (mt_leaf_ok (sp_iload))) (mt_node_ok (mt_leaf_ok (sp_push)) (mt_leaf_ok (sp_if2)))) (mt_node_ok (mt_node_ok (mt_leaf_ok (sp_push)) (mt_leaf_ok (sp_goto))) (mt_node_ok (mt_leaf_ok (sp_push)) (mt_leaf_ok (trivial)))))
theorem sr_35 {g : xe_G} : mt_all (spP srS) (mb_35 g).2.1 := (sr_35_0 (g := g))
theorem sr_36_0 {g : xe_G} : mt_all (spP srS) (mb_36_0 g) := mt_node_ok (mt_node_ok (mt_node_ok (mt_node_ok (mt_node_ok (mt_leaf_ok (sp_aload)) (mt_leaf_ok (sp_get))) (mt_node_ok (mt_leaf_ok (sp_aload)) (mt_leaf_ok (sp_get)))) (mt_node_ok (mt_node_ok (mt_leaf_ok (sp_iload)) (mt_leaf_ok (rfl))) (mt_node_ok (mt_leaf_ok (rfl)) (mt_node_ok (mt_leaf_ok (sp_push)) (mt_leaf_ok (sp_if2)))))) (mt_node_ok (mt_node_ok (mt_node_ok (mt_leaf_ok (sp_aload)) (mt_leaf_ok (sp_get))) (mt_node_ok (mt_leaf_ok (sp_push)) (mt_node_ok (mt_leaf_ok (sp_iload)) (mt_leaf_ok (rfl))))) (mt_node_ok (mt_node_ok (mt_leaf_ok (trivial)) (mt_leaf_ok (sp_iload))) (mt_node_ok (mt_leaf_ok (sp_if)) (mt_node_ok (mt_leaf_ok (sp_push)) (mt_leaf_ok (trivial))))))) (mt_node_ok (mt_node_ok (mt_node_ok (mt_node_ok (mt_leaf_ok (sp_aload)) (mt_leaf_ok (sp_iload))) (mt_node_ok (mt_leaf_ok (rfl)) (mt_node_ok (mt_leaf_ok (sp_if)) (mt_leaf_ok (sp_aload))))) (mt_node_ok (mt_node_ok (mt_leaf_ok (sp_get)) (mt_leaf_ok (sp_push))) (mt_node_ok (mt_leaf_ok (sp_iload)) (mt_node_ok (mt_leaf_ok (rfl)) (mt_leaf_ok (trivial)))))) (mt_node_ok (mt_node_ok (mt_node_ok (mt_leaf_ok (sp_aload)) (mt_leaf_ok (sp_dup))) (mt_node_ok (mt_leaf_ok (sp_get)) (mt_node_ok (mt_leaf_ok (sp_push)) (mt_leaf_ok (sp_iload))))) (mt_node_ok (mt_node_ok (mt_leaf_ok (sp_bin)) (mt_leaf_ok (sp_bin))) (mt_node_ok (mt_leaf_ok (sp_put)) (mt_node_ok (mt_leaf_ok (sp_push)) (mt_leaf_ok (trivial)))))))
theorem sr_36 {g : xe_G} : mt_all (spP srS) (mb_36 g).2.1 := (sr_36_0 (g := g))
theorem sr_37_0 {g : xe_G} : mt_all (spP srS) (mb_37_0 g) := mt_node_ok (mt_node_ok (mt_node_ok (mt_node_ok (mt_leaf_ok (sp_aload)) (mt_leaf_ok (sp_get))) (mt_node_ok (mt_leaf_ok (sp_iload)) (mt_leaf_ok (sp_push)))) (mt_node_ok (mt_node_ok (mt_leaf_ok (rfl)) (mt_leaf_ok (sp_if))) (mt_node_ok (mt_leaf_ok (sp_push)) (mt_node_ok (mt_leaf_ok (trivial)) (mt_leaf_ok (sp_aload)))))) (mt_node_ok (mt_node_ok (mt_node_ok (mt_leaf_ok (sp_get)) (mt_leaf_ok (sp_iload))) (mt_node_ok (mt_leaf_ok (sp_push)) (mt_leaf_ok (rfl)))) (mt_node_ok (mt_node_ok (mt_leaf_ok (sp_if)) (mt_leaf_ok (sp_push))) (mt_node_ok (mt_leaf_ok (sp_goto)) (mt_node_ok (mt_leaf_ok (sp_push)) (mt_leaf_ok (trivial))))))
theorem sr_37 {g : xe_G} : mt_all (spP srS) (mb_37 g).2.1 := (sr_37_0 (g := g))
theorem sr_38_0 {g : xe_G} : mt_all (spP srS) (mb_38_0 g) := mt_node_ok (mt_node_ok (mt_node_ok (mt_node_ok (mt_node_ok (mt_leaf_ok (sp_aload)) (mt_node_ok (mt_leaf_ok (sp_push)) (mt_leaf_ok (sp_put)))) (mt_node_ok (mt_leaf_ok (sp_aload)) (mt_node_ok (mt_leaf_ok (sp_get)) (mt_leaf_ok (sp_get))))) (mt_node_ok (mt_node_ok (mt_leaf_ok (sp_isto)) (mt_node_ok (mt_leaf_ok (sp_push)) (mt_leaf_ok (sp_isto)))) (mt_node_ok (mt_leaf_ok (sp_iload)) (mt_node_ok (mt_leaf_ok (sp_aload)) (mt_leaf_ok (sp_get)))))) (mt_node_ok (mt_node_ok (mt_node_ok (mt_leaf_ok (sp_get)) (mt_node_ok (mt_leaf_ok (sp_if2)) (mt_leaf_ok (sp_aload)))) (mt_node_ok (mt_leaf_ok (sp_aload)) (mt_node_ok (mt_leaf_ok (sp_get)) (mt_leaf_ok (sp_iload))))) (mt_node_ok (mt_node_ok (mt_leaf_ok (rfl)) (mt_node_ok (mt_leaf_ok (rfl)) (mt_leaf_ok (sp_isto)))) (mt_node_ok (mt_leaf_ok (sp_aload)) (mt_node_ok (mt_leaf_ok (sp_iload)) (mt_leaf_ok (sp_iload))))))) (mt_node_ok (mt_node_ok (mt_node_ok (mt_node_ok (mt_leaf_ok (rfl)) (mt_node_ok (mt_leaf_ok (sp_if)) (mt_leaf_ok (sp_push)))) (mt_node_ok (mt_leaf_ok (trivial)) (mt_node_ok (mt_leaf_ok (sp_iload)) (mt_leaf_ok (sp_if))))) (mt_node_ok (mt_node_ok (mt_leaf_ok (sp_aload)) (mt_node_ok (mt_leaf_ok (sp_iload)) (mt_leaf_ok (sp_iload)))) (mt_node_ok (mt_leaf_ok (sp_push)) (mt_node_ok (mt_leaf_ok (sp_bin)) (mt_leaf_ok (sp_aload)))))) (mt_node_ok (mt_node_ok (mt_node_ok (mt_leaf_ok (sp_iload)) (mt_node_ok (mt_leaf_ok (rfl)) (mt_leaf_ok (rfl)))) (mt_node_ok (mt_leaf_ok (sp_aload)) (mt_node_ok (mt_leaf_ok (sp_iload)) (mt_leaf_ok (rfl))))) (mt_node_ok (mt_node_ok (mt_leaf_ok (sp_if2)) (mt_node_ok (mt_leaf_ok (sp_aload)) (mt_leaf_ok (sp_get)))) (mt_node_ok (mt_leaf_ok (sp_push)) (mt_node_ok (mt_leaf_ok (sp_iload)) (mt_leaf_ok (rfl)))))))
theorem sr_38_1 {g : xe_G} : mt_all (spP srS) (mb_38_1 g) := mt_node_ok (mt_node_ok (mt_node_ok (mt_node_ok (mt_node_ok (mt_leaf_ok (trivial)) (mt_leaf_ok (sp_aload))) (mt_node_ok (mt_leaf_ok (sp_iload)) (mt_leaf_ok (sp_iload)))) (mt_node_ok (mt_node_ok (mt_leaf_ok (rfl)) (mt_leaf_ok (sp_isto))) (mt_node_ok (mt_leaf_ok (sp_iload)) (mt_leaf_ok (sp_if))))) (mt_node_ok (mt_node_ok (mt_node_ok (mt_leaf_ok (sp_iload)) (mt_leaf_ok (sp_if))) (mt_node_ok (mt_leaf_ok (sp_push)) (mt_leaf_ok (sp_goto)))) (mt_node_ok (mt_node_ok (mt_leaf_ok (sp_aload)) (mt_leaf_ok (sp_get))) (mt_node_ok (mt_leaf_ok (sp_iload)) (mt_leaf_ok (sp_iload)))))) (mt_node_ok (mt_node_ok (mt_node_ok (mt_node_ok (mt_leaf_ok (rfl)) (mt_leaf_ok (trivial))) (mt_node_ok (mt_leaf_ok (sp_aload)) (mt_leaf_ok (sp_iload)))) (mt_node_ok (mt_node_ok (mt_leaf_ok (rfl)) (mt_leaf_ok (sp_isto))) (mt_node_ok (mt_leaf_ok (sp_iinc)) (mt_leaf_ok (sp_goto))))) (mt_node_ok (mt_node_ok (mt_node_ok (mt_leaf_ok (sp_aload)) (mt_leaf_ok (sp_get))) (mt_node_ok (mt_leaf_ok (sp_aload)) (mt_leaf_ok (sp_get)))) (mt_node_ok (mt_node_ok (mt_leaf_ok (rfl)) (mt_leaf_ok (sp_put))) (mt_node_ok (mt_leaf_ok (sp_push)) (mt_leaf_ok (trivial))))))
theorem sr_38 {g : xe_G} : mt_all (spP srS) (mb_38 g).2.1 := mt_node_ok ((sr_38_0 (g := g))) ((sr_38_1 (g := g)))
theorem sr_39_0 {g : xe_G} : mt_all (spP srS) (mb_39_0 g) := mt_node_ok (mt_node_ok (mt_node_ok (mt_node_ok (mt_node_ok (mt_leaf_ok (sp_aload)) (mt_node_ok (mt_leaf_ok (sp_push)) (mt_leaf_ok (sp_put)))) (mt_node_ok (mt_leaf_ok (sp_aload)) (mt_node_ok (mt_leaf_ok (sp_get)) (mt_leaf_ok (sp_isto))))) (mt_node_ok (mt_node_ok (mt_leaf_ok (sp_push)) (mt_node_ok (mt_leaf_ok (sp_isto)) (mt_leaf_ok (sp_iload)))) (mt_node_ok (mt_leaf_ok (sp_aload)) (mt_node_ok (mt_leaf_ok (sp_get)) (mt_leaf_ok (sp_if2)))))) (mt_node_ok (mt_node_ok (mt_node_ok (mt_leaf_ok (sp_aload)) (mt_node_ok (mt_leaf_ok (sp_get)) (mt_leaf_ok (sp_aload)))) (mt_node_ok (mt_leaf_ok (sp_get)) (mt_node_ok (mt_leaf_ok (sp_iload)) (mt_leaf_ok (rfl))))) (mt_node_ok (mt_node_ok (mt_leaf_ok (sp_push)) (mt_node_ok (mt_leaf_ok (rfl)) (mt_leaf_ok (sp_if)))) (mt_node_ok (mt_leaf_ok (sp_push)) (mt_node_ok (mt_leaf_ok (sp_goto)) (mt_leaf_ok (sp_push))))))) (mt_node_ok (mt_node_ok (mt_node_ok (mt_node_ok (mt_leaf_ok (sp_isto)) (mt_node_ok (mt_leaf_ok (sp_aload)) (mt_leaf_ok (sp_iload)))) (mt_node_ok (mt_leaf_ok (sp_iload)) (mt_node_ok (mt_leaf_ok (rfl)) (mt_leaf_ok (sp_if))))) (mt_node_ok (mt_node_ok (mt_leaf_ok (sp_push)) (mt_node_ok (mt_leaf_ok (trivial)) (mt_leaf_ok (sp_iload)))) (mt_node_ok (mt_leaf_ok (sp_if)) (mt_node_ok (mt_leaf_ok (sp_aload)) (mt_leaf_ok (sp_iload)))))) (mt_node_ok (mt_node_ok (mt_node_ok (mt_leaf_ok (sp_iload)) (mt_node_ok (mt_leaf_ok (sp_push)) (mt_leaf_ok (sp_bin)))) (mt_node_ok (mt_leaf_ok (sp_aload)) (mt_node_ok (mt_leaf_ok (sp_iload)) (mt_leaf_ok (rfl))))) (mt_node_ok (mt_node_ok (mt_leaf_ok (rfl)) (mt_node_ok (mt_leaf_ok (sp_aload)) (mt_leaf_ok (sp_iload)))) (mt_node_ok (mt_leaf_ok (rfl)) (mt_node_ok (mt_leaf_ok (sp_if2)) (mt_leaf_ok (sp_aload)))))))
theorem sr_39_1 {g : xe_G} : mt_all (spP srS) (mb_39_1 g) := mt_node_ok (mt_node_ok (mt_node_ok (mt_node_ok (mt_node_ok (mt_leaf_ok (sp_get)) (mt_node_ok (mt_leaf_ok (sp_push)) (mt_leaf_ok (sp_iload)))) (mt_node_ok (mt_leaf_ok (rfl)) (mt_node_ok (mt_leaf_ok (trivial)) (mt_leaf_ok (sp_iload))))) (mt_node_ok (mt_node_ok (mt_leaf_ok (sp_push)) (mt_node_ok (mt_leaf_ok (sp_if2)) (mt_leaf_ok (sp_aload)))) (mt_node_ok (mt_leaf_ok (sp_push)) (mt_node_ok (mt_leaf_ok (rfl)) (mt_leaf_ok (sp_if)))))) (mt_node_ok (mt_node_ok (mt_node_ok (mt_leaf_ok (sp_aload)) (mt_node_ok (mt_leaf_ok (sp_aload)) (mt_leaf_ok (sp_get)))) (mt_node_ok (mt_leaf_ok (sp_iload)) (mt_node_ok (mt_leaf_ok (sp_push)) (mt_leaf_ok (sp_bin))))) (mt_node_ok (mt_node_ok (mt_leaf_ok (rfl)) (mt_node_ok (mt_leaf_ok (sp_put)) (mt_leaf_ok (sp_aload)))) (mt_node_ok (mt_leaf_ok (sp_get)) (mt_node_ok (mt_leaf_ok (sp_aload)) (mt_leaf_ok (sp_get))))))) (mt_node_ok (mt_node_ok (mt_node_ok (mt_node_ok (mt_leaf_ok (rfl)) (mt_node_ok (mt_leaf_ok (sp_aload)) (mt_leaf_ok (sp_aload)))) (mt_node_ok (mt_leaf_ok (sp_get)) (mt_node_ok (mt_leaf_ok (rfl)) (mt_leaf_ok (sp_if2))))) (mt_node_ok (mt_node_ok (mt_leaf_ok (sp_aload)) (mt_node_ok (mt_leaf_ok (sp_get)) (mt_leaf_ok (sp_push)))) (mt_node_ok (mt_leaf_ok (sp_iload)) (mt_node_ok (mt_leaf_ok (rfl)) (mt_leaf_ok (trivial)))))) (mt_node_ok (mt_node_ok (mt_node_ok (mt_leaf_ok (sp_aload)) (mt_node_ok (mt_leaf_ok (sp_iload)) (mt_leaf_ok (rfl)))) (mt_node_ok (mt_leaf_ok (sp_isto)) (mt_node_ok (mt_leaf_ok (sp_iinc)) (mt_leaf_ok (sp_goto))))) (mt_node_ok (mt_node_ok (mt_leaf_ok (sp_aload)) (mt_node_ok (mt_leaf_ok (sp_aload)) (mt_leaf_ok (sp_get)))) (mt_node_ok (mt_leaf_ok (rfl)) (mt_node_ok (mt_leaf_ok (sp_put)) (mt_leaf_ok (sp_push)))))))
theorem sr_39_2 {g : xe_G} : mt_all (spP srS) (mb_39_2 g) := mt_leaf_ok (trivial)
theorem sr_39 {g : xe_G} : mt_all (spP srS) (mb_39 g).2.1 := mt_node_ok ((sr_39_0 (g := g))) (mt_node_ok ((sr_39_1 (g := g))) ((sr_39_2 (g := g))))
theorem sr_40_0 {g : xe_G} : mt_all (spP srS) (mb_40_0 g) := mt_node_ok (mt_node_ok (mt_node_ok (mt_node_ok (mt_node_ok (mt_leaf_ok (sp_aload)) (mt_node_ok (mt_leaf_ok (sp_push)) (mt_leaf_ok (sp_put)))) (mt_node_ok (mt_leaf_ok (sp_aload)) (mt_node_ok (mt_leaf_ok (sp_get)) (mt_leaf_ok (sp_isto))))) (mt_node_ok (mt_node_ok (mt_leaf_ok (sp_push)) (mt_node_ok (mt_leaf_ok (sp_isto)) (mt_leaf_ok (sp_iload)))) (mt_node_ok (mt_leaf_ok (sp_aload)) (mt_node_ok (mt_leaf_ok (sp_get)) (mt_leaf_ok (sp_if2)))))) (mt_node_ok (mt_node_ok (mt_node_ok (mt_leaf_ok (sp_aload)) (mt_node_ok (mt_leaf_ok (sp_aload)) (mt_leaf_ok (sp_get)))) (mt_node_ok (mt_leaf_ok (sp_iload)) (mt_node_ok (mt_leaf_ok (rfl)) (mt_leaf_ok (rfl))))) (mt_node_ok (mt_node_ok (mt_leaf_ok (sp_isto)) (mt_node_ok (mt_leaf_ok (sp_aload)) (mt_leaf_ok (sp_iload)))) (mt_node_ok (mt_leaf_ok (sp_iload)) (mt_node_ok (mt_leaf_ok (rfl)) (mt_leaf_ok (sp_if))))))) (mt_node_ok (mt_node_ok (mt_node_ok (mt_node_ok (mt_leaf_ok (sp_push)) (mt_node_ok (mt_leaf_ok (trivial)) (mt_leaf_ok (sp_iload)))) (mt_node_ok (mt_leaf_ok (sp_if)) (mt_node_ok (mt_leaf_ok (sp_aload)) (mt_leaf_ok (sp_iload))))) (mt_node_ok (mt_node_ok (mt_leaf_ok (sp_iload)) (mt_node_ok (mt_leaf_ok (sp_push)) (mt_leaf_ok (sp_bin)))) (mt_node_ok (mt_leaf_ok (sp_aload)) (mt_node_ok (mt_leaf_ok (sp_iload)) (mt_leaf_ok (rfl)))))) (mt_node_ok (mt_node_ok (mt_node_ok (mt_leaf_ok (rfl)) (mt_node_ok (mt_leaf_ok (sp_aload)) (mt_leaf_ok (sp_iload)))) (mt_node_ok (mt_leaf_ok (rfl)) (mt_node_ok (mt_leaf_ok (sp_if2)) (mt_leaf_ok (sp_aload))))) (mt_node_ok (mt_node_ok (mt_leaf_ok (sp_get)) (mt_node_ok (mt_leaf_ok (sp_push)) (mt_leaf_ok (sp_iload)))) (mt_node_ok (mt_leaf_ok (rfl)) (mt_node_ok (mt_leaf_ok (trivial)) (mt_leaf_ok (sp_iload)))))))
theorem sr_40_1 {g : xe_G} : mt_all (spP srS) (mb_40_1 g) := mt_node_ok (mt_node_ok (mt_node_ok (mt_node_ok (mt_node_ok (mt_leaf_ok (sp_push)) (mt_leaf_ok (sp_if2))) (mt_node_ok (mt_leaf_ok (sp_aload)) (mt_node_ok (mt_leaf_ok (sp_aload)) (mt_leaf_ok (sp_iload))))) (mt_node_ok (mt_node_ok (mt_leaf_ok (rfl)) (mt_node_ok (mt_leaf_ok (sp_if)) (mt_leaf_ok (sp_push)))) (mt_node_ok (mt_leaf_ok (trivial)) (mt_node_ok (mt_leaf_ok (sp_iload)) (mt_leaf_ok (sp_push)))))) (mt_node_ok (mt_node_ok (mt_node_ok (mt_leaf_ok (sp_if2)) (mt_leaf_ok (sp_aload))) (mt_node_ok (mt_leaf_ok (sp_aload)) (mt_node_ok (mt_leaf_ok (sp_get)) (mt_leaf_ok (sp_iload))))) (mt_node_ok (mt_node_ok (mt_leaf_ok (sp_push)) (mt_node_ok (mt_leaf_ok (sp_bin)) (mt_leaf_ok (rfl)))) (mt_node_ok (mt_leaf_ok (sp_put)) (mt_node_ok (mt_leaf_ok (sp_aload)) (mt_leaf_ok (sp_iload))))))) (mt_node_ok (mt_node_ok (mt_node_ok (mt_node_ok (mt_leaf_ok (rfl)) (mt_leaf_ok (sp_if))) (mt_node_ok (mt_leaf_ok (sp_aload)) (mt_node_ok (mt_leaf_ok (sp_get)) (mt_leaf_ok (sp_push))))) (mt_node_ok (mt_node_ok (mt_leaf_ok (sp_iload)) (mt_node_ok (mt_leaf_ok (rfl)) (mt_leaf_ok (trivial)))) (mt_node_ok (mt_leaf_ok (sp_aload)) (mt_node_ok (mt_leaf_ok (sp_iload)) (mt_leaf_ok (rfl)))))) (mt_node_ok (mt_node_ok (mt_node_ok (mt_leaf_ok (sp_isto)) (mt_node_ok (mt_leaf_ok (sp_iinc)) (mt_leaf_ok (sp_goto)))) (mt_node_ok (mt_leaf_ok (sp_aload)) (mt_node_ok (mt_leaf_ok (sp_aload)) (mt_leaf_ok (sp_get))))) (mt_node_ok (mt_node_ok (mt_leaf_ok (sp_push)) (mt_node_ok (mt_leaf_ok (sp_bin)) (mt_leaf_ok (rfl)))) (mt_node_ok (mt_leaf_ok (sp_put)) (mt_node_ok (mt_leaf_ok (sp_push)) (mt_leaf_ok (trivial)))))))
theorem sr_40 {g : xe_G} : mt_all (spP srS) (mb_40 g).2.1 := mt_node_ok ((sr_40_0 (g := g))) ((sr_40_1 (g := g)))
theorem sr_41_0 {g : xe_G} : mt_all (spP srS) (mb_41_0 g) := mt_node_ok (mt_node_ok (mt_node_ok (mt_node_ok (mt_node_ok (mt_leaf_ok (sp_aload)) (mt_leaf_ok (sp_get))) (mt_node_ok (mt_leaf_ok (sp_iload)) (mt_node_ok (mt_leaf_ok (rfl)) (mt_leaf_ok (sp_isto))))) (mt_node_ok (mt_node_ok (mt_leaf_ok (sp_iload)) (mt_leaf_ok (sp_push))) (mt_node_ok (mt_leaf_ok (sp_bin)) (mt_node_ok (mt_leaf_ok (sp_isto)) (mt_leaf_ok (sp_push)))))) (mt_node_ok (mt_node_ok (mt_node_ok (mt_leaf_ok (sp_isto)) (mt_leaf_ok (sp_iload))) (mt_node_ok (mt_leaf_ok (sp_iload)) (mt_node_ok (mt_leaf_ok (sp_if2)) (mt_leaf_ok (sp_iload))))) (mt_node_ok (mt_node_ok (mt_leaf_ok (sp_iload)) (mt_node_ok (mt_leaf_ok (sp_bin)) (mt_leaf_ok (sp_push)))) (mt_node_ok (mt_leaf_ok (sp_if2)) (mt_node_ok (mt_leaf_ok (sp_push)) (mt_leaf_ok (trivial))))))) (mt_node_ok (mt_node_ok (mt_node_ok (mt_node_ok (mt_leaf_ok (sp_aload)) (mt_leaf_ok (sp_get))) (mt_node_ok (mt_leaf_ok (sp_iload)) (mt_node_ok (mt_leaf_ok (sp_push)) (mt_leaf_ok (sp_bin))))) (mt_node_ok (mt_node_ok (mt_leaf_ok (sp_aload)) (mt_node_ok (mt_leaf_ok (sp_get)) (mt_leaf_ok (sp_iload)))) (mt_node_ok (mt_leaf_ok (sp_push)) (mt_node_ok (mt_leaf_ok (sp_bin)) (mt_leaf_ok (rfl)))))) (mt_node_ok (mt_node_ok (mt_node_ok (mt_leaf_ok (sp_iload)) (mt_leaf_ok (rfl))) (mt_node_ok (mt_leaf_ok (sp_isto)) (mt_node_ok (mt_leaf_ok (sp_iload)) (mt_leaf_ok (sp_if))))) (mt_node_ok (mt_node_ok (mt_leaf_ok (sp_push)) (mt_node_ok (mt_leaf_ok (trivial)) (mt_leaf_ok (sp_iinc)))) (mt_node_ok (mt_leaf_ok (sp_goto)) (mt_node_ok (mt_leaf_ok (sp_iload)) (mt_leaf_ok (trivial)))))))
theorem sr_41 {g : xe_G} : mt_all (spP srS) (mb_41 g).2.1 := (sr_41_0 (g := g))
theorem sr_42_0 {g : xe_G} : mt_all (spP srS) (mb_42_0 g) := mt_node_ok (mt_node_ok (mt_node_ok (mt_node_ok (mt_node_ok (mt_leaf_ok (sp_iload)) (mt_node_ok (mt_leaf_ok (sp_push)) (mt_leaf_ok (sp_bin)))) (mt_node_ok (mt_leaf_ok (sp_isto)) (mt_node_ok (mt_leaf_ok (sp_push)) (mt_leaf_ok (sp_isto))))) (mt_node_ok (mt_node_ok (mt_leaf_ok (sp_iload)) (mt_node_ok (mt_leaf_ok (sp_aload)) (mt_leaf_ok (sp_get)))) (mt_node_ok (mt_leaf_ok (sp_get)) (mt_node_ok (mt_leaf_ok (sp_if2)) (mt_leaf_ok (sp_aload)))))) (mt_node_ok (mt_node_ok (mt_node_ok (mt_leaf_ok (sp_get)) (mt_node_ok (mt_leaf_ok (sp_aload)) (mt_leaf_ok (sp_get)))) (mt_node_ok (mt_leaf_ok (sp_iload)) (mt_node_ok (mt_leaf_ok (rfl)) (mt_leaf_ok (rfl))))) (mt_node_ok (mt_node_ok (mt_leaf_ok (sp_if)) (mt_node_ok (mt_leaf_ok (sp_aload)) (mt_leaf_ok (sp_get)))) (mt_node_ok (mt_leaf_ok (sp_aload)) (mt_node_ok (mt_leaf_ok (sp_get)) (mt_leaf_ok (sp_iload))))))) (mt_node_ok (mt_node_ok (mt_node_ok (mt_node_ok (mt_leaf_ok (sp_push)) (mt_node_ok (mt_leaf_ok (sp_bin)) (mt_leaf_ok (rfl)))) (mt_node_ok (mt_leaf_ok (rfl)) (mt_node_ok (mt_leaf_ok (sp_if)) (mt_leaf_ok (sp_aload))))) (mt_node_ok (mt_node_ok (mt_leaf_ok (sp_get)) (mt_node_ok (mt_leaf_ok (sp_push)) (mt_leaf_ok (sp_iload)))) (mt_node_ok (mt_leaf_ok (rfl)) (mt_node_ok (mt_leaf_ok (trivial)) (mt_leaf_ok (sp_aload)))))) (mt_node_ok (mt_node_ok (mt_node_ok (mt_leaf_ok (sp_get)) (mt_node_ok (mt_leaf_ok (sp_iload)) (mt_leaf_ok (sp_push)))) (mt_node_ok (mt_leaf_ok (sp_bin)) (mt_node_ok (mt_leaf_ok (rfl)) (mt_leaf_ok (sp_isto))))) (mt_node_ok (mt_node_ok (mt_leaf_ok (sp_iinc)) (mt_node_ok (mt_leaf_ok (sp_push)) (mt_leaf_ok (sp_isto)))) (mt_node_ok (mt_leaf_ok (sp_iload)) (mt_node_ok (mt_leaf_ok (sp_iload)) (mt_leaf_ok (sp_if2)))))))
theorem sr_42_1 {g : xe_G} : mt_all (spP srS) (mb_42_1 g) := mt_node_ok (mt_node_ok (mt_node_ok (mt_node_ok (mt_leaf_ok (sp_aload)) (mt_leaf_ok (sp_iload))) (mt_node_ok (mt_leaf_ok (sp_push)) (mt_leaf_ok (rfl)))) (mt_node_ok (mt_node_ok (mt_leaf_ok (sp_if)) (mt_leaf_ok (sp_push))) (mt_node_ok (mt_leaf_ok (trivial)) (mt_leaf_ok (sp_aload))))) (mt_node_ok (mt_node_ok (mt_node_ok (mt_leaf_ok (sp_iload)) (mt_leaf_ok (rfl))) (mt_node_ok (mt_leaf_ok (sp_isto)) (mt_leaf_ok (sp_iinc)))) (mt_node_ok (mt_node_ok (mt_leaf_ok (sp_goto)) (mt_leaf_ok (sp_iinc))) (mt_node_ok (mt_leaf_ok (sp_goto)) (mt_node_ok (mt_leaf_ok (sp_push)) (mt_leaf_ok (trivial))))))
theorem sr_42 {g : xe_G} : mt_all (spP srS) (mb_42 g).2.1 := mt_node_ok ((sr_42_0 (g := g))) ((sr_42_1 (g := g)))
theorem sr_43_0 {g : xe_G} : mt_all (spP srS) (mb_43_0 g) := mt_node_ok (mt_node_ok (mt_node_ok (mt_node_ok (mt_node_ok (mt_leaf_ok (sp_aload)) (mt_leaf_ok (sp_get))) (mt_node_ok (mt_leaf_ok (sp_iload)) (mt_node_ok (mt_leaf_ok (sp_push)) (mt_leaf_ok (sp_bin))))) (mt_node_ok (mt_node_ok (mt_leaf_ok (rfl)) (mt_node_ok (mt_leaf_ok (sp_isto)) (mt_leaf_ok (sp_aload)))) (mt_node_ok (mt_leaf_ok (sp_get)) (mt_node_ok (mt_leaf_ok (sp_iload)) (mt_leaf_ok (sp_push)))))) (mt_node_ok (mt_node_ok (mt_node_ok (mt_leaf_ok (sp_bin)) (mt_leaf_ok (rfl))) (mt_node_ok (mt_leaf_ok (sp_isto)) (mt_node_ok (mt_leaf_ok (sp_aload)) (mt_leaf_ok (sp_get))))) (mt_node_ok (mt_node_ok (mt_leaf_ok (sp_iload)) (mt_node_ok (mt_leaf_ok (rfl)) (mt_leaf_ok (sp_iload)))) (mt_node_ok (mt_leaf_ok (sp_if2)) (mt_node_ok (mt_leaf_ok (sp_iload)) (mt_leaf_ok (sp_aload))))))) (mt_node_ok (mt_node_ok (mt_node_ok (mt_node_ok (mt_leaf_ok (sp_get)) (mt_leaf_ok (sp_if2))) (mt_node_ok (mt_leaf_ok (sp_aload)) (mt_node_ok (mt_leaf_ok (sp_get)) (mt_leaf_ok (sp_iload))))) (mt_node_ok (mt_node_ok (mt_leaf_ok (sp_push)) (mt_node_ok (mt_leaf_ok (sp_bin)) (mt_leaf_ok (rfl)))) (mt_node_ok (mt_leaf_ok (sp_aload)) (mt_node_ok (mt_leaf_ok (sp_get)) (mt_leaf_ok (sp_if2)))))) (mt_node_ok (mt_node_ok (mt_node_ok (mt_leaf_ok (sp_iload)) (mt_node_ok (mt_leaf_ok (sp_if)) (mt_leaf_ok (sp_aload)))) (mt_node_ok (mt_leaf_ok (sp_get)) (mt_node_ok (mt_leaf_ok (sp_iload)) (mt_leaf_ok (rfl))))) (mt_node_ok (mt_node_ok (mt_leaf_ok (sp_push)) (mt_node_ok (mt_leaf_ok (sp_if2)) (mt_leaf_ok (sp_push)))) (mt_node_ok (mt_leaf_ok (sp_goto)) (mt_node_ok (mt_leaf_ok (sp_push)) (mt_leaf_ok (trivial)))))))
theorem sr_43 {g : xe_G} : mt_all (spP srS) (mb_43 g).2.1 := (sr_43_0 (g := g))
theorem sr_44_0 {g : xe_G} : mt_all (spP srS) (mb_44_0 g) := mt_node_ok (mt_node_ok (mt_leaf_ok (sp_aload)) (mt_node_ok (mt_leaf_ok (sp_drop)) (mt_leaf_ok (sp_aload)))) (mt_node_ok (mt_leaf_ok (sp_aload)) (mt_node_ok (mt_leaf_ok (sp_put)) (mt_leaf_ok (trivial))))
theorem sr_44 {g : xe_G} : mt_all (spP srS) (mb_44 g).2.1 := (sr_44_0 (g := g))
theorem sr_45_0 {g : xe_G} : mt_all (spP srS) (mb_45_0 g) := mt_node_ok (mt_node_ok (mt_node_ok (mt_node_ok (mt_node_ok (mt_leaf_ok (sp_iload)) (mt_leaf_ok (sp_isto))) (mt_node_ok (mt_leaf_ok (sp_push)) (mt_node_ok (mt_leaf_ok (sp_isto)) (mt_leaf_ok (sp_iload))))) (mt_node_ok (mt_node_ok (mt_leaf_ok (sp_iload)) (mt_leaf_ok (sp_if2))) (mt_node_ok (mt_leaf_ok (sp_iload)) (mt_node_ok (mt_leaf_ok (sp_iload)) (mt_leaf_ok (sp_bin)))))) (mt_node_ok (mt_node_ok (mt_node_ok (mt_leaf_ok (sp_push)) (mt_leaf_ok (sp_if2))) (mt_node_ok (mt_leaf_ok (sp_push)) (mt_node_ok (mt_leaf_ok (trivial)) (mt_leaf_ok (sp_aload))))) (mt_node_ok (mt_node_ok (mt_leaf_ok (sp_iload)) (mt_leaf_ok (sp_push))) (mt_node_ok (mt_leaf_ok (sp_bin)) (mt_node_ok (mt_leaf_ok (rfl)) (mt_leaf_ok (sp_isto))))))) (mt_node_ok (mt_node_ok (mt_node_ok (mt_node_ok (mt_leaf_ok (sp_iload)) (mt_leaf_ok (sp_if))) (mt_node_ok (mt_leaf_ok (sp_iload)) (mt_node_ok (mt_leaf_ok (sp_iload)) (mt_leaf_ok (sp_iload))))) (mt_node_ok (mt_node_ok (mt_leaf_ok (sp_bin)) (mt_leaf_ok (sp_push))) (mt_node_ok (mt_leaf_ok (sp_bin)) (mt_node_ok (mt_leaf_ok (sp_if2)) (mt_leaf_ok (sp_push)))))) (mt_node_ok (mt_node_ok (mt_node_ok (mt_leaf_ok (trivial)) (mt_leaf_ok (sp_iload))) (mt_node_ok (mt_leaf_ok (sp_push)) (mt_node_ok (mt_leaf_ok (sp_iload)) (mt_leaf_ok (sp_bin))))) (mt_node_ok (mt_node_ok (mt_leaf_ok (sp_bin)) (mt_node_ok (mt_leaf_ok (sp_isto)) (mt_leaf_ok (sp_iinc)))) (mt_node_ok (mt_leaf_ok (sp_goto)) (mt_node_ok (mt_leaf_ok (sp_iload)) (mt_leaf_ok (trivial)))))))
theorem sr_45 {g : xe_G} : mt_all (spP srS) (mb_45 g).2.1 := (sr_45_0 (g := g))
theorem sr_46_0 {g : xe_G} : mt_all (spP srS) (mb_46_0 g) := mt_node_ok (mt_node_ok (mt_node_ok (mt_node_ok (mt_leaf_ok (sp_iload)) (mt_leaf_ok (sp_if))) (mt_node_ok (mt_leaf_ok (sp_iload)) (mt_node_ok (mt_leaf_ok (sp_iload)) (mt_leaf_ok (sp_if2))))) (mt_node_ok (mt_node_ok (mt_leaf_ok (sp_iload)) (mt_node_ok (mt_leaf_ok (sp_aload)) (mt_leaf_ok (sp_get)))) (mt_node_ok (mt_leaf_ok (sp_alen)) (mt_node_ok (mt_leaf_ok (sp_if2)) (mt_leaf_ok (sp_aload)))))) (mt_node_ok (mt_node_ok (mt_node_ok (mt_leaf_ok (sp_get)) (mt_leaf_ok (sp_iload))) (mt_node_ok (mt_leaf_ok (sp_ald)) (mt_node_ok (mt_leaf_ok (sp_push)) (mt_leaf_ok (sp_bin))))) (mt_node_ok (mt_node_ok (mt_leaf_ok (sp_push)) (mt_node_ok (mt_leaf_ok (sp_if2)) (mt_leaf_ok (sp_push)))) (mt_node_ok (mt_leaf_ok (sp_goto)) (mt_node_ok (mt_leaf_ok (sp_push)) (mt_leaf_ok (trivial))))))
theorem sr_46 {g : xe_G} : mt_all (spP srS) (mb_46 g).2.1 := (sr_46_0 (g := g))
theorem sr_47_0 {g : xe_G} : mt_all (spP srS) (mb_47_0 g) := mt_node_ok (mt_node_ok (mt_leaf_ok (sp_aload)) (mt_leaf_ok (sp_get))) (mt_node_ok (mt_leaf_ok (sp_alen)) (mt_leaf_ok (trivial)))
theorem sr_47 {g : xe_G} : mt_all (spP srS) (mb_47 g).2.1 := (sr_47_0 (g := g))
theorem sr_48_0 {g : xe_G} : mt_all (spP srS) (mb_48_0 g) := mt_node_ok (mt_node_ok (mt_node_ok (mt_node_ok (mt_leaf_ok (sp_iload)) (mt_leaf_ok (sp_if))) (mt_node_ok (mt_leaf_ok (sp_iload)) (mt_leaf_ok (sp_aload)))) (mt_node_ok (mt_node_ok (mt_leaf_ok (sp_get)) (mt_leaf_ok (sp_alen))) (mt_node_ok (mt_leaf_ok (sp_if2)) (mt_leaf_ok (sp_push))))) (mt_node_ok (mt_node_ok (mt_node_ok (mt_leaf_ok (sp_goto)) (mt_leaf_ok (sp_aload))) (mt_node_ok (mt_leaf_ok (sp_get)) (mt_leaf_ok (sp_iload)))) (mt_node_ok (mt_node_ok (mt_leaf_ok (sp_ald)) (mt_leaf_ok (sp_push))) (mt_node_ok (mt_leaf_ok (sp_bin)) (mt_leaf_ok (trivial)))))
theorem sr_48 {g : xe_G} : mt_all (spP srS) (mb_48 g).2.1 := (sr_48_0 (g := g))
theorem sr_49_0 {g : xe_G} : mt_all (spP srS) (mb_49_0 g) := mt_node_ok (mt_node_ok (mt_node_ok (mt_node_ok (mt_leaf_ok (sp_iload)) (mt_node_ok (mt_leaf_ok (sp_if)) (mt_leaf_ok (sp_iload)))) (mt_node_ok (mt_node_ok (mt_leaf_ok (sp_aload)) (mt_leaf_ok (sp_get))) (mt_node_ok (mt_leaf_ok (sp_alen)) (mt_leaf_ok (sp_push))))) (mt_node_ok (mt_node_ok (mt_leaf_ok (sp_bin)) (mt_node_ok (mt_leaf_ok (sp_if2)) (mt_leaf_ok (sp_push)))) (mt_node_ok (mt_node_ok (mt_leaf_ok (trivial)) (mt_leaf_ok (sp_aload))) (mt_node_ok (mt_leaf_ok (sp_get)) (mt_leaf_ok (sp_iload)))))) (mt_node_ok (mt_node_ok (mt_node_ok (mt_leaf_ok (sp_ald)) (mt_node_ok (mt_leaf_ok (sp_push)) (mt_leaf_ok (sp_bin)))) (mt_node_ok (mt_node_ok (mt_leaf_ok (sp_push)) (mt_leaf_ok (sp_bin))) (mt_node_ok (mt_leaf_ok (sp_aload)) (mt_leaf_ok (sp_get))))) (mt_node_ok (mt_node_ok (mt_node_ok (mt_leaf_ok (sp_iload)) (mt_leaf_ok (sp_push))) (mt_node_ok (mt_leaf_ok (sp_bin)) (mt_leaf_ok (sp_ald)))) (mt_node_ok (mt_node_ok (mt_leaf_ok (sp_push)) (mt_leaf_ok (sp_bin))) (mt_node_ok (mt_leaf_ok (sp_bin)) (mt_leaf_ok (trivial))))))
theorem sr_49 {g : xe_G} : mt_all (spP srS) (mb_49 g).2.1 := (sr_49_0 (g := g))
theorem sr_50_0 {g : xe_G} : mt_all (spP srS) (mb_50_0 g) := mt_node_ok (mt_node_ok (mt_node_ok (mt_node_ok (mt_node_ok (mt_leaf_ok (sp_iload)) (mt_node_ok (mt_leaf_ok (sp_if)) (mt_leaf_ok (sp_iload)))) (mt_node_ok (mt_leaf_ok (sp_aload)) (mt_node_ok (mt_leaf_ok (sp_get)) (mt_leaf_ok (sp_alen))))) (mt_node_ok (mt_node_ok (mt_leaf_ok (sp_push)) (mt_node_ok (mt_leaf_ok (sp_bin)) (mt_leaf_ok (sp_if2)))) (mt_node_ok (mt_leaf_ok (sp_push)) (mt_node_ok (mt_leaf_ok (trivial)) (mt_leaf_ok (sp_aload)))))) (mt_node_ok (mt_node_ok (mt_node_ok (mt_leaf_ok (sp_get)) (mt_node_ok (mt_leaf_ok (sp_iload)) (mt_leaf_ok (sp_ald)))) (mt_node_ok (mt_leaf_ok (sp_push)) (mt_node_ok (mt_leaf_ok (sp_bin)) (mt_leaf_ok (sp_aload))))) (mt_node_ok (mt_node_ok (mt_leaf_ok (sp_get)) (mt_node_ok (mt_leaf_ok (sp_iload)) (mt_leaf_ok (sp_push)))) (mt_node_ok (mt_leaf_ok (sp_bin)) (mt_node_ok (mt_leaf_ok (sp_ald)) (mt_leaf_ok (sp_push))))))) (mt_node_ok (mt_node_ok (mt_node_ok (mt_node_ok (mt_leaf_ok (sp_bin)) (mt_node_ok (mt_leaf_ok (sp_push)) (mt_leaf_ok (sp_bin)))) (mt_node_ok (mt_leaf_ok (sp_bin)) (mt_node_ok (mt_leaf_ok (sp_aload)) (mt_leaf_ok (sp_get))))) (mt_node_ok (mt_node_ok (mt_leaf_ok (sp_iload)) (mt_node_ok (mt_leaf_ok (sp_push)) (mt_leaf_ok (sp_bin)))) (mt_node_ok (mt_leaf_ok (sp_ald)) (mt_node_ok (mt_leaf_ok (sp_push)) (mt_leaf_ok (sp_bin)))))) (mt_node_ok (mt_node_ok (mt_node_ok (mt_leaf_ok (sp_push)) (mt_node_ok (mt_leaf_ok (sp_bin)) (mt_leaf_ok (sp_bin)))) (mt_node_ok (mt_leaf_ok (sp_aload)) (mt_node_ok (mt_leaf_ok (sp_get)) (mt_leaf_ok (sp_iload))))) (mt_node_ok (mt_node_ok (mt_leaf_ok (sp_push)) (mt_node_ok (mt_leaf_ok (sp_bin)) (mt_leaf_ok (sp_ald)))) (mt_node_ok (mt_leaf_ok (sp_push)) (mt_node_ok (mt_leaf_ok (sp_bin)) (mt_leaf_ok (sp_bin)))))))
theorem sr_50_1 {g : xe_G} : mt_all (spP srS) (mb_50_1 g) := mt_leaf_ok (trivial)
theorem sr_50 {g : xe_G} : mt_all (spP srS) (mb_50 g).2.1 := mt_node_ok ((sr_50_0 (g := g))) ((sr_50_1 (g := g)))
theorem sr_51_0 {g : xe_G} : mt_all (spP srS) (mb_51_0 g) := mt_node_ok (mt_node_ok (mt_node_ok (mt_node_ok (mt_leaf_ok (sp_aload)) (mt_leaf_ok (sp_drop))) (mt_node_ok (mt_leaf_ok (sp_aload)) (mt_node_ok (mt_leaf_ok (sp_aload)) (mt_leaf_ok (sp_put))))) (mt_node_ok (mt_node_ok (mt_leaf_ok (sp_aload)) (mt_leaf_ok (sp_aload))) (mt_node_ok (mt_leaf_ok (sp_put)) (mt_node_ok (mt_leaf_ok (sp_aload)) (mt_leaf_ok (sp_aload)))))) (mt_node_ok (mt_node_ok (mt_node_ok (mt_leaf_ok (sp_put)) (mt_leaf_ok (sp_aload))) (mt_node_ok (mt_leaf_ok (sp_aload)) (mt_node_ok (mt_leaf_ok (sp_get)) (mt_leaf_ok (sp_put))))) (mt_node_ok (mt_node_ok (mt_leaf_ok (sp_aload)) (mt_leaf_ok (sp_aload))) (mt_node_ok (mt_leaf_ok (sp_get)) (mt_node_ok (mt_leaf_ok (sp_put)) (mt_leaf_ok (trivial))))))
theorem sr_51 {g : xe_G} : mt_all (spP srS) (mb_51 g).2.1 := (sr_51_0 (g := g))
theorem sr_52_0 {g : xe_G} : mt_all (spP srS) (mb_52_0 g) := mt_node_ok (mt_node_ok (mt_node_ok (mt_node_ok (mt_leaf_ok (sp_aload)) (mt_node_ok (mt_leaf_ok (sp_push)) (mt_leaf_ok (rfl)))) (mt_node_ok (mt_leaf_ok (sp_if)) (mt_node_ok (mt_leaf_ok (sp_push)) (mt_leaf_ok (trivial))))) (mt_node_ok (mt_node_ok (mt_leaf_ok (sp_aload)) (mt_node_ok (mt_leaf_ok (sp_get)) (mt_leaf_ok (sp_get)))) (mt_node_ok (mt_leaf_ok (sp_push)) (mt_node_ok (mt_leaf_ok (sp_if2)) (mt_leaf_ok (sp_aload)))))) (mt_node_ok (mt_node_ok (mt_node_ok (mt_leaf_ok (sp_get)) (mt_node_ok (mt_leaf_ok (sp_get)) (mt_leaf_ok (sp_push)))) (mt_node_ok (mt_leaf_ok (sp_if2)) (mt_node_ok (mt_leaf_ok (sp_aload)) (mt_leaf_ok (sp_push))))) (mt_node_ok (mt_node_ok (mt_leaf_ok (rfl)) (mt_node_ok (mt_leaf_ok (sp_if)) (mt_leaf_ok (sp_push)))) (mt_node_ok (mt_leaf_ok (sp_goto)) (mt_node_ok (mt_leaf_ok (sp_push)) (mt_leaf_ok (trivial))))))
theorem sr_52 {g : xe_G} : mt_all (spP srS) (mb_52 g).2.1 := (sr_52_0 (g := g))
theorem sr_53_0 {g : xe_G} : mt_all (spP srS) (mb_53_0 g) := mt_node_ok (mt_node_ok (mt_node_ok (mt_node_ok (mt_node_ok (mt_leaf_ok (sp_iload)) (mt_leaf_ok (sp_push))) (mt_node_ok (mt_leaf_ok (sp_bin)) (mt_leaf_ok (sp_if)))) (mt_node_ok (mt_node_ok (mt_leaf_ok (sp_push)) (mt_leaf_ok (trivial))) (mt_node_ok (mt_leaf_ok (sp_iload)) (mt_leaf_ok (sp_push))))) (mt_node_ok (mt_node_ok (mt_node_ok (mt_leaf_ok (sp_bin)) (mt_leaf_ok (sp_if))) (mt_node_ok (mt_leaf_ok (sp_iload)) (mt_leaf_ok (sp_push)))) (mt_node_ok (mt_node_ok (mt_leaf_ok (sp_bin)) (mt_leaf_ok (sp_if))) (mt_node_ok (mt_leaf_ok (sp_iload)) (mt_node_ok (mt_leaf_ok (sp_push)) (mt_leaf_ok (sp_bin))))))) (mt_node_ok (mt_node_ok (mt_node_ok (mt_node_ok (mt_leaf_ok (sp_if)) (mt_leaf_ok (sp_push))) (mt_node_ok (mt_leaf_ok (sp_goto)) (mt_leaf_ok (sp_push)))) (mt_node_ok (mt_node_ok (mt_leaf_ok (trivial)) (mt_leaf_ok (sp_iload))) (mt_node_ok (mt_leaf_ok (sp_push)) (mt_leaf_ok (sp_bin))))) (mt_node_ok (mt_node_ok (mt_node_ok (mt_leaf_ok (sp_if)) (mt_leaf_ok (sp_iload))) (mt_node_ok (mt_leaf_ok (sp_push)) (mt_leaf_ok (rfl)))) (mt_node_ok (mt_node_ok (mt_leaf_ok (sp_if)) (mt_leaf_ok (sp_push))) (mt_node_ok (mt_leaf_ok (sp_goto)) (mt_node_ok (mt_leaf_ok (sp_push)) (mt_leaf_ok (trivial)))))))
theorem sr_53 {g : xe_G} : mt_all (spP srS) (mb_53 g).2.1 := (sr_53_0 (g := g))
theorem sr_54_0 {g : xe_G} : mt_all (spP srS) (mb_54_0 g) := mt_node_ok (mt_node_ok (mt_node_ok (mt_node_ok (mt_node_ok (mt_leaf_ok (sp_aload)) (mt_leaf_ok (sp_get))) (mt_node_ok (mt_leaf_ok (sp_aload)) (mt_leaf_ok (sp_get)))) (mt_node_ok (mt_node_ok (mt_leaf_ok (sp_push)) (mt_leaf_ok (rfl))) (mt_node_ok (mt_leaf_ok (sp_if)) (mt_leaf_ok (sp_aload))))) (mt_node_ok (mt_node_ok (mt_node_ok (mt_leaf_ok (sp_push)) (mt_leaf_ok (rfl))) (mt_node_ok (mt_leaf_ok (sp_if)) (mt_leaf_ok (sp_push)))) (mt_node_ok (mt_node_ok (mt_leaf_ok (sp_goto)) (mt_leaf_ok (sp_push))) (mt_node_ok (mt_leaf_ok (sp_isto)) (mt_node_ok (mt_leaf_ok (sp_iload)) (mt_leaf_ok (sp_aload))))))) (mt_node_ok (mt_node_ok (mt_node_ok (mt_node_ok (mt_leaf_ok (sp_get)) (mt_leaf_ok (sp_null))) (mt_node_ok (mt_leaf_ok (sp_push)) (mt_leaf_ok (sp_goto)))) (mt_node_ok (mt_node_ok (mt_leaf_ok (sp_push)) (mt_leaf_ok (sp_if2))) (mt_node_ok (mt_leaf_ok (sp_aload)) (mt_leaf_ok (sp_get))))) (mt_node_ok (mt_node_ok (mt_node_ok (mt_leaf_ok (sp_push)) (mt_leaf_ok (sp_aload))) (mt_node_ok (mt_leaf_ok (sp_get)) (mt_leaf_ok (rfl)))) (mt_node_ok (mt_node_ok (mt_leaf_ok (sp_if)) (mt_leaf_ok (sp_push))) (mt_node_ok (mt_leaf_ok (sp_goto)) (mt_node_ok (mt_leaf_ok (sp_push)) (mt_leaf_ok (trivial)))))))
theorem sr_54 {g : xe_G} : mt_all (spP srS) (mb_54 g).2.1 := (sr_54_0 (g := g))
theorem sr_55_0 {g : xe_G} : mt_all (spP srS) (mb_55_0 g) := mt_node_ok (mt_node_ok (mt_node_ok (mt_node_ok (mt_leaf_ok (sp_aload)) (mt_node_ok (mt_leaf_ok (sp_get)) (mt_leaf_ok (sp_push)))) (mt_node_ok (mt_leaf_ok (rfl)) (mt_node_ok (mt_leaf_ok (sp_if)) (mt_leaf_ok (sp_push))))) (mt_node_ok (mt_node_ok (mt_leaf_ok (sp_isto)) (mt_node_ok (mt_leaf_ok (sp_iload)) (mt_leaf_ok (sp_iload)))) (mt_node_ok (mt_node_ok (mt_leaf_ok (sp_bin)) (mt_leaf_ok (sp_push))) (mt_node_ok (mt_leaf_ok (sp_if2)) (mt_leaf_ok (sp_push)))))) (mt_node_ok (mt_node_ok (mt_node_ok (mt_leaf_ok (sp_goto)) (mt_node_ok (mt_leaf_ok (sp_push)) (mt_leaf_ok (trivial)))) (mt_node_ok (mt_node_ok (mt_leaf_ok (sp_iload)) (mt_leaf_ok (rfl))) (mt_node_ok (mt_leaf_ok (sp_if)) (mt_leaf_ok (sp_iload))))) (mt_node_ok (mt_node_ok (mt_leaf_ok (sp_push)) (mt_node_ok (mt_leaf_ok (rfl)) (mt_leaf_ok (sp_if)))) (mt_node_ok (mt_node_ok (mt_leaf_ok (sp_push)) (mt_leaf_ok (sp_goto))) (mt_node_ok (mt_leaf_ok (sp_push)) (mt_leaf_ok (trivial))))))
theorem sr_55 {g : xe_G} : mt_all (spP srS) (mb_55 g).2.1 := (sr_55_0 (g := g))
theorem sr_56_0 {g : xe_G} : mt_all (spP srS) (mb_56_0 g) := mt_node_ok (mt_node_ok (mt_node_ok (mt_node_ok (mt_node_ok (mt_leaf_ok (sp_aload)) (mt_node_ok (mt_leaf_ok (sp_aload)) (mt_leaf_ok (sp_get)))) (mt_node_ok (mt_leaf_ok (rfl)) (mt_node_ok (mt_leaf_ok (sp_if)) (mt_leaf_ok (sp_aload))))) (mt_node_ok (mt_node_ok (mt_leaf_ok (sp_get)) (mt_node_ok (mt_leaf_ok (sp_push)) (mt_leaf_ok (sp_aload)))) (mt_node_ok (mt_leaf_ok (sp_get)) (mt_node_ok (mt_leaf_ok (rfl)) (mt_leaf_ok (trivial)))))) (mt_node_ok (mt_node_ok (mt_node_ok (mt_leaf_ok (sp_aload)) (mt_node_ok (mt_leaf_ok (sp_get)) (mt_leaf_ok (sp_aload)))) (mt_node_ok (mt_leaf_ok (sp_get)) (mt_node_ok (mt_leaf_ok (rfl)) (mt_leaf_ok (sp_if))))) (mt_node_ok (mt_node_ok (mt_leaf_ok (sp_aload)) (mt_node_ok (mt_leaf_ok (sp_get)) (mt_leaf_ok (sp_push)))) (mt_node_ok (mt_leaf_ok (sp_aload)) (mt_node_ok (mt_leaf_ok (sp_get)) (mt_leaf_ok (sp_push))))))) (mt_node_ok (mt_node_ok (mt_node_ok (mt_node_ok (mt_leaf_ok (sp_bin)) (mt_node_ok (mt_leaf_ok (rfl)) (mt_leaf_ok (trivial)))) (mt_node_ok (mt_leaf_ok (sp_aload)) (mt_node_ok (mt_leaf_ok (sp_get)) (mt_leaf_ok (sp_aload))))) (mt_node_ok (mt_node_ok (mt_leaf_ok (sp_get)) (mt_node_ok (mt_leaf_ok (rfl)) (mt_leaf_ok (sp_if)))) (mt_node_ok (mt_leaf_ok (sp_aload)) (mt_node_ok (mt_leaf_ok (sp_get)) (mt_leaf_ok (sp_push)))))) (mt_node_ok (mt_node_ok (mt_node_ok (mt_leaf_ok (sp_aload)) (mt_node_ok (mt_leaf_ok (sp_get)) (mt_leaf_ok (sp_push)))) (mt_node_ok (mt_leaf_ok (sp_bin)) (mt_node_ok (mt_leaf_ok (rfl)) (mt_leaf_ok (trivial))))) (mt_node_ok (mt_node_ok (mt_leaf_ok (sp_aload)) (mt_node_ok (mt_leaf_ok (sp_get)) (mt_leaf_ok (sp_aload)))) (mt_node_ok (mt_leaf_ok (sp_get)) (mt_node_ok (mt_leaf_ok (sp_get)) (mt_leaf_ok (sp_iload)))))))
theorem sr_56_1 {g : xe_G} : mt_all (spP srS) (mb_56_1 g) := mt_node_ok (mt_node_ok (mt_node_ok (mt_leaf_ok (sp_aload)) (mt_node_ok (mt_leaf_ok (sp_get)) (mt_leaf_ok (sp_aload)))) (mt_node_ok (mt_node_ok (mt_leaf_ok (sp_get)) (mt_leaf_ok (rfl))) (mt_node_ok (mt_leaf_ok (sp_if)) (mt_leaf_ok (sp_aload))))) (mt_node_ok (mt_node_ok (mt_node_ok (mt_leaf_ok (sp_get)) (mt_leaf_ok (sp_push))) (mt_node_ok (mt_leaf_ok (sp_aload)) (mt_leaf_ok (sp_get)))) (mt_node_ok (mt_node_ok (mt_leaf_ok (rfl)) (mt_leaf_ok (trivial))) (mt_node_ok (mt_leaf_ok (sp_push)) (mt_leaf_ok (trivial)))))
theorem sr_56 {g : xe_G} : mt_all (spP srS) (mb_56 g).2.1 := mt_node_ok ((sr_56_0 (g := g))) ((sr_56_1 (g := g)))
theorem sr_57_0 {g : xe_G} : mt_all (spP srS) (mb_57_0 g) := mt_node_ok (mt_node_ok (mt_node_ok (mt_node_ok (mt_node_ok (mt_leaf_ok (sp_push)) (mt_leaf_ok (sp_isto))) (mt_node_ok (mt_leaf_ok (sp_iload)) (mt_leaf_ok (sp_aload)))) (mt_node_ok (mt_node_ok (mt_leaf_ok (sp_get)) (mt_leaf_ok (sp_get))) (mt_node_ok (mt_leaf_ok (sp_alen)) (mt_leaf_ok (sp_if2))))) (mt_node_ok (mt_node_ok (mt_node_ok (mt_leaf_ok (sp_aload)) (mt_leaf_ok (sp_get))) (mt_node_ok (mt_leaf_ok (sp_get)) (mt_leaf_ok (sp_iload)))) (mt_node_ok (mt_node_ok (mt_leaf_ok (sp_ald)) (mt_leaf_ok (sp_asto))) (mt_node_ok (mt_leaf_ok (sp_aload)) (mt_leaf_ok (sp_null)))))) (mt_node_ok (mt_node_ok (mt_node_ok (mt_node_ok (mt_leaf_ok (sp_goto)) (mt_leaf_ok (sp_aload))) (mt_node_ok (mt_leaf_ok (sp_aload)) (mt_leaf_ok (sp_iload)))) (mt_node_ok (mt_node_ok (mt_leaf_ok (rfl)) (mt_leaf_ok (sp_if))) (mt_node_ok (mt_leaf_ok (sp_aload)) (mt_leaf_ok (sp_get))))) (mt_node_ok (mt_node_ok (mt_node_ok (mt_leaf_ok (sp_aload)) (mt_leaf_ok (rfl))) (mt_node_ok (mt_leaf_ok (sp_if)) (mt_leaf_ok (sp_push)))) (mt_node_ok (mt_node_ok (mt_leaf_ok (trivial)) (mt_leaf_ok (sp_iinc))) (mt_node_ok (mt_leaf_ok (sp_goto)) (mt_node_ok (mt_leaf_ok (sp_push)) (mt_leaf_ok (trivial)))))))
theorem sr_57 {g : xe_G} : mt_all (spP srS) (mb_57 g).2.1 := (sr_57_0 (g := g))
theorem sr_58_0 {g : xe_G} : mt_all (spP srS) (mb_58_0 g) := mt_node_ok (mt_node_ok (mt_node_ok (mt_leaf_ok (sp_iload)) (mt_leaf_ok (sp_iload))) (mt_node_ok (mt_leaf_ok (sp_bin)) (mt_leaf_ok (sp_iload)))) (mt_node_ok (mt_node_ok (mt_leaf_ok (sp_if2)) (mt_leaf_ok (sp_push))) (mt_node_ok (mt_leaf_ok (sp_goto)) (mt_node_ok (mt_leaf_ok (sp_push)) (mt_leaf_ok (trivial)))))
theorem sr_58 {g : xe_G} : mt_all (spP srS) (mb_58 g).2.1 := (sr_58_0 (g := g))
theorem sr_59_0 {g : xe_G} : mt_all (spP srS) (mb_59_0 g) := mt_node_ok (mt_node_ok (mt_node_ok (mt_leaf_ok (sp_iload)) (mt_leaf_ok (sp_push))) (mt_node_ok (mt_leaf_ok (sp_bin)) (mt_node_ok (mt_leaf_ok (rfl)) (mt_leaf_ok (sp_push))))) (mt_node_ok (mt_node_ok (mt_leaf_ok (sp_if2)) (mt_leaf_ok (sp_push))) (mt_node_ok (mt_leaf_ok (sp_goto)) (mt_node_ok (mt_leaf_ok (sp_push)) (mt_leaf_ok (trivial)))))
theorem sr_59 {g : xe_G} : mt_all (spP srS) (mb_59 g).2.1 := (sr_59_0 (g := g))
theorem sr_60_0 {g : xe_G} : mt_all (spP srS) (mb_60_0 g) := mt_node_ok (mt_node_ok (mt_node_ok (mt_node_ok (mt_node_ok (mt_leaf_ok (sp_aload)) (mt_node_ok (mt_leaf_ok (sp_get)) (mt_leaf_ok (sp_get)))) (mt_node_ok (mt_leaf_ok (sp_isto)) (mt_node_ok (mt_leaf_ok (sp_aload)) (mt_leaf_ok (sp_get))))) (mt_node_ok (mt_node_ok (mt_leaf_ok (sp_iload)) (mt_node_ok (mt_leaf_ok (rfl)) (mt_leaf_ok (rfl)))) (mt_node_ok (mt_leaf_ok (sp_if)) (mt_node_ok (mt_leaf_ok (sp_aload)) (mt_leaf_ok (sp_get)))))) (mt_node_ok (mt_node_ok (mt_node_ok (mt_leaf_ok (sp_push)) (mt_node_ok (mt_leaf_ok (sp_iload)) (mt_leaf_ok (rfl)))) (mt_node_ok (mt_leaf_ok (trivial)) (mt_node_ok (mt_leaf_ok (sp_aload)) (mt_leaf_ok (sp_get))))) (mt_node_ok (mt_node_ok (mt_leaf_ok (sp_aload)) (mt_node_ok (mt_leaf_ok (sp_get)) (mt_leaf_ok (sp_iload)))) (mt_node_ok (mt_leaf_ok (sp_push)) (mt_node_ok (mt_leaf_ok (sp_bin)) (mt_leaf_ok (rfl))))))) (mt_node_ok (mt_node_ok (mt_node_ok (mt_node_ok (mt_leaf_ok (rfl)) (mt_node_ok (mt_leaf_ok (sp_if)) (mt_leaf_ok (sp_aload)))) (mt_node_ok (mt_leaf_ok (sp_get)) (mt_node_ok (mt_leaf_ok (sp_push)) (mt_leaf_ok (sp_iload))))) (mt_node_ok (mt_node_ok (mt_leaf_ok (sp_push)) (mt_node_ok (mt_leaf_ok (sp_bin)) (mt_leaf_ok (rfl)))) (mt_node_ok (mt_leaf_ok (trivial)) (mt_node_ok (mt_leaf_ok (sp_aload)) (mt_leaf_ok (sp_get)))))) (mt_node_ok (mt_node_ok (mt_node_ok (mt_leaf_ok (sp_iload)) (mt_node_ok (mt_leaf_ok (sp_push)) (mt_leaf_ok (sp_bin)))) (mt_node_ok (mt_leaf_ok (rfl)) (mt_node_ok (mt_leaf_ok (sp_isto)) (mt_leaf_ok (sp_aload))))) (mt_node_ok (mt_node_ok (mt_leaf_ok (sp_get)) (mt_node_ok (mt_leaf_ok (sp_iload)) (mt_leaf_ok (rfl)))) (mt_node_ok (mt_leaf_ok (sp_if)) (mt_node_ok (mt_leaf_ok (sp_aload)) (mt_leaf_ok (sp_get)))))))
theorem sr_60_1 {g : xe_G} : mt_all (spP srS) (mb_60_1 g) := mt_node_ok (mt_node_ok (mt_node_ok (mt_node_ok (mt_leaf_ok (sp_push)) (mt_node_ok (mt_leaf_ok (sp_iload)) (mt_leaf_ok (sp_push)))) (mt_node_ok (mt_node_ok (mt_leaf_ok (sp_bin)) (mt_leaf_ok (rfl))) (mt_node_ok (mt_leaf_ok (trivial)) (mt_leaf_ok (sp_aload))))) (mt_node_ok (mt_node_ok (mt_node_ok (mt_leaf_ok (sp_get)) (mt_leaf_ok (sp_push))) (mt_node_ok (mt_leaf_ok (rfl)) (mt_leaf_ok (sp_if)))) (mt_node_ok (mt_node_ok (mt_leaf_ok (sp_aload)) (mt_leaf_ok (sp_get))) (mt_node_ok (mt_leaf_ok (sp_aload)) (mt_leaf_ok (sp_get)))))) (mt_node_ok (mt_node_ok (mt_node_ok (mt_leaf_ok (sp_iload)) (mt_node_ok (mt_leaf_ok (rfl)) (mt_leaf_ok (sp_push)))) (mt_node_ok (mt_node_ok (mt_leaf_ok (rfl)) (mt_leaf_ok (sp_if))) (mt_node_ok (mt_leaf_ok (sp_aload)) (mt_leaf_ok (sp_get))))) (mt_node_ok (mt_node_ok (mt_node_ok (mt_leaf_ok (sp_push)) (mt_leaf_ok (sp_iload))) (mt_node_ok (mt_leaf_ok (sp_push)) (mt_leaf_ok (sp_bin)))) (mt_node_ok (mt_node_ok (mt_leaf_ok (rfl)) (mt_leaf_ok (trivial))) (mt_node_ok (mt_leaf_ok (sp_push)) (mt_leaf_ok (trivial))))))
theorem sr_60 {g : xe_G} : mt_all (spP srS) (mb_60 g).2.1 := mt_node_ok ((sr_60_0 (g := g))) ((sr_60_1 (g := g)))
theorem sr_61_0 {g : xe_G} : mt_all (spP srS) (mb_61_0 g) := mt_node_ok (mt_node_ok (mt_node_ok (mt_node_ok (mt_node_ok (mt_leaf_ok (sp_aload)) (mt_leaf_ok (sp_push))) (mt_node_ok (mt_leaf_ok (rfl)) (mt_leaf_ok (sp_if)))) (mt_node_ok (mt_node_ok (mt_leaf_ok (sp_push)) (mt_leaf_ok (trivial))) (mt_node_ok (mt_leaf_ok (sp_aload)) (mt_leaf_ok (sp_get))))) (mt_node_ok (mt_node_ok (mt_node_ok (mt_leaf_ok (sp_get)) (mt_leaf_ok (sp_push))) (mt_node_ok (mt_leaf_ok (sp_if2)) (mt_leaf_ok (sp_aload)))) (mt_node_ok (mt_node_ok (mt_leaf_ok (sp_get)) (mt_leaf_ok (sp_push))) (mt_node_ok (mt_leaf_ok (rfl)) (mt_node_ok (mt_leaf_ok (sp_if)) (mt_leaf_ok (sp_aload))))))) (mt_node_ok (mt_node_ok (mt_node_ok (mt_node_ok (mt_leaf_ok (sp_push)) (mt_leaf_ok (rfl))) (mt_node_ok (mt_leaf_ok (sp_if)) (mt_leaf_ok (sp_push)))) (mt_node_ok (mt_node_ok (mt_leaf_ok (sp_goto)) (mt_leaf_ok (sp_push))) (mt_node_ok (mt_leaf_ok (trivial)) (mt_node_ok (mt_leaf_ok (sp_aload)) (mt_leaf_ok (sp_push)))))) (mt_node_ok (mt_node_ok (mt_node_ok (mt_leaf_ok (rfl)) (mt_leaf_ok (sp_aload))) (mt_node_ok (mt_leaf_ok (sp_push)) (mt_leaf_ok (rfl)))) (mt_node_ok (mt_node_ok (mt_leaf_ok (sp_if2)) (mt_leaf_ok (sp_push))) (mt_node_ok (mt_leaf_ok (sp_goto)) (mt_node_ok (mt_leaf_ok (sp_push)) (mt_leaf_ok (trivial)))))))
theorem sr_61 {g : xe_G} : mt_all (spP srS) (mb_61 g).2.1 := (sr_61_0 (g := g))
theorem sr_62_0 {g : xe_G} : mt_all (spP srS) (mb_62_0 g) := mt_node_ok (mt_node_ok (mt_node_ok (mt_node_ok (mt_node_ok (mt_leaf_ok (sp_aload)) (mt_node_ok (mt_leaf_ok (sp_get)) (mt_leaf_ok (sp_get)))) (mt_node_ok (mt_leaf_ok (sp_push)) (mt_node_ok (mt_leaf_ok (sp_bin)) (mt_leaf_ok (sp_isto))))) (mt_node_ok (mt_node_ok (mt_leaf_ok (sp_push)) (mt_node_ok (mt_leaf_ok (sp_isto)) (mt_leaf_ok (sp_iload)))) (mt_node_ok (mt_leaf_ok (sp_aload)) (mt_node_ok (mt_leaf_ok (sp_get)) (mt_leaf_ok (sp_get)))))) (mt_node_ok (mt_node_ok (mt_node_ok (mt_leaf_ok (sp_if2)) (mt_node_ok (mt_leaf_ok (sp_aload)) (mt_leaf_ok (sp_get)))) (mt_node_ok (mt_leaf_ok (sp_iload)) (mt_node_ok (mt_leaf_ok (sp_push)) (mt_leaf_ok (sp_iload))))) (mt_node_ok (mt_node_ok (mt_leaf_ok (sp_bin)) (mt_node_ok (mt_leaf_ok (sp_bin)) (mt_leaf_ok (rfl)))) (mt_node_ok (mt_leaf_ok (sp_isto)) (mt_node_ok (mt_leaf_ok (sp_aload)) (mt_leaf_ok (sp_get))))))) (mt_node_ok (mt_node_ok (mt_node_ok (mt_node_ok (mt_leaf_ok (sp_iload)) (mt_node_ok (mt_leaf_ok (rfl)) (mt_leaf_ok (sp_if)))) (mt_node_ok (mt_leaf_ok (sp_aload)) (mt_node_ok (mt_leaf_ok (sp_get)) (mt_leaf_ok (sp_push))))) (mt_node_ok (mt_node_ok (mt_leaf_ok (sp_iload)) (mt_node_ok (mt_leaf_ok (sp_push)) (mt_leaf_ok (sp_iload)))) (mt_node_ok (mt_leaf_ok (sp_bin)) (mt_node_ok (mt_leaf_ok (sp_bin)) (mt_leaf_ok (rfl)))))) (mt_node_ok (mt_node_ok (mt_node_ok (mt_leaf_ok (trivial)) (mt_node_ok (mt_leaf_ok (sp_push)) (mt_leaf_ok (sp_isto)))) (mt_node_ok (mt_leaf_ok (sp_iload)) (mt_node_ok (mt_leaf_ok (sp_iload)) (mt_leaf_ok (sp_if2))))) (mt_node_ok (mt_node_ok (mt_leaf_ok (sp_aload)) (mt_node_ok (mt_leaf_ok (sp_get)) (mt_leaf_ok (sp_iload)))) (mt_node_ok (mt_leaf_ok (sp_push)) (mt_node_ok (mt_leaf_ok (sp_iload)) (mt_leaf_ok (sp_bin)))))))
theorem sr_62_1 {g : xe_G} : mt_all (spP srS) (mb_62_1 g) := mt_node_ok (mt_node_ok (mt_node_ok (mt_node_ok (mt_leaf_ok (sp_bin)) (mt_node_ok (mt_leaf_ok (rfl)) (mt_leaf_ok (sp_isto)))) (mt_node_ok (mt_node_ok (mt_leaf_ok (sp_aload)) (mt_leaf_ok (sp_get))) (mt_node_ok (mt_leaf_ok (sp_aload)) (mt_leaf_ok (sp_get))))) (mt_node_ok (mt_node_ok (mt_node_ok (mt_leaf_ok (sp_iload)) (mt_leaf_ok (rfl))) (mt_node_ok (mt_leaf_ok (sp_aload)) (mt_leaf_ok (sp_get)))) (mt_node_ok (mt_node_ok (mt_leaf_ok (sp_iload)) (mt_leaf_ok (rfl))) (mt_node_ok (mt_leaf_ok (rfl)) (mt_leaf_ok (sp_if)))))) (mt_node_ok (mt_node_ok (mt_node_ok (mt_node_ok (mt_leaf_ok (sp_aload)) (mt_leaf_ok (sp_get))) (mt_node_ok (mt_leaf_ok (sp_push)) (mt_leaf_ok (sp_iload)))) (mt_node_ok (mt_node_ok (mt_leaf_ok (sp_push)) (mt_leaf_ok (sp_iload))) (mt_node_ok (mt_leaf_ok (sp_bin)) (mt_leaf_ok (sp_bin))))) (mt_node_ok (mt_node_ok (mt_node_ok (mt_leaf_ok (rfl)) (mt_leaf_ok (trivial))) (mt_node_ok (mt_leaf_ok (sp_iinc)) (mt_leaf_ok (sp_goto)))) (mt_node_ok (mt_node_ok (mt_leaf_ok (sp_iinc)) (mt_leaf_ok (sp_goto))) (mt_node_ok (mt_leaf_ok (sp_push)) (mt_leaf_ok (trivial))))))
theorem sr_62 {g : xe_G} : mt_all (spP srS) (mb_62 g).2.1 := mt_node_ok ((sr_62_0 (g := g))) ((sr_62_1 (g := g)))
theorem sr_63_0 {g : xe_G} : mt_all (spP srS) (mb_63_0 g) := mt_node_ok (mt_node_ok (mt_node_ok (mt_node_ok (mt_leaf_ok (sp_aload)) (mt_node_ok (mt_leaf_ok (sp_get)) (mt_leaf_ok (sp_aload)))) (mt_node_ok (mt_node_ok (mt_leaf_ok (sp_get)) (mt_leaf_ok (rfl))) (mt_node_ok (mt_leaf_ok (sp_if)) (mt_leaf_ok (sp_aload))))) (mt_node_ok (mt_node_ok (mt_leaf_ok (sp_get)) (mt_node_ok (mt_leaf_ok (sp_push)) (mt_leaf_ok (sp_if2)))) (mt_node_ok (mt_node_ok (mt_leaf_ok (sp_push)) (mt_leaf_ok (trivial))) (mt_node_ok (mt_leaf_ok (sp_aload)) (mt_leaf_ok (sp_get)))))) (mt_node_ok (mt_node_ok (mt_node_ok (mt_leaf_ok (sp_aload)) (mt_node_ok (mt_leaf_ok (sp_get)) (mt_leaf_ok (sp_push)))) (mt_node_ok (mt_node_ok (mt_leaf_ok (rfl)) (mt_leaf_ok (sp_if))) (mt_node_ok (mt_leaf_ok (sp_aload)) (mt_leaf_ok (sp_get))))) (mt_node_ok (mt_node_ok (mt_node_ok (mt_leaf_ok (sp_aload)) (mt_leaf_ok (sp_get))) (mt_node_ok (mt_leaf_ok (rfl)) (mt_leaf_ok (sp_if)))) (mt_node_ok (mt_node_ok (mt_leaf_ok (sp_push)) (mt_leaf_ok (sp_goto))) (mt_node_ok (mt_leaf_ok (sp_push)) (mt_leaf_ok (trivial))))))
theorem sr_63 {g : xe_G} : mt_all (spP srS) (mb_63 g).2.1 := (sr_63_0 (g := g))
theorem sr_64_0 {g : xe_G} : mt_all (spP srS) (mb_64_0 g) := mt_node_ok (mt_node_ok (mt_node_ok (mt_node_ok (mt_node_ok (mt_leaf_ok (sp_aload)) (mt_node_ok (mt_leaf_ok (sp_get)) (mt_leaf_ok (sp_aload)))) (mt_node_ok (mt_leaf_ok (sp_get)) (mt_node_ok (mt_leaf_ok (sp_push)) (mt_leaf_ok (rfl))))) (mt_node_ok (mt_node_ok (mt_leaf_ok (sp_if)) (mt_node_ok (mt_leaf_ok (sp_push)) (mt_leaf_ok (trivial)))) (mt_node_ok (mt_leaf_ok (sp_aload)) (mt_node_ok (mt_leaf_ok (sp_get)) (mt_leaf_ok (sp_aload)))))) (mt_node_ok (mt_node_ok (mt_node_ok (mt_leaf_ok (sp_get)) (mt_node_ok (mt_leaf_ok (sp_push)) (mt_leaf_ok (rfl)))) (mt_node_ok (mt_leaf_ok (sp_if)) (mt_node_ok (mt_leaf_ok (sp_push)) (mt_leaf_ok (sp_isto))))) (mt_node_ok (mt_node_ok (mt_leaf_ok (sp_aload)) (mt_node_ok (mt_leaf_ok (sp_get)) (mt_leaf_ok (rfl)))) (mt_node_ok (mt_leaf_ok (sp_if)) (mt_node_ok (mt_leaf_ok (sp_aload)) (mt_leaf_ok (sp_iload))))))) (mt_node_ok (mt_node_ok (mt_node_ok (mt_node_ok (mt_leaf_ok (rfl)) (mt_node_ok (mt_leaf_ok (sp_if)) (mt_leaf_ok (sp_push)))) (mt_node_ok (mt_leaf_ok (sp_goto)) (mt_node_ok (mt_leaf_ok (sp_push)) (mt_leaf_ok (trivial))))) (mt_node_ok (mt_node_ok (mt_leaf_ok (sp_aload)) (mt_node_ok (mt_leaf_ok (sp_push)) (mt_leaf_ok (rfl)))) (mt_node_ok (mt_leaf_ok (sp_if)) (mt_node_ok (mt_leaf_ok (sp_aload)) (mt_leaf_ok (sp_aload)))))) (mt_node_ok (mt_node_ok (mt_node_ok (mt_leaf_ok (rfl)) (mt_node_ok (mt_leaf_ok (sp_if)) (mt_leaf_ok (sp_push)))) (mt_node_ok (mt_leaf_ok (trivial)) (mt_node_ok (mt_leaf_ok (sp_aload)) (mt_leaf_ok (sp_get))))) (mt_node_ok (mt_node_ok (mt_leaf_ok (sp_push)) (mt_node_ok (mt_leaf_ok (rfl)) (mt_leaf_ok (sp_if)))) (mt_node_ok (mt_leaf_ok (sp_aload)) (mt_node_ok (mt_leaf_ok (sp_aload)) (mt_leaf_ok (rfl)))))))
theorem sr_64_1 {g : xe_G} : mt_all (spP srS) (mb_64_1 g) := mt_node_ok (mt_node_ok (mt_leaf_ok (sp_goto)) (mt_leaf_ok (sp_aload))) (mt_node_ok (mt_leaf_ok (sp_get)) (mt_node_ok (mt_leaf_ok (rfl)) (mt_leaf_ok (trivial))))
theorem sr_64 {g : xe_G} : mt_all (spP srS) (mb_64 g).2.1 := mt_node_ok ((sr_64_0 (g := g))) ((sr_64_1 (g := g)))
theorem sr_65_0 {g : xe_G} : mt_all (spP srS) (mb_65_0 g) := mt_node_ok (mt_node_ok (mt_node_ok (mt_node_ok (mt_node_ok (mt_leaf_ok (sp_aload)) (mt_node_ok (mt_leaf_ok (sp_aload)) (mt_leaf_ok (sp_get)))) (mt_node_ok (mt_leaf_ok (rfl)) (mt_node_ok (mt_leaf_ok (sp_if)) (mt_leaf_ok (sp_aload))))) (mt_node_ok (mt_node_ok (mt_leaf_ok (sp_get)) (mt_node_ok (mt_leaf_ok (sp_push)) (mt_leaf_ok (sp_aload)))) (mt_node_ok (mt_leaf_ok (sp_get)) (mt_node_ok (mt_leaf_ok (sp_push)) (mt_leaf_ok (sp_bin)))))) (mt_node_ok (mt_node_ok (mt_node_ok (mt_leaf_ok (rfl)) (mt_node_ok (mt_leaf_ok (trivial)) (mt_leaf_ok (sp_aload)))) (mt_node_ok (mt_leaf_ok (sp_aload)) (mt_node_ok (mt_leaf_ok (rfl)) (mt_leaf_ok (sp_if))))) (mt_node_ok (mt_node_ok (mt_leaf_ok (sp_aload)) (mt_node_ok (mt_leaf_ok (sp_get)) (mt_leaf_ok (sp_push)))) (mt_node_ok (mt_leaf_ok (sp_aload)) (mt_node_ok (mt_leaf_ok (sp_get)) (mt_leaf_ok (rfl))))))) (mt_node_ok (mt_node_ok (mt_node_ok (mt_node_ok (mt_leaf_ok (trivial)) (mt_node_ok (mt_leaf_ok (sp_aload)) (mt_leaf_ok (sp_aload)))) (mt_node_ok (mt_leaf_ok (sp_get)) (mt_node_ok (mt_leaf_ok (sp_aload)) (mt_leaf_ok (sp_get))))) (mt_node_ok (mt_node_ok (mt_leaf_ok (rfl)) (mt_node_ok (mt_leaf_ok (sp_aload)) (mt_leaf_ok (sp_push)))) (mt_node_ok (mt_leaf_ok (rfl)) (mt_node_ok (mt_leaf_ok (sp_if)) (mt_leaf_ok (sp_push)))))) (mt_node_ok (mt_node_ok (mt_node_ok (mt_leaf_ok (sp_goto)) (mt_node_ok (mt_leaf_ok (sp_push)) (mt_leaf_ok (sp_bin)))) (mt_node_ok (mt_leaf_ok (sp_put)) (mt_node_ok (mt_leaf_ok (sp_aload)) (mt_leaf_ok (sp_aload))))) (mt_node_ok (mt_node_ok (mt_leaf_ok (rfl)) (mt_node_ok (mt_leaf_ok (sp_if)) (mt_leaf_ok (sp_aload)))) (mt_node_ok (mt_leaf_ok (sp_get)) (mt_node_ok (mt_leaf_ok (sp_push)) (mt_leaf_ok (sp_aload)))))))
theorem sr_65_1 {g : xe_G} : mt_all (spP srS) (mb_65_1 g) := mt_node_ok (mt_node_ok (mt_node_ok (mt_node_ok (mt_leaf_ok (sp_get)) (mt_node_ok (mt_leaf_ok (sp_push)) (mt_leaf_ok (sp_bin)))) (mt_node_ok (mt_leaf_ok (rfl)) (mt_node_ok (mt_leaf_ok (trivial)) (mt_leaf_ok (sp_aload))))) (mt_node_ok (mt_node_ok (mt_leaf_ok (sp_get)) (mt_node_ok (mt_leaf_ok (sp_aload)) (mt_leaf_ok (sp_get)))) (mt_node_ok (mt_node_ok (mt_leaf_ok (sp_get)) (mt_leaf_ok (sp_iload))) (mt_node_ok (mt_leaf_ok (sp_aload)) (mt_leaf_ok (sp_get)))))) (mt_node_ok (mt_node_ok (mt_node_ok (mt_leaf_ok (sp_aload)) (mt_node_ok (mt_leaf_ok (sp_get)) (mt_leaf_ok (rfl)))) (mt_node_ok (mt_leaf_ok (sp_if)) (mt_node_ok (mt_leaf_ok (sp_aload)) (mt_leaf_ok (sp_get))))) (mt_node_ok (mt_node_ok (mt_leaf_ok (sp_push)) (mt_node_ok (mt_leaf_ok (sp_aload)) (mt_leaf_ok (sp_get)))) (mt_node_ok (mt_node_ok (mt_leaf_ok (rfl)) (mt_leaf_ok (trivial))) (mt_node_ok (mt_leaf_ok (sp_push)) (mt_leaf_ok (trivial))))))
theorem sr_65 {g : xe_G} : mt_all (spP srS) (mb_65 g).2.1 := mt_node_ok ((sr_65_0 (g := g))) ((sr_65_1 (g := g)))
theorem sr_66_0 {g : xe_G} : mt_all (spP srS) (mb_66_0 g) := mt_node_ok (mt_node_ok (mt_node_ok (mt_node_ok (mt_node_ok (mt_leaf_ok (sp_aload)) (mt_leaf_ok (sp_get))) (mt_node_ok (mt_leaf_ok (sp_iload)) (mt_leaf_ok (sp_push)))) (mt_node_ok (mt_node_ok (mt_leaf_ok (rfl)) (mt_leaf_ok (sp_if))) (mt_node_ok (mt_leaf_ok (sp_aload)) (mt_leaf_ok (sp_get))))) (mt_node_ok (mt_node_ok (mt_node_ok (mt_leaf_ok (sp_push)) (mt_leaf_ok (rfl))) (mt_node_ok (mt_leaf_ok (sp_if)) (mt_leaf_ok (sp_push)))) (mt_node_ok (mt_node_ok (mt_leaf_ok (sp_goto)) (mt_leaf_ok (sp_push))) (mt_node_ok (mt_leaf_ok (trivial)) (mt_node_ok (mt_leaf_ok (sp_aload)) (mt_leaf_ok (sp_get))))))) (mt_node_ok (mt_node_ok (mt_node_ok (mt_node_ok (mt_leaf_ok (sp_iload)) (mt_leaf_ok (sp_push))) (mt_node_ok (mt_leaf_ok (rfl)) (mt_leaf_ok (sp_if)))) (mt_node_ok (mt_node_ok (mt_leaf_ok (sp_aload)) (mt_leaf_ok (sp_get))) (mt_node_ok (mt_leaf_ok (sp_iload)) (mt_node_ok (mt_leaf_ok (rfl)) (mt_leaf_ok (sp_if)))))) (mt_node_ok (mt_node_ok (mt_node_ok (mt_leaf_ok (sp_aload)) (mt_leaf_ok (sp_get))) (mt_node_ok (mt_leaf_ok (sp_iload)) (mt_leaf_ok (rfl)))) (mt_node_ok (mt_node_ok (mt_leaf_ok (sp_if)) (mt_leaf_ok (sp_push))) (mt_node_ok (mt_leaf_ok (sp_goto)) (mt_node_ok (mt_leaf_ok (sp_push)) (mt_leaf_ok (trivial)))))))
theorem sr_66 {g : xe_G} : mt_all (spP srS) (mb_66 g).2.1 := (sr_66_0 (g := g))
theorem sr_67_0 {g : xe_G} : mt_all (spP srS) (mb_67_0 g) := mt_node_ok (mt_node_ok (mt_node_ok (mt_node_ok (mt_node_ok (mt_leaf_ok (sp_push)) (mt_leaf_ok (sp_isto))) (mt_node_ok (mt_leaf_ok (sp_iload)) (mt_leaf_ok (sp_aload)))) (mt_node_ok (mt_node_ok (mt_leaf_ok (sp_get)) (mt_leaf_ok (sp_get))) (mt_node_ok (mt_leaf_ok (sp_alen)) (mt_node_ok (mt_leaf_ok (sp_if2)) (mt_leaf_ok (sp_aload)))))) (mt_node_ok (mt_node_ok (mt_node_ok (mt_leaf_ok (sp_get)) (mt_leaf_ok (sp_get))) (mt_node_ok (mt_leaf_ok (sp_iload)) (mt_leaf_ok (sp_ald)))) (mt_node_ok (mt_node_ok (mt_leaf_ok (sp_asto)) (mt_leaf_ok (sp_aload))) (mt_node_ok (mt_leaf_ok (sp_null)) (mt_node_ok (mt_leaf_ok (sp_goto)) (mt_leaf_ok (sp_aload))))))) (mt_node_ok (mt_node_ok (mt_node_ok (mt_node_ok (mt_leaf_ok (sp_aload)) (mt_leaf_ok (sp_iload))) (mt_node_ok (mt_leaf_ok (rfl)) (mt_leaf_ok (sp_if)))) (mt_node_ok (mt_node_ok (mt_leaf_ok (sp_aload)) (mt_leaf_ok (sp_get))) (mt_node_ok (mt_leaf_ok (sp_aload)) (mt_node_ok (mt_leaf_ok (rfl)) (mt_leaf_ok (sp_if)))))) (mt_node_ok (mt_node_ok (mt_node_ok (mt_leaf_ok (sp_aload)) (mt_leaf_ok (sp_aload))) (mt_node_ok (mt_leaf_ok (rfl)) (mt_node_ok (mt_leaf_ok (sp_if)) (mt_leaf_ok (sp_push))))) (mt_node_ok (mt_node_ok (mt_leaf_ok (trivial)) (mt_leaf_ok (sp_iinc))) (mt_node_ok (mt_leaf_ok (sp_goto)) (mt_node_ok (mt_leaf_ok (sp_push)) (mt_leaf_ok (trivial)))))))
theorem sr_67 {g : xe_G} : mt_all (spP srS) (mb_67 g).2.1 := (sr_67_0 (g := g))
theorem sr_68_0 {g : xe_G} : mt_all (spP srS) (mb_68_0 g) := mt_node_ok (mt_node_ok (mt_node_ok (mt_node_ok (mt_leaf_ok (sp_aload)) (mt_node_ok (mt_leaf_ok (sp_drop)) (mt_leaf_ok (sp_aload)))) (mt_node_ok (mt_leaf_ok (sp_aload)) (mt_node_ok (mt_leaf_ok (sp_put)) (mt_leaf_ok (sp_aload))))) (mt_node_ok (mt_node_ok (mt_leaf_ok (sp_new)) (mt_node_ok (mt_leaf_ok (sp_dup)) (mt_leaf_ok (sp_push)))) (mt_node_ok (mt_leaf_ok (sp_push)) (mt_node_ok (mt_leaf_ok (rfl)) (mt_leaf_ok (sp_put)))))) (mt_node_ok (mt_node_ok (mt_node_ok (mt_leaf_ok (sp_aload)) (mt_node_ok (mt_leaf_ok (sp_push)) (mt_leaf_ok (sp_anew)))) (mt_node_ok (mt_leaf_ok (sp_put)) (mt_node_ok (mt_leaf_ok (sp_aload)) (mt_leaf_ok (sp_push))))) (mt_node_ok (mt_node_ok (mt_leaf_ok (sp_anew)) (mt_node_ok (mt_leaf_ok (sp_put)) (mt_leaf_ok (sp_aload)))) (mt_node_ok (mt_leaf_ok (sp_push)) (mt_node_ok (mt_leaf_ok (sp_put)) (mt_leaf_ok (trivial))))))
theorem sr_68 {g : xe_G} : mt_all (spP srS) (mb_68 g).2.1 := (sr_68_0 (g := g))
theorem sr_71_0 {g : xe_G} : mt_all (spP srS) (mb_71_0 g) := mt_node_ok (mt_node_ok (mt_node_ok (mt_leaf_ok (sp_aload)) (mt_node_ok (mt_leaf_ok (sp_get)) (mt_leaf_ok (sp_aload)))) (mt_node_ok (mt_leaf_ok (sp_get)) (mt_node_ok (mt_leaf_ok (rfl)) (mt_leaf_ok (sp_iload))))) (mt_node_ok (mt_node_ok (mt_leaf_ok (sp_bin)) (mt_node_ok (mt_leaf_ok (sp_if)) (mt_leaf_ok (sp_push)))) (mt_node_ok (mt_leaf_ok (sp_goto)) (mt_node_ok (mt_leaf_ok (sp_push)) (mt_leaf_ok (trivial)))))
theorem sr_71 {g : xe_G} : mt_all (spP srS) (mb_71 g).2.1 := (sr_71_0 (g := g))
theorem sr_74_0 {g : xe_G} : mt_all (spP srS) (mb_74_0 g) := mt_node_ok (mt_node_ok (mt_node_ok (mt_node_ok (mt_node_ok (mt_leaf_ok (sp_aload)) (mt_node_ok (mt_leaf_ok (sp_drop)) (mt_leaf_ok (sp_aload)))) (mt_node_ok (mt_leaf_ok (sp_get)) (mt_node_ok (mt_leaf_ok (sp_asto)) (mt_leaf_ok (sp_aload))))) (mt_node_ok (mt_node_ok (mt_leaf_ok (sp_aload)) (mt_node_ok (mt_leaf_ok (sp_iload)) (mt_leaf_ok (rfl)))) (mt_node_ok (mt_leaf_ok (sp_put)) (mt_node_ok (mt_leaf_ok (sp_aload)) (mt_leaf_ok (sp_aload)))))) (mt_node_ok (mt_node_ok (mt_node_ok (mt_leaf_ok (sp_iload)) (mt_node_ok (mt_leaf_ok (sp_push)) (mt_leaf_ok (sp_bin)))) (mt_node_ok (mt_leaf_ok (rfl)) (mt_node_ok (mt_leaf_ok (sp_put)) (mt_leaf_ok (sp_aload))))) (mt_node_ok (mt_node_ok (mt_leaf_ok (sp_aload)) (mt_node_ok (mt_leaf_ok (sp_iload)) (mt_leaf_ok (sp_push)))) (mt_node_ok (mt_leaf_ok (sp_bin)) (mt_node_ok (mt_leaf_ok (rfl)) (mt_leaf_ok (sp_put))))))) (mt_node_ok (mt_node_ok (mt_node_ok (mt_node_ok (mt_leaf_ok (sp_aload)) (mt_node_ok (mt_leaf_ok (sp_iload)) (mt_leaf_ok (sp_push)))) (mt_node_ok (mt_leaf_ok (sp_bin)) (mt_node_ok (mt_leaf_ok (sp_aload)) (mt_leaf_ok (sp_get))))) (mt_node_ok (mt_node_ok (mt_leaf_ok (sp_bin)) (mt_node_ok (mt_leaf_ok (sp_push)) (mt_leaf_ok (sp_bin)))) (mt_node_ok (mt_leaf_ok (sp_put)) (mt_node_ok (mt_leaf_ok (sp_aload)) (mt_leaf_ok (sp_aload)))))) (mt_node_ok (mt_node_ok (mt_node_ok (mt_leaf_ok (sp_aload)) (mt_node_ok (mt_leaf_ok (sp_get)) (mt_leaf_ok (sp_push)))) (mt_node_ok (mt_leaf_ok (sp_bin)) (mt_node_ok (mt_leaf_ok (rfl)) (mt_leaf_ok (sp_put))))) (mt_node_ok (mt_node_ok (mt_leaf_ok (sp_aload)) (mt_node_ok (mt_leaf_ok (sp_aload)) (mt_leaf_ok (sp_get)))) (mt_node_ok (mt_leaf_ok (sp_put)) (mt_node_ok (mt_leaf_ok (sp_aload)) (mt_leaf_ok (sp_aload)))))))
theorem sr_74_1 {g : xe_G} : mt_all (spP srS) (mb_74_1 g) := mt_node_ok (mt_node_ok (mt_node_ok (mt_node_ok (mt_leaf_ok (sp_get)) (mt_leaf_ok (sp_put))) (mt_node_ok (mt_leaf_ok (sp_aload)) (mt_leaf_ok (sp_new)))) (mt_node_ok (mt_node_ok (mt_leaf_ok (sp_dup)) (mt_leaf_ok (sp_aload))) (mt_node_ok (mt_leaf_ok (sp_iload)) (mt_leaf_ok (sp_push))))) (mt_node_ok (mt_node_ok (mt_node_ok (mt_leaf_ok (sp_bin)) (mt_leaf_ok (sp_aload))) (mt_node_ok (mt_leaf_ok (sp_get)) (mt_leaf_ok (rfl)))) (mt_node_ok (mt_node_ok (mt_leaf_ok (sp_put)) (mt_leaf_ok (sp_aload))) (mt_node_ok (mt_leaf_ok (sp_push)) (mt_node_ok (mt_leaf_ok (sp_put)) (mt_leaf_ok (trivial))))))
theorem sr_74 {g : xe_G} : mt_all (spP srS) (mb_74 g).2.1 := mt_node_ok ((sr_74_0 (g := g))) ((sr_74_1 (g := g)))
theorem sr_86_0 {g : xe_G} : mt_all (spP srS) (mb_86_0 g) := mt_node_ok (mt_node_ok (mt_node_ok (mt_leaf_ok (sp_aload)) (mt_node_ok (mt_leaf_ok (sp_drop)) (mt_leaf_ok (sp_aload)))) (mt_node_ok (mt_leaf_ok (sp_aload)) (mt_node_ok (mt_leaf_ok (sp_put)) (mt_leaf_ok (sp_aload))))) (mt_node_ok (mt_node_ok (mt_leaf_ok (sp_iload)) (mt_node_ok (mt_leaf_ok (sp_put)) (mt_leaf_ok (sp_aload)))) (mt_node_ok (mt_leaf_ok (sp_iload)) (mt_node_ok (mt_leaf_ok (sp_put)) (mt_leaf_ok (trivial)))))
theorem sr_86 {g : xe_G} : mt_all (spP srS) (mb_86 g).2.1 := (sr_86_0 (g := g))
theorem sr_106_0 {g : xe_G} : mt_all (spP srS) (mb_106_0 g) := mt_node_ok (mt_node_ok (mt_node_ok (mt_node_ok (mt_node_ok (mt_leaf_ok (sp_aload)) (mt_leaf_ok (sp_drop))) (mt_node_ok (mt_leaf_ok (sp_aload)) (mt_leaf_ok (sp_iload)))) (mt_node_ok (mt_node_ok (mt_leaf_ok (sp_put)) (mt_leaf_ok (sp_aload))) (mt_node_ok (mt_leaf_ok (sp_aload)) (mt_node_ok (mt_leaf_ok (sp_iload)) (mt_leaf_ok (rfl)))))) (mt_node_ok (mt_node_ok (mt_node_ok (mt_leaf_ok (sp_put)) (mt_leaf_ok (sp_aload))) (mt_node_ok (mt_leaf_ok (sp_aload)) (mt_leaf_ok (sp_iload)))) (mt_node_ok (mt_node_ok (mt_leaf_ok (sp_push)) (mt_leaf_ok (sp_bin))) (mt_node_ok (mt_leaf_ok (rfl)) (mt_node_ok (mt_leaf_ok (sp_put)) (mt_leaf_ok (sp_aload))))))) (mt_node_ok (mt_node_ok (mt_node_ok (mt_node_ok (mt_leaf_ok (sp_aload)) (mt_leaf_ok (sp_iload))) (mt_node_ok (mt_leaf_ok (sp_push)) (mt_leaf_ok (sp_bin)))) (mt_node_ok (mt_node_ok (mt_leaf_ok (rfl)) (mt_leaf_ok (sp_put))) (mt_node_ok (mt_leaf_ok (sp_aload)) (mt_node_ok (mt_leaf_ok (sp_aload)) (mt_leaf_ok (sp_iload)))))) (mt_node_ok (mt_node_ok (mt_node_ok (mt_leaf_ok (sp_push)) (mt_leaf_ok (sp_bin))) (mt_node_ok (mt_leaf_ok (rfl)) (mt_node_ok (mt_leaf_ok (sp_put)) (mt_leaf_ok (sp_aload))))) (mt_node_ok (mt_node_ok (mt_leaf_ok (sp_iload)) (mt_leaf_ok (sp_push))) (mt_node_ok (mt_leaf_ok (sp_bin)) (mt_node_ok (mt_leaf_ok (sp_put)) (mt_leaf_ok (trivial)))))))
theorem sr_106 {g : xe_G} : mt_all (spP srS) (mb_106 g).2.1 := (sr_106_0 (g := g))
theorem sr_108_0 {g : xe_G} : mt_all (spP srS) (mb_108_0 g) := mt_node_ok (mt_node_ok (mt_node_ok (mt_leaf_ok (sp_aload)) (mt_leaf_ok (sp_get))) (mt_node_ok (mt_leaf_ok (sp_iload)) (mt_leaf_ok (sp_bin)))) (mt_node_ok (mt_node_ok (mt_leaf_ok (sp_if)) (mt_leaf_ok (sp_push))) (mt_node_ok (mt_leaf_ok (sp_goto)) (mt_node_ok (mt_leaf_ok (sp_push)) (mt_leaf_ok (trivial)))))
theorem sr_108 {g : xe_G} : mt_all (spP srS) (mb_108 g).2.1 := (sr_108_0 (g := g))
theorem sr_110_0 {g : xe_G} : mt_all (spP srS) (mb_110_0 g) := mt_node_ok (mt_node_ok (mt_node_ok (mt_node_ok (mt_node_ok (mt_leaf_ok (sp_aload)) (mt_leaf_ok (sp_drop))) (mt_node_ok (mt_leaf_ok (sp_aload)) (mt_node_ok (mt_leaf_ok (sp_iload)) (mt_leaf_ok (sp_put))))) (mt_node_ok (mt_node_ok (mt_leaf_ok (sp_push)) (mt_leaf_ok (sp_iload))) (mt_node_ok (mt_leaf_ok (sp_iload)) (mt_node_ok (mt_leaf_ok (sp_push)) (mt_leaf_ok (sp_div)))))) (mt_node_ok (mt_node_ok (mt_node_ok (mt_leaf_ok (sp_push)) (mt_leaf_ok (sp_bin))) (mt_node_ok (mt_leaf_ok (sp_mm)) (mt_node_ok (mt_leaf_ok (sp_mm)) (mt_leaf_ok (sp_isto))))) (mt_node_ok (mt_node_ok (mt_leaf_ok (sp_aload)) (mt_node_ok (mt_leaf_ok (sp_iload)) (mt_leaf_ok (sp_newa)))) (mt_node_ok (mt_leaf_ok (sp_put)) (mt_node_ok (mt_leaf_ok (sp_aload)) (mt_leaf_ok (sp_iload))))))) (mt_node_ok (mt_node_ok (mt_node_ok (mt_node_ok (mt_leaf_ok (sp_newa)) (mt_leaf_ok (sp_put))) (mt_node_ok (mt_leaf_ok (sp_aload)) (mt_node_ok (mt_leaf_ok (sp_iload)) (mt_leaf_ok (sp_newa))))) (mt_node_ok (mt_node_ok (mt_leaf_ok (sp_put)) (mt_leaf_ok (sp_aload))) (mt_node_ok (mt_leaf_ok (sp_iload)) (mt_node_ok (mt_leaf_ok (sp_newa)) (mt_leaf_ok (sp_put)))))) (mt_node_ok (mt_node_ok (mt_node_ok (mt_leaf_ok (sp_aload)) (mt_leaf_ok (sp_iload))) (mt_node_ok (mt_leaf_ok (sp_newa)) (mt_node_ok (mt_leaf_ok (sp_put)) (mt_leaf_ok (sp_aload))))) (mt_node_ok (mt_node_ok (mt_leaf_ok (sp_push)) (mt_node_ok (mt_leaf_ok (sp_iload)) (mt_leaf_ok (sp_mm)))) (mt_node_ok (mt_leaf_ok (sp_newa)) (mt_node_ok (mt_leaf_ok (sp_put)) (mt_leaf_ok (trivial)))))))
theorem sr_110 {g : xe_G} : mt_all (spP srS) (mb_110 g).2.1 := (sr_110_0 (g := g))
theorem sr_111_0 {g : xe_G} : mt_all (spP srS) (mb_111_0 g) := mt_node_ok (mt_node_ok (mt_node_ok (mt_node_ok (mt_leaf_ok (sp_aload)) (mt_leaf_ok (sp_get))) (mt_node_ok (mt_leaf_ok (sp_aload)) (mt_node_ok (mt_leaf_ok (sp_get)) (mt_leaf_ok (sp_alen))))) (mt_node_ok (mt_node_ok (mt_leaf_ok (sp_if2)) (mt_leaf_ok (sp_aload))) (mt_node_ok (mt_leaf_ok (sp_get)) (mt_node_ok (mt_leaf_ok (sp_aload)) (mt_leaf_ok (sp_get)))))) (mt_node_ok (mt_node_ok (mt_node_ok (mt_leaf_ok (sp_iload)) (mt_leaf_ok (sp_un))) (mt_node_ok (mt_leaf_ok (sp_ast)) (mt_node_ok (mt_leaf_ok (sp_aload)) (mt_leaf_ok (sp_dup))))) (mt_node_ok (mt_node_ok (mt_leaf_ok (sp_get)) (mt_leaf_ok (sp_push))) (mt_node_ok (mt_leaf_ok (sp_bin)) (mt_node_ok (mt_leaf_ok (sp_put)) (mt_leaf_ok (trivial))))))
theorem sr_111 {g : xe_G} : mt_all (spP srS) (mb_111 g).2.1 := (sr_111_0 (g := g))
theorem sr_112_0 {g : xe_G} : mt_all (spP srS) (mb_112_0 g) := mt_node_ok (mt_node_ok (mt_node_ok (mt_leaf_ok (sp_aload)) (mt_node_ok (mt_leaf_ok (sp_iload)) (mt_leaf_ok (rfl)))) (mt_node_ok (mt_leaf_ok (sp_if)) (mt_node_ok (mt_leaf_ok (sp_aload)) (mt_leaf_ok (sp_get))))) (mt_node_ok (mt_node_ok (mt_leaf_ok (sp_iload)) (mt_node_ok (mt_leaf_ok (sp_ald)) (mt_leaf_ok (sp_push)))) (mt_node_ok (mt_node_ok (mt_leaf_ok (sp_div)) (mt_leaf_ok (sp_goto))) (mt_node_ok (mt_leaf_ok (sp_push)) (mt_leaf_ok (trivial)))))
theorem sr_112 {g : xe_G} : mt_all (spP srS) (mb_112 g).2.1 := (sr_112_0 (g := g))
theorem sr_113_0 {g : xe_G} : mt_all (spP srS) (mb_113_0 g) := mt_node_ok (mt_node_ok (mt_node_ok (mt_node_ok (mt_leaf_ok (sp_aload)) (mt_node_ok (mt_leaf_ok (sp_iload)) (mt_leaf_ok (rfl)))) (mt_node_ok (mt_leaf_ok (sp_push)) (mt_node_ok (mt_leaf_ok (sp_if2)) (mt_leaf_ok (sp_iload))))) (mt_node_ok (mt_node_ok (mt_leaf_ok (sp_if)) (mt_node_ok (mt_leaf_ok (sp_iload)) (mt_leaf_ok (sp_aload)))) (mt_node_ok (mt_leaf_ok (sp_get)) (mt_node_ok (mt_leaf_ok (sp_iload)) (mt_leaf_ok (sp_ald)))))) (mt_node_ok (mt_node_ok (mt_node_ok (mt_leaf_ok (sp_if2)) (mt_node_ok (mt_leaf_ok (sp_push)) (mt_leaf_ok (sp_goto)))) (mt_node_ok (mt_leaf_ok (sp_aload)) (mt_node_ok (mt_leaf_ok (sp_get)) (mt_leaf_ok (sp_aload))))) (mt_node_ok (mt_node_ok (mt_leaf_ok (sp_get)) (mt_node_ok (mt_leaf_ok (sp_iload)) (mt_leaf_ok (sp_ald)))) (mt_node_ok (mt_node_ok (mt_leaf_ok (sp_iload)) (mt_leaf_ok (sp_bin))) (mt_node_ok (mt_leaf_ok (sp_ald)) (mt_leaf_ok (trivial))))))
theorem sr_113 {g : xe_G} : mt_all (spP srS) (mb_113 g).2.1 := (sr_113_0 (g := g))
theorem sr_114_0 {g : xe_G} : mt_all (spP srS) (mb_114_0 g) := mt_node_ok (mt_node_ok (mt_node_ok (mt_node_ok (mt_node_ok (mt_leaf_ok (sp_push)) (mt_leaf_ok (sp_isto))) (mt_node_ok (mt_leaf_ok (sp_iload)) (mt_leaf_ok (sp_aload)))) (mt_node_ok (mt_node_ok (mt_leaf_ok (sp_get)) (mt_leaf_ok (sp_alen))) (mt_node_ok (mt_leaf_ok (sp_if2)) (mt_leaf_ok (sp_aload))))) (mt_node_ok (mt_node_ok (mt_node_ok (mt_leaf_ok (sp_get)) (mt_leaf_ok (sp_iload))) (mt_node_ok (mt_leaf_ok (sp_ald)) (mt_leaf_ok (sp_push)))) (mt_node_ok (mt_node_ok (mt_leaf_ok (sp_if2)) (mt_leaf_ok (sp_aload))) (mt_node_ok (mt_leaf_ok (sp_get)) (mt_node_ok (mt_leaf_ok (sp_iload)) (mt_leaf_ok (sp_aload))))))) (mt_node_ok (mt_node_ok (mt_node_ok (mt_node_ok (mt_leaf_ok (sp_aload)) (mt_leaf_ok (sp_get))) (mt_node_ok (mt_leaf_ok (sp_iload)) (mt_leaf_ok (sp_ald)))) (mt_node_ok (mt_node_ok (mt_leaf_ok (sp_aload)) (mt_leaf_ok (sp_get))) (mt_node_ok (mt_leaf_ok (sp_iload)) (mt_node_ok (mt_leaf_ok (sp_ald)) (mt_leaf_ok (sp_aload)))))) (mt_node_ok (mt_node_ok (mt_node_ok (mt_leaf_ok (sp_get)) (mt_leaf_ok (sp_iload))) (mt_node_ok (mt_leaf_ok (sp_ald)) (mt_leaf_ok (sp_bin)))) (mt_node_ok (mt_node_ok (mt_leaf_ok (rfl)) (mt_leaf_ok (sp_ast))) (mt_node_ok (mt_leaf_ok (sp_iinc)) (mt_node_ok (mt_leaf_ok (sp_goto)) (mt_leaf_ok (trivial)))))))
theorem sr_114 {g : xe_G} : mt_all (spP srS) (mb_114 g).2.1 := (sr_114_0 (g := g))
theorem sr_115_0 {g : xe_G} : mt_all (spP srS) (mb_115_0 g) := mt_node_ok (mt_node_ok (mt_leaf_ok (sp_aload)) (mt_node_ok (mt_leaf_ok (sp_aload)) (mt_leaf_ok (sp_iload)))) (mt_node_ok (mt_leaf_ok (rfl)) (mt_node_ok (mt_leaf_ok (rfl)) (mt_leaf_ok (trivial))))
theorem sr_115 {g : xe_G} : mt_all (spP srS) (mb_115 g).2.1 := (sr_115_0 (g := g))
theorem sr_117_0 {g : xe_G} : mt_all (spP srS) (mb_117_0 g) := mt_node_ok (mt_node_ok (mt_node_ok (mt_node_ok (mt_leaf_ok (sp_iload)) (mt_leaf_ok (sp_if))) (mt_node_ok (mt_leaf_ok (sp_iload)) (mt_node_ok (mt_leaf_ok (sp_aload)) (mt_leaf_ok (sp_get))))) (mt_node_ok (mt_node_ok (mt_leaf_ok (sp_alen)) (mt_leaf_ok (sp_if2))) (mt_node_ok (mt_leaf_ok (sp_aload)) (mt_node_ok (mt_leaf_ok (sp_get)) (mt_leaf_ok (sp_iload)))))) (mt_node_ok (mt_node_ok (mt_node_ok (mt_leaf_ok (sp_ald)) (mt_leaf_ok (sp_push))) (mt_node_ok (mt_leaf_ok (sp_if2)) (mt_node_ok (mt_leaf_ok (sp_push)) (mt_leaf_ok (sp_goto))))) (mt_node_ok (mt_node_ok (mt_leaf_ok (sp_aload)) (mt_leaf_ok (sp_get))) (mt_node_ok (mt_leaf_ok (sp_iload)) (mt_node_ok (mt_leaf_ok (sp_ald)) (mt_leaf_ok (trivial))))))
theorem sr_117 {g : xe_G} : mt_all (spP srS) (mb_117 g).2.1 := (sr_117_0 (g := g))
theorem sr_118_0 {g : xe_G} : mt_all (spP srS) (mb_118_0 g) := mt_node_ok (mt_node_ok (mt_node_ok (mt_node_ok (mt_leaf_ok (sp_push)) (mt_node_ok (mt_leaf_ok (sp_isto)) (mt_leaf_ok (sp_iload)))) (mt_node_ok (mt_node_ok (mt_leaf_ok (sp_aload)) (mt_leaf_ok (sp_iload))) (mt_node_ok (mt_leaf_ok (rfl)) (mt_leaf_ok (sp_if2))))) (mt_node_ok (mt_node_ok (mt_leaf_ok (sp_aload)) (mt_node_ok (mt_leaf_ok (sp_get)) (mt_leaf_ok (sp_aload)))) (mt_node_ok (mt_node_ok (mt_leaf_ok (sp_get)) (mt_leaf_ok (sp_iload))) (mt_node_ok (mt_leaf_ok (sp_ald)) (mt_leaf_ok (sp_iload)))))) (mt_node_ok (mt_node_ok (mt_node_ok (mt_leaf_ok (sp_bin)) (mt_node_ok (mt_leaf_ok (sp_ald)) (mt_leaf_ok (sp_isto)))) (mt_node_ok (mt_node_ok (mt_leaf_ok (sp_iload)) (mt_leaf_ok (sp_push))) (mt_node_ok (mt_leaf_ok (sp_if2)) (mt_leaf_ok (sp_iload))))) (mt_node_ok (mt_node_ok (mt_node_ok (mt_leaf_ok (sp_push)) (mt_leaf_ok (sp_if2))) (mt_node_ok (mt_leaf_ok (sp_push)) (mt_leaf_ok (trivial)))) (mt_node_ok (mt_node_ok (mt_leaf_ok (sp_iinc)) (mt_leaf_ok (sp_goto))) (mt_node_ok (mt_leaf_ok (sp_push)) (mt_leaf_ok (trivial))))))
theorem sr_118 {g : xe_G} : mt_all (spP srS) (mb_118 g).2.1 := (sr_118_0 (g := g))
theorem sr_119_0 {g : xe_G} : mt_all (spP srS) (mb_119_0 g) := mt_node_ok (mt_node_ok (mt_node_ok (mt_node_ok (mt_leaf_ok (sp_aload)) (mt_leaf_ok (sp_iload))) (mt_node_ok (mt_leaf_ok (rfl)) (mt_leaf_ok (sp_if)))) (mt_node_ok (mt_node_ok (mt_leaf_ok (sp_aload)) (mt_leaf_ok (sp_get))) (mt_node_ok (mt_leaf_ok (sp_iload)) (mt_leaf_ok (sp_ald))))) (mt_node_ok (mt_node_ok (mt_node_ok (mt_leaf_ok (sp_push)) (mt_leaf_ok (sp_bin))) (mt_node_ok (mt_leaf_ok (sp_push)) (mt_leaf_ok (sp_if2)))) (mt_node_ok (mt_node_ok (mt_leaf_ok (sp_push)) (mt_leaf_ok (sp_goto))) (mt_node_ok (mt_leaf_ok (sp_push)) (mt_leaf_ok (trivial)))))
theorem sr_119 {g : xe_G} : mt_all (spP srS) (mb_119 g).2.1 := (sr_119_0 (g := g))
theorem sr_120_0 {g : xe_G} : mt_all (spP srS) (mb_120_0 g) := mt_node_ok (mt_node_ok (mt_node_ok (mt_node_ok (mt_node_ok (mt_leaf_ok (sp_aload)) (mt_leaf_ok (sp_iload))) (mt_node_ok (mt_leaf_ok (sp_push)) (mt_leaf_ok (rfl)))) (mt_node_ok (mt_node_ok (mt_leaf_ok (sp_push)) (mt_leaf_ok (sp_if2))) (mt_node_ok (mt_leaf_ok (sp_aload)) (mt_node_ok (mt_leaf_ok (sp_iload)) (mt_leaf_ok (rfl)))))) (mt_node_ok (mt_node_ok (mt_node_ok (mt_leaf_ok (trivial)) (mt_leaf_ok (sp_aload))) (mt_node_ok (mt_leaf_ok (sp_iload)) (mt_node_ok (mt_leaf_ok (rfl)) (mt_leaf_ok (sp_push))))) (mt_node_ok (mt_node_ok (mt_leaf_ok (sp_if2)) (mt_leaf_ok (sp_aload))) (mt_node_ok (mt_leaf_ok (sp_get)) (mt_node_ok (mt_leaf_ok (sp_iload)) (mt_leaf_ok (sp_ald))))))) (mt_node_ok (mt_node_ok (mt_node_ok (mt_node_ok (mt_leaf_ok (sp_goto)) (mt_leaf_ok (sp_push))) (mt_node_ok (mt_leaf_ok (sp_isto)) (mt_leaf_ok (sp_iload)))) (mt_node_ok (mt_node_ok (mt_leaf_ok (sp_aload)) (mt_leaf_ok (sp_iload))) (mt_node_ok (mt_leaf_ok (rfl)) (mt_node_ok (mt_leaf_ok (sp_bin)) (mt_leaf_ok (sp_isto)))))) (mt_node_ok (mt_node_ok (mt_node_ok (mt_leaf_ok (sp_aload)) (mt_leaf_ok (sp_iload))) (mt_node_ok (mt_leaf_ok (sp_iload)) (mt_node_ok (mt_leaf_ok (rfl)) (mt_leaf_ok (sp_iload))))) (mt_node_ok (mt_node_ok (mt_leaf_ok (sp_if2)) (mt_leaf_ok (sp_push))) (mt_node_ok (mt_leaf_ok (sp_goto)) (mt_node_ok (mt_leaf_ok (sp_push)) (mt_leaf_ok (trivial)))))))
theorem sr_120 {g : xe_G} : mt_all (spP srS) (mb_120 g).2.1 := (sr_120_0 (g := g))
theorem sr_121_0 {g : xe_G} : mt_all (spP srS) (mb_121_0 g) := mt_node_ok (mt_node_ok (mt_node_ok (mt_node_ok (mt_leaf_ok (sp_aload)) (mt_leaf_ok (sp_iload))) (mt_node_ok (mt_leaf_ok (rfl)) (mt_node_ok (mt_leaf_ok (sp_push)) (mt_leaf_ok (sp_if2))))) (mt_node_ok (mt_node_ok (mt_leaf_ok (sp_aload)) (mt_leaf_ok (sp_get))) (mt_node_ok (mt_leaf_ok (sp_iload)) (mt_node_ok (mt_leaf_ok (sp_ald)) (mt_leaf_ok (sp_if)))))) (mt_node_ok (mt_node_ok (mt_node_ok (mt_leaf_ok (sp_aload)) (mt_leaf_ok (sp_get))) (mt_node_ok (mt_leaf_ok (sp_iload)) (mt_node_ok (mt_leaf_ok (sp_ald)) (mt_leaf_ok (sp_push))))) (mt_node_ok (mt_node_ok (mt_leaf_ok (sp_if2)) (mt_leaf_ok (sp_push))) (mt_node_ok (mt_leaf_ok (sp_goto)) (mt_node_ok (mt_leaf_ok (sp_push)) (mt_leaf_ok (trivial))))))
theorem sr_121 {g : xe_G} : mt_all (spP srS) (mb_121 g).2.1 := (sr_121_0 (g := g))
theorem sr_122_0 {g : xe_G} : mt_all (spP srS) (mb_122_0 g) := mt_node_ok (mt_node_ok (mt_node_ok (mt_leaf_ok (sp_aload)) (mt_node_ok (mt_leaf_ok (sp_iload)) (mt_leaf_ok (rfl)))) (mt_node_ok (mt_node_ok (mt_leaf_ok (sp_push)) (mt_leaf_ok (sp_if2))) (mt_node_ok (mt_leaf_ok (sp_aload)) (mt_leaf_ok (sp_get))))) (mt_node_ok (mt_node_ok (mt_node_ok (mt_leaf_ok (sp_iload)) (mt_leaf_ok (sp_ald))) (mt_node_ok (mt_leaf_ok (sp_push)) (mt_leaf_ok (sp_if2)))) (mt_node_ok (mt_node_ok (mt_leaf_ok (sp_push)) (mt_leaf_ok (sp_goto))) (mt_node_ok (mt_leaf_ok (sp_push)) (mt_leaf_ok (trivial)))))
theorem sr_122 {g : xe_G} : mt_all (spP srS) (mb_122 g).2.1 := (sr_122_0 (g := g))
theorem sr_123_0 {g : xe_G} : mt_all (spP srS) (mb_123_0 g) := mt_node_ok (mt_node_ok (mt_node_ok (mt_node_ok (mt_leaf_ok (sp_aload)) (mt_leaf_ok (sp_iload))) (mt_node_ok (mt_leaf_ok (rfl)) (mt_leaf_ok (sp_push)))) (mt_node_ok (mt_node_ok (mt_leaf_ok (sp_if2)) (mt_leaf_ok (sp_aload))) (mt_node_ok (mt_leaf_ok (sp_aload)) (mt_node_ok (mt_leaf_ok (sp_get)) (mt_leaf_ok (sp_iload)))))) (mt_node_ok (mt_node_ok (mt_node_ok (mt_leaf_ok (sp_ald)) (mt_leaf_ok (sp_push))) (mt_node_ok (mt_leaf_ok (rfl)) (mt_leaf_ok (sp_push)))) (mt_node_ok (mt_node_ok (mt_leaf_ok (sp_if2)) (mt_leaf_ok (sp_push))) (mt_node_ok (mt_leaf_ok (sp_goto)) (mt_node_ok (mt_leaf_ok (sp_push)) (mt_leaf_ok (trivial))))))
theorem sr_123 {g : xe_G} : mt_all (spP srS) (mb_123 g).2.1 := (sr_123_0 (g := g))
theorem sr_124_0 {g : xe_G} : mt_all (spP srS) (mb_124_0 g) := mt_node_ok (mt_node_ok (mt_node_ok (mt_node_ok (mt_node_ok (mt_leaf_ok (sp_push)) (mt_leaf_ok (sp_isto))) (mt_node_ok (mt_leaf_ok (sp_iload)) (mt_node_ok (mt_leaf_ok (sp_aload)) (mt_leaf_ok (sp_iload))))) (mt_node_ok (mt_node_ok (mt_leaf_ok (rfl)) (mt_leaf_ok (sp_if2))) (mt_node_ok (mt_leaf_ok (sp_aload)) (mt_node_ok (mt_leaf_ok (sp_get)) (mt_leaf_ok (sp_aload)))))) (mt_node_ok (mt_node_ok (mt_node_ok (mt_leaf_ok (sp_get)) (mt_leaf_ok (sp_iload))) (mt_node_ok (mt_leaf_ok (sp_ald)) (mt_node_ok (mt_leaf_ok (sp_iload)) (mt_leaf_ok (sp_bin))))) (mt_node_ok (mt_node_ok (mt_leaf_ok (sp_ald)) (mt_leaf_ok (sp_isto))) (mt_node_ok (mt_leaf_ok (sp_iload)) (mt_node_ok (mt_leaf_ok (sp_push)) (mt_leaf_ok (sp_if2))))))) (mt_node_ok (mt_node_ok (mt_node_ok (mt_node_ok (mt_leaf_ok (sp_iload)) (mt_leaf_ok (sp_push))) (mt_node_ok (mt_leaf_ok (sp_if2)) (mt_node_ok (mt_leaf_ok (sp_iload)) (mt_leaf_ok (sp_push))))) (mt_node_ok (mt_node_ok (mt_leaf_ok (sp_if2)) (mt_leaf_ok (sp_iload))) (mt_node_ok (mt_leaf_ok (sp_push)) (mt_node_ok (mt_leaf_ok (sp_if2)) (mt_leaf_ok (sp_push)))))) (mt_node_ok (mt_node_ok (mt_node_ok (mt_leaf_ok (trivial)) (mt_leaf_ok (sp_iinc))) (mt_node_ok (mt_leaf_ok (sp_goto)) (mt_node_ok (mt_leaf_ok (sp_aload)) (mt_leaf_ok (sp_iload))))) (mt_node_ok (mt_node_ok (mt_leaf_ok (rfl)) (mt_node_ok (mt_leaf_ok (sp_if)) (mt_leaf_ok (sp_push)))) (mt_node_ok (mt_leaf_ok (sp_goto)) (mt_node_ok (mt_leaf_ok (sp_push)) (mt_leaf_ok (trivial)))))))
theorem sr_124 {g : xe_G} : mt_all (spP srS) (mb_124 g).2.1 := (sr_124_0 (g := g))
theorem sr_125_0 {g : xe_G} : mt_all (spP srS) (mb_125_0 g) := mt_node_ok (mt_node_ok (mt_node_ok (mt_leaf_ok (sp_aload)) (mt_node_ok (mt_leaf_ok (sp_iload)) (mt_leaf_ok (rfl)))) (mt_node_ok (mt_node_ok (mt_leaf_ok (sp_isto)) (mt_leaf_ok (sp_iload))) (mt_node_ok (mt_leaf_ok (sp_push)) (mt_leaf_ok (sp_if2))))) (mt_node_ok (mt_node_ok (mt_leaf_ok (sp_iload)) (mt_node_ok (mt_leaf_ok (sp_push)) (mt_leaf_ok (sp_if2)))) (mt_node_ok (mt_node_ok (mt_leaf_ok (sp_push)) (mt_leaf_ok (sp_goto))) (mt_node_ok (mt_leaf_ok (sp_push)) (mt_leaf_ok (trivial)))))
theorem sr_125 {g : xe_G} : mt_all (spP srS) (mb_125 g).2.1 := (sr_125_0 (g := g))
theorem sr_126_0 {g : xe_G} : mt_all (spP srS) (mb_126_0 g) := mt_node_ok (mt_node_ok (mt_node_ok (mt_node_ok (mt_node_ok (mt_leaf_ok (sp_iload)) (mt_node_ok (mt_leaf_ok (sp_isto)) (mt_leaf_ok (sp_push)))) (mt_node_ok (mt_leaf_ok (sp_isto)) (mt_node_ok (mt_leaf_ok (sp_iload)) (mt_leaf_ok (sp_push))))) (mt_node_ok (mt_node_ok (mt_leaf_ok (sp_if2)) (mt_node_ok (mt_leaf_ok (sp_iload)) (mt_leaf_ok (sp_iload)))) (mt_node_ok (mt_leaf_ok (sp_if2)) (mt_node_ok (mt_leaf_ok (sp_aload)) (mt_leaf_ok (sp_get)))))) (mt_node_ok (mt_node_ok (mt_node_ok (mt_leaf_ok (sp_iload)) (mt_node_ok (mt_leaf_ok (sp_ald)) (mt_leaf_ok (sp_push)))) (mt_node_ok (mt_leaf_ok (sp_if2)) (mt_node_ok (mt_leaf_ok (sp_iload)) (mt_leaf_ok (sp_aload))))) (mt_node_ok (mt_node_ok (mt_leaf_ok (sp_get)) (mt_node_ok (mt_leaf_ok (sp_iload)) (mt_leaf_ok (sp_ald)))) (mt_node_ok (mt_leaf_ok (rfl)) (mt_node_ok (mt_leaf_ok (sp_bin)) (mt_leaf_ok (sp_isto))))))) (mt_node_ok (mt_node_ok (mt_node_ok (mt_node_ok (mt_leaf_ok (sp_aload)) (mt_node_ok (mt_leaf_ok (sp_iload)) (mt_leaf_ok (sp_iload)))) (mt_node_ok (mt_leaf_ok (rfl)) (mt_node_ok (mt_leaf_ok (sp_isto)) (mt_leaf_ok (sp_iload))))) (mt_node_ok (mt_node_ok (mt_leaf_ok (sp_if)) (mt_node_ok (mt_leaf_ok (sp_push)) (mt_leaf_ok (trivial)))) (mt_node_ok (mt_leaf_ok (sp_iload)) (mt_node_ok (mt_leaf_ok (sp_push)) (mt_leaf_ok (sp_bin)))))) (mt_node_ok (mt_node_ok (mt_node_ok (mt_leaf_ok (sp_isto)) (mt_node_ok (mt_leaf_ok (sp_iload)) (mt_leaf_ok (sp_iload)))) (mt_node_ok (mt_leaf_ok (sp_if2)) (mt_node_ok (mt_leaf_ok (sp_iload)) (mt_leaf_ok (sp_push))))) (mt_node_ok (mt_node_ok (mt_leaf_ok (sp_if2)) (mt_node_ok (mt_leaf_ok (sp_push)) (mt_leaf_ok (trivial)))) (mt_node_ok (mt_leaf_ok (sp_aload)) (mt_node_ok (mt_leaf_ok (sp_get)) (mt_leaf_ok (sp_iload)))))))
theorem sr_126_1 {g : xe_G} : mt_all (spP srS) (mb_126_1 g) := mt_node_ok (mt_node_ok (mt_node_ok (mt_node_ok (mt_node_ok (mt_leaf_ok (sp_ald)) (mt_leaf_ok (sp_push))) (mt_node_ok (mt_leaf_ok (sp_if2)) (mt_leaf_ok (sp_iload)))) (mt_node_ok (mt_node_ok (mt_leaf_ok (sp_push)) (mt_leaf_ok (sp_bin))) (mt_node_ok (mt_leaf_ok (sp_iload)) (mt_leaf_ok (sp_if2))))) (mt_node_ok (mt_node_ok (mt_node_ok (mt_leaf_ok (sp_push)) (mt_leaf_ok (sp_iload))) (mt_node_ok (mt_leaf_ok (sp_bin)) (mt_leaf_ok (trivial)))) (mt_node_ok (mt_node_ok (mt_leaf_ok (sp_aload)) (mt_leaf_ok (sp_iload))) (mt_node_ok (mt_leaf_ok (sp_iload)) (mt_leaf_ok (rfl)))))) (mt_node_ok (mt_node_ok (mt_node_ok (mt_node_ok (mt_leaf_ok (sp_iload)) (mt_leaf_ok (sp_if2))) (mt_node_ok (mt_leaf_ok (sp_push)) (mt_leaf_ok (trivial)))) (mt_node_ok (mt_node_ok (mt_leaf_ok (sp_push)) (mt_leaf_ok (sp_push))) (mt_node_ok (mt_leaf_ok (sp_aload)) (mt_leaf_ok (sp_get))))) (mt_node_ok (mt_node_ok (mt_node_ok (mt_leaf_ok (sp_iload)) (mt_leaf_ok (sp_ald))) (mt_node_ok (mt_leaf_ok (rfl)) (mt_leaf_ok (sp_bin)))) (mt_node_ok (mt_node_ok (mt_leaf_ok (sp_bin)) (mt_leaf_ok (sp_iload))) (mt_node_ok (mt_leaf_ok (sp_bin)) (mt_leaf_ok (trivial))))))
theorem sr_126 {g : xe_G} : mt_all (spP srS) (mb_126 g).2.1 := mt_node_ok ((sr_126_0 (g := g))) ((sr_126_1 (g := g)))
theorem sr_127_0 {g : xe_G} : mt_all (spP srS) (mb_127_0 g) := mt_node_ok (mt_node_ok (mt_node_ok (mt_node_ok (mt_node_ok (mt_leaf_ok (sp_iload)) (mt_node_ok (mt_leaf_ok (sp_isto)) (mt_leaf_ok (sp_iload)))) (mt_node_ok (mt_leaf_ok (sp_isto)) (mt_node_ok (mt_leaf_ok (sp_iload)) (mt_leaf_ok (sp_iload))))) (mt_node_ok (mt_node_ok (mt_leaf_ok (sp_if2)) (mt_node_ok (mt_leaf_ok (sp_aload)) (mt_leaf_ok (sp_get)))) (mt_node_ok (mt_leaf_ok (sp_iload)) (mt_node_ok (mt_leaf_ok (sp_ald)) (mt_leaf_ok (sp_isto)))))) (mt_node_ok (mt_node_ok (mt_node_ok (mt_leaf_ok (sp_iload)) (mt_node_ok (mt_leaf_ok (sp_push)) (mt_leaf_ok (sp_if2)))) (mt_node_ok (mt_leaf_ok (sp_iload)) (mt_node_ok (mt_leaf_ok (sp_iload)) (mt_leaf_ok (sp_if2))))) (mt_node_ok (mt_node_ok (mt_leaf_ok (sp_iload)) (mt_node_ok (mt_leaf_ok (sp_goto)) (mt_leaf_ok (sp_push)))) (mt_node_ok (mt_leaf_ok (trivial)) (mt_node_ok (mt_leaf_ok (sp_iload)) (mt_leaf_ok (sp_push))))))) (mt_node_ok (mt_node_ok (mt_node_ok (mt_node_ok (mt_leaf_ok (sp_if2)) (mt_node_ok (mt_leaf_ok (sp_iload)) (mt_leaf_ok (sp_push)))) (mt_node_ok (mt_leaf_ok (sp_if2)) (mt_node_ok (mt_leaf_ok (sp_iload)) (mt_leaf_ok (sp_push))))) (mt_node_ok (mt_node_ok (mt_leaf_ok (sp_if2)) (mt_node_ok (mt_leaf_ok (sp_iload)) (mt_leaf_ok (sp_iload)))) (mt_node_ok (mt_leaf_ok (sp_if2)) (mt_node_ok (mt_leaf_ok (sp_push)) (mt_leaf_ok (trivial)))))) (mt_node_ok (mt_node_ok (mt_node_ok (mt_leaf_ok (sp_iload)) (mt_node_ok (mt_leaf_ok (sp_push)) (mt_leaf_ok (sp_if2)))) (mt_node_ok (mt_leaf_ok (sp_iload)) (mt_node_ok (mt_leaf_ok (sp_push)) (mt_leaf_ok (sp_bin))))) (mt_node_ok (mt_node_ok (mt_leaf_ok (sp_isto)) (mt_node_ok (mt_leaf_ok (sp_iinc)) (mt_leaf_ok (sp_goto)))) (mt_node_ok (mt_leaf_ok (sp_iload)) (mt_node_ok (mt_leaf_ok (sp_iload)) (mt_leaf_ok (sp_if2)))))))
theorem sr_127_1 {g : xe_G} : mt_all (spP srS) (mb_127_1 g) := mt_node_ok (mt_node_ok (mt_leaf_ok (sp_iload)) (mt_leaf_ok (sp_goto))) (mt_node_ok (mt_leaf_ok (sp_push)) (mt_leaf_ok (trivial)))
theorem sr_127 {g : xe_G} : mt_all (spP srS) (mb_127 g).2.1 := mt_node_ok ((sr_127_0 (g := g))) ((sr_127_1 (g := g)))
theorem sr_128_0 {g : xe_G} : mt_all (spP srS) (mb_128_0 g) := mt_node_ok (mt_node_ok (mt_leaf_ok (sp_aload)) (mt_node_ok (mt_leaf_ok (sp_aload)) (mt_leaf_ok (sp_iload)))) (mt_node_ok (mt_leaf_ok (rfl)) (mt_node_ok (mt_leaf_ok (rfl)) (mt_leaf_ok (trivial))))
theorem sr_128 {g : xe_G} : mt_all (spP srS) (mb_128 g).2.1 := (sr_128_0 (g := g))
theorem sr_129_0 {g : xe_G} : mt_all (spP srS) (mb_129_0 g) := mt_node_ok (mt_node_ok (mt_leaf_ok (sp_aload)) (mt_node_ok (mt_leaf_ok (sp_aload)) (mt_leaf_ok (sp_iload)))) (mt_node_ok (mt_node_ok (mt_leaf_ok (rfl)) (mt_leaf_ok (sp_push))) (mt_node_ok (mt_leaf_ok (rfl)) (mt_leaf_ok (trivial))))
theorem sr_129 {g : xe_G} : mt_all (spP srS) (mb_129 g).2.1 := (sr_129_0 (g := g))
theorem sr_130_0 {g : xe_G} : mt_all (spP srS) (mb_130_0 g) := mt_node_ok (mt_node_ok (mt_node_ok (mt_leaf_ok (sp_iload)) (mt_leaf_ok (sp_push))) (mt_node_ok (mt_leaf_ok (sp_if2)) (mt_node_ok (mt_leaf_ok (sp_iload)) (mt_leaf_ok (sp_push))))) (mt_node_ok (mt_node_ok (mt_leaf_ok (sp_if2)) (mt_leaf_ok (sp_push))) (mt_node_ok (mt_leaf_ok (sp_goto)) (mt_node_ok (mt_leaf_ok (sp_push)) (mt_leaf_ok (trivial)))))
theorem sr_130 {g : xe_G} : mt_all (spP srS) (mb_130 g).2.1 := (sr_130_0 (g := g))
theorem sr_132_0 {g : xe_G} : mt_all (spP srS) (mb_132_0 g) := mt_node_ok (mt_node_ok (mt_node_ok (mt_node_ok (mt_node_ok (mt_leaf_ok (sp_push)) (mt_leaf_ok (sp_isto))) (mt_node_ok (mt_leaf_ok (sp_iload)) (mt_leaf_ok (sp_iload)))) (mt_node_ok (mt_node_ok (mt_leaf_ok (sp_if2)) (mt_leaf_ok (sp_iload))) (mt_node_ok (mt_leaf_ok (sp_aload)) (mt_leaf_ok (sp_alen))))) (mt_node_ok (mt_node_ok (mt_node_ok (mt_leaf_ok (sp_if2)) (mt_leaf_ok (sp_aload))) (mt_node_ok (mt_leaf_ok (sp_iload)) (mt_leaf_ok (sp_ald)))) (mt_node_ok (mt_node_ok (mt_leaf_ok (sp_asto)) (mt_leaf_ok (sp_aload))) (mt_node_ok (mt_leaf_ok (sp_null)) (mt_leaf_ok (sp_aload)))))) (mt_node_ok (mt_node_ok (mt_node_ok (mt_node_ok (mt_leaf_ok (sp_aload)) (mt_leaf_ok (sp_get))) (mt_node_ok (mt_leaf_ok (sp_iload)) (mt_leaf_ok (rfl)))) (mt_node_ok (mt_node_ok (mt_leaf_ok (sp_if)) (mt_leaf_ok (sp_aload))) (mt_node_ok (mt_leaf_ok (sp_aload)) (mt_leaf_ok (sp_get))))) (mt_node_ok (mt_node_ok (mt_node_ok (mt_leaf_ok (sp_iload)) (mt_leaf_ok (rfl))) (mt_node_ok (mt_leaf_ok (sp_if)) (mt_leaf_ok (sp_iload)))) (mt_node_ok (mt_node_ok (mt_leaf_ok (trivial)) (mt_leaf_ok (sp_iinc))) (mt_node_ok (mt_leaf_ok (sp_goto)) (mt_node_ok (mt_leaf_ok (sp_push)) (mt_leaf_ok (trivial)))))))
theorem sr_132 {g : xe_G} : mt_all (spP srS) (mb_132 g).2.1 := (sr_132_0 (g := g))
theorem sr_133_0 {g : xe_G} : mt_all (spP srS) (mb_133_0 g) := mt_node_ok (mt_node_ok (mt_node_ok (mt_node_ok (mt_node_ok (mt_leaf_ok (sp_iload)) (mt_node_ok (mt_leaf_ok (sp_iload)) (mt_leaf_ok (sp_if2)))) (mt_node_ok (mt_leaf_ok (sp_push)) (mt_node_ok (mt_leaf_ok (trivial)) (mt_leaf_ok (sp_aload))))) (mt_node_ok (mt_node_ok (mt_leaf_ok (sp_iload)) (mt_node_ok (mt_leaf_ok (rfl)) (mt_leaf_ok (sp_push)))) (mt_node_ok (mt_leaf_ok (sp_if2)) (mt_node_ok (mt_leaf_ok (sp_aload)) (mt_leaf_ok (sp_iload)))))) (mt_node_ok (mt_node_ok (mt_node_ok (mt_leaf_ok (rfl)) (mt_node_ok (mt_leaf_ok (sp_push)) (mt_leaf_ok (sp_if2)))) (mt_node_ok (mt_leaf_ok (sp_aload)) (mt_node_ok (mt_leaf_ok (sp_get)) (mt_leaf_ok (sp_iload))))) (mt_node_ok (mt_node_ok (mt_leaf_ok (sp_ald)) (mt_node_ok (mt_leaf_ok (sp_aload)) (mt_leaf_ok (sp_get)))) (mt_node_ok (mt_leaf_ok (sp_iload)) (mt_node_ok (mt_leaf_ok (sp_ald)) (mt_leaf_ok (sp_if2))))))) (mt_node_ok (mt_node_ok (mt_node_ok (mt_node_ok (mt_leaf_ok (sp_push)) (mt_node_ok (mt_leaf_ok (trivial)) (mt_leaf_ok (sp_push)))) (mt_node_ok (mt_leaf_ok (sp_isto)) (mt_node_ok (mt_leaf_ok (sp_iload)) (mt_leaf_ok (sp_aload))))) (mt_node_ok (mt_node_ok (mt_leaf_ok (sp_get)) (mt_node_ok (mt_leaf_ok (sp_iload)) (mt_leaf_ok (sp_ald)))) (mt_node_ok (mt_leaf_ok (sp_if2)) (mt_node_ok (mt_leaf_ok (sp_aload)) (mt_leaf_ok (sp_get)))))) (mt_node_ok (mt_node_ok (mt_node_ok (mt_leaf_ok (sp_aload)) (mt_node_ok (mt_leaf_ok (sp_get)) (mt_leaf_ok (sp_iload)))) (mt_node_ok (mt_leaf_ok (sp_ald)) (mt_node_ok (mt_leaf_ok (sp_iload)) (mt_leaf_ok (sp_bin))))) (mt_node_ok (mt_node_ok (mt_leaf_ok (sp_ald)) (mt_node_ok (mt_leaf_ok (sp_aload)) (mt_leaf_ok (sp_get)))) (mt_node_ok (mt_leaf_ok (sp_aload)) (mt_node_ok (mt_leaf_ok (sp_get)) (mt_leaf_ok (sp_iload)))))))
theorem sr_133_1 {g : xe_G} : mt_all (spP srS) (mb_133_1 g) := mt_node_ok (mt_node_ok (mt_node_ok (mt_leaf_ok (sp_ald)) (mt_leaf_ok (sp_iload))) (mt_node_ok (mt_leaf_ok (sp_bin)) (mt_node_ok (mt_leaf_ok (sp_ald)) (mt_leaf_ok (sp_if2))))) (mt_node_ok (mt_node_ok (mt_leaf_ok (sp_push)) (mt_node_ok (mt_leaf_ok (trivial)) (mt_leaf_ok (sp_iinc)))) (mt_node_ok (mt_leaf_ok (sp_goto)) (mt_node_ok (mt_leaf_ok (sp_push)) (mt_leaf_ok (trivial)))))
theorem sr_133 {g : xe_G} : mt_all (spP srS) (mb_133 g).2.1 := mt_node_ok ((sr_133_0 (g := g))) ((sr_133_1 (g := g)))
theorem sr_134_0 {g : xe_G} : mt_all (spP srS) (mb_134_0 g) := mt_node_ok (mt_node_ok (mt_node_ok (mt_node_ok (mt_leaf_ok (sp_iload)) (mt_leaf_ok (sp_if))) (mt_node_ok (mt_leaf_ok (sp_iload)) (mt_node_ok (mt_leaf_ok (sp_aload)) (mt_leaf_ok (sp_get))))) (mt_node_ok (mt_node_ok (mt_leaf_ok (sp_alen)) (mt_leaf_ok (sp_if2))) (mt_node_ok (mt_leaf_ok (sp_aload)) (mt_node_ok (mt_leaf_ok (sp_get)) (mt_leaf_ok (sp_iload)))))) (mt_node_ok (mt_node_ok (mt_node_ok (mt_leaf_ok (sp_ald)) (mt_leaf_ok (sp_push))) (mt_node_ok (mt_leaf_ok (sp_if2)) (mt_node_ok (mt_leaf_ok (sp_push)) (mt_leaf_ok (sp_goto))))) (mt_node_ok (mt_node_ok (mt_leaf_ok (sp_aload)) (mt_leaf_ok (sp_get))) (mt_node_ok (mt_leaf_ok (sp_iload)) (mt_node_ok (mt_leaf_ok (sp_ald)) (mt_leaf_ok (trivial))))))
theorem sr_134 {g : xe_G} : mt_all (spP srS) (mb_134 g).2.1 := (sr_134_0 (g := g))
theorem sr_135_0 {g : xe_G} : mt_all (spP srS) (mb_135_0 g) := mt_node_ok (mt_node_ok (mt_node_ok (mt_node_ok (mt_leaf_ok (sp_iload)) (mt_leaf_ok (sp_if))) (mt_node_ok (mt_leaf_ok (sp_iload)) (mt_leaf_ok (sp_aload)))) (mt_node_ok (mt_node_ok (mt_leaf_ok (sp_get)) (mt_leaf_ok (sp_alen))) (mt_node_ok (mt_leaf_ok (sp_if2)) (mt_node_ok (mt_leaf_ok (sp_aload)) (mt_leaf_ok (sp_get)))))) (mt_node_ok (mt_node_ok (mt_node_ok (mt_leaf_ok (sp_iload)) (mt_leaf_ok (sp_iload))) (mt_node_ok (mt_leaf_ok (sp_ast)) (mt_leaf_ok (sp_aload)))) (mt_node_ok (mt_node_ok (mt_leaf_ok (sp_get)) (mt_leaf_ok (sp_iload))) (mt_node_ok (mt_leaf_ok (sp_iload)) (mt_node_ok (mt_leaf_ok (sp_ast)) (mt_leaf_ok (trivial))))))
theorem sr_135 {g : xe_G} : mt_all (spP srS) (mb_135 g).2.1 := (sr_135_0 (g := g))
theorem sr_136_0 {g : xe_G} : mt_all (spP srS) (mb_136_0 g) := mt_node_ok (mt_node_ok (mt_node_ok (mt_node_ok (mt_leaf_ok (sp_iload)) (mt_leaf_ok (sp_if))) (mt_node_ok (mt_leaf_ok (sp_iload)) (mt_leaf_ok (sp_aload)))) (mt_node_ok (mt_node_ok (mt_leaf_ok (sp_get)) (mt_leaf_ok (sp_alen))) (mt_node_ok (mt_leaf_ok (sp_if2)) (mt_node_ok (mt_leaf_ok (sp_aload)) (mt_leaf_ok (sp_get)))))) (mt_node_ok (mt_node_ok (mt_node_ok (mt_leaf_ok (sp_iload)) (mt_leaf_ok (sp_iload))) (mt_node_ok (mt_leaf_ok (sp_ast)) (mt_leaf_ok (sp_aload)))) (mt_node_ok (mt_node_ok (mt_leaf_ok (sp_get)) (mt_leaf_ok (sp_iload))) (mt_node_ok (mt_leaf_ok (sp_iload)) (mt_node_ok (mt_leaf_ok (sp_ast)) (mt_leaf_ok (trivial))))))
theorem sr_136 {g : xe_G} : mt_all (spP srS) (mb_136 g).2.1 := (sr_136_0 (g := g))
theorem sr_137_0 {g : xe_G} : mt_all (spP srS) (mb_137_0 g) := mt_node_ok (mt_node_ok (mt_node_ok (mt_node_ok (mt_node_ok (mt_leaf_ok (sp_iload)) (mt_leaf_ok (sp_iload))) (mt_node_ok (mt_leaf_ok (sp_if2)) (mt_leaf_ok (sp_push)))) (mt_node_ok (mt_node_ok (mt_leaf_ok (trivial)) (mt_leaf_ok (sp_aload))) (mt_node_ok (mt_leaf_ok (sp_get)) (mt_leaf_ok (sp_iload))))) (mt_node_ok (mt_node_ok (mt_node_ok (mt_leaf_ok (sp_ald)) (mt_leaf_ok (sp_push))) (mt_node_ok (mt_leaf_ok (sp_if2)) (mt_leaf_ok (sp_aload)))) (mt_node_ok (mt_node_ok (mt_leaf_ok (sp_iload)) (mt_leaf_ok (sp_push))) (mt_node_ok (mt_leaf_ok (sp_bin)) (mt_leaf_ok (sp_iload)))))) (mt_node_ok (mt_node_ok (mt_node_ok (mt_node_ok (mt_leaf_ok (rfl)) (mt_leaf_ok (trivial))) (mt_node_ok (mt_leaf_ok (sp_aload)) (mt_leaf_ok (sp_iload)))) (mt_node_ok (mt_node_ok (mt_leaf_ok (sp_iload)) (mt_leaf_ok (rfl))) (mt_node_ok (mt_leaf_ok (sp_iload)) (mt_leaf_ok (sp_if2))))) (mt_node_ok (mt_node_ok (mt_node_ok (mt_leaf_ok (sp_aload)) (mt_leaf_ok (sp_get))) (mt_node_ok (mt_leaf_ok (sp_iload)) (mt_leaf_ok (sp_ald)))) (mt_node_ok (mt_node_ok (mt_leaf_ok (rfl)) (mt_leaf_ok (sp_goto))) (mt_node_ok (mt_leaf_ok (sp_push)) (mt_leaf_ok (trivial))))))
theorem sr_137 {g : xe_G} : mt_all (spP srS) (mb_137 g).2.1 := (sr_137_0 (g := g))
theorem sr_138_0 {g : xe_G} : mt_all (spP srS) (mb_138_0 g) := mt_node_ok (mt_node_ok (mt_node_ok (mt_leaf_ok (sp_iload)) (mt_node_ok (mt_leaf_ok (sp_if)) (mt_leaf_ok (sp_iload)))) (mt_node_ok (mt_node_ok (mt_leaf_ok (sp_aload)) (mt_leaf_ok (sp_get))) (mt_node_ok (mt_leaf_ok (sp_alen)) (mt_leaf_ok (sp_if2))))) (mt_node_ok (mt_node_ok (mt_leaf_ok (sp_push)) (mt_node_ok (mt_leaf_ok (sp_goto)) (mt_leaf_ok (sp_aload)))) (mt_node_ok (mt_node_ok (mt_leaf_ok (sp_get)) (mt_leaf_ok (sp_iload))) (mt_node_ok (mt_leaf_ok (sp_ald)) (mt_leaf_ok (trivial)))))
theorem sr_138 {g : xe_G} : mt_all (spP srS) (mb_138 g).2.1 := (sr_138_0 (g := g))
theorem sr_139_0 {g : xe_G} : mt_all (spP srS) (mb_139_0 g) := mt_node_ok (mt_node_ok (mt_node_ok (mt_leaf_ok (sp_iload)) (mt_node_ok (mt_leaf_ok (sp_if)) (mt_leaf_ok (sp_iload)))) (mt_node_ok (mt_node_ok (mt_leaf_ok (sp_aload)) (mt_leaf_ok (sp_get))) (mt_node_ok (mt_leaf_ok (sp_alen)) (mt_leaf_ok (sp_if2))))) (mt_node_ok (mt_node_ok (mt_leaf_ok (sp_push)) (mt_node_ok (mt_leaf_ok (sp_goto)) (mt_leaf_ok (sp_aload)))) (mt_node_ok (mt_node_ok (mt_leaf_ok (sp_get)) (mt_leaf_ok (sp_iload))) (mt_node_ok (mt_leaf_ok (sp_ald)) (mt_leaf_ok (trivial)))))
theorem sr_139 {g : xe_G} : mt_all (spP srS) (mb_139 g).2.1 := (sr_139_0 (g := g))
theorem sr_140_0 {g : xe_G} : mt_all (spP srS) (mb_140_0 g) := mt_node_ok (mt_node_ok (mt_node_ok (mt_node_ok (mt_node_ok (mt_leaf_ok (sp_aload)) (mt_leaf_ok (sp_iload))) (mt_node_ok (mt_leaf_ok (rfl)) (mt_leaf_ok (sp_push)))) (mt_node_ok (mt_node_ok (mt_leaf_ok (sp_if2)) (mt_leaf_ok (sp_aload))) (mt_node_ok (mt_leaf_ok (sp_get)) (mt_node_ok (mt_leaf_ok (sp_iload)) (mt_leaf_ok (sp_ald)))))) (mt_node_ok (mt_node_ok (mt_node_ok (mt_leaf_ok (sp_aload)) (mt_leaf_ok (sp_slength))) (mt_node_ok (mt_leaf_ok (sp_if2)) (mt_node_ok (mt_leaf_ok (sp_push)) (mt_leaf_ok (trivial))))) (mt_node_ok (mt_node_ok (mt_leaf_ok (sp_push)) (mt_leaf_ok (sp_isto))) (mt_node_ok (mt_leaf_ok (sp_iload)) (mt_node_ok (mt_leaf_ok (sp_aload)) (mt_leaf_ok (sp_slength))))))) (mt_node_ok (mt_node_ok (mt_node_ok (mt_node_ok (mt_leaf_ok (sp_if2)) (mt_leaf_ok (sp_aload))) (mt_node_ok (mt_leaf_ok (sp_get)) (mt_node_ok (mt_leaf_ok (sp_aload)) (mt_leaf_ok (sp_get))))) (mt_node_ok (mt_node_ok (mt_leaf_ok (sp_iload)) (mt_leaf_ok (sp_ald))) (mt_node_ok (mt_leaf_ok (sp_iload)) (mt_node_ok (mt_leaf_ok (sp_bin)) (mt_leaf_ok (sp_ald)))))) (mt_node_ok (mt_node_ok (mt_node_ok (mt_leaf_ok (sp_aload)) (mt_leaf_ok (sp_iload))) (mt_node_ok (mt_leaf_ok (sp_scharAt)) (mt_node_ok (mt_leaf_ok (sp_if2)) (mt_leaf_ok (sp_push))))) (mt_node_ok (mt_node_ok (mt_leaf_ok (trivial)) (mt_leaf_ok (sp_iinc))) (mt_node_ok (mt_leaf_ok (sp_goto)) (mt_node_ok (mt_leaf_ok (sp_push)) (mt_leaf_ok (trivial)))))))
theorem sr_140 {g : xe_G} : mt_all (spP srS) (mb_140 g).2.1 := (sr_140_0 (g := g))
theorem sr_141_0 {g : xe_G} : mt_all (spP srS) (mb_141_0 g) := mt_node_ok (mt_node_ok (mt_node_ok (mt_leaf_ok (sp_aload)) (mt_node_ok (mt_leaf_ok (sp_iload)) (mt_leaf_ok (rfl)))) (mt_node_ok (mt_leaf_ok (sp_push)) (mt_node_ok (mt_leaf_ok (sp_if2)) (mt_leaf_ok (sp_aload))))) (mt_node_ok (mt_node_ok (mt_leaf_ok (sp_get)) (mt_node_ok (mt_leaf_ok (sp_iload)) (mt_leaf_ok (sp_ald)))) (mt_node_ok (mt_leaf_ok (sp_goto)) (mt_node_ok (mt_leaf_ok (sp_push)) (mt_leaf_ok (trivial)))))
theorem sr_141 {g : xe_G} : mt_all (spP srS) (mb_141 g).2.1 := (sr_141_0 (g := g))
theorem sr_142_0 {g : xe_G} : mt_all (spP srS) (mb_142_0 g) := mt_node_ok (mt_node_ok (mt_node_ok (mt_node_ok (mt_node_ok (mt_leaf_ok (sp_iload)) (mt_node_ok (mt_leaf_ok (sp_isto)) (mt_leaf_ok (sp_iload)))) (mt_node_ok (mt_leaf_ok (sp_iload)) (mt_node_ok (mt_leaf_ok (sp_if2)) (mt_leaf_ok (sp_aload))))) (mt_node_ok (mt_node_ok (mt_leaf_ok (sp_get)) (mt_node_ok (mt_leaf_ok (sp_iload)) (mt_leaf_ok (sp_ald)))) (mt_node_ok (mt_leaf_ok (sp_push)) (mt_node_ok (mt_leaf_ok (sp_if2)) (mt_leaf_ok (sp_iinc)))))) (mt_node_ok (mt_node_ok (mt_node_ok (mt_leaf_ok (sp_goto)) (mt_node_ok (mt_leaf_ok (sp_iload)) (mt_leaf_ok (sp_iload)))) (mt_node_ok (mt_leaf_ok (sp_if2)) (mt_node_ok (mt_leaf_ok (sp_iload)) (mt_leaf_ok (sp_iload))))) (mt_node_ok (mt_node_ok (mt_leaf_ok (sp_bin)) (mt_node_ok (mt_leaf_ok (sp_push)) (mt_leaf_ok (sp_if2)))) (mt_node_ok (mt_leaf_ok (sp_push)) (mt_node_ok (mt_leaf_ok (trivial)) (mt_leaf_ok (sp_aload))))))) (mt_node_ok (mt_node_ok (mt_node_ok (mt_node_ok (mt_leaf_ok (sp_get)) (mt_node_ok (mt_leaf_ok (sp_iload)) (mt_leaf_ok (sp_ald)))) (mt_node_ok (mt_leaf_ok (sp_sw)) (mt_node_ok (mt_leaf_ok (sp_iload)) (mt_leaf_ok (sp_push))))) (mt_node_ok (mt_node_ok (mt_leaf_ok (sp_bin)) (mt_node_ok (mt_leaf_ok (trivial)) (mt_leaf_ok (sp_aload)))) (mt_node_ok (mt_leaf_ok (sp_iload)) (mt_node_ok (mt_leaf_ok (sp_push)) (mt_leaf_ok (sp_bin)))))) (mt_node_ok (mt_node_ok (mt_node_ok (mt_leaf_ok (sp_iload)) (mt_node_ok (mt_leaf_ok (rfl)) (mt_leaf_ok (sp_isto)))) (mt_node_ok (mt_leaf_ok (sp_iload)) (mt_node_ok (mt_leaf_ok (sp_if)) (mt_leaf_ok (sp_iload))))) (mt_node_ok (mt_node_ok (mt_leaf_ok (sp_iload)) (mt_node_ok (mt_leaf_ok (sp_if2)) (mt_leaf_ok (sp_push)))) (mt_node_ok (mt_leaf_ok (sp_goto)) (mt_node_ok (mt_leaf_ok (sp_iload)) (mt_leaf_ok (sp_push)))))))
theorem sr_142_1 {g : xe_G} : mt_all (spP srS) (mb_142_1 g) := mt_node_ok (mt_node_ok (mt_leaf_ok (sp_bin)) (mt_leaf_ok (trivial))) (mt_node_ok (mt_leaf_ok (sp_push)) (mt_leaf_ok (trivial)))
theorem sr_142 {g : xe_G} : mt_all (spP srS) (mb_142 g).2.1 := mt_node_ok ((sr_142_0 (g := g))) ((sr_142_1 (g := g)))
theorem sr_143_0 {g : xe_G} : mt_all (spP srS) (mb_143_0 g) := mt_node_ok (mt_node_ok (mt_node_ok (mt_leaf_ok (sp_aload)) (mt_node_ok (mt_leaf_ok (sp_drop)) (mt_leaf_ok (sp_aload)))) (mt_node_ok (mt_node_ok (mt_leaf_ok (sp_aload)) (mt_leaf_ok (sp_get))) (mt_node_ok (mt_leaf_ok (sp_put)) (mt_leaf_ok (sp_aload))))) (mt_node_ok (mt_node_ok (mt_leaf_ok (sp_aload)) (mt_node_ok (mt_leaf_ok (sp_get)) (mt_leaf_ok (sp_put)))) (mt_node_ok (mt_node_ok (mt_leaf_ok (sp_aload)) (mt_leaf_ok (sp_aload))) (mt_node_ok (mt_leaf_ok (sp_put)) (mt_leaf_ok (trivial)))))
theorem sr_143 {g : xe_G} : mt_all (spP srS) (mb_143 g).2.1 := (sr_143_0 (g := g))
theorem sr_144_0 {g : xe_G} : mt_all (spP srS) (mb_144_0 g) := mt_node_ok (mt_node_ok (mt_node_ok (mt_node_ok (mt_node_ok (mt_leaf_ok (sp_push)) (mt_leaf_ok (sp_isto))) (mt_node_ok (mt_leaf_ok (sp_iload)) (mt_leaf_ok (sp_aload)))) (mt_node_ok (mt_node_ok (mt_leaf_ok (sp_get)) (mt_leaf_ok (sp_get))) (mt_node_ok (mt_leaf_ok (sp_if2)) (mt_node_ok (mt_leaf_ok (sp_aload)) (mt_leaf_ok (sp_get)))))) (mt_node_ok (mt_node_ok (mt_node_ok (mt_leaf_ok (sp_iload)) (mt_leaf_ok (rfl))) (mt_node_ok (mt_leaf_ok (sp_isto)) (mt_leaf_ok (sp_iload)))) (mt_node_ok (mt_node_ok (mt_leaf_ok (sp_push)) (mt_leaf_ok (sp_if2))) (mt_node_ok (mt_leaf_ok (sp_iload)) (mt_node_ok (mt_leaf_ok (sp_push)) (mt_leaf_ok (sp_if2))))))) (mt_node_ok (mt_node_ok (mt_node_ok (mt_node_ok (mt_leaf_ok (sp_aload)) (mt_leaf_ok (sp_get))) (mt_node_ok (mt_leaf_ok (sp_iload)) (mt_leaf_ok (rfl)))) (mt_node_ok (mt_node_ok (mt_leaf_ok (sp_iload)) (mt_leaf_ok (sp_if2))) (mt_node_ok (mt_leaf_ok (sp_aload)) (mt_node_ok (mt_leaf_ok (sp_get)) (mt_leaf_ok (sp_push)))))) (mt_node_ok (mt_node_ok (mt_node_ok (mt_leaf_ok (sp_aload)) (mt_leaf_ok (sp_get))) (mt_node_ok (mt_leaf_ok (sp_iload)) (mt_node_ok (mt_leaf_ok (rfl)) (mt_leaf_ok (rfl))))) (mt_node_ok (mt_node_ok (mt_leaf_ok (trivial)) (mt_leaf_ok (sp_iinc))) (mt_node_ok (mt_leaf_ok (sp_goto)) (mt_node_ok (mt_leaf_ok (sp_push)) (mt_leaf_ok (trivial)))))))
theorem sr_144 {g : xe_G} : mt_all (spP srS) (mb_144 g).2.1 := (sr_144_0 (g := g))
theorem sr_145_0 {g : xe_G} : mt_all (spP srS) (mb_145_0 g) := mt_node_ok (mt_node_ok (mt_node_ok (mt_node_ok (mt_node_ok (mt_leaf_ok (sp_aload)) (mt_node_ok (mt_leaf_ok (sp_get)) (mt_leaf_ok (sp_iload)))) (mt_node_ok (mt_leaf_ok (rfl)) (mt_node_ok (mt_leaf_ok (sp_sw)) (mt_leaf_ok (sp_aload))))) (mt_node_ok (mt_node_ok (mt_leaf_ok (sp_get)) (mt_node_ok (mt_leaf_ok (sp_aload)) (mt_leaf_ok (sp_get)))) (mt_node_ok (mt_leaf_ok (sp_iload)) (mt_node_ok (mt_leaf_ok (rfl)) (mt_leaf_ok (rfl)))))) (mt_node_ok (mt_node_ok (mt_node_ok (mt_leaf_ok (sp_if)) (mt_node_ok (mt_leaf_ok (sp_push)) (mt_leaf_ok (sp_goto)))) (mt_node_ok (mt_leaf_ok (sp_push)) (mt_node_ok (mt_leaf_ok (trivial)) (mt_leaf_ok (sp_aload))))) (mt_node_ok (mt_node_ok (mt_leaf_ok (sp_iload)) (mt_node_ok (mt_leaf_ok (rfl)) (mt_leaf_ok (sp_if)))) (mt_node_ok (mt_leaf_ok (sp_push)) (mt_node_ok (mt_leaf_ok (sp_goto)) (mt_leaf_ok (sp_push))))))) (mt_node_ok (mt_node_ok (mt_node_ok (mt_node_ok (mt_leaf_ok (trivial)) (mt_node_ok (mt_leaf_ok (sp_aload)) (mt_leaf_ok (sp_get)))) (mt_node_ok (mt_leaf_ok (sp_aload)) (mt_node_ok (mt_leaf_ok (sp_get)) (mt_leaf_ok (sp_iload))))) (mt_node_ok (mt_node_ok (mt_leaf_ok (rfl)) (mt_node_ok (mt_leaf_ok (rfl)) (mt_leaf_ok (sp_if)))) (mt_node_ok (mt_leaf_ok (sp_push)) (mt_node_ok (mt_leaf_ok (sp_goto)) (mt_leaf_ok (sp_push)))))) (mt_node_ok (mt_node_ok (mt_node_ok (mt_leaf_ok (trivial)) (mt_node_ok (mt_leaf_ok (sp_aload)) (mt_leaf_ok (sp_iload)))) (mt_node_ok (mt_leaf_ok (rfl)) (mt_node_ok (mt_leaf_ok (sp_if)) (mt_leaf_ok (sp_push))))) (mt_node_ok (mt_node_ok (mt_leaf_ok (sp_goto)) (mt_node_ok (mt_leaf_ok (sp_push)) (mt_leaf_ok (trivial)))) (mt_node_ok (mt_leaf_ok (sp_aload)) (mt_node_ok (mt_leaf_ok (sp_aload)) (mt_leaf_ok (sp_get)))))))
theorem sr_145_1 {g : xe_G} : mt_all (spP srS) (mb_145_1 g) := mt_node_ok (mt_node_ok (mt_node_ok (mt_node_ok (mt_node_ok (mt_leaf_ok (sp_iload)) (mt_node_ok (mt_leaf_ok (rfl)) (mt_leaf_ok (sp_aload)))) (mt_node_ok (mt_leaf_ok (sp_get)) (mt_node_ok (mt_leaf_ok (sp_iload)) (mt_leaf_ok (rfl))))) (mt_node_ok (mt_node_ok (mt_leaf_ok (rfl)) (mt_node_ok (mt_leaf_ok (sp_if)) (mt_leaf_ok (sp_push)))) (mt_node_ok (mt_leaf_ok (sp_goto)) (mt_node_ok (mt_leaf_ok (sp_push)) (mt_leaf_ok (trivial)))))) (mt_node_ok (mt_node_ok (mt_node_ok (mt_leaf_ok (sp_aload)) (mt_node_ok (mt_leaf_ok (sp_get)) (mt_leaf_ok (sp_aload)))) (mt_node_ok (mt_leaf_ok (sp_get)) (mt_node_ok (mt_leaf_ok (sp_iload)) (mt_leaf_ok (rfl))))) (mt_node_ok (mt_node_ok (mt_leaf_ok (rfl)) (mt_node_ok (mt_leaf_ok (sp_if)) (mt_leaf_ok (sp_push)))) (mt_node_ok (mt_leaf_ok (sp_goto)) (mt_node_ok (mt_leaf_ok (sp_push)) (mt_leaf_ok (trivial))))))) (mt_node_ok (mt_node_ok (mt_node_ok (mt_node_ok (mt_leaf_ok (sp_aload)) (mt_node_ok (mt_leaf_ok (sp_get)) (mt_leaf_ok (sp_aload)))) (mt_node_ok (mt_leaf_ok (sp_get)) (mt_node_ok (mt_leaf_ok (sp_iload)) (mt_leaf_ok (rfl))))) (mt_node_ok (mt_node_ok (mt_leaf_ok (rfl)) (mt_node_ok (mt_leaf_ok (sp_if)) (mt_leaf_ok (sp_aload)))) (mt_node_ok (mt_leaf_ok (sp_get)) (mt_node_ok (mt_leaf_ok (sp_aload)) (mt_leaf_ok (sp_get)))))) (mt_node_ok (mt_node_ok (mt_node_ok (mt_leaf_ok (sp_iload)) (mt_node_ok (mt_leaf_ok (rfl)) (mt_leaf_ok (rfl)))) (mt_node_ok (mt_leaf_ok (sp_if)) (mt_node_ok (mt_leaf_ok (sp_push)) (mt_leaf_ok (sp_goto))))) (mt_node_ok (mt_node_ok (mt_leaf_ok (sp_push)) (mt_node_ok (mt_leaf_ok (trivial)) (mt_leaf_ok (sp_aload)))) (mt_node_ok (mt_leaf_ok (sp_get)) (mt_node_ok (mt_leaf_ok (sp_aload)) (mt_leaf_ok (sp_get)))))))
theorem sr_145_2 {g : xe_G} : mt_all (spP srS) (mb_145_2 g) := mt_node_ok (mt_node_ok (mt_node_ok (mt_node_ok (mt_leaf_ok (sp_iload)) (mt_leaf_ok (rfl))) (mt_node_ok (mt_leaf_ok (rfl)) (mt_leaf_ok (sp_if)))) (mt_node_ok (mt_node_ok (mt_leaf_ok (sp_aload)) (mt_leaf_ok (sp_get))) (mt_node_ok (mt_leaf_ok (sp_aload)) (mt_node_ok (mt_leaf_ok (sp_get)) (mt_leaf_ok (sp_iload)))))) (mt_node_ok (mt_node_ok (mt_node_ok (mt_leaf_ok (rfl)) (mt_leaf_ok (rfl))) (mt_node_ok (mt_leaf_ok (sp_if)) (mt_leaf_ok (sp_push)))) (mt_node_ok (mt_node_ok (mt_leaf_ok (sp_goto)) (mt_leaf_ok (sp_push))) (mt_node_ok (mt_leaf_ok (trivial)) (mt_node_ok (mt_leaf_ok (sp_push)) (mt_leaf_ok (trivial))))))
theorem sr_145 {g : xe_G} : mt_all (spP srS) (mb_145 g).2.1 := mt_node_ok ((sr_145_0 (g := g))) (mt_node_ok ((sr_145_1 (g := g))) ((sr_145_2 (g := g))))
theorem sr_146_0 {g : xe_G} : mt_all (spP srS) (mb_146_0 g) := mt_node_ok (mt_node_ok (mt_node_ok (mt_node_ok (mt_node_ok (mt_leaf_ok (sp_push)) (mt_leaf_ok (sp_isto))) (mt_node_ok (mt_leaf_ok (sp_iload)) (mt_leaf_ok (sp_aload)))) (mt_node_ok (mt_node_ok (mt_leaf_ok (sp_get)) (mt_leaf_ok (sp_get))) (mt_node_ok (mt_leaf_ok (sp_if2)) (mt_leaf_ok (sp_aload))))) (mt_node_ok (mt_node_ok (mt_node_ok (mt_leaf_ok (sp_iload)) (mt_leaf_ok (rfl))) (mt_node_ok (mt_leaf_ok (sp_if)) (mt_leaf_ok (sp_aload)))) (mt_node_ok (mt_node_ok (mt_leaf_ok (sp_iload)) (mt_leaf_ok (rfl))) (mt_node_ok (mt_leaf_ok (sp_goto)) (mt_leaf_ok (sp_push)))))) (mt_node_ok (mt_node_ok (mt_node_ok (mt_node_ok (mt_leaf_ok (sp_isto)) (mt_leaf_ok (sp_iload))) (mt_node_ok (mt_leaf_ok (sp_if)) (mt_leaf_ok (sp_aload)))) (mt_node_ok (mt_node_ok (mt_leaf_ok (sp_get)) (mt_leaf_ok (sp_iload))) (mt_node_ok (mt_leaf_ok (sp_aload)) (mt_leaf_ok (sp_get))))) (mt_node_ok (mt_node_ok (mt_node_ok (mt_leaf_ok (sp_iload)) (mt_leaf_ok (rfl))) (mt_node_ok (mt_leaf_ok (rfl)) (mt_leaf_ok (trivial)))) (mt_node_ok (mt_node_ok (mt_leaf_ok (sp_iinc)) (mt_leaf_ok (sp_goto))) (mt_node_ok (mt_leaf_ok (sp_push)) (mt_leaf_ok (trivial))))))
theorem sr_146 {g : xe_G} : mt_all (spP srS) (mb_146 g).2.1 := (sr_146_0 (g := g))
theorem sr_147_0 {g : xe_G} : mt_all (spP srS) (mb_147_0 g) := mt_node_ok (mt_node_ok (mt_node_ok (mt_node_ok (mt_node_ok (mt_leaf_ok (sp_aload)) (mt_node_ok (mt_leaf_ok (sp_get)) (mt_leaf_ok (sp_iload)))) (mt_node_ok (mt_leaf_ok (rfl)) (mt_node_ok (mt_leaf_ok (sp_isto)) (mt_leaf_ok (sp_iload))))) (mt_node_ok (mt_node_ok (mt_leaf_ok (sp_sw)) (mt_node_ok (mt_leaf_ok (sp_iload)) (mt_leaf_ok (sp_push)))) (mt_node_ok (mt_leaf_ok (sp_if2)) (mt_node_ok (mt_leaf_ok (sp_push)) (mt_leaf_ok (sp_goto)))))) (mt_node_ok (mt_node_ok (mt_node_ok (mt_leaf_ok (sp_push)) (mt_node_ok (mt_leaf_ok (trivial)) (mt_leaf_ok (sp_iload)))) (mt_node_ok (mt_leaf_ok (sp_push)) (mt_node_ok (mt_leaf_ok (sp_if2)) (mt_leaf_ok (sp_aload))))) (mt_node_ok (mt_node_ok (mt_leaf_ok (sp_get)) (mt_node_ok (mt_leaf_ok (sp_iload)) (mt_leaf_ok (rfl)))) (mt_node_ok (mt_leaf_ok (sp_if)) (mt_node_ok (mt_leaf_ok (sp_push)) (mt_leaf_ok (sp_goto))))))) (mt_node_ok (mt_node_ok (mt_node_ok (mt_node_ok (mt_leaf_ok (sp_push)) (mt_node_ok (mt_leaf_ok (trivial)) (mt_leaf_ok (sp_iload)))) (mt_node_ok (mt_leaf_ok (sp_push)) (mt_node_ok (mt_leaf_ok (sp_if2)) (mt_leaf_ok (sp_iload))))) (mt_node_ok (mt_node_ok (mt_leaf_ok (sp_push)) (mt_node_ok (mt_leaf_ok (sp_if2)) (mt_leaf_ok (sp_aload)))) (mt_node_ok (mt_leaf_ok (sp_get)) (mt_node_ok (mt_leaf_ok (sp_push)) (mt_leaf_ok (sp_if2)))))) (mt_node_ok (mt_node_ok (mt_node_ok (mt_leaf_ok (sp_aload)) (mt_node_ok (mt_leaf_ok (sp_get)) (mt_leaf_ok (sp_iload)))) (mt_node_ok (mt_leaf_ok (rfl)) (mt_node_ok (mt_leaf_ok (sp_if)) (mt_leaf_ok (sp_push))))) (mt_node_ok (mt_node_ok (mt_leaf_ok (sp_goto)) (mt_node_ok (mt_leaf_ok (sp_push)) (mt_leaf_ok (trivial)))) (mt_node_ok (mt_leaf_ok (sp_iload)) (mt_node_ok (mt_leaf_ok (sp_push)) (mt_leaf_ok (sp_if2)))))))
theorem sr_147_1 {g : xe_G} : mt_all (spP srS) (mb_147_1 g) := mt_node_ok (mt_node_ok (mt_node_ok (mt_node_ok (mt_leaf_ok (sp_aload)) (mt_leaf_ok (sp_get))) (mt_node_ok (mt_leaf_ok (sp_iload)) (mt_node_ok (mt_leaf_ok (rfl)) (mt_leaf_ok (sp_if))))) (mt_node_ok (mt_node_ok (mt_leaf_ok (sp_push)) (mt_node_ok (mt_leaf_ok (sp_goto)) (mt_leaf_ok (sp_push)))) (mt_node_ok (mt_leaf_ok (trivial)) (mt_node_ok (mt_leaf_ok (sp_iload)) (mt_leaf_ok (sp_push)))))) (mt_node_ok (mt_node_ok (mt_node_ok (mt_leaf_ok (sp_if2)) (mt_node_ok (mt_leaf_ok (sp_aload)) (mt_leaf_ok (sp_get)))) (mt_node_ok (mt_leaf_ok (sp_iload)) (mt_node_ok (mt_leaf_ok (rfl)) (mt_leaf_ok (sp_if))))) (mt_node_ok (mt_node_ok (mt_leaf_ok (sp_push)) (mt_node_ok (mt_leaf_ok (sp_goto)) (mt_leaf_ok (sp_push)))) (mt_node_ok (mt_leaf_ok (trivial)) (mt_node_ok (mt_leaf_ok (sp_push)) (mt_leaf_ok (trivial))))))
theorem sr_147 {g : xe_G} : mt_all (spP srS) (mb_147 g).2.1 := mt_node_ok ((sr_147_0 (g := g))) ((sr_147_1 (g := g)))
theorem sr_148_0 {g : xe_G} : mt_all (spP srS) (mb_148_0 g) := mt_node_ok (mt_node_ok (mt_node_ok (mt_node_ok (mt_leaf_ok (sp_aload)) (mt_leaf_ok (sp_get))) (mt_node_ok (mt_leaf_ok (sp_iload)) (mt_leaf_ok (rfl)))) (mt_node_ok (mt_node_ok (mt_leaf_ok (sp_isto)) (mt_leaf_ok (sp_iload))) (mt_node_ok (mt_leaf_ok (sp_push)) (mt_node_ok (mt_leaf_ok (sp_if2)) (mt_leaf_ok (sp_iload)))))) (mt_node_ok (mt_node_ok (mt_node_ok (mt_leaf_ok (sp_push)) (mt_leaf_ok (sp_if2))) (mt_node_ok (mt_leaf_ok (sp_iload)) (mt_leaf_ok (sp_push)))) (mt_node_ok (mt_node_ok (mt_leaf_ok (sp_if2)) (mt_leaf_ok (sp_push))) (mt_node_ok (mt_leaf_ok (sp_goto)) (mt_node_ok (mt_leaf_ok (sp_push)) (mt_leaf_ok (trivial))))))
theorem sr_148 {g : xe_G} : mt_all (spP srS) (mb_148 g).2.1 := (sr_148_0 (g := g))
theorem sr_149_0 {g : xe_G} : mt_all (spP srS) (mb_149_0 g) := mt_node_ok (mt_node_ok (mt_node_ok (mt_node_ok (mt_node_ok (mt_leaf_ok (sp_aload)) (mt_leaf_ok (sp_get))) (mt_node_ok (mt_leaf_ok (sp_iload)) (mt_node_ok (mt_leaf_ok (rfl)) (mt_leaf_ok (sp_isto))))) (mt_node_ok (mt_node_ok (mt_leaf_ok (sp_aload)) (mt_leaf_ok (sp_get))) (mt_node_ok (mt_leaf_ok (sp_iload)) (mt_node_ok (mt_leaf_ok (rfl)) (mt_leaf_ok (sp_if)))))) (mt_node_ok (mt_node_ok (mt_node_ok (mt_leaf_ok (sp_push)) (mt_leaf_ok (trivial))) (mt_node_ok (mt_leaf_ok (sp_aload)) (mt_node_ok (mt_leaf_ok (sp_get)) (mt_leaf_ok (sp_aload))))) (mt_node_ok (mt_node_ok (mt_leaf_ok (sp_get)) (mt_node_ok (mt_leaf_ok (sp_iload)) (mt_leaf_ok (rfl)))) (mt_node_ok (mt_leaf_ok (rfl)) (mt_node_ok (mt_leaf_ok (sp_if)) (mt_leaf_ok (sp_push))))))) (mt_node_ok (mt_node_ok (mt_node_ok (mt_node_ok (mt_leaf_ok (trivial)) (mt_leaf_ok (sp_aload))) (mt_node_ok (mt_leaf_ok (sp_get)) (mt_node_ok (mt_leaf_ok (sp_iload)) (mt_leaf_ok (rfl))))) (mt_node_ok (mt_node_ok (mt_leaf_ok (sp_push)) (mt_leaf_ok (sp_if2))) (mt_node_ok (mt_leaf_ok (sp_aload)) (mt_node_ok (mt_leaf_ok (sp_get)) (mt_leaf_ok (sp_iload)))))) (mt_node_ok (mt_node_ok (mt_node_ok (mt_leaf_ok (rfl)) (mt_leaf_ok (sp_if))) (mt_node_ok (mt_leaf_ok (sp_aload)) (mt_node_ok (mt_leaf_ok (sp_get)) (mt_leaf_ok (sp_iload))))) (mt_node_ok (mt_node_ok (mt_leaf_ok (rfl)) (mt_node_ok (mt_leaf_ok (sp_if)) (mt_leaf_ok (sp_push)))) (mt_node_ok (mt_leaf_ok (sp_goto)) (mt_node_ok (mt_leaf_ok (sp_push)) (mt_leaf_ok (trivial)))))))
theorem sr_149 {g : xe_G} : mt_all (spP srS) (mb_149 g).2.1 := (sr_149_0 (g := g))
theorem sr_150_0 {g : xe_G} : mt_all (spP srS) (mb_150_0 g) := mt_node_ok (mt_node_ok (mt_node_ok (mt_node_ok (mt_leaf_ok (sp_aload)) (mt_node_ok (mt_leaf_ok (sp_get)) (mt_leaf_ok (sp_iload)))) (mt_node_ok (mt_leaf_ok (rfl)) (mt_node_ok (mt_leaf_ok (sp_isto)) (mt_leaf_ok (sp_aload))))) (mt_node_ok (mt_node_ok (mt_leaf_ok (sp_get)) (mt_node_ok (mt_leaf_ok (sp_aload)) (mt_leaf_ok (sp_get)))) (mt_node_ok (mt_node_ok (mt_leaf_ok (sp_iload)) (mt_leaf_ok (rfl))) (mt_node_ok (mt_leaf_ok (rfl)) (mt_leaf_ok (sp_if)))))) (mt_node_ok (mt_node_ok (mt_node_ok (mt_leaf_ok (sp_aload)) (mt_node_ok (mt_leaf_ok (sp_get)) (mt_leaf_ok (sp_iload)))) (mt_node_ok (mt_node_ok (mt_leaf_ok (rfl)) (mt_leaf_ok (sp_if))) (mt_node_ok (mt_leaf_ok (sp_aload)) (mt_leaf_ok (sp_get))))) (mt_node_ok (mt_node_ok (mt_leaf_ok (sp_iload)) (mt_node_ok (mt_leaf_ok (rfl)) (mt_leaf_ok (sp_if)))) (mt_node_ok (mt_node_ok (mt_leaf_ok (sp_push)) (mt_leaf_ok (sp_goto))) (mt_node_ok (mt_leaf_ok (sp_push)) (mt_leaf_ok (trivial))))))
theorem sr_150 {g : xe_G} : mt_all (spP srS) (mb_150 g).2.1 := (sr_150_0 (g := g))
theorem sr_151_0 {g : xe_G} : mt_all (spP srS) (mb_151_0 g) := mt_node_ok (mt_node_ok (mt_node_ok (mt_node_ok (mt_node_ok (mt_leaf_ok (sp_aload)) (mt_node_ok (mt_leaf_ok (sp_get)) (mt_leaf_ok (sp_iload)))) (mt_node_ok (mt_leaf_ok (rfl)) (mt_node_ok (mt_leaf_ok (sp_sw)) (mt_leaf_ok (sp_aload))))) (mt_node_ok (mt_node_ok (mt_leaf_ok (sp_get)) (mt_node_ok (mt_leaf_ok (sp_aload)) (mt_leaf_ok (sp_get)))) (mt_node_ok (mt_leaf_ok (sp_iload)) (mt_node_ok (mt_leaf_ok (rfl)) (mt_leaf_ok (rfl)))))) (mt_node_ok (mt_node_ok (mt_node_ok (mt_leaf_ok (sp_push)) (mt_node_ok (mt_leaf_ok (sp_if2)) (mt_leaf_ok (sp_push)))) (mt_node_ok (mt_leaf_ok (sp_goto)) (mt_node_ok (mt_leaf_ok (sp_push)) (mt_leaf_ok (trivial))))) (mt_node_ok (mt_node_ok (mt_leaf_ok (sp_aload)) (mt_node_ok (mt_leaf_ok (sp_iload)) (mt_leaf_ok (rfl)))) (mt_node_ok (mt_leaf_ok (trivial)) (mt_node_ok (mt_leaf_ok (sp_aload)) (mt_leaf_ok (sp_iload))))))) (mt_node_ok (mt_node_ok (mt_node_ok (mt_node_ok (mt_leaf_ok (rfl)) (mt_node_ok (mt_leaf_ok (trivial)) (mt_leaf_ok (sp_aload)))) (mt_node_ok (mt_leaf_ok (sp_get)) (mt_node_ok (mt_leaf_ok (sp_iload)) (mt_leaf_ok (rfl))))) (mt_node_ok (mt_node_ok (mt_leaf_ok (sp_isto)) (mt_node_ok (mt_leaf_ok (sp_aload)) (mt_leaf_ok (sp_iload)))) (mt_node_ok (mt_leaf_ok (rfl)) (mt_node_ok (mt_leaf_ok (sp_if)) (mt_leaf_ok (sp_aload)))))) (mt_node_ok (mt_node_ok (mt_node_ok (mt_leaf_ok (sp_iload)) (mt_node_ok (mt_leaf_ok (rfl)) (mt_leaf_ok (sp_goto)))) (mt_node_ok (mt_leaf_ok (sp_aload)) (mt_node_ok (mt_leaf_ok (sp_get)) (mt_leaf_ok (sp_iload))))) (mt_node_ok (mt_node_ok (mt_leaf_ok (rfl)) (mt_node_ok (mt_leaf_ok (sp_if)) (mt_leaf_ok (sp_push)))) (mt_node_ok (mt_leaf_ok (sp_goto)) (mt_node_ok (mt_leaf_ok (sp_push)) (mt_leaf_ok (trivial)))))))
theorem sr_151_1 {g : xe_G} : mt_all (spP srS) (mb_151_1 g) := mt_node_ok (mt_node_ok (mt_node_ok (mt_leaf_ok (sp_aload)) (mt_leaf_ok (sp_aload))) (mt_node_ok (mt_leaf_ok (sp_get)) (mt_leaf_ok (sp_iload)))) (mt_node_ok (mt_node_ok (mt_leaf_ok (rfl)) (mt_leaf_ok (rfl))) (mt_node_ok (mt_leaf_ok (trivial)) (mt_node_ok (mt_leaf_ok (sp_push)) (mt_leaf_ok (trivial)))))
theorem sr_151 {g : xe_G} : mt_all (spP srS) (mb_151 g).2.1 := mt_node_ok ((sr_151_0 (g := g))) ((sr_151_1 (g := g)))
theorem sr_152_0 {g : xe_G} : mt_all (spP srS) (mb_152_0 g) := mt_node_ok (mt_node_ok (mt_node_ok (mt_node_ok (mt_leaf_ok (sp_aload)) (mt_node_ok (mt_leaf_ok (sp_get)) (mt_leaf_ok (sp_iload)))) (mt_node_ok (mt_node_ok (mt_leaf_ok (rfl)) (mt_leaf_ok (sp_isto))) (mt_node_ok (mt_leaf_ok (sp_aload)) (mt_leaf_ok (sp_get))))) (mt_node_ok (mt_node_ok (mt_node_ok (mt_leaf_ok (sp_iload)) (mt_leaf_ok (rfl))) (mt_node_ok (mt_leaf_ok (sp_push)) (mt_leaf_ok (sp_if2)))) (mt_node_ok (mt_node_ok (mt_leaf_ok (sp_aload)) (mt_leaf_ok (sp_get))) (mt_node_ok (mt_leaf_ok (sp_aload)) (mt_leaf_ok (sp_get)))))) (mt_node_ok (mt_node_ok (mt_node_ok (mt_node_ok (mt_leaf_ok (sp_iload)) (mt_leaf_ok (rfl))) (mt_node_ok (mt_leaf_ok (rfl)) (mt_leaf_ok (sp_push)))) (mt_node_ok (mt_node_ok (mt_leaf_ok (sp_if2)) (mt_leaf_ok (sp_aload))) (mt_node_ok (mt_leaf_ok (sp_aload)) (mt_leaf_ok (sp_get))))) (mt_node_ok (mt_node_ok (mt_node_ok (mt_leaf_ok (sp_iload)) (mt_leaf_ok (rfl))) (mt_node_ok (mt_leaf_ok (rfl)) (mt_leaf_ok (sp_if)))) (mt_node_ok (mt_node_ok (mt_leaf_ok (sp_push)) (mt_leaf_ok (sp_goto))) (mt_node_ok (mt_leaf_ok (sp_push)) (mt_leaf_ok (trivial))))))
theorem sr_152 {g : xe_G} : mt_all (spP srS) (mb_152 g).2.1 := (sr_152_0 (g := g))
theorem sr_153_0 {g : xe_G} : mt_all (spP srS) (mb_153_0 g) := mt_node_ok (mt_node_ok (mt_node_ok (mt_node_ok (mt_leaf_ok (sp_aload)) (mt_node_ok (mt_leaf_ok (sp_get)) (mt_leaf_ok (sp_iload)))) (mt_node_ok (mt_node_ok (mt_leaf_ok (rfl)) (mt_leaf_ok (sp_push))) (mt_node_ok (mt_leaf_ok (sp_if2)) (mt_leaf_ok (sp_aload))))) (mt_node_ok (mt_node_ok (mt_leaf_ok (sp_get)) (mt_node_ok (mt_leaf_ok (sp_aload)) (mt_leaf_ok (sp_get)))) (mt_node_ok (mt_node_ok (mt_leaf_ok (sp_iload)) (mt_leaf_ok (rfl))) (mt_node_ok (mt_leaf_ok (rfl)) (mt_leaf_ok (sp_push)))))) (mt_node_ok (mt_node_ok (mt_node_ok (mt_leaf_ok (sp_if2)) (mt_node_ok (mt_leaf_ok (sp_aload)) (mt_leaf_ok (sp_get)))) (mt_node_ok (mt_node_ok (mt_leaf_ok (sp_aload)) (mt_leaf_ok (sp_get))) (mt_node_ok (mt_leaf_ok (sp_iload)) (mt_leaf_ok (rfl))))) (mt_node_ok (mt_node_ok (mt_leaf_ok (rfl)) (mt_node_ok (mt_leaf_ok (sp_push)) (mt_leaf_ok (sp_if2)))) (mt_node_ok (mt_node_ok (mt_leaf_ok (sp_push)) (mt_leaf_ok (sp_goto))) (mt_node_ok (mt_leaf_ok (sp_push)) (mt_leaf_ok (trivial))))))
theorem sr_153 {g : xe_G} : mt_all (spP srS) (mb_153 g).2.1 := (sr_153_0 (g := g))
theorem sr_154_0 {g : xe_G} : mt_all (spP srS) (mb_154_0 g) := mt_node_ok (mt_node_ok (mt_node_ok (mt_leaf_ok (sp_aload)) (mt_node_ok (mt_leaf_ok (sp_drop)) (mt_leaf_ok (sp_aload)))) (mt_node_ok (mt_leaf_ok (sp_aload)) (mt_node_ok (mt_leaf_ok (sp_put)) (mt_leaf_ok (sp_aload))))) (mt_node_ok (mt_node_ok (mt_leaf_ok (sp_aload)) (mt_node_ok (mt_leaf_ok (sp_put)) (mt_leaf_ok (sp_aload)))) (mt_node_ok (mt_node_ok (mt_leaf_ok (sp_aload)) (mt_leaf_ok (sp_get))) (mt_node_ok (mt_leaf_ok (sp_put)) (mt_leaf_ok (trivial)))))
theorem sr_154 {g : xe_G} : mt_all (spP srS) (mb_154 g).2.1 := (sr_154_0 (g := g))
theorem sr_155_0 {g : xe_G} : mt_all (spP srS) (mb_155_0 g) := mt_node_ok (mt_node_ok (mt_node_ok (mt_node_ok (mt_node_ok (mt_leaf_ok (sp_aload)) (mt_node_ok (mt_leaf_ok (sp_get)) (mt_leaf_ok (sp_aload)))) (mt_node_ok (mt_leaf_ok (sp_get)) (mt_node_ok (mt_leaf_ok (rfl)) (mt_leaf_ok (sp_isto))))) (mt_node_ok (mt_node_ok (mt_leaf_ok (sp_iload)) (mt_node_ok (mt_leaf_ok (sp_push)) (mt_leaf_ok (sp_if2)))) (mt_node_ok (mt_leaf_ok (sp_iload)) (mt_node_ok (mt_leaf_ok (trivial)) (mt_leaf_ok (sp_iload)))))) (mt_node_ok (mt_node_ok (mt_node_ok (mt_leaf_ok (sp_push)) (mt_node_ok (mt_leaf_ok (sp_if2)) (mt_leaf_ok (sp_iload)))) (mt_node_ok (mt_leaf_ok (sp_push)) (mt_node_ok (mt_leaf_ok (sp_bin)) (mt_leaf_ok (sp_push))))) (mt_node_ok (mt_node_ok (mt_leaf_ok (sp_bin)) (mt_node_ok (mt_leaf_ok (sp_aload)) (mt_leaf_ok (sp_get)))) (mt_node_ok (mt_leaf_ok (sp_aload)) (mt_node_ok (mt_leaf_ok (sp_get)) (mt_leaf_ok (sp_push))))))) (mt_node_ok (mt_node_ok (mt_node_ok (mt_node_ok (mt_leaf_ok (sp_bin)) (mt_node_ok (mt_leaf_ok (rfl)) (mt_leaf_ok (sp_push)))) (mt_node_ok (mt_leaf_ok (sp_bin)) (mt_node_ok (mt_leaf_ok (sp_bin)) (mt_leaf_ok (trivial))))) (mt_node_ok (mt_node_ok (mt_leaf_ok (sp_iload)) (mt_node_ok (mt_leaf_ok (sp_push)) (mt_leaf_ok (sp_bin)))) (mt_node_ok (mt_leaf_ok (sp_push)) (mt_node_ok (mt_leaf_ok (sp_bin)) (mt_leaf_ok (sp_aload)))))) (mt_node_ok (mt_node_ok (mt_node_ok (mt_leaf_ok (sp_get)) (mt_node_ok (mt_leaf_ok (sp_aload)) (mt_leaf_ok (sp_get)))) (mt_node_ok (mt_leaf_ok (sp_push)) (mt_node_ok (mt_leaf_ok (sp_bin)) (mt_leaf_ok (rfl))))) (mt_node_ok (mt_node_ok (mt_leaf_ok (sp_push)) (mt_node_ok (mt_leaf_ok (sp_bin)) (mt_leaf_ok (sp_push)))) (mt_node_ok (mt_leaf_ok (sp_bin)) (mt_node_ok (mt_leaf_ok (sp_bin)) (mt_leaf_ok (sp_aload)))))))
theorem sr_155_1 {g : xe_G} : mt_all (spP srS) (mb_155_1 g) := mt_node_ok (mt_node_ok (mt_node_ok (mt_leaf_ok (sp_get)) (mt_leaf_ok (sp_aload))) (mt_node_ok (mt_leaf_ok (sp_get)) (mt_node_ok (mt_leaf_ok (sp_push)) (mt_leaf_ok (sp_bin))))) (mt_node_ok (mt_node_ok (mt_leaf_ok (rfl)) (mt_leaf_ok (sp_push))) (mt_node_ok (mt_leaf_ok (sp_bin)) (mt_node_ok (mt_leaf_ok (sp_bin)) (mt_leaf_ok (trivial)))))
theorem sr_155 {g : xe_G} : mt_all (spP srS) (mb_155 g).2.1 := mt_node_ok ((sr_155_0 (g := g))) ((sr_155_1 (g := g)))
theorem sr_156_0 {g : xe_G} : mt_all (spP srS) (mb_156_0 g) := mt_node_ok (mt_node_ok (mt_node_ok (mt_node_ok (mt_node_ok (mt_leaf_ok (sp_aload)) (mt_node_ok (mt_leaf_ok (sp_get)) (mt_leaf_ok (sp_aload)))) (mt_node_ok (mt_leaf_ok (sp_get)) (mt_node_ok (mt_leaf_ok (rfl)) (mt_leaf_ok (sp_isto))))) (mt_node_ok (mt_node_ok (mt_leaf_ok (sp_iload)) (mt_node_ok (mt_leaf_ok (sp_push)) (mt_leaf_ok (sp_if2)))) (mt_node_ok (mt_leaf_ok (sp_iload)) (mt_node_ok (mt_leaf_ok (sp_if)) (mt_leaf_ok (sp_push)))))) (mt_node_ok (mt_node_ok (mt_node_ok (mt_leaf_ok (sp_goto)) (mt_node_ok (mt_leaf_ok (sp_push)) (mt_leaf_ok (trivial)))) (mt_node_ok (mt_leaf_ok (sp_iload)) (mt_node_ok (mt_leaf_ok (sp_push)) (mt_leaf_ok (sp_if2))))) (mt_node_ok (mt_node_ok (mt_leaf_ok (sp_iload)) (mt_node_ok (mt_leaf_ok (sp_push)) (mt_leaf_ok (sp_if2)))) (mt_node_ok (mt_leaf_ok (sp_aload)) (mt_node_ok (mt_leaf_ok (sp_get)) (mt_leaf_ok (sp_aload))))))) (mt_node_ok (mt_node_ok (mt_node_ok (mt_node_ok (mt_leaf_ok (sp_get)) (mt_node_ok (mt_leaf_ok (sp_push)) (mt_leaf_ok (sp_bin)))) (mt_node_ok (mt_leaf_ok (sp_iload)) (mt_node_ok (mt_leaf_ok (rfl)) (mt_leaf_ok (sp_if))))) (mt_node_ok (mt_node_ok (mt_leaf_ok (sp_push)) (mt_node_ok (mt_leaf_ok (trivial)) (mt_leaf_ok (sp_iload)))) (mt_node_ok (mt_leaf_ok (sp_push)) (mt_node_ok (mt_leaf_ok (sp_if2)) (mt_leaf_ok (sp_push)))))) (mt_node_ok (mt_node_ok (mt_node_ok (mt_leaf_ok (trivial)) (mt_node_ok (mt_leaf_ok (sp_aload)) (mt_leaf_ok (sp_get)))) (mt_node_ok (mt_leaf_ok (sp_aload)) (mt_node_ok (mt_leaf_ok (sp_get)) (mt_leaf_ok (sp_push))))) (mt_node_ok (mt_node_ok (mt_leaf_ok (sp_bin)) (mt_node_ok (mt_leaf_ok (sp_iload)) (mt_leaf_ok (rfl)))) (mt_node_ok (mt_leaf_ok (sp_if)) (mt_node_ok (mt_leaf_ok (sp_push)) (mt_leaf_ok (sp_goto)))))))
theorem sr_156_1 {g : xe_G} : mt_all (spP srS) (mb_156_1 g) := mt_node_ok (mt_leaf_ok (sp_push)) (mt_leaf_ok (trivial))
theorem sr_156 {g : xe_G} : mt_all (spP srS) (mb_156 g).2.1 := mt_node_ok ((sr_156_0 (g := g))) ((sr_156_1 (g := g)))
theorem sr_157_0 {g : xe_G} : mt_all (spP srS) (mb_157_0 g) := mt_node_ok (mt_node_ok (mt_node_ok (mt_node_ok (mt_node_ok (mt_leaf_ok (sp_iload)) (mt_leaf_ok (sp_sw))) (mt_node_ok (mt_leaf_ok (sp_aload)) (mt_node_ok (mt_leaf_ok (sp_get)) (mt_leaf_ok (sp_get))))) (mt_node_ok (mt_node_ok (mt_leaf_ok (sp_push)) (mt_leaf_ok (sp_if2))) (mt_node_ok (mt_leaf_ok (sp_push)) (mt_node_ok (mt_leaf_ok (sp_goto)) (mt_leaf_ok (sp_push)))))) (mt_node_ok (mt_node_ok (mt_node_ok (mt_leaf_ok (trivial)) (mt_leaf_ok (sp_aload))) (mt_node_ok (mt_leaf_ok (sp_get)) (mt_node_ok (mt_leaf_ok (sp_get)) (mt_leaf_ok (sp_push))))) (mt_node_ok (mt_node_ok (mt_leaf_ok (sp_if2)) (mt_node_ok (mt_leaf_ok (sp_push)) (mt_leaf_ok (sp_goto)))) (mt_node_ok (mt_leaf_ok (sp_push)) (mt_node_ok (mt_leaf_ok (trivial)) (mt_leaf_ok (sp_aload))))))) (mt_node_ok (mt_node_ok (mt_node_ok (mt_node_ok (mt_leaf_ok (sp_get)) (mt_leaf_ok (sp_get))) (mt_node_ok (mt_leaf_ok (sp_push)) (mt_node_ok (mt_leaf_ok (sp_if2)) (mt_leaf_ok (sp_push))))) (mt_node_ok (mt_node_ok (mt_leaf_ok (sp_goto)) (mt_leaf_ok (sp_push))) (mt_node_ok (mt_leaf_ok (trivial)) (mt_node_ok (mt_leaf_ok (sp_iload)) (mt_leaf_ok (sp_push)))))) (mt_node_ok (mt_node_ok (mt_node_ok (mt_leaf_ok (sp_if2)) (mt_leaf_ok (sp_iload))) (mt_node_ok (mt_leaf_ok (sp_push)) (mt_node_ok (mt_leaf_ok (sp_if2)) (mt_leaf_ok (sp_iload))))) (mt_node_ok (mt_node_ok (mt_leaf_ok (sp_push)) (mt_node_ok (mt_leaf_ok (sp_if2)) (mt_leaf_ok (sp_push)))) (mt_node_ok (mt_leaf_ok (sp_goto)) (mt_node_ok (mt_leaf_ok (sp_push)) (mt_leaf_ok (trivial)))))))
theorem sr_157 {g : xe_G} : mt_all (spP srS) (mb_157 g).2.1 := (sr_157_0 (g := g))
theorem sr_158_0 {g : xe_G} : mt_all (spP srS) (mb_158_0 g) := mt_node_ok (mt_node_ok (mt_node_ok (mt_leaf_ok (sp_push)) (mt_node_ok (mt_leaf_ok (sp_iload)) (mt_leaf_ok (sp_aload)))) (mt_node_ok (mt_leaf_ok (sp_get)) (mt_node_ok (mt_leaf_ok (rfl)) (mt_leaf_ok (sp_aload))))) (mt_node_ok (mt_node_ok (mt_leaf_ok (sp_get)) (mt_node_ok (mt_leaf_ok (sp_bin)) (mt_leaf_ok (sp_push)))) (mt_node_ok (mt_node_ok (mt_leaf_ok (sp_div)) (mt_leaf_ok (sp_mm))) (mt_node_ok (mt_leaf_ok (sp_mm)) (mt_leaf_ok (trivial)))))
theorem sr_158 {g : xe_G} : mt_all (spP srS) (mb_158 g).2.1 := (sr_158_0 (g := g))
theorem sr_159_0 {g : xe_G} : mt_all (spP srS) (mb_159_0 g) := mt_node_ok (mt_node_ok (mt_node_ok (mt_node_ok (mt_node_ok (mt_leaf_ok (sp_iload)) (mt_node_ok (mt_leaf_ok (sp_aload)) (mt_leaf_ok (sp_get)))) (mt_node_ok (mt_leaf_ok (rfl)) (mt_node_ok (mt_leaf_ok (sp_aload)) (mt_leaf_ok (sp_get))))) (mt_node_ok (mt_node_ok (mt_leaf_ok (sp_bin)) (mt_node_ok (mt_leaf_ok (sp_if2)) (mt_leaf_ok (sp_aload)))) (mt_node_ok (mt_leaf_ok (sp_get)) (mt_node_ok (mt_leaf_ok (sp_push)) (mt_leaf_ok (sp_aload)))))) (mt_node_ok (mt_node_ok (mt_node_ok (mt_leaf_ok (sp_get)) (mt_node_ok (mt_leaf_ok (rfl)) (mt_leaf_ok (trivial)))) (mt_node_ok (mt_leaf_ok (sp_iload)) (mt_node_ok (mt_leaf_ok (sp_push)) (mt_leaf_ok (sp_if2))))) (mt_node_ok (mt_node_ok (mt_leaf_ok (sp_aload)) (mt_node_ok (mt_leaf_ok (sp_aload)) (mt_leaf_ok (sp_get)))) (mt_node_ok (mt_leaf_ok (sp_aload)) (mt_node_ok (mt_leaf_ok (sp_get)) (mt_leaf_ok (rfl))))))) (mt_node_ok (mt_node_ok (mt_node_ok (mt_node_ok (mt_leaf_ok (sp_put)) (mt_node_ok (mt_leaf_ok (sp_goto)) (mt_leaf_ok (sp_aload)))) (mt_node_ok (mt_leaf_ok (sp_iload)) (mt_node_ok (mt_leaf_ok (sp_push)) (mt_leaf_ok (sp_if2))))) (mt_node_ok (mt_node_ok (mt_leaf_ok (sp_aload)) (mt_node_ok (mt_leaf_ok (sp_get)) (mt_leaf_ok (sp_aload)))) (mt_node_ok (mt_leaf_ok (sp_get)) (mt_node_ok (mt_leaf_ok (rfl)) (mt_leaf_ok (sp_goto)))))) (mt_node_ok (mt_node_ok (mt_node_ok (mt_leaf_ok (sp_aload)) (mt_node_ok (mt_leaf_ok (sp_get)) (mt_leaf_ok (sp_aload)))) (mt_node_ok (mt_leaf_ok (sp_get)) (mt_node_ok (mt_leaf_ok (rfl)) (mt_leaf_ok (sp_put))))) (mt_node_ok (mt_node_ok (mt_leaf_ok (sp_aload)) (mt_node_ok (mt_leaf_ok (sp_dup)) (mt_leaf_ok (sp_get)))) (mt_node_ok (mt_leaf_ok (sp_iload)) (mt_node_ok (mt_leaf_ok (sp_bin)) (mt_leaf_ok (sp_put)))))))
theorem sr_159_1 {g : xe_G} : mt_all (spP srS) (mb_159_1 g) := mt_node_ok (mt_leaf_ok (sp_push)) (mt_leaf_ok (trivial))
theorem sr_159 {g : xe_G} : mt_all (spP srS) (mb_159 g).2.1 := mt_node_ok ((sr_159_0 (g := g))) ((sr_159_1 (g := g)))
theorem sr_160_0 {g : xe_G} : mt_all (spP srS) (mb_160_0 g) := mt_node_ok (mt_node_ok (mt_node_ok (mt_node_ok (mt_node_ok (mt_leaf_ok (sp_aload)) (mt_node_ok (mt_leaf_ok (sp_push)) (mt_leaf_ok (rfl)))) (mt_node_ok (mt_leaf_ok (sp_if)) (mt_node_ok (mt_leaf_ok (sp_push)) (mt_leaf_ok (trivial))))) (mt_node_ok (mt_node_ok (mt_leaf_ok (sp_aload)) (mt_node_ok (mt_leaf_ok (sp_get)) (mt_leaf_ok (sp_isto)))) (mt_node_ok (mt_leaf_ok (sp_push)) (mt_node_ok (mt_leaf_ok (sp_isto)) (mt_leaf_ok (sp_iload)))))) (mt_node_ok (mt_node_ok (mt_node_ok (mt_leaf_ok (sp_iload)) (mt_node_ok (mt_leaf_ok (sp_if2)) (mt_leaf_ok (sp_aload)))) (mt_node_ok (mt_leaf_ok (sp_push)) (mt_node_ok (mt_leaf_ok (rfl)) (mt_leaf_ok (sp_if))))) (mt_node_ok (mt_node_ok (mt_leaf_ok (sp_aload)) (mt_node_ok (mt_leaf_ok (sp_push)) (mt_leaf_ok (rfl)))) (mt_node_ok (mt_leaf_ok (sp_if)) (mt_node_ok (mt_leaf_ok (sp_push)) (mt_leaf_ok (trivial))))))) (mt_node_ok (mt_node_ok (mt_node_ok (mt_node_ok (mt_leaf_ok (sp_aload)) (mt_node_ok (mt_leaf_ok (sp_get)) (mt_leaf_ok (sp_if)))) (mt_node_ok (mt_leaf_ok (sp_aload)) (mt_node_ok (mt_leaf_ok (sp_get)) (mt_leaf_ok (sp_aload))))) (mt_node_ok (mt_node_ok (mt_leaf_ok (sp_get)) (mt_node_ok (mt_leaf_ok (rfl)) (mt_leaf_ok (sp_aload)))) (mt_node_ok (mt_leaf_ok (sp_get)) (mt_node_ok (mt_leaf_ok (sp_bin)) (mt_leaf_ok (sp_if2)))))) (mt_node_ok (mt_node_ok (mt_node_ok (mt_leaf_ok (sp_aload)) (mt_node_ok (mt_leaf_ok (sp_get)) (mt_leaf_ok (sp_push)))) (mt_node_ok (mt_leaf_ok (sp_aload)) (mt_node_ok (mt_leaf_ok (sp_get)) (mt_leaf_ok (rfl))))) (mt_node_ok (mt_node_ok (mt_leaf_ok (trivial)) (mt_node_ok (mt_leaf_ok (sp_aload)) (mt_leaf_ok (sp_dup)))) (mt_node_ok (mt_leaf_ok (sp_get)) (mt_node_ok (mt_leaf_ok (sp_aload)) (mt_leaf_ok (sp_get)))))))
theorem sr_160_1 {g : xe_G} : mt_all (spP srS) (mb_160_1 g) := mt_node_ok (mt_node_ok (mt_leaf_ok (sp_bin)) (mt_node_ok (mt_leaf_ok (sp_put)) (mt_leaf_ok (sp_iinc)))) (mt_node_ok (mt_leaf_ok (sp_goto)) (mt_node_ok (mt_leaf_ok (sp_push)) (mt_leaf_ok (trivial))))
theorem sr_160 {g : xe_G} : mt_all (spP srS) (mb_160 g).2.1 := mt_node_ok ((sr_160_0 (g := g))) ((sr_160_1 (g := g)))
theorem sr_161_0 {g : xe_G} : mt_all (spP srS) (mb_161_0 g) := mt_node_ok (mt_node_ok (mt_node_ok (mt_node_ok (mt_node_ok (mt_leaf_ok (sp_aload)) (mt_leaf_ok (sp_get))) (mt_node_ok (mt_leaf_ok (sp_aload)) (mt_node_ok (mt_leaf_ok (sp_get)) (mt_leaf_ok (sp_put))))) (mt_node_ok (mt_node_ok (mt_leaf_ok (sp_aload)) (mt_node_ok (mt_leaf_ok (sp_push)) (mt_leaf_ok (rfl)))) (mt_node_ok (mt_leaf_ok (sp_if)) (mt_node_ok (mt_leaf_ok (sp_aload)) (mt_leaf_ok (sp_push)))))) (mt_node_ok (mt_node_ok (mt_node_ok (mt_leaf_ok (rfl)) (mt_leaf_ok (sp_if))) (mt_node_ok (mt_leaf_ok (sp_aload)) (mt_node_ok (mt_leaf_ok (sp_push)) (mt_leaf_ok (rfl))))) (mt_node_ok (mt_node_ok (mt_leaf_ok (sp_if)) (mt_node_ok (mt_leaf_ok (sp_aload)) (mt_leaf_ok (sp_push)))) (mt_node_ok (mt_leaf_ok (rfl)) (mt_node_ok (mt_leaf_ok (sp_if)) (mt_leaf_ok (sp_push))))))) (mt_node_ok (mt_node_ok (mt_node_ok (mt_node_ok (mt_leaf_ok (trivial)) (mt_leaf_ok (sp_aload))) (mt_node_ok (mt_leaf_ok (sp_get)) (mt_node_ok (mt_leaf_ok (sp_isto)) (mt_leaf_ok (sp_push))))) (mt_node_ok (mt_node_ok (mt_leaf_ok (sp_isto)) (mt_node_ok (mt_leaf_ok (sp_iload)) (mt_leaf_ok (sp_iload)))) (mt_node_ok (mt_leaf_ok (sp_if2)) (mt_node_ok (mt_leaf_ok (sp_aload)) (mt_leaf_ok (sp_push)))))) (mt_node_ok (mt_node_ok (mt_node_ok (mt_leaf_ok (rfl)) (mt_node_ok (mt_leaf_ok (sp_if)) (mt_leaf_ok (sp_push)))) (mt_node_ok (mt_leaf_ok (trivial)) (mt_node_ok (mt_leaf_ok (sp_iinc)) (mt_leaf_ok (sp_goto))))) (mt_node_ok (mt_node_ok (mt_leaf_ok (sp_aload)) (mt_node_ok (mt_leaf_ok (sp_get)) (mt_leaf_ok (sp_iload)))) (mt_node_ok (mt_leaf_ok (sp_put)) (mt_node_ok (mt_leaf_ok (sp_push)) (mt_leaf_ok (trivial)))))))
theorem sr_161 {g : xe_G} : mt_all (spP srS) (mb_161 g).2.1 := (sr_161_0 (g := g))
theorem sr_162_0 {g : xe_G} : mt_all (spP srS) (mb_162_0 g) := mt_node_ok (mt_node_ok (mt_node_ok (mt_node_ok (mt_node_ok (mt_leaf_ok (sp_aload)) (mt_leaf_ok (sp_get))) (mt_node_ok (mt_leaf_ok (sp_aload)) (mt_leaf_ok (sp_get)))) (mt_node_ok (mt_node_ok (mt_leaf_ok (sp_aload)) (mt_leaf_ok (sp_get))) (mt_node_ok (mt_leaf_ok (rfl)) (mt_node_ok (mt_leaf_ok (sp_put)) (mt_leaf_ok (sp_aload)))))) (mt_node_ok (mt_node_ok (mt_node_ok (mt_leaf_ok (sp_get)) (mt_leaf_ok (sp_aload))) (mt_node_ok (mt_leaf_ok (sp_get)) (mt_leaf_ok (sp_push)))) (mt_node_ok (mt_node_ok (mt_leaf_ok (sp_bin)) (mt_leaf_ok (sp_put))) (mt_node_ok (mt_leaf_ok (sp_aload)) (mt_node_ok (mt_leaf_ok (rfl)) (mt_leaf_ok (sp_if))))))) (mt_node_ok (mt_node_ok (mt_node_ok (mt_node_ok (mt_leaf_ok (sp_push)) (mt_leaf_ok (trivial))) (mt_node_ok (mt_leaf_ok (sp_aload)) (mt_leaf_ok (sp_get)))) (mt_node_ok (mt_node_ok (mt_leaf_ok (sp_aload)) (mt_leaf_ok (sp_get))) (mt_node_ok (mt_leaf_ok (rfl)) (mt_node_ok (mt_leaf_ok (sp_if2)) (mt_leaf_ok (sp_aload)))))) (mt_node_ok (mt_node_ok (mt_node_ok (mt_leaf_ok (sp_get)) (mt_leaf_ok (sp_push))) (mt_node_ok (mt_leaf_ok (sp_aload)) (mt_node_ok (mt_leaf_ok (sp_get)) (mt_leaf_ok (rfl))))) (mt_node_ok (mt_node_ok (mt_leaf_ok (sp_if)) (mt_leaf_ok (sp_push))) (mt_node_ok (mt_leaf_ok (sp_goto)) (mt_node_ok (mt_leaf_ok (sp_push)) (mt_leaf_ok (trivial)))))))
theorem sr_162 {g : xe_G} : mt_all (spP srS) (mb_162 g).2.1 := (sr_162_0 (g := g))
theorem sr_163_0 {g : xe_G} : mt_all (spP srS) (mb_163_0 g) := mt_node_ok (mt_node_ok (mt_node_ok (mt_node_ok (mt_node_ok (mt_leaf_ok (sp_aload)) (mt_node_ok (mt_leaf_ok (sp_get)) (mt_leaf_ok (sp_isto)))) (mt_node_ok (mt_leaf_ok (sp_aload)) (mt_node_ok (mt_leaf_ok (sp_push)) (mt_leaf_ok (rfl))))) (mt_node_ok (mt_node_ok (mt_leaf_ok (sp_if)) (mt_node_ok (mt_leaf_ok (sp_push)) (mt_leaf_ok (trivial)))) (mt_node_ok (mt_leaf_ok (sp_aload)) (mt_node_ok (mt_leaf_ok (sp_get)) (mt_leaf_ok (sp_isto)))))) (mt_node_ok (mt_node_ok (mt_node_ok (mt_leaf_ok (sp_aload)) (mt_node_ok (mt_leaf_ok (sp_iload)) (mt_leaf_ok (rfl)))) (mt_node_ok (mt_leaf_ok (sp_if)) (mt_node_ok (mt_leaf_ok (sp_aload)) (mt_leaf_ok (sp_get))))) (mt_node_ok (mt_node_ok (mt_leaf_ok (sp_push)) (mt_node_ok (mt_leaf_ok (sp_iload)) (mt_leaf_ok (rfl)))) (mt_node_ok (mt_leaf_ok (trivial)) (mt_node_ok (mt_leaf_ok (sp_iload)) (mt_leaf_ok (sp_push))))))) (mt_node_ok (mt_node_ok (mt_node_ok (mt_node_ok (mt_leaf_ok (sp_if2)) (mt_node_ok (mt_leaf_ok (sp_iload)) (mt_leaf_ok (sp_push)))) (mt_node_ok (mt_leaf_ok (sp_if2)) (mt_node_ok (mt_leaf_ok (sp_iload)) (mt_leaf_ok (sp_push))))) (mt_node_ok (mt_node_ok (mt_leaf_ok (sp_bin)) (mt_node_ok (mt_leaf_ok (sp_aload)) (mt_leaf_ok (sp_get)))) (mt_node_ok (mt_leaf_ok (sp_get)) (mt_node_ok (mt_leaf_ok (sp_get)) (mt_leaf_ok (sp_if2)))))) (mt_node_ok (mt_node_ok (mt_node_ok (mt_leaf_ok (sp_aload)) (mt_node_ok (mt_leaf_ok (sp_get)) (mt_leaf_ok (sp_push)))) (mt_node_ok (mt_leaf_ok (sp_iload)) (mt_node_ok (mt_leaf_ok (rfl)) (mt_leaf_ok (trivial))))) (mt_node_ok (mt_node_ok (mt_leaf_ok (sp_aload)) (mt_node_ok (mt_leaf_ok (sp_get)) (mt_leaf_ok (sp_get)))) (mt_node_ok (mt_leaf_ok (sp_iload)) (mt_node_ok (mt_leaf_ok (sp_iload)) (mt_leaf_ok (sp_iload)))))))
theorem sr_163_1 {g : xe_G} : mt_all (spP srS) (mb_163_1 g) := mt_node_ok (mt_node_ok (mt_node_ok (mt_node_ok (mt_leaf_ok (rfl)) (mt_node_ok (mt_leaf_ok (sp_iload)) (mt_leaf_ok (sp_sw)))) (mt_node_ok (mt_node_ok (mt_leaf_ok (sp_aload)) (mt_leaf_ok (sp_iload))) (mt_node_ok (mt_leaf_ok (rfl)) (mt_leaf_ok (trivial))))) (mt_node_ok (mt_node_ok (mt_leaf_ok (sp_aload)) (mt_node_ok (mt_leaf_ok (sp_push)) (mt_leaf_ok (rfl)))) (mt_node_ok (mt_node_ok (mt_leaf_ok (trivial)) (mt_leaf_ok (sp_aload))) (mt_node_ok (mt_leaf_ok (sp_push)) (mt_leaf_ok (rfl)))))) (mt_node_ok (mt_node_ok (mt_node_ok (mt_leaf_ok (sp_if)) (mt_node_ok (mt_leaf_ok (sp_aload)) (mt_leaf_ok (sp_push)))) (mt_node_ok (mt_node_ok (mt_leaf_ok (rfl)) (mt_leaf_ok (sp_if))) (mt_node_ok (mt_leaf_ok (sp_push)) (mt_leaf_ok (sp_goto))))) (mt_node_ok (mt_node_ok (mt_leaf_ok (sp_push)) (mt_node_ok (mt_leaf_ok (trivial)) (mt_leaf_ok (sp_aload)))) (mt_node_ok (mt_node_ok (mt_leaf_ok (sp_iload)) (mt_leaf_ok (sp_iload))) (mt_node_ok (mt_leaf_ok (rfl)) (mt_leaf_ok (trivial))))))
theorem sr_163 {g : xe_G} : mt_all (spP srS) (mb_163 g).2.1 := mt_node_ok ((sr_163_0 (g := g))) ((sr_163_1 (g := g)))
theorem sr_164_0 {g : xe_G} : mt_all (spP srS) (mb_164_0 g) := mt_node_ok (mt_node_ok (mt_node_ok (mt_node_ok (mt_leaf_ok (sp_aload)) (mt_leaf_ok (sp_push))) (mt_node_ok (mt_leaf_ok (rfl)) (mt_node_ok (mt_leaf_ok (sp_if)) (mt_leaf_ok (sp_push))))) (mt_node_ok (mt_node_ok (mt_leaf_ok (trivial)) (mt_node_ok (mt_leaf_ok (sp_aload)) (mt_leaf_ok (sp_get)))) (mt_node_ok (mt_leaf_ok (sp_aload)) (mt_node_ok (mt_leaf_ok (sp_aload)) (mt_leaf_ok (sp_get)))))) (mt_node_ok (mt_node_ok (mt_node_ok (mt_leaf_ok (rfl)) (mt_leaf_ok (sp_anew))) (mt_node_ok (mt_leaf_ok (sp_put)) (mt_node_ok (mt_leaf_ok (sp_aload)) (mt_leaf_ok (sp_aload))))) (mt_node_ok (mt_node_ok (mt_leaf_ok (sp_get)) (mt_node_ok (mt_leaf_ok (sp_get)) (mt_leaf_ok (sp_aload)))) (mt_node_ok (mt_leaf_ok (sp_get)) (mt_node_ok (mt_leaf_ok (rfl)) (mt_leaf_ok (trivial))))))
theorem sr_164 {g : xe_G} : mt_all (spP srS) (mb_164 g).2.1 := (sr_164_0 (g := g))
theorem sr_165_0 {g : xe_G} : mt_all (spP srS) (mb_165_0 g) := mt_node_ok (mt_node_ok (mt_node_ok (mt_node_ok (mt_node_ok (mt_leaf_ok (sp_aload)) (mt_node_ok (mt_leaf_ok (sp_push)) (mt_leaf_ok (rfl)))) (mt_node_ok (mt_leaf_ok (sp_if)) (mt_node_ok (mt_leaf_ok (sp_push)) (mt_leaf_ok (trivial))))) (mt_node_ok (mt_node_ok (mt_leaf_ok (sp_aload)) (mt_node_ok (mt_leaf_ok (sp_get)) (mt_leaf_ok (sp_push)))) (mt_node_ok (mt_leaf_ok (sp_if2)) (mt_node_ok (mt_leaf_ok (sp_aload)) (mt_leaf_ok (sp_get)))))) (mt_node_ok (mt_node_ok (mt_node_ok (mt_leaf_ok (sp_push)) (mt_node_ok (mt_leaf_ok (sp_push)) (mt_leaf_ok (rfl)))) (mt_node_ok (mt_leaf_ok (trivial)) (mt_node_ok (mt_leaf_ok (sp_aload)) (mt_leaf_ok (sp_push))))) (mt_node_ok (mt_node_ok (mt_leaf_ok (rfl)) (mt_node_ok (mt_leaf_ok (sp_if)) (mt_leaf_ok (sp_push)))) (mt_node_ok (mt_leaf_ok (trivial)) (mt_node_ok (mt_leaf_ok (sp_aload)) (mt_leaf_ok (sp_get))))))) (mt_node_ok (mt_node_ok (mt_node_ok (mt_node_ok (mt_leaf_ok (sp_aload)) (mt_node_ok (mt_leaf_ok (sp_get)) (mt_leaf_ok (sp_put)))) (mt_node_ok (mt_leaf_ok (sp_aload)) (mt_node_ok (mt_leaf_ok (sp_push)) (mt_leaf_ok (rfl))))) (mt_node_ok (mt_node_ok (mt_leaf_ok (sp_if)) (mt_node_ok (mt_leaf_ok (sp_push)) (mt_leaf_ok (trivial)))) (mt_node_ok (mt_leaf_ok (sp_aload)) (mt_node_ok (mt_leaf_ok (sp_get)) (mt_leaf_ok (sp_aload)))))) (mt_node_ok (mt_node_ok (mt_node_ok (mt_leaf_ok (sp_get)) (mt_node_ok (mt_leaf_ok (sp_put)) (mt_leaf_ok (sp_aload)))) (mt_node_ok (mt_leaf_ok (sp_get)) (mt_node_ok (mt_leaf_ok (sp_push)) (mt_leaf_ok (sp_if2))))) (mt_node_ok (mt_node_ok (mt_leaf_ok (sp_aload)) (mt_node_ok (mt_leaf_ok (sp_get)) (mt_leaf_ok (sp_push)))) (mt_node_ok (mt_leaf_ok (sp_if2)) (mt_node_ok (mt_leaf_ok (sp_aload)) (mt_leaf_ok (sp_get)))))))
theorem sr_165_1 {g : xe_G} : mt_all (spP srS) (mb_165_1 g) := mt_node_ok (mt_node_ok (mt_node_ok (mt_leaf_ok (sp_push)) (mt_node_ok (mt_leaf_ok (sp_if2)) (mt_leaf_ok (sp_aload)))) (mt_node_ok (mt_node_ok (mt_leaf_ok (sp_get)) (mt_leaf_ok (sp_get))) (mt_node_ok (mt_leaf_ok (sp_if)) (mt_leaf_ok (sp_aload))))) (mt_node_ok (mt_node_ok (mt_leaf_ok (sp_get)) (mt_node_ok (mt_leaf_ok (sp_push)) (mt_leaf_ok (sp_push)))) (mt_node_ok (mt_node_ok (mt_leaf_ok (rfl)) (mt_leaf_ok (trivial))) (mt_node_ok (mt_leaf_ok (sp_push)) (mt_leaf_ok (trivial)))))
theorem sr_165 {g : xe_G} : mt_all (spP srS) (mb_165 g).2.1 := mt_node_ok ((sr_165_0 (g := g))) ((sr_165_1 (g := g)))
theorem sr_166_0 {g : xe_G} : mt_all (spP srS) (mb_166_0 g) := mt_node_ok (mt_node_ok (mt_node_ok (mt_node_ok (mt_node_ok (mt_leaf_ok (sp_aload)) (mt_node_ok (mt_leaf_ok (sp_iload)) (mt_leaf_ok (sp_push)))) (mt_node_ok (mt_leaf_ok (sp_if2)) (mt_node_ok (mt_leaf_ok (sp_push)) (mt_leaf_ok (sp_goto))))) (mt_node_ok (mt_node_ok (mt_leaf_ok (sp_push)) (mt_node_ok (mt_leaf_ok (rfl)) (mt_leaf_ok (sp_if)))) (mt_node_ok (mt_leaf_ok (sp_push)) (mt_node_ok (mt_leaf_ok (trivial)) (mt_leaf_ok (sp_aload)))))) (mt_node_ok (mt_node_ok (mt_node_ok (mt_leaf_ok (sp_get)) (mt_node_ok (mt_leaf_ok (sp_isto)) (mt_leaf_ok (sp_push)))) (mt_node_ok (mt_leaf_ok (sp_isto)) (mt_node_ok (mt_leaf_ok (sp_iload)) (mt_leaf_ok (sp_push))))) (mt_node_ok (mt_node_ok (mt_leaf_ok (sp_if2)) (mt_node_ok (mt_leaf_ok (sp_iload)) (mt_leaf_ok (sp_push)))) (mt_node_ok (mt_leaf_ok (sp_if2)) (mt_node_ok (mt_leaf_ok (sp_iload)) (mt_leaf_ok (sp_push))))))) (mt_node_ok (mt_node_ok (mt_node_ok (mt_node_ok (mt_leaf_ok (sp_if2)) (mt_node_ok (mt_leaf_ok (sp_iload)) (mt_leaf_ok (sp_push)))) (mt_node_ok (mt_leaf_ok (sp_if2)) (mt_node_ok (mt_leaf_ok (sp_iload)) (mt_leaf_ok (sp_push))))) (mt_node_ok (mt_node_ok (mt_leaf_ok (sp_if2)) (mt_node_ok (mt_leaf_ok (sp_aload)) (mt_leaf_ok (sp_push)))) (mt_node_ok (mt_leaf_ok (rfl)) (mt_node_ok (mt_leaf_ok (sp_if)) (mt_leaf_ok (sp_push)))))) (mt_node_ok (mt_node_ok (mt_node_ok (mt_leaf_ok (trivial)) (mt_node_ok (mt_leaf_ok (sp_aload)) (mt_leaf_ok (sp_get)))) (mt_node_ok (mt_leaf_ok (sp_isto)) (mt_node_ok (mt_leaf_ok (sp_aload)) (mt_leaf_ok (sp_get))))) (mt_node_ok (mt_node_ok (mt_leaf_ok (sp_get)) (mt_node_ok (mt_leaf_ok (sp_iload)) (mt_leaf_ok (sp_iload)))) (mt_node_ok (mt_leaf_ok (sp_iload)) (mt_node_ok (mt_leaf_ok (rfl)) (mt_leaf_ok (sp_push)))))))
theorem sr_166_1 {g : xe_G} : mt_all (spP srS) (mb_166_1 g) := mt_leaf_ok (trivial)
theorem sr_166 {g : xe_G} : mt_all (spP srS) (mb_166 g).2.1 := mt_node_ok ((sr_166_0 (g := g))) ((sr_166_1 (g := g)))
theorem sr_167_0 {g : xe_G} : mt_all (spP srS) (mb_167_0 g) := mt_node_ok (mt_node_ok (mt_node_ok (mt_node_ok (mt_node_ok (mt_leaf_ok (sp_push)) (mt_leaf_ok (sp_isto))) (mt_node_ok (mt_leaf_ok (sp_iload)) (mt_node_ok (mt_leaf_ok (sp_iload)) (mt_leaf_ok (sp_if2))))) (mt_node_ok (mt_node_ok (mt_leaf_ok (sp_aload)) (mt_leaf_ok (sp_get))) (mt_node_ok (mt_leaf_ok (sp_isto)) (mt_node_ok (mt_leaf_ok (sp_aload)) (mt_leaf_ok (sp_push)))))) (mt_node_ok (mt_node_ok (mt_node_ok (mt_leaf_ok (rfl)) (mt_leaf_ok (sp_if))) (mt_node_ok (mt_leaf_ok (sp_aload)) (mt_node_ok (mt_leaf_ok (sp_push)) (mt_leaf_ok (rfl))))) (mt_node_ok (mt_node_ok (mt_leaf_ok (sp_if)) (mt_node_ok (mt_leaf_ok (sp_aload)) (mt_leaf_ok (sp_push)))) (mt_node_ok (mt_leaf_ok (rfl)) (mt_node_ok (mt_leaf_ok (sp_if)) (mt_leaf_ok (sp_aload))))))) (mt_node_ok (mt_node_ok (mt_node_ok (mt_node_ok (mt_leaf_ok (rfl)) (mt_leaf_ok (sp_if))) (mt_node_ok (mt_leaf_ok (sp_push)) (mt_node_ok (mt_leaf_ok (trivial)) (mt_leaf_ok (sp_iload))))) (mt_node_ok (mt_node_ok (mt_leaf_ok (sp_aload)) (mt_leaf_ok (sp_alen))) (mt_node_ok (mt_leaf_ok (sp_if2)) (mt_node_ok (mt_leaf_ok (sp_aload)) (mt_leaf_ok (sp_iload)))))) (mt_node_ok (mt_node_ok (mt_node_ok (mt_leaf_ok (sp_new)) (mt_leaf_ok (sp_dup))) (mt_node_ok (mt_leaf_ok (sp_aload)) (mt_node_ok (mt_leaf_ok (sp_get)) (mt_leaf_ok (sp_iload))))) (mt_node_ok (mt_node_ok (mt_leaf_ok (rfl)) (mt_node_ok (mt_leaf_ok (sp_aast)) (mt_leaf_ok (sp_iinc)))) (mt_node_ok (mt_leaf_ok (sp_goto)) (mt_node_ok (mt_leaf_ok (sp_push)) (mt_leaf_ok (trivial)))))))
theorem sr_167 {g : xe_G} : mt_all (spP srS) (mb_167 g).2.1 := (sr_167_0 (g := g))
theorem sr_168_0 {g : xe_G} : mt_all (spP srS) (mb_168_0 g) := mt_node_ok (mt_node_ok (mt_node_ok (mt_node_ok (mt_leaf_ok (sp_aload)) (mt_leaf_ok (sp_push))) (mt_node_ok (mt_leaf_ok (rfl)) (mt_node_ok (mt_leaf_ok (sp_if)) (mt_leaf_ok (sp_push))))) (mt_node_ok (mt_node_ok (mt_leaf_ok (trivial)) (mt_node_ok (mt_leaf_ok (sp_aload)) (mt_leaf_ok (sp_get)))) (mt_node_ok (mt_leaf_ok (sp_aload)) (mt_node_ok (mt_leaf_ok (sp_aload)) (mt_leaf_ok (sp_get)))))) (mt_node_ok (mt_node_ok (mt_node_ok (mt_leaf_ok (rfl)) (mt_leaf_ok (sp_anew))) (mt_node_ok (mt_leaf_ok (sp_put)) (mt_node_ok (mt_leaf_ok (sp_aload)) (mt_leaf_ok (sp_aload))))) (mt_node_ok (mt_node_ok (mt_leaf_ok (sp_get)) (mt_node_ok (mt_leaf_ok (sp_get)) (mt_leaf_ok (sp_aload)))) (mt_node_ok (mt_leaf_ok (sp_get)) (mt_node_ok (mt_leaf_ok (rfl)) (mt_leaf_ok (trivial))))))
theorem sr_168 {g : xe_G} : mt_all (spP srS) (mb_168 g).2.1 := (sr_168_0 (g := g))
theorem sr_169_0 {g : xe_G} : mt_all (spP srS) (mb_169_0 g) := mt_node_ok (mt_node_ok (mt_node_ok (mt_node_ok (mt_node_ok (mt_leaf_ok (sp_aload)) (mt_node_ok (mt_leaf_ok (sp_get)) (mt_leaf_ok (sp_isto)))) (mt_node_ok (mt_leaf_ok (sp_aload)) (mt_node_ok (mt_leaf_ok (sp_push)) (mt_leaf_ok (rfl))))) (mt_node_ok (mt_node_ok (mt_leaf_ok (sp_if)) (mt_node_ok (mt_leaf_ok (sp_push)) (mt_leaf_ok (trivial)))) (mt_node_ok (mt_leaf_ok (sp_aload)) (mt_node_ok (mt_leaf_ok (sp_get)) (mt_leaf_ok (sp_if)))))) (mt_node_ok (mt_node_ok (mt_node_ok (mt_leaf_ok (sp_aload)) (mt_node_ok (mt_leaf_ok (sp_get)) (mt_leaf_ok (sp_push)))) (mt_node_ok (mt_leaf_ok (sp_iload)) (mt_node_ok (mt_leaf_ok (rfl)) (mt_leaf_ok (trivial))))) (mt_node_ok (mt_node_ok (mt_leaf_ok (sp_new)) (mt_node_ok (mt_leaf_ok (sp_dup)) (mt_leaf_ok (sp_aload)))) (mt_node_ok (mt_leaf_ok (sp_get)) (mt_node_ok (mt_leaf_ok (sp_aload)) (mt_leaf_ok (sp_get))))))) (mt_node_ok (mt_node_ok (mt_node_ok (mt_node_ok (mt_leaf_ok (rfl)) (mt_node_ok (mt_leaf_ok (rfl)) (mt_leaf_ok (sp_asto)))) (mt_node_ok (mt_leaf_ok (sp_aload)) (mt_node_ok (mt_leaf_ok (sp_get)) (mt_leaf_ok (sp_aload))))) (mt_node_ok (mt_node_ok (mt_leaf_ok (sp_put)) (mt_node_ok (mt_leaf_ok (sp_push)) (mt_leaf_ok (sp_isto)))) (mt_node_ok (mt_leaf_ok (sp_iload)) (mt_node_ok (mt_leaf_ok (sp_aload)) (mt_leaf_ok (sp_get)))))) (mt_node_ok (mt_node_ok (mt_node_ok (mt_leaf_ok (sp_if2)) (mt_node_ok (mt_leaf_ok (sp_aload)) (mt_leaf_ok (sp_iload)))) (mt_node_ok (mt_leaf_ok (rfl)) (mt_node_ok (mt_leaf_ok (sp_if)) (mt_leaf_ok (sp_push))))) (mt_node_ok (mt_node_ok (mt_leaf_ok (trivial)) (mt_node_ok (mt_leaf_ok (sp_iload)) (mt_leaf_ok (sp_aload)))) (mt_node_ok (mt_leaf_ok (sp_iload)) (mt_node_ok (mt_leaf_ok (rfl)) (mt_leaf_ok (sp_if)))))))
theorem sr_169_1 {g : xe_G} : mt_all (spP srS) (mb_169_1 g) := mt_node_ok (mt_node_ok (mt_node_ok (mt_leaf_ok (sp_push)) (mt_leaf_ok (sp_goto))) (mt_node_ok (mt_leaf_ok (sp_push)) (mt_leaf_ok (sp_bin)))) (mt_node_ok (mt_node_ok (mt_leaf_ok (sp_isto)) (mt_leaf_ok (sp_goto))) (mt_node_ok (mt_leaf_ok (sp_push)) (mt_leaf_ok (trivial))))
theorem sr_169 {g : xe_G} : mt_all (spP srS) (mb_169 g).2.1 := mt_node_ok ((sr_169_0 (g := g))) ((sr_169_1 (g := g)))
theorem sr_170_0 {g : xe_G} : mt_all (spP srS) (mb_170_0 g) := mt_node_ok (mt_node_ok (mt_node_ok (mt_node_ok (mt_node_ok (mt_leaf_ok (sp_aload)) (mt_node_ok (mt_leaf_ok (sp_push)) (mt_leaf_ok (rfl)))) (mt_node_ok (mt_leaf_ok (sp_if)) (mt_node_ok (mt_leaf_ok (sp_push)) (mt_leaf_ok (trivial))))) (mt_node_ok (mt_node_ok (mt_leaf_ok (sp_aload)) (mt_node_ok (mt_leaf_ok (sp_get)) (mt_leaf_ok (sp_aload)))) (mt_node_ok (mt_leaf_ok (sp_get)) (mt_node_ok (mt_leaf_ok (rfl)) (mt_leaf_ok (sp_aload)))))) (mt_node_ok (mt_node_ok (mt_node_ok (mt_leaf_ok (sp_get)) (mt_node_ok (mt_leaf_ok (sp_bin)) (mt_leaf_ok (sp_if2)))) (mt_node_ok (mt_leaf_ok (sp_aload)) (mt_node_ok (mt_leaf_ok (sp_get)) (mt_leaf_ok (sp_push))))) (mt_node_ok (mt_node_ok (mt_leaf_ok (sp_aload)) (mt_node_ok (mt_leaf_ok (sp_get)) (mt_leaf_ok (rfl)))) (mt_node_ok (mt_leaf_ok (trivial)) (mt_node_ok (mt_leaf_ok (sp_aload)) (mt_leaf_ok (sp_get))))))) (mt_node_ok (mt_node_ok (mt_node_ok (mt_node_ok (mt_leaf_ok (sp_aload)) (mt_node_ok (mt_leaf_ok (sp_get)) (mt_leaf_ok (sp_bin)))) (mt_node_ok (mt_leaf_ok (sp_isto)) (mt_node_ok (mt_leaf_ok (sp_aload)) (mt_leaf_ok (sp_get))))) (mt_node_ok (mt_node_ok (mt_leaf_ok (sp_get)) (mt_node_ok (mt_leaf_ok (sp_get)) (mt_leaf_ok (sp_isto)))) (mt_node_ok (mt_leaf_ok (sp_aload)) (mt_node_ok (mt_leaf_ok (sp_get)) (mt_leaf_ok (sp_iload)))))) (mt_node_ok (mt_node_ok (mt_node_ok (mt_leaf_ok (sp_if2)) (mt_node_ok (mt_leaf_ok (sp_aload)) (mt_leaf_ok (sp_iload)))) (mt_node_ok (mt_leaf_ok (rfl)) (mt_node_ok (mt_leaf_ok (sp_isto)) (mt_leaf_ok (sp_iload))))) (mt_node_ok (mt_node_ok (mt_leaf_ok (sp_push)) (mt_node_ok (mt_leaf_ok (sp_if2)) (mt_leaf_ok (sp_aload)))) (mt_node_ok (mt_leaf_ok (sp_get)) (mt_node_ok (mt_leaf_ok (sp_push)) (mt_leaf_ok (sp_aload)))))))
theorem sr_170_1 {g : xe_G} : mt_all (spP srS) (mb_170_1 g) := mt_node_ok (mt_node_ok (mt_node_ok (mt_node_ok (mt_leaf_ok (sp_get)) (mt_node_ok (mt_leaf_ok (rfl)) (mt_leaf_ok (trivial)))) (mt_node_ok (mt_node_ok (mt_leaf_ok (sp_aload)) (mt_leaf_ok (sp_get))) (mt_node_ok (mt_leaf_ok (sp_get)) (mt_leaf_ok (sp_aload))))) (mt_node_ok (mt_node_ok (mt_node_ok (mt_leaf_ok (sp_iload)) (mt_leaf_ok (rfl))) (mt_node_ok (mt_leaf_ok (rfl)) (mt_leaf_ok (sp_aload)))) (mt_node_ok (mt_node_ok (mt_leaf_ok (sp_dup)) (mt_leaf_ok (sp_get))) (mt_node_ok (mt_leaf_ok (sp_iload)) (mt_leaf_ok (sp_bin)))))) (mt_node_ok (mt_node_ok (mt_node_ok (mt_node_ok (mt_leaf_ok (sp_put)) (mt_leaf_ok (sp_goto))) (mt_node_ok (mt_leaf_ok (sp_aload)) (mt_leaf_ok (sp_get)))) (mt_node_ok (mt_node_ok (mt_leaf_ok (sp_get)) (mt_leaf_ok (sp_iload))) (mt_node_ok (mt_leaf_ok (sp_iload)) (mt_leaf_ok (sp_aload))))) (mt_node_ok (mt_node_ok (mt_node_ok (mt_leaf_ok (sp_get)) (mt_leaf_ok (sp_get))) (mt_node_ok (mt_leaf_ok (sp_get)) (mt_leaf_ok (sp_iload)))) (mt_node_ok (mt_node_ok (mt_leaf_ok (sp_bin)) (mt_leaf_ok (rfl))) (mt_node_ok (mt_leaf_ok (sp_push)) (mt_leaf_ok (trivial))))))
theorem sr_170 {g : xe_G} : mt_all (spP srS) (mb_170 g).2.1 := mt_node_ok ((sr_170_0 (g := g))) ((sr_170_1 (g := g)))
theorem sr_171_0 {g : xe_G} : mt_all (spP srS) (mb_171_0 g) := mt_node_ok (mt_node_ok (mt_leaf_ok (sp_aload)) (mt_node_ok (mt_leaf_ok (sp_drop)) (mt_leaf_ok (sp_aload)))) (mt_node_ok (mt_leaf_ok (sp_push)) (mt_node_ok (mt_leaf_ok (sp_put)) (mt_leaf_ok (trivial))))
theorem sr_171 {g : xe_G} : mt_all (spP srS) (mb_171 g).2.1 := (sr_171_0 (g := g))
theorem sr_172_0 {g : xe_G} : mt_all (spP srS) (mb_172_0 g) := mt_node_ok (mt_node_ok (mt_node_ok (mt_leaf_ok (sp_aload)) (mt_leaf_ok (sp_iload))) (mt_node_ok (mt_leaf_ok (sp_put)) (mt_leaf_ok (sp_aload)))) (mt_node_ok (mt_node_ok (mt_leaf_ok (sp_iload)) (mt_leaf_ok (sp_put))) (mt_node_ok (mt_leaf_ok (sp_push)) (mt_leaf_ok (trivial))))
theorem sr_172 {g : xe_G} : mt_all (spP srS) (mb_172 g).2.1 := (sr_172_0 (g := g))
theorem sr_258_0 {g : xe_G} : mt_all (spP srS) (mb_258_0 g) := mt_node_ok (mt_node_ok (mt_node_ok (mt_node_ok (mt_node_ok (mt_leaf_ok (sp_iload)) (mt_leaf_ok (sp_iload))) (mt_node_ok (mt_leaf_ok (sp_push)) (mt_node_ok (mt_leaf_ok (sp_bin)) (mt_leaf_ok (sp_push))))) (mt_node_ok (mt_node_ok (mt_leaf_ok (sp_bin)) (mt_leaf_ok (sp_bin))) (mt_node_ok (mt_leaf_ok (sp_isto)) (mt_node_ok (mt_leaf_ok (sp_iload)) (mt_leaf_ok (sp_push)))))) (mt_node_ok (mt_node_ok (mt_node_ok (mt_leaf_ok (sp_bin)) (mt_leaf_ok (sp_iload))) (mt_node_ok (mt_leaf_ok (sp_push)) (mt_node_ok (mt_leaf_ok (sp_bin)) (mt_leaf_ok (sp_push))))) (mt_node_ok (mt_node_ok (mt_leaf_ok (sp_bin)) (mt_node_ok (mt_leaf_ok (sp_bin)) (mt_leaf_ok (sp_isto)))) (mt_node_ok (mt_leaf_ok (sp_iload)) (mt_node_ok (mt_leaf_ok (sp_iload)) (mt_leaf_ok (sp_push))))))) (mt_node_ok (mt_node_ok (mt_node_ok (mt_node_ok (mt_leaf_ok (sp_bin)) (mt_leaf_ok (sp_bin))) (mt_node_ok (mt_leaf_ok (sp_push)) (mt_node_ok (mt_leaf_ok (sp_bin)) (mt_leaf_ok (sp_isto))))) (mt_node_ok (mt_node_ok (mt_leaf_ok (sp_iload)) (mt_leaf_ok (sp_iload))) (mt_node_ok (mt_leaf_ok (sp_push)) (mt_node_ok (mt_leaf_ok (sp_bin)) (mt_leaf_ok (sp_bin)))))) (mt_node_ok (mt_node_ok (mt_node_ok (mt_leaf_ok (sp_isto)) (mt_leaf_ok (sp_iload))) (mt_node_ok (mt_leaf_ok (sp_iload)) (mt_node_ok (mt_leaf_ok (sp_push)) (mt_leaf_ok (sp_bin))))) (mt_node_ok (mt_node_ok (mt_leaf_ok (sp_bin)) (mt_node_ok (mt_leaf_ok (sp_isto)) (mt_leaf_ok (sp_iload)))) (mt_node_ok (mt_leaf_ok (sp_push)) (mt_node_ok (mt_leaf_ok (sp_bin)) (mt_leaf_ok (trivial)))))))
theorem sr_258 {g : xe_G} : mt_all (spP srS) (mb_258 g).2.1 := (sr_258_0 (g := g))
theorem sr_all {g : xe_G} : ∀ y b, srS.elem y = true → mT g y = some b → mt_all (spP srS) b.2.1 := by
  intro y b hy hb
  have hy : y ∈ srS := by simpa using hy
  simp only [srS, List.mem_cons, List.not_mem_nil, or_false] at hy
  rcases hy with rfl | rfl | rfl | rfl | rfl | rfl | rfl | rfl | rfl | rfl | rfl | rfl | rfl | rfl | rfl | rfl | rfl | rfl | rfl | rfl | rfl | rfl | rfl | rfl | rfl | rfl | rfl | rfl | rfl | rfl | rfl | rfl | rfl | rfl | rfl | rfl | rfl | rfl | rfl | rfl | rfl | rfl | rfl | rfl | rfl | rfl | rfl | rfl | rfl | rfl | rfl | rfl | rfl | rfl | rfl | rfl | rfl | rfl | rfl | rfl | rfl | rfl | rfl | rfl | rfl | rfl | rfl | rfl | rfl | rfl | rfl | rfl | rfl | rfl | rfl | rfl | rfl | rfl | rfl | rfl | rfl | rfl | rfl | rfl | rfl | rfl | rfl | rfl | rfl | rfl | rfl | rfl | rfl | rfl | rfl | rfl | rfl | rfl | rfl | rfl | rfl | rfl | rfl | rfl | rfl | rfl | rfl | rfl | rfl | rfl | rfl | rfl | rfl | rfl | rfl | rfl | rfl | rfl
  · cases (show some (mb_11 g) = some b from hb)
    exact sr_11 (g := g)
  · cases (show some (mb_13 g) = some b from hb)
    exact sr_13 (g := g)
  · cases (show some (mb_18 g) = some b from hb)
    exact sr_18 (g := g)
  · cases (show some (mb_21 g) = some b from hb)
    exact sr_21 (g := g)
  · cases (show some (mb_22 g) = some b from hb)
    exact sr_22 (g := g)
  · cases (show some (mb_23 g) = some b from hb)
    exact sr_23 (g := g)
  · cases (show some (mb_24 g) = some b from hb)
    exact sr_24 (g := g)
  · cases (show some (mb_25 g) = some b from hb)
    exact sr_25 (g := g)
  · cases (show some (mb_26 g) = some b from hb)
    exact sr_26 (g := g)
  · cases (show some (mb_27 g) = some b from hb)
    exact sr_27 (g := g)
  · cases (show some (mb_28 g) = some b from hb)
    exact sr_28 (g := g)
  · cases (show some (mb_29 g) = some b from hb)
    exact sr_29 (g := g)
  · cases (show some (mb_30 g) = some b from hb)
    exact sr_30 (g := g)
  · cases (show some (mb_31 g) = some b from hb)
    exact sr_31 (g := g)
  · cases (show some (mb_32 g) = some b from hb)
    exact sr_32 (g := g)
  · cases (show some (mb_33 g) = some b from hb)
    exact sr_33 (g := g)
  · cases (show some (mb_34 g) = some b from hb)
    exact sr_34 (g := g)
  · cases (show some (mb_35 g) = some b from hb)
    exact sr_35 (g := g)
  · cases (show some (mb_36 g) = some b from hb)
    exact sr_36 (g := g)
  · cases (show some (mb_37 g) = some b from hb)
    exact sr_37 (g := g)
  · cases (show some (mb_38 g) = some b from hb)
    exact sr_38 (g := g)
  · cases (show some (mb_39 g) = some b from hb)
    exact sr_39 (g := g)
  · cases (show some (mb_40 g) = some b from hb)
    exact sr_40 (g := g)
  · cases (show some (mb_41 g) = some b from hb)
    exact sr_41 (g := g)
  · cases (show some (mb_42 g) = some b from hb)
    exact sr_42 (g := g)
  · cases (show some (mb_43 g) = some b from hb)
    exact sr_43 (g := g)
  · cases (show some (mb_44 g) = some b from hb)
    exact sr_44 (g := g)
  · cases (show some (mb_45 g) = some b from hb)
    exact sr_45 (g := g)
  · cases (show some (mb_46 g) = some b from hb)
    exact sr_46 (g := g)
  · cases (show some (mb_47 g) = some b from hb)
    exact sr_47 (g := g)
  · cases (show some (mb_48 g) = some b from hb)
    exact sr_48 (g := g)
  · cases (show some (mb_49 g) = some b from hb)
    exact sr_49 (g := g)
  · cases (show some (mb_50 g) = some b from hb)
    exact sr_50 (g := g)
  · cases (show some (mb_51 g) = some b from hb)
    exact sr_51 (g := g)
  · cases (show some (mb_52 g) = some b from hb)
    exact sr_52 (g := g)
  · cases (show some (mb_53 g) = some b from hb)
    exact sr_53 (g := g)
  · cases (show some (mb_54 g) = some b from hb)
    exact sr_54 (g := g)
  · cases (show some (mb_55 g) = some b from hb)
    exact sr_55 (g := g)
  · cases (show some (mb_56 g) = some b from hb)
    exact sr_56 (g := g)
  · cases (show some (mb_57 g) = some b from hb)
    exact sr_57 (g := g)
  · cases (show some (mb_58 g) = some b from hb)
    exact sr_58 (g := g)
  · cases (show some (mb_59 g) = some b from hb)
    exact sr_59 (g := g)
  · cases (show some (mb_60 g) = some b from hb)
    exact sr_60 (g := g)
  · cases (show some (mb_61 g) = some b from hb)
    exact sr_61 (g := g)
  · cases (show some (mb_62 g) = some b from hb)
    exact sr_62 (g := g)
  · cases (show some (mb_63 g) = some b from hb)
    exact sr_63 (g := g)
  · cases (show some (mb_64 g) = some b from hb)
    exact sr_64 (g := g)
  · cases (show some (mb_65 g) = some b from hb)
    exact sr_65 (g := g)
  · cases (show some (mb_66 g) = some b from hb)
    exact sr_66 (g := g)
  · cases (show some (mb_67 g) = some b from hb)
    exact sr_67 (g := g)
  · cases (show some (mb_68 g) = some b from hb)
    exact sr_68 (g := g)
  · cases (show some (mb_71 g) = some b from hb)
    exact sr_71 (g := g)
  · cases (show some (mb_74 g) = some b from hb)
    exact sr_74 (g := g)
  · cases (show some (mb_86 g) = some b from hb)
    exact sr_86 (g := g)
  · cases (show some (mb_106 g) = some b from hb)
    exact sr_106 (g := g)
  · cases (show some (mb_108 g) = some b from hb)
    exact sr_108 (g := g)
  · cases (show some (mb_110 g) = some b from hb)
    exact sr_110 (g := g)
  · cases (show some (mb_111 g) = some b from hb)
    exact sr_111 (g := g)
  · cases (show some (mb_112 g) = some b from hb)
    exact sr_112 (g := g)
  · cases (show some (mb_113 g) = some b from hb)
    exact sr_113 (g := g)
  · cases (show some (mb_114 g) = some b from hb)
    exact sr_114 (g := g)
  · cases (show some (mb_115 g) = some b from hb)
    exact sr_115 (g := g)
  · cases (show some (mb_117 g) = some b from hb)
    exact sr_117 (g := g)
  · cases (show some (mb_118 g) = some b from hb)
    exact sr_118 (g := g)
  · cases (show some (mb_119 g) = some b from hb)
    exact sr_119 (g := g)
  · cases (show some (mb_120 g) = some b from hb)
    exact sr_120 (g := g)
  · cases (show some (mb_121 g) = some b from hb)
    exact sr_121 (g := g)
  · cases (show some (mb_122 g) = some b from hb)
    exact sr_122 (g := g)
  · cases (show some (mb_123 g) = some b from hb)
    exact sr_123 (g := g)
  · cases (show some (mb_124 g) = some b from hb)
    exact sr_124 (g := g)
  · cases (show some (mb_125 g) = some b from hb)
    exact sr_125 (g := g)
  · cases (show some (mb_126 g) = some b from hb)
    exact sr_126 (g := g)
  · cases (show some (mb_127 g) = some b from hb)
    exact sr_127 (g := g)
  · cases (show some (mb_128 g) = some b from hb)
    exact sr_128 (g := g)
  · cases (show some (mb_129 g) = some b from hb)
    exact sr_129 (g := g)
  · cases (show some (mb_130 g) = some b from hb)
    exact sr_130 (g := g)
  · cases (show some (mb_132 g) = some b from hb)
    exact sr_132 (g := g)
  · cases (show some (mb_133 g) = some b from hb)
    exact sr_133 (g := g)
  · cases (show some (mb_134 g) = some b from hb)
    exact sr_134 (g := g)
  · cases (show some (mb_135 g) = some b from hb)
    exact sr_135 (g := g)
  · cases (show some (mb_136 g) = some b from hb)
    exact sr_136 (g := g)
  · cases (show some (mb_137 g) = some b from hb)
    exact sr_137 (g := g)
  · cases (show some (mb_138 g) = some b from hb)
    exact sr_138 (g := g)
  · cases (show some (mb_139 g) = some b from hb)
    exact sr_139 (g := g)
  · cases (show some (mb_140 g) = some b from hb)
    exact sr_140 (g := g)
  · cases (show some (mb_141 g) = some b from hb)
    exact sr_141 (g := g)
  · cases (show some (mb_142 g) = some b from hb)
    exact sr_142 (g := g)
  · cases (show some (mb_143 g) = some b from hb)
    exact sr_143 (g := g)
  · cases (show some (mb_144 g) = some b from hb)
    exact sr_144 (g := g)
  · cases (show some (mb_145 g) = some b from hb)
    exact sr_145 (g := g)
  · cases (show some (mb_146 g) = some b from hb)
    exact sr_146 (g := g)
  · cases (show some (mb_147 g) = some b from hb)
    exact sr_147 (g := g)
  · cases (show some (mb_148 g) = some b from hb)
    exact sr_148 (g := g)
  · cases (show some (mb_149 g) = some b from hb)
    exact sr_149 (g := g)
  · cases (show some (mb_150 g) = some b from hb)
    exact sr_150 (g := g)
  · cases (show some (mb_151 g) = some b from hb)
    exact sr_151 (g := g)
  · cases (show some (mb_152 g) = some b from hb)
    exact sr_152 (g := g)
  · cases (show some (mb_153 g) = some b from hb)
    exact sr_153 (g := g)
  · cases (show some (mb_154 g) = some b from hb)
    exact sr_154 (g := g)
  · cases (show some (mb_155 g) = some b from hb)
    exact sr_155 (g := g)
  · cases (show some (mb_156 g) = some b from hb)
    exact sr_156 (g := g)
  · cases (show some (mb_157 g) = some b from hb)
    exact sr_157 (g := g)
  · cases (show some (mb_158 g) = some b from hb)
    exact sr_158 (g := g)
  · cases (show some (mb_159 g) = some b from hb)
    exact sr_159 (g := g)
  · cases (show some (mb_160 g) = some b from hb)
    exact sr_160 (g := g)
  · cases (show some (mb_161 g) = some b from hb)
    exact sr_161 (g := g)
  · cases (show some (mb_162 g) = some b from hb)
    exact sr_162 (g := g)
  · cases (show some (mb_163 g) = some b from hb)
    exact sr_163 (g := g)
  · cases (show some (mb_164 g) = some b from hb)
    exact sr_164 (g := g)
  · cases (show some (mb_165 g) = some b from hb)
    exact sr_165 (g := g)
  · cases (show some (mb_166 g) = some b from hb)
    exact sr_166 (g := g)
  · cases (show some (mb_167 g) = some b from hb)
    exact sr_167 (g := g)
  · cases (show some (mb_168 g) = some b from hb)
    exact sr_168 (g := g)
  · cases (show some (mb_169 g) = some b from hb)
    exact sr_169 (g := g)
  · cases (show some (mb_170 g) = some b from hb)
    exact sr_170 (g := g)
  · cases (show some (mb_171 g) = some b from hb)
    exact sr_171 (g := g)
  · cases (show some (mb_172 g) = some b from hb)
    exact sr_172 (g := g)
  · cases (show some (mb_258 g) = some b from hb)
    exact sr_258 (g := g)
end SPA
end
