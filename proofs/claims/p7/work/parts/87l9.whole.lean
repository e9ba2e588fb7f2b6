/-! the whole file as the reference checks it (my own text) -/
section WMA
variable {f : Nat → Int32} {n : Nat} {E : List (Nat × Nat)}
theorem whole_in {p1 pF pM pA : Nat} (h : s_whole f n = .inr (E, p1, pF, pM, pA)) : s_pool f n (by2 f 6) = .inr (p1, E) := by
  unfold s_whole at h
  split at h
  · cases h
  · cases hp : s_pool f n (by2 f 6) with
    | inl e => rw [hp] at h; cases h
    | inr y =>
      obtain ⟨a, b⟩ := y
      rw [hp] at h
      dsimp only at h
      cases hc : s_class f n a with
      | inl e => rw [hc] at h; cases h
      | inr pF' =>
        rw [hc] at h
        dsimp only at h
        cases hf : s_mbs f n pF' with
        | inl e => rw [hf] at h; cases h
        | inr pM' =>
          rw [hf] at h
          dsimp only at h
          cases hm : s_mbs f n pM' with
          | inl e => rw [hm] at h; cases h
          | inr pA' =>
            rw [hm] at h
            dsimp only at h
            cases he : s_end f n pA' with
            | some e => rw [he] at h; cases h
            | none =>
              rw [he] at h
              cases h
              rfl
/-- an entry lies well in the file -/
def ep1 (f : Nat → Int32) (n p : Nat) : Prop := p + 1 ≤ n ∧ (by1 f p = 15 → p + 4 ≤ n) ∧ (7 ≤ by1 f p → p + 3 ≤ n) ∧ (7 ≤ by1 f p ∧ ¬ (by1 f p = 15 ∨ by1 f p = 7 ∨ by1 f p = 8 ∨ by1 f p = 16 ∨ by1 f p = 19 ∨ by1 f p = 20) → p + 5 ≤ n) ∧ ¬ by1 f p = 0
theorem ent_ok {mj N k p : Nat} {y : Nat × ((List Nat) ⊕ (Option (Nat × Nat)))} (h : s_entry f n mj N k p = .inr y) : ep1 f n p := by
  unfold s_entry at h
  split at h
  · cases h
  · rename_i h0
    split at h
    · cases h
    · rename_i hT
      have h00 : ¬ by1 f p = 0 := fun e => hT (by rw [e]; unfold tgOk; omega)
      split at h
      · cases h
      · split at h
        · unfold ep1; omega
        · split at h
          · unfold ep1; omega
          · split at h
            · unfold ep1; omega
            · cases he : s_ix f n (by1 f p) (p + 1) with
              | inl e => rw [he] at h; cases h
              | inr z =>
                clear h
                unfold s_ix at he
                unfold ep1
                split at he
                · split at he
                  · cases he
                  · split at he
                    · cases he
                    · omega
                · split at he
                  · cases he
                  · split at he
                    · omega
                    · split at he
                      · cases he
                      · omega
theorem ents_ok {mj N : Nat} : ∀ {r k p p' : Nat} {E0 E : List (Nat × Nat)}, (∀ q ∈ E0, ep1 f n q.2) → s_ents f n mj N r k p E0 = .inr (p', E) → ∀ q ∈ E, ep1 f n q.2 := by
  intro r
  induction r with
  | zero => intro k p p' E0 E h0 h; cases h; exact h0
  | succ r ih =>
    intro k p p' E0 E h0 h
    unfold s_ents at h
    split at h
    · cases h; exact h0
    · cases he : s_entry f n mj N k p with
      | inl e => rw [he] at h; cases h
      | inr y =>
        obtain ⟨p2, x⟩ := y
        rw [he] at h
        refine ih ?_ h
        intro q hq
        rcases List.mem_append.mp hq with hq | hq
        · exact h0 q hq
        · have e : q = (k, p) := by simpa using hq
          rw [e]
          exact ent_ok he
theorem EP_of {mj p' : Nat} (h : s_pool f n mj = .inr (p', E)) : EP f n E ∧ 1 ≤ by2 f 8 := by
  unfold s_pool at h
  split at h
  · cases h
  · split at h
    · cases h
    · exact ⟨fun j p hp => ents_ok (fun q hq => by cases hq) h _ (lk_in hp), by omega⟩
theorem chkP_all {mj : Nat} : ∀ {r k : Nat}, chkP f n E mj r k = none → ∀ j, k ≤ j → j < k + r → ¬ lnkN f E j = 0 ∧ brkN f n E mj j = 0 := by
  intro r
  induction r with
  | zero => intro k h j h1 h2; omega
  | succ r ih =>
    intro k h j h1 h2
    unfold chkP at h
    split at h
    · cases h
    · split at h
      · by_cases e : j = k
        · rw [e]
          exact ⟨by assumption, by assumption⟩
        · exact ih h j (by omega) (by omega)
      · cases h
theorem CP_of {mj N : Nat} (h : chkP f n E mj (N - 1) 1 = none) (hE : ∀ q ∈ E, 1 ≤ q.1 ∧ q.1 < N) : CP f n E := by
  intro k hk
  have hkE : 1 ≤ k ∧ k < N := by
    unfold tg at hk
    cases hl : lk E k with
    | none => rw [hl] at hk; cases hk
    | some p => exact hE _ (lk_in hl)
  obtain ⟨h1, h2⟩ := chkP_all h k hkE.1 (by omega)
  have h3 : tg f E (fi f E k) = 1 := by
    unfold lnkN at h1
    rw [if_pos (Or.inl hk)] at h1
    split at h1
    · assumption
    · exact absurd rfl h1
  refine ⟨h3, ?_⟩
  unfold brkN at h2
  rw [if_pos hk] at h2
  split at h2
  · cases h2
  · rename_i h4
    cases ht : tX f n E (fi f E k) with
    | nil => rw [ht] at h4; exact absurd (by decide) h4
    | cons a l => exact Nat.succ_pos _
theorem atE_of {e : Nat} : ∀ {c p x : Nat}, p ≤ n → s_atts f n c p = .inr x → x ≤ e → s_atE f e c p = some x := by
  intro c
  induction c with
  | zero => intro p x hp h he; cases h; rfl
  | succ c ih =>
    intro p x hp h he
    unfold s_atts at h
    split at h
    · cases h
    · split at h
      · cases h
      · split at h
        · cases h
        · have h1 := s_atts_le (by omega) h
          unfold s_atE
          rw [if_neg (by omega), if_neg (by omega)]
          exact ih (by omega) h he
theorem atE_at {p e : Nat} (h : s_attributes f n p = .inr e) : p + 2 ≤ e ∧ e ≤ n ∧ s_atE f e (by2 f p) (p + 2) = some e := by
  have h1 := s_attributes_le2 h
  have h2 := s_atts_of h
  exact ⟨h1.1, h1.2, atE_of h2.1 h2.2 (Nat.le_refl _)⟩
/-- where a member that begins at p ends -/
def mE (f : Nat → Int32) (n p : Nat) : Nat := match s_attributes f n (p + 6) with
  | .inr e => e
  | .inl _ => 0
theorem mE_is {p e : Nat} (h : s_attributes f n (p + 6) = .inr e) : mE f n p = e := by
  unfold mE
  rw [h]
theorem mbs_all : ∀ {c p x : Nat}, s_mems f n c p = .inr x → (mbs f n c p).length = c ∧ (0 < c → (mbs f n c p).getD 0 0 = p) ∧ ∀ i, i < c → s_attributes f n ((mbs f n c p).getD i 0 + 6) = .inr (mE f n ((mbs f n c p).getD i 0)) ∧ (i + 1 < c → (mbs f n c p).getD (i + 1) 0 = mE f n ((mbs f n c p).getD i 0)) := by
  intro c
  induction c with
  | zero => intro p x h; exact ⟨rfl, fun h9 => by omega, fun i hi => by omega⟩
  | succ c ih =>
    intro p x h
    unfold s_mems at h
    split at h
    · cases h
    · split at h
      · cases h
      · split at h
        · cases h
        · cases ha : s_attributes f n (p + 6) with
          | inl e => rw [ha] at h; cases h
          | inr y =>
            rw [ha] at h
            obtain ⟨h1, h2, h3⟩ := ih h
            have e : mbs f n (c + 1) p = p :: mbs f n c y := by
              show p :: _ = _
              rw [ha]
            rw [e]
            refine ⟨by rw [List.length_cons, h1], fun _ => rfl, fun i hi => ?_⟩
            cases i with
            | zero =>
              refine ⟨?_, fun h9 => ?_⟩
              · show s_attributes f n (p + 6) = .inr (mE f n p)
                rw [mE_is ha]
                exact ha
              · show (mbs f n c y).getD 0 0 = mE f n p
                rw [mE_is ha]
                exact h2 (by omega)
            | succ i =>
              have := h3 i (by omega)
              exact ⟨this.1, fun h9 => this.2 (by omega)⟩
theorem MBS_of {p x : Nat} (h : s_mbs f n p = .inr x) : MBS f n (mbs f n (by2 f p) (p + 2)) p (fun i => mE f n ((mbs f n (by2 f p) (p + 2)).getD i 0)) := by
  unfold s_mbs at h
  split at h
  · cases h
  · obtain ⟨h1, h2, h3⟩ := mbs_all h
    refine ⟨h1, by omega, fun h9 => h2 (by omega), fun i hi => ?_⟩
    obtain ⟨h4, h5⟩ := h3 i (by omega)
    obtain ⟨h6, h7, h8⟩ := atE_at h4
    refine ⟨by dsimp only; omega, h7, h8, fun h9 => h5 (by omega)⟩
end WMA

section WMB
variable {f : Nat → Int32} {n : Nat} {I I' : rI} {R R' : rR}
theorem cc_none {E : List (Nat × Nat)} {h : Nat} (e : ccS f n E h = none) : hdS f n E h = none ∧ ifS f n E (h + 8) (by2 f (h + 6)) 0 = none := by
  unfold ccS at e
  split at e
  · cases e
  · exact ⟨by assumption, e⟩
theorem cc_some {E : List (Nat × Nat)} {h : Nat} {e9 : Nat × Nat} {o : Option (Nat × Nat)} (e : ccS f n E h = some e9) : (match hdS f n E h with
    | some e => some e
    | none => match ifS f n E (h + 8) (by2 f (h + 6)) 0 with
      | some e => some e
      | none => o) = some e9 := by
  unfold ccS at e
  split at e
  · rename_i h1
    rw [h1]
    exact e
  · rename_i h1
    rw [h1]
    dsimp only
    rw [e]
theorem clS_lt {E : List (Nat × Nat)} {x mj : Nat} : ∀ {c p s bc b : Nat}, bc < 65536 → clS f n E x mj c p s bc = .inr b → b < 65536 := by
  intro c
  induction c with
  | zero => intro p s bc b hb h; cases h; exact hb
  | succ c ih =>
    intro p s bc b hb h
    unfold clS at h
    split at h
    · cases h
    · split at h
      · cases h
      · split at h
        · cases h
        · cases h
        · refine ih ?_ h
          split
          · exact by2_lt _ _
          · exact hb
theorem clS_bc {E : List (Nat × Nat)} {x mj c p b : Nat} (h : clS f n E x mj c p 0 0 = .inr b) : b < 65536 := clS_lt (by decide) h
/-- n bytes of a row -/
def BX (a n : Nat) (f : Nat → Int32) (I : rI) (R : rR) : Prop := ∀ i, i < n → R a i = some (f i) ∧ vp_nar .byte (f i) = f i
theorem BX.mono {a : Nat} (h : BX a n f I R) (hI : ∀ k, k ∈ ([] : List Nat) → I' k = I k) (hR : ∀ k, k ∈ [a] → R' k = R k) : BX a n f I' R' := fun i hi => by
  rw [hR a List.mem_cons_self]
  exact h i hi
theorem BX.st {a i : Nat} {x : Int32} (h : BX a i f I R) (hR : R' = rset R a i (vp_nar .byte x)) (hx : vp_nar .byte (f i) = f i) (e : x = f i) : BX a (i + 1) f I' R' := fun j hj => by
  subst hR
  by_cases e9 : j = i
  · rw [e9, rset_at, e, hx]
    exact ⟨rfl, rfl⟩
  · rw [rset_el e9]
    exact h j (by omega)
theorem BX.le {a m : Nat} (h : BX a n f I R) (hm : m ≤ n) : BX a m f I R := fun i hi => h i (by omega)
/-- what is kept, if anything is -/
def KP (kn : Int32) (I : rI) (R : rR) : Prop := kn < 0 ∨ ∃ (n2 : Nat) (f2 : Nat → Int32), kn = nI n2 ∧ n2 ≤ 65540 ∧ BX 14 n2 f2 I R
theorem KP.mono {kn : Int32} (h : KP kn I R) (hI : ∀ k, k ∈ ([] : List Nat) → I' k = I k) (hR : ∀ k, k ∈ [14] → R' k = R k) : KP kn I' R' :=
  h.imp id (fun ⟨n2, f2, h1, h2, h3⟩ => ⟨n2, f2, h1, h2, h3.mono hI hR⟩)
theorem KP.ge {kn : Int32} (h : KP kn I R) (hk : ¬ kn < 0) : ∃ (n2 : Nat) (f2 : Nat → Int32), kn = nI n2 ∧ n2 ≤ 65540 ∧ BX 14 n2 f2 I R := h.resolve_left hk
theorem KP.of (hn : n ≤ 65540) (h : BX 14 n f I R) : KP (nI n) I R := Or.inr ⟨n, f, rfl, hn, h⟩
end WMB
set_option maxHeartbeats 4000000 in
theorem rd_checkFile {g : xe_G} {m0 : Nat} {q : Nat → Nat} {z : Nat × Nat} {I : rI} {R : rR} {M : mi_H} {n : Nat} {f : Nat → Int32} {tx : List (List Nat)} {cN : Nat} {A : Nat → Nat} {s1 s2 s3 : Nat} (hR : RS g m0 q z I R M) (hi20 : I 20 = some 0) (hi25 : I 25 = some 0) (hi26 : I 26 = some 0) (hi9 : I 9 = some (nI s1)) (hi10 : I 10 = some (nI s2)) (hi11 : I 11 = some (nI s3)) (hF : FK n f I R) (hY : SYT tx cN A I R) (hK : KX I R) (hs1 : s1 < tx.length ∧ tx.getD s1 [] = ltx 25) (hs2 : s2 < tx.length ∧ tx.getD s2 [] = ltx 26) (hs3 : s3 < tx.length ∧ tx.getD s3 [] = ltx 27) : pt (mT g) 190 [.ref m0] M (fun v M' => (∃  (I' : rI) (R' : rR), (s_read f n = none) ∧ v = some (.int 1) ∧ RS g m0 q z I' R' M' ∧ eqI [3, 8, 20, 25, 26, 47, 48, 50, 51, 52, 53, 54, 55, 56, 57, 58, 59, 60, 61, 65, 66, 67, 68, 69, 70, 71, 72] I I' ∧ eqR [1, 2, 4, 5, 6, 7, 21, 22, 27, 28, 29, 30, 31, 32, 33, 34, 35, 36, 37, 38, 39, 40, 41, 42, 43, 44, 45, 46] R R') ∨ (∃ (e9 : Nat × Nat) (I' : rI) (R' : rR), (s_read f n = some e9) ∧ v = some (.int 0) ∧ RS g m0 q z I' R' M' ∧ eqI [3, 8, 20, 25, 26, 47, 48, 50, 51, 52, 53, 54, 55, 56, 57, 58, 59, 60, 61, 65, 66, 67, 68, 69, 70, 71, 72] I I' ∧ eqR [1, 2, 4, 5, 6, 7, 21, 22, 27, 28, 29, 30, 31, 32, 33, 34, 35, 36, 37, 38, 39, 40, 41, 42, 43, 44, 45, 46] R R' ∧ I' 47 = some (nI e9.1) ∧ I' 48 = some (nI e9.2))) := by
  refine pt_in (b := mb_190 g) rfl (fun kf => ?_)
  show pl (mT g) kf (mb_190 g).2 (0, [(0, .ref m0)], [], M) _
  have hEI : eqI [3, 8, 20, 25, 26, 47, 48, 50, 51, 52, 53, 54, 55, 56, 57, 58, 59, 60, 61, 65, 66, 67, 68, 69, 70, 71, 72] I I := eqI.rf
  have hER : eqR [1, 2, 4, 5, 6, 7, 21, 22, 27, 28, 29, 30, 31, 32, 33, 34, 35, 36, 37, 38, 39, 40, 41, 42, 43, 44, 45, 46] R R := eqR.rf
  have hn := hF.1
  have LL : ∀ (kf : Nat), (∀ (N mj p1 pF pM pA : Nat) (E : List (Nat × Nat)) (tx : List (List Nat)) (cN : Nat) (A : Nat → Nat) (M1 : mi_H) (I1 : rI) (R1 : rR), (RS g m0 q z I1 R1 M1) → (eqI [3, 8, 20, 25, 26, 47, 48, 50, 51, 52, 53, 54, 55, 56, 57, 58, 59, 60, 61, 65, 66, 67, 68, 69, 70, 71, 72] I I1) → (eqR [1, 2, 4, 5, 6, 7, 21, 22, 27, 28, 29, 30, 31, 32, 33, 34, 35, 36, 37, 38, 39, 40, 41, 42, 43, 44, 45, 46] R R1) → (I1 51 = some 0) → (I1 52 = some (nI N)) → (I1 53 = some (nI mj)) → (I1 54 = some (nI p1)) → (I1 55 = some (nI pF)) → (I1 56 = some (nI pM)) → (I1 57 = some (nI pA)) → (I1 25 = some (nI 0)) → (I1 26 = some (nI 0)) → (I1 71 = some (nI 0)) → (I1 66 = some 0) → (I1 9 = some (nI s1)) → (I1 10 = some (nI s2)) → (I1 11 = some (nI s3)) → (FK n f I1 R1) → (SYT tx cN A I1 R1) → (RPV f n E tx N I1 R1) → (KX I1 R1) → (N = by2 f 8) → (mj = by2 f 6) → (s_whole f n = .inr (E, p1, pF, pM, pA)) → (s1 < tx.length ∧ tx.getD s1 [] = ltx 25) → (s2 < tx.length ∧ tx.getD s2 [] = ltx 26) → (s3 < tx.length ∧ tx.getD s3 [] = ltx 27) → (s_class f n p1 = .inr pF) → (s_mbs f n pF = .inr pM) → (s_mbs f n pM = .inr pA) → (s_attributes f n pA = .inr n) →  pl (mT g) kf (mb_190 g).2 (47, [(0, .ref m0)], [], M1) (fun v M' => (∃  (I' : rI) (R' : rR), (s_read f n = none) ∧ v = some (.int 1) ∧ RS g m0 q z I' R' M' ∧ eqI [3, 8, 20, 25, 26, 47, 48, 50, 51, 52, 53, 54, 55, 56, 57, 58, 59, 60, 61, 65, 66, 67, 68, 69, 70, 71, 72] I I' ∧ eqR [1, 2, 4, 5, 6, 7, 21, 22, 27, 28, 29, 30, 31, 32, 33, 34, 35, 36, 37, 38, 39, 40, 41, 42, 43, 44, 45, 46] R R') ∨ (∃ (e9 : Nat × Nat) (I' : rI) (R' : rR), (s_read f n = some e9) ∧ v = some (.int 0) ∧ RS g m0 q z I' R' M' ∧ eqI [3, 8, 20, 25, 26, 47, 48, 50, 51, 52, 53, 54, 55, 56, 57, 58, 59, 60, 61, 65, 66, 67, 68, 69, 70, 71, 72] I I' ∧ eqR [1, 2, 4, 5, 6, 7, 21, 22, 27, 28, 29, 30, 31, 32, 33, 34, 35, 36, 37, 38, 39, 40, 41, 42, 43, 44, 45, 46] R R' ∧ I' 47 = some (nI e9.1) ∧ I' 48 = some (nI e9.2)))) ∧ (∀ (N mj bc k : Nat) (E : List (Nat × Nat)) (tx : List (List Nat)) (cN : Nat) (A : Nat → Nat) (M1 : mi_H) (I1 : rI) (R1 : rR), (RS g m0 q z I1 R1 M1) → (eqI [3, 8, 20, 25, 26, 47, 48, 50, 51, 52, 53, 54, 55, 56, 57, 58, 59, 60, 61, 65, 66, 67, 68, 69, 70, 71, 72] I I1) → (eqR [1, 2, 4, 5, 6, 7, 21, 22, 27, 28, 29, 30, 31, 32, 33, 34, 35, 36, 37, 38, 39, 40, 41, 42, 43, 44, 45, 46] R R1) → (I1 51 = some 0) → (I1 52 = some (nI N)) → (I1 53 = some (nI mj)) → (I1 71 = some (nI bc)) → (FK n f I1 R1) → (SYT tx cN A I1 R1) → (RPV f n E tx N I1 R1) → (EP f n E) → (N < 65536) → (mj < 65536) → (bc < 65536) → (1 ≤ k ∧ k ≤ N) → (s_read f n = chkB f E bc (N - 1) 1) → (chkB f E bc (N - k) k = chkB f E bc (N - 1) 1) →  pl (mT g) kf (mb_190 g).2 (94, [(0, .ref m0), (1, .int (nI k))], [], M1) (fun v M' => (∃  (I' : rI) (R' : rR), (s_read f n = none) ∧ v = some (.int 1) ∧ RS g m0 q z I' R' M' ∧ eqI [3, 8, 20, 25, 26, 47, 48, 50, 51, 52, 53, 54, 55, 56, 57, 58, 59, 60, 61, 65, 66, 67, 68, 69, 70, 71, 72] I I' ∧ eqR [1, 2, 4, 5, 6, 7, 21, 22, 27, 28, 29, 30, 31, 32, 33, 34, 35, 36, 37, 38, 39, 40, 41, 42, 43, 44, 45, 46] R R') ∨ (∃ (e9 : Nat × Nat) (I' : rI) (R' : rR), (s_read f n = some e9) ∧ v = some (.int 0) ∧ RS g m0 q z I' R' M' ∧ eqI [3, 8, 20, 25, 26, 47, 48, 50, 51, 52, 53, 54, 55, 56, 57, 58, 59, 60, 61, 65, 66, 67, 68, 69, 70, 71, 72] I I' ∧ eqR [1, 2, 4, 5, 6, 7, 21, 22, 27, 28, 29, 30, 31, 32, 33, 34, 35, 36, 37, 38, 39, 40, 41, 42, 43, 44, 45, 46] R R' ∧ I' 47 = some (nI e9.1) ∧ I' 48 = some (nI e9.2)))) := by
    intro kf
    induction kf with
    | zero => exact ⟨by intros; exact pl_0, by intros; exact pl_0⟩
    | succ kf ih =>
      refine ⟨?_, ?_⟩
      · skip
        intro N mj p1 pF pM pA E tx cN A M1 I1 R1 hR1 hEI1 hER1 hl51 hl52 hl53 hl54 hl55 hl56 hl57 hl25 hl26 hl71 hl66 hl9 hl10 hl11 hF1 hY1 hP1 hK1 hN8 hm6 hwh hs1 hs2 hs3 hc hf hm ha
        have hn := hF1.1
        obtain ⟨hEP, hN0⟩ := EP_of (whole_in hwh)
        have hN : N < 65536 := by rw [hN8]; exact by2_lt _ _
        have hmj : mj < 65536 := by rw [hm6]; exact by2_lt _ _
        have hN1 : 1 ≤ N := by omega
        have hin := (s_class_in hc).1
        have hMF := MBS_of hf
        have hMM := MBS_of hm
        have hat := atE_at ha
        have hb1 := by2_lt f pF
        have hb2 := by2_lt f pM
        have hcf := by2_lt f p1
        refine ps_st1 (S' := (48, [(0, .ref m0)], [.ref m0], M1)) rfl rfl rfl ?_
        refine pl_call (a := [.ref m0]) (rest := []) rfl rfl rfl (rd_checkPool (n := n) (f := f) (tx := tx) (cN := cN) (A := A) (N := N) (mj := mj) (E := E) (s1 := s1) hR1 hl51 hl52 hl53 hl9 hF1 hY1 hP1 (hEP) (hN) (hmj) (hs1) (hN1)) (fun v1 M2 q3 => ?_)
        rcases q3 with q3 | q3
        · skip
          obtain ⟨I4, R5, q48_s, rfl, hR6, hI7, hX8⟩ := q3
          have hi9 := (hI7 51 (by decide)).trans hl51
          have hi10 := (hI7 52 (by decide)).trans hl52
          have hi11 := (hI7 53 (by decide)).trans hl53
          have hi12 := (hI7 54 (by decide)).trans hl54
          have hi13 := (hI7 55 (by decide)).trans hl55
          have hi14 := (hI7 56 (by decide)).trans hl56
          have hi15 := (hI7 57 (by decide)).trans hl57
          have hi16 := (hI7 25 (by decide)).trans hl25
          have hi17 := (hI7 26 (by decide)).trans hl26
          have hi18 := (hI7 71 (by decide)).trans hl71
          have hi19 := (hI7 66 (by decide)).trans hl66
          have hi20 := (hI7 9 (by decide)).trans hl9
          have hi21 := (hI7 10 (by decide)).trans hl10
          have hi22 := (hI7 11 (by decide)).trans hl11
          have hF_23 := hF1.mono (cIx hI7 (by decide)) (cRx hX8 (by decide))
          have hY_24 := hY1.mono (cIx hI7 (by decide)) (cRx hX8 (by decide))
          have hP_25 := hP1.mono (cIx hI7 (by decide)) (cRx hX8 (by decide))
          have hK_26 := hK1.mono (cIx hI7 (by decide)) (cRx hX8 (by decide))
          have hEI27 := hEI1.tr hI7 (by decide)
          have hER28 := hER1.tr hX8 (by decide)
          show pl _ _ _ (51, [(0, .ref m0)], [.int 1], M2) _
          have hCP := CP_of q48_s hP1.1
          refine ps_if (S1 := (75, [], [], M2)) (S2 := (54, [(0, .ref m0)], [], M2)) rfl rfl rfl (fun c_51 => ?_) (fun c_51 => ?_)
          · exact absurd (of_decide_eq_true c_51) (by decide)
          refine ps_st (S' := (55, [(0, .ref m0)], [.ref m0], M2)) rfl rfl rfl ?_
          refine pl_call (a := [.ref m0]) (rest := []) rfl rfl rfl (rd_checkClass (n := n) (f := f) (tx := tx) (cN := cN) (A := A) (N := N) (mj := mj) (E := E) (hA := p1) (s3 := s3) hR6 hi12 hi22 hi9 hi10 hi11 hF_23 hY_24 hP_25 (hEP) (hN) (hmj) (hs3) (hCP) (hin)) (fun v29 M30 q31 => ?_)
          rcases q31 with q31 | q31
          · skip
            obtain ⟨I32, R33, q55_s, rfl, hR34, hI35, hX36, hi37⟩ := q31
            have hi38 := (hI35 51 (by decide)).trans hi9
            have hi39 := (hI35 52 (by decide)).trans hi10
            have hi40 := (hI35 53 (by decide)).trans hi11
            have hi41 := (hI35 54 (by decide)).trans hi12
            have hi42 := (hI35 55 (by decide)).trans hi13
            have hi43 := (hI35 56 (by decide)).trans hi14
            have hi44 := (hI35 57 (by decide)).trans hi15
            have hi45 := (hI35 25 (by decide)).trans hi16
            have hi46 := (hI35 26 (by decide)).trans hi17
            have hi47 := (hI35 71 (by decide)).trans hi18
            have hi48 := (hI35 66 (by decide)).trans hi19
            have hi49 := (hI35 9 (by decide)).trans hi20
            have hi50 := (hI35 10 (by decide)).trans hi21
            have hi51 := (hI35 11 (by decide)).trans hi22
            have hF_52 := hF_23.mono (cIx hI35 (by decide)) (cRx hX36 (by decide))
            have hY_53 := hY_24.mono (cIx hI35 (by decide)) (cRx hX36 (by decide))
            have hP_54 := hP_25.mono (cIx hI35 (by decide)) (cRx hX36 (by decide))
            have hK_55 := hK_26.mono (cIx hI35 (by decide)) (cRx hX36 (by decide))
            have hEI56 := hEI27.tr hI35 (by decide)
            have hER57 := hER28.tr hX36 (by decide)
            show pl _ _ _ (58, [(0, .ref m0)], [.int 1], M30) _
            refine ps_if (S1 := (75, [], [], M30)) (S2 := (61, [(0, .ref m0)], [], M30)) rfl rfl rfl (fun c_58 => ?_) (fun c_58 => ?_)
            · exact absurd (of_decide_eq_true c_58) (by decide)
            refine ps_st (S' := (62, [(0, .ref m0)], [.ref m0], M30)) rfl rfl rfl ?_
            refine pl_call (a := [.ref m0]) (rest := []) rfl rfl rfl (rd_checkFields (n := n) (f := f) (tx := tx) (cN := cN) (A := A) (N := N) (mj := mj) (E := E) (pF := pF) (f0 := 0) (cf := (by2 f p1)) (B := (mbs f n (by2 f pF) (pF + 2))) (E1 := (fun i => mE f n ((mbs f n (by2 f pF) (pF + 2)).getD i 0))) hR34 hi38 hi39 hi40 hi37 hi42 hi45 hF_52 hY_53 hP_54 hK_55 (hEP) (hN) (hmj) (hMF) (by omega) (hcf)) (fun v58 M59 q60 => ?_)
            rcases q60 with q60 | q60
            · skip
              obtain ⟨I61, R62, q62_s, rfl, hR63, hI64, hX65, hi66⟩ := q60
              have hi67 := (hI64 51 (by decide)).trans hi38
              have hi68 := (hI64 52 (by decide)).trans hi39
              have hi69 := (hI64 53 (by decide)).trans hi40
              have hi70 := (hI64 54 (by decide)).trans hi41
              have hi71 := (hI64 55 (by decide)).trans hi42
              have hi72 := (hI64 56 (by decide)).trans hi43
              have hi73 := (hI64 57 (by decide)).trans hi44
              have hi74 := (hI64 26 (by decide)).trans hi46
              have hi75 := (hI64 71 (by decide)).trans hi47
              have hi76 := (hI64 66 (by decide)).trans hi48
              have hi77 := (hI64 9 (by decide)).trans hi49
              have hi78 := (hI64 10 (by decide)).trans hi50
              have hi79 := (hI64 11 (by decide)).trans hi51
              have hi80 := (hI64 58 (by decide)).trans hi37
              have hF_81 := hF_52.mono (cIx hI64 (by decide)) (cRx hX65 (by decide))
              have hY_82 := hY_53.mono (cIx hI64 (by decide)) (cRx hX65 (by decide))
              have hP_83 := hP_54.mono (cIx hI64 (by decide)) (cRx hX65 (by decide))
              have hK_84 := hK_55.mono (cIx hI64 (by decide)) (cRx hX65 (by decide))
              have hEI85 := hEI56.tr hI64 (by decide)
              have hER86 := hER57.tr hX65 (by decide)
              show pl _ _ _ (65, [(0, .ref m0)], [.int 1], M59) _
              refine ps_if (S1 := (75, [], [], M59)) (S2 := (68, [(0, .ref m0)], [], M59)) rfl rfl rfl (fun c_65 => ?_) (fun c_65 => ?_)
              · exact absurd (of_decide_eq_true c_65) (by decide)
              refine ps_st (S' := (69, [(0, .ref m0)], [.ref m0], M59)) rfl rfl rfl ?_
              refine pl_call (a := [.ref m0]) (rest := []) rfl rfl rfl (rd_checkMethods (n := n) (f := f) (tx := tx) (cN := cN) (A := A) (N := N) (mj := mj) (E := E) (pM := pM) (f0 := 0) (cf := (by2 f p1)) (si := s1) (sc := s2) (B := (mbs f n (by2 f pM) (pM + 2))) (E1 := (fun i => mE f n ((mbs f n (by2 f pM) (pM + 2)).getD i 0))) hR63 hi67 hi68 hi69 hi80 hi72 hi74 hi77 hi78 hF_81 hY_82 hP_83 hK_84 (hEP) (hN) (hmj) (hMM) (by omega) (hcf) (⟨hs1.1, hs1.2.trans lt_eq.2.1⟩) (⟨hs2.1, hs2.2.trans lt_eq.2.2.1⟩)) (fun v87 M88 q89 => ?_)
              rcases q89 with q89 | q89
              · skip
                obtain ⟨I90, R91, q69_s, rfl, hR92, hI93, hX94, hi95⟩ := q89
                have hi96 := (hI93 51 (by decide)).trans hi67
                have hi97 := (hI93 52 (by decide)).trans hi68
                have hi98 := (hI93 53 (by decide)).trans hi69
                have hi99 := (hI93 54 (by decide)).trans hi70
                have hi100 := (hI93 55 (by decide)).trans hi71
                have hi101 := (hI93 56 (by decide)).trans hi72
                have hi102 := (hI93 57 (by decide)).trans hi73
                have hi103 := (hI93 71 (by decide)).trans hi75
                have hi104 := (hI93 66 (by decide)).trans hi76
                have hi105 := (hI93 9 (by decide)).trans hi77
                have hi106 := (hI93 10 (by decide)).trans hi78
                have hi107 := (hI93 11 (by decide)).trans hi79
                have hi108 := (hI93 58 (by decide)).trans hi80
                have hi109 := (hI93 25 (by decide)).trans hi66
                have hF_110 := hF_81.mono (cIx hI93 (by decide)) (cRx hX94 (by decide))
                have hY_111 := hY_82.mono (cIx hI93 (by decide)) (cRx hX94 (by decide))
                have hP_112 := hP_83.mono (cIx hI93 (by decide)) (cRx hX94 (by decide))
                have hK_113 := hK_84.mono (cIx hI93 (by decide)) (cRx hX94 (by decide))
                have hEI114 := hEI85.tr hI93 (by decide)
                have hER115 := hER86.tr hX94 (by decide)
                show pl _ _ _ (72, [(0, .ref m0)], [.int 1], M88) _
                refine ps_if (S1 := (77, [(0, .ref m0)], [], M88)) (S2 := (75, [], [], M88)) rfl rfl rfl (fun c_72 => ?_) (fun c_72 => ?_)
                rotate_left
                · exact absurd (by decide) (of_decide_eq_false c_72)
                refine ps_st (S' := (78, [(0, .ref m0)], [.ref m0], M88)) rfl rfl rfl ?_
                refine ps_st (S' := (79, [(0, .ref m0)], [.ref m0, .ref m0], M88)) rfl rfl rfl ?_
                refine pr_int (j := 57) (S' := (82, [(0, .ref m0)], [.int (nI pA), .ref m0], M88)) rfl hR92 rfl hi102 rfl ?_
                refine ps_st (S' := (83, [(0, .ref m0)], [.int 4, .int (nI pA), .ref m0], M88)) rfl rfl rfl ?_
                refine ps_st (S' := (84, [(0, .ref m0)], [.int 0, .int 4, .int (nI pA), .ref m0], M88)) rfl rfl rfl ?_
                refine pl_call (a := [.ref m0, .int (nI pA), .int 4, .int 0]) (rest := []) rfl rfl rfl (rd_checkAttributes4 (n := n) (f := f) (tx := tx) (cN := cN) (A := A) (N := N) (mj := mj) (E := E) (p1 := pA) (e := n) (x := 0) (fl := (by2 f p1)) (nk0 := 0) hR92 hi96 hi97 hi98 hi108 hi103 hi104 hF_110 hY_111 hP_112 hK_113 (hEP) (hN) (hmj) (⟨hat.1, hat.2.1⟩) (hat.2.2) (hcf)) (fun v116 M117 q118 => ?_)
                rcases q118 with q118 | q118
                · skip
                  obtain ⟨e9119, I120, R121, q84_s, rfl, hR122, hI123, hX124, hi125, hi126⟩ := q118
                  have hi127 := (hI123 51 (by decide)).trans hi96
                  have hi128 := (hI123 52 (by decide)).trans hi97
                  have hi129 := (hI123 53 (by decide)).trans hi98
                  have hi130 := (hI123 54 (by decide)).trans hi99
                  have hi131 := (hI123 55 (by decide)).trans hi100
                  have hi132 := (hI123 56 (by decide)).trans hi101
                  have hi133 := (hI123 57 (by decide)).trans hi102
                  have hi134 := (hI123 9 (by decide)).trans hi105
                  have hi135 := (hI123 10 (by decide)).trans hi106
                  have hi136 := (hI123 11 (by decide)).trans hi107
                  have hi137 := (hI123 58 (by decide)).trans hi108
                  have hi138 := (hI123 25 (by decide)).trans hi109
                  have hi139 := (hI123 26 (by decide)).trans hi95
                  have hF_140 := hF_110.mono (cIx hI123 (by decide)) (cRx hX124 (by decide))
                  have hY_141 := hY_111.mono (cIx hI123 (by decide)) (cRx hX124 (by decide))
                  have hP_142 := hP_112.mono (cIx hI123 (by decide)) (cRx hX124 (by decide))
                  have hK_143 := hK_113.mono (cIx hI123 (by decide)) (cRx hX124 (by decide))
                  have hEI144 := hEI114.tr hI123 (by decide)
                  have hER145 := hER115.tr hX124 (by decide)
                  show pl _ _ _ (87, [(0, .ref m0)], [.int (-1)], M117) _
                  refine ps_if (S1 := (92, [(0, .ref m0)], [], M117)) (S2 := (90, [(0, .ref m0)], [], M117)) rfl rfl rfl (fun c_87 => ?_) (fun c_87 => ?_)
                  · exact absurd (of_decide_eq_true c_87) (by decide)
                  refine ps_st (S' := (91, [(0, .ref m0)], [.int 0], M117)) rfl rfl rfl ?_
                  exact ps_ret rfl rfl (Or.inr ⟨e9119, I120, R121, by
                      refine s_read_2 hwh ?_
                      rw [← hN8, ← hm6]
                      unfold s_chk
                      rw [q48_s]
                      dsimp only
                      obtain ⟨hh9, hh8⟩ := cc_none q55_s
                      rw [hh9]
                      dsimp only
                      rw [hh8]
                      dsimp only
                      rw [q62_s]
                      dsimp only
                      rw [q69_s]
                      dsimp only
                      rw [q84_s], rfl, hR122, hEI144, hER145, hi125, hi126⟩)
                · skip
                  obtain ⟨bc146, I147, R148, q84_s, rfl, hR149, hI150, hX151, hi152⟩ := q118
                  have hi153 := (hI150 51 (by decide)).trans hi96
                  have hi154 := (hI150 52 (by decide)).trans hi97
                  have hi155 := (hI150 53 (by decide)).trans hi98
                  have hi156 := (hI150 54 (by decide)).trans hi99
                  have hi157 := (hI150 55 (by decide)).trans hi100
                  have hi158 := (hI150 56 (by decide)).trans hi101
                  have hi159 := (hI150 57 (by decide)).trans hi102
                  have hi160 := (hI150 9 (by decide)).trans hi105
                  have hi161 := (hI150 10 (by decide)).trans hi106
                  have hi162 := (hI150 11 (by decide)).trans hi107
                  have hi163 := (hI150 58 (by decide)).trans hi108
                  have hi164 := (hI150 25 (by decide)).trans hi109
                  have hi165 := (hI150 26 (by decide)).trans hi95
                  have hF_166 := hF_110.mono (cIx hI150 (by decide)) (cRx hX151 (by decide))
                  have hY_167 := hY_111.mono (cIx hI150 (by decide)) (cRx hX151 (by decide))
                  have hP_168 := hP_112.mono (cIx hI150 (by decide)) (cRx hX151 (by decide))
                  have hK_169 := hK_113.mono (cIx hI150 (by decide)) (cRx hX151 (by decide))
                  have hEI170 := hEI114.tr hI150 (by decide)
                  have hER171 := hER115.tr hX151 (by decide)
                  show pl _ _ _ (87, [(0, .ref m0)], [.int (nI n)], M117) _
                  refine ps_if (S1 := (92, [(0, .ref m0)], [], M117)) (S2 := (90, [(0, .ref m0)], [], M117)) rfl rfl rfl (fun c_87 => ?_) (fun c_87 => ?_)
                  rotate_left
                  · exact absurd ((le_nI (p := 0) (n := n) (by decide) (by omega)).mpr (by omega)) (of_decide_eq_false c_87)
                  refine ps_st (S' := (93, [(0, .ref m0)], [.int 1], M117)) rfl rfl rfl ?_
                  refine ps_st (S' := (94, [(0, .ref m0), (1, .int 1)], [], M117)) rfl rfl rfl ?_
                  exact ih.2 (N) (mj) (bc146) (1) (E) (tx) (cN) (A) M117 I147 R148 hR149 hEI170 hER171 hi153 hi154 hi155 hi152 hF_166 hY_167 hP_168 (hEP) (hN) (hmj) (clS_bc q84_s) (⟨Nat.le_refl _, hN1⟩) (by
                      refine s_read_2 hwh ?_
                      rw [← hN8, ← hm6]
                      unfold s_chk
                      rw [q48_s]
                      dsimp only
                      obtain ⟨hh9, hh8⟩ := cc_none q55_s
                      rw [hh9]
                      dsimp only
                      rw [hh8]
                      dsimp only
                      rw [q62_s]
                      dsimp only
                      rw [q69_s]
                      dsimp only
                      rw [q84_s]) (rfl)
              · skip
                obtain ⟨e9172, I173, R174, q69_s, rfl, hR175, hI176, hX177, hi178, hi179⟩ := q89
                have hi180 := (hI176 51 (by decide)).trans hi67
                have hi181 := (hI176 52 (by decide)).trans hi68
                have hi182 := (hI176 53 (by decide)).trans hi69
                have hi183 := (hI176 54 (by decide)).trans hi70
                have hi184 := (hI176 55 (by decide)).trans hi71
                have hi185 := (hI176 56 (by decide)).trans hi72
                have hi186 := (hI176 57 (by decide)).trans hi73
                have hi187 := (hI176 71 (by decide)).trans hi75
                have hi188 := (hI176 66 (by decide)).trans hi76
                have hi189 := (hI176 9 (by decide)).trans hi77
                have hi190 := (hI176 10 (by decide)).trans hi78
                have hi191 := (hI176 11 (by decide)).trans hi79
                have hi192 := (hI176 58 (by decide)).trans hi80
                have hi193 := (hI176 25 (by decide)).trans hi66
                have hF_194 := hF_81.mono (cIx hI176 (by decide)) (cRx hX177 (by decide))
                have hY_195 := hY_82.mono (cIx hI176 (by decide)) (cRx hX177 (by decide))
                have hP_196 := hP_83.mono (cIx hI176 (by decide)) (cRx hX177 (by decide))
                have hK_197 := hK_84.mono (cIx hI176 (by decide)) (cRx hX177 (by decide))
                have hEI198 := hEI85.tr hI176 (by decide)
                have hER199 := hER86.tr hX177 (by decide)
                show pl _ _ _ (72, [(0, .ref m0)], [.int 0], M88) _
                refine ps_if (S1 := (77, [(0, .ref m0)], [], M88)) (S2 := (75, [], [], M88)) rfl rfl rfl (fun c_72 => ?_) (fun c_72 => ?_)
                · exact absurd (of_decide_eq_true c_72) (by decide)
                refine ps_st (S' := (76, [], [.int 0], M88)) rfl rfl rfl ?_
                exact ps_ret rfl rfl (Or.inr ⟨e9172, I173, R174, by
                    refine s_read_2 hwh ?_
                    rw [← hN8, ← hm6]
                    unfold s_chk
                    rw [q48_s]
                    dsimp only
                    obtain ⟨hh9, hh8⟩ := cc_none q55_s
                    rw [hh9]
                    dsimp only
                    rw [hh8]
                    dsimp only
                    rw [q62_s]
                    dsimp only
                    rw [q69_s], rfl, hR175, hEI198, hER199, hi178, hi179⟩)
            · skip
              obtain ⟨e9200, I201, R202, q62_s, rfl, hR203, hI204, hX205, hi206, hi207⟩ := q60
              have hi208 := (hI204 51 (by decide)).trans hi38
              have hi209 := (hI204 52 (by decide)).trans hi39
              have hi210 := (hI204 53 (by decide)).trans hi40
              have hi211 := (hI204 54 (by decide)).trans hi41
              have hi212 := (hI204 55 (by decide)).trans hi42
              have hi213 := (hI204 56 (by decide)).trans hi43
              have hi214 := (hI204 57 (by decide)).trans hi44
              have hi215 := (hI204 26 (by decide)).trans hi46
              have hi216 := (hI204 71 (by decide)).trans hi47
              have hi217 := (hI204 66 (by decide)).trans hi48
              have hi218 := (hI204 9 (by decide)).trans hi49
              have hi219 := (hI204 10 (by decide)).trans hi50
              have hi220 := (hI204 11 (by decide)).trans hi51
              have hi221 := (hI204 58 (by decide)).trans hi37
              have hF_222 := hF_52.mono (cIx hI204 (by decide)) (cRx hX205 (by decide))
              have hY_223 := hY_53.mono (cIx hI204 (by decide)) (cRx hX205 (by decide))
              have hP_224 := hP_54.mono (cIx hI204 (by decide)) (cRx hX205 (by decide))
              have hK_225 := hK_55.mono (cIx hI204 (by decide)) (cRx hX205 (by decide))
              have hEI226 := hEI56.tr hI204 (by decide)
              have hER227 := hER57.tr hX205 (by decide)
              show pl _ _ _ (65, [(0, .ref m0)], [.int 0], M59) _
              refine ps_if (S1 := (75, [], [], M59)) (S2 := (68, [(0, .ref m0)], [], M59)) rfl rfl rfl (fun c_65 => ?_) (fun c_65 => ?_)
              rotate_left
              · exact absurd (by decide) (of_decide_eq_false c_65)
              refine ps_st (S' := (76, [], [.int 0], M59)) rfl rfl rfl ?_
              exact ps_ret rfl rfl (Or.inr ⟨e9200, I201, R202, by
                  refine s_read_2 hwh ?_
                  rw [← hN8, ← hm6]
                  unfold s_chk
                  rw [q48_s]
                  dsimp only
                  obtain ⟨hh9, hh8⟩ := cc_none q55_s
                  rw [hh9]
                  dsimp only
                  rw [hh8]
                  dsimp only
                  rw [q62_s], rfl, hR203, hEI226, hER227, hi206, hi207⟩)
          · skip
            obtain ⟨e228, I229, R230, q55_s, rfl, hR231, hI232, hX233, hi234, hi235⟩ := q31
            have hi236 := (hI232 51 (by decide)).trans hi9
            have hi237 := (hI232 52 (by decide)).trans hi10
            have hi238 := (hI232 53 (by decide)).trans hi11
            have hi239 := (hI232 54 (by decide)).trans hi12
            have hi240 := (hI232 55 (by decide)).trans hi13
            have hi241 := (hI232 56 (by decide)).trans hi14
            have hi242 := (hI232 57 (by decide)).trans hi15
            have hi243 := (hI232 25 (by decide)).trans hi16
            have hi244 := (hI232 26 (by decide)).trans hi17
            have hi245 := (hI232 71 (by decide)).trans hi18
            have hi246 := (hI232 66 (by decide)).trans hi19
            have hi247 := (hI232 9 (by decide)).trans hi20
            have hi248 := (hI232 10 (by decide)).trans hi21
            have hi249 := (hI232 11 (by decide)).trans hi22
            have hF_250 := hF_23.mono (cIx hI232 (by decide)) (cRx hX233 (by decide))
            have hY_251 := hY_24.mono (cIx hI232 (by decide)) (cRx hX233 (by decide))
            have hP_252 := hP_25.mono (cIx hI232 (by decide)) (cRx hX233 (by decide))
            have hK_253 := hK_26.mono (cIx hI232 (by decide)) (cRx hX233 (by decide))
            have hEI254 := hEI27.tr hI232 (by decide)
            have hER255 := hER28.tr hX233 (by decide)
            show pl _ _ _ (58, [(0, .ref m0)], [.int 0], M30) _
            refine ps_if (S1 := (75, [], [], M30)) (S2 := (61, [(0, .ref m0)], [], M30)) rfl rfl rfl (fun c_58 => ?_) (fun c_58 => ?_)
            rotate_left
            · exact absurd (by decide) (of_decide_eq_false c_58)
            refine ps_st (S' := (76, [], [.int 0], M30)) rfl rfl rfl ?_
            exact ps_ret rfl rfl (Or.inr ⟨e228, I229, R230, by
                refine s_read_2 hwh ?_
                rw [← hN8, ← hm6]
                unfold s_chk
                rw [q48_s]
                dsimp only
                exact cc_some q55_s, rfl, hR231, hEI254, hER255, hi234, hi235⟩)
        · skip
          obtain ⟨e256, I257, R258, q48_s, rfl, hR259, hI260, hX261, hi262, hi263⟩ := q3
          have hi264 := (hI260 51 (by decide)).trans hl51
          have hi265 := (hI260 52 (by decide)).trans hl52
          have hi266 := (hI260 53 (by decide)).trans hl53
          have hi267 := (hI260 54 (by decide)).trans hl54
          have hi268 := (hI260 55 (by decide)).trans hl55
          have hi269 := (hI260 56 (by decide)).trans hl56
          have hi270 := (hI260 57 (by decide)).trans hl57
          have hi271 := (hI260 25 (by decide)).trans hl25
          have hi272 := (hI260 26 (by decide)).trans hl26
          have hi273 := (hI260 71 (by decide)).trans hl71
          have hi274 := (hI260 66 (by decide)).trans hl66
          have hi275 := (hI260 9 (by decide)).trans hl9
          have hi276 := (hI260 10 (by decide)).trans hl10
          have hi277 := (hI260 11 (by decide)).trans hl11
          have hF_278 := hF1.mono (cIx hI260 (by decide)) (cRx hX261 (by decide))
          have hY_279 := hY1.mono (cIx hI260 (by decide)) (cRx hX261 (by decide))
          have hP_280 := hP1.mono (cIx hI260 (by decide)) (cRx hX261 (by decide))
          have hK_281 := hK1.mono (cIx hI260 (by decide)) (cRx hX261 (by decide))
          have hEI282 := hEI1.tr hI260 (by decide)
          have hER283 := hER1.tr hX261 (by decide)
          show pl _ _ _ (51, [(0, .ref m0)], [.int 0], M2) _
          refine ps_if (S1 := (75, [], [], M2)) (S2 := (54, [(0, .ref m0)], [], M2)) rfl rfl rfl (fun c_51 => ?_) (fun c_51 => ?_)
          rotate_left
          · exact absurd (by decide) (of_decide_eq_false c_51)
          refine ps_st (S' := (76, [], [.int 0], M2)) rfl rfl rfl ?_
          exact ps_ret rfl rfl (Or.inr ⟨e256, I257, R258, by
              refine s_read_2 hwh ?_
              rw [← hN8, ← hm6]
              unfold s_chk
              rw [q48_s], rfl, hR259, hEI282, hER283, hi262, hi263⟩)
      · skip
        intro N mj bc k E tx cN A M1 I1 R1 hR1 hEI1 hER1 hl51 hl52 hl53 hl71 hF1 hY1 hP1 hEP hN hmj hbc hk hr hs
        have hn := hF1.1
        refine ps_st1 (S' := (95, [(0, .ref m0), (1, .int (nI k))], [.int (nI k)], M1)) rfl rfl rfl ?_
        refine ps_st (S' := (96, [(0, .ref m0), (1, .int (nI k))], [.ref m0, .int (nI k)], M1)) rfl rfl rfl ?_
        refine pr_int (j := 52) (S' := (99, [(0, .ref m0), (1, .int (nI k))], [.int (nI N), .int (nI k)], M1)) rfl hR1 rfl hl52 rfl ?_
        refine ps_if2 (S1 := (157, [(0, .ref m0), (1, .int (nI k))], [], M1)) (S2 := (102, [(0, .ref m0), (1, .int (nI k))], [], M1)) rfl rfl rfl (fun c_99 => ?_) (fun c_99 => ?_)
        · have c_99 : (nI N) ≤ (nI k) := of_decide_eq_true c_99
          have n_99 : N ≤ k := (le_nI (p := N) (n := k) (by omega) (by omega)).mp c_99
          refine ps_st (S' := (158, [(0, .ref m0), (1, .int (nI k))], [.int 1], M1)) rfl rfl rfl ?_
          exact ps_ret rfl rfl (Or.inl ⟨I1, R1, by
              rw [hr, ← hs, show N - k = 0 by omega]
              rfl, rfl, hR1, hEI1, hER1⟩)
        · have c_99 : ¬ ((nI N) ≤ (nI k)) := of_decide_eq_false c_99
          have n_99 : ¬ (N ≤ k) := fun h9 => c_99 ((le_nI (p := N) (n := k) (by omega) (by omega)).mpr h9)
          refine ps_st (S' := (103, [(0, .ref m0), (1, .int (nI k))], [.ref m0], M1)) rfl rfl rfl ?_
          refine ps_st (S' := (104, [(0, .ref m0), (1, .int (nI k))], [.int (nI k), .ref m0], M1)) rfl rfl rfl ?_
          refine pl_call (a := [.ref m0, .int (nI k)]) (rest := []) rfl rfl rfl (rd_tag (n := n) (f := f) (tx := tx) (cN := cN) (A := A) (N := N) (mj := mj) (E := E) (k := k) hR1 hl51 hl52 hl53 hF1 hY1 hP1 (hEP) (hN) (hmj) (by omega)) (fun v284 M285 q286 => ?_)
          obtain ⟨rfl, rfl⟩ := q286
          show pl _ _ _ (107, [(0, .ref m0), (1, .int (nI k))], [.int (nI (tg f E k))], M1) _
          have htg_104 := tg_lt f E k
          refine ps_st (S' := (108, [(2, .int (nI (tg f E k))), (0, .ref m0), (1, .int (nI k))], [], M1)) rfl rfl rfl ?_
          refine ps_st (S' := (109, [(2, .int (nI (tg f E k))), (0, .ref m0), (1, .int (nI k))], [.int (nI (tg f E k))], M1)) rfl rfl rfl ?_
          refine ps_st (S' := (111, [(2, .int (nI (tg f E k))), (0, .ref m0), (1, .int (nI k))], [.int 17, .int (nI (tg f E k))], M1)) rfl rfl rfl ?_
          refine ps_if2 (S1 := (120, [(0, .ref m0), (1, .int (nI k))], [], M1)) (S2 := (114, [(2, .int (nI (tg f E k))), (0, .ref m0), (1, .int (nI k))], [], M1)) rfl rfl rfl (fun c_111 => ?_) (fun c_111 => ?_)
          · have c_111 : (nI (tg f E k)) = 17 := of_decide_eq_true c_111
            have n_111 : tg f E k = 17 := (eq_nI (p := tg f E k) (n := 17) (Nat.lt_trans (tg_lt _ _ _) (by decide)) (by decide)).mp c_111
            refine ps_st (S' := (121, [(0, .ref m0), (1, .int (nI k))], [.ref m0], M1)) rfl rfl rfl ?_
            refine ps_st (S' := (122, [(0, .ref m0), (1, .int (nI k))], [.int (nI k), .ref m0], M1)) rfl rfl rfl ?_
            refine ps_st (S' := (123, [(0, .ref m0), (1, .int (nI k))], [.int 1, .int (nI k), .ref m0], M1)) rfl rfl rfl ?_
            refine pl_call (a := [.ref m0, .int (nI k), .int 1]) (rest := []) rfl rfl rfl (rd_idx1 (n := n) (f := f) (tx := tx) (cN := cN) (A := A) (N := N) (mj := mj) (E := E) (k := k) hR1 hl51 hl52 hl53 hF1 hY1 hP1 (hEP) (hN) (hmj) (by omega)) (fun v287 M288 q289 => ?_)
            obtain ⟨rfl, rfl⟩ := q289
            show pl _ _ _ (126, [(0, .ref m0), (1, .int (nI k))], [.int (nI (fi f E k))], M1) _
            have hix_123 := fi_lt f E k
            refine ps_st (S' := (127, [(0, .ref m0), (1, .int (nI k))], [.ref m0, .int (nI (fi f E k))], M1)) rfl rfl rfl ?_
            refine pr_int (j := 71) (S' := (130, [(0, .ref m0), (1, .int (nI k))], [.int (nI bc), .int (nI (fi f E k))], M1)) rfl hR1 rfl hl71 rfl ?_
            refine ps_if2 (S1 := (151, [(0, .ref m0), (1, .int (nI k))], [], M1)) (S2 := (133, [(0, .ref m0), (1, .int (nI k))], [], M1)) rfl rfl rfl (fun c_130 => ?_) (fun c_130 => ?_)
            · have c_130 : (nI (fi f E k)) < (nI bc) := of_decide_eq_true c_130
              have n_130 : fi f E k < bc := (lt_nI (p := fi f E k) (n := bc) (Nat.lt_trans (fi_lt _ _ _) (by decide)) (by omega)).mp c_130
              refine ps_st (S' := (154, [(1, .int ((nI k) + 1)), (0, .ref m0)], [], M1)) rfl rfl rfl ?_
              rw [nI_add1 (p := k) (k := 1) (x := 1) rfl (by omega)]
              show pl _ _ _ (_, [(1, .int (nI (k + 1))), (0, .ref m0)], [], M1) _
              refine ps_st (S' := (94, [(0, .ref m0), (1, .int (nI (k + 1)))], [], M1)) rfl rfl rfl ?_
              exact ih.2 (N) (mj) (bc) (k + 1) (E) (tx) (cN) (A) M1 I1 R1 hR1 hEI1 hER1 hl51 hl52 hl53 hl71 hF1 hY1 hP1 (hEP) (hN) (hmj) (hbc) (by omega) (hr) (by
                  rw [← hs, chkB_st (k := k) (by omega), if_neg (by omega)])
            · have c_130 : ¬ ((nI (fi f E k)) < (nI bc)) := of_decide_eq_false c_130
              have n_130 : ¬ (fi f E k < bc) := fun h9 => c_130 ((lt_nI (p := fi f E k) (n := bc) (Nat.lt_trans (fi_lt _ _ _) (by decide)) (by omega)).mpr h9)
              obtain ⟨p, hk9, hb9⟩ := tg_lk (f := f) (E := E) (k := k) (by omega)
              have hep9 := hEP k p hk9
              refine ps_st (S' := (134, [(0, .ref m0), (1, .int (nI k))], [.ref m0], M1)) rfl rfl rfl ?_
              refine ps_st (S' := (136, [(0, .ref m0), (1, .int (nI k))], [.int 40, .ref m0], M1)) rfl rfl rfl ?_
              refine ps_st (S' := (137, [(0, .ref m0), (1, .int (nI k))], [.ref m0, .int 40, .ref m0], M1)) rfl rfl rfl ?_
              refine pr_ref (j := 21) (S' := (140, [(0, .ref m0), (1, .int (nI k))], [.ref (q 21), .int 40, .ref m0], M1)) rfl hR1 rfl rfl ?_
              refine ps_st (S' := (141, [(0, .ref m0), (1, .int (nI k))], [.ref m0, .ref (q 21), .int 40, .ref m0], M1)) rfl rfl rfl ?_
              refine pr_int (j := 51) (S' := (144, [(0, .ref m0), (1, .int (nI k))], [.int 0, .ref (q 21), .int 40, .ref m0], M1)) rfl hR1 rfl hl51 rfl ?_
              refine ps_st (S' := (145, [(0, .ref m0), (1, .int (nI k))], [.int (nI k), .int 0, .ref (q 21), .int 40, .ref m0], M1)) rfl rfl rfl ?_
              refine ps_st (S' := (146, [(0, .ref m0), (1, .int (nI k))], [.int (0 + (nI k)), .ref (q 21), .int 40, .ref m0], M1)) rfl rfl rfl ?_
              rw [show (0 : Int32) + (nI k) = (nI k) from Int32.zero_add _]
              show pl _ _ _ (_, [(0, .ref m0), (1, .int (nI k))], [.int (nI k), .ref (q 21), .int 40, .ref m0], M1) _
              refine pr_ld (a := 21) (j := k) (y := (nI p)) (S' := (147, [(0, .ref m0), (1, .int (nI k))], [.int (nI p), .int 40, .ref m0], M1)) rfl hR1 rfl (by omega) (fun _ => by rw [hP1.2.1 k (by omega), hk9]; rfl) rfl (fun i1_146 => ?_)
              refine pl_call (a := [.ref m0, .int 40, .int (nI p)]) (rest := []) rfl rfl rfl (rd_wrong (x1 := 40) (x2 := (nI p)) hR1) (fun v290 M291 q292 => ?_)
              obtain ⟨I293, R294, rfl, hR295, hI296, hX297, hi298, hi299⟩ := q292
              have hi300 := (hI296 51 (by decide)).trans hl51
              have hi301 := (hI296 52 (by decide)).trans hl52
              have hi302 := (hI296 53 (by decide)).trans hl53
              have hi303 := (hI296 71 (by decide)).trans hl71
              have hF_304 := hF1.mono (cIx hI296 (by decide)) (cRx hX297 (by decide))
              have hY_305 := hY1.mono (cIx hI296 (by decide)) (cRx hX297 (by decide))
              have hP_306 := hP1.mono (cIx hI296 (by decide)) (cRx hX297 (by decide))
              have hEI307 := hEI1.tr hI296 (by decide)
              have hER308 := hER1.tr hX297 (by decide)
              show pl _ _ _ (150, [(0, .ref m0), (1, .int (nI k))], [.int 0], M291) _
              exact ps_ret rfl rfl (Or.inr ⟨(40, p), I293, R294, by
                  rw [hr, ← hs, chkB_st (k := k) (by omega), if_pos (by omega), tp_is hk9], rfl, hR295, hEI307, hER308, hi298, hi299⟩)
          · have c_111 : ¬ ((nI (tg f E k)) = 17) := of_decide_eq_false c_111
            have n_111 : ¬ (tg f E k = 17) := fun h9 => c_111 ((eq_nI (p := tg f E k) (n := 17) (Nat.lt_trans (tg_lt _ _ _) (by decide)) (by decide)).mpr h9)
            refine ps_st (S' := (115, [(2, .int (nI (tg f E k))), (0, .ref m0), (1, .int (nI k))], [.int (nI (tg f E k))], M1)) rfl rfl rfl ?_
            refine ps_st (S' := (117, [(2, .int (nI (tg f E k))), (0, .ref m0), (1, .int (nI k))], [.int 18, .int (nI (tg f E k))], M1)) rfl rfl rfl ?_
            refine ps_if2 (S1 := (151, [(0, .ref m0), (1, .int (nI k))], [], M1)) (S2 := (120, [(0, .ref m0), (1, .int (nI k))], [], M1)) rfl rfl rfl (fun c_117 => ?_) (fun c_117 => ?_)
            · have c_117 : ¬ (nI (tg f E k)) = 18 := of_decide_eq_true c_117
              have n_117 : ¬ (tg f E k = 18) := fun h9 => c_117 ((eq_nI (p := tg f E k) (n := 18) (Nat.lt_trans (tg_lt _ _ _) (by decide)) (by decide)).mpr h9)
              refine ps_st (S' := (154, [(1, .int ((nI k) + 1)), (0, .ref m0)], [], M1)) rfl rfl rfl ?_
              rw [nI_add1 (p := k) (k := 1) (x := 1) rfl (by omega)]
              show pl _ _ _ (_, [(1, .int (nI (k + 1))), (0, .ref m0)], [], M1) _
              refine ps_st (S' := (94, [(0, .ref m0), (1, .int (nI (k + 1)))], [], M1)) rfl rfl rfl ?_
              exact ih.2 (N) (mj) (bc) (k + 1) (E) (tx) (cN) (A) M1 I1 R1 hR1 hEI1 hER1 hl51 hl52 hl53 hl71 hF1 hY1 hP1 (hEP) (hN) (hmj) (hbc) (by omega) (hr) (by
                  rw [← hs, chkB_st (k := k) (by omega), if_neg (by omega)])
            · have c_117 : ¬ (¬ (nI (tg f E k)) = 18) := of_decide_eq_false c_117
              have n_117 : tg f E k = 18 := (eq_nI (p := tg f E k) (n := 18) (Nat.lt_trans (tg_lt _ _ _) (by decide)) (by decide)).mp (Decidable.not_not.mp c_117)
              refine ps_st (S' := (121, [(0, .ref m0), (1, .int (nI k))], [.ref m0], M1)) rfl rfl rfl ?_
              refine ps_st (S' := (122, [(0, .ref m0), (1, .int (nI k))], [.int (nI k), .ref m0], M1)) rfl rfl rfl ?_
              refine ps_st (S' := (123, [(0, .ref m0), (1, .int (nI k))], [.int 1, .int (nI k), .ref m0], M1)) rfl rfl rfl ?_
              refine pl_call (a := [.ref m0, .int (nI k), .int 1]) (rest := []) rfl rfl rfl (rd_idx1 (n := n) (f := f) (tx := tx) (cN := cN) (A := A) (N := N) (mj := mj) (E := E) (k := k) hR1 hl51 hl52 hl53 hF1 hY1 hP1 (hEP) (hN) (hmj) (by omega)) (fun v309 M310 q311 => ?_)
              obtain ⟨rfl, rfl⟩ := q311
              show pl _ _ _ (126, [(0, .ref m0), (1, .int (nI k))], [.int (nI (fi f E k))], M1) _
              have hix_123 := fi_lt f E k
              refine ps_st (S' := (127, [(0, .ref m0), (1, .int (nI k))], [.ref m0, .int (nI (fi f E k))], M1)) rfl rfl rfl ?_
              refine pr_int (j := 71) (S' := (130, [(0, .ref m0), (1, .int (nI k))], [.int (nI bc), .int (nI (fi f E k))], M1)) rfl hR1 rfl hl71 rfl ?_
              refine ps_if2 (S1 := (151, [(0, .ref m0), (1, .int (nI k))], [], M1)) (S2 := (133, [(0, .ref m0), (1, .int (nI k))], [], M1)) rfl rfl rfl (fun c_130 => ?_) (fun c_130 => ?_)
              · have c_130 : (nI (fi f E k)) < (nI bc) := of_decide_eq_true c_130
                have n_130 : fi f E k < bc := (lt_nI (p := fi f E k) (n := bc) (Nat.lt_trans (fi_lt _ _ _) (by decide)) (by omega)).mp c_130
                refine ps_st (S' := (154, [(1, .int ((nI k) + 1)), (0, .ref m0)], [], M1)) rfl rfl rfl ?_
                rw [nI_add1 (p := k) (k := 1) (x := 1) rfl (by omega)]
                show pl _ _ _ (_, [(1, .int (nI (k + 1))), (0, .ref m0)], [], M1) _
                refine ps_st (S' := (94, [(0, .ref m0), (1, .int (nI (k + 1)))], [], M1)) rfl rfl rfl ?_
                exact ih.2 (N) (mj) (bc) (k + 1) (E) (tx) (cN) (A) M1 I1 R1 hR1 hEI1 hER1 hl51 hl52 hl53 hl71 hF1 hY1 hP1 (hEP) (hN) (hmj) (hbc) (by omega) (hr) (by
                    rw [← hs, chkB_st (k := k) (by omega), if_neg (by omega)])
              · have c_130 : ¬ ((nI (fi f E k)) < (nI bc)) := of_decide_eq_false c_130
                have n_130 : ¬ (fi f E k < bc) := fun h9 => c_130 ((lt_nI (p := fi f E k) (n := bc) (Nat.lt_trans (fi_lt _ _ _) (by decide)) (by omega)).mpr h9)
                obtain ⟨p, hk9, hb9⟩ := tg_lk (f := f) (E := E) (k := k) (by omega)
                have hep9 := hEP k p hk9
                refine ps_st (S' := (134, [(0, .ref m0), (1, .int (nI k))], [.ref m0], M1)) rfl rfl rfl ?_
                refine ps_st (S' := (136, [(0, .ref m0), (1, .int (nI k))], [.int 40, .ref m0], M1)) rfl rfl rfl ?_
                refine ps_st (S' := (137, [(0, .ref m0), (1, .int (nI k))], [.ref m0, .int 40, .ref m0], M1)) rfl rfl rfl ?_
                refine pr_ref (j := 21) (S' := (140, [(0, .ref m0), (1, .int (nI k))], [.ref (q 21), .int 40, .ref m0], M1)) rfl hR1 rfl rfl ?_
                refine ps_st (S' := (141, [(0, .ref m0), (1, .int (nI k))], [.ref m0, .ref (q 21), .int 40, .ref m0], M1)) rfl rfl rfl ?_
                refine pr_int (j := 51) (S' := (144, [(0, .ref m0), (1, .int (nI k))], [.int 0, .ref (q 21), .int 40, .ref m0], M1)) rfl hR1 rfl hl51 rfl ?_
                refine ps_st (S' := (145, [(0, .ref m0), (1, .int (nI k))], [.int (nI k), .int 0, .ref (q 21), .int 40, .ref m0], M1)) rfl rfl rfl ?_
                refine ps_st (S' := (146, [(0, .ref m0), (1, .int (nI k))], [.int (0 + (nI k)), .ref (q 21), .int 40, .ref m0], M1)) rfl rfl rfl ?_
                rw [show (0 : Int32) + (nI k) = (nI k) from Int32.zero_add _]
                show pl _ _ _ (_, [(0, .ref m0), (1, .int (nI k))], [.int (nI k), .ref (q 21), .int 40, .ref m0], M1) _
                refine pr_ld (a := 21) (j := k) (y := (nI p)) (S' := (147, [(0, .ref m0), (1, .int (nI k))], [.int (nI p), .int 40, .ref m0], M1)) rfl hR1 rfl (by omega) (fun _ => by rw [hP1.2.1 k (by omega), hk9]; rfl) rfl (fun i1_146 => ?_)
                refine pl_call (a := [.ref m0, .int 40, .int (nI p)]) (rest := []) rfl rfl rfl (rd_wrong (x1 := 40) (x2 := (nI p)) hR1) (fun v312 M313 q314 => ?_)
                obtain ⟨I315, R316, rfl, hR317, hI318, hX319, hi320, hi321⟩ := q314
                have hi322 := (hI318 51 (by decide)).trans hl51
                have hi323 := (hI318 52 (by decide)).trans hl52
                have hi324 := (hI318 53 (by decide)).trans hl53
                have hi325 := (hI318 71 (by decide)).trans hl71
                have hF_326 := hF1.mono (cIx hI318 (by decide)) (cRx hX319 (by decide))
                have hY_327 := hY1.mono (cIx hI318 (by decide)) (cRx hX319 (by decide))
                have hP_328 := hP1.mono (cIx hI318 (by decide)) (cRx hX319 (by decide))
                have hEI329 := hEI1.tr hI318 (by decide)
                have hER330 := hER1.tr hX319 (by decide)
                show pl _ _ _ (150, [(0, .ref m0), (1, .int (nI k))], [.int 0], M313) _
                exact ps_ret rfl rfl (Or.inr ⟨(40, p), I315, R316, by
                    rw [hr, ← hs, chkB_st (k := k) (by omega), if_pos (by omega), tp_is hk9], rfl, hR317, hEI329, hER330, hi320, hi321⟩)
  refine ps_st (S' := (1, [(0, .ref m0)], [.ref m0], M)) rfl rfl rfl ?_
  refine ps_st (S' := (2, [(0, .ref m0)], [.int (-1), .ref m0], M)) rfl rfl rfl ?_
  refine pr_put (j := 67) rfl hR rfl (fun M331 I332 hR333 hi334 hI335 => ?_)
  have hi336 := (hI335 20 (by decide)).trans hi20
  have hi337 := (hI335 25 (by decide)).trans hi25
  have hi338 := (hI335 26 (by decide)).trans hi26
  have hi339 := (hI335 9 (by decide)).trans hi9
  have hi340 := (hI335 10 (by decide)).trans hi10
  have hi341 := (hI335 11 (by decide)).trans hi11
  have hF_342 := hF.mono (pIx hI335 (by decide)) (fun _ _ => rfl)
  have hY_343 := hY.mono (pIx hI335 (by decide)) (fun _ _ => rfl)
  have hK_344 := hK.mono (pIx hI335 (by decide)) (fun _ _ => rfl)
  have hEI345 := hEI.put hI335 (by decide)
  show pl _ _ _ (5, [(0, .ref m0)], [], M331) _
  refine ps_st (S' := (6, [(0, .ref m0)], [.ref m0], M331)) rfl rfl rfl ?_
  refine ps_st (S' := (7, [(0, .ref m0)], [.int 0, .ref m0], M331)) rfl rfl rfl ?_
  refine pr_put (j := 68) rfl hR333 rfl (fun M346 I347 hR348 hi349 hI350 => ?_)
  have hi351 := (hI350 20 (by decide)).trans hi336
  have hi352 := (hI350 25 (by decide)).trans hi337
  have hi353 := (hI350 26 (by decide)).trans hi338
  have hi354 := (hI350 9 (by decide)).trans hi339
  have hi355 := (hI350 10 (by decide)).trans hi340
  have hi356 := (hI350 11 (by decide)).trans hi341
  have hi357 := (hI350 67 (by decide)).trans hi334
  have hF_358 := hF_342.mono (pIx hI350 (by decide)) (fun _ _ => rfl)
  have hY_359 := hY_343.mono (pIx hI350 (by decide)) (fun _ _ => rfl)
  have hK_360 := hK_344.mono (pIx hI350 (by decide)) (fun _ _ => rfl)
  have hEI361 := hEI345.put hI350 (by decide)
  show pl _ _ _ (10, [(0, .ref m0)], [], M346) _
  refine ps_st (S' := (11, [(0, .ref m0)], [.ref m0], M346)) rfl rfl rfl ?_
  refine ps_st (S' := (12, [(0, .ref m0)], [.int 0, .ref m0], M346)) rfl rfl rfl ?_
  refine pr_put (j := 69) rfl hR348 rfl (fun M362 I363 hR364 hi365 hI366 => ?_)
  have hi367 := (hI366 20 (by decide)).trans hi351
  have hi368 := (hI366 25 (by decide)).trans hi352
  have hi369 := (hI366 26 (by decide)).trans hi353
  have hi370 := (hI366 9 (by decide)).trans hi354
  have hi371 := (hI366 10 (by decide)).trans hi355
  have hi372 := (hI366 11 (by decide)).trans hi356
  have hi373 := (hI366 67 (by decide)).trans hi357
  have hi374 := (hI366 68 (by decide)).trans hi349
  have hF_375 := hF_358.mono (pIx hI366 (by decide)) (fun _ _ => rfl)
  have hY_376 := hY_359.mono (pIx hI366 (by decide)) (fun _ _ => rfl)
  have hK_377 := hK_360.mono (pIx hI366 (by decide)) (fun _ _ => rfl)
  have hEI378 := hEI361.put hI366 (by decide)
  show pl _ _ _ (15, [(0, .ref m0)], [], M362) _
  refine ps_st (S' := (16, [(0, .ref m0)], [.ref m0], M362)) rfl rfl rfl ?_
  refine ps_st (S' := (17, [(0, .ref m0)], [.int 0, .ref m0], M362)) rfl rfl rfl ?_
  refine pr_put (j := 65) rfl hR364 rfl (fun M379 I380 hR381 hi382 hI383 => ?_)
  have hi384 := (hI383 20 (by decide)).trans hi367
  have hi385 := (hI383 25 (by decide)).trans hi368
  have hi386 := (hI383 26 (by decide)).trans hi369
  have hi387 := (hI383 9 (by decide)).trans hi370
  have hi388 := (hI383 10 (by decide)).trans hi371
  have hi389 := (hI383 11 (by decide)).trans hi372
  have hi390 := (hI383 67 (by decide)).trans hi373
  have hi391 := (hI383 68 (by decide)).trans hi374
  have hi392 := (hI383 69 (by decide)).trans hi365
  have hF_393 := hF_375.mono (pIx hI383 (by decide)) (fun _ _ => rfl)
  have hY_394 := hY_376.mono (pIx hI383 (by decide)) (fun _ _ => rfl)
  have hK_395 := hK_377.mono (pIx hI383 (by decide)) (fun _ _ => rfl)
  have hEI396 := hEI378.put hI383 (by decide)
  show pl _ _ _ (20, [(0, .ref m0)], [], M379) _
  refine ps_st (S' := (21, [(0, .ref m0)], [.ref m0], M379)) rfl rfl rfl ?_
  refine ps_st (S' := (22, [(0, .ref m0)], [.int 0, .ref m0], M379)) rfl rfl rfl ?_
  refine pr_put (j := 66) rfl hR381 rfl (fun M397 I398 hR399 hi400 hI401 => ?_)
  have hi402 := (hI401 20 (by decide)).trans hi384
  have hi403 := (hI401 25 (by decide)).trans hi385
  have hi404 := (hI401 26 (by decide)).trans hi386
  have hi405 := (hI401 9 (by decide)).trans hi387
  have hi406 := (hI401 10 (by decide)).trans hi388
  have hi407 := (hI401 11 (by decide)).trans hi389
  have hi408 := (hI401 67 (by decide)).trans hi390
  have hi409 := (hI401 68 (by decide)).trans hi391
  have hi410 := (hI401 69 (by decide)).trans hi392
  have hi411 := (hI401 65 (by decide)).trans hi382
  have hF_412 := hF_393.mono (pIx hI401 (by decide)) (fun _ _ => rfl)
  have hY_413 := hY_394.mono (pIx hI401 (by decide)) (fun _ _ => rfl)
  have hK_414 := hK_395.mono (pIx hI401 (by decide)) (fun _ _ => rfl)
  have hEI415 := hEI396.put hI401 (by decide)
  show pl _ _ _ (25, [(0, .ref m0)], [], M397) _
  refine ps_st (S' := (26, [(0, .ref m0)], [.ref m0], M397)) rfl rfl rfl ?_
  refine ps_st (S' := (27, [(0, .ref m0)], [.int (-1), .ref m0], M397)) rfl rfl rfl ?_
  refine pr_put (j := 70) rfl hR399 rfl (fun M416 I417 hR418 hi419 hI420 => ?_)
  have hi421 := (hI420 20 (by decide)).trans hi402
  have hi422 := (hI420 25 (by decide)).trans hi403
  have hi423 := (hI420 26 (by decide)).trans hi404
  have hi424 := (hI420 9 (by decide)).trans hi405
  have hi425 := (hI420 10 (by decide)).trans hi406
  have hi426 := (hI420 11 (by decide)).trans hi407
  have hi427 := (hI420 67 (by decide)).trans hi408
  have hi428 := (hI420 68 (by decide)).trans hi409
  have hi429 := (hI420 69 (by decide)).trans hi410
  have hi430 := (hI420 65 (by decide)).trans hi411
  have hi431 := (hI420 66 (by decide)).trans hi400
  have hF_432 := hF_412.mono (pIx hI420 (by decide)) (fun _ _ => rfl)
  have hY_433 := hY_413.mono (pIx hI420 (by decide)) (fun _ _ => rfl)
  have hK_434 := hK_414.mono (pIx hI420 (by decide)) (fun _ _ => rfl)
  have hEI435 := hEI415.put hI420 (by decide)
  show pl _ _ _ (30, [(0, .ref m0)], [], M416) _
  refine ps_st (S' := (31, [(0, .ref m0)], [.ref m0], M416)) rfl rfl rfl ?_
  refine ps_st (S' := (32, [(0, .ref m0)], [.int 0, .ref m0], M416)) rfl rfl rfl ?_
  refine pr_put (j := 71) rfl hR418 rfl (fun M436 I437 hR438 hi439 hI440 => ?_)
  have hi441 := (hI440 20 (by decide)).trans hi421
  have hi442 := (hI440 25 (by decide)).trans hi422
  have hi443 := (hI440 26 (by decide)).trans hi423
  have hi444 := (hI440 9 (by decide)).trans hi424
  have hi445 := (hI440 10 (by decide)).trans hi425
  have hi446 := (hI440 11 (by decide)).trans hi426
  have hi447 := (hI440 67 (by decide)).trans hi427
  have hi448 := (hI440 68 (by decide)).trans hi428
  have hi449 := (hI440 69 (by decide)).trans hi429
  have hi450 := (hI440 65 (by decide)).trans hi430
  have hi451 := (hI440 66 (by decide)).trans hi431
  have hi452 := (hI440 70 (by decide)).trans hi419
  have hF_453 := hF_432.mono (pIx hI440 (by decide)) (fun _ _ => rfl)
  have hY_454 := hY_433.mono (pIx hI440 (by decide)) (fun _ _ => rfl)
  have hK_455 := hK_434.mono (pIx hI440 (by decide)) (fun _ _ => rfl)
  have hEI456 := hEI435.put hI440 (by decide)
  show pl _ _ _ (35, [(0, .ref m0)], [], M436) _
  refine ps_st (S' := (36, [(0, .ref m0)], [.ref m0], M436)) rfl rfl rfl ?_
  refine ps_st (S' := (37, [(0, .ref m0)], [.int (-1), .ref m0], M436)) rfl rfl rfl ?_
  refine pr_put (j := 72) rfl hR438 rfl (fun M457 I458 hR459 hi460 hI461 => ?_)
  have hi462 := (hI461 20 (by decide)).trans hi441
  have hi463 := (hI461 25 (by decide)).trans hi442
  have hi464 := (hI461 26 (by decide)).trans hi443
  have hi465 := (hI461 9 (by decide)).trans hi444
  have hi466 := (hI461 10 (by decide)).trans hi445
  have hi467 := (hI461 11 (by decide)).trans hi446
  have hi468 := (hI461 67 (by decide)).trans hi447
  have hi469 := (hI461 68 (by decide)).trans hi448
  have hi470 := (hI461 69 (by decide)).trans hi449
  have hi471 := (hI461 65 (by decide)).trans hi450
  have hi472 := (hI461 66 (by decide)).trans hi451
  have hi473 := (hI461 70 (by decide)).trans hi452
  have hi474 := (hI461 71 (by decide)).trans hi439
  have hF_475 := hF_453.mono (pIx hI461 (by decide)) (fun _ _ => rfl)
  have hY_476 := hY_454.mono (pIx hI461 (by decide)) (fun _ _ => rfl)
  have hK_477 := hK_455.mono (pIx hI461 (by decide)) (fun _ _ => rfl)
  have hEI478 := hEI456.put hI461 (by decide)
  show pl _ _ _ (40, [(0, .ref m0)], [], M457) _
  refine ps_st (S' := (41, [(0, .ref m0)], [.ref m0], M457)) rfl rfl rfl ?_
  refine pl_call (a := [.ref m0]) (rest := []) rfl rfl rfl (rd_readFile (n := n) (f := f) (tx := tx) (cN := cN) (A := A) hR459 hi462 hF_475 hY_476) (fun v479 M480 q481 => ?_)
  rcases q481 with q481 | q481
  · skip
    obtain ⟨E482, p1483, pF484, pM485, pA486, tx1487, cN1488, A1489, I490, R491, q41_s, q41_k, q41_c, q41_f, q41_m, q41_a, rfl, hR492, hI493, hX494, hi495, hi496, hi497, hi498, hi499, hi500, hi501, hY_502, hP_503⟩ := q481
    have hi504 := (hI493 25 (by decide)).trans hi463
    have hi505 := (hI493 26 (by decide)).trans hi464
    have hi506 := (hI493 9 (by decide)).trans hi465
    have hi507 := (hI493 10 (by decide)).trans hi466
    have hi508 := (hI493 11 (by decide)).trans hi467
    have hi509 := (hI493 67 (by decide)).trans hi468
    have hi510 := (hI493 68 (by decide)).trans hi469
    have hi511 := (hI493 69 (by decide)).trans hi470
    have hi512 := (hI493 65 (by decide)).trans hi471
    have hi513 := (hI493 66 (by decide)).trans hi472
    have hi514 := (hI493 70 (by decide)).trans hi473
    have hi515 := (hI493 71 (by decide)).trans hi474
    have hi516 := (hI493 72 (by decide)).trans hi460
    have hF_517 := hF_475.mono (cIx hI493 (by decide)) (cRx hX494 (by decide))
    have hK_518 := hK_477.mono (cIx hI493 (by decide)) (cRx hX494 (by decide))
    have hEI519 := hEI478.tr hI493 (by decide)
    have hER520 := hER.tr hX494 (by decide)
    show pl _ _ _ (44, [(0, .ref m0)], [.int 1], M480) _
    refine ps_if (S1 := (75, [], [], M480)) (S2 := (47, [(0, .ref m0)], [], M480)) rfl rfl rfl (fun c_44 => ?_) (fun c_44 => ?_)
    · exact absurd (of_decide_eq_true c_44) (by decide)
    exact (LL kf).1 (by2 f 8) (by2 f 6) (p1483) (pF484) (pM485) (pA486) (E482) (tx1487) (cN1488) (A1489) M480 I490 R491 hR492 hEI519 hER520 hi495 hi496 hi497 hi498 hi499 hi500 hi501 hi504 hi505 hi515 hi513 hi506 hi507 hi508 hF_517 hY_502 hP_503 hK_518 (rfl) (rfl) (q41_s) (⟨Nat.lt_of_lt_of_le hs1.1 q41_k.1, (q41_k.2 _ hs1.1).trans hs1.2⟩) (⟨Nat.lt_of_lt_of_le hs2.1 q41_k.1, (q41_k.2 _ hs2.1).trans hs2.2⟩) (⟨Nat.lt_of_lt_of_le hs3.1 q41_k.1, (q41_k.2 _ hs3.1).trans hs3.2⟩) (q41_c) (q41_f) (q41_m) (q41_a)
  · skip
    obtain ⟨e521, I522, R523, q41_s, rfl, hR524, hI525, hX526, hi527, hi528⟩ := q481
    have hi529 := (hI525 25 (by decide)).trans hi463
    have hi530 := (hI525 26 (by decide)).trans hi464
    have hi531 := (hI525 9 (by decide)).trans hi465
    have hi532 := (hI525 10 (by decide)).trans hi466
    have hi533 := (hI525 11 (by decide)).trans hi467
    have hi534 := (hI525 67 (by decide)).trans hi468
    have hi535 := (hI525 68 (by decide)).trans hi469
    have hi536 := (hI525 69 (by decide)).trans hi470
    have hi537 := (hI525 65 (by decide)).trans hi471
    have hi538 := (hI525 66 (by decide)).trans hi472
    have hi539 := (hI525 70 (by decide)).trans hi473
    have hi540 := (hI525 71 (by decide)).trans hi474
    have hi541 := (hI525 72 (by decide)).trans hi460
    have hF_542 := hF_475.mono (cIx hI525 (by decide)) (cRx hX526 (by decide))
    have hK_543 := hK_477.mono (cIx hI525 (by decide)) (cRx hX526 (by decide))
    have hEI544 := hEI478.tr hI525 (by decide)
    have hER545 := hER.tr hX526 (by decide)
    show pl _ _ _ (44, [(0, .ref m0)], [.int 0], M480) _
    refine ps_if (S1 := (75, [], [], M480)) (S2 := (47, [(0, .ref m0)], [], M480)) rfl rfl rfl (fun c_44 => ?_) (fun c_44 => ?_)
    rotate_left
    · exact absurd (by decide) (of_decide_eq_false c_44)
    refine ps_st (S' := (76, [], [.int 0], M480)) rfl rfl rfl ?_
    exact ps_ret rfl rfl (Or.inr ⟨e521, I522, R523, by
        exact s_read_1 q41_s, rfl, hR524, hEI544, hER545, hi527, hi528⟩)
set_option maxHeartbeats 4000000 in
theorem rd_parse13 {g : xe_G} {m0 : Nat} {q : Nat → Nat} {z : Nat × Nat} {I : rI} {R : rR} {M : mi_H} {n : Nat} {f : Nat → Int32} (hR : RS g m0 q z I R M) (hi49 : I 49 = some 0) (hB : BX 13 n f I R) (hK : KX I R) (hn : n ≤ 65540) : pt (mT g) 230 [.ref m0, .ref (q 13), .int (nI n)] M (fun v M' => (∃  (I' : rI) (R' : rR), (s_read f n = none) ∧ v = some (.int 1) ∧ RS g m0 q z I' R' M' ∧ eqI [3, 8, 9, 10, 11, 16, 20, 25, 26, 47, 48, 50, 51, 52, 53, 54, 55, 56, 57, 58, 59, 60, 61, 65, 66, 67, 68, 69, 70, 71, 72] I I' ∧ eqR [1, 2, 4, 5, 6, 7, 12, 21, 22, 27, 28, 29, 30, 31, 32, 33, 34, 35, 36, 37, 38, 39, 40, 41, 42, 43, 44, 45, 46] R R') ∨ (∃ (e9 : Nat × Nat) (I' : rI) (R' : rR), (s_read f n = some e9) ∧ v = some (.int 0) ∧ RS g m0 q z I' R' M' ∧ eqI [3, 8, 9, 10, 11, 16, 20, 25, 26, 47, 48, 50, 51, 52, 53, 54, 55, 56, 57, 58, 59, 60, 61, 65, 66, 67, 68, 69, 70, 71, 72] I I' ∧ eqR [1, 2, 4, 5, 6, 7, 12, 21, 22, 27, 28, 29, 30, 31, 32, 33, 34, 35, 36, 37, 38, 39, 40, 41, 42, 43, 44, 45, 46] R R' ∧ I' 47 = some (nI e9.1) ∧ I' 48 = some (nI e9.2))) := by
  refine pt_in (b := mb_230 g) rfl (fun kf => ?_)
  show pl (mT g) kf (mb_230 g).2 (0, [(0, .ref m0), (1, .ref (q 13)), (2, .int (nI n))], [], M) _
  have hEI : eqI [3, 8, 9, 10, 11, 16, 20, 25, 26, 47, 48, 50, 51, 52, 53, 54, 55, 56, 57, 58, 59, 60, 61, 65, 66, 67, 68, 69, 70, 71, 72] I I := eqI.rf
  have hER : eqR [1, 2, 4, 5, 6, 7, 12, 21, 22, 27, 28, 29, 30, 31, 32, 33, 34, 35, 36, 37, 38, 39, 40, 41, 42, 43, 44, 45, 46] R R := eqR.rf
  have LL : ∀ (kf : Nat), (∀ (i : Nat) (tx : List (List Nat)) (cN : Nat) (A : Nat → Nat) (s1 s2 s3 : Nat) (M1 : mi_H) (I1 : rI) (R1 : rR), (RS g m0 q z I1 R1 M1) → (eqI [3, 8, 9, 10, 11, 16, 20, 25, 26, 47, 48, 50, 51, 52, 53, 54, 55, 56, 57, 58, 59, 60, 61, 65, 66, 67, 68, 69, 70, 71, 72] I I1) → (eqR [1, 2, 4, 5, 6, 7, 12, 21, 22, 27, 28, 29, 30, 31, 32, 33, 34, 35, 36, 37, 38, 39, 40, 41, 42, 43, 44, 45, 46] R R1) → (I1 49 = some 0) → (I1 16 = some (nI n)) → (I1 20 = some 0) → (I1 25 = some 0) → (I1 26 = some 0) → (I1 9 = some (nI s1)) → (I1 10 = some (nI s2)) → (I1 11 = some (nI s3)) → (BX 13 n f I1 R1) → (KX I1 R1) → (SYT tx cN A I1 R1) → (BX 12 i f I1 R1) → (i ≤ n) → (s1 < tx.length ∧ tx.getD s1 [] = ltx 25) → (s2 < tx.length ∧ tx.getD s2 [] = ltx 26) → (s3 < tx.length ∧ tx.getD s3 [] = ltx 27) →  pl (mT g) kf (mb_230 g).2 (11, [(0, .ref m0), (1, .ref (q 13)), (2, .int (nI n)), (3, .int (nI i))], [], M1) (fun v M' => (∃  (I' : rI) (R' : rR), (s_read f n = none) ∧ v = some (.int 1) ∧ RS g m0 q z I' R' M' ∧ eqI [3, 8, 9, 10, 11, 16, 20, 25, 26, 47, 48, 50, 51, 52, 53, 54, 55, 56, 57, 58, 59, 60, 61, 65, 66, 67, 68, 69, 70, 71, 72] I I' ∧ eqR [1, 2, 4, 5, 6, 7, 12, 21, 22, 27, 28, 29, 30, 31, 32, 33, 34, 35, 36, 37, 38, 39, 40, 41, 42, 43, 44, 45, 46] R R') ∨ (∃ (e9 : Nat × Nat) (I' : rI) (R' : rR), (s_read f n = some e9) ∧ v = some (.int 0) ∧ RS g m0 q z I' R' M' ∧ eqI [3, 8, 9, 10, 11, 16, 20, 25, 26, 47, 48, 50, 51, 52, 53, 54, 55, 56, 57, 58, 59, 60, 61, 65, 66, 67, 68, 69, 70, 71, 72] I I' ∧ eqR [1, 2, 4, 5, 6, 7, 12, 21, 22, 27, 28, 29, 30, 31, 32, 33, 34, 35, 36, 37, 38, 39, 40, 41, 42, 43, 44, 45, 46] R R' ∧ I' 47 = some (nI e9.1) ∧ I' 48 = some (nI e9.2)))) := by
    intro kf
    induction kf with
    | zero => exact (by intros; exact pl_0)
    | succ kf ih =>
      intro i tx cN A s1 s2 s3 M1 I1 R1 hR1 hEI1 hER1 hl49 hl16 hl20 hl25 hl26 hl9 hl10 hl11 hB1 hK1 hY1 hC1 hi hs1 hs2 hs3
      refine ps_st1 (S' := (12, [(0, .ref m0), (1, .ref (q 13)), (2, .int (nI n)), (3, .int (nI i))], [.int (nI i)], M1)) rfl rfl rfl ?_
      refine ps_st (S' := (13, [(0, .ref m0), (1, .ref (q 13)), (2, .int (nI n)), (3, .int (nI i))], [.int (nI n), .int (nI i)], M1)) rfl rfl rfl ?_
      refine ps_if2 (S1 := (31, [(0, .ref m0), (1, .ref (q 13)), (2, .int (nI n)), (3, .int (nI i))], [], M1)) (S2 := (16, [(0, .ref m0), (1, .ref (q 13)), (2, .int (nI n)), (3, .int (nI i))], [], M1)) rfl rfl rfl (fun c_13 => ?_) (fun c_13 => ?_)
      · have c_13 : (nI n) ≤ (nI i) := of_decide_eq_true c_13
        have n_13 : n ≤ i := (le_nI (p := n) (n := i) (by omega) (by omega)).mp c_13
        refine ps_st (S' := (32, [(0, .ref m0), (1, .ref (q 13)), (2, .int (nI n)), (3, .int (nI i))], [.ref m0], M1)) rfl rfl rfl ?_
        have hF9 : FK n f I1 R1 := ⟨hn, hl49, hl16, fun i9 h9 => (hC1 i9 (by omega)).1⟩
        refine pl_call (a := [.ref m0]) (rest := []) rfl rfl rfl (rd_checkFile (n := n) (f := f) (tx := tx) (cN := cN) (A := A) (s1 := s1) (s2 := s2) (s3 := s3) hR1 hl20 hl25 hl26 hl9 hl10 hl11 hF9 hY1 hK1 (hs1) (hs2) (hs3)) (fun v1 M2 q3 => ?_)
        rcases q3 with q3 | q3
        · skip
          obtain ⟨I4, R5, q32_s, rfl, hR6, hI7, hX8⟩ := q3
          have hi9 := (hI7 49 (by decide)).trans hl49
          have hi10 := (hI7 16 (by decide)).trans hl16
          have hi11 := (hI7 9 (by decide)).trans hl9
          have hi12 := (hI7 10 (by decide)).trans hl10
          have hi13 := (hI7 11 (by decide)).trans hl11
          have hB_14 := hB1.mono (cIx hI7 (by decide)) (cRx hX8 (by decide))
          have hK_15 := hK1.mono (cIx hI7 (by decide)) (cRx hX8 (by decide))
          have hC_16 := hC1.mono (cIx hI7 (by decide)) (cRx hX8 (by decide))
          have hF_17 := hF9.mono (cIx hI7 (by decide)) (cRx hX8 (by decide))
          have hEI18 := hEI1.tr hI7 (by decide)
          have hER19 := hER1.tr hX8 (by decide)
          show pl _ _ _ (35, [(0, .ref m0), (1, .ref (q 13)), (2, .int (nI n)), (3, .int (nI i))], [.int 1], M2) _
          exact ps_ret rfl rfl (Or.inl ⟨I4, R5, q32_s, rfl, hR6, hEI18, hER19⟩)
        · skip
          obtain ⟨e920, I21, R22, q32_s, rfl, hR23, hI24, hX25, hi26, hi27⟩ := q3
          have hi28 := (hI24 49 (by decide)).trans hl49
          have hi29 := (hI24 16 (by decide)).trans hl16
          have hi30 := (hI24 9 (by decide)).trans hl9
          have hi31 := (hI24 10 (by decide)).trans hl10
          have hi32 := (hI24 11 (by decide)).trans hl11
          have hB_33 := hB1.mono (cIx hI24 (by decide)) (cRx hX25 (by decide))
          have hK_34 := hK1.mono (cIx hI24 (by decide)) (cRx hX25 (by decide))
          have hC_35 := hC1.mono (cIx hI24 (by decide)) (cRx hX25 (by decide))
          have hF_36 := hF9.mono (cIx hI24 (by decide)) (cRx hX25 (by decide))
          have hEI37 := hEI1.tr hI24 (by decide)
          have hER38 := hER1.tr hX25 (by decide)
          show pl _ _ _ (35, [(0, .ref m0), (1, .ref (q 13)), (2, .int (nI n)), (3, .int (nI i))], [.int 0], M2) _
          exact ps_ret rfl rfl (Or.inr ⟨e920, I21, R22, q32_s, rfl, hR23, hEI37, hER38, hi26, hi27⟩)
      · have c_13 : ¬ ((nI n) ≤ (nI i)) := of_decide_eq_false c_13
        have n_13 : ¬ (n ≤ i) := fun h9 => c_13 ((le_nI (p := n) (n := i) (by omega) (by omega)).mpr h9)
        refine ps_st (S' := (17, [(0, .ref m0), (1, .ref (q 13)), (2, .int (nI n)), (3, .int (nI i))], [.ref m0], M1)) rfl rfl rfl ?_
        refine pr_ref (j := 12) (S' := (20, [(0, .ref m0), (1, .ref (q 13)), (2, .int (nI n)), (3, .int (nI i))], [.ref (q 12)], M1)) rfl hR1 rfl rfl ?_
        refine ps_st (S' := (21, [(0, .ref m0), (1, .ref (q 13)), (2, .int (nI n)), (3, .int (nI i))], [.int (nI i), .ref (q 12)], M1)) rfl rfl rfl ?_
        refine ps_st (S' := (22, [(0, .ref m0), (1, .ref (q 13)), (2, .int (nI n)), (3, .int (nI i))], [.ref (q 13), .int (nI i), .ref (q 12)], M1)) rfl rfl rfl ?_
        refine ps_st (S' := (23, [(0, .ref m0), (1, .ref (q 13)), (2, .int (nI n)), (3, .int (nI i))], [.int (nI i), .ref (q 13), .int (nI i), .ref (q 12)], M1)) rfl rfl rfl ?_
        refine pr_ld (a := 13) (j := i) (y := (f i)) (S' := (24, [(0, .ref m0), (1, .ref (q 13)), (2, .int (nI n)), (3, .int (nI i))], [.int (f i), .int (nI i), .ref (q 12)], M1)) rfl hR1 rfl (by omega) (fun _ => (hB1 i (by omega)).1) rfl (fun i1_23 => ?_)
        refine pr_st (a := 12) (j := i) rfl hR1 rfl (by omega) (fun M39 R40 i1_24 hR41 hS42 => ?_)
        have hB_43 := hB1.mono (fun _ _ => rfl) (rRx hS42 (by decide))
        have hK_44 := hK1.mono (fun _ _ => rfl) (rRx hS42 (by decide))
        have hY_45 := hY1.mono (fun _ _ => rfl) (rRx hS42 (by decide))
        have hER46 := hER1.st hS42 (by decide)
        show pl _ _ _ (25, [(0, .ref m0), (1, .ref (q 13)), (2, .int (nI n)), (3, .int (nI i))], [], M39) _
        have hC_47 : BX 12 (i + 1) f I1 R40 := BX.st hC1 hS42 (hB1 i (by omega)).2 rfl
        refine ps_st (S' := (28, [(3, .int ((nI i) + 1)), (0, .ref m0), (1, .ref (q 13)), (2, .int (nI n))], [], M39)) rfl rfl rfl ?_
        rw [nI_add1 (p := i) (k := 1) (x := 1) rfl (by omega)]
        show pl _ _ _ (_, [(3, .int (nI (i + 1))), (0, .ref m0), (1, .ref (q 13)), (2, .int (nI n))], [], M39) _
        refine ps_st (S' := (11, [(0, .ref m0), (1, .ref (q 13)), (2, .int (nI n)), (3, .int (nI (i + 1)))], [], M39)) rfl rfl rfl ?_
        exact ih (i + 1) (tx) (cN) (A) (s1) (s2) (s3) M39 I1 R40 hR41 hEI1 hER46 hl49 hl16 hl20 hl25 hl26 hl9 hl10 hl11 hB_43 hK_44 hY_45 hC_47 (by omega) (hs1) (hs2) (hs3)
  refine ps_st (S' := (1, [(0, .ref m0), (1, .ref (q 13)), (2, .int (nI n))], [.ref m0], M)) rfl rfl rfl ?_
  refine pl_call (a := [.ref m0]) (rest := []) rfl rfl rfl (rd_clear hR) (fun v48 M49 q50 => ?_)
  obtain ⟨tx51, cN52, A53, s154, s255, s356, I57, R58, q1_s, rfl, hR59, hI60, hX61, hi62, hi63, hi64, hi65, hi66, hi67, hY_68⟩ := q50
  have hi69 := (hI60 49 (by decide)).trans hi49
  have hB_70 := hB.mono (cIx hI60 (by decide)) (cRx hX61 (by decide))
  have hK_71 := hK.mono (cIx hI60 (by decide)) (cRx hX61 (by decide))
  have hEI72 := hEI.tr hI60 (by decide)
  have hER73 := hER.tr hX61 (by decide)
  show pl _ _ _ (4, [(0, .ref m0), (1, .ref (q 13)), (2, .int (nI n))], [], M49) _
  refine ps_st (S' := (5, [(0, .ref m0), (1, .ref (q 13)), (2, .int (nI n))], [.ref m0], M49)) rfl rfl rfl ?_
  refine ps_st (S' := (6, [(0, .ref m0), (1, .ref (q 13)), (2, .int (nI n))], [.int (nI n), .ref m0], M49)) rfl rfl rfl ?_
  refine pr_put (j := 16) rfl hR59 rfl (fun M74 I75 hR76 hi77 hI78 => ?_)
  have hi79 := (hI78 49 (by decide)).trans hi69
  have hi80 := (hI78 9 (by decide)).trans hi62
  have hi81 := (hI78 10 (by decide)).trans hi63
  have hi82 := (hI78 11 (by decide)).trans hi64
  have hi83 := (hI78 20 (by decide)).trans hi65
  have hi84 := (hI78 25 (by decide)).trans hi66
  have hi85 := (hI78 26 (by decide)).trans hi67
  have hB_86 := hB_70.mono (pIx hI78 (by decide)) (fun _ _ => rfl)
  have hK_87 := hK_71.mono (pIx hI78 (by decide)) (fun _ _ => rfl)
  have hY_88 := hY_68.mono (pIx hI78 (by decide)) (fun _ _ => rfl)
  have hEI89 := hEI72.put hI78 (by decide)
  show pl _ _ _ (9, [(0, .ref m0), (1, .ref (q 13)), (2, .int (nI n))], [], M74) _
  refine ps_st (S' := (10, [(0, .ref m0), (1, .ref (q 13)), (2, .int (nI n))], [.int 0], M74)) rfl rfl rfl ?_
  refine ps_st (S' := (11, [(0, .ref m0), (1, .ref (q 13)), (2, .int (nI n)), (3, .int 0)], [], M74)) rfl rfl rfl ?_
  have hC0 : BX 12 0 f I75 R58 := fun i9 h9 => absurd h9 (Nat.not_lt_zero _)
  exact (LL kf) (0) (tx51) (cN52) (A53) (s154) (s255) (s356) M74 I75 R58 hR76 hEI89 hER73 hi79 hi77 hi83 hi84 hi85 hi80 hi81 hi82 hB_86 hK_87 hY_88 hC0 (by omega) (⟨q1_s.1, q1_s.2.1⟩) (⟨q1_s.2.2.1, q1_s.2.2.2.1⟩) (⟨q1_s.2.2.2.2.1, q1_s.2.2.2.2.2⟩)
set_option maxHeartbeats 4000000 in
theorem rd_parse14 {g : xe_G} {m0 : Nat} {q : Nat → Nat} {z : Nat × Nat} {I : rI} {R : rR} {M : mi_H} {n : Nat} {f : Nat → Int32} (hR : RS g m0 q z I R M) (hi49 : I 49 = some 0) (hB : BX 14 n f I R) (hK : KX I R) (hn : n ≤ 65540) : pt (mT g) 230 [.ref m0, .ref (q 14), .int (nI n)] M (fun v M' => (∃  (I' : rI) (R' : rR), (s_read f n = none) ∧ v = some (.int 1) ∧ RS g m0 q z I' R' M' ∧ eqI [3, 8, 9, 10, 11, 16, 20, 25, 26, 47, 48, 50, 51, 52, 53, 54, 55, 56, 57, 58, 59, 60, 61, 65, 66, 67, 68, 69, 70, 71, 72] I I' ∧ eqR [1, 2, 4, 5, 6, 7, 12, 21, 22, 27, 28, 29, 30, 31, 32, 33, 34, 35, 36, 37, 38, 39, 40, 41, 42, 43, 44, 45, 46] R R') ∨ (∃ (e9 : Nat × Nat) (I' : rI) (R' : rR), (s_read f n = some e9) ∧ v = some (.int 0) ∧ RS g m0 q z I' R' M' ∧ eqI [3, 8, 9, 10, 11, 16, 20, 25, 26, 47, 48, 50, 51, 52, 53, 54, 55, 56, 57, 58, 59, 60, 61, 65, 66, 67, 68, 69, 70, 71, 72] I I' ∧ eqR [1, 2, 4, 5, 6, 7, 12, 21, 22, 27, 28, 29, 30, 31, 32, 33, 34, 35, 36, 37, 38, 39, 40, 41, 42, 43, 44, 45, 46] R R' ∧ I' 47 = some (nI e9.1) ∧ I' 48 = some (nI e9.2))) := by
  refine pt_in (b := mb_230 g) rfl (fun kf => ?_)
  show pl (mT g) kf (mb_230 g).2 (0, [(0, .ref m0), (1, .ref (q 14)), (2, .int (nI n))], [], M) _
  have hEI : eqI [3, 8, 9, 10, 11, 16, 20, 25, 26, 47, 48, 50, 51, 52, 53, 54, 55, 56, 57, 58, 59, 60, 61, 65, 66, 67, 68, 69, 70, 71, 72] I I := eqI.rf
  have hER : eqR [1, 2, 4, 5, 6, 7, 12, 21, 22, 27, 28, 29, 30, 31, 32, 33, 34, 35, 36, 37, 38, 39, 40, 41, 42, 43, 44, 45, 46] R R := eqR.rf
  have LL : ∀ (kf : Nat), (∀ (i : Nat) (tx : List (List Nat)) (cN : Nat) (A : Nat → Nat) (s1 s2 s3 : Nat) (M1 : mi_H) (I1 : rI) (R1 : rR), (RS g m0 q z I1 R1 M1) → (eqI [3, 8, 9, 10, 11, 16, 20, 25, 26, 47, 48, 50, 51, 52, 53, 54, 55, 56, 57, 58, 59, 60, 61, 65, 66, 67, 68, 69, 70, 71, 72] I I1) → (eqR [1, 2, 4, 5, 6, 7, 12, 21, 22, 27, 28, 29, 30, 31, 32, 33, 34, 35, 36, 37, 38, 39, 40, 41, 42, 43, 44, 45, 46] R R1) → (I1 49 = some 0) → (I1 16 = some (nI n)) → (I1 20 = some 0) → (I1 25 = some 0) → (I1 26 = some 0) → (I1 9 = some (nI s1)) → (I1 10 = some (nI s2)) → (I1 11 = some (nI s3)) → (BX 14 n f I1 R1) → (KX I1 R1) → (SYT tx cN A I1 R1) → (BX 12 i f I1 R1) → (i ≤ n) → (s1 < tx.length ∧ tx.getD s1 [] = ltx 25) → (s2 < tx.length ∧ tx.getD s2 [] = ltx 26) → (s3 < tx.length ∧ tx.getD s3 [] = ltx 27) →  pl (mT g) kf (mb_230 g).2 (11, [(0, .ref m0), (1, .ref (q 14)), (2, .int (nI n)), (3, .int (nI i))], [], M1) (fun v M' => (∃  (I' : rI) (R' : rR), (s_read f n = none) ∧ v = some (.int 1) ∧ RS g m0 q z I' R' M' ∧ eqI [3, 8, 9, 10, 11, 16, 20, 25, 26, 47, 48, 50, 51, 52, 53, 54, 55, 56, 57, 58, 59, 60, 61, 65, 66, 67, 68, 69, 70, 71, 72] I I' ∧ eqR [1, 2, 4, 5, 6, 7, 12, 21, 22, 27, 28, 29, 30, 31, 32, 33, 34, 35, 36, 37, 38, 39, 40, 41, 42, 43, 44, 45, 46] R R') ∨ (∃ (e9 : Nat × Nat) (I' : rI) (R' : rR), (s_read f n = some e9) ∧ v = some (.int 0) ∧ RS g m0 q z I' R' M' ∧ eqI [3, 8, 9, 10, 11, 16, 20, 25, 26, 47, 48, 50, 51, 52, 53, 54, 55, 56, 57, 58, 59, 60, 61, 65, 66, 67, 68, 69, 70, 71, 72] I I' ∧ eqR [1, 2, 4, 5, 6, 7, 12, 21, 22, 27, 28, 29, 30, 31, 32, 33, 34, 35, 36, 37, 38, 39, 40, 41, 42, 43, 44, 45, 46] R R' ∧ I' 47 = some (nI e9.1) ∧ I' 48 = some (nI e9.2)))) := by
    intro kf
    induction kf with
    | zero => exact (by intros; exact pl_0)
    | succ kf ih =>
      intro i tx cN A s1 s2 s3 M1 I1 R1 hR1 hEI1 hER1 hl49 hl16 hl20 hl25 hl26 hl9 hl10 hl11 hB1 hK1 hY1 hC1 hi hs1 hs2 hs3
      refine ps_st1 (S' := (12, [(0, .ref m0), (1, .ref (q 14)), (2, .int (nI n)), (3, .int (nI i))], [.int (nI i)], M1)) rfl rfl rfl ?_
      refine ps_st (S' := (13, [(0, .ref m0), (1, .ref (q 14)), (2, .int (nI n)), (3, .int (nI i))], [.int (nI n), .int (nI i)], M1)) rfl rfl rfl ?_
      refine ps_if2 (S1 := (31, [(0, .ref m0), (1, .ref (q 14)), (2, .int (nI n)), (3, .int (nI i))], [], M1)) (S2 := (16, [(0, .ref m0), (1, .ref (q 14)), (2, .int (nI n)), (3, .int (nI i))], [], M1)) rfl rfl rfl (fun c_13 => ?_) (fun c_13 => ?_)
      · have c_13 : (nI n) ≤ (nI i) := of_decide_eq_true c_13
        have n_13 : n ≤ i := (le_nI (p := n) (n := i) (by omega) (by omega)).mp c_13
        refine ps_st (S' := (32, [(0, .ref m0), (1, .ref (q 14)), (2, .int (nI n)), (3, .int (nI i))], [.ref m0], M1)) rfl rfl rfl ?_
        have hF9 : FK n f I1 R1 := ⟨hn, hl49, hl16, fun i9 h9 => (hC1 i9 (by omega)).1⟩
        refine pl_call (a := [.ref m0]) (rest := []) rfl rfl rfl (rd_checkFile (n := n) (f := f) (tx := tx) (cN := cN) (A := A) (s1 := s1) (s2 := s2) (s3 := s3) hR1 hl20 hl25 hl26 hl9 hl10 hl11 hF9 hY1 hK1 (hs1) (hs2) (hs3)) (fun v1 M2 q3 => ?_)
        rcases q3 with q3 | q3
        · skip
          obtain ⟨I4, R5, q32_s, rfl, hR6, hI7, hX8⟩ := q3
          have hi9 := (hI7 49 (by decide)).trans hl49
          have hi10 := (hI7 16 (by decide)).trans hl16
          have hi11 := (hI7 9 (by decide)).trans hl9
          have hi12 := (hI7 10 (by decide)).trans hl10
          have hi13 := (hI7 11 (by decide)).trans hl11
          have hB_14 := hB1.mono (cIx hI7 (by decide)) (cRx hX8 (by decide))
          have hK_15 := hK1.mono (cIx hI7 (by decide)) (cRx hX8 (by decide))
          have hC_16 := hC1.mono (cIx hI7 (by decide)) (cRx hX8 (by decide))
          have hF_17 := hF9.mono (cIx hI7 (by decide)) (cRx hX8 (by decide))
          have hEI18 := hEI1.tr hI7 (by decide)
          have hER19 := hER1.tr hX8 (by decide)
          show pl _ _ _ (35, [(0, .ref m0), (1, .ref (q 14)), (2, .int (nI n)), (3, .int (nI i))], [.int 1], M2) _
          exact ps_ret rfl rfl (Or.inl ⟨I4, R5, q32_s, rfl, hR6, hEI18, hER19⟩)
        · skip
          obtain ⟨e920, I21, R22, q32_s, rfl, hR23, hI24, hX25, hi26, hi27⟩ := q3
          have hi28 := (hI24 49 (by decide)).trans hl49
          have hi29 := (hI24 16 (by decide)).trans hl16
          have hi30 := (hI24 9 (by decide)).trans hl9
          have hi31 := (hI24 10 (by decide)).trans hl10
          have hi32 := (hI24 11 (by decide)).trans hl11
          have hB_33 := hB1.mono (cIx hI24 (by decide)) (cRx hX25 (by decide))
          have hK_34 := hK1.mono (cIx hI24 (by decide)) (cRx hX25 (by decide))
          have hC_35 := hC1.mono (cIx hI24 (by decide)) (cRx hX25 (by decide))
          have hF_36 := hF9.mono (cIx hI24 (by decide)) (cRx hX25 (by decide))
          have hEI37 := hEI1.tr hI24 (by decide)
          have hER38 := hER1.tr hX25 (by decide)
          show pl _ _ _ (35, [(0, .ref m0), (1, .ref (q 14)), (2, .int (nI n)), (3, .int (nI i))], [.int 0], M2) _
          exact ps_ret rfl rfl (Or.inr ⟨e920, I21, R22, q32_s, rfl, hR23, hEI37, hER38, hi26, hi27⟩)
      · have c_13 : ¬ ((nI n) ≤ (nI i)) := of_decide_eq_false c_13
        have n_13 : ¬ (n ≤ i) := fun h9 => c_13 ((le_nI (p := n) (n := i) (by omega) (by omega)).mpr h9)
        refine ps_st (S' := (17, [(0, .ref m0), (1, .ref (q 14)), (2, .int (nI n)), (3, .int (nI i))], [.ref m0], M1)) rfl rfl rfl ?_
        refine pr_ref (j := 12) (S' := (20, [(0, .ref m0), (1, .ref (q 14)), (2, .int (nI n)), (3, .int (nI i))], [.ref (q 12)], M1)) rfl hR1 rfl rfl ?_
        refine ps_st (S' := (21, [(0, .ref m0), (1, .ref (q 14)), (2, .int (nI n)), (3, .int (nI i))], [.int (nI i), .ref (q 12)], M1)) rfl rfl rfl ?_
        refine ps_st (S' := (22, [(0, .ref m0), (1, .ref (q 14)), (2, .int (nI n)), (3, .int (nI i))], [.ref (q 14), .int (nI i), .ref (q 12)], M1)) rfl rfl rfl ?_
        refine ps_st (S' := (23, [(0, .ref m0), (1, .ref (q 14)), (2, .int (nI n)), (3, .int (nI i))], [.int (nI i), .ref (q 14), .int (nI i), .ref (q 12)], M1)) rfl rfl rfl ?_
        refine pr_ld (a := 14) (j := i) (y := (f i)) (S' := (24, [(0, .ref m0), (1, .ref (q 14)), (2, .int (nI n)), (3, .int (nI i))], [.int (f i), .int (nI i), .ref (q 12)], M1)) rfl hR1 rfl (by omega) (fun _ => (hB1 i (by omega)).1) rfl (fun i1_23 => ?_)
        refine pr_st (a := 12) (j := i) rfl hR1 rfl (by omega) (fun M39 R40 i1_24 hR41 hS42 => ?_)
        have hB_43 := hB1.mono (fun _ _ => rfl) (rRx hS42 (by decide))
        have hK_44 := hK1.mono (fun _ _ => rfl) (rRx hS42 (by decide))
        have hY_45 := hY1.mono (fun _ _ => rfl) (rRx hS42 (by decide))
        have hER46 := hER1.st hS42 (by decide)
        show pl _ _ _ (25, [(0, .ref m0), (1, .ref (q 14)), (2, .int (nI n)), (3, .int (nI i))], [], M39) _
        have hC_47 : BX 12 (i + 1) f I1 R40 := BX.st hC1 hS42 (hB1 i (by omega)).2 rfl
        refine ps_st (S' := (28, [(3, .int ((nI i) + 1)), (0, .ref m0), (1, .ref (q 14)), (2, .int (nI n))], [], M39)) rfl rfl rfl ?_
        rw [nI_add1 (p := i) (k := 1) (x := 1) rfl (by omega)]
        show pl _ _ _ (_, [(3, .int (nI (i + 1))), (0, .ref m0), (1, .ref (q 14)), (2, .int (nI n))], [], M39) _
        refine ps_st (S' := (11, [(0, .ref m0), (1, .ref (q 14)), (2, .int (nI n)), (3, .int (nI (i + 1)))], [], M39)) rfl rfl rfl ?_
        exact ih (i + 1) (tx) (cN) (A) (s1) (s2) (s3) M39 I1 R40 hR41 hEI1 hER46 hl49 hl16 hl20 hl25 hl26 hl9 hl10 hl11 hB_43 hK_44 hY_45 hC_47 (by omega) (hs1) (hs2) (hs3)
  refine ps_st (S' := (1, [(0, .ref m0), (1, .ref (q 14)), (2, .int (nI n))], [.ref m0], M)) rfl rfl rfl ?_
  refine pl_call (a := [.ref m0]) (rest := []) rfl rfl rfl (rd_clear hR) (fun v48 M49 q50 => ?_)
  obtain ⟨tx51, cN52, A53, s154, s255, s356, I57, R58, q1_s, rfl, hR59, hI60, hX61, hi62, hi63, hi64, hi65, hi66, hi67, hY_68⟩ := q50
  have hi69 := (hI60 49 (by decide)).trans hi49
  have hB_70 := hB.mono (cIx hI60 (by decide)) (cRx hX61 (by decide))
  have hK_71 := hK.mono (cIx hI60 (by decide)) (cRx hX61 (by decide))
  have hEI72 := hEI.tr hI60 (by decide)
  have hER73 := hER.tr hX61 (by decide)
  show pl _ _ _ (4, [(0, .ref m0), (1, .ref (q 14)), (2, .int (nI n))], [], M49) _
  refine ps_st (S' := (5, [(0, .ref m0), (1, .ref (q 14)), (2, .int (nI n))], [.ref m0], M49)) rfl rfl rfl ?_
  refine ps_st (S' := (6, [(0, .ref m0), (1, .ref (q 14)), (2, .int (nI n))], [.int (nI n), .ref m0], M49)) rfl rfl rfl ?_
  refine pr_put (j := 16) rfl hR59 rfl (fun M74 I75 hR76 hi77 hI78 => ?_)
  have hi79 := (hI78 49 (by decide)).trans hi69
  have hi80 := (hI78 9 (by decide)).trans hi62
  have hi81 := (hI78 10 (by decide)).trans hi63
  have hi82 := (hI78 11 (by decide)).trans hi64
  have hi83 := (hI78 20 (by decide)).trans hi65
  have hi84 := (hI78 25 (by decide)).trans hi66
  have hi85 := (hI78 26 (by decide)).trans hi67
  have hB_86 := hB_70.mono (pIx hI78 (by decide)) (fun _ _ => rfl)
  have hK_87 := hK_71.mono (pIx hI78 (by decide)) (fun _ _ => rfl)
  have hY_88 := hY_68.mono (pIx hI78 (by decide)) (fun _ _ => rfl)
  have hEI89 := hEI72.put hI78 (by decide)
  show pl _ _ _ (9, [(0, .ref m0), (1, .ref (q 14)), (2, .int (nI n))], [], M74) _
  refine ps_st (S' := (10, [(0, .ref m0), (1, .ref (q 14)), (2, .int (nI n))], [.int 0], M74)) rfl rfl rfl ?_
  refine ps_st (S' := (11, [(0, .ref m0), (1, .ref (q 14)), (2, .int (nI n)), (3, .int 0)], [], M74)) rfl rfl rfl ?_
  have hC0 : BX 12 0 f I75 R58 := fun i9 h9 => absurd h9 (Nat.not_lt_zero _)
  exact (LL kf) (0) (tx51) (cN52) (A53) (s154) (s255) (s356) M74 I75 R58 hR76 hEI89 hER73 hi79 hi77 hi83 hi84 hi85 hi80 hi81 hi82 hB_86 hK_87 hY_88 hC0 (by omega) (⟨q1_s.1, q1_s.2.1⟩) (⟨q1_s.2.2.1, q1_s.2.2.2.1⟩) (⟨q1_s.2.2.2.2.1, q1_s.2.2.2.2.2⟩)
set_option maxHeartbeats 4000000 in
theorem rd_read {g : xe_G} {m0 : Nat} {q : Nat → Nat} {z : Nat × Nat} {I : rI} {R : rR} {M : mi_H} {n : Nat} {f : Nat → Int32} {kn : Int32} (hR : RS g m0 q z I R M) (hi49 : I 49 = some 0) (hi17 : I 17 = some (nI n)) (hi18 : I 18 = some kn) (hB : BX 13 n f I R) (hK : KX I R) (hKP : KP kn I R) (hn : n ≤ 65540) : pt (mT g) 236 [.ref m0] M (fun v M' => (∃ (kn2 : Int32) (I' : rI) (R' : rR), v = some (.int (rdR (s_read f n))) ∧ RS g m0 q z I' R' M' ∧ eqI [0, 3, 8, 9, 10, 11, 16, 17, 18, 20, 25, 26, 47, 48, 50, 51, 52, 53, 54, 55, 56, 57, 58, 59, 60, 61, 65, 66, 67, 68, 69, 70, 71, 72, 73, 74] I I' ∧ eqR [1, 2, 4, 5, 6, 7, 12, 14, 21, 22, 27, 28, 29, 30, 31, 32, 33, 34, 35, 36, 37, 38, 39, 40, 41, 42, 43, 44, 45, 46] R R' ∧ I' 73 = some (rdP (s_read f n)) ∧ I' 17 = some (nI 0) ∧ I' 18 = some kn2 ∧ KP kn2 I' R')) := by
  refine pt_in (b := mb_236 g) rfl (fun kf => ?_)
  show pl (mT g) kf (mb_236 g).2 (0, [(0, .ref m0)], [], M) _
  have hEI : eqI [0, 3, 8, 9, 10, 11, 16, 17, 18, 20, 25, 26, 47, 48, 50, 51, 52, 53, 54, 55, 56, 57, 58, 59, 60, 61, 65, 66, 67, 68, 69, 70, 71, 72, 73, 74] I I := eqI.rf
  have hER : eqR [1, 2, 4, 5, 6, 7, 12, 14, 21, 22, 27, 28, 29, 30, 31, 32, 33, 34, 35, 36, 37, 38, 39, 40, 41, 42, 43, 44, 45, 46] R R := eqR.rf
  have LL : ∀ (kf : Nat), (∀ (i : Nat) (M1 : mi_H) (I1 : rI) (R1 : rR), (RS g m0 q z I1 R1 M1) → (eqI [0, 3, 8, 9, 10, 11, 16, 17, 18, 20, 25, 26, 47, 48, 50, 51, 52, 53, 54, 55, 56, 57, 58, 59, 60, 61, 65, 66, 67, 68, 69, 70, 71, 72, 73, 74] I I1) → (eqR [1, 2, 4, 5, 6, 7, 12, 14, 21, 22, 27, 28, 29, 30, 31, 32, 33, 34, 35, 36, 37, 38, 39, 40, 41, 42, 43, 44, 45, 46] R R1) → (I1 17 = some (nI n)) → (I1 73 = some (-1)) → (BX 13 n f I1 R1) → (BX 14 i f I1 R1) → (i ≤ n) → (s_read f n = none) →  pl (mT g) kf (mb_236 g).2 (53, [(0, .ref m0), (2, .int 0), (3, .int (nI i))], [], M1) (fun v M' => (∃ (kn2 : Int32) (I' : rI) (R' : rR), v = some (.int (rdR (s_read f n))) ∧ RS g m0 q z I' R' M' ∧ eqI [0, 3, 8, 9, 10, 11, 16, 17, 18, 20, 25, 26, 47, 48, 50, 51, 52, 53, 54, 55, 56, 57, 58, 59, 60, 61, 65, 66, 67, 68, 69, 70, 71, 72, 73, 74] I I' ∧ eqR [1, 2, 4, 5, 6, 7, 12, 14, 21, 22, 27, 28, 29, 30, 31, 32, 33, 34, 35, 36, 37, 38, 39, 40, 41, 42, 43, 44, 45, 46] R R' ∧ I' 73 = some (rdP (s_read f n)) ∧ I' 17 = some (nI 0) ∧ I' 18 = some kn2 ∧ KP kn2 I' R'))) := by
    intro kf
    induction kf with
    | zero => exact (by intros; exact pl_0)
    | succ kf ih =>
      intro i M1 I1 R1 hR1 hEI1 hER1 hl17 hl73 hB1 hD1 hi hr
      refine ps_st1 (S' := (54, [(0, .ref m0), (2, .int 0), (3, .int (nI i))], [.int (nI i)], M1)) rfl rfl rfl ?_
      refine ps_st (S' := (55, [(0, .ref m0), (2, .int 0), (3, .int (nI i))], [.ref m0, .int (nI i)], M1)) rfl rfl rfl ?_
      refine pr_int (j := 17) (S' := (58, [(0, .ref m0), (2, .int 0), (3, .int (nI i))], [.int (nI n), .int (nI i)], M1)) rfl hR1 rfl hl17 rfl ?_
      refine ps_if2 (S1 := (79, [(0, .ref m0), (2, .int 0), (3, .int (nI i))], [], M1)) (S2 := (61, [(0, .ref m0), (2, .int 0), (3, .int (nI i))], [], M1)) rfl rfl rfl (fun c_58 => ?_) (fun c_58 => ?_)
      · have c_58 : (nI n) ≤ (nI i) := of_decide_eq_true c_58
        have n_58 : n ≤ i := (le_nI (p := n) (n := i) (by omega) (by omega)).mp c_58
        refine ps_st (S' := (80, [(0, .ref m0), (2, .int 0), (3, .int (nI i))], [.ref m0], M1)) rfl rfl rfl ?_
        refine ps_st (S' := (81, [(0, .ref m0), (2, .int 0), (3, .int (nI i))], [.ref m0, .ref m0], M1)) rfl rfl rfl ?_
        refine pr_int (j := 17) (S' := (84, [(0, .ref m0), (2, .int 0), (3, .int (nI i))], [.int (nI n), .ref m0], M1)) rfl hR1 rfl hl17 rfl ?_
        refine pr_put (j := 18) rfl hR1 rfl (fun M1 I2 hR3 hi4 hI5 => ?_)
        have hi6 := (hI5 17 (by decide)).trans hl17
        have hi7 := (hI5 73 (by decide)).trans hl73
        have hB_8 := hB1.mono (pIx hI5 (by decide)) (fun _ _ => rfl)
        have hD_9 := hD1.mono (pIx hI5 (by decide)) (fun _ _ => rfl)
        have hEI10 := hEI1.put hI5 (by decide)
        show pl _ _ _ (87, [(0, .ref m0), (2, .int 0), (3, .int (nI i))], [], M1) _
        refine ps_st (S' := (110, [(0, .ref m0), (2, .int 0)], [], M1)) rfl rfl rfl ?_
        refine ps_st (S' := (111, [(0, .ref m0), (2, .int 0)], [.ref m0], M1)) rfl rfl rfl ?_
        refine ps_st (S' := (112, [(0, .ref m0), (2, .int 0)], [.int (-1), .ref m0], M1)) rfl rfl rfl ?_
        refine pr_put (j := 74) rfl hR3 rfl (fun M11 I12 hR13 hi14 hI15 => ?_)
        have hi16 := (hI15 17 (by decide)).trans hi6
        have hi17 := (hI15 73 (by decide)).trans hi7
        have hi18 := (hI15 18 (by decide)).trans hi4
        have hB_19 := hB_8.mono (pIx hI15 (by decide)) (fun _ _ => rfl)
        have hD_20 := hD_9.mono (pIx hI15 (by decide)) (fun _ _ => rfl)
        have hEI21 := hEI10.put hI15 (by decide)
        show pl _ _ _ (115, [(0, .ref m0), (2, .int 0)], [], M11) _
        refine ps_st (S' := (116, [(0, .ref m0), (2, .int 0)], [.ref m0], M11)) rfl rfl rfl ?_
        refine ps_st (S' := (117, [(0, .ref m0), (2, .int 0)], [.int 0, .ref m0], M11)) rfl rfl rfl ?_
        refine pr_put (j := 17) rfl hR13 rfl (fun M22 I23 hR24 hi25 hI26 => ?_)
        have hi27 := (hI26 73 (by decide)).trans hi17
        have hi28 := (hI26 18 (by decide)).trans hi18
        have hi29 := (hI26 74 (by decide)).trans hi14
        have hB_30 := hB_19.mono (pIx hI26 (by decide)) (fun _ _ => rfl)
        have hD_31 := hD_20.mono (pIx hI26 (by decide)) (fun _ _ => rfl)
        have hEI32 := hEI21.put hI26 (by decide)
        show pl _ _ _ (120, [(0, .ref m0), (2, .int 0)], [], M22) _
        refine ps_st (S' := (121, [(0, .ref m0), (2, .int 0)], [.int 0], M22)) rfl rfl rfl ?_
        exact ps_ret rfl rfl (⟨(nI n), I23, R1, by
            rw [hr]
            rfl, hR24, hEI32, hER1, by
            rw [hr]
            exact hi27, hi25, hi28, KP.of hn (BX.le hD_31 (by omega))⟩)
      · have c_58 : ¬ ((nI n) ≤ (nI i)) := of_decide_eq_false c_58
        have n_58 : ¬ (n ≤ i) := fun h9 => c_58 ((le_nI (p := n) (n := i) (by omega) (by omega)).mpr h9)
        refine ps_st (S' := (62, [(0, .ref m0), (2, .int 0), (3, .int (nI i))], [.ref m0], M1)) rfl rfl rfl ?_
        refine pr_ref (j := 14) (S' := (65, [(0, .ref m0), (2, .int 0), (3, .int (nI i))], [.ref (q 14)], M1)) rfl hR1 rfl rfl ?_
        refine ps_st (S' := (66, [(0, .ref m0), (2, .int 0), (3, .int (nI i))], [.int (nI i), .ref (q 14)], M1)) rfl rfl rfl ?_
        refine ps_st (S' := (67, [(0, .ref m0), (2, .int 0), (3, .int (nI i))], [.ref m0, .int (nI i), .ref (q 14)], M1)) rfl rfl rfl ?_
        refine pr_ref (j := 13) (S' := (70, [(0, .ref m0), (2, .int 0), (3, .int (nI i))], [.ref (q 13), .int (nI i), .ref (q 14)], M1)) rfl hR1 rfl rfl ?_
        refine ps_st (S' := (71, [(0, .ref m0), (2, .int 0), (3, .int (nI i))], [.int (nI i), .ref (q 13), .int (nI i), .ref (q 14)], M1)) rfl rfl rfl ?_
        refine pr_ld (a := 13) (j := i) (y := (f i)) (S' := (72, [(0, .ref m0), (2, .int 0), (3, .int (nI i))], [.int (f i), .int (nI i), .ref (q 14)], M1)) rfl hR1 rfl (by omega) (fun _ => (hB1 i (by omega)).1) rfl (fun i1_71 => ?_)
        refine pr_st (a := 14) (j := i) rfl hR1 rfl (by omega) (fun M33 R34 i1_72 hR35 hS36 => ?_)
        have hB_37 := hB1.mono (fun _ _ => rfl) (rRx hS36 (by decide))
        have hER38 := hER1.st hS36 (by decide)
        show pl _ _ _ (73, [(0, .ref m0), (2, .int 0), (3, .int (nI i))], [], M33) _
        have hD_39 : BX 14 (i + 1) f I1 R34 := BX.st hD1 hS36 (hB1 i (by omega)).2 rfl
        refine ps_st (S' := (76, [(3, .int ((nI i) + 1)), (0, .ref m0), (2, .int 0)], [], M33)) rfl rfl rfl ?_
        rw [nI_add1 (p := i) (k := 1) (x := 1) rfl (by omega)]
        show pl _ _ _ (_, [(3, .int (nI (i + 1))), (0, .ref m0), (2, .int 0)], [], M33) _
        refine ps_st (S' := (53, [(0, .ref m0), (2, .int 0), (3, .int (nI (i + 1)))], [], M33)) rfl rfl rfl ?_
        exact ih (i + 1) M33 I1 R34 hR35 hEI1 hER38 hl17 hl73 hB_37 hD_39 (by omega) (hr)
  refine ps_st (S' := (1, [(0, .ref m0)], [.ref m0], M)) rfl rfl rfl ?_
  refine ps_st (S' := (2, [(0, .ref m0)], [.int 0, .ref m0], M)) rfl rfl rfl ?_
  refine pr_put (j := 0) rfl hR rfl (fun M40 I41 hR42 hi43 hI44 => ?_)
  have hi45 := (hI44 49 (by decide)).trans hi49
  have hi46 := (hI44 17 (by decide)).trans hi17
  have hi47 := (hI44 18 (by decide)).trans hi18
  have hB_48 := hB.mono (pIx hI44 (by decide)) (fun _ _ => rfl)
  have hK_49 := hK.mono (pIx hI44 (by decide)) (fun _ _ => rfl)
  have hKP_50 := hKP.mono (pIx hI44 (by decide)) (fun _ _ => rfl)
  have hEI51 := hEI.put hI44 (by decide)
  show pl _ _ _ (5, [(0, .ref m0)], [], M40) _
  refine ps_st (S' := (6, [(0, .ref m0)], [.ref m0], M40)) rfl rfl rfl ?_
  refine ps_st (S' := (7, [(0, .ref m0)], [.ref m0, .ref m0], M40)) rfl rfl rfl ?_
  refine pr_ref (j := 13) (S' := (10, [(0, .ref m0)], [.ref (q 13), .ref m0], M40)) rfl hR42 rfl rfl ?_
  refine ps_st (S' := (11, [(0, .ref m0)], [.ref m0, .ref (q 13), .ref m0], M40)) rfl rfl rfl ?_
  refine pr_int (j := 17) (S' := (14, [(0, .ref m0)], [.int (nI n), .ref (q 13), .ref m0], M40)) rfl hR42 rfl hi46 rfl ?_
  refine pl_call (a := [.ref m0, .ref (q 13), .int (nI n)]) (rest := []) rfl rfl rfl (rd_parse13 (n := n) (f := f) hR42 hi45 hB_48 hK_49 (hn)) (fun v52 M53 q54 => ?_)
  rcases q54 with q54 | q54
  · skip
    obtain ⟨I55, R56, q14_s, rfl, hR57, hI58, hX59⟩ := q54
    have hi60 := (hI58 49 (by decide)).trans hi45
    have hi61 := (hI58 17 (by decide)).trans hi46
    have hi62 := (hI58 18 (by decide)).trans hi47
    have hi63 := (hI58 0 (by decide)).trans hi43
    have hB_64 := hB_48.mono (cIx hI58 (by decide)) (cRx hX59 (by decide))
    have hK_65 := hK_49.mono (cIx hI58 (by decide)) (cRx hX59 (by decide))
    have hKP_66 := hKP_50.mono (cIx hI58 (by decide)) (cRx hX59 (by decide))
    have hEI67 := hEI51.tr hI58 (by decide)
    have hER68 := hER.tr hX59 (by decide)
    show pl _ _ _ (17, [(0, .ref m0)], [.int 1], M53) _
    refine ps_st (S' := (18, [(1, .int 1), (0, .ref m0)], [], M53)) rfl rfl rfl ?_
    refine ps_st (S' := (19, [(1, .int 1), (0, .ref m0)], [.ref m0], M53)) rfl rfl rfl ?_
    refine ps_st (S' := (20, [(1, .int 1), (0, .ref m0)], [.int 1, .ref m0], M53)) rfl rfl rfl ?_
    refine ps_if (S1 := (27, [(1, .int 1), (0, .ref m0)], [.ref m0], M53)) (S2 := (23, [(1, .int 1), (0, .ref m0)], [.ref m0], M53)) rfl rfl rfl (fun c_20 => ?_) (fun c_20 => ?_)
    · exact absurd (of_decide_eq_true c_20) (by decide)
    refine ps_st (S' := (24, [(1, .int 1), (0, .ref m0)], [.int (-1), .ref m0], M53)) rfl rfl rfl ?_
    refine ps_st (S' := (31, [(0, .ref m0), (1, .int 1)], [.int (-1), .ref m0], M53)) rfl rfl rfl ?_
    refine pr_put (j := 73) rfl hR57 rfl (fun M69 I70 hR71 hi72 hI73 => ?_)
    have hi74 := (hI73 49 (by decide)).trans hi60
    have hi75 := (hI73 17 (by decide)).trans hi61
    have hi76 := (hI73 18 (by decide)).trans hi62
    have hi77 := (hI73 0 (by decide)).trans hi63
    have hB_78 := hB_64.mono (pIx hI73 (by decide)) (fun _ _ => rfl)
    have hK_79 := hK_65.mono (pIx hI73 (by decide)) (fun _ _ => rfl)
    have hKP_80 := hKP_66.mono (pIx hI73 (by decide)) (fun _ _ => rfl)
    have hEI81 := hEI67.put hI73 (by decide)
    show pl _ _ _ (34, [(0, .ref m0), (1, .int 1)], [], M69) _
    refine ps_st (S' := (35, [(0, .ref m0), (1, .int 1)], [.int 1], M69)) rfl rfl rfl ?_
    refine ps_if (S1 := (42, [(0, .ref m0), (1, .int 1)], [], M69)) (S2 := (38, [(0, .ref m0), (1, .int 1)], [], M69)) rfl rfl rfl (fun c_35 => ?_) (fun c_35 => ?_)
    · exact absurd (of_decide_eq_true c_35) (by decide)
    refine ps_st (S' := (39, [(0, .ref m0), (1, .int 1)], [.int 0], M69)) rfl rfl rfl ?_
    refine ps_st (S' := (46, [(0, .ref m0), (1, .int 1)], [.int 0], M69)) rfl rfl rfl ?_
    refine ps_st (S' := (47, [(2, .int 0), (0, .ref m0), (1, .int 1)], [], M69)) rfl rfl rfl ?_
    refine ps_st (S' := (48, [(2, .int 0), (0, .ref m0), (1, .int 1)], [.int 1], M69)) rfl rfl rfl ?_
    refine ps_if (S1 := (90, [(2, .int 0), (0, .ref m0), (1, .int 1)], [], M69)) (S2 := (51, [(2, .int 0), (0, .ref m0), (1, .int 1)], [], M69)) rfl rfl rfl (fun c_48 => ?_) (fun c_48 => ?_)
    · exact absurd (of_decide_eq_true c_48) (by decide)
    refine ps_st (S' := (52, [(2, .int 0), (0, .ref m0), (1, .int 1)], [.int 0], M69)) rfl rfl rfl ?_
    refine ps_st (S' := (53, [(0, .ref m0), (2, .int 0), (3, .int 0)], [], M69)) rfl rfl rfl ?_
    have hD0 : BX 14 0 f I70 R56 := fun i9 h9 => absurd h9 (Nat.not_lt_zero _)
    exact (LL kf) (0) M69 I70 R56 hR71 hEI81 hER68 hi75 hi72 hB_78 hD0 (by omega) (q14_s)
  · skip
    obtain ⟨e982, I83, R84, q14_s, rfl, hR85, hI86, hX87, hi88, hi89⟩ := q54
    have hi90 := (hI86 49 (by decide)).trans hi45
    have hi91 := (hI86 17 (by decide)).trans hi46
    have hi92 := (hI86 18 (by decide)).trans hi47
    have hi93 := (hI86 0 (by decide)).trans hi43
    have hB_94 := hB_48.mono (cIx hI86 (by decide)) (cRx hX87 (by decide))
    have hK_95 := hK_49.mono (cIx hI86 (by decide)) (cRx hX87 (by decide))
    have hKP_96 := hKP_50.mono (cIx hI86 (by decide)) (cRx hX87 (by decide))
    have hEI97 := hEI51.tr hI86 (by decide)
    have hER98 := hER.tr hX87 (by decide)
    show pl _ _ _ (17, [(0, .ref m0)], [.int 0], M53) _
    refine ps_st (S' := (18, [(1, .int 0), (0, .ref m0)], [], M53)) rfl rfl rfl ?_
    refine ps_st (S' := (19, [(1, .int 0), (0, .ref m0)], [.ref m0], M53)) rfl rfl rfl ?_
    refine ps_st (S' := (20, [(1, .int 0), (0, .ref m0)], [.int 0, .ref m0], M53)) rfl rfl rfl ?_
    refine ps_if (S1 := (27, [(1, .int 0), (0, .ref m0)], [.ref m0], M53)) (S2 := (23, [(1, .int 0), (0, .ref m0)], [.ref m0], M53)) rfl rfl rfl (fun c_20 => ?_) (fun c_20 => ?_)
    rotate_left
    · exact absurd (by decide) (of_decide_eq_false c_20)
    refine ps_st (S' := (28, [(1, .int 0), (0, .ref m0)], [.ref m0, .ref m0], M53)) rfl rfl rfl ?_
    refine pr_int (j := 48) (S' := (31, [(0, .ref m0), (1, .int 0)], [.int (nI e982.2), .ref m0], M53)) rfl hR85 rfl hi89 rfl ?_
    refine pr_put (j := 73) rfl hR85 rfl (fun M99 I100 hR101 hi102 hI103 => ?_)
    have hi104 := (hI103 49 (by decide)).trans hi90
    have hi105 := (hI103 17 (by decide)).trans hi91
    have hi106 := (hI103 18 (by decide)).trans hi92
    have hi107 := (hI103 0 (by decide)).trans hi93
    have hi108 := (hI103 47 (by decide)).trans hi88
    have hi109 := (hI103 48 (by decide)).trans hi89
    have hB_110 := hB_94.mono (pIx hI103 (by decide)) (fun _ _ => rfl)
    have hK_111 := hK_95.mono (pIx hI103 (by decide)) (fun _ _ => rfl)
    have hKP_112 := hKP_96.mono (pIx hI103 (by decide)) (fun _ _ => rfl)
    have hEI113 := hEI97.put hI103 (by decide)
    show pl _ _ _ (34, [(0, .ref m0), (1, .int 0)], [], M99) _
    refine ps_st (S' := (35, [(0, .ref m0), (1, .int 0)], [.int 0], M99)) rfl rfl rfl ?_
    refine ps_if (S1 := (42, [(0, .ref m0), (1, .int 0)], [], M99)) (S2 := (38, [(0, .ref m0), (1, .int 0)], [], M99)) rfl rfl rfl (fun c_35 => ?_) (fun c_35 => ?_)
    rotate_left
    · exact absurd (by decide) (of_decide_eq_false c_35)
    refine ps_st (S' := (43, [(0, .ref m0), (1, .int 0)], [.ref m0], M99)) rfl rfl rfl ?_
    refine pr_int (j := 47) (S' := (46, [(0, .ref m0), (1, .int 0)], [.int (nI e982.1)], M99)) rfl hR101 rfl hi108 rfl ?_
    refine ps_st (S' := (47, [(2, .int (nI e982.1)), (0, .ref m0), (1, .int 0)], [], M99)) rfl rfl rfl ?_
    refine ps_st (S' := (48, [(2, .int (nI e982.1)), (0, .ref m0), (1, .int 0)], [.int 0], M99)) rfl rfl rfl ?_
    refine ps_if (S1 := (90, [(2, .int (nI e982.1)), (0, .ref m0), (1, .int 0)], [], M99)) (S2 := (51, [(2, .int (nI e982.1)), (0, .ref m0), (1, .int 0)], [], M99)) rfl rfl rfl (fun c_48 => ?_) (fun c_48 => ?_)
    rotate_left
    · exact absurd (by decide) (of_decide_eq_false c_48)
    refine ps_st (S' := (91, [(2, .int (nI e982.1)), (0, .ref m0), (1, .int 0)], [.ref m0], M99)) rfl rfl rfl ?_
    refine pr_int (j := 18) (S' := (94, [(2, .int (nI e982.1)), (0, .ref m0), (1, .int 0)], [.int kn], M99)) rfl hR101 rfl hi106 rfl ?_
    refine ps_if (S1 := (110, [(0, .ref m0), (2, .int (nI e982.1))], [], M99)) (S2 := (97, [(2, .int (nI e982.1)), (0, .ref m0), (1, .int 0)], [], M99)) rfl rfl rfl (fun c_94 => ?_) (fun c_94 => ?_)
    · have c_94 : kn < 0 := of_decide_eq_true c_94
      refine ps_st (S' := (111, [(0, .ref m0), (2, .int (nI e982.1))], [.ref m0], M99)) rfl rfl rfl ?_
      refine ps_st (S' := (112, [(0, .ref m0), (2, .int (nI e982.1))], [.int (-1), .ref m0], M99)) rfl rfl rfl ?_
      refine pr_put (j := 74) rfl hR101 rfl (fun M114 I115 hR116 hi117 hI118 => ?_)
      have hi119 := (hI118 49 (by decide)).trans hi104
      have hi120 := (hI118 17 (by decide)).trans hi105
      have hi121 := (hI118 18 (by decide)).trans hi106
      have hi122 := (hI118 0 (by decide)).trans hi107
      have hi123 := (hI118 47 (by decide)).trans hi108
      have hi124 := (hI118 48 (by decide)).trans hi109
      have hi125 := (hI118 73 (by decide)).trans hi102
      have hB_126 := hB_110.mono (pIx hI118 (by decide)) (fun _ _ => rfl)
      have hK_127 := hK_111.mono (pIx hI118 (by decide)) (fun _ _ => rfl)
      have hKP_128 := hKP_112.mono (pIx hI118 (by decide)) (fun _ _ => rfl)
      have hEI129 := hEI113.put hI118 (by decide)
      show pl _ _ _ (115, [(0, .ref m0), (2, .int (nI e982.1))], [], M114) _
      refine ps_st (S' := (116, [(0, .ref m0), (2, .int (nI e982.1))], [.ref m0], M114)) rfl rfl rfl ?_
      refine ps_st (S' := (117, [(0, .ref m0), (2, .int (nI e982.1))], [.int 0, .ref m0], M114)) rfl rfl rfl ?_
      refine pr_put (j := 17) rfl hR116 rfl (fun M130 I131 hR132 hi133 hI134 => ?_)
      have hi135 := (hI134 49 (by decide)).trans hi119
      have hi136 := (hI134 18 (by decide)).trans hi121
      have hi137 := (hI134 0 (by decide)).trans hi122
      have hi138 := (hI134 47 (by decide)).trans hi123
      have hi139 := (hI134 48 (by decide)).trans hi124
      have hi140 := (hI134 73 (by decide)).trans hi125
      have hi141 := (hI134 74 (by decide)).trans hi117
      have hB_142 := hB_126.mono (pIx hI134 (by decide)) (fun _ _ => rfl)
      have hK_143 := hK_127.mono (pIx hI134 (by decide)) (fun _ _ => rfl)
      have hKP_144 := hKP_128.mono (pIx hI134 (by decide)) (fun _ _ => rfl)
      have hEI145 := hEI129.put hI134 (by decide)
      show pl _ _ _ (120, [(0, .ref m0), (2, .int (nI e982.1))], [], M130) _
      refine ps_st (S' := (121, [(0, .ref m0), (2, .int (nI e982.1))], [.int (nI e982.1)], M130)) rfl rfl rfl ?_
      exact ps_reti rfl (⟨kn, I131, R84, by
          rw [q14_s]
          rfl, hR132, hEI145, hER98, by
          rw [q14_s]
          exact hi140, hi133, hi136, hKP_144⟩)
    · have c_94 : ¬ (kn < 0) := of_decide_eq_false c_94
      obtain ⟨n2, f2, hk1, hk2, hk3⟩ := KP.ge hKP_112 (by assumption)
      have hk146 := hi106.trans (congrArg some hk1)
      refine ps_st (S' := (98, [(2, .int (nI e982.1)), (0, .ref m0), (1, .int 0)], [.ref m0], M99)) rfl rfl rfl ?_
      refine ps_st (S' := (99, [(2, .int (nI e982.1)), (0, .ref m0), (1, .int 0)], [.ref m0, .ref m0], M99)) rfl rfl rfl ?_
      refine pr_ref (j := 14) (S' := (102, [(2, .int (nI e982.1)), (0, .ref m0), (1, .int 0)], [.ref (q 14), .ref m0], M99)) rfl hR101 rfl rfl ?_
      refine ps_st (S' := (103, [(2, .int (nI e982.1)), (0, .ref m0), (1, .int 0)], [.ref m0, .ref (q 14), .ref m0], M99)) rfl rfl rfl ?_
      refine pr_int (j := 18) (S' := (106, [(2, .int (nI e982.1)), (0, .ref m0), (1, .int 0)], [.int (nI n2), .ref (q 14), .ref m0], M99)) rfl hR101 rfl hk146 rfl ?_
      refine pl_call (a := [.ref m0, .ref (q 14), .int (nI n2)]) (rest := []) rfl rfl rfl (rd_parse14 (n := n2) (f := f2) hR101 hi104 hk3 hK_111 (hk2)) (fun v147 M148 q149 => ?_)
      rcases q149 with q149 | q149
      · skip
        obtain ⟨I150, R151, q106_s, rfl, hR152, hI153, hX154⟩ := q149
        have hi155 := (hI153 49 (by decide)).trans hi104
        have hi156 := (hI153 17 (by decide)).trans hi105
        have hi157 := (hI153 18 (by decide)).trans hk146
        have hi158 := (hI153 0 (by decide)).trans hi107
        have hi159 := (hI153 73 (by decide)).trans hi102
        have hB_160 := hB_110.mono (cIx hI153 (by decide)) (cRx hX154 (by decide))
        have hK_161 := hK_111.mono (cIx hI153 (by decide)) (cRx hX154 (by decide))
        have hKP_162 := hKP_112.mono (cIx hI153 (by decide)) (cRx hX154 (by decide))
        have hQ_163 := hk3.mono (cIx hI153 (by decide)) (cRx hX154 (by decide))
        have hEI164 := hEI113.tr hI153 (by decide)
        have hER165 := hER98.tr hX154 (by decide)
        show pl _ _ _ (109, [(2, .int (nI e982.1)), (0, .ref m0), (1, .int 0)], [.int 1], M148) _
        refine ps_st (S' := (110, [(0, .ref m0), (2, .int (nI e982.1))], [], M148)) rfl rfl rfl ?_
        refine ps_st (S' := (111, [(0, .ref m0), (2, .int (nI e982.1))], [.ref m0], M148)) rfl rfl rfl ?_
        refine ps_st (S' := (112, [(0, .ref m0), (2, .int (nI e982.1))], [.int (-1), .ref m0], M148)) rfl rfl rfl ?_
        refine pr_put (j := 74) rfl hR152 rfl (fun M166 I167 hR168 hi169 hI170 => ?_)
        have hi171 := (hI170 49 (by decide)).trans hi155
        have hi172 := (hI170 17 (by decide)).trans hi156
        have hi173 := (hI170 18 (by decide)).trans hi157
        have hi174 := (hI170 0 (by decide)).trans hi158
        have hi175 := (hI170 73 (by decide)).trans hi159
        have hB_176 := hB_160.mono (pIx hI170 (by decide)) (fun _ _ => rfl)
        have hK_177 := hK_161.mono (pIx hI170 (by decide)) (fun _ _ => rfl)
        have hKP_178 := hKP_162.mono (pIx hI170 (by decide)) (fun _ _ => rfl)
        have hQ_179 := hQ_163.mono (pIx hI170 (by decide)) (fun _ _ => rfl)
        have hEI180 := hEI164.put hI170 (by decide)
        show pl _ _ _ (115, [(0, .ref m0), (2, .int (nI e982.1))], [], M166) _
        refine ps_st (S' := (116, [(0, .ref m0), (2, .int (nI e982.1))], [.ref m0], M166)) rfl rfl rfl ?_
        refine ps_st (S' := (117, [(0, .ref m0), (2, .int (nI e982.1))], [.int 0, .ref m0], M166)) rfl rfl rfl ?_
        refine pr_put (j := 17) rfl hR168 rfl (fun M181 I182 hR183 hi184 hI185 => ?_)
        have hi186 := (hI185 49 (by decide)).trans hi171
        have hi187 := (hI185 18 (by decide)).trans hi173
        have hi188 := (hI185 0 (by decide)).trans hi174
        have hi189 := (hI185 73 (by decide)).trans hi175
        have hi190 := (hI185 74 (by decide)).trans hi169
        have hB_191 := hB_176.mono (pIx hI185 (by decide)) (fun _ _ => rfl)
        have hK_192 := hK_177.mono (pIx hI185 (by decide)) (fun _ _ => rfl)
        have hKP_193 := hKP_178.mono (pIx hI185 (by decide)) (fun _ _ => rfl)
        have hQ_194 := hQ_179.mono (pIx hI185 (by decide)) (fun _ _ => rfl)
        have hEI195 := hEI180.put hI185 (by decide)
        show pl _ _ _ (120, [(0, .ref m0), (2, .int (nI e982.1))], [], M181) _
        refine ps_st (S' := (121, [(0, .ref m0), (2, .int (nI e982.1))], [.int (nI e982.1)], M181)) rfl rfl rfl ?_
        exact ps_reti rfl (⟨(nI n2), I182, R151, by
            rw [q14_s]
            rfl, hR183, hEI195, hER165, by
            rw [q14_s]
            exact hi189, hi184, hi187, KP.of hk2 hQ_194⟩)
      · skip
        obtain ⟨e9196, I197, R198, q106_s, rfl, hR199, hI200, hX201, hi202, hi203⟩ := q149
        have hi204 := (hI200 49 (by decide)).trans hi104
        have hi205 := (hI200 17 (by decide)).trans hi105
        have hi206 := (hI200 18 (by decide)).trans hk146
        have hi207 := (hI200 0 (by decide)).trans hi107
        have hi208 := (hI200 73 (by decide)).trans hi102
        have hB_209 := hB_110.mono (cIx hI200 (by decide)) (cRx hX201 (by decide))
        have hK_210 := hK_111.mono (cIx hI200 (by decide)) (cRx hX201 (by decide))
        have hKP_211 := hKP_112.mono (cIx hI200 (by decide)) (cRx hX201 (by decide))
        have hQ_212 := hk3.mono (cIx hI200 (by decide)) (cRx hX201 (by decide))
        have hEI213 := hEI113.tr hI200 (by decide)
        have hER214 := hER98.tr hX201 (by decide)
        show pl _ _ _ (109, [(2, .int (nI e982.1)), (0, .ref m0), (1, .int 0)], [.int 0], M148) _
        refine ps_st (S' := (110, [(0, .ref m0), (2, .int (nI e982.1))], [], M148)) rfl rfl rfl ?_
        refine ps_st (S' := (111, [(0, .ref m0), (2, .int (nI e982.1))], [.ref m0], M148)) rfl rfl rfl ?_
        refine ps_st (S' := (112, [(0, .ref m0), (2, .int (nI e982.1))], [.int (-1), .ref m0], M148)) rfl rfl rfl ?_
        refine pr_put (j := 74) rfl hR199 rfl (fun M215 I216 hR217 hi218 hI219 => ?_)
        have hi220 := (hI219 49 (by decide)).trans hi204
        have hi221 := (hI219 17 (by decide)).trans hi205
        have hi222 := (hI219 18 (by decide)).trans hi206
        have hi223 := (hI219 0 (by decide)).trans hi207
        have hi224 := (hI219 73 (by decide)).trans hi208
        have hi225 := (hI219 47 (by decide)).trans hi202
        have hi226 := (hI219 48 (by decide)).trans hi203
        have hB_227 := hB_209.mono (pIx hI219 (by decide)) (fun _ _ => rfl)
        have hK_228 := hK_210.mono (pIx hI219 (by decide)) (fun _ _ => rfl)
        have hKP_229 := hKP_211.mono (pIx hI219 (by decide)) (fun _ _ => rfl)
        have hQ_230 := hQ_212.mono (pIx hI219 (by decide)) (fun _ _ => rfl)
        have hEI231 := hEI213.put hI219 (by decide)
        show pl _ _ _ (115, [(0, .ref m0), (2, .int (nI e982.1))], [], M215) _
        refine ps_st (S' := (116, [(0, .ref m0), (2, .int (nI e982.1))], [.ref m0], M215)) rfl rfl rfl ?_
        refine ps_st (S' := (117, [(0, .ref m0), (2, .int (nI e982.1))], [.int 0, .ref m0], M215)) rfl rfl rfl ?_
        refine pr_put (j := 17) rfl hR217 rfl (fun M232 I233 hR234 hi235 hI236 => ?_)
        have hi237 := (hI236 49 (by decide)).trans hi220
        have hi238 := (hI236 18 (by decide)).trans hi222
        have hi239 := (hI236 0 (by decide)).trans hi223
        have hi240 := (hI236 73 (by decide)).trans hi224
        have hi241 := (hI236 47 (by decide)).trans hi225
        have hi242 := (hI236 48 (by decide)).trans hi226
        have hi243 := (hI236 74 (by decide)).trans hi218
        have hB_244 := hB_227.mono (pIx hI236 (by decide)) (fun _ _ => rfl)
        have hK_245 := hK_228.mono (pIx hI236 (by decide)) (fun _ _ => rfl)
        have hKP_246 := hKP_229.mono (pIx hI236 (by decide)) (fun _ _ => rfl)
        have hQ_247 := hQ_230.mono (pIx hI236 (by decide)) (fun _ _ => rfl)
        have hEI248 := hEI231.put hI236 (by decide)
        show pl _ _ _ (120, [(0, .ref m0), (2, .int (nI e982.1))], [], M232) _
        refine ps_st (S' := (121, [(0, .ref m0), (2, .int (nI e982.1))], [.int (nI e982.1)], M232)) rfl rfl rfl ?_
        exact ps_reti rfl (⟨(nI n2), I233, R198, by
            rw [q14_s]
            rfl, hR234, hEI248, hER214, by
            rw [q14_s]
            exact hi240, hi235, hi238, KP.of hk2 hQ_247⟩)
