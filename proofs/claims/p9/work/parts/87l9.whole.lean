/-! the whole file as the reference checks it (my own text) -/
section WMA
variable {f : Nat → Int32} {n : Nat} {E : List (Nat × Nat)}
theorem whole_in {p1 pF pM pA : Nat} (h : s_whole f n = .inr (E, p1, pF, pM, pA)) : s_pool f n (by2 f 6) = .inr (p1, E) := by
  unfold s_whole at h
  split at h
  · cases h
  · cases hp : s_pool f n (by2 f 6) with
    | inl e => rw [hp] at h; cases h
    | inr y =>
      obtain ⟨a, b⟩ := y
      rw [hp] at h
      dsimp only at h
      cases hc : s_class f n a with
      | inl e => rw [hc] at h; cases h
      | inr pF' =>
        rw [hc] at h
        dsimp only at h
        cases hf : s_mbs f n pF' with
        | inl e => rw [hf] at h; cases h
        | inr pM' =>
          rw [hf] at h
          dsimp only at h
          cases hm : s_mbs f n pM' with
          | inl e => rw [hm] at h; cases h
          | inr pA' =>
            rw [hm] at h
            dsimp only at h
            cases he : s_end f n pA' with
            | some e => rw [he] at h; cases h
            | none =>
              rw [he] at h
              cases h
              rfl
/-- an entry lies well in the file -/
def ep1 (f : Nat → Int32) (n p : Nat) : Prop := p + 1 ≤ n ∧ (by1 f p = 15 → p + 4 ≤ n) ∧ (7 ≤ by1 f p → p + 3 ≤ n) ∧ (7 ≤ by1 f p ∧ ¬ (by1 f p = 15 ∨ by1 f p = 7 ∨ by1 f p = 8 ∨ by1 f p = 16 ∨ by1 f p = 19 ∨ by1 f p = 20) → p + 5 ≤ n) ∧ ¬ by1 f p = 0
theorem ent_ok {mj N k p : Nat} {y : Nat × ((List Nat) ⊕ (Option (Nat × Nat)))} (h : s_entry f n mj N k p = .inr y) : ep1 f n p := by
  unfold s_entry at h
  split at h
  · cases h
  · rename_i h0
    split at h
    · cases h
    · rename_i hT
      have h00 : ¬ by1 f p = 0 := fun e => hT (by rw [e]; unfold tgOk; omega)
      split at h
      · cases h
      · split at h
        · unfold ep1; omega
        · split at h
          · unfold ep1; omega
          · split at h
            · unfold ep1; omega
            · cases he : s_ix f n (by1 f p) (p + 1) with
              | inl e => rw [he] at h; cases h
              | inr z =>
                clear h
                unfold s_ix at he
                unfold ep1
                split at he
                · split at he
                  · cases he
                  · split at he
                    · cases he
                    · omega
                · split at he
                  · cases he
                  · split at he
                    · omega
                    · split at he
                      · cases he
                      · omega
theorem ents_ok {mj N : Nat} : ∀ {r k p p' : Nat} {E0 E : List (Nat × Nat)}, (∀ q ∈ E0, ep1 f n q.2) → s_ents f n mj N r k p E0 = .inr (p', E) → ∀ q ∈ E, ep1 f n q.2 := by
  intro r
  induction r with
  | zero => intro k p p' E0 E h0 h; cases h; exact h0
  | succ r ih =>
    intro k p p' E0 E h0 h
    unfold s_ents at h
    split at h
    · cases h; exact h0
    · cases he : s_entry f n mj N k p with
      | inl e => rw [he] at h; cases h
      | inr y =>
        obtain ⟨p2, x⟩ := y
        rw [he] at h
        refine ih ?_ h
        intro q hq
        rcases List.mem_append.mp hq with hq | hq
        · exact h0 q hq
        · have e : q = (k, p) := by simpa using hq
          rw [e]
          exact ent_ok he
theorem EP_of {mj p' : Nat} (h : s_pool f n mj = .inr (p', E)) : EP f n E ∧ 1 ≤ by2 f 8 := by
  unfold s_pool at h
  split at h
  · cases h
  · split at h
    · cases h
    · exact ⟨fun j p hp => ents_ok (fun q hq => by cases hq) h _ (lk_in hp), by omega⟩
theorem chkP_all {mj : Nat} : ∀ {r k : Nat}, chkP f n E mj r k = none → ∀ j, k ≤ j → j < k + r → ¬ lnkN f E j = 0 ∧ brkN f n E mj j = 0 := by
  intro r
  induction r with
  | zero => intro k h j h1 h2; omega
  | succ r ih =>
    intro k h j h1 h2
    unfold chkP at h
    split at h
    · cases h
    · split at h
      · by_cases e : j = k
        · rw [e]
          exact ⟨by assumption, by assumption⟩
        · exact ih h j (by omega) (by omega)
      · cases h
theorem CP_of {mj N : Nat} (h : chkP f n E mj (N - 1) 1 = none) (hE : ∀ q ∈ E, 1 ≤ q.1 ∧ q.1 < N) : CP f n E := by
  intro k hk
  have hkE : 1 ≤ k ∧ k < N := by
    unfold tg at hk
    cases hl : lk E k with
    | none => rw [hl] at hk; cases hk
    | some p => exact hE _ (lk_in hl)
  obtain ⟨h1, h2⟩ := chkP_all h k hkE.1 (by omega)
  have h3 : tg f E (fi f E k) = 1 := by
    unfold lnkN at h1
    rw [if_pos (Or.inl hk)] at h1
    split at h1
    · assumption
    · exact absurd rfl h1
  refine ⟨h3, ?_⟩
  unfold brkN at h2
  rw [if_pos hk] at h2
  split at h2
  · cases h2
  · rename_i h4
    cases ht : tX f n E (fi f E k) with
    | nil => rw [ht] at h4; exact absurd (by decide) h4
    | cons a l => exact Nat.succ_pos _
theorem atE_of {e : Nat} : ∀ {c p x : Nat}, p ≤ n → s_atts f n c p = .inr x → x ≤ e → s_atE f e c p = some x := by
  intro c
  induction c with
  | zero => intro p x hp h he; cases h; rfl
  | succ c ih =>
    intro p x hp h he
    unfold s_atts at h
    split at h
    · cases h
    · split at h
      · cases h
      · split at h
        · cases h
        · have h1 := s_atts_le (by omega) h
          unfold s_atE
          rw [if_neg (by omega), if_neg (by omega)]
          exact ih (by omega) h he
theorem atE_at {p e : Nat} (h : s_attributes f n p = .inr e) : p + 2 ≤ e ∧ e ≤ n ∧ s_atE f e (by2 f p) (p + 2) = some e := by
  have h1 := s_attributes_le2 h
  have h2 := s_atts_of h
  exact ⟨h1.1, h1.2, atE_of h2.1 h2.2 (Nat.le_refl _)⟩
/-- where a member that begins at p ends -/
def mE (f : Nat → Int32) (n p : Nat) : Nat := match s_attributes f n (p + 6) with
  | .inr e => e
  | .inl _ => 0
theorem mE_is {p e : Nat} (h : s_attributes f n (p + 6) = .inr e) : mE f n p = e := by
  unfold mE
  rw [h]
theorem mbs_all : ∀ {c p x : Nat}, s_mems f n c p = .inr x → (mbs f n c p).length = c ∧ (0 < c → (mbs f n c p).getD 0 0 = p) ∧ ∀ i, i < c → s_attributes f n ((mbs f n c p).getD i 0 + 6) = .inr (mE f n ((mbs f n c p).getD i 0)) ∧ (i + 1 < c → (mbs f n c p).getD (i + 1) 0 = mE f n ((mbs f n c p).getD i 0)) := by
  intro c
  induction c with
  | zero => intro p x h; exact ⟨rfl, fun h9 => by omega, fun i hi => by omega⟩
  | succ c ih =>
    intro p x h
    unfold s_mems at h
    split at h
    · cases h
    · split at h
      · cases h
      · split at h
        · cases h
        · cases ha : s_attributes f n (p + 6) with
          | inl e => rw [ha] at h; cases h
          | inr y =>
            rw [ha] at h
            obtain ⟨h1, h2, h3⟩ := ih h
            have e : mbs f n (c + 1) p = p :: mbs f n c y := by
              show p :: _ = _
              rw [ha]
            rw [e]
            refine ⟨by rw [List.length_cons, h1], fun _ => rfl, fun i hi => ?_⟩
            cases i with
            | zero =>
              refine ⟨?_, fun h9 => ?_⟩
              · show s_attributes f n (p + 6) = .inr (mE f n p)
                rw [mE_is ha]
                exact ha
              · show (mbs f n c y).getD 0 0 = mE f n p
                rw [mE_is ha]
                exact h2 (by omega)
            | succ i =>
              have := h3 i (by omega)
              exact ⟨this.1, fun h9 => this.2 (by omega)⟩
theorem MBS_of {p x : Nat} (h : s_mbs f n p = .inr x) : MBS f n (mbs f n (by2 f p) (p + 2)) p (fun i => mE f n ((mbs f n (by2 f p) (p + 2)).getD i 0)) := by
  unfold s_mbs at h
  split at h
  · cases h
  · obtain ⟨h1, h2, h3⟩ := mbs_all h
    refine ⟨h1, by omega, fun h9 => h2 (by omega), fun i hi => ?_⟩
    obtain ⟨h4, h5⟩ := h3 i (by omega)
    obtain ⟨h6, h7, h8⟩ := atE_at h4
    refine ⟨by dsimp only; omega, h7, h8, fun h9 => h5 (by omega)⟩
end WMA

section WMB
variable {f : Nat → Int32} {n : Nat} {I I' : rI} {R R' : rR}
theorem cc_none {E : List (Nat × Nat)} {h : Nat} (e : ccS f n E h = none) : hdS f n E h = none ∧ ifS f n E (h + 8) (by2 f (h + 6)) 0 = none := by
  unfold ccS at e
  split at e
  · cases e
  · exact ⟨by assumption, e⟩
theorem cc_some {E : List (Nat × Nat)} {h : Nat} {e9 : Nat × Nat} {o : Option (Nat × Nat)} (e : ccS f n E h = some e9) : (match hdS f n E h with
    | some e => some e
    | none => match ifS f n E (h + 8) (by2 f (h + 6)) 0 with
      | some e => some e
      | none => o) = some e9 := by
  unfold ccS at e
  split at e
  · rename_i h1
    rw [h1]
    exact e
  · rename_i h1
    rw [h1]
    dsimp only
    rw [e]
theorem clS_lt {E : List (Nat × Nat)} {x mj : Nat} : ∀ {c p s bc b : Nat}, bc < 65536 → clS f n E x mj c p s bc = .inr b → b < 65536 := by
  intro c
  induction c with
  | zero => intro p s bc b hb h; cases h; exact hb
  | succ c ih =>
    intro p s bc b hb h
    unfold clS at h
    split at h
    · cases h
    · split at h
      · cases h
      · split at h
        · cases h
        · cases h
        · refine ih ?_ h
          split
          · exact by2_lt _ _
          · exact hb
theorem clS_bc {E : List (Nat × Nat)} {x mj c p b : Nat} (h : clS f n E x mj c p 0 0 = .inr b) : b < 65536 := clS_lt (by decide) h
/-- n bytes of a row -/
def BX (a n : Nat) (f : Nat → Int32) (I : rI) (R : rR) : Prop := ∀ i, i < n → R a i = some (f i) ∧ vp_nar .byte (f i) = f i
theorem BX.mono {a : Nat} (h : BX a n f I R) (hI : ∀ k, k ∈ ([] : List Nat) → I' k = I k) (hR : ∀ k, k ∈ [a] → R' k = R k) : BX a n f I' R' := fun i hi => by
  rw [hR a List.mem_cons_self]
  exact h i hi
theorem BX.st {a i : Nat} {x : Int32} (h : BX a i f I R) (hR : R' = rset R a i (vp_nar .byte x)) (hx : vp_nar .byte (f i) = f i) (e : x = f i) : BX a (i + 1) f I' R' := fun j hj => by
  subst hR
  by_cases e9 : j = i
  · rw [e9, rset_at, e, hx]
    exact ⟨rfl, rfl⟩
  · rw [rset_el e9]
    exact h j (by omega)
theorem BX.le {a m : Nat} (h : BX a n f I R) (hm : m ≤ n) : BX a m f I R := fun i hi => h i (by omega)
/-- what is kept, if anything is -/
def KP (kn : Int32) (I : rI) (R : rR) : Prop := kn < 0 ∨ ∃ (n2 : Nat) (f2 : Nat → Int32), kn = nI n2 ∧ n2 ≤ 65540 ∧ BX 14 n2 f2 I R
theorem KP.mono {kn : Int32} (h : KP kn I R) (hI : ∀ k, k ∈ ([] : List Nat) → I' k = I k) (hR : ∀ k, k ∈ [14] → R' k = R k) : KP kn I' R' :=
  h.imp id (fun ⟨n2, f2, h1, h2, h3⟩ => ⟨n2, f2, h1, h2, h3.mono hI hR⟩)
theorem KP.ge {kn : Int32} (h : KP kn I R) (hk : ¬ kn < 0) : ∃ (n2 : Nat) (f2 : Nat → Int32), kn = nI n2 ∧ n2 ≤ 65540 ∧ BX 14 n2 f2 I R := h.resolve_left hk
theorem KP.of (hn : n ≤ 65540) (h : BX 14 n f I R) : KP (nI n) I R := Or.inr ⟨n, f, rfl, hn, h⟩
end WMB
set_option maxHeartbeats 4000000 in
theorem rd_checkFile {g : xe_G} {m0 : Nat} {q : Nat → Nat} {z : Nat × Nat} {I : rI} {R : rR} {M : mi_H} {n : Nat} {f : Nat → Int32} {tx : List (List Nat)} {cN : Nat} {A : Nat → Nat} {s1 s2 s3 : Nat} (hR : RS g m0 q z I R M) (hi20 : I 20 = some 0) (hi25 : I 25 = some 0) (hi26 : I 26 = some 0) (hi9 : I 9 = some (nI s1)) (hi10 : I 10 = some (nI s2)) (hi11 : I 11 = some (nI s3)) (hF : FK n f I R) (hY : SYT tx cN A I R) (hK : KX I R) (hs1 : s1 < tx.length ∧ tx.getD s1 [] = ltx 25) (hs2 : s2 < tx.length ∧ tx.getD s2 [] = ltx 26) (hs3 : s3 < tx.length ∧ tx.getD s3 [] = ltx 27) : pt (mT g) 190 [.ref m0] M (fun v M' => (∃  (I' : rI) (R' : rR), (s_read f n = none) ∧ v = some (.int 1) ∧ RS g m0 q z I' R' M' ∧ eqI [3, 8, 20, 25, 26, 47, 48, 50, 51, 52, 53, 54, 55, 56, 57, 58, 59, 60, 61, 65, 66, 67, 68, 69, 70, 71, 72] I I' ∧ eqR [1, 2, 4, 5, 6, 7, 21, 22, 27, 28, 29, 30, 31, 32, 33, 34, 35, 36, 37, 38, 39, 40, 41, 42, 43, 44, 45, 46] R R') ∨ (∃ (e9 : Nat × Nat) (I' : rI) (R' : rR), (s_read f n = some e9) ∧ v = some (.int 0) ∧ RS g m0 q z I' R' M' ∧ eqI [3, 8, 20, 25, 26, 47, 48, 50, 51, 52, 53, 54, 55, 56, 57, 58, 59, 60, 61, 65, 66, 67, 68, 69, 70, 71, 72] I I' ∧ eqR [1, 2, 4, 5, 6, 7, 21, 22, 27, 28, 29, 30, 31, 32, 33, 34, 35, 36, 37, 38, 39, 40, 41, 42, 43, 44, 45, 46] R R' ∧ I' 47 = some (nI e9.1) ∧ I' 48 = some (nI e9.2))) := by
  refine pt_in (b := mb_190 g) rfl (fun kf => ?_)
  show pl (mT g) kf (mb_190 g).2 (0, [(0, .ref m0)], [], M) _
  have hEI : eqI [3, 8, 20, 25, 26, 47, 48, 50, 51, 52, 53, 54, 55, 56, 57, 58, 59, 60, 61, 65, 66, 67, 68, 69, 70, 71, 72] I I := eqI.rf
  have hER : eqR [1, 2, 4, 5, 6, 7, 21, 22, 27, 28, 29, 30, 31, 32, 33, 34, 35, 36, 37, 38, 39, 40, 41, 42, 43, 44, 45, 46] R R := eqR.rf
  have hn := hF.1
  have LL : ∀ (kf : Nat), (∀ (N mj p1 pF pM pA : Nat) (E : List (Nat × Nat)) (tx : List (List Nat)) (cN : Nat) (A : Nat → Nat) (M1 : mi_H) (I1 : rI) (R1 : rR), (RS g m0 q z I1 R1 M1) → (eqI [3, 8, 20, 25, 26, 47, 48, 50, 51, 52, 53, 54, 55, 56, 57, 58, 59, 60, 61, 65, 66, 67, 68, 69, 70, 71, 72] I I1) → (eqR [1, 2, 4, 5, 6, 7, 21, 22, 27, 28, 29, 30, 31, 32, 33, 34, 35, 36, 37, 38, 39, 40, 41, 42, 43, 44, 45, 46] R R1) → (I1 51 = some 0) → (I1 52 = some (nI N)) → (I1 53 = some (nI mj)) → (I1 54 = some (nI p1)) → (I1 55 = some (nI pF)) → (I1 56 = some (nI pM)) → (I1 57 = some (nI pA)) → (I1 25 = some (nI 0)) → (I1 26 = some (nI 0)) → (I1 71 = some (nI 0)) → (I1 66 = some 0) → (I1 65 = some (nI 0)) → (I1 68 = some (nI 0)) → (I1 69 = some (nI 0)) → (I1 70 = some (-1)) → (I1 72 = some (-1)) → (I1 9 = some (nI s1)) → (I1 10 = some (nI s2)) → (I1 11 = some (nI s3)) → (FK n f I1 R1) → (SYT tx cN A I1 R1) → (RPV f n E tx N I1 R1) → (KX I1 R1) → (N = by2 f 8) → (mj = by2 f 6) → (s_whole f n = .inr (E, p1, pF, pM, pA)) → (s1 < tx.length ∧ tx.getD s1 [] = ltx 25) → (s2 < tx.length ∧ tx.getD s2 [] = ltx 26) → (s3 < tx.length ∧ tx.getD s3 [] = ltx 27) → (s_class f n p1 = .inr pF) → (s_mbs f n pF = .inr pM) → (s_mbs f n pM = .inr pA) → (s_attributes f n pA = .inr n) →  pl (mT g) kf (mb_190 g).2 (47, [(0, .ref m0)], [], M1) (fun v M' => (∃  (I' : rI) (R' : rR), (s_read f n = none) ∧ v = some (.int 1) ∧ RS g m0 q z I' R' M' ∧ eqI [3, 8, 20, 25, 26, 47, 48, 50, 51, 52, 53, 54, 55, 56, 57, 58, 59, 60, 61, 65, 66, 67, 68, 69, 70, 71, 72] I I' ∧ eqR [1, 2, 4, 5, 6, 7, 21, 22, 27, 28, 29, 30, 31, 32, 33, 34, 35, 36, 37, 38, 39, 40, 41, 42, 43, 44, 45, 46] R R') ∨ (∃ (e9 : Nat × Nat) (I' : rI) (R' : rR), (s_read f n = some e9) ∧ v = some (.int 0) ∧ RS g m0 q z I' R' M' ∧ eqI [3, 8, 20, 25, 26, 47, 48, 50, 51, 52, 53, 54, 55, 56, 57, 58, 59, 60, 61, 65, 66, 67, 68, 69, 70, 71, 72] I I' ∧ eqR [1, 2, 4, 5, 6, 7, 21, 22, 27, 28, 29, 30, 31, 32, 33, 34, 35, 36, 37, 38, 39, 40, 41, 42, 43, 44, 45, 46] R R' ∧ I' 47 = some (nI e9.1) ∧ I' 48 = some (nI e9.2)))) ∧ (∀ (N mj bc k : Nat) (E : List (Nat × Nat)) (tx : List (List Nat)) (cN : Nat) (A : Nat → Nat) (M1 : mi_H) (I1 : rI) (R1 : rR), (RS g m0 q z I1 R1 M1) → (eqI [3, 8, 20, 25, 26, 47, 48, 50, 51, 52, 53, 54, 55, 56, 57, 58, 59, 60, 61, 65, 66, 67, 68, 69, 70, 71, 72] I I1) → (eqR [1, 2, 4, 5, 6, 7, 21, 22, 27, 28, 29, 30, 31, 32, 33, 34, 35, 36, 37, 38, 39, 40, 41, 42, 43, 44, 45, 46] R R1) → (I1 51 = some 0) → (I1 52 = some (nI N)) → (I1 53 = some (nI mj)) → (I1 71 = some (nI bc)) → (FK n f I1 R1) → (SYT tx cN A I1 R1) → (RPV f n E tx N I1 R1) → (EP f n E) → (N < 65536) → (mj < 65536) → (bc < 65536) → (1 ≤ k ∧ k ≤ N) → (s_read f n = chkB f E bc (N - 1) 1) → (chkB f E bc (N - k) k = chkB f E bc (N - 1) 1) →  pl (mT g) kf (mb_190 g).2 (94, [(0, .ref m0), (1, .int (nI k))], [], M1) (fun v M' => (∃  (I' : rI) (R' : rR), (s_read f n = none) ∧ v = some (.int 1) ∧ RS g m0 q z I' R' M' ∧ eqI [3, 8, 20, 25, 26, 47, 48, 50, 51, 52, 53, 54, 55, 56, 57, 58, 59, 60, 61, 65, 66, 67, 68, 69, 70, 71, 72] I I' ∧ eqR [1, 2, 4, 5, 6, 7, 21, 22, 27, 28, 29, 30, 31, 32, 33, 34, 35, 36, 37, 38, 39, 40, 41, 42, 43, 44, 45, 46] R R') ∨ (∃ (e9 : Nat × Nat) (I' : rI) (R' : rR), (s_read f n = some e9) ∧ v = some (.int 0) ∧ RS g m0 q z I' R' M' ∧ eqI [3, 8, 20, 25, 26, 47, 48, 50, 51, 52, 53, 54, 55, 56, 57, 58, 59, 60, 61, 65, 66, 67, 68, 69, 70, 71, 72] I I' ∧ eqR [1, 2, 4, 5, 6, 7, 21, 22, 27, 28, 29, 30, 31, 32, 33, 34, 35, 36, 37, 38, 39, 40, 41, 42, 43, 44, 45, 46] R R' ∧ I' 47 = some (nI e9.1) ∧ I' 48 = some (nI e9.2)))) := by
    intro kf
    induction kf with
    | zero => exact ⟨by intros; exact pl_0, by intros; exact pl_0⟩
    | succ kf ih =>
      refine ⟨?_, ?_⟩
      · skip
        intro N mj p1 pF pM pA E tx cN A M1 I1 R1 hR1 hEI1 hER1 hl51 hl52 hl53 hl54 hl55 hl56 hl57 hl25 hl26 hl71 hl66 hl65 hl68 hl69 hl70 hl72 hl9 hl10 hl11 hF1 hY1 hP1 hK1 hN8 hm6 hwh hs1 hs2 hs3 hc hf hm ha
        have hn := hF1.1
        obtain ⟨hEP, hN0⟩ := EP_of (whole_in hwh)
        have hN : N < 65536 := by rw [hN8]; exact by2_lt _ _
        have hmj : mj < 65536 := by rw [hm6]; exact by2_lt _ _
        have hN1 : 1 ≤ N := by omega
        have hin := (s_class_in hc).1
        have hMF := MBS_of hf
        have hMM := MBS_of hm
        have hat := atE_at ha
        have hb1 := by2_lt f pF
        have hb2 := by2_lt f pM
        have hcf := by2_lt f p1
        refine ps_st1 (S' := (48, [(0, .ref m0)], [.ref m0], M1)) rfl rfl rfl ?_
        refine pl_call (a := [.ref m0]) (rest := []) rfl rfl rfl (rd_checkPool (n := n) (f := f) (tx := tx) (cN := cN) (A := A) (N := N) (mj := mj) (E := E) (s1 := s1) hR1 hl51 hl52 hl53 hl9 hF1 hY1 hP1 (hEP) (hN) (hmj) (hs1) (hN1)) (fun v1 M2 q3 => ?_)
        rcases q3 with q3 | q3
        · skip
          obtain ⟨I4, R5, q48_s, rfl, hR6, hI7, hX8⟩ := q3
          have hi12 := (hI7 51 (by decide)).trans hl51
          have hi13 := (hI7 52 (by decide)).trans hl52
          have hi14 := (hI7 53 (by decide)).trans hl53
          have hi15 := (hI7 54 (by decide)).trans hl54
          have hi16 := (hI7 55 (by decide)).trans hl55
          have hi17 := (hI7 56 (by decide)).trans hl56
          have hi18 := (hI7 57 (by decide)).trans hl57
          have hi19 := (hI7 25 (by decide)).trans hl25
          have hi21 := (hI7 26 (by decide)).trans hl26
          have hi22 := (hI7 71 (by decide)).trans hl71
          have hi23 := (hI7 66 (by decide)).trans hl66
          have hi24 := (hI7 65 (by decide)).trans hl65
          have hi27 := (hI7 68 (by decide)).trans hl68
          have hi28 := (hI7 69 (by decide)).trans hl69
          have hi29 := (hI7 70 (by decide)).trans hl70
          have hi30 := (hI7 72 (by decide)).trans hl72
          have hi31 := (hI7 9 (by decide)).trans hl9
          have hi32 := (hI7 10 (by decide)).trans hl10
          have hi33 := (hI7 11 (by decide)).trans hl11
          have hF_34 := hF1.mono (cIx hI7 (by decide)) (cRx hX8 (by decide))
          have hY_35 := hY1.mono (cIx hI7 (by decide)) (cRx hX8 (by decide))
          have hP_36 := hP1.mono (cIx hI7 (by decide)) (cRx hX8 (by decide))
          have hK_37 := hK1.mono (cIx hI7 (by decide)) (cRx hX8 (by decide))
          have hEI38 := hEI1.tr hI7 (by decide)
          have hER39 := hER1.tr hX8 (by decide)
          show pl _ _ _ (51, [(0, .ref m0)], [.int 1], M2) _
          have hCP := CP_of q48_s hP1.1
          refine ps_if (S1 := (75, [], [], M2)) (S2 := (54, [(0, .ref m0)], [], M2)) rfl rfl rfl (fun c_51 => ?_) (fun c_51 => ?_)
          · exact absurd (of_decide_eq_true c_51) (by decide)
          refine ps_st (S' := (55, [(0, .ref m0)], [.ref m0], M2)) rfl rfl rfl ?_
          refine pl_call (a := [.ref m0]) (rest := []) rfl rfl rfl (rd_checkClass (n := n) (f := f) (tx := tx) (cN := cN) (A := A) (N := N) (mj := mj) (E := E) (hA := p1) (s3 := s3) hR6 hi15 hi33 hi12 hi13 hi14 hF_34 hY_35 hP_36 (hEP) (hN) (hmj) (hs3) (hCP) (hin)) (fun v40 M41 q42 => ?_)
          rcases q42 with q42 | q42
          · skip
            obtain ⟨I43, R44, q55_s, rfl, hR45, hI46, hX47, hi48, hi49⟩ := q42
            have hi50 := (hI46 51 (by decide)).trans hi12
            have hi51 := (hI46 52 (by decide)).trans hi13
            have hi52 := (hI46 53 (by decide)).trans hi14
            have hi53 := (hI46 54 (by decide)).trans hi15
            have hi54 := (hI46 55 (by decide)).trans hi16
            have hi55 := (hI46 56 (by decide)).trans hi17
            have hi56 := (hI46 57 (by decide)).trans hi18
            have hi57 := (hI46 25 (by decide)).trans hi19
            have hi58 := (hI46 26 (by decide)).trans hi21
            have hi59 := (hI46 71 (by decide)).trans hi22
            have hi60 := (hI46 66 (by decide)).trans hi23
            have hi61 := (hI46 65 (by decide)).trans hi24
            have hi62 := (hI46 68 (by decide)).trans hi27
            have hi63 := (hI46 69 (by decide)).trans hi28
            have hi64 := (hI46 70 (by decide)).trans hi29
            have hi65 := (hI46 72 (by decide)).trans hi30
            have hi66 := (hI46 9 (by decide)).trans hi31
            have hi67 := (hI46 10 (by decide)).trans hi32
            have hi68 := (hI46 11 (by decide)).trans hi33
            have hF_69 := hF_34.mono (cIx hI46 (by decide)) (cRx hX47 (by decide))
            have hY_70 := hY_35.mono (cIx hI46 (by decide)) (cRx hX47 (by decide))
            have hP_71 := hP_36.mono (cIx hI46 (by decide)) (cRx hX47 (by decide))
            have hK_72 := hK_37.mono (cIx hI46 (by decide)) (cRx hX47 (by decide))
            have hEI73 := hEI38.tr hI46 (by decide)
            have hER74 := hER39.tr hX47 (by decide)
            show pl _ _ _ (58, [(0, .ref m0)], [.int 1], M41) _
            refine ps_if (S1 := (75, [], [], M41)) (S2 := (61, [(0, .ref m0)], [], M41)) rfl rfl rfl (fun c_58 => ?_) (fun c_58 => ?_)
            · exact absurd (of_decide_eq_true c_58) (by decide)
            refine ps_st (S' := (62, [(0, .ref m0)], [.ref m0], M41)) rfl rfl rfl ?_
            refine pl_call (a := [.ref m0]) (rest := []) rfl rfl rfl (rd_checkFields (n := n) (f := f) (tx := tx) (cN := cN) (A := A) (N := N) (mj := mj) (E := E) (pF := pF) (f0 := 0) (cf := (by2 f p1)) (B := (mbs f n (by2 f pF) (pF + 2))) (E1 := (fun i => mE f n ((mbs f n (by2 f pF) (pF + 2)).getD i 0))) hR45 hi50 hi51 hi52 hi48 hi54 hi57 hF_69 hY_70 hP_71 hK_72 (hEP) (hN) (hmj) (hMF) (by omega) (hcf)) (fun v75 M76 q77 => ?_)
            rcases q77 with q77 | q77
            · skip
              obtain ⟨I78, R79, q62_s, rfl, hR80, hI81, hX82, hi83⟩ := q77
              have hi84 := (hI81 51 (by decide)).trans hi50
              have hi85 := (hI81 52 (by decide)).trans hi51
              have hi86 := (hI81 53 (by decide)).trans hi52
              have hi87 := (hI81 54 (by decide)).trans hi53
              have hi88 := (hI81 55 (by decide)).trans hi54
              have hi89 := (hI81 56 (by decide)).trans hi55
              have hi90 := (hI81 57 (by decide)).trans hi56
              have hi91 := (hI81 26 (by decide)).trans hi58
              have hi92 := (hI81 71 (by decide)).trans hi59
              have hi93 := (hI81 66 (by decide)).trans hi60
              have hi94 := (hI81 65 (by decide)).trans hi61
              have hi95 := (hI81 68 (by decide)).trans hi62
              have hi96 := (hI81 69 (by decide)).trans hi63
              have hi97 := (hI81 70 (by decide)).trans hi64
              have hi98 := (hI81 72 (by decide)).trans hi65
              have hi99 := (hI81 9 (by decide)).trans hi66
              have hi100 := (hI81 10 (by decide)).trans hi67
              have hi101 := (hI81 11 (by decide)).trans hi68
              have hi102 := (hI81 58 (by decide)).trans hi48
              have hi103 := (hI81 61 (by decide)).trans hi49
              have hF_104 := hF_69.mono (cIx hI81 (by decide)) (cRx hX82 (by decide))
              have hY_105 := hY_70.mono (cIx hI81 (by decide)) (cRx hX82 (by decide))
              have hP_106 := hP_71.mono (cIx hI81 (by decide)) (cRx hX82 (by decide))
              have hK_107 := hK_72.mono (cIx hI81 (by decide)) (cRx hX82 (by decide))
              have hEI108 := hEI73.tr hI81 (by decide)
              have hER109 := hER74.tr hX82 (by decide)
              show pl _ _ _ (65, [(0, .ref m0)], [.int 1], M76) _
              refine ps_if (S1 := (75, [], [], M76)) (S2 := (68, [(0, .ref m0)], [], M76)) rfl rfl rfl (fun c_65 => ?_) (fun c_65 => ?_)
              · exact absurd (of_decide_eq_true c_65) (by decide)
              refine ps_st (S' := (69, [(0, .ref m0)], [.ref m0], M76)) rfl rfl rfl ?_
              refine pl_call (a := [.ref m0]) (rest := []) rfl rfl rfl (rd_checkMethods (n := n) (f := f) (tx := tx) (cN := cN) (A := A) (N := N) (mj := mj) (E := E) (pM := pM) (f0 := 0) (cf := (by2 f p1)) (si := s1) (sc := s2) (B := (mbs f n (by2 f pM) (pM + 2))) (E1 := (fun i => mE f n ((mbs f n (by2 f pM) (pM + 2)).getD i 0))) hR80 hi84 hi85 hi86 hi102 hi89 hi91 hi99 hi100 hF_104 hY_105 hP_106 hK_107 (hEP) (hN) (hmj) (hMM) (by omega) (hcf) (⟨hs1.1, hs1.2.trans lt_eq.2.1⟩) (⟨hs2.1, hs2.2.trans lt_eq.2.2.1⟩)) (fun v110 M111 q112 => ?_)
              rcases q112 with q112 | q112
              · skip
                obtain ⟨I113, R114, q69_s, rfl, hR115, hI116, hX117, hi118⟩ := q112
                have hi119 := (hI116 51 (by decide)).trans hi84
                have hi120 := (hI116 52 (by decide)).trans hi85
                have hi121 := (hI116 53 (by decide)).trans hi86
                have hi122 := (hI116 54 (by decide)).trans hi87
                have hi123 := (hI116 55 (by decide)).trans hi88
                have hi124 := (hI116 56 (by decide)).trans hi89
                have hi125 := (hI116 57 (by decide)).trans hi90
                have hi126 := (hI116 71 (by decide)).trans hi92
                have hi127 := (hI116 66 (by decide)).trans hi93
                have hi128 := (hI116 65 (by decide)).trans hi94
                have hi129 := (hI116 68 (by decide)).trans hi95
                have hi130 := (hI116 69 (by decide)).trans hi96
                have hi131 := (hI116 70 (by decide)).trans hi97
                have hi132 := (hI116 72 (by decide)).trans hi98
                have hi133 := (hI116 9 (by decide)).trans hi99
                have hi134 := (hI116 10 (by decide)).trans hi100
                have hi135 := (hI116 11 (by decide)).trans hi101
                have hi136 := (hI116 58 (by decide)).trans hi102
                have hi137 := (hI116 61 (by decide)).trans hi103
                have hi138 := (hI116 25 (by decide)).trans hi83
                have hF_139 := hF_104.mono (cIx hI116 (by decide)) (cRx hX117 (by decide))
                have hY_140 := hY_105.mono (cIx hI116 (by decide)) (cRx hX117 (by decide))
                have hP_141 := hP_106.mono (cIx hI116 (by decide)) (cRx hX117 (by decide))
                have hK_142 := hK_107.mono (cIx hI116 (by decide)) (cRx hX117 (by decide))
                have hEI143 := hEI108.tr hI116 (by decide)
                have hER144 := hER109.tr hX117 (by decide)
                show pl _ _ _ (72, [(0, .ref m0)], [.int 1], M111) _
                refine ps_if (S1 := (77, [(0, .ref m0)], [], M111)) (S2 := (75, [], [], M111)) rfl rfl rfl (fun c_72 => ?_) (fun c_72 => ?_)
                rotate_left
                · exact absurd (by decide) (of_decide_eq_false c_72)
                refine ps_st (S' := (78, [(0, .ref m0)], [.ref m0], M111)) rfl rfl rfl ?_
                refine ps_st (S' := (79, [(0, .ref m0)], [.ref m0, .ref m0], M111)) rfl rfl rfl ?_
                refine pr_int (j := 57) (S' := (82, [(0, .ref m0)], [.int (nI pA), .ref m0], M111)) rfl hR115 rfl hi125 rfl ?_
                refine ps_st (S' := (83, [(0, .ref m0)], [.int 4, .int (nI pA), .ref m0], M111)) rfl rfl rfl ?_
                refine ps_st (S' := (84, [(0, .ref m0)], [.int 0, .int 4, .int (nI pA), .ref m0], M111)) rfl rfl rfl ?_
                refine pl_call (a := [.ref m0, .int (nI pA), .int 4, .int 0]) (rest := []) rfl rfl rfl (rd_checkAttributes4 (n := n) (f := f) (tx := tx) (cN := cN) (A := A) (N := N) (mj := mj) (E := E) (p1 := pA) (e := n) (x := 0) (fl := (by2 f p1)) hR115 hi119 hi120 hi121 hi136 hi126 hi127 hi128 hi129 hi130 hi131 hi132 hF_139 hY_140 hP_141 hK_142 (hEP) (hN) (hmj) (⟨hat.1, hat.2.1⟩) (hat.2.2) (hcf)) (fun v145 M146 q147 => ?_)
                rcases q147 with q147 | q147
                · skip
                  obtain ⟨e9148, I149, R150, q84_s, rfl, hR151, hI152, hX153, hi154, hi155⟩ := q147
                  have hi156 := (hI152 51 (by decide)).trans hi119
                  have hi157 := (hI152 52 (by decide)).trans hi120
                  have hi158 := (hI152 53 (by decide)).trans hi121
                  have hi159 := (hI152 54 (by decide)).trans hi122
                  have hi160 := (hI152 55 (by decide)).trans hi123
                  have hi161 := (hI152 56 (by decide)).trans hi124
                  have hi162 := (hI152 57 (by decide)).trans hi125
                  have hi163 := (hI152 9 (by decide)).trans hi133
                  have hi164 := (hI152 10 (by decide)).trans hi134
                  have hi165 := (hI152 11 (by decide)).trans hi135
                  have hi166 := (hI152 58 (by decide)).trans hi136
                  have hi167 := (hI152 61 (by decide)).trans hi137
                  have hi168 := (hI152 25 (by decide)).trans hi138
                  have hi169 := (hI152 26 (by decide)).trans hi118
                  have hF_170 := hF_139.mono (cIx hI152 (by decide)) (cRx hX153 (by decide))
                  have hY_171 := hY_140.mono (cIx hI152 (by decide)) (cRx hX153 (by decide))
                  have hP_172 := hP_141.mono (cIx hI152 (by decide)) (cRx hX153 (by decide))
                  have hK_173 := hK_142.mono (cIx hI152 (by decide)) (cRx hX153 (by decide))
                  have hEI174 := hEI143.tr hI152 (by decide)
                  have hER175 := hER144.tr hX153 (by decide)
                  show pl _ _ _ (87, [(0, .ref m0)], [.int (-1)], M146) _
                  refine ps_if (S1 := (92, [(0, .ref m0)], [], M146)) (S2 := (90, [(0, .ref m0)], [], M146)) rfl rfl rfl (fun c_87 => ?_) (fun c_87 => ?_)
                  · exact absurd (of_decide_eq_true c_87) (by decide)
                  refine ps_st (S' := (91, [(0, .ref m0)], [.int 0], M146)) rfl rfl rfl ?_
                  exact ps_ret rfl rfl (Or.inr ⟨e9148, I149, R150, by
                      refine s_read_2 hwh ?_
                      rw [← hN8, ← hm6]
                      unfold s_chk
                      rw [q48_s]
                      dsimp only
                      obtain ⟨hh9, hh8⟩ := cc_none q55_s
                      rw [hh9]
                      dsimp only
                      rw [hh8]
                      dsimp only
                      rw [q62_s]
                      dsimp only
                      rw [q69_s]
                      dsimp only
                      rw [q84_s], rfl, hR151, hEI174, hER175, hi154, hi155⟩)
                · skip
                  obtain ⟨bc176, K177, I178, R179, q84_s, q84_U, rfl, hR180, hI181, hX182, hi183, hi184, hi185, hi186, hi187, hi188, hi189⟩ := q147
                  have hi190 := (hI181 51 (by decide)).trans hi119
                  have hi191 := (hI181 52 (by decide)).trans hi120
                  have hi192 := (hI181 53 (by decide)).trans hi121
                  have hi193 := (hI181 54 (by decide)).trans hi122
                  have hi194 := (hI181 55 (by decide)).trans hi123
                  have hi195 := (hI181 56 (by decide)).trans hi124
                  have hi196 := (hI181 57 (by decide)).trans hi125
                  have hi197 := (hI181 9 (by decide)).trans hi133
                  have hi198 := (hI181 10 (by decide)).trans hi134
                  have hi199 := (hI181 11 (by decide)).trans hi135
                  have hi200 := (hI181 58 (by decide)).trans hi136
                  have hi201 := (hI181 61 (by decide)).trans hi137
                  have hi202 := (hI181 25 (by decide)).trans hi138
                  have hi203 := (hI181 26 (by decide)).trans hi118
                  have hF_204 := hF_139.mono (cIx hI181 (by decide)) (cRx hX182 (by decide))
                  have hY_205 := hY_140.mono (cIx hI181 (by decide)) (cRx hX182 (by decide))
                  have hP_206 := hP_141.mono (cIx hI181 (by decide)) (cRx hX182 (by decide))
                  have hK_207 := hK_142.mono (cIx hI181 (by decide)) (cRx hX182 (by decide))
                  have hEI208 := hEI143.tr hI181 (by decide)
                  have hER209 := hER144.tr hX182 (by decide)
                  show pl _ _ _ (87, [(0, .ref m0)], [.int (nI n)], M146) _
                  refine ps_if (S1 := (92, [(0, .ref m0)], [], M146)) (S2 := (90, [(0, .ref m0)], [], M146)) rfl rfl rfl (fun c_87 => ?_) (fun c_87 => ?_)
                  rotate_left
                  · exact absurd ((le_nI (p := 0) (n := n) (by decide) (by omega)).mpr (by omega)) (of_decide_eq_false c_87)
                  refine ps_st (S' := (93, [(0, .ref m0)], [.int 1], M146)) rfl rfl rfl ?_
                  refine ps_st (S' := (94, [(0, .ref m0), (1, .int 1)], [], M146)) rfl rfl rfl ?_
                  exact ih.2 (N) (mj) (bc176) (1) (E) (tx) (cN) (A) M146 I178 R179 hR180 hEI208 hER209 hi190 hi191 hi192 hi183 hF_204 hY_205 hP_206 (hEP) (hN) (hmj) (clS_bc q84_s) (⟨Nat.le_refl _, hN1⟩) (by
                      refine s_read_2 hwh ?_
                      rw [← hN8, ← hm6]
                      unfold s_chk
                      rw [q48_s]
                      dsimp only
                      obtain ⟨hh9, hh8⟩ := cc_none q55_s
                      rw [hh9]
                      dsimp only
                      rw [hh8]
                      dsimp only
                      rw [q62_s]
                      dsimp only
                      rw [q69_s]
                      dsimp only
                      rw [q84_s]) (rfl)
              · skip
                obtain ⟨e9210, I211, R212, q69_s, rfl, hR213, hI214, hX215, hi216, hi217⟩ := q112
                have hi218 := (hI214 51 (by decide)).trans hi84
                have hi219 := (hI214 52 (by decide)).trans hi85
                have hi220 := (hI214 53 (by decide)).trans hi86
                have hi221 := (hI214 54 (by decide)).trans hi87
                have hi222 := (hI214 55 (by decide)).trans hi88
                have hi223 := (hI214 56 (by decide)).trans hi89
                have hi224 := (hI214 57 (by decide)).trans hi90
                have hi225 := (hI214 71 (by decide)).trans hi92
                have hi226 := (hI214 66 (by decide)).trans hi93
                have hi227 := (hI214 65 (by decide)).trans hi94
                have hi228 := (hI214 68 (by decide)).trans hi95
                have hi229 := (hI214 69 (by decide)).trans hi96
                have hi230 := (hI214 70 (by decide)).trans hi97
                have hi231 := (hI214 72 (by decide)).trans hi98
                have hi232 := (hI214 9 (by decide)).trans hi99
                have hi233 := (hI214 10 (by decide)).trans hi100
                have hi234 := (hI214 11 (by decide)).trans hi101
                have hi235 := (hI214 58 (by decide)).trans hi102
                have hi236 := (hI214 61 (by decide)).trans hi103
                have hi237 := (hI214 25 (by decide)).trans hi83
                have hF_238 := hF_104.mono (cIx hI214 (by decide)) (cRx hX215 (by decide))
                have hY_239 := hY_105.mono (cIx hI214 (by decide)) (cRx hX215 (by decide))
                have hP_240 := hP_106.mono (cIx hI214 (by decide)) (cRx hX215 (by decide))
                have hK_241 := hK_107.mono (cIx hI214 (by decide)) (cRx hX215 (by decide))
                have hEI242 := hEI108.tr hI214 (by decide)
                have hER243 := hER109.tr hX215 (by decide)
                show pl _ _ _ (72, [(0, .ref m0)], [.int 0], M111) _
                refine ps_if (S1 := (77, [(0, .ref m0)], [], M111)) (S2 := (75, [], [], M111)) rfl rfl rfl (fun c_72 => ?_) (fun c_72 => ?_)
                · exact absurd (of_decide_eq_true c_72) (by decide)
                refine ps_st (S' := (76, [], [.int 0], M111)) rfl rfl rfl ?_
                exact ps_ret rfl rfl (Or.inr ⟨e9210, I211, R212, by
                    refine s_read_2 hwh ?_
                    rw [← hN8, ← hm6]
                    unfold s_chk
                    rw [q48_s]
                    dsimp only
                    obtain ⟨hh9, hh8⟩ := cc_none q55_s
                    rw [hh9]
                    dsimp only
                    rw [hh8]
                    dsimp only
                    rw [q62_s]
                    dsimp only
                    rw [q69_s], rfl, hR213, hEI242, hER243, hi216, hi217⟩)
            · skip
              obtain ⟨e9244, I245, R246, q62_s, rfl, hR247, hI248, hX249, hi250, hi251⟩ := q77
              have hi252 := (hI248 51 (by decide)).trans hi50
              have hi253 := (hI248 52 (by decide)).trans hi51
              have hi254 := (hI248 53 (by decide)).trans hi52
              have hi255 := (hI248 54 (by decide)).trans hi53
              have hi256 := (hI248 55 (by decide)).trans hi54
              have hi257 := (hI248 56 (by decide)).trans hi55
              have hi258 := (hI248 57 (by decide)).trans hi56
              have hi259 := (hI248 26 (by decide)).trans hi58
              have hi260 := (hI248 71 (by decide)).trans hi59
              have hi261 := (hI248 66 (by decide)).trans hi60
              have hi262 := (hI248 65 (by decide)).trans hi61
              have hi263 := (hI248 68 (by decide)).trans hi62
              have hi264 := (hI248 69 (by decide)).trans hi63
              have hi265 := (hI248 70 (by decide)).trans hi64
              have hi266 := (hI248 72 (by decide)).trans hi65
              have hi267 := (hI248 9 (by decide)).trans hi66
              have hi268 := (hI248 10 (by decide)).trans hi67
              have hi269 := (hI248 11 (by decide)).trans hi68
              have hi270 := (hI248 58 (by decide)).trans hi48
              have hi271 := (hI248 61 (by decide)).trans hi49
              have hF_272 := hF_69.mono (cIx hI248 (by decide)) (cRx hX249 (by decide))
              have hY_273 := hY_70.mono (cIx hI248 (by decide)) (cRx hX249 (by decide))
              have hP_274 := hP_71.mono (cIx hI248 (by decide)) (cRx hX249 (by decide))
              have hK_275 := hK_72.mono (cIx hI248 (by decide)) (cRx hX249 (by decide))
              have hEI276 := hEI73.tr hI248 (by decide)
              have hER277 := hER74.tr hX249 (by decide)
              show pl _ _ _ (65, [(0, .ref m0)], [.int 0], M76) _
              refine ps_if (S1 := (75, [], [], M76)) (S2 := (68, [(0, .ref m0)], [], M76)) rfl rfl rfl (fun c_65 => ?_) (fun c_65 => ?_)
              rotate_left
              · exact absurd (by decide) (of_decide_eq_false c_65)
              refine ps_st (S' := (76, [], [.int 0], M76)) rfl rfl rfl ?_
              exact ps_ret rfl rfl (Or.inr ⟨e9244, I245, R246, by
                  refine s_read_2 hwh ?_
                  rw [← hN8, ← hm6]
                  unfold s_chk
                  rw [q48_s]
                  dsimp only
                  obtain ⟨hh9, hh8⟩ := cc_none q55_s
                  rw [hh9]
                  dsimp only
                  rw [hh8]
                  dsimp only
                  rw [q62_s], rfl, hR247, hEI276, hER277, hi250, hi251⟩)
          · skip
            obtain ⟨e278, I279, R280, q55_s, rfl, hR281, hI282, hX283, hi284, hi285⟩ := q42
            have hi286 := (hI282 51 (by decide)).trans hi12
            have hi287 := (hI282 52 (by decide)).trans hi13
            have hi288 := (hI282 53 (by decide)).trans hi14
            have hi289 := (hI282 54 (by decide)).trans hi15
            have hi290 := (hI282 55 (by decide)).trans hi16
            have hi291 := (hI282 56 (by decide)).trans hi17
            have hi292 := (hI282 57 (by decide)).trans hi18
            have hi293 := (hI282 25 (by decide)).trans hi19
            have hi294 := (hI282 26 (by decide)).trans hi21
            have hi295 := (hI282 71 (by decide)).trans hi22
            have hi296 := (hI282 66 (by decide)).trans hi23
            have hi297 := (hI282 65 (by decide)).trans hi24
            have hi298 := (hI282 68 (by decide)).trans hi27
            have hi299 := (hI282 69 (by decide)).trans hi28
            have hi300 := (hI282 70 (by decide)).trans hi29
            have hi301 := (hI282 72 (by decide)).trans hi30
            have hi302 := (hI282 9 (by decide)).trans hi31
            have hi303 := (hI282 10 (by decide)).trans hi32
            have hi304 := (hI282 11 (by decide)).trans hi33
            have hF_305 := hF_34.mono (cIx hI282 (by decide)) (cRx hX283 (by decide))
            have hY_306 := hY_35.mono (cIx hI282 (by decide)) (cRx hX283 (by decide))
            have hP_307 := hP_36.mono (cIx hI282 (by decide)) (cRx hX283 (by decide))
            have hK_308 := hK_37.mono (cIx hI282 (by decide)) (cRx hX283 (by decide))
            have hEI309 := hEI38.tr hI282 (by decide)
            have hER310 := hER39.tr hX283 (by decide)
            show pl _ _ _ (58, [(0, .ref m0)], [.int 0], M41) _
            refine ps_if (S1 := (75, [], [], M41)) (S2 := (61, [(0, .ref m0)], [], M41)) rfl rfl rfl (fun c_58 => ?_) (fun c_58 => ?_)
            rotate_left
            · exact absurd (by decide) (of_decide_eq_false c_58)
            refine ps_st (S' := (76, [], [.int 0], M41)) rfl rfl rfl ?_
            exact ps_ret rfl rfl (Or.inr ⟨e278, I279, R280, by
                refine s_read_2 hwh ?_
                rw [← hN8, ← hm6]
                unfold s_chk
                rw [q48_s]
                dsimp only
                exact cc_some q55_s, rfl, hR281, hEI309, hER310, hi284, hi285⟩)
        · skip
          obtain ⟨e311, I312, R313, q48_s, rfl, hR314, hI315, hX316, hi317, hi318⟩ := q3
          have hi319 := (hI315 51 (by decide)).trans hl51
          have hi320 := (hI315 52 (by decide)).trans hl52
          have hi321 := (hI315 53 (by decide)).trans hl53
          have hi322 := (hI315 54 (by decide)).trans hl54
          have hi323 := (hI315 55 (by decide)).trans hl55
          have hi324 := (hI315 56 (by decide)).trans hl56
          have hi325 := (hI315 57 (by decide)).trans hl57
          have hi326 := (hI315 25 (by decide)).trans hl25
          have hi327 := (hI315 26 (by decide)).trans hl26
          have hi328 := (hI315 71 (by decide)).trans hl71
          have hi329 := (hI315 66 (by decide)).trans hl66
          have hi330 := (hI315 65 (by decide)).trans hl65
          have hi331 := (hI315 68 (by decide)).trans hl68
          have hi332 := (hI315 69 (by decide)).trans hl69
          have hi333 := (hI315 70 (by decide)).trans hl70
          have hi334 := (hI315 72 (by decide)).trans hl72
          have hi335 := (hI315 9 (by decide)).trans hl9
          have hi336 := (hI315 10 (by decide)).trans hl10
          have hi337 := (hI315 11 (by decide)).trans hl11
          have hF_338 := hF1.mono (cIx hI315 (by decide)) (cRx hX316 (by decide))
          have hY_339 := hY1.mono (cIx hI315 (by decide)) (cRx hX316 (by decide))
          have hP_340 := hP1.mono (cIx hI315 (by decide)) (cRx hX316 (by decide))
          have hK_341 := hK1.mono (cIx hI315 (by decide)) (cRx hX316 (by decide))
          have hEI342 := hEI1.tr hI315 (by decide)
          have hER343 := hER1.tr hX316 (by decide)
          show pl _ _ _ (51, [(0, .ref m0)], [.int 0], M2) _
          refine ps_if (S1 := (75, [], [], M2)) (S2 := (54, [(0, .ref m0)], [], M2)) rfl rfl rfl (fun c_51 => ?_) (fun c_51 => ?_)
          rotate_left
          · exact absurd (by decide) (of_decide_eq_false c_51)
          refine ps_st (S' := (76, [], [.int 0], M2)) rfl rfl rfl ?_
          exact ps_ret rfl rfl (Or.inr ⟨e311, I312, R313, by
              refine s_read_2 hwh ?_
              rw [← hN8, ← hm6]
              unfold s_chk
              rw [q48_s], rfl, hR314, hEI342, hER343, hi317, hi318⟩)
      · skip
        intro N mj bc k E tx cN A M1 I1 R1 hR1 hEI1 hER1 hl51 hl52 hl53 hl71 hF1 hY1 hP1 hEP hN hmj hbc hk hr hs
        have hn := hF1.1
        refine ps_st1 (S' := (95, [(0, .ref m0), (1, .int (nI k))], [.int (nI k)], M1)) rfl rfl rfl ?_
        refine ps_st (S' := (96, [(0, .ref m0), (1, .int (nI k))], [.ref m0, .int (nI k)], M1)) rfl rfl rfl ?_
        refine pr_int (j := 52) (S' := (99, [(0, .ref m0), (1, .int (nI k))], [.int (nI N), .int (nI k)], M1)) rfl hR1 rfl hl52 rfl ?_
        refine ps_if2 (S1 := (157, [(0, .ref m0), (1, .int (nI k))], [], M1)) (S2 := (102, [(0, .ref m0), (1, .int (nI k))], [], M1)) rfl rfl rfl (fun c_99 => ?_) (fun c_99 => ?_)
        · have c_99 : (nI N) ≤ (nI k) := of_decide_eq_true c_99
          have n_99 : N ≤ k := (le_nI (p := N) (n := k) (by omega) (by omega)).mp c_99
          refine ps_st (S' := (158, [(0, .ref m0), (1, .int (nI k))], [.int 1], M1)) rfl rfl rfl ?_
          exact ps_ret rfl rfl (Or.inl ⟨I1, R1, by
              rw [hr, ← hs, show N - k = 0 by omega]
              rfl, rfl, hR1, hEI1, hER1⟩)
        · have c_99 : ¬ ((nI N) ≤ (nI k)) := of_decide_eq_false c_99
          have n_99 : ¬ (N ≤ k) := fun h9 => c_99 ((le_nI (p := N) (n := k) (by omega) (by omega)).mpr h9)
          refine ps_st (S' := (103, [(0, .ref m0), (1, .int (nI k))], [.ref m0], M1)) rfl rfl rfl ?_
          refine ps_st (S' := (104, [(0, .ref m0), (1, .int (nI k))], [.int (nI k), .ref m0], M1)) rfl rfl rfl ?_
          refine pl_call (a := [.ref m0, .int (nI k)]) (rest := []) rfl rfl rfl (rd_tag (n := n) (f := f) (tx := tx) (cN := cN) (A := A) (N := N) (mj := mj) (E := E) (k := k) hR1 hl51 hl52 hl53 hF1 hY1 hP1 (hEP) (hN) (hmj) (by omega)) (fun v344 M345 q346 => ?_)
          obtain ⟨rfl, rfl⟩ := q346
          show pl _ _ _ (107, [(0, .ref m0), (1, .int (nI k))], [.int (nI (tg f E k))], M1) _
          have htg_104 := tg_lt f E k
          refine ps_st (S' := (108, [(2, .int (nI (tg f E k))), (0, .ref m0), (1, .int (nI k))], [], M1)) rfl rfl rfl ?_
          refine ps_st (S' := (109, [(2, .int (nI (tg f E k))), (0, .ref m0), (1, .int (nI k))], [.int (nI (tg f E k))], M1)) rfl rfl rfl ?_
          refine ps_st (S' := (111, [(2, .int (nI (tg f E k))), (0, .ref m0), (1, .int (nI k))], [.int 17, .int (nI (tg f E k))], M1)) rfl rfl rfl ?_
          refine ps_if2 (S1 := (120, [(0, .ref m0), (1, .int (nI k))], [], M1)) (S2 := (114, [(2, .int (nI (tg f E k))), (0, .ref m0), (1, .int (nI k))], [], M1)) rfl rfl rfl (fun c_111 => ?_) (fun c_111 => ?_)
          · have c_111 : (nI (tg f E k)) = 17 := of_decide_eq_true c_111
            have n_111 : tg f E k = 17 := (eq_nI (p := tg f E k) (n := 17) (Nat.lt_trans (tg_lt _ _ _) (by decide)) (by decide)).mp c_111
            refine ps_st (S' := (121, [(0, .ref m0), (1, .int (nI k))], [.ref m0], M1)) rfl rfl rfl ?_
            refine ps_st (S' := (122, [(0, .ref m0), (1, .int (nI k))], [.int (nI k), .ref m0], M1)) rfl rfl rfl ?_
            refine ps_st (S' := (123, [(0, .ref m0), (1, .int (nI k))], [.int 1, .int (nI k), .ref m0], M1)) rfl rfl rfl ?_
            refine pl_call (a := [.ref m0, .int (nI k), .int 1]) (rest := []) rfl rfl rfl (rd_idx1 (n := n) (f := f) (tx := tx) (cN := cN) (A := A) (N := N) (mj := mj) (E := E) (k := k) hR1 hl51 hl52 hl53 hF1 hY1 hP1 (hEP) (hN) (hmj) (by omega)) (fun v347 M348 q349 => ?_)
            obtain ⟨rfl, rfl⟩ := q349
            show pl _ _ _ (126, [(0, .ref m0), (1, .int (nI k))], [.int (nI (fi f E k))], M1) _
            have hix_123 := fi_lt f E k
            refine ps_st (S' := (127, [(0, .ref m0), (1, .int (nI k))], [.ref m0, .int (nI (fi f E k))], M1)) rfl rfl rfl ?_
            refine pr_int (j := 71) (S' := (130, [(0, .ref m0), (1, .int (nI k))], [.int (nI bc), .int (nI (fi f E k))], M1)) rfl hR1 rfl hl71 rfl ?_
            refine ps_if2 (S1 := (151, [(0, .ref m0), (1, .int (nI k))], [], M1)) (S2 := (133, [(0, .ref m0), (1, .int (nI k))], [], M1)) rfl rfl rfl (fun c_130 => ?_) (fun c_130 => ?_)
            · have c_130 : (nI (fi f E k)) < (nI bc) := of_decide_eq_true c_130
              have n_130 : fi f E k < bc := (lt_nI (p := fi f E k) (n := bc) (Nat.lt_trans (fi_lt _ _ _) (by decide)) (by omega)).mp c_130
              refine ps_st (S' := (154, [(1, .int ((nI k) + 1)), (0, .ref m0)], [], M1)) rfl rfl rfl ?_
              rw [nI_add1 (p := k) (k := 1) (x := 1) rfl (by omega)]
              show pl _ _ _ (_, [(1, .int (nI (k + 1))), (0, .ref m0)], [], M1) _
              refine ps_st (S' := (94, [(0, .ref m0), (1, .int (nI (k + 1)))], [], M1)) rfl rfl rfl ?_
              exact ih.2 (N) (mj) (bc) (k + 1) (E) (tx) (cN) (A) M1 I1 R1 hR1 hEI1 hER1 hl51 hl52 hl53 hl71 hF1 hY1 hP1 (hEP) (hN) (hmj) (hbc) (by omega) (hr) (by
                  rw [← hs, chkB_st (k := k) (by omega), if_neg (by omega)])
            · have c_130 : ¬ ((nI (fi f E k)) < (nI bc)) := of_decide_eq_false c_130
              have n_130 : ¬ (fi f E k < bc) := fun h9 => c_130 ((lt_nI (p := fi f E k) (n := bc) (Nat.lt_trans (fi_lt _ _ _) (by decide)) (by omega)).mpr h9)
              obtain ⟨p, hk9, hb9⟩ := tg_lk (f := f) (E := E) (k := k) (by omega)
              have hep9 := hEP k p hk9
              refine ps_st (S' := (134, [(0, .ref m0), (1, .int (nI k))], [.ref m0], M1)) rfl rfl rfl ?_
              refine ps_st (S' := (136, [(0, .ref m0), (1, .int (nI k))], [.int 40, .ref m0], M1)) rfl rfl rfl ?_
              refine ps_st (S' := (137, [(0, .ref m0), (1, .int (nI k))], [.ref m0, .int 40, .ref m0], M1)) rfl rfl rfl ?_
              refine pr_ref (j := 21) (S' := (140, [(0, .ref m0), (1, .int (nI k))], [.ref (q 21), .int 40, .ref m0], M1)) rfl hR1 rfl rfl ?_
              refine ps_st (S' := (141, [(0, .ref m0), (1, .int (nI k))], [.ref m0, .ref (q 21), .int 40, .ref m0], M1)) rfl rfl rfl ?_
              refine pr_int (j := 51) (S' := (144, [(0, .ref m0), (1, .int (nI k))], [.int 0, .ref (q 21), .int 40, .ref m0], M1)) rfl hR1 rfl hl51 rfl ?_
              refine ps_st (S' := (145, [(0, .ref m0), (1, .int (nI k))], [.int (nI k), .int 0, .ref (q 21), .int 40, .ref m0], M1)) rfl rfl rfl ?_
              refine ps_st (S' := (146, [(0, .ref m0), (1, .int (nI k))], [.int (0 + (nI k)), .ref (q 21), .int 40, .ref m0], M1)) rfl rfl rfl ?_
              rw [show (0 : Int32) + (nI k) = (nI k) from Int32.zero_add _]
              show pl _ _ _ (_, [(0, .ref m0), (1, .int (nI k))], [.int (nI k), .ref (q 21), .int 40, .ref m0], M1) _
              refine pr_ld (a := 21) (j := k) (y := (nI p)) (S' := (147, [(0, .ref m0), (1, .int (nI k))], [.int (nI p), .int 40, .ref m0], M1)) rfl hR1 rfl (by omega) (fun _ => by rw [hP1.2.1 k (by omega), hk9]; rfl) rfl (fun i1_146 => ?_)
              refine pl_call (a := [.ref m0, .int 40, .int (nI p)]) (rest := []) rfl rfl rfl (rd_wrong (x1 := 40) (x2 := (nI p)) hR1) (fun v350 M351 q352 => ?_)
              obtain ⟨I353, R354, rfl, hR355, hI356, hX357, hi358, hi359⟩ := q352
              have hi360 := (hI356 51 (by decide)).trans hl51
              have hi361 := (hI356 52 (by decide)).trans hl52
              have hi362 := (hI356 53 (by decide)).trans hl53
              have hi363 := (hI356 71 (by decide)).trans hl71
              have hF_364 := hF1.mono (cIx hI356 (by decide)) (cRx hX357 (by decide))
              have hY_365 := hY1.mono (cIx hI356 (by decide)) (cRx hX357 (by decide))
              have hP_366 := hP1.mono (cIx hI356 (by decide)) (cRx hX357 (by decide))
              have hEI367 := hEI1.tr hI356 (by decide)
              have hER368 := hER1.tr hX357 (by decide)
              show pl _ _ _ (150, [(0, .ref m0), (1, .int (nI k))], [.int 0], M351) _
              exact ps_ret rfl rfl (Or.inr ⟨(40, p), I353, R354, by
                  rw [hr, ← hs, chkB_st (k := k) (by omega), if_pos (by omega), tp_is hk9], rfl, hR355, hEI367, hER368, hi358, hi359⟩)
          · have c_111 : ¬ ((nI (tg f E k)) = 17) := of_decide_eq_false c_111
            have n_111 : ¬ (tg f E k = 17) := fun h9 => c_111 ((eq_nI (p := tg f E k) (n := 17) (Nat.lt_trans (tg_lt _ _ _) (by decide)) (by decide)).mpr h9)
            refine ps_st (S' := (115, [(2, .int (nI (tg f E k))), (0, .ref m0), (1, .int (nI k))], [.int (nI (tg f E k))], M1)) rfl rfl rfl ?_
            refine ps_st (S' := (117, [(2, .int (nI (tg f E k))), (0, .ref m0), (1, .int (nI k))], [.int 18, .int (nI (tg f E k))], M1)) rfl rfl rfl ?_
            refine ps_if2 (S1 := (151, [(0, .ref m0), (1, .int (nI k))], [], M1)) (S2 := (120, [(0, .ref m0), (1, .int (nI k))], [], M1)) rfl rfl rfl (fun c_117 => ?_) (fun c_117 => ?_)
            · have c_117 : ¬ (nI (tg f E k)) = 18 := of_decide_eq_true c_117
              have n_117 : ¬ (tg f E k = 18) := fun h9 => c_117 ((eq_nI (p := tg f E k) (n := 18) (Nat.lt_trans (tg_lt _ _ _) (by decide)) (by decide)).mpr h9)
              refine ps_st (S' := (154, [(1, .int ((nI k) + 1)), (0, .ref m0)], [], M1)) rfl rfl rfl ?_
              rw [nI_add1 (p := k) (k := 1) (x := 1) rfl (by omega)]
              show pl _ _ _ (_, [(1, .int (nI (k + 1))), (0, .ref m0)], [], M1) _
              refine ps_st (S' := (94, [(0, .ref m0), (1, .int (nI (k + 1)))], [], M1)) rfl rfl rfl ?_
              exact ih.2 (N) (mj) (bc) (k + 1) (E) (tx) (cN) (A) M1 I1 R1 hR1 hEI1 hER1 hl51 hl52 hl53 hl71 hF1 hY1 hP1 (hEP) (hN) (hmj) (hbc) (by omega) (hr) (by
                  rw [← hs, chkB_st (k := k) (by omega), if_neg (by omega)])
            · have c_117 : ¬ (¬ (nI (tg f E k)) = 18) := of_decide_eq_false c_117
              have n_117 : tg f E k = 18 := (eq_nI (p := tg f E k) (n := 18) (Nat.lt_trans (tg_lt _ _ _) (by decide)) (by decide)).mp (Decidable.not_not.mp c_117)
              refine ps_st (S' := (121, [(0, .ref m0), (1, .int (nI k))], [.ref m0], M1)) rfl rfl rfl ?_
              refine ps_st (S' := (122, [(0, .ref m0), (1, .int (nI k))], [.int (nI k), .ref m0], M1)) rfl rfl rfl ?_
              refine ps_st (S' := (123, [(0, .ref m0), (1, .int (nI k))], [.int 1, .int (nI k), .ref m0], M1)) rfl rfl rfl ?_
              refine pl_call (a := [.ref m0, .int (nI k), .int 1]) (rest := []) rfl rfl rfl (rd_idx1 (n := n) (f := f) (tx := tx) (cN := cN) (A := A) (N := N) (mj := mj) (E := E) (k := k) hR1 hl51 hl52 hl53 hF1 hY1 hP1 (hEP) (hN) (hmj) (by omega)) (fun v369 M370 q371 => ?_)
              obtain ⟨rfl, rfl⟩ := q371
              show pl _ _ _ (126, [(0, .ref m0), (1, .int (nI k))], [.int (nI (fi f E k))], M1) _
              have hix_123 := fi_lt f E k
              refine ps_st (S' := (127, [(0, .ref m0), (1, .int (nI k))], [.ref m0, .int (nI (fi f E k))], M1)) rfl rfl rfl ?_
              refine pr_int (j := 71) (S' := (130, [(0, .ref m0), (1, .int (nI k))], [.int (nI bc), .int (nI (fi f E k))], M1)) rfl hR1 rfl hl71 rfl ?_
              refine ps_if2 (S1 := (151, [(0, .ref m0), (1, .int (nI k))], [], M1)) (S2 := (133, [(0, .ref m0), (1, .int (nI k))], [], M1)) rfl rfl rfl (fun c_130 => ?_) (fun c_130 => ?_)
              · have c_130 : (nI (fi f E k)) < (nI bc) := of_decide_eq_true c_130
                have n_130 : fi f E k < bc := (lt_nI (p := fi f E k) (n := bc) (Nat.lt_trans (fi_lt _ _ _) (by decide)) (by omega)).mp c_130
                refine ps_st (S' := (154, [(1, .int ((nI k) + 1)), (0, .ref m0)], [], M1)) rfl rfl rfl ?_
                rw [nI_add1 (p := k) (k := 1) (x := 1) rfl (by omega)]
                show pl _ _ _ (_, [(1, .int (nI (k + 1))), (0, .ref m0)], [], M1) _
                refine ps_st (S' := (94, [(0, .ref m0), (1, .int (nI (k + 1)))], [], M1)) rfl rfl rfl ?_
                exact ih.2 (N) (mj) (bc) (k + 1) (E) (tx) (cN) (A) M1 I1 R1 hR1 hEI1 hER1 hl51 hl52 hl53 hl71 hF1 hY1 hP1 (hEP) (hN) (hmj) (hbc) (by omega) (hr) (by
                    rw [← hs, chkB_st (k := k) (by omega), if_neg (by omega)])
              · have c_130 : ¬ ((nI (fi f E k)) < (nI bc)) := of_decide_eq_false c_130
                have n_130 : ¬ (fi f E k < bc) := fun h9 => c_130 ((lt_nI (p := fi f E k) (n := bc) (Nat.lt_trans (fi_lt _ _ _) (by decide)) (by omega)).mpr h9)
                obtain ⟨p, hk9, hb9⟩ := tg_lk (f := f) (E := E) (k := k) (by omega)
                have hep9 := hEP k p hk9
                refine ps_st (S' := (134, [(0, .ref m0), (1, .int (nI k))], [.ref m0], M1)) rfl rfl rfl ?_
                refine ps_st (S' := (136, [(0, .ref m0), (1, .int (nI k))], [.int 40, .ref m0], M1)) rfl rfl rfl ?_
                refine ps_st (S' := (137, [(0, .ref m0), (1, .int (nI k))], [.ref m0, .int 40, .ref m0], M1)) rfl rfl rfl ?_
                refine pr_ref (j := 21) (S' := (140, [(0, .ref m0), (1, .int (nI k))], [.ref (q 21), .int 40, .ref m0], M1)) rfl hR1 rfl rfl ?_
                refine ps_st (S' := (141, [(0, .ref m0), (1, .int (nI k))], [.ref m0, .ref (q 21), .int 40, .ref m0], M1)) rfl rfl rfl ?_
                refine pr_int (j := 51) (S' := (144, [(0, .ref m0), (1, .int (nI k))], [.int 0, .ref (q 21), .int 40, .ref m0], M1)) rfl hR1 rfl hl51 rfl ?_
                refine ps_st (S' := (145, [(0, .ref m0), (1, .int (nI k))], [.int (nI k), .int 0, .ref (q 21), .int 40, .ref m0], M1)) rfl rfl rfl ?_
                refine ps_st (S' := (146, [(0, .ref m0), (1, .int (nI k))], [.int (0 + (nI k)), .ref (q 21), .int 40, .ref m0], M1)) rfl rfl rfl ?_
                rw [show (0 : Int32) + (nI k) = (nI k) from Int32.zero_add _]
                show pl _ _ _ (_, [(0, .ref m0), (1, .int (nI k))], [.int (nI k), .ref (q 21), .int 40, .ref m0], M1) _
                refine pr_ld (a := 21) (j := k) (y := (nI p)) (S' := (147, [(0, .ref m0), (1, .int (nI k))], [.int (nI p), .int 40, .ref m0], M1)) rfl hR1 rfl (by omega) (fun _ => by rw [hP1.2.1 k (by omega), hk9]; rfl) rfl (fun i1_146 => ?_)
                refine pl_call (a := [.ref m0, .int 40, .int (nI p)]) (rest := []) rfl rfl rfl (rd_wrong (x1 := 40) (x2 := (nI p)) hR1) (fun v372 M373 q374 => ?_)
                obtain ⟨I375, R376, rfl, hR377, hI378, hX379, hi380, hi381⟩ := q374
                have hi382 := (hI378 51 (by decide)).trans hl51
                have hi383 := (hI378 52 (by decide)).trans hl52
                have hi384 := (hI378 53 (by decide)).trans hl53
                have hi385 := (hI378 71 (by decide)).trans hl71
                have hF_386 := hF1.mono (cIx hI378 (by decide)) (cRx hX379 (by decide))
                have hY_387 := hY1.mono (cIx hI378 (by decide)) (cRx hX379 (by decide))
                have hP_388 := hP1.mono (cIx hI378 (by decide)) (cRx hX379 (by decide))
                have hEI389 := hEI1.tr hI378 (by decide)
                have hER390 := hER1.tr hX379 (by decide)
                show pl _ _ _ (150, [(0, .ref m0), (1, .int (nI k))], [.int 0], M373) _
                exact ps_ret rfl rfl (Or.inr ⟨(40, p), I375, R376, by
                    rw [hr, ← hs, chkB_st (k := k) (by omega), if_pos (by omega), tp_is hk9], rfl, hR377, hEI389, hER390, hi380, hi381⟩)
  refine ps_st (S' := (1, [(0, .ref m0)], [.ref m0], M)) rfl rfl rfl ?_
  refine ps_st (S' := (2, [(0, .ref m0)], [.int (-1), .ref m0], M)) rfl rfl rfl ?_
  refine pr_put (j := 67) rfl hR rfl (fun M391 I392 hR393 hi394 hI395 => ?_)
  have hi396 := (hI395 20 (by decide)).trans hi20
  have hi397 := (hI395 25 (by decide)).trans hi25
  have hi398 := (hI395 26 (by decide)).trans hi26
  have hi399 := (hI395 9 (by decide)).trans hi9
  have hi400 := (hI395 10 (by decide)).trans hi10
  have hi401 := (hI395 11 (by decide)).trans hi11
  have hF_402 := hF.mono (pIx hI395 (by decide)) (fun _ _ => rfl)
  have hY_403 := hY.mono (pIx hI395 (by decide)) (fun _ _ => rfl)
  have hK_404 := hK.mono (pIx hI395 (by decide)) (fun _ _ => rfl)
  have hEI405 := hEI.put hI395 (by decide)
  show pl _ _ _ (5, [(0, .ref m0)], [], M391) _
  refine ps_st (S' := (6, [(0, .ref m0)], [.ref m0], M391)) rfl rfl rfl ?_
  refine ps_st (S' := (7, [(0, .ref m0)], [.int 0, .ref m0], M391)) rfl rfl rfl ?_
  refine pr_put (j := 68) rfl hR393 rfl (fun M406 I407 hR408 hi409 hI410 => ?_)
  have hi411 := (hI410 20 (by decide)).trans hi396
  have hi412 := (hI410 25 (by decide)).trans hi397
  have hi413 := (hI410 26 (by decide)).trans hi398
  have hi414 := (hI410 9 (by decide)).trans hi399
  have hi415 := (hI410 10 (by decide)).trans hi400
  have hi416 := (hI410 11 (by decide)).trans hi401
  have hi417 := (hI410 67 (by decide)).trans hi394
  have hF_418 := hF_402.mono (pIx hI410 (by decide)) (fun _ _ => rfl)
  have hY_419 := hY_403.mono (pIx hI410 (by decide)) (fun _ _ => rfl)
  have hK_420 := hK_404.mono (pIx hI410 (by decide)) (fun _ _ => rfl)
  have hEI421 := hEI405.put hI410 (by decide)
  show pl _ _ _ (10, [(0, .ref m0)], [], M406) _
  refine ps_st (S' := (11, [(0, .ref m0)], [.ref m0], M406)) rfl rfl rfl ?_
  refine ps_st (S' := (12, [(0, .ref m0)], [.int 0, .ref m0], M406)) rfl rfl rfl ?_
  refine pr_put (j := 69) rfl hR408 rfl (fun M422 I423 hR424 hi425 hI426 => ?_)
  have hi427 := (hI426 20 (by decide)).trans hi411
  have hi428 := (hI426 25 (by decide)).trans hi412
  have hi429 := (hI426 26 (by decide)).trans hi413
  have hi430 := (hI426 9 (by decide)).trans hi414
  have hi431 := (hI426 10 (by decide)).trans hi415
  have hi432 := (hI426 11 (by decide)).trans hi416
  have hi433 := (hI426 67 (by decide)).trans hi417
  have hi434 := (hI426 68 (by decide)).trans hi409
  have hF_435 := hF_418.mono (pIx hI426 (by decide)) (fun _ _ => rfl)
  have hY_436 := hY_419.mono (pIx hI426 (by decide)) (fun _ _ => rfl)
  have hK_437 := hK_420.mono (pIx hI426 (by decide)) (fun _ _ => rfl)
  have hEI438 := hEI421.put hI426 (by decide)
  show pl _ _ _ (15, [(0, .ref m0)], [], M422) _
  refine ps_st (S' := (16, [(0, .ref m0)], [.ref m0], M422)) rfl rfl rfl ?_
  refine ps_st (S' := (17, [(0, .ref m0)], [.int 0, .ref m0], M422)) rfl rfl rfl ?_
  refine pr_put (j := 65) rfl hR424 rfl (fun M439 I440 hR441 hi442 hI443 => ?_)
  have hi444 := (hI443 20 (by decide)).trans hi427
  have hi445 := (hI443 25 (by decide)).trans hi428
  have hi446 := (hI443 26 (by decide)).trans hi429
  have hi447 := (hI443 9 (by decide)).trans hi430
  have hi448 := (hI443 10 (by decide)).trans hi431
  have hi449 := (hI443 11 (by decide)).trans hi432
  have hi450 := (hI443 67 (by decide)).trans hi433
  have hi451 := (hI443 68 (by decide)).trans hi434
  have hi452 := (hI443 69 (by decide)).trans hi425
  have hF_453 := hF_435.mono (pIx hI443 (by decide)) (fun _ _ => rfl)
  have hY_454 := hY_436.mono (pIx hI443 (by decide)) (fun _ _ => rfl)
  have hK_455 := hK_437.mono (pIx hI443 (by decide)) (fun _ _ => rfl)
  have hEI456 := hEI438.put hI443 (by decide)
  show pl _ _ _ (20, [(0, .ref m0)], [], M439) _
  refine ps_st (S' := (21, [(0, .ref m0)], [.ref m0], M439)) rfl rfl rfl ?_
  refine ps_st (S' := (22, [(0, .ref m0)], [.int 0, .ref m0], M439)) rfl rfl rfl ?_
  refine pr_put (j := 66) rfl hR441 rfl (fun M457 I458 hR459 hi460 hI461 => ?_)
  have hi462 := (hI461 20 (by decide)).trans hi444
  have hi463 := (hI461 25 (by decide)).trans hi445
  have hi464 := (hI461 26 (by decide)).trans hi446
  have hi465 := (hI461 9 (by decide)).trans hi447
  have hi466 := (hI461 10 (by decide)).trans hi448
  have hi467 := (hI461 11 (by decide)).trans hi449
  have hi468 := (hI461 67 (by decide)).trans hi450
  have hi469 := (hI461 68 (by decide)).trans hi451
  have hi470 := (hI461 69 (by decide)).trans hi452
  have hi471 := (hI461 65 (by decide)).trans hi442
  have hF_472 := hF_453.mono (pIx hI461 (by decide)) (fun _ _ => rfl)
  have hY_473 := hY_454.mono (pIx hI461 (by decide)) (fun _ _ => rfl)
  have hK_474 := hK_455.mono (pIx hI461 (by decide)) (fun _ _ => rfl)
  have hEI475 := hEI456.put hI461 (by decide)
  show pl _ _ _ (25, [(0, .ref m0)], [], M457) _
  refine ps_st (S' := (26, [(0, .ref m0)], [.ref m0], M457)) rfl rfl rfl ?_
  refine ps_st (S' := (27, [(0, .ref m0)], [.int (-1), .ref m0], M457)) rfl rfl rfl ?_
  refine pr_put (j := 70) rfl hR459 rfl (fun M476 I477 hR478 hi479 hI480 => ?_)
  have hi481 := (hI480 20 (by decide)).trans hi462
  have hi482 := (hI480 25 (by decide)).trans hi463
  have hi483 := (hI480 26 (by decide)).trans hi464
  have hi484 := (hI480 9 (by decide)).trans hi465
  have hi485 := (hI480 10 (by decide)).trans hi466
  have hi486 := (hI480 11 (by decide)).trans hi467
  have hi487 := (hI480 67 (by decide)).trans hi468
  have hi488 := (hI480 68 (by decide)).trans hi469
  have hi489 := (hI480 69 (by decide)).trans hi470
  have hi490 := (hI480 65 (by decide)).trans hi471
  have hi491 := (hI480 66 (by decide)).trans hi460
  have hF_492 := hF_472.mono (pIx hI480 (by decide)) (fun _ _ => rfl)
  have hY_493 := hY_473.mono (pIx hI480 (by decide)) (fun _ _ => rfl)
  have hK_494 := hK_474.mono (pIx hI480 (by decide)) (fun _ _ => rfl)
  have hEI495 := hEI475.put hI480 (by decide)
  show pl _ _ _ (30, [(0, .ref m0)], [], M476) _
  refine ps_st (S' := (31, [(0, .ref m0)], [.ref m0], M476)) rfl rfl rfl ?_
  refine ps_st (S' := (32, [(0, .ref m0)], [.int 0, .ref m0], M476)) rfl rfl rfl ?_
  refine pr_put (j := 71) rfl hR478 rfl (fun M496 I497 hR498 hi499 hI500 => ?_)
  have hi501 := (hI500 20 (by decide)).trans hi481
  have hi502 := (hI500 25 (by decide)).trans hi482
  have hi503 := (hI500 26 (by decide)).trans hi483
  have hi504 := (hI500 9 (by decide)).trans hi484
  have hi505 := (hI500 10 (by decide)).trans hi485
  have hi506 := (hI500 11 (by decide)).trans hi486
  have hi507 := (hI500 67 (by decide)).trans hi487
  have hi508 := (hI500 68 (by decide)).trans hi488
  have hi509 := (hI500 69 (by decide)).trans hi489
  have hi510 := (hI500 65 (by decide)).trans hi490
  have hi511 := (hI500 66 (by decide)).trans hi491
  have hi512 := (hI500 70 (by decide)).trans hi479
  have hF_513 := hF_492.mono (pIx hI500 (by decide)) (fun _ _ => rfl)
  have hY_514 := hY_493.mono (pIx hI500 (by decide)) (fun _ _ => rfl)
  have hK_515 := hK_494.mono (pIx hI500 (by decide)) (fun _ _ => rfl)
  have hEI516 := hEI495.put hI500 (by decide)
  show pl _ _ _ (35, [(0, .ref m0)], [], M496) _
  refine ps_st (S' := (36, [(0, .ref m0)], [.ref m0], M496)) rfl rfl rfl ?_
  refine ps_st (S' := (37, [(0, .ref m0)], [.int (-1), .ref m0], M496)) rfl rfl rfl ?_
  refine pr_put (j := 72) rfl hR498 rfl (fun M517 I518 hR519 hi520 hI521 => ?_)
  have hi522 := (hI521 20 (by decide)).trans hi501
  have hi523 := (hI521 25 (by decide)).trans hi502
  have hi524 := (hI521 26 (by decide)).trans hi503
  have hi525 := (hI521 9 (by decide)).trans hi504
  have hi526 := (hI521 10 (by decide)).trans hi505
  have hi527 := (hI521 11 (by decide)).trans hi506
  have hi528 := (hI521 67 (by decide)).trans hi507
  have hi529 := (hI521 68 (by decide)).trans hi508
  have hi530 := (hI521 69 (by decide)).trans hi509
  have hi531 := (hI521 65 (by decide)).trans hi510
  have hi532 := (hI521 66 (by decide)).trans hi511
  have hi533 := (hI521 70 (by decide)).trans hi512
  have hi534 := (hI521 71 (by decide)).trans hi499
  have hF_535 := hF_513.mono (pIx hI521 (by decide)) (fun _ _ => rfl)
  have hY_536 := hY_514.mono (pIx hI521 (by decide)) (fun _ _ => rfl)
  have hK_537 := hK_515.mono (pIx hI521 (by decide)) (fun _ _ => rfl)
  have hEI538 := hEI516.put hI521 (by decide)
  show pl _ _ _ (40, [(0, .ref m0)], [], M517) _
  refine ps_st (S' := (41, [(0, .ref m0)], [.ref m0], M517)) rfl rfl rfl ?_
  refine pl_call (a := [.ref m0]) (rest := []) rfl rfl rfl (rd_readFile (n := n) (f := f) (tx := tx) (cN := cN) (A := A) hR519 hi522 hF_535 hY_536) (fun v539 M540 q541 => ?_)
  rcases q541 with q541 | q541
  · skip
    obtain ⟨E542, p1543, pF544, pM545, pA546, tx1547, cN1548, A1549, I550, R551, q41_s, q41_k, q41_c, q41_f, q41_m, q41_a, rfl, hR552, hI553, hX554, hi555, hi556, hi557, hi558, hi559, hi560, hi561, hY_562, hP_563⟩ := q541
    have hi564 := (hI553 25 (by decide)).trans hi523
    have hi565 := (hI553 26 (by decide)).trans hi524
    have hi566 := (hI553 9 (by decide)).trans hi525
    have hi567 := (hI553 10 (by decide)).trans hi526
    have hi568 := (hI553 11 (by decide)).trans hi527
    have hi569 := (hI553 67 (by decide)).trans hi528
    have hi570 := (hI553 68 (by decide)).trans hi529
    have hi571 := (hI553 69 (by decide)).trans hi530
    have hi572 := (hI553 65 (by decide)).trans hi531
    have hi573 := (hI553 66 (by decide)).trans hi532
    have hi574 := (hI553 70 (by decide)).trans hi533
    have hi575 := (hI553 71 (by decide)).trans hi534
    have hi576 := (hI553 72 (by decide)).trans hi520
    have hF_577 := hF_535.mono (cIx hI553 (by decide)) (cRx hX554 (by decide))
    have hK_578 := hK_537.mono (cIx hI553 (by decide)) (cRx hX554 (by decide))
    have hEI579 := hEI538.tr hI553 (by decide)
    have hER580 := hER.tr hX554 (by decide)
    show pl _ _ _ (44, [(0, .ref m0)], [.int 1], M540) _
    refine ps_if (S1 := (75, [], [], M540)) (S2 := (47, [(0, .ref m0)], [], M540)) rfl rfl rfl (fun c_44 => ?_) (fun c_44 => ?_)
    · exact absurd (of_decide_eq_true c_44) (by decide)
    exact (LL kf).1 (by2 f 8) (by2 f 6) (p1543) (pF544) (pM545) (pA546) (E542) (tx1547) (cN1548) (A1549) M540 I550 R551 hR552 hEI579 hER580 hi555 hi556 hi557 hi558 hi559 hi560 hi561 hi564 hi565 hi575 hi573 hi572 hi570 hi571 hi574 hi576 hi566 hi567 hi568 hF_577 hY_562 hP_563 hK_578 (rfl) (rfl) (q41_s) (⟨Nat.lt_of_lt_of_le hs1.1 q41_k.1, (q41_k.2 _ hs1.1).trans hs1.2⟩) (⟨Nat.lt_of_lt_of_le hs2.1 q41_k.1, (q41_k.2 _ hs2.1).trans hs2.2⟩) (⟨Nat.lt_of_lt_of_le hs3.1 q41_k.1, (q41_k.2 _ hs3.1).trans hs3.2⟩) (q41_c) (q41_f) (q41_m) (q41_a)
  · skip
    obtain ⟨e581, I582, R583, q41_s, rfl, hR584, hI585, hX586, hi587, hi588⟩ := q541
    have hi589 := (hI585 25 (by decide)).trans hi523
    have hi590 := (hI585 26 (by decide)).trans hi524
    have hi591 := (hI585 9 (by decide)).trans hi525
    have hi592 := (hI585 10 (by decide)).trans hi526
    have hi593 := (hI585 11 (by decide)).trans hi527
    have hi594 := (hI585 67 (by decide)).trans hi528
    have hi595 := (hI585 68 (by decide)).trans hi529
    have hi596 := (hI585 69 (by decide)).trans hi530
    have hi597 := (hI585 65 (by decide)).trans hi531
    have hi598 := (hI585 66 (by decide)).trans hi532
    have hi599 := (hI585 70 (by decide)).trans hi533
    have hi600 := (hI585 71 (by decide)).trans hi534
    have hi601 := (hI585 72 (by decide)).trans hi520
    have hF_602 := hF_535.mono (cIx hI585 (by decide)) (cRx hX586 (by decide))
    have hK_603 := hK_537.mono (cIx hI585 (by decide)) (cRx hX586 (by decide))
    have hEI604 := hEI538.tr hI585 (by decide)
    have hER605 := hER.tr hX586 (by decide)
    show pl _ _ _ (44, [(0, .ref m0)], [.int 0], M540) _
    refine ps_if (S1 := (75, [], [], M540)) (S2 := (47, [(0, .ref m0)], [], M540)) rfl rfl rfl (fun c_44 => ?_) (fun c_44 => ?_)
    rotate_left
    · exact absurd (by decide) (of_decide_eq_false c_44)
    refine ps_st (S' := (76, [], [.int 0], M540)) rfl rfl rfl ?_
    exact ps_ret rfl rfl (Or.inr ⟨e581, I582, R583, by
        exact s_read_1 q41_s, rfl, hR584, hEI604, hER605, hi587, hi588⟩)
set_option maxHeartbeats 4000000 in
theorem rd_parse13 {g : xe_G} {m0 : Nat} {q : Nat → Nat} {z : Nat × Nat} {I : rI} {R : rR} {M : mi_H} {n : Nat} {f : Nat → Int32} (hR : RS g m0 q z I R M) (hi49 : I 49 = some 0) (hB : BX 13 n f I R) (hK : KX I R) (hn : n ≤ 65540) : pt (mT g) 230 [.ref m0, .ref (q 13), .int (nI n)] M (fun v M' => (∃  (I' : rI) (R' : rR), (s_read f n = none) ∧ v = some (.int 1) ∧ RS g m0 q z I' R' M' ∧ eqI [3, 8, 9, 10, 11, 16, 20, 25, 26, 47, 48, 50, 51, 52, 53, 54, 55, 56, 57, 58, 59, 60, 61, 65, 66, 67, 68, 69, 70, 71, 72] I I' ∧ eqR [1, 2, 4, 5, 6, 7, 12, 21, 22, 27, 28, 29, 30, 31, 32, 33, 34, 35, 36, 37, 38, 39, 40, 41, 42, 43, 44, 45, 46] R R') ∨ (∃ (e9 : Nat × Nat) (I' : rI) (R' : rR), (s_read f n = some e9) ∧ v = some (.int 0) ∧ RS g m0 q z I' R' M' ∧ eqI [3, 8, 9, 10, 11, 16, 20, 25, 26, 47, 48, 50, 51, 52, 53, 54, 55, 56, 57, 58, 59, 60, 61, 65, 66, 67, 68, 69, 70, 71, 72] I I' ∧ eqR [1, 2, 4, 5, 6, 7, 12, 21, 22, 27, 28, 29, 30, 31, 32, 33, 34, 35, 36, 37, 38, 39, 40, 41, 42, 43, 44, 45, 46] R R' ∧ I' 47 = some (nI e9.1) ∧ I' 48 = some (nI e9.2))) := by
  refine pt_in (b := mb_230 g) rfl (fun kf => ?_)
  show pl (mT g) kf (mb_230 g).2 (0, [(0, .ref m0), (1, .ref (q 13)), (2, .int (nI n))], [], M) _
  have hEI : eqI [3, 8, 9, 10, 11, 16, 20, 25, 26, 47, 48, 50, 51, 52, 53, 54, 55, 56, 57, 58, 59, 60, 61, 65, 66, 67, 68, 69, 70, 71, 72] I I := eqI.rf
  have hER : eqR [1, 2, 4, 5, 6, 7, 12, 21, 22, 27, 28, 29, 30, 31, 32, 33, 34, 35, 36, 37, 38, 39, 40, 41, 42, 43, 44, 45, 46] R R := eqR.rf
  have LL : ∀ (kf : Nat), (∀ (i : Nat) (tx : List (List Nat)) (cN : Nat) (A : Nat → Nat) (s1 s2 s3 : Nat) (M1 : mi_H) (I1 : rI) (R1 : rR), (RS g m0 q z I1 R1 M1) → (eqI [3, 8, 9, 10, 11, 16, 20, 25, 26, 47, 48, 50, 51, 52, 53, 54, 55, 56, 57, 58, 59, 60, 61, 65, 66, 67, 68, 69, 70, 71, 72] I I1) → (eqR [1, 2, 4, 5, 6, 7, 12, 21, 22, 27, 28, 29, 30, 31, 32, 33, 34, 35, 36, 37, 38, 39, 40, 41, 42, 43, 44, 45, 46] R R1) → (I1 49 = some 0) → (I1 16 = some (nI n)) → (I1 20 = some 0) → (I1 25 = some 0) → (I1 26 = some 0) → (I1 9 = some (nI s1)) → (I1 10 = some (nI s2)) → (I1 11 = some (nI s3)) → (BX 13 n f I1 R1) → (KX I1 R1) → (SYT tx cN A I1 R1) → (BX 12 i f I1 R1) → (i ≤ n) → (s1 < tx.length ∧ tx.getD s1 [] = ltx 25) → (s2 < tx.length ∧ tx.getD s2 [] = ltx 26) → (s3 < tx.length ∧ tx.getD s3 [] = ltx 27) →  pl (mT g) kf (mb_230 g).2 (11, [(0, .ref m0), (1, .ref (q 13)), (2, .int (nI n)), (3, .int (nI i))], [], M1) (fun v M' => (∃  (I' : rI) (R' : rR), (s_read f n = none) ∧ v = some (.int 1) ∧ RS g m0 q z I' R' M' ∧ eqI [3, 8, 9, 10, 11, 16, 20, 25, 26, 47, 48, 50, 51, 52, 53, 54, 55, 56, 57, 58, 59, 60, 61, 65, 66, 67, 68, 69, 70, 71, 72] I I' ∧ eqR [1, 2, 4, 5, 6, 7, 12, 21, 22, 27, 28, 29, 30, 31, 32, 33, 34, 35, 36, 37, 38, 39, 40, 41, 42, 43, 44, 45, 46] R R') ∨ (∃ (e9 : Nat × Nat) (I' : rI) (R' : rR), (s_read f n = some e9) ∧ v = some (.int 0) ∧ RS g m0 q z I' R' M' ∧ eqI [3, 8, 9, 10, 11, 16, 20, 25, 26, 47, 48, 50, 51, 52, 53, 54, 55, 56, 57, 58, 59, 60, 61, 65, 66, 67, 68, 69, 70, 71, 72] I I' ∧ eqR [1, 2, 4, 5, 6, 7, 12, 21, 22, 27, 28, 29, 30, 31, 32, 33, 34, 35, 36, 37, 38, 39, 40, 41, 42, 43, 44, 45, 46] R R' ∧ I' 47 = some (nI e9.1) ∧ I' 48 = some (nI e9.2)))) := by
    intro kf
    induction kf with
    | zero => exact (by intros; exact pl_0)
    | succ kf ih =>
      intro i tx cN A s1 s2 s3 M1 I1 R1 hR1 hEI1 hER1 hl49 hl16 hl20 hl25 hl26 hl9 hl10 hl11 hB1 hK1 hY1 hC1 hi hs1 hs2 hs3
      refine ps_st1 (S' := (12, [(0, .ref m0), (1, .ref (q 13)), (2, .int (nI n)), (3, .int (nI i))], [.int (nI i)], M1)) rfl rfl rfl ?_
      refine ps_st (S' := (13, [(0, .ref m0), (1, .ref (q 13)), (2, .int (nI n)), (3, .int (nI i))], [.int (nI n), .int (nI i)], M1)) rfl rfl rfl ?_
      refine ps_if2 (S1 := (31, [(0, .ref m0), (1, .ref (q 13)), (2, .int (nI n)), (3, .int (nI i))], [], M1)) (S2 := (16, [(0, .ref m0), (1, .ref (q 13)), (2, .int (nI n)), (3, .int (nI i))], [], M1)) rfl rfl rfl (fun c_13 => ?_) (fun c_13 => ?_)
      · have c_13 : (nI n) ≤ (nI i) := of_decide_eq_true c_13
        have n_13 : n ≤ i := (le_nI (p := n) (n := i) (by omega) (by omega)).mp c_13
        refine ps_st (S' := (32, [(0, .ref m0), (1, .ref (q 13)), (2, .int (nI n)), (3, .int (nI i))], [.ref m0], M1)) rfl rfl rfl ?_
        have hF9 : FK n f I1 R1 := ⟨hn, hl49, hl16, fun i9 h9 => (hC1 i9 (by omega)).1⟩
        refine pl_call (a := [.ref m0]) (rest := []) rfl rfl rfl (rd_checkFile (n := n) (f := f) (tx := tx) (cN := cN) (A := A) (s1 := s1) (s2 := s2) (s3 := s3) hR1 hl20 hl25 hl26 hl9 hl10 hl11 hF9 hY1 hK1 (hs1) (hs2) (hs3)) (fun v1 M2 q3 => ?_)
        rcases q3 with q3 | q3
        · skip
          obtain ⟨I4, R5, q32_s, rfl, hR6, hI7, hX8⟩ := q3
          have hi9 := (hI7 49 (by decide)).trans hl49
          have hi10 := (hI7 16 (by decide)).trans hl16
          have hi11 := (hI7 9 (by decide)).trans hl9
          have hi12 := (hI7 10 (by decide)).trans hl10
          have hi13 := (hI7 11 (by decide)).trans hl11
          have hB_14 := hB1.mono (cIx hI7 (by decide)) (cRx hX8 (by decide))
          have hK_15 := hK1.mono (cIx hI7 (by decide)) (cRx hX8 (by decide))
          have hC_16 := hC1.mono (cIx hI7 (by decide)) (cRx hX8 (by decide))
          have hF_17 := hF9.mono (cIx hI7 (by decide)) (cRx hX8 (by decide))
          have hEI18 := hEI1.tr hI7 (by decide)
          have hER19 := hER1.tr hX8 (by decide)
          show pl _ _ _ (35, [(0, .ref m0), (1, .ref (q 13)), (2, .int (nI n)), (3, .int (nI i))], [.int 1], M2) _
          exact ps_ret rfl rfl (Or.inl ⟨I4, R5, q32_s, rfl, hR6, hEI18, hER19⟩)
        · skip
          obtain ⟨e920, I21, R22, q32_s, rfl, hR23, hI24, hX25, hi26, hi27⟩ := q3
          have hi28 := (hI24 49 (by decide)).trans hl49
          have hi29 := (hI24 16 (by decide)).trans hl16
          have hi30 := (hI24 9 (by decide)).trans hl9
          have hi31 := (hI24 10 (by decide)).trans hl10
          have hi32 := (hI24 11 (by decide)).trans hl11
          have hB_33 := hB1.mono (cIx hI24 (by decide)) (cRx hX25 (by decide))
          have hK_34 := hK1.mono (cIx hI24 (by decide)) (cRx hX25 (by decide))
          have hC_35 := hC1.mono (cIx hI24 (by decide)) (cRx hX25 (by decide))
          have hF_36 := hF9.mono (cIx hI24 (by decide)) (cRx hX25 (by decide))
          have hEI37 := hEI1.tr hI24 (by decide)
          have hER38 := hER1.tr hX25 (by decide)
          show pl _ _ _ (35, [(0, .ref m0), (1, .ref (q 13)), (2, .int (nI n)), (3, .int (nI i))], [.int 0], M2) _
          exact ps_ret rfl rfl (Or.inr ⟨e920, I21, R22, q32_s, rfl, hR23, hEI37, hER38, hi26, hi27⟩)
      · have c_13 : ¬ ((nI n) ≤ (nI i)) := of_decide_eq_false c_13
        have n_13 : ¬ (n ≤ i) := fun h9 => c_13 ((le_nI (p := n) (n := i) (by omega) (by omega)).mpr h9)
        refine ps_st (S' := (17, [(0, .ref m0), (1, .ref (q 13)), (2, .int (nI n)), (3, .int (nI i))], [.ref m0], M1)) rfl rfl rfl ?_
        refine pr_ref (j := 12) (S' := (20, [(0, .ref m0), (1, .ref (q 13)), (2, .int (nI n)), (3, .int (nI i))], [.ref (q 12)], M1)) rfl hR1 rfl rfl ?_
        refine ps_st (S' := (21, [(0, .ref m0), (1, .ref (q 13)), (2, .int (nI n)), (3, .int (nI i))], [.int (nI i), .ref (q 12)], M1)) rfl rfl rfl ?_
        refine ps_st (S' := (22, [(0, .ref m0), (1, .ref (q 13)), (2, .int (nI n)), (3, .int (nI i))], [.ref (q 13), .int (nI i), .ref (q 12)], M1)) rfl rfl rfl ?_
        refine ps_st (S' := (23, [(0, .ref m0), (1, .ref (q 13)), (2, .int (nI n)), (3, .int (nI i))], [.int (nI i), .ref (q 13), .int (nI i), .ref (q 12)], M1)) rfl rfl rfl ?_
        refine pr_ld (a := 13) (j := i) (y := (f i)) (S' := (24, [(0, .ref m0), (1, .ref (q 13)), (2, .int (nI n)), (3, .int (nI i))], [.int (f i), .int (nI i), .ref (q 12)], M1)) rfl hR1 rfl (by omega) (fun _ => (hB1 i (by omega)).1) rfl (fun i1_23 => ?_)
        refine pr_st (a := 12) (j := i) rfl hR1 rfl (by omega) (fun M39 R40 i1_24 hR41 hS42 => ?_)
        have hB_43 := hB1.mono (fun _ _ => rfl) (rRx hS42 (by decide))
        have hK_44 := hK1.mono (fun _ _ => rfl) (rRx hS42 (by decide))
        have hY_45 := hY1.mono (fun _ _ => rfl) (rRx hS42 (by decide))
        have hER46 := hER1.st hS42 (by decide)
        show pl _ _ _ (25, [(0, .ref m0), (1, .ref (q 13)), (2, .int (nI n)), (3, .int (nI i))], [], M39) _
        have hC_47 : BX 12 (i + 1) f I1 R40 := BX.st hC1 hS42 (hB1 i (by omega)).2 rfl
        refine ps_st (S' := (28, [(3, .int ((nI i) + 1)), (0, .ref m0), (1, .ref (q 13)), (2, .int (nI n))], [], M39)) rfl rfl rfl ?_
        rw [nI_add1 (p := i) (k := 1) (x := 1) rfl (by omega)]
        show pl _ _ _ (_, [(3, .int (nI (i + 1))), (0, .ref m0), (1, .ref (q 13)), (2, .int (nI n))], [], M39) _
        refine ps_st (S' := (11, [(0, .ref m0), (1, .ref (q 13)), (2, .int (nI n)), (3, .int (nI (i + 1)))], [], M39)) rfl rfl rfl ?_
        exact ih (i + 1) (tx) (cN) (A) (s1) (s2) (s3) M39 I1 R40 hR41 hEI1 hER46 hl49 hl16 hl20 hl25 hl26 hl9 hl10 hl11 hB_43 hK_44 hY_45 hC_47 (by omega) (hs1) (hs2) (hs3)
  refine ps_st (S' := (1, [(0, .ref m0), (1, .ref (q 13)), (2, .int (nI n))], [.ref m0], M)) rfl rfl rfl ?_
  refine pl_call (a := [.ref m0]) (rest := []) rfl rfl rfl (rd_clear hR) (fun v48 M49 q50 => ?_)
  obtain ⟨tx51, cN52, A53, s154, s255, s356, I57, R58, q1_s, rfl, hR59, hI60, hX61, hi62, hi63, hi64, hi65, hi66, hi67, hY_68⟩ := q50
  have hi69 := (hI60 49 (by decide)).trans hi49
  have hB_70 := hB.mono (cIx hI60 (by decide)) (cRx hX61 (by decide))
  have hK_71 := hK.mono (cIx hI60 (by decide)) (cRx hX61 (by decide))
  have hEI72 := hEI.tr hI60 (by decide)
  have hER73 := hER.tr hX61 (by decide)
  show pl _ _ _ (4, [(0, .ref m0), (1, .ref (q 13)), (2, .int (nI n))], [], M49) _
  refine ps_st (S' := (5, [(0, .ref m0), (1, .ref (q 13)), (2, .int (nI n))], [.ref m0], M49)) rfl rfl rfl ?_
  refine ps_st (S' := (6, [(0, .ref m0), (1, .ref (q 13)), (2, .int (nI n))], [.int (nI n), .ref m0], M49)) rfl rfl rfl ?_
  refine pr_put (j := 16) rfl hR59 rfl (fun M74 I75 hR76 hi77 hI78 => ?_)
  have hi79 := (hI78 49 (by decide)).trans hi69
  have hi80 := (hI78 9 (by decide)).trans hi62
  have hi81 := (hI78 10 (by decide)).trans hi63
  have hi82 := (hI78 11 (by decide)).trans hi64
  have hi83 := (hI78 20 (by decide)).trans hi65
  have hi84 := (hI78 25 (by decide)).trans hi66
  have hi85 := (hI78 26 (by decide)).trans hi67
  have hB_86 := hB_70.mono (pIx hI78 (by decide)) (fun _ _ => rfl)
  have hK_87 := hK_71.mono (pIx hI78 (by decide)) (fun _ _ => rfl)
  have hY_88 := hY_68.mono (pIx hI78 (by decide)) (fun _ _ => rfl)
  have hEI89 := hEI72.put hI78 (by decide)
  show pl _ _ _ (9, [(0, .ref m0), (1, .ref (q 13)), (2, .int (nI n))], [], M74) _
  refine ps_st (S' := (10, [(0, .ref m0), (1, .ref (q 13)), (2, .int (nI n))], [.int 0], M74)) rfl rfl rfl ?_
  refine ps_st (S' := (11, [(0, .ref m0), (1, .ref (q 13)), (2, .int (nI n)), (3, .int 0)], [], M74)) rfl rfl rfl ?_
  have hC0 : BX 12 0 f I75 R58 := fun i9 h9 => absurd h9 (Nat.not_lt_zero _)
  exact (LL kf) (0) (tx51) (cN52) (A53) (s154) (s255) (s356) M74 I75 R58 hR76 hEI89 hER73 hi79 hi77 hi83 hi84 hi85 hi80 hi81 hi82 hB_86 hK_87 hY_88 hC0 (by omega) (⟨q1_s.1, q1_s.2.1⟩) (⟨q1_s.2.2.1, q1_s.2.2.2.1⟩) (⟨q1_s.2.2.2.2.1, q1_s.2.2.2.2.2⟩)
set_option maxHeartbeats 4000000 in
theorem rd_parse14 {g : xe_G} {m0 : Nat} {q : Nat → Nat} {z : Nat × Nat} {I : rI} {R : rR} {M : mi_H} {n : Nat} {f : Nat → Int32} (hR : RS g m0 q z I R M) (hi49 : I 49 = some 0) (hB : BX 14 n f I R) (hK : KX I R) (hn : n ≤ 65540) : pt (mT g) 230 [.ref m0, .ref (q 14), .int (nI n)] M (fun v M' => (∃  (I' : rI) (R' : rR), (s_read f n = none) ∧ v = some (.int 1) ∧ RS g m0 q z I' R' M' ∧ eqI [3, 8, 9, 10, 11, 16, 20, 25, 26, 47, 48, 50, 51, 52, 53, 54, 55, 56, 57, 58, 59, 60, 61, 65, 66, 67, 68, 69, 70, 71, 72] I I' ∧ eqR [1, 2, 4, 5, 6, 7, 12, 21, 22, 27, 28, 29, 30, 31, 32, 33, 34, 35, 36, 37, 38, 39, 40, 41, 42, 43, 44, 45, 46] R R') ∨ (∃ (e9 : Nat × Nat) (I' : rI) (R' : rR), (s_read f n = some e9) ∧ v = some (.int 0) ∧ RS g m0 q z I' R' M' ∧ eqI [3, 8, 9, 10, 11, 16, 20, 25, 26, 47, 48, 50, 51, 52, 53, 54, 55, 56, 57, 58, 59, 60, 61, 65, 66, 67, 68, 69, 70, 71, 72] I I' ∧ eqR [1, 2, 4, 5, 6, 7, 12, 21, 22, 27, 28, 29, 30, 31, 32, 33, 34, 35, 36, 37, 38, 39, 40, 41, 42, 43, 44, 45, 46] R R' ∧ I' 47 = some (nI e9.1) ∧ I' 48 = some (nI e9.2))) := by
  refine pt_in (b := mb_230 g) rfl (fun kf => ?_)
  show pl (mT g) kf (mb_230 g).2 (0, [(0, .ref m0), (1, .ref (q 14)), (2, .int (nI n))], [], M) _
  have hEI : eqI [3, 8, 9, 10, 11, 16, 20, 25, 26, 47, 48, 50, 51, 52, 53, 54, 55, 56, 57, 58, 59, 60, 61, 65, 66, 67, 68, 69, 70, 71, 72] I I := eqI.rf
  have hER : eqR [1, 2, 4, 5, 6, 7, 12, 21, 22, 27, 28, 29, 30, 31, 32, 33, 34, 35, 36, 37, 38, 39, 40, 41, 42, 43, 44, 45, 46] R R := eqR.rf
  have LL : ∀ (kf : Nat), (∀ (i : Nat) (tx : List (List Nat)) (cN : Nat) (A : Nat → Nat) (s1 s2 s3 : Nat) (M1 : mi_H) (I1 : rI) (R1 : rR), (RS g m0 q z I1 R1 M1) → (eqI [3, 8, 9, 10, 11, 16, 20, 25, 26, 47, 48, 50, 51, 52, 53, 54, 55, 56, 57, 58, 59, 60, 61, 65, 66, 67, 68, 69, 70, 71, 72] I I1) → (eqR [1, 2, 4, 5, 6, 7, 12, 21, 22, 27, 28, 29, 30, 31, 32, 33, 34, 35, 36, 37, 38, 39, 40, 41, 42, 43, 44, 45, 46] R R1) → (I1 49 = some 0) → (I1 16 = some (nI n)) → (I1 20 = some 0) → (I1 25 = some 0) → (I1 26 = some 0) → (I1 9 = some (nI s1)) → (I1 10 = some (nI s2)) → (I1 11 = some (nI s3)) → (BX 14 n f I1 R1) → (KX I1 R1) → (SYT tx cN A I1 R1) → (BX 12 i f I1 R1) → (i ≤ n) → (s1 < tx.length ∧ tx.getD s1 [] = ltx 25) → (s2 < tx.length ∧ tx.getD s2 [] = ltx 26) → (s3 < tx.length ∧ tx.getD s3 [] = ltx 27) →  pl (mT g) kf (mb_230 g).2 (11, [(0, .ref m0), (1, .ref (q 14)), (2, .int (nI n)), (3, .int (nI i))], [], M1) (fun v M' => (∃  (I' : rI) (R' : rR), (s_read f n = none) ∧ v = some (.int 1) ∧ RS g m0 q z I' R' M' ∧ eqI [3, 8, 9, 10, 11, 16, 20, 25, 26, 47, 48, 50, 51, 52, 53, 54, 55, 56, 57, 58, 59, 60, 61, 65, 66, 67, 68, 69, 70, 71, 72] I I' ∧ eqR [1, 2, 4, 5, 6, 7, 12, 21, 22, 27, 28, 29, 30, 31, 32, 33, 34, 35, 36, 37, 38, 39, 40, 41, 42, 43, 44, 45, 46] R R') ∨ (∃ (e9 : Nat × Nat) (I' : rI) (R' : rR), (s_read f n = some e9) ∧ v = some (.int 0) ∧ RS g m0 q z I' R' M' ∧ eqI [3, 8, 9, 10, 11, 16, 20, 25, 26, 47, 48, 50, 51, 52, 53, 54, 55, 56, 57, 58, 59, 60, 61, 65, 66, 67, 68, 69, 70, 71, 72] I I' ∧ eqR [1, 2, 4, 5, 6, 7, 12, 21, 22, 27, 28, 29, 30, 31, 32, 33, 34, 35, 36, 37, 38, 39, 40, 41, 42, 43, 44, 45, 46] R R' ∧ I' 47 = some (nI e9.1) ∧ I' 48 = some (nI e9.2)))) := by
    intro kf
    induction kf with
    | zero => exact (by intros; exact pl_0)
    | succ kf ih =>
      intro i tx cN A s1 s2 s3 M1 I1 R1 hR1 hEI1 hER1 hl49 hl16 hl20 hl25 hl26 hl9 hl10 hl11 hB1 hK1 hY1 hC1 hi hs1 hs2 hs3
      refine ps_st1 (S' := (12, [(0, .ref m0), (1, .ref (q 14)), (2, .int (nI n)), (3, .int (nI i))], [.int (nI i)], M1)) rfl rfl rfl ?_
      refine ps_st (S' := (13, [(0, .ref m0), (1, .ref (q 14)), (2, .int (nI n)), (3, .int (nI i))], [.int (nI n), .int (nI i)], M1)) rfl rfl rfl ?_
      refine ps_if2 (S1 := (31, [(0, .ref m0), (1, .ref (q 14)), (2, .int (nI n)), (3, .int (nI i))], [], M1)) (S2 := (16, [(0, .ref m0), (1, .ref (q 14)), (2, .int (nI n)), (3, .int (nI i))], [], M1)) rfl rfl rfl (fun c_13 => ?_) (fun c_13 => ?_)
      · have c_13 : (nI n) ≤ (nI i) := of_decide_eq_true c_13
        have n_13 : n ≤ i := (le_nI (p := n) (n := i) (by omega) (by omega)).mp c_13
        refine ps_st (S' := (32, [(0, .ref m0), (1, .ref (q 14)), (2, .int (nI n)), (3, .int (nI i))], [.ref m0], M1)) rfl rfl rfl ?_
        have hF9 : FK n f I1 R1 := ⟨hn, hl49, hl16, fun i9 h9 => (hC1 i9 (by omega)).1⟩
        refine pl_call (a := [.ref m0]) (rest := []) rfl rfl rfl (rd_checkFile (n := n) (f := f) (tx := tx) (cN := cN) (A := A) (s1 := s1) (s2 := s2) (s3 := s3) hR1 hl20 hl25 hl26 hl9 hl10 hl11 hF9 hY1 hK1 (hs1) (hs2) (hs3)) (fun v1 M2 q3 => ?_)
        rcases q3 with q3 | q3
        · skip
          obtain ⟨I4, R5, q32_s, rfl, hR6, hI7, hX8⟩ := q3
          have hi9 := (hI7 49 (by decide)).trans hl49
          have hi10 := (hI7 16 (by decide)).trans hl16
          have hi11 := (hI7 9 (by decide)).trans hl9
          have hi12 := (hI7 10 (by decide)).trans hl10
          have hi13 := (hI7 11 (by decide)).trans hl11
          have hB_14 := hB1.mono (cIx hI7 (by decide)) (cRx hX8 (by decide))
          have hK_15 := hK1.mono (cIx hI7 (by decide)) (cRx hX8 (by decide))
          have hC_16 := hC1.mono (cIx hI7 (by decide)) (cRx hX8 (by decide))
          have hF_17 := hF9.mono (cIx hI7 (by decide)) (cRx hX8 (by decide))
          have hEI18 := hEI1.tr hI7 (by decide)
          have hER19 := hER1.tr hX8 (by decide)
          show pl _ _ _ (35, [(0, .ref m0), (1, .ref (q 14)), (2, .int (nI n)), (3, .int (nI i))], [.int 1], M2) _
          exact ps_ret rfl rfl (Or.inl ⟨I4, R5, q32_s, rfl, hR6, hEI18, hER19⟩)
        · skip
          obtain ⟨e920, I21, R22, q32_s, rfl, hR23, hI24, hX25, hi26, hi27⟩ := q3
          have hi28 := (hI24 49 (by decide)).trans hl49
          have hi29 := (hI24 16 (by decide)).trans hl16
          have hi30 := (hI24 9 (by decide)).trans hl9
          have hi31 := (hI24 10 (by decide)).trans hl10
          have hi32 := (hI24 11 (by decide)).trans hl11
          have hB_33 := hB1.mono (cIx hI24 (by decide)) (cRx hX25 (by decide))
          have hK_34 := hK1.mono (cIx hI24 (by decide)) (cRx hX25 (by decide))
          have hC_35 := hC1.mono (cIx hI24 (by decide)) (cRx hX25 (by decide))
          have hF_36 := hF9.mono (cIx hI24 (by decide)) (cRx hX25 (by decide))
          have hEI37 := hEI1.tr hI24 (by decide)
          have hER38 := hER1.tr hX25 (by decide)
          show pl _ _ _ (35, [(0, .ref m0), (1, .ref (q 14)), (2, .int (nI n)), (3, .int (nI i))], [.int 0], M2) _
          exact ps_ret rfl rfl (Or.inr ⟨e920, I21, R22, q32_s, rfl, hR23, hEI37, hER38, hi26, hi27⟩)
      · have c_13 : ¬ ((nI n) ≤ (nI i)) := of_decide_eq_false c_13
        have n_13 : ¬ (n ≤ i) := fun h9 => c_13 ((le_nI (p := n) (n := i) (by omega) (by omega)).mpr h9)
        refine ps_st (S' := (17, [(0, .ref m0), (1, .ref (q 14)), (2, .int (nI n)), (3, .int (nI i))], [.ref m0], M1)) rfl rfl rfl ?_
        refine pr_ref (j := 12) (S' := (20, [(0, .ref m0), (1, .ref (q 14)), (2, .int (nI n)), (3, .int (nI i))], [.ref (q 12)], M1)) rfl hR1 rfl rfl ?_
        refine ps_st (S' := (21, [(0, .ref m0), (1, .ref (q 14)), (2, .int (nI n)), (3, .int (nI i))], [.int (nI i), .ref (q 12)], M1)) rfl rfl rfl ?_
        refine ps_st (S' := (22, [(0, .ref m0), (1, .ref (q 14)), (2, .int (nI n)), (3, .int (nI i))], [.ref (q 14), .int (nI i), .ref (q 12)], M1)) rfl rfl rfl ?_
        refine ps_st (S' := (23, [(0, .ref m0), (1, .ref (q 14)), (2, .int (nI n)), (3, .int (nI i))], [.int (nI i), .ref (q 14), .int (nI i), .ref (q 12)], M1)) rfl rfl rfl ?_
        refine pr_ld (a := 14) (j := i) (y := (f i)) (S' := (24, [(0, .ref m0), (1, .ref (q 14)), (2, .int (nI n)), (3, .int (nI i))], [.int (f i), .int (nI i), .ref (q 12)], M1)) rfl hR1 rfl (by omega) (fun _ => (hB1 i (by omega)).1) rfl (fun i1_23 => ?_)
        refine pr_st (a := 12) (j := i) rfl hR1 rfl (by omega) (fun M39 R40 i1_24 hR41 hS42 => ?_)
        have hB_43 := hB1.mono (fun _ _ => rfl) (rRx hS42 (by decide))
        have hK_44 := hK1.mono (fun _ _ => rfl) (rRx hS42 (by decide))
        have hY_45 := hY1.mono (fun _ _ => rfl) (rRx hS42 (by decide))
        have hER46 := hER1.st hS42 (by decide)
        show pl _ _ _ (25, [(0, .ref m0), (1, .ref (q 14)), (2, .int (nI n)), (3, .int (nI i))], [], M39) _
        have hC_47 : BX 12 (i + 1) f I1 R40 := BX.st hC1 hS42 (hB1 i (by omega)).2 rfl
        refine ps_st (S' := (28, [(3, .int ((nI i) + 1)), (0, .ref m0), (1, .ref (q 14)), (2, .int (nI n))], [], M39)) rfl rfl rfl ?_
        rw [nI_add1 (p := i) (k := 1) (x := 1) rfl (by omega)]
        show pl _ _ _ (_, [(3, .int (nI (i + 1))), (0, .ref m0), (1, .ref (q 14)), (2, .int (nI n))], [], M39) _
        refine ps_st (S' := (11, [(0, .ref m0), (1, .ref (q 14)), (2, .int (nI n)), (3, .int (nI (i + 1)))], [], M39)) rfl rfl rfl ?_
        exact ih (i + 1) (tx) (cN) (A) (s1) (s2) (s3) M39 I1 R40 hR41 hEI1 hER46 hl49 hl16 hl20 hl25 hl26 hl9 hl10 hl11 hB_43 hK_44 hY_45 hC_47 (by omega) (hs1) (hs2) (hs3)
  refine ps_st (S' := (1, [(0, .ref m0), (1, .ref (q 14)), (2, .int (nI n))], [.ref m0], M)) rfl rfl rfl ?_
  refine pl_call (a := [.ref m0]) (rest := []) rfl rfl rfl (rd_clear hR) (fun v48 M49 q50 => ?_)
  obtain ⟨tx51, cN52, A53, s154, s255, s356, I57, R58, q1_s, rfl, hR59, hI60, hX61, hi62, hi63, hi64, hi65, hi66, hi67, hY_68⟩ := q50
  have hi69 := (hI60 49 (by decide)).trans hi49
  have hB_70 := hB.mono (cIx hI60 (by decide)) (cRx hX61 (by decide))
  have hK_71 := hK.mono (cIx hI60 (by decide)) (cRx hX61 (by decide))
  have hEI72 := hEI.tr hI60 (by decide)
  have hER73 := hER.tr hX61 (by decide)
  show pl _ _ _ (4, [(0, .ref m0), (1, .ref (q 14)), (2, .int (nI n))], [], M49) _
  refine ps_st (S' := (5, [(0, .ref m0), (1, .ref (q 14)), (2, .int (nI n))], [.ref m0], M49)) rfl rfl rfl ?_
  refine ps_st (S' := (6, [(0, .ref m0), (1, .ref (q 14)), (2, .int (nI n))], [.int (nI n), .ref m0], M49)) rfl rfl rfl ?_
  refine pr_put (j := 16) rfl hR59 rfl (fun M74 I75 hR76 hi77 hI78 => ?_)
  have hi79 := (hI78 49 (by decide)).trans hi69
  have hi80 := (hI78 9 (by decide)).trans hi62
  have hi81 := (hI78 10 (by decide)).trans hi63
  have hi82 := (hI78 11 (by decide)).trans hi64
  have hi83 := (hI78 20 (by decide)).trans hi65
  have hi84 := (hI78 25 (by decide)).trans hi66
  have hi85 := (hI78 26 (by decide)).trans hi67
  have hB_86 := hB_70.mono (pIx hI78 (by decide)) (fun _ _ => rfl)
  have hK_87 := hK_71.mono (pIx hI78 (by decide)) (fun _ _ => rfl)
  have hY_88 := hY_68.mono (pIx hI78 (by decide)) (fun _ _ => rfl)
  have hEI89 := hEI72.put hI78 (by decide)
  show pl _ _ _ (9, [(0, .ref m0), (1, .ref (q 14)), (2, .int (nI n))], [], M74) _
  refine ps_st (S' := (10, [(0, .ref m0), (1, .ref (q 14)), (2, .int (nI n))], [.int 0], M74)) rfl rfl rfl ?_
  refine ps_st (S' := (11, [(0, .ref m0), (1, .ref (q 14)), (2, .int (nI n)), (3, .int 0)], [], M74)) rfl rfl rfl ?_
  have hC0 : BX 12 0 f I75 R58 := fun i9 h9 => absurd h9 (Nat.not_lt_zero _)
  exact (LL kf) (0) (tx51) (cN52) (A53) (s154) (s255) (s356) M74 I75 R58 hR76 hEI89 hER73 hi79 hi77 hi83 hi84 hi85 hi80 hi81 hi82 hB_86 hK_87 hY_88 hC0 (by omega) (⟨q1_s.1, q1_s.2.1⟩) (⟨q1_s.2.2.1, q1_s.2.2.2.1⟩) (⟨q1_s.2.2.2.2.1, q1_s.2.2.2.2.2⟩)
set_option maxHeartbeats 4000000 in
theorem rd_read {g : xe_G} {m0 : Nat} {q : Nat → Nat} {z : Nat × Nat} {I : rI} {R : rR} {M : mi_H} {n : Nat} {f : Nat → Int32} {kn : Int32} (hR : RS g m0 q z I R M) (hi49 : I 49 = some 0) (hi17 : I 17 = some (nI n)) (hi18 : I 18 = some kn) (hB : BX 13 n f I R) (hK : KX I R) (hKP : KP kn I R) (hn : n ≤ 65540) : pt (mT g) 236 [.ref m0] M (fun v M' => (∃ (kn2 : Int32) (I' : rI) (R' : rR), v = some (.int (rdR (s_read f n))) ∧ RS g m0 q z I' R' M' ∧ eqI [0, 3, 8, 9, 10, 11, 16, 17, 18, 20, 25, 26, 47, 48, 50, 51, 52, 53, 54, 55, 56, 57, 58, 59, 60, 61, 65, 66, 67, 68, 69, 70, 71, 72, 73, 74] I I' ∧ eqR [1, 2, 4, 5, 6, 7, 12, 14, 21, 22, 27, 28, 29, 30, 31, 32, 33, 34, 35, 36, 37, 38, 39, 40, 41, 42, 43, 44, 45, 46] R R' ∧ I' 73 = some (rdP (s_read f n)) ∧ I' 17 = some (nI 0) ∧ I' 18 = some kn2 ∧ KP kn2 I' R')) := by
  refine pt_in (b := mb_236 g) rfl (fun kf => ?_)
  show pl (mT g) kf (mb_236 g).2 (0, [(0, .ref m0)], [], M) _
  have hEI : eqI [0, 3, 8, 9, 10, 11, 16, 17, 18, 20, 25, 26, 47, 48, 50, 51, 52, 53, 54, 55, 56, 57, 58, 59, 60, 61, 65, 66, 67, 68, 69, 70, 71, 72, 73, 74] I I := eqI.rf
  have hER : eqR [1, 2, 4, 5, 6, 7, 12, 14, 21, 22, 27, 28, 29, 30, 31, 32, 33, 34, 35, 36, 37, 38, 39, 40, 41, 42, 43, 44, 45, 46] R R := eqR.rf
  have LL : ∀ (kf : Nat), (∀ (i : Nat) (M1 : mi_H) (I1 : rI) (R1 : rR), (RS g m0 q z I1 R1 M1) → (eqI [0, 3, 8, 9, 10, 11, 16, 17, 18, 20, 25, 26, 47, 48, 50, 51, 52, 53, 54, 55, 56, 57, 58, 59, 60, 61, 65, 66, 67, 68, 69, 70, 71, 72, 73, 74] I I1) → (eqR [1, 2, 4, 5, 6, 7, 12, 14, 21, 22, 27, 28, 29, 30, 31, 32, 33, 34, 35, 36, 37, 38, 39, 40, 41, 42, 43, 44, 45, 46] R R1) → (I1 17 = some (nI n)) → (I1 73 = some (-1)) → (BX 13 n f I1 R1) → (BX 14 i f I1 R1) → (i ≤ n) → (s_read f n = none) →  pl (mT g) kf (mb_236 g).2 (53, [(0, .ref m0), (2, .int 0), (3, .int (nI i))], [], M1) (fun v M' => (∃ (kn2 : Int32) (I' : rI) (R' : rR), v = some (.int (rdR (s_read f n))) ∧ RS g m0 q z I' R' M' ∧ eqI [0, 3, 8, 9, 10, 11, 16, 17, 18, 20, 25, 26, 47, 48, 50, 51, 52, 53, 54, 55, 56, 57, 58, 59, 60, 61, 65, 66, 67, 68, 69, 70, 71, 72, 73, 74] I I' ∧ eqR [1, 2, 4, 5, 6, 7, 12, 14, 21, 22, 27, 28, 29, 30, 31, 32, 33, 34, 35, 36, 37, 38, 39, 40, 41, 42, 43, 44, 45, 46] R R' ∧ I' 73 = some (rdP (s_read f n)) ∧ I' 17 = some (nI 0) ∧ I' 18 = some kn2 ∧ KP kn2 I' R'))) := by
    intro kf
    induction kf with
    | zero => exact (by intros; exact pl_0)
    | succ kf ih =>
      intro i M1 I1 R1 hR1 hEI1 hER1 hl17 hl73 hB1 hD1 hi hr
      refine ps_st1 (S' := (54, [(0, .ref m0), (2, .int 0), (3, .int (nI i))], [.int (nI i)], M1)) rfl rfl rfl ?_
      refine ps_st (S' := (55, [(0, .ref m0), (2, .int 0), (3, .int (nI i))], [.ref m0, .int (nI i)], M1)) rfl rfl rfl ?_
      refine pr_int (j := 17) (S' := (58, [(0, .ref m0), (2, .int 0), (3, .int (nI i))], [.int (nI n), .int (nI i)], M1)) rfl hR1 rfl hl17 rfl ?_
      refine ps_if2 (S1 := (79, [(0, .ref m0), (2, .int 0), (3, .int (nI i))], [], M1)) (S2 := (61, [(0, .ref m0), (2, .int 0), (3, .int (nI i))], [], M1)) rfl rfl rfl (fun c_58 => ?_) (fun c_58 => ?_)
      · have c_58 : (nI n) ≤ (nI i) := of_decide_eq_true c_58
        have n_58 : n ≤ i := (le_nI (p := n) (n := i) (by omega) (by omega)).mp c_58
        refine ps_st (S' := (80, [(0, .ref m0), (2, .int 0), (3, .int (nI i))], [.ref m0], M1)) rfl rfl rfl ?_
        refine ps_st (S' := (81, [(0, .ref m0), (2, .int 0), (3, .int (nI i))], [.ref m0, .ref m0], M1)) rfl rfl rfl ?_
        refine pr_int (j := 17) (S' := (84, [(0, .ref m0), (2, .int 0), (3, .int (nI i))], [.int (nI n), .ref m0], M1)) rfl hR1 rfl hl17 rfl ?_
        refine pr_put (j := 18) rfl hR1 rfl (fun M1 I2 hR3 hi4 hI5 => ?_)
        have hi6 := (hI5 17 (by decide)).trans hl17
        have hi7 := (hI5 73 (by decide)).trans hl73
        have hB_8 := hB1.mono (pIx hI5 (by decide)) (fun _ _ => rfl)
        have hD_9 := hD1.mono (pIx hI5 (by decide)) (fun _ _ => rfl)
        have hEI10 := hEI1.put hI5 (by decide)
        show pl _ _ _ (87, [(0, .ref m0), (2, .int 0), (3, .int (nI i))], [], M1) _
        refine ps_st (S' := (110, [(0, .ref m0), (2, .int 0)], [], M1)) rfl rfl rfl ?_
        refine ps_st (S' := (111, [(0, .ref m0), (2, .int 0)], [.ref m0], M1)) rfl rfl rfl ?_
        refine ps_st (S' := (112, [(0, .ref m0), (2, .int 0)], [.int (-1), .ref m0], M1)) rfl rfl rfl ?_
        refine pr_put (j := 74) rfl hR3 rfl (fun M11 I12 hR13 hi14 hI15 => ?_)
        have hi16 := (hI15 17 (by decide)).trans hi6
        have hi19 := (hI15 73 (by decide)).trans hi7
        have hi20 := (hI15 18 (by decide)).trans hi4
        have hB_21 := hB_8.mono (pIx hI15 (by decide)) (fun _ _ => rfl)
        have hD_22 := hD_9.mono (pIx hI15 (by decide)) (fun _ _ => rfl)
        have hEI23 := hEI10.put hI15 (by decide)
        show pl _ _ _ (115, [(0, .ref m0), (2, .int 0)], [], M11) _
        refine ps_st (S' := (116, [(0, .ref m0), (2, .int 0)], [.ref m0], M11)) rfl rfl rfl ?_
        refine ps_st (S' := (117, [(0, .ref m0), (2, .int 0)], [.int 0, .ref m0], M11)) rfl rfl rfl ?_
        refine pr_put (j := 17) rfl hR13 rfl (fun M24 I25 hR26 hi27 hI28 => ?_)
        have hi29 := (hI28 73 (by decide)).trans hi19
        have hi30 := (hI28 18 (by decide)).trans hi20
        have hi31 := (hI28 74 (by decide)).trans hi14
        have hB_32 := hB_21.mono (pIx hI28 (by decide)) (fun _ _ => rfl)
        have hD_33 := hD_22.mono (pIx hI28 (by decide)) (fun _ _ => rfl)
        have hEI34 := hEI23.put hI28 (by decide)
        show pl _ _ _ (120, [(0, .ref m0), (2, .int 0)], [], M24) _
        refine ps_st (S' := (121, [(0, .ref m0), (2, .int 0)], [.int 0], M24)) rfl rfl rfl ?_
        exact ps_ret rfl rfl (⟨(nI n), I25, R1, by
            rw [hr]
            rfl, hR26, hEI34, hER1, by
            rw [hr]
            exact hi29, hi27, hi30, KP.of hn (BX.le hD_33 (by omega))⟩)
      · have c_58 : ¬ ((nI n) ≤ (nI i)) := of_decide_eq_false c_58
        have n_58 : ¬ (n ≤ i) := fun h9 => c_58 ((le_nI (p := n) (n := i) (by omega) (by omega)).mpr h9)
        refine ps_st (S' := (62, [(0, .ref m0), (2, .int 0), (3, .int (nI i))], [.ref m0], M1)) rfl rfl rfl ?_
        refine pr_ref (j := 14) (S' := (65, [(0, .ref m0), (2, .int 0), (3, .int (nI i))], [.ref (q 14)], M1)) rfl hR1 rfl rfl ?_
        refine ps_st (S' := (66, [(0, .ref m0), (2, .int 0), (3, .int (nI i))], [.int (nI i), .ref (q 14)], M1)) rfl rfl rfl ?_
        refine ps_st (S' := (67, [(0, .ref m0), (2, .int 0), (3, .int (nI i))], [.ref m0, .int (nI i), .ref (q 14)], M1)) rfl rfl rfl ?_
        refine pr_ref (j := 13) (S' := (70, [(0, .ref m0), (2, .int 0), (3, .int (nI i))], [.ref (q 13), .int (nI i), .ref (q 14)], M1)) rfl hR1 rfl rfl ?_
        refine ps_st (S' := (71, [(0, .ref m0), (2, .int 0), (3, .int (nI i))], [.int (nI i), .ref (q 13), .int (nI i), .ref (q 14)], M1)) rfl rfl rfl ?_
        refine pr_ld (a := 13) (j := i) (y := (f i)) (S' := (72, [(0, .ref m0), (2, .int 0), (3, .int (nI i))], [.int (f i), .int (nI i), .ref (q 14)], M1)) rfl hR1 rfl (by omega) (fun _ => (hB1 i (by omega)).1) rfl (fun i1_71 => ?_)
        refine pr_st (a := 14) (j := i) rfl hR1 rfl (by omega) (fun M35 R36 i1_72 hR37 hS38 => ?_)
        have hB_39 := hB1.mono (fun _ _ => rfl) (rRx hS38 (by decide))
        have hER40 := hER1.st hS38 (by decide)
        show pl _ _ _ (73, [(0, .ref m0), (2, .int 0), (3, .int (nI i))], [], M35) _
        have hD_41 : BX 14 (i + 1) f I1 R36 := BX.st hD1 hS38 (hB1 i (by omega)).2 rfl
        refine ps_st (S' := (76, [(3, .int ((nI i) + 1)), (0, .ref m0), (2, .int 0)], [], M35)) rfl rfl rfl ?_
        rw [nI_add1 (p := i) (k := 1) (x := 1) rfl (by omega)]
        show pl _ _ _ (_, [(3, .int (nI (i + 1))), (0, .ref m0), (2, .int 0)], [], M35) _
        refine ps_st (S' := (53, [(0, .ref m0), (2, .int 0), (3, .int (nI (i + 1)))], [], M35)) rfl rfl rfl ?_
        exact ih (i + 1) M35 I1 R36 hR37 hEI1 hER40 hl17 hl73 hB_39 hD_41 (by omega) (hr)
  refine ps_st (S' := (1, [(0, .ref m0)], [.ref m0], M)) rfl rfl rfl ?_
  refine ps_st (S' := (2, [(0, .ref m0)], [.int 0, .ref m0], M)) rfl rfl rfl ?_
  refine pr_put (j := 0) rfl hR rfl (fun M42 I43 hR44 hi45 hI46 => ?_)
  have hi47 := (hI46 49 (by decide)).trans hi49
  have hi48 := (hI46 17 (by decide)).trans hi17
  have hi50 := (hI46 18 (by decide)).trans hi18
  have hB_51 := hB.mono (pIx hI46 (by decide)) (fun _ _ => rfl)
  have hK_52 := hK.mono (pIx hI46 (by decide)) (fun _ _ => rfl)
  have hKP_53 := hKP.mono (pIx hI46 (by decide)) (fun _ _ => rfl)
  have hEI54 := hEI.put hI46 (by decide)
  show pl _ _ _ (5, [(0, .ref m0)], [], M42) _
  refine ps_st (S' := (6, [(0, .ref m0)], [.ref m0], M42)) rfl rfl rfl ?_
  refine ps_st (S' := (7, [(0, .ref m0)], [.ref m0, .ref m0], M42)) rfl rfl rfl ?_
  refine pr_ref (j := 13) (S' := (10, [(0, .ref m0)], [.ref (q 13), .ref m0], M42)) rfl hR44 rfl rfl ?_
  refine ps_st (S' := (11, [(0, .ref m0)], [.ref m0, .ref (q 13), .ref m0], M42)) rfl rfl rfl ?_
  refine pr_int (j := 17) (S' := (14, [(0, .ref m0)], [.int (nI n), .ref (q 13), .ref m0], M42)) rfl hR44 rfl hi48 rfl ?_
  refine pl_call (a := [.ref m0, .ref (q 13), .int (nI n)]) (rest := []) rfl rfl rfl (rd_parse13 (n := n) (f := f) hR44 hi47 hB_51 hK_52 (hn)) (fun v55 M56 q57 => ?_)
  rcases q57 with q57 | q57
  · skip
    obtain ⟨I58, R59, q14_s, rfl, hR60, hI61, hX62⟩ := q57
    have hi63 := (hI61 49 (by decide)).trans hi47
    have hi64 := (hI61 17 (by decide)).trans hi48
    have hi65 := (hI61 18 (by decide)).trans hi50
    have hi66 := (hI61 0 (by decide)).trans hi45
    have hB_67 := hB_51.mono (cIx hI61 (by decide)) (cRx hX62 (by decide))
    have hK_68 := hK_52.mono (cIx hI61 (by decide)) (cRx hX62 (by decide))
    have hKP_69 := hKP_53.mono (cIx hI61 (by decide)) (cRx hX62 (by decide))
    have hEI70 := hEI54.tr hI61 (by decide)
    have hER71 := hER.tr hX62 (by decide)
    show pl _ _ _ (17, [(0, .ref m0)], [.int 1], M56) _
    refine ps_st (S' := (18, [(1, .int 1), (0, .ref m0)], [], M56)) rfl rfl rfl ?_
    refine ps_st (S' := (19, [(1, .int 1), (0, .ref m0)], [.ref m0], M56)) rfl rfl rfl ?_
    refine ps_st (S' := (20, [(1, .int 1), (0, .ref m0)], [.int 1, .ref m0], M56)) rfl rfl rfl ?_
    refine ps_if (S1 := (27, [(1, .int 1), (0, .ref m0)], [.ref m0], M56)) (S2 := (23, [(1, .int 1), (0, .ref m0)], [.ref m0], M56)) rfl rfl rfl (fun c_20 => ?_) (fun c_20 => ?_)
    · exact absurd (of_decide_eq_true c_20) (by decide)
    refine ps_st (S' := (24, [(1, .int 1), (0, .ref m0)], [.int (-1), .ref m0], M56)) rfl rfl rfl ?_
    refine ps_st (S' := (31, [(0, .ref m0), (1, .int 1)], [.int (-1), .ref m0], M56)) rfl rfl rfl ?_
    refine pr_put (j := 73) rfl hR60 rfl (fun M72 I73 hR74 hi75 hI76 => ?_)
    have hi77 := (hI76 49 (by decide)).trans hi63
    have hi78 := (hI76 17 (by decide)).trans hi64
    have hi79 := (hI76 18 (by decide)).trans hi65
    have hi80 := (hI76 0 (by decide)).trans hi66
    have hB_81 := hB_67.mono (pIx hI76 (by decide)) (fun _ _ => rfl)
    have hK_82 := hK_68.mono (pIx hI76 (by decide)) (fun _ _ => rfl)
    have hKP_83 := hKP_69.mono (pIx hI76 (by decide)) (fun _ _ => rfl)
    have hEI84 := hEI70.put hI76 (by decide)
    show pl _ _ _ (34, [(0, .ref m0), (1, .int 1)], [], M72) _
    refine ps_st (S' := (35, [(0, .ref m0), (1, .int 1)], [.int 1], M72)) rfl rfl rfl ?_
    refine ps_if (S1 := (42, [(0, .ref m0), (1, .int 1)], [], M72)) (S2 := (38, [(0, .ref m0), (1, .int 1)], [], M72)) rfl rfl rfl (fun c_35 => ?_) (fun c_35 => ?_)
    · exact absurd (of_decide_eq_true c_35) (by decide)
    refine ps_st (S' := (39, [(0, .ref m0), (1, .int 1)], [.int 0], M72)) rfl rfl rfl ?_
    refine ps_st (S' := (46, [(0, .ref m0), (1, .int 1)], [.int 0], M72)) rfl rfl rfl ?_
    refine ps_st (S' := (47, [(2, .int 0), (0, .ref m0), (1, .int 1)], [], M72)) rfl rfl rfl ?_
    refine ps_st (S' := (48, [(2, .int 0), (0, .ref m0), (1, .int 1)], [.int 1], M72)) rfl rfl rfl ?_
    refine ps_if (S1 := (90, [(2, .int 0), (0, .ref m0), (1, .int 1)], [], M72)) (S2 := (51, [(2, .int 0), (0, .ref m0), (1, .int 1)], [], M72)) rfl rfl rfl (fun c_48 => ?_) (fun c_48 => ?_)
    · exact absurd (of_decide_eq_true c_48) (by decide)
    refine ps_st (S' := (52, [(2, .int 0), (0, .ref m0), (1, .int 1)], [.int 0], M72)) rfl rfl rfl ?_
    refine ps_st (S' := (53, [(0, .ref m0), (2, .int 0), (3, .int 0)], [], M72)) rfl rfl rfl ?_
    have hD0 : BX 14 0 f I73 R59 := fun i9 h9 => absurd h9 (Nat.not_lt_zero _)
    exact (LL kf) (0) M72 I73 R59 hR74 hEI84 hER71 hi78 hi75 hB_81 hD0 (by omega) (q14_s)
  · skip
    obtain ⟨e985, I86, R87, q14_s, rfl, hR88, hI89, hX90, hi91, hi92⟩ := q57
    have hi93 := (hI89 49 (by decide)).trans hi47
    have hi94 := (hI89 17 (by decide)).trans hi48
    have hi95 := (hI89 18 (by decide)).trans hi50
    have hi96 := (hI89 0 (by decide)).trans hi45
    have hB_97 := hB_51.mono (cIx hI89 (by decide)) (cRx hX90 (by decide))
    have hK_98 := hK_52.mono (cIx hI89 (by decide)) (cRx hX90 (by decide))
    have hKP_99 := hKP_53.mono (cIx hI89 (by decide)) (cRx hX90 (by decide))
    have hEI100 := hEI54.tr hI89 (by decide)
    have hER101 := hER.tr hX90 (by decide)
    show pl _ _ _ (17, [(0, .ref m0)], [.int 0], M56) _
    refine ps_st (S' := (18, [(1, .int 0), (0, .ref m0)], [], M56)) rfl rfl rfl ?_
    refine ps_st (S' := (19, [(1, .int 0), (0, .ref m0)], [.ref m0], M56)) rfl rfl rfl ?_
    refine ps_st (S' := (20, [(1, .int 0), (0, .ref m0)], [.int 0, .ref m0], M56)) rfl rfl rfl ?_
    refine ps_if (S1 := (27, [(1, .int 0), (0, .ref m0)], [.ref m0], M56)) (S2 := (23, [(1, .int 0), (0, .ref m0)], [.ref m0], M56)) rfl rfl rfl (fun c_20 => ?_) (fun c_20 => ?_)
    rotate_left
    · exact absurd (by decide) (of_decide_eq_false c_20)
    refine ps_st (S' := (28, [(1, .int 0), (0, .ref m0)], [.ref m0, .ref m0], M56)) rfl rfl rfl ?_
    refine pr_int (j := 48) (S' := (31, [(0, .ref m0), (1, .int 0)], [.int (nI e985.2), .ref m0], M56)) rfl hR88 rfl hi92 rfl ?_
    refine pr_put (j := 73) rfl hR88 rfl (fun M102 I103 hR104 hi105 hI106 => ?_)
    have hi107 := (hI106 49 (by decide)).trans hi93
    have hi108 := (hI106 17 (by decide)).trans hi94
    have hi109 := (hI106 18 (by decide)).trans hi95
    have hi110 := (hI106 0 (by decide)).trans hi96
    have hi111 := (hI106 47 (by decide)).trans hi91
    have hi112 := (hI106 48 (by decide)).trans hi92
    have hB_113 := hB_97.mono (pIx hI106 (by decide)) (fun _ _ => rfl)
    have hK_114 := hK_98.mono (pIx hI106 (by decide)) (fun _ _ => rfl)
    have hKP_115 := hKP_99.mono (pIx hI106 (by decide)) (fun _ _ => rfl)
    have hEI116 := hEI100.put hI106 (by decide)
    show pl _ _ _ (34, [(0, .ref m0), (1, .int 0)], [], M102) _
    refine ps_st (S' := (35, [(0, .ref m0), (1, .int 0)], [.int 0], M102)) rfl rfl rfl ?_
    refine ps_if (S1 := (42, [(0, .ref m0), (1, .int 0)], [], M102)) (S2 := (38, [(0, .ref m0), (1, .int 0)], [], M102)) rfl rfl rfl (fun c_35 => ?_) (fun c_35 => ?_)
    rotate_left
    · exact absurd (by decide) (of_decide_eq_false c_35)
    refine ps_st (S' := (43, [(0, .ref m0), (1, .int 0)], [.ref m0], M102)) rfl rfl rfl ?_
    refine pr_int (j := 47) (S' := (46, [(0, .ref m0), (1, .int 0)], [.int (nI e985.1)], M102)) rfl hR104 rfl hi111 rfl ?_
    refine ps_st (S' := (47, [(2, .int (nI e985.1)), (0, .ref m0), (1, .int 0)], [], M102)) rfl rfl rfl ?_
    refine ps_st (S' := (48, [(2, .int (nI e985.1)), (0, .ref m0), (1, .int 0)], [.int 0], M102)) rfl rfl rfl ?_
    refine ps_if (S1 := (90, [(2, .int (nI e985.1)), (0, .ref m0), (1, .int 0)], [], M102)) (S2 := (51, [(2, .int (nI e985.1)), (0, .ref m0), (1, .int 0)], [], M102)) rfl rfl rfl (fun c_48 => ?_) (fun c_48 => ?_)
    rotate_left
    · exact absurd (by decide) (of_decide_eq_false c_48)
    refine ps_st (S' := (91, [(2, .int (nI e985.1)), (0, .ref m0), (1, .int 0)], [.ref m0], M102)) rfl rfl rfl ?_
    refine pr_int (j := 18) (S' := (94, [(2, .int (nI e985.1)), (0, .ref m0), (1, .int 0)], [.int kn], M102)) rfl hR104 rfl hi109 rfl ?_
    refine ps_if (S1 := (110, [(0, .ref m0), (2, .int (nI e985.1))], [], M102)) (S2 := (97, [(2, .int (nI e985.1)), (0, .ref m0), (1, .int 0)], [], M102)) rfl rfl rfl (fun c_94 => ?_) (fun c_94 => ?_)
    · have c_94 : kn < 0 := of_decide_eq_true c_94
      refine ps_st (S' := (111, [(0, .ref m0), (2, .int (nI e985.1))], [.ref m0], M102)) rfl rfl rfl ?_
      refine ps_st (S' := (112, [(0, .ref m0), (2, .int (nI e985.1))], [.int (-1), .ref m0], M102)) rfl rfl rfl ?_
      refine pr_put (j := 74) rfl hR104 rfl (fun M117 I118 hR119 hi120 hI121 => ?_)
      have hi122 := (hI121 49 (by decide)).trans hi107
      have hi123 := (hI121 17 (by decide)).trans hi108
      have hi124 := (hI121 18 (by decide)).trans hi109
      have hi125 := (hI121 0 (by decide)).trans hi110
      have hi126 := (hI121 47 (by decide)).trans hi111
      have hi127 := (hI121 48 (by decide)).trans hi112
      have hi128 := (hI121 73 (by decide)).trans hi105
      have hB_129 := hB_113.mono (pIx hI121 (by decide)) (fun _ _ => rfl)
      have hK_130 := hK_114.mono (pIx hI121 (by decide)) (fun _ _ => rfl)
      have hKP_131 := hKP_115.mono (pIx hI121 (by decide)) (fun _ _ => rfl)
      have hEI132 := hEI116.put hI121 (by decide)
      show pl _ _ _ (115, [(0, .ref m0), (2, .int (nI e985.1))], [], M117) _
      refine ps_st (S' := (116, [(0, .ref m0), (2, .int (nI e985.1))], [.ref m0], M117)) rfl rfl rfl ?_
      refine ps_st (S' := (117, [(0, .ref m0), (2, .int (nI e985.1))], [.int 0, .ref m0], M117)) rfl rfl rfl ?_
      refine pr_put (j := 17) rfl hR119 rfl (fun M133 I134 hR135 hi136 hI137 => ?_)
      have hi138 := (hI137 49 (by decide)).trans hi122
      have hi139 := (hI137 18 (by decide)).trans hi124
      have hi140 := (hI137 0 (by decide)).trans hi125
      have hi141 := (hI137 47 (by decide)).trans hi126
      have hi142 := (hI137 48 (by decide)).trans hi127
      have hi143 := (hI137 73 (by decide)).trans hi128
      have hi144 := (hI137 74 (by decide)).trans hi120
      have hB_145 := hB_129.mono (pIx hI137 (by decide)) (fun _ _ => rfl)
      have hK_146 := hK_130.mono (pIx hI137 (by decide)) (fun _ _ => rfl)
      have hKP_147 := hKP_131.mono (pIx hI137 (by decide)) (fun _ _ => rfl)
      have hEI148 := hEI132.put hI137 (by decide)
      show pl _ _ _ (120, [(0, .ref m0), (2, .int (nI e985.1))], [], M133) _
      refine ps_st (S' := (121, [(0, .ref m0), (2, .int (nI e985.1))], [.int (nI e985.1)], M133)) rfl rfl rfl ?_
      exact ps_reti rfl (⟨kn, I134, R87, by
          rw [q14_s]
          rfl, hR135, hEI148, hER101, by
          rw [q14_s]
          exact hi143, hi136, hi139, hKP_147⟩)
    · have c_94 : ¬ (kn < 0) := of_decide_eq_false c_94
      obtain ⟨n2, f2, hk1, hk2, hk3⟩ := KP.ge hKP_115 (by assumption)
      have hk149 := hi109.trans (congrArg some hk1)
      refine ps_st (S' := (98, [(2, .int (nI e985.1)), (0, .ref m0), (1, .int 0)], [.ref m0], M102)) rfl rfl rfl ?_
      refine ps_st (S' := (99, [(2, .int (nI e985.1)), (0, .ref m0), (1, .int 0)], [.ref m0, .ref m0], M102)) rfl rfl rfl ?_
      refine pr_ref (j := 14) (S' := (102, [(2, .int (nI e985.1)), (0, .ref m0), (1, .int 0)], [.ref (q 14), .ref m0], M102)) rfl hR104 rfl rfl ?_
      refine ps_st (S' := (103, [(2, .int (nI e985.1)), (0, .ref m0), (1, .int 0)], [.ref m0, .ref (q 14), .ref m0], M102)) rfl rfl rfl ?_
      refine pr_int (j := 18) (S' := (106, [(2, .int (nI e985.1)), (0, .ref m0), (1, .int 0)], [.int (nI n2), .ref (q 14), .ref m0], M102)) rfl hR104 rfl hk149 rfl ?_
      refine pl_call (a := [.ref m0, .ref (q 14), .int (nI n2)]) (rest := []) rfl rfl rfl (rd_parse14 (n := n2) (f := f2) hR104 hi107 hk3 hK_114 (hk2)) (fun v150 M151 q152 => ?_)
      rcases q152 with q152 | q152
      · skip
        obtain ⟨I153, R154, q106_s, rfl, hR155, hI156, hX157⟩ := q152
        have hi158 := (hI156 49 (by decide)).trans hi107
        have hi159 := (hI156 17 (by decide)).trans hi108
        have hi160 := (hI156 18 (by decide)).trans hk149
        have hi161 := (hI156 0 (by decide)).trans hi110
        have hi162 := (hI156 73 (by decide)).trans hi105
        have hB_163 := hB_113.mono (cIx hI156 (by decide)) (cRx hX157 (by decide))
        have hK_164 := hK_114.mono (cIx hI156 (by decide)) (cRx hX157 (by decide))
        have hKP_165 := hKP_115.mono (cIx hI156 (by decide)) (cRx hX157 (by decide))
        have hQ_166 := hk3.mono (cIx hI156 (by decide)) (cRx hX157 (by decide))
        have hEI167 := hEI116.tr hI156 (by decide)
        have hER168 := hER101.tr hX157 (by decide)
        show pl _ _ _ (109, [(2, .int (nI e985.1)), (0, .ref m0), (1, .int 0)], [.int 1], M151) _
        refine ps_st (S' := (110, [(0, .ref m0), (2, .int (nI e985.1))], [], M151)) rfl rfl rfl ?_
        refine ps_st (S' := (111, [(0, .ref m0), (2, .int (nI e985.1))], [.ref m0], M151)) rfl rfl rfl ?_
        refine ps_st (S' := (112, [(0, .ref m0), (2, .int (nI e985.1))], [.int (-1), .ref m0], M151)) rfl rfl rfl ?_
        refine pr_put (j := 74) rfl hR155 rfl (fun M169 I170 hR171 hi172 hI173 => ?_)
        have hi174 := (hI173 49 (by decide)).trans hi158
        have hi175 := (hI173 17 (by decide)).trans hi159
        have hi176 := (hI173 18 (by decide)).trans hi160
        have hi177 := (hI173 0 (by decide)).trans hi161
        have hi178 := (hI173 73 (by decide)).trans hi162
        have hB_179 := hB_163.mono (pIx hI173 (by decide)) (fun _ _ => rfl)
        have hK_180 := hK_164.mono (pIx hI173 (by decide)) (fun _ _ => rfl)
        have hKP_181 := hKP_165.mono (pIx hI173 (by decide)) (fun _ _ => rfl)
        have hQ_182 := hQ_166.mono (pIx hI173 (by decide)) (fun _ _ => rfl)
        have hEI183 := hEI167.put hI173 (by decide)
        show pl _ _ _ (115, [(0, .ref m0), (2, .int (nI e985.1))], [], M169) _
        refine ps_st (S' := (116, [(0, .ref m0), (2, .int (nI e985.1))], [.ref m0], M169)) rfl rfl rfl ?_
        refine ps_st (S' := (117, [(0, .ref m0), (2, .int (nI e985.1))], [.int 0, .ref m0], M169)) rfl rfl rfl ?_
        refine pr_put (j := 17) rfl hR171 rfl (fun M184 I185 hR186 hi187 hI188 => ?_)
        have hi189 := (hI188 49 (by decide)).trans hi174
        have hi190 := (hI188 18 (by decide)).trans hi176
        have hi191 := (hI188 0 (by decide)).trans hi177
        have hi192 := (hI188 73 (by decide)).trans hi178
        have hi193 := (hI188 74 (by decide)).trans hi172
        have hB_194 := hB_179.mono (pIx hI188 (by decide)) (fun _ _ => rfl)
        have hK_195 := hK_180.mono (pIx hI188 (by decide)) (fun _ _ => rfl)
        have hKP_196 := hKP_181.mono (pIx hI188 (by decide)) (fun _ _ => rfl)
        have hQ_197 := hQ_182.mono (pIx hI188 (by decide)) (fun _ _ => rfl)
        have hEI198 := hEI183.put hI188 (by decide)
        show pl _ _ _ (120, [(0, .ref m0), (2, .int (nI e985.1))], [], M184) _
        refine ps_st (S' := (121, [(0, .ref m0), (2, .int (nI e985.1))], [.int (nI e985.1)], M184)) rfl rfl rfl ?_
        exact ps_reti rfl (⟨(nI n2), I185, R154, by
            rw [q14_s]
            rfl, hR186, hEI198, hER168, by
            rw [q14_s]
            exact hi192, hi187, hi190, KP.of hk2 hQ_197⟩)
      · skip
        obtain ⟨e9199, I200, R201, q106_s, rfl, hR202, hI203, hX204, hi205, hi206⟩ := q152
        have hi207 := (hI203 49 (by decide)).trans hi107
        have hi208 := (hI203 17 (by decide)).trans hi108
        have hi209 := (hI203 18 (by decide)).trans hk149
        have hi210 := (hI203 0 (by decide)).trans hi110
        have hi211 := (hI203 73 (by decide)).trans hi105
        have hB_212 := hB_113.mono (cIx hI203 (by decide)) (cRx hX204 (by decide))
        have hK_213 := hK_114.mono (cIx hI203 (by decide)) (cRx hX204 (by decide))
        have hKP_214 := hKP_115.mono (cIx hI203 (by decide)) (cRx hX204 (by decide))
        have hQ_215 := hk3.mono (cIx hI203 (by decide)) (cRx hX204 (by decide))
        have hEI216 := hEI116.tr hI203 (by decide)
        have hER217 := hER101.tr hX204 (by decide)
        show pl _ _ _ (109, [(2, .int (nI e985.1)), (0, .ref m0), (1, .int 0)], [.int 0], M151) _
        refine ps_st (S' := (110, [(0, .ref m0), (2, .int (nI e985.1))], [], M151)) rfl rfl rfl ?_
        refine ps_st (S' := (111, [(0, .ref m0), (2, .int (nI e985.1))], [.ref m0], M151)) rfl rfl rfl ?_
        refine ps_st (S' := (112, [(0, .ref m0), (2, .int (nI e985.1))], [.int (-1), .ref m0], M151)) rfl rfl rfl ?_
        refine pr_put (j := 74) rfl hR202 rfl (fun M218 I219 hR220 hi221 hI222 => ?_)
        have hi223 := (hI222 49 (by decide)).trans hi207
        have hi224 := (hI222 17 (by decide)).trans hi208
        have hi225 := (hI222 18 (by decide)).trans hi209
        have hi226 := (hI222 0 (by decide)).trans hi210
        have hi227 := (hI222 73 (by decide)).trans hi211
        have hi228 := (hI222 47 (by decide)).trans hi205
        have hi229 := (hI222 48 (by decide)).trans hi206
        have hB_230 := hB_212.mono (pIx hI222 (by decide)) (fun _ _ => rfl)
        have hK_231 := hK_213.mono (pIx hI222 (by decide)) (fun _ _ => rfl)
        have hKP_232 := hKP_214.mono (pIx hI222 (by decide)) (fun _ _ => rfl)
        have hQ_233 := hQ_215.mono (pIx hI222 (by decide)) (fun _ _ => rfl)
        have hEI234 := hEI216.put hI222 (by decide)
        show pl _ _ _ (115, [(0, .ref m0), (2, .int (nI e985.1))], [], M218) _
        refine ps_st (S' := (116, [(0, .ref m0), (2, .int (nI e985.1))], [.ref m0], M218)) rfl rfl rfl ?_
        refine ps_st (S' := (117, [(0, .ref m0), (2, .int (nI e985.1))], [.int 0, .ref m0], M218)) rfl rfl rfl ?_
        refine pr_put (j := 17) rfl hR220 rfl (fun M235 I236 hR237 hi238 hI239 => ?_)
        have hi240 := (hI239 49 (by decide)).trans hi223
        have hi241 := (hI239 18 (by decide)).trans hi225
        have hi242 := (hI239 0 (by decide)).trans hi226
        have hi243 := (hI239 73 (by decide)).trans hi227
        have hi244 := (hI239 47 (by decide)).trans hi228
        have hi245 := (hI239 48 (by decide)).trans hi229
        have hi246 := (hI239 74 (by decide)).trans hi221
        have hB_247 := hB_230.mono (pIx hI239 (by decide)) (fun _ _ => rfl)
        have hK_248 := hK_231.mono (pIx hI239 (by decide)) (fun _ _ => rfl)
        have hKP_249 := hKP_232.mono (pIx hI239 (by decide)) (fun _ _ => rfl)
        have hQ_250 := hQ_233.mono (pIx hI239 (by decide)) (fun _ _ => rfl)
        have hEI251 := hEI234.put hI239 (by decide)
        show pl _ _ _ (120, [(0, .ref m0), (2, .int (nI e985.1))], [], M235) _
        refine ps_st (S' := (121, [(0, .ref m0), (2, .int (nI e985.1))], [.int (nI e985.1)], M235)) rfl rfl rfl ?_
        exact ps_reti rfl (⟨(nI n2), I236, R201, by
            rw [q14_s]
            rfl, hR237, hEI251, hER217, by
            rw [q14_s]
            exact hi243, hi238, hi241, KP.of hk2 hQ_250⟩)
