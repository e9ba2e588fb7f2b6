/-! the class between two calls, with its bytes and what it keeps (my own text) -/
/-- how many bytes have come, the bytes, the file's bytes, how many, the place of the last read, the file that is kept -/
abbrev GH : Type := Nat × (Nat → Int32) × (Nat → Int32) × Nat × Int32 × Option (Nat × (Nat → Int32))
def fdG (h : GH) (x1 x2 x3 x4 x5 : Int32) : GH := (h.1 + 20, fdC h.2.1 h.1 x1 x2 x3 x4 x5, h.2.2)
def enG (h : GH) (k : Nat) : GH := (0, h.2.1, fun i => if i < k then h.2.1 i else 0, k, h.2.2.2.2)
def rdG (h : GH) : GH := (h.1, h.2.1, h.2.2.1, 0, rdP (s_read h.2.2.1 h.2.2.2.1), match s_read h.2.2.1 h.2.2.2.1 with | none => some (h.2.2.2.1, h.2.2.1) | some _ => h.2.2.2.2.2)
section LGX
variable {g : xe_G} {x fed P : Nat} {h9 : GH} {M M' : mi_H} {Y Y' : yT}
theorem fdC_cg {C C' : Nat → Int32} {c i : Nat} {x1 x2 x3 x4 x5 : Int32} (h : ∀ j, j < c → C j = C' j) : fdC C c x1 x2 x3 x4 x5 i = fdC C' c x1 x2 x3 x4 x5 i :=
  wr4_cg (fun _ _ => wr4_cg (fun _ _ => wr4_cg (fun _ _ => wr4_cg (fun _ _ => wr4_cg h))))
theorem s_read_0 (f : Nat → Int32) : s_read f 0 = some (1, 0) := by
  refine s_read_1 ?_
  unfold s_whole
  rw [show s_head f 0 = (1, 0) by unfold s_head; rw [if_pos (by decide)], if_pos (by decide)]
theorem s_read_z {f f' : Nat → Int32} {n : Nat} (h : n = 0 ∨ f' = f) : s_read f' n = s_read f n := by
  rcases h with h | h
  · rw [h, s_read_0, s_read_0]
  · rw [h]
theorem WF.beside (h : WF g Y M) (ha : ∀ a t, Y.1 a = some t → M'.1 a = M.1 a) (hl : ∀ k, k < 15 → M'.1 (g.2.1 k) = M.1 (g.2.1 k)) (hz : M.2.1 ≤ M'.2.1) : WF g Y M' := by
  refine ⟨fun a k ps hY => (h.1 a k ps hY).beside ha hY, fun a t hY => Nat.lt_of_lt_of_le (h.2.1 a t hY) hz, fun k hk => ?_⟩
  obtain ⟨h1, f, h2⟩ := h.2.2 k hk
  exact ⟨Nat.lt_of_lt_of_le h1 hz, f, (hl k hk).trans h2⟩
theorem WF.add2 {a k : Nat} {ps : List Nat} (h : WF g Y M) (ha : Y.1 a = none) (hl : a < M.2.1) (ho : okY (yadd Y a k ps) M a k ps) : WF g (yadd Y a k ps) M := by
  have hle := yadd_le (k := k) (ps := ps) ha
  refine ⟨fun b k' ps' hb => ?_, fun b t hb => ?_, h.2.2⟩
  · by_cases e : b = a
    · subst e
      rw [yadd_at] at hb
      cases hb
      exact ho
    · rw [yadd_ne e] at hb
      exact (h.1 b k' ps' hb).mono hle hb
  · by_cases e : b = a
    · rw [e]
      exact hl
    · rw [yadd_ne e] at hb
      exact h.2.1 b t hb
theorem WF.came {a m : Nat} {C : Nat → Int32} (h : WF g Y M) (ha : Y.1 a = none) (hl : a < M.2.1) (hc : M.1 a = some (ar .byte m C)) (hm : m < 1073741824) (hf : ∀ i, fits .byte (.int (C i)) = true) : WF g (yadd Y a 20 [m]) M :=
  h.add2 ha hl (Or.inr (Or.inl ⟨m, [], rfl, .byte, C, rfl, hc, hm, fun _ => hf, fun q => absurd q (by decide), fun q => absurd q (by decide)⟩))
theorem WF.file {a m : Nat} {F : Nat → Int32} (h : WF g Y M) (ha : Y.1 a = none) (hl : a < M.2.1) (hc : M.1 a = some (ar .byte m F)) (hm : m < 1073741824) (hf : ∀ i, fits .byte (.int (F i)) = true) : WF g (yadd (Y.1, fun x => if x = a then F else Y.2 x) a 24 [m]) M ∧ yle Y (yadd (Y.1, fun x => if x = a then F else Y.2 x) a 24 [m]) ∧ (yadd (Y.1, fun x => if x = a then F else Y.2 x) a 24 [m]).2 a = F := by
  obtain ⟨h1, h2⟩ := h.note (f := F) ha
  have e : (yadd (Y.1, fun x => if x = a then F else Y.2 x) a 24 [m]).2 a = F := by
    show (if a = a then F else Y.2 a) = F
    rw [if_pos rfl]
  exact ⟨h1.add2 ha hl (Or.inr (Or.inl ⟨m, [], rfl, .byte, F, rfl, hc, hm, fun q => absurd q (by decide), fun _ => ⟨e.symm, hf⟩, fun q => absurd q (by decide)⟩)), h2.tr (yadd_le ha), e⟩
/-- a literal has no type -/
theorem WF.lit_none {a k' : Nat} {f : Nat → Option Value} (h : WF g Y M) (hc : M.1 a = some (.inr (100 + k', f))) : Y.1 a = none := by
  cases hy : Y.1 a with
  | none => rfl
  | some t =>
    obtain ⟨kk, ps⟩ := t
    exfalso
    rcases h.1 a kk ps hy with ⟨h1, l, h2, -⟩ | ⟨n, r, -, ty, f', -, h2, -⟩ | ⟨-, n, da, m, -, -, f', h2, -⟩
    · rw [hc] at h2
      simp only [ob, Option.some.injEq, Sum.inr.injEq, Prod.mk.injEq] at h2
      omega
    · rw [hc] at h2
      cases h2
    · rw [hc] at h2
      cases h2
theorem LT.fr (hW : WF g Y M) (h : LT g M) (hz : M.2.1 ≤ M'.2.1) (hf : ∀ a, Y.1 a = none → a < M.2.1 → (∀ l, M.1 a ≠ some (ob 11 l)) → M'.1 a = M.1 a) : LT g M' := by
  intro k hk
  obtain ⟨h1, k', fl, h2, h3, h4⟩ := h k hk
  refine ⟨by omega, k', fl, h2, (hf _ (hW.lit_none h3) h1 (fun l e => ?_)).trans h3, h4⟩
  rw [h3] at e
  simp only [ob, Option.some.injEq, Sum.inr.injEq, Prod.mk.injEq] at e
  omega
theorem ob5 {a0 a1 a2 a3 a4 b0 b1 b2 b3 b4 : Value} (h : some (ob 11 [a0, a1, a2, a3, a4]) = some (ob 11 [b0, b1, b2, b3, b4])) : a0 = b0 ∧ a1 = b1 ∧ a2 = b2 ∧ a3 = b3 ∧ a4 = b4 := by
  simp only [ob, Option.some.injEq, Sum.inr.injEq, Prod.mk.injEq, true_and] at h
  have h0 := congrFun h 0
  have h1 := congrFun h 1
  have h2 := congrFun h 2
  have h3 := congrFun h 3
  have h4 := congrFun h 4
  exact ⟨Option.some.inj h0, Option.some.inj h1, Option.some.inj h2, Option.some.inj h3, Option.some.inj h4⟩
theorem WF.f24 {a n : Nat} (h : WF g Y M) (hY : Y.1 a = some (24, [n])) : M.1 a = some (ar .byte n (Y.2 a)) := by
  obtain ⟨ty, f, h2, h3, h4, -, h6, -⟩ := (h.1 a _ _ hY).row (ty := .byte) rfl
  cases h2
  rw [← (h6 rfl).1]
  exact h3
/-- the class between two calls: fed feeds so far; P: what the gate may have taken for its bytes -/
def GATX (g : xe_G) (x : Nat) (h9 : GH) (fed P : Nat) (M : mi_H) : Prop := ∃ (Y : yT) (cm fl : Nat) (kv : Value) (C : Nat → Int32) (m rd ed : Nat),
  LT g M ∧ WF g Y M ∧ M.1 x = some (ob 11 [.ref cm, .int (nI h9.1), .ref fl, kv, .int h9.2.2.2.2.1]) ∧ Y.1 x = none ∧ x < M.2.1 ∧ (∀ i, i < 15 → g.2.1 i ≠ x) ∧ Y.1 g.1 = some (24, [0]) ∧ (M.1 cm = some (ar .byte m C) ∧ Y.1 cm = none ∧ cm < M.2.1 ∧ (∀ i, fits .byte (.int (C i)) = true) ∧ ∀ i, i < h9.1 → C i = h9.2.1 i) ∧ (Y.1 fl = some (24, [h9.2.2.2.1]) ∧ (h9.2.2.2.1 = 0 ∨ Y.2 fl = h9.2.2.1)) ∧ kvOk Y kv (20 * fed) ∧ KPC g h9.2.2.2.2.2 kv cm M ∧
  (1024 ≤ m ∧ m ≤ 1024 + 40 * fed ∧ m % 5 ≠ 0 ∧ h9.1 % 20 = 0 ∧ h9.1 ≤ m ∧ rd + h9.2.2.2.1 ≤ ed ∧ ed + h9.1 ≤ 20 * fed ∧ fed ≤ 512 ∧ P = 2 * m + 10 * rd + ed)
def GPX (g : xe_G) (x P : Nat) (h' : GH) (fed' c s : Nat) (M M' : mi_H) : Prop := ∃ P', P ≤ P' ∧ GATX g x h' fed' P' M' ∧ M'.2.1 + P ≤ M.2.1 + P' + c ∧ M'.2.2 + P ≤ M.2.2 + P' + s
theorem GATX.pot (h : GATX g x h9 fed P M) : P ≤ 156000 ∧ fed ≤ 512 ∧ h9.1 ≤ 20 * fed ∧ h9.1 % 20 = 0 := by
  obtain ⟨Y, cm, fl, kv, C, m, rd, ed, -, -, -, -, -, -, -, -, -, -, -, hB⟩ := h
  omega
theorem GATX.cell (h : GATX g x h9 fed P M) : ∃ F, M.1 x = some (.inr (11, F)) ∧ F 1 = some (.int (nI h9.1)) := by
  obtain ⟨Y, cm, fl, kv, C, m, rd, ed, -, -, hx, -⟩ := h
  exact ⟨_, hx, rfl⟩
theorem GPX.rf (h : GATX g x h9 fed P M) (c s : Nat) : GPX g x P h9 fed c s M M := ⟨P, Nat.le_refl _, h, by omega, by omega⟩
theorem LT.rm (h : LT g M) {z1 z2 : Nat} (hz : M.2.1 ≤ z1) : LT g (M.1, z1, z2) := fun k hk => by
  obtain ⟨h1, h2⟩ := h k hk
  exact ⟨Nat.lt_of_lt_of_le h1 hz, h2⟩
theorem GATX.room (h : GATX g x h9 fed P M) {z1 z2 : Nat} (hz : M.2.1 ≤ z1) : GATX g x h9 fed P (M.1, z1, z2) := by
  obtain ⟨Y, cm, fl, kv, C, m, rd, ed, hL, hW, hx, hxn, hxl, hlit, hst, ⟨c1, c2, c3, c4⟩, hfl, hkv, hKP, hr⟩ := h
  exact ⟨Y, cm, fl, kv, C, m, rd, ed, hL.rm hz, hW.beside (fun _ _ _ => rfl) (fun _ _ => rfl) hz, hx, hxn, Nat.lt_of_lt_of_le hxl hz, hlit, hst, ⟨c1, c2, Nat.lt_of_lt_of_le c3 hz, c4⟩, hfl, hkv, hKP.mov hz (fun _ _ _ h _ => h), hr⟩
theorem gx_place (h : GATX g x h9 fed P M) {d : Nat} (hd : 9 ≤ d) : mt (mT g) d 16 [.ref x] M (fun v M' => v = some (.int h9.2.2.2.2.1) ∧ GPX g x P h9 fed 26 (64 + 40 * fed) M M') := by
  obtain ⟨Y, cm, fl, kv, C, m, rd, ed, hL, hW, hx, hxn, hxl, hlit, hst, hcm, hfl, hkv, hKP, hB⟩ := id h
  exact ((tq_place hW hx hxn hxl hkv hd).also (dk_place hx)).imp (fun v M' hq => ⟨hq.2.1, by rw [hq.1.2]; exact GPX.rf h _ _⟩)
theorem gx_character (h : GATX g x h9 fed P M) {x1 : Int32} {x2 : Int32} {d : Nat} (hd : 9 ≤ d) : mt (mT g) d 3 [.ref x, .int x1, .int x2] M (fun v M' => v = some (.int (chK h9.2.2.2.2.2 x1 x2)) ∧ GPX g x P h9 fed 26 (64 + 40 * fed) M M') := by
  obtain ⟨Y, cm, fl, kv, C, m, rd, ed, hL, hW, hx, hxn, hxl, hlit, hst, hcm, hfl, hkv, hKP, hB⟩ := id h
  exact ((tq_character hW hx hxn hxl hkv hd).also (dk_character hx hKP)).imp (fun v M' hq => ⟨hq.2.1, by rw [hq.1.2]; exact GPX.rf h _ _⟩)
theorem gx_entry (h : GATX g x h9 fed P M) {x1 : Int32} {x2 : Int32} (hq0 : ¬ x2 < 0) (hq1 : x2 ≤ 2) {d : Nat} (hd : 9 ≤ d) : mt (mT g) d 8 [.ref x, .int x1, .int x2] M (fun v M' => v = some (.int (enK h9.2.2.2.2.2 x1 x2)) ∧ GPX g x P h9 fed 26 (64 + 40 * fed) M M') := by
  obtain ⟨Y, cm, fl, kv, C, m, rd, ed, hL, hW, hx, hxn, hxl, hlit, hst, hcm, hfl, hkv, hKP, hB⟩ := id h
  exact ((tq_entry hW hx hxn hxl hkv hq0 hq1 hd).also (dk_entry hx hKP hq0 hq1)).imp (fun v M' hq => ⟨hq.2.1, by rw [hq.1.2]; exact GPX.rf h _ _⟩)
theorem gx_member (h : GATX g x h9 fed P M) {x1 : Int32} {x2 : Int32} {x3 : Int32} (hq0 : ¬ x3 < 0) (hq1 : x3 ≤ 9) {d : Nat} (hd : 9 ≤ d) : mt (mT g) d 15 [.ref x, .int x1, .int x2, .int x3] M (fun v M' => (∃ y : Int32, v = some (.int y)) ∧ GPX g x P h9 fed 26 (64 + 40 * fed) M M') := by
  obtain ⟨Y, cm, fl, kv, C, m, rd, ed, hL, hW, hx, hxn, hxl, hlit, hst, hcm, hfl, hkv, hKP, hB⟩ := id h
  exact (tq_member hW hx hxn hxl hkv hq0 hq1 hd).imp (fun v M' hq => ⟨hq.1, by rw [hq.2]; exact GPX.rf h _ _⟩)
theorem gx_row (h : GATX g x h9 fed P M) {x1 : Int32} {x2 : Int32} {x3 : Int32} (hq0 : ¬ x3 < 0) (hq1 : x3 ≤ 3) {d : Nat} (hd : 9 ≤ d) : mt (mT g) d 19 [.ref x, .int x1, .int x2, .int x3] M (fun v M' => (∃ y : Int32, v = some (.int y)) ∧ GPX g x P h9 fed 26 (64 + 40 * fed) M M') := by
  obtain ⟨Y, cm, fl, kv, C, m, rd, ed, hL, hW, hx, hxn, hxl, hlit, hst, hcm, hfl, hkv, hKP, hB⟩ := id h
  exact (tq_row hW hx hxn hxl hkv hq0 hq1 hd).imp (fun v M' hq => ⟨hq.1, by rw [hq.2]; exact GPX.rf h _ _⟩)
theorem GATX.sa {cm fl m rd ed : Nat} {C : Nat → Int32} {kv : Value} (hL : LT g M) (hW : WF g Y M) (hx : M.1 x = some (ob 11 [.ref cm, .int (nI h9.1), .ref fl, kv, .int h9.2.2.2.2.1])) (hxn : Y.1 x = none) (hxl : x < M.2.1) (hlit : ∀ i, i < 15 → g.2.1 i ≠ x) (hst : Y.1 g.1 = some (24, [0])) (hcm : M.1 cm = some (ar .byte m C) ∧ Y.1 cm = none ∧ cm < M.2.1 ∧ (∀ i, fits .byte (.int (C i)) = true) ∧ ∀ i, i < h9.1 → C i = h9.2.1 i) (hfl : Y.1 fl = some (24, [h9.2.2.2.1]) ∧ (h9.2.2.2.1 = 0 ∨ Y.2 fl = h9.2.2.1)) (hkv : kvOk Y kv (20 * fed)) (hKP : KPC g h9.2.2.2.2.2 kv cm M')
    (hB : 1024 ≤ m ∧ m ≤ 1024 + 40 * fed ∧ m % 5 ≠ 0 ∧ h9.1 % 20 = 0 ∧ h9.1 ≤ m ∧ rd + h9.2.2.2.1 ≤ ed ∧ ed + h9.1 ≤ 20 * fed ∧ fed ≤ 512 ∧ P = 2 * m + 10 * rd + ed) (hs : sa g Y M Y' M' 2 (2 * (20 * fed))) : GPX g x P h9 fed 26 (64 + 40 * fed) M M' := by
  obtain ⟨a1, a2, a3, ⟨a4, a5, a6, a7⟩, a8⟩ := hs
  refine ⟨P, Nat.le_refl _, ⟨Y', cm, fl, kv, C, m, rd, ed, hL.fr hW a4 (fun a h1 h2 _ => a8 a h1 h2), a1, (a8 x hxn hxl).trans hx, (a3 x hxl).trans hxn, Nat.lt_of_lt_of_le hxl a4, hlit, (a2 _ _ hst).1, ⟨(a8 cm hcm.2.1 hcm.2.2.1).trans hcm.1, (a3 cm hcm.2.2.1).trans hcm.2.1, Nat.lt_of_lt_of_le hcm.2.2.1 a4, hcm.2.2.2⟩, ⟨(a2 _ _ hfl.1).1, by rw [(a2 _ _ hfl.1).2]; exact hfl.2⟩, hkv.mono a2, hKP, hB⟩, by omega, by omega⟩
theorem gx_cut (h : GATX g x h9 fed P M) {x1 : Int32} {d : Nat} (hd : 9 ≤ d) : mt (mT g) d 6 [.ref x, .int x1] M (fun v M' => (∃ y : Int32, v = some (.int y)) ∧ GPX g x P h9 fed 26 (64 + 40 * fed) M M') := by
  obtain ⟨Y, cm, fl, kv, C, m, rd, ed, hL, hW, hx, hxn, hxl, hlit, hst, hcm, hfl, hkv, hKP, hB⟩ := id h
  exact ((tq_cut hW hx hxn hxl hkv hd).also (fc_cut hW hx hxn hxl hkv)).imp (fun v M' hq => by obtain ⟨⟨Y', hv, hs⟩, hf⟩ := hq; exact ⟨hv, GATX.sa hL hW hx hxn hxl hlit hst hcm hfl hkv (hKP.fr hf) hB hs⟩)
theorem gx_jump (h : GATX g x h9 fed P M) {x1 : Int32} {x2 : Int32} {x3 : Int32} {x4 : Int32} {d : Nat} (hd : 9 ≤ d) : mt (mT g) d 14 [.ref x, .int x1, .int x2, .int x3, .int x4] M (fun v M' => (∃ y : Int32, v = some (.int y)) ∧ GPX g x P h9 fed 26 (64 + 40 * fed) M M') := by
  obtain ⟨Y, cm, fl, kv, C, m, rd, ed, hL, hW, hx, hxn, hxl, hlit, hst, hcm, hfl, hkv, hKP, hB⟩ := id h
  exact ((tq_jump hW hx hxn hxl hkv hd).also (fc_jump hW hx hxn hxl hkv)).imp (fun v M' hq => by obtain ⟨⟨Y', hv, hs⟩, hf⟩ := hq; exact ⟨hv, GATX.sa hL hW hx hxn hxl hlit hst hcm hfl hkv (hKP.fr hf) hB hs⟩)
theorem gx_instruction (h : GATX g x h9 fed P M) {x1 : Int32} {x2 : Int32} {x3 : Int32} (hq0 : ¬ x3 < 0) (hq1 : x3 ≤ 4) {d : Nat} (hd : 9 ≤ d) : mt (mT g) d 12 [.ref x, .int x1, .int x2, .int x3] M (fun v M' => (∃ y : Int32, v = some (.int y)) ∧ GPX g x P h9 fed 26 (64 + 40 * fed) M M') := by
  obtain ⟨Y, cm, fl, kv, C, m, rd, ed, hL, hW, hx, hxn, hxl, hlit, hst, hcm, hfl, hkv, hKP, hB⟩ := id h
  exact ((tq_instruction hW hx hxn hxl hkv hq0 hq1 hd).also (fc_instruction hW hx hxn hxl hkv hq0 hq1)).imp (fun v M' hq => by obtain ⟨⟨Y', hv, hs⟩, hf⟩ := hq; exact ⟨hv, GATX.sa hL hW hx hxn hxl hlit hst hcm hfl hkv (hKP.fr hf) hB hs⟩)
/-- the cells that read needs, and the others -/
def rdL (g : xe_G) (x fl : Nat) : List Nat := x :: fl :: g.1 :: (List.range 15).map g.2.1
def rdM (L : List Nat) (M : mi_H) : mi_H := (fun a => if a ∈ L ∨ M.2.1 ≤ a then M.1 a else none, M.2)
def rdF (L : List Nat) (M : mi_H) : Nat → Option mi_C := fun a => if a ∈ L ∨ M.2.1 ≤ a then none else M.1 a
theorem rd_sp {L : List Nat} : spR (rdF L M) (rdM L M) M := by
  refine ⟨rfl, fun a ha => ?_, fun a => ?_⟩
  · unfold rdF at ha
    by_cases h1 : a ∈ L ∨ M.2.1 ≤ a
    · rw [if_pos h1] at ha
      exact absurd rfl ha
    · refine ⟨?_, Nat.not_le.mp (fun h2 => h1 (Or.inr h2))⟩
      show (if a ∈ L ∨ M.2.1 ≤ a then M.1 a else none) = none
      rw [if_neg h1]
  · show M.1 a = (match rdF L M a with | some c => some c | none => if a ∈ L ∨ M.2.1 ≤ a then M.1 a else none)
    unfold rdF
    by_cases h1 : a ∈ L ∨ M.2.1 ≤ a
    · rw [if_pos h1, if_pos h1]
    · rw [if_neg h1, if_neg h1]
      cases M.1 a <;> rfl
theorem rdM_at {L : List Nat} {a : Nat} (h : a ∈ L) : (rdM L M).1 a = M.1 a := by
  show (if a ∈ L ∨ M.2.1 ≤ a then M.1 a else none) = _
  rw [if_pos (Or.inl h)]
theorem rdF_at {L : List Nat} {a : Nat} (h : a ∉ L) (hl : a < M.2.1) : rdF L M a = M.1 a := by
  unfold rdF
  rw [if_neg (fun h1 => h1.elim h (fun h2 => Nat.not_le.mpr hl h2))]
theorem okY.cell {a k : Nat} {ps : List Nat} (h : okY Y M a k ps) : ∃ c, M.1 a = some c := by
  rcases h with ⟨-, l, h2, -⟩ | ⟨n, r, -, ty, f', -, h2, -⟩ | ⟨-, n, da, m, -, -, f', h2, -⟩
  · exact ⟨_, h2⟩
  · exact ⟨_, h2⟩
  · exact ⟨_, h2⟩
set_option maxHeartbeats 2000000 in
theorem gx_read (h : GATX g x h9 fed P M) {d : Nat} (hd : 16 ≤ d) : mt (mT g) d 18 [.ref x] M (fun v M' => v = some (.int (rdR (s_read h9.2.2.1 h9.2.2.2.1))) ∧ GPX g x P (rdG h9) fed 26 (64 + 40 * fed) M M') := by
  obtain ⟨Y, cm, fl, kv, C, m, rd, ed, hL, hW, hx, hxn, hxl, hlit, hst, hcm, hfl, hkv, hKP, hB⟩ := id h
  obtain ⟨c1, c2, c3, c4, c5⟩ := hcm
  have hlf := hW.2.1 _ _ hfl.1
  have hlg := hW.2.1 _ _ hst
  have hxL : x ∈ rdL g x fl := List.mem_cons_self
  have hfL : fl ∈ rdL g x fl := List.mem_cons_of_mem _ List.mem_cons_self
  have hgL : g.1 ∈ rdL g x fl := List.mem_cons_of_mem _ (List.mem_cons_of_mem _ List.mem_cons_self)
  have hkL : ∀ k, k < 15 → g.2.1 k ∈ rdL g x fl := fun k hk => List.mem_cons_of_mem _ (List.mem_cons_of_mem _ (List.mem_cons_of_mem _ (List.mem_map.mpr ⟨k, List.mem_range.mpr hk, rfl⟩)))
  have hinL : ∀ a, a ∈ rdL g x fl → a = x ∨ a = fl ∨ a = g.1 ∨ ∃ k, k < 15 ∧ a = g.2.1 k := fun a ha => by
    unfold rdL at ha
    simp only [List.mem_cons, List.mem_map, List.mem_range] at ha
    rcases ha with e | e | e | ⟨k, hk, e⟩
    · exact Or.inl e
    · exact Or.inr (Or.inl e)
    · exact Or.inr (Or.inr (Or.inl e))
    · exact Or.inr (Or.inr (Or.inr ⟨k, hk, e.symm⟩))
  have hcL : cm ∉ rdL g x fl := fun hc => by
    rcases hinL cm hc with e | e | e | ⟨k, hk, e⟩
    · rw [e, hx] at c1
      cases c1
    · rw [e, hfl.1] at c2
      cases c2
    · rw [e, hst] at c2
      cases c2
    · obtain ⟨-, f, h2⟩ := hW.2.2 k hk
      rw [← e, c1] at h2
      cases h2
  obtain ⟨L, hLd⟩ : ∃ L, L = rdL g x fl := ⟨_, rfl⟩
  rw [← hLd] at hxL hfL hgL hkL hinL hcL
  have hsp : spR (rdF L M) (rdM L M) M := rd_sp
  have hx0 : (rdM L M).1 x = some (ob 11 [.ref cm, .int (nI h9.1), .ref fl, kv, .int h9.2.2.2.2.1]) := (rdM_at hxL).trans hx
  obtain ⟨Y0, hY0⟩ : ∃ Y0 : yT, Y0 = (fun a => if a = g.1 then some (24, [0]) else if a = fl then some (24, [h9.2.2.2.1]) else none, Y.2) := ⟨_, rfl⟩
  have y1 : Y0.1 g.1 = some (24, [0]) := by rw [hY0]; exact if_pos rfl
  have y2 : Y0.1 fl = some (24, [h9.2.2.2.1]) := by
    rw [hY0]
    show (if fl = g.1 then some (24, [0]) else if fl = fl then some (24, [h9.2.2.2.1]) else none) = _
    by_cases e : fl = g.1
    · rw [if_pos e, ← hfl.1, e, hst]
    · rw [if_neg e, if_pos rfl]
  have y3 : ∀ a, a ≠ g.1 → a ≠ fl → Y0.1 a = none := fun a h1 h2 => by
    rw [hY0]
    show (if a = g.1 then some (24, [0]) else if a = fl then some (24, [h9.2.2.2.1]) else none) = none
    rw [if_neg h1, if_neg h2]
  have y4 : ∀ a, Y0.2 a = Y.2 a := fun a => by rw [hY0]
  have yk : ∀ a k ps, Y0.1 a = some (k, ps) → ∃ n, k = 24 ∧ ps = [n] ∧ Y.1 a = some (24, [n]) ∧ (a = fl ∨ a = g.1) := fun a k ps ha => by
    by_cases e1 : a = g.1
    · rw [e1, y1] at ha
      cases ha
      exact ⟨0, rfl, rfl, by rw [e1]; exact hst, Or.inr e1⟩
    · by_cases e2 : a = fl
      · rw [e2, y2] at ha
        cases ha
        exact ⟨_, rfl, rfl, by rw [e2]; exact hfl.1, Or.inl e2⟩
      · rw [y3 a e1 e2] at ha
        cases ha
  have hxg : x ≠ g.1 := fun e => by rw [e, hst] at hxn; cases hxn
  have hxf : x ≠ fl := fun e => by rw [e, hfl.1] at hxn; cases hxn
  have hW0 : WF g Y0 (rdM L M) := by
    refine ⟨fun a k ps ha => ?_, fun a t ha => ?_, fun k hk => ?_⟩
    · obtain ⟨n, rfl, rfl, h1, h2⟩ := yk a k ps ha
      have h3 := hW.f24 h1
      obtain ⟨ty, f, b1, b2, b3, b4, b5, b6⟩ := (hW.1 a _ _ h1).row (ty := .byte) rfl
      cases b1
      have haL : a ∈ L := h2.elim (fun e => e ▸ hfL) (fun e => e ▸ hgL)
      exact Or.inr (Or.inl ⟨n, [], rfl, .byte, f, rfl, (rdM_at haL).trans b2, b3, b4, fun q => by rw [y4]; exact b5 q, b6⟩)
    · obtain ⟨k, ps⟩ := t
      obtain ⟨n, -, -, h1, -⟩ := yk a k ps ha
      exact hW.2.1 _ _ h1
    · obtain ⟨h1, f, h2⟩ := hW.2.2 k hk
      exact ⟨h1, f, (rdM_at (hkL k hk)).trans h2⟩
  have hL0 : LT g (rdM L M) := fun k hk => by
    obtain ⟨h1, k', f, h2, h3, h4⟩ := hL k hk
    exact ⟨h1, k', f, h2, (rdM_at (hkL k hk)).trans h3, h4⟩
  refine (mt.sep (F := rdF L M) (M2 := M) (fun y b h1 h2 => sr_all y b h1 h2) rfl ((tq_read0 (m := m) (B := 20 * fed) hW0 hx0 (y3 x hxg hxf) hxl hlit y1 y2 (by omega) (by omega) hd).also (dk_read2 hx0 (hW0.f24 y2) (by omega) hxl hlf hL0)) hsp).imp (fun v M' hq => ?_)
  obtain ⟨M0', ⟨⟨Y', kv', wp', -, ⟨a1, a2, a3, a4, a5, a6, a7, a8⟩, hx', hk'⟩, hr⟩, hs'⟩ := hq
  have ez : M'.2.1 = M0'.2.1 := by rw [hs'.1]
  have ez2 : M'.2.2 = M0'.2.2 := by rw [hs'.1]
  have a4 : M.2.1 ≤ M0'.2.1 := a4
  have a5 : M0'.2.1 ≤ M.2.1 + (3 * h9.2.2.2.1 + 25) := a5
  have a6 : M.2.2 ≤ M0'.2.2 := a6
  have a7 : M0'.2.2 ≤ M.2.2 + (10 * h9.2.2.2.1 + 64) := a7
  have hcM : M'.1 cm = some (ar .byte m C) := hs'.old ((rdF_at hcL c3).trans c1)
  have hlit0 : ∀ k, k < 15 → M'.1 (g.2.1 k) = M.1 (g.2.1 k) := fun k hk => by
    obtain ⟨h1, k', f, h2, h3, h4⟩ := hL k hk
    have e0 : (rdM L M).1 (g.2.1 k) = some (.inr (100 + k', f)) := (rdM_at (hkL k hk)).trans h3
    have e1 := (a8 _ (hW0.lit_none e0) h1 (fun l e => by
      rw [e0] at e
      simp only [ob, Option.some.injEq, Sum.inr.injEq, Prod.mk.injEq] at e
      omega)).trans e0
    rw [hs'.get e1, h3]
  have hL' : LT g M' := fun k hk => by
    obtain ⟨h1, k', f, h2, h3, h4⟩ := hL k hk
    exact ⟨by omega, k', f, h2, (hlit0 k hk).trans h3, h4⟩
  have hsr : s_read (Y0.2 fl) h9.2.2.2.1 = s_read h9.2.2.1 h9.2.2.2.1 := by
    rw [y4]
    exact s_read_z hfl.2
  rw [hsr] at hr
  rcases hr with ⟨cN, r1, r2, r3, hv, r4, -⟩ | ⟨e9, r1, hv, r4, -⟩
  · obtain ⟨-, -, -, e3, e4⟩ := ob5 (hx'.symm.trans r4)
    have hkk : kvOk Y' kv' (20 * fed) := hk'.resolve_left (fun e => by
      rw [e3] at e
      rcases hkv with h1 | ⟨kc, kb, kd, kn, h1, h2, -⟩
      · rw [h1] at e
        cases e
      · rw [h1] at e
        have e5 : cN = kc := Value.ref.inj e
        have := hW.2.1 _ _ h2
        have r3 : M.2.1 ≤ cN := r3
        omega)
    have hW' : WF g Y' M' := a1.beside (fun a t ha => by
      obtain ⟨k, ps⟩ := t
      obtain ⟨c9, h1⟩ := (a1.1 a k ps ha).cell
      rw [hs'.get h1, h1]) (fun k hk => by
      obtain ⟨-, f, h1⟩ := a1.2.2 k hk
      rw [hs'.get h1, h1]) (by omega)
    cases e3
    cases e4
    have hge : (rdG h9).2.2.2.2.1 = -1 ∧ (rdG h9).2.2.2.2.2 = some (h9.2.2.2.1, h9.2.2.1) := by
      unfold rdG
      rw [r1]
      exact ⟨rfl, rfl⟩
    have hkc : KC g h9.2.2.1 h9.2.2.2.1 cN fl M' := by
      have h1 := r2.sp hs'
      rcases hfl.2 with h2 | h2
      · exfalso
        rw [h2, s_read_0] at r1
        cases r1
      · rw [y4, h2] at h1
        exact h1
    refine ⟨by rw [hv, r1]; rfl, P + 10 * h9.2.2.2.1, by omega, ⟨Y', cm, g.1, .ref cN, C, m, rd + h9.2.2.2.1, ed, hL', hW', by rw [hge.1]; exact hs'.get r4, (a3 x hxl).trans (y3 x hxg hxf), by omega, hlit, (a2 _ _ y1).1, ⟨hcM, (a3 cm c3).trans (y3 cm (fun e => hcL (e ▸ hgL)) (fun e => hcL (e ▸ hfL))), by omega, c4, c5⟩, ⟨(a2 _ _ y1).1, Or.inl rfl⟩, hkk, by rw [hge.2]; exact ⟨cN, fl, rfl, hkc, fun e => hcL (e ▸ hfL), r1⟩, ?_⟩, by omega, by omega⟩
    show 1024 ≤ m ∧ m ≤ 1024 + 40 * fed ∧ m % 5 ≠ 0 ∧ h9.1 % 20 = 0 ∧ h9.1 ≤ m ∧ rd + h9.2.2.2.1 + 0 ≤ ed ∧ ed + h9.1 ≤ 20 * fed ∧ fed ≤ 512 ∧ P + 10 * h9.2.2.2.1 = 2 * m + 10 * (rd + h9.2.2.2.1) + ed
    omega
  · have hge : (rdG h9).2.2.2.2.1 = nI e9.2 ∧ (rdG h9).2.2.2.2.2 = h9.2.2.2.2.2 := by
      unfold rdG
      rw [r1]
      exact ⟨rfl, rfl⟩
    have hrow : ∀ a n, Y0.1 a = some (24, [n]) → M'.1 a = some (ar .byte n (Y.2 a)) := fun a n ha => by
      have h1 := a1.f24 (a2 _ _ ha).1
      rw [(a2 _ _ ha).2, y4] at h1
      exact hs'.get h1
    have hold : ∀ a c', a < M.2.1 → M.1 a = some c' → a ≠ x → M'.1 a = some c' := fun a c' hl hc hn => by
      by_cases hi : a ∈ L
      · rcases hinL a hi with e | e | e | ⟨k, hk, e⟩
        · exact absurd e hn
        · rw [e, hrow fl _ y2, ← hc, e]
          exact (hW.f24 hfl.1).symm
        · rw [e, hrow g.1 _ y1, ← hc, e]
          exact (hW.f24 hst).symm
        · rw [e, hlit0 k hk, ← e]
          exact hc
      · exact hs'.old ((rdF_at hi hl).trans hc)
    have hW' : WF g Y M' := hW.beside (fun a t ha => by
      obtain ⟨k, ps⟩ := t
      obtain ⟨c9, h1⟩ := (hW.1 a k ps ha).cell
      rw [h1]
      exact hold a c9 (hW.2.1 _ _ ha) h1 (fun e => by rw [e, hxn] at ha; cases ha)) hlit0 (by omega)
    obtain ⟨-, -, -, e3, e4⟩ := ob5 (hx'.symm.trans r4)
    refine ⟨by rw [hv, r1]; rfl, P + 10 * h9.2.2.2.1, by omega, ⟨Y, cm, g.1, kv, C, m, rd + h9.2.2.2.1, ed, hL', hW', by rw [hge.1]; exact hs'.get r4, hxn, by omega, hlit, hst, ⟨hcM, c2, by omega, c4, c5⟩, ⟨hst, Or.inl rfl⟩, hkv, by rw [hge.2]; exact hKP.mov (by omega) (fun a c' hl hc hn => hold a c' hl hc (fun e => by rw [e, hx] at hc; exact hn _ (Option.some.inj hc).symm)), ?_⟩, by omega, by omega⟩
    show 1024 ≤ m ∧ m ≤ 1024 + 40 * fed ∧ m % 5 ≠ 0 ∧ h9.1 % 20 = 0 ∧ h9.1 ≤ m ∧ rd + h9.2.2.2.1 + 0 ≤ ed ∧ ed + h9.1 ≤ 20 * fed ∧ fed ≤ 512 ∧ P + 10 * h9.2.2.2.1 = 2 * m + 10 * (rd + h9.2.2.2.1) + ed
    omega
/-- the type of the bytes that come, for a call that writes them -/
theorem GATX.ty {cm fl m : Nat} {C : Nat → Int32} {kv : Value} {nc wp : Int32} (hW : WF g Y M) (hx : M.1 x = some (ob 11 [.ref cm, .int nc, .ref fl, kv, .int wp])) (hxn : Y.1 x = none) (hst : Y.1 g.1 = some (24, [0])) (c1 : M.1 cm = some (ar .byte m C)) (c2 : Y.1 cm = none) (c3 : cm < M.2.1) (c4 : ∀ i, fits .byte (.int (C i)) = true) (hm : m < 1073741824) : WF g (yadd Y cm 20 [m]) M ∧ (yadd Y cm 20 [m]).1 x = none ∧ (yadd Y cm 20 [m]).1 g.1 = some (24, [0]) ∧ (yadd Y cm 20 [m]).1 cm = some (20, [m]) ∧ x ≠ cm ∧ cm ≠ g.1 ∧ g.1 < M.2.1 := by
  have e1 : x ≠ cm := fun e => by rw [e, c1] at hx; cases hx
  have e2 : g.1 ≠ cm := fun e => by rw [e, c2] at hst; cases hst
  exact ⟨hW.came c2 c3 c1 hm c4, (yadd_ne e1).trans hxn, (yadd_ne e2).trans hst, yadd_at, e1, e2.symm, hW.2.1 _ _ hst⟩
theorem gx_end (h : GATX g x h9 fed P M) {x1 : Int32} (hq0 : ¬ x1 < 0) (hq1 : x1 ≤ nI h9.1) {d : Nat} (hd : 3 ≤ d) : mt (mT g) d 7 [.ref x, .int x1] M (fun v M' => v = some (.int x1) ∧ GPX g x P (enG h9 (Int32.toNatClampNeg x1)) fed 26 (64 + 40 * fed) M M') := by
  obtain ⟨Y, cm, fl, kv, C, m, rd, ed, hL, hW, hx, hxn, hxl, hlit, hst, hcm, hfl, hkv, hKP, hB⟩ := id h
  obtain ⟨c1, c2, c3, c4, c5⟩ := hcm
  have hcv : (nI h9.1).toInt = h9.1 := nI_val (by omega)
  have h1 := Int32.le_iff_toInt_le.mp hq1
  rw [hcv] at h1
  have h3 := Int32.le_iff_toInt_le.mp (Int32.not_lt.mp hq0)
  have h4 : (0 : Int32).toInt = 0 := rfl
  obtain ⟨k, hk⟩ : ∃ k : Nat, k = Int32.toNatClampNeg x1 := ⟨_, rfl⟩
  have hk0 : (k : Int) = x1.toInt := by
    rw [hk]
    show ((x1.toInt.toNat : Nat) : Int) = _
    omega
  have hle : k ≤ h9.1 := by omega
  have ex : x1 = nI k := Int32.toInt_inj.mp (by rw [nI_val (by omega)]; exact hk0.symm)
  rw [← hk]
  obtain ⟨t1, t2, t3, t4, t5, t6, t7⟩ := GATX.ty hW hx hxn hst c1 c2 c3 c4 (by omega)
  have q1 := tq_end (n := 0) (B := 0) t1 hx t2 hxl hlit t3 t4 (by omega) (by omega) (by rw [hcv]; omega) (by rw [hcv]; omega) hq0 hq1 hd
  rw [← hk, ex] at q1
  rw [ex]
  refine (q1.also (dk_end (k := k) hx c1 c4 t7 t6 (by omega) hle (by omega) hxl c3 t5)).imp (fun v M' hq => ?_)
  obtain ⟨⟨hv, Y', fl', ⟨a1, a2, a3, a4, a5, a6, a7, a8⟩, hx', hf'⟩, F2, b1, b2, -, b4, b5, b6, b7⟩ := hq
  have hne : ∀ a, a < M.2.1 → a ≠ x → M'.1 a = M.1 a := fun a ha hax => b6.1 a ha (by simpa using hax)
  have hW' : WF g Y M' := hW.beside (fun a t ha => hne a (hW.2.1 a t ha) (fun e => by rw [e, hxn] at ha; cases ha)) (fun i hi => hne _ (hW.2.2 i hi).1 (hlit i hi)) b6.2
  have hfr : Y.1 M.2.1 = none := by
    cases hy : Y.1 M.2.1 with
    | none => rfl
    | some t => exact absurd (hW.2.1 _ _ hy) (Nat.lt_irrefl _)
  have hnx : x ≠ M.2.1 := Nat.ne_of_lt hxl
  obtain ⟨f1, f2, f3⟩ := hW'.file (F := F2) hfr (by omega) b4 (by omega) b1
  have eF : F2 = fun i => if i < k then h9.2.1 i else 0 := by
    funext i
    rw [b2 i]
    split
    · exact c5 i (by omega)
    · rfl
  refine ⟨hv, P + k, by omega, ⟨_, cm, M.2.1, kv, C, m, rd, ed + k, hL.fr hW b6.2 (fun a h1 h2 h3 => hne a h2 (fun e => h3 _ (e ▸ hx))), f1, b5, (yadd_ne hnx).trans hxn, by omega, hlit, (f2 _ _ hst).1, ⟨(hne cm c3 t5.symm).trans c1, (yadd_ne (Nat.ne_of_lt c3)).trans c2, by omega, c4, fun i hi => absurd hi (Nat.not_lt_zero i)⟩, ⟨yadd_at, Or.inr (f3.trans eF)⟩, hkv.mono f2, hKP.gmk b6 (fun z hz => ⟨[.ref cm, .int (nI h9.1), .ref fl, kv, .int h9.2.2.2.2.1], by rw [List.mem_singleton.mp hz]; exact hx⟩), ?_⟩, by omega, by omega⟩
  show 1024 ≤ m ∧ m ≤ 1024 + 40 * fed ∧ m % 5 ≠ 0 ∧ 0 % 20 = 0 ∧ 0 ≤ m ∧ rd + k ≤ ed + k ∧ ed + k + 0 ≤ 20 * fed ∧ fed ≤ 512 ∧ P + k = 2 * m + 10 * rd + (ed + k)
  omega
theorem gx_feed (h : GATX g x h9 fed P M) (hfd : fed < 512) {x1 x2 x3 x4 x5 : Int32} {d : Nat} (hd : 3 ≤ d) : mt (mT g) d 9 [.ref x, .int x1, .int x2, .int x3, .int x4, .int x5] M (fun v M' => v = some (.int (nI (h9.1 + 20))) ∧ GPX g x P (fdG h9 x1 x2 x3 x4 x5) (fed + 1) 26 64 M M') := by
  obtain ⟨Y, cm, fl, kv, C, m, rd, ed, hL, hW, hx, hxn, hxl, hlit, hst, hcm, hfl, hkv, hKP, hB⟩ := id h
  obtain ⟨c1, c2, c3, c4, c5⟩ := hcm
  have hcv : (nI h9.1).toInt = h9.1 := nI_val (by omega)
  have e20 : nI h9.1 + 4 + 4 + 4 + 4 + 4 = nI (h9.1 + 20) := by
    rw [nI_plus (j := 4) rfl (by omega), nI_plus (j := 4) rfl (by omega), nI_plus (j := 4) rfl (by omega), nI_plus (j := 4) rfl (by omega), nI_plus (j := 4) rfl (by omega)]
  obtain ⟨t1, t2, t3, t4, t5, t6, t7⟩ := GATX.ty hW hx hxn hst c1 c2 c3 c4 (by omega)
  refine ((tq_feed (n := 0) (B := 0) t1 hx t2 hxl hlit t3 t4 (by omega) (by omega) (by omega) (by rw [hcv]; omega) (by rw [hcv]; omega) (Int32.le_iff_toInt_le.mpr (by rw [hcv]; show (h9.1 : Int) ≤ 65520; omega)) hd).also (dk_feed hx c1 c4 t7 t6 (by omega) (by omega) (by omega) hxl c3 t5 (by omega))).imp (fun v M' hq => ?_)
  rw [e20, hcv] at hq
  obtain ⟨⟨hv, Y', cm', m', ⟨a1, a2, a3, a4, a5, a6, a7, a8⟩, hx', hc', ⟨b1, b2, b3⟩, b4⟩, cm2, m2, C2, d1, d2, d3, d4, d5, d6, d7, -, d8, d9, dg, dz⟩ := hq
  obtain ⟨e0, -⟩ := ob5 (hx'.symm.trans d9)
  have e9 : cm2 = cm' := (Value.ref.inj e0).symm
  subst e9
  obtain ⟨f9, k1, -⟩ := a1.gst hc'
  have em : m2 = m' := by
    rw [d8] at k1
    simp only [ar, Option.some.injEq, Sum.inl.injEq, Prod.mk.injEq] at k1
    exact k1.2.1
  subst em
  have hne : ∀ a, a < M.2.1 → a ≠ x → a ≠ cm → M'.1 a = M.1 a := fun a ha h1 h2 => dg.1 a ha (by simpa using ⟨h1, h2⟩)
  have hlc : ∀ i, i < 15 → g.2.1 i ≠ cm := fun i hi e => by
    obtain ⟨-, f, h2⟩ := hW.2.2 i hi
    rw [e, c1] at h2
    cases h2
  have hW' : WF g Y M' := hW.beside (fun a t ha => hne a (hW.2.1 a t ha) (fun e => by rw [e, hxn] at ha; cases ha) (fun e => by rw [e, c2] at ha; cases ha)) (fun i hi => hne _ (hW.2.2 i hi).1 (hlit i hi) (hlc i hi)) dz
  have hcn : Y.1 cm2 = none := by
    rcases d1 with d1 | d1
    · rw [d1]
      exact c2
    · cases hy : Y.1 cm2 with
      | none => rfl
      | some t => exact absurd (hW.2.1 _ _ hy) (by omega)
  have hLT : LT g M' := fun k hk => by
    obtain ⟨h1, k', f, h2, h3, h4⟩ := hL k hk
    exact ⟨by omega, k', f, h2, (hne _ h1 (hlit k hk) (hlc k hk)).trans h3, h4⟩
  refine ⟨hv, P + 2 * (m2 - m), by omega, ⟨Y, cm2, fl, kv, C2, m2, rd, ed, hLT, hW', d9, hxn, by omega, hlit, hst, ⟨d8, hcn, d2, d6, fun i hi => (d7 i hi).trans ?_⟩, hfl, hkv.le (by omega), hKP.gmk2 dg hx c1 d1, ?_⟩, by omega, by omega⟩
  · exact fdC_cg c5
  · show 1024 ≤ m2 ∧ m2 ≤ 1024 + 40 * (fed + 1) ∧ m2 % 5 ≠ 0 ∧ (h9.1 + 20) % 20 = 0 ∧ h9.1 + 20 ≤ m2 ∧ rd + h9.2.2.2.1 ≤ ed ∧ ed + (h9.1 + 20) ≤ 20 * (fed + 1) ∧ fed + 1 ≤ 512 ∧ P + 2 * (m2 - m) = 2 * m2 + 10 * rd + ed
    have := b3 hB.2.2.1
    omega
end LGX
