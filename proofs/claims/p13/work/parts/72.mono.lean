section
/-! a run from less knowledge is a run from more (my own text) -/
section MIZ
def cle (c c' : mi_C) : Prop := match c, c' with
  | .inl a, .inl b => a.1 = b.1 ∧ a.2.1 = b.2.1 ∧ ∀ i v, a.2.2 i = some v → b.2.2 i = some v
  | .inr a, .inr b => a.1 = b.1 ∧ ∀ k v, a.2 k = some v → b.2 k = some v
  | _, _ => False
def hle (M M' : mi_H) : Prop := ∀ a c, M.1 a = some c → ∃ c', M'.1 a = some c' ∧ cle c c'
/-- what was known of an object's fields stays known -/
def hkp (M M' : mi_H) : Prop := ∀ (a ci : Nat) (f : Nat → Option Value) (k : Nat) (v : Value), M.1 a = some (.inr (ci, f)) → f k = some v → ∃ (f' : Nat → Option Value) (v' : Value), M'.1 a = some (.inr (ci, f')) ∧ f' k = some v'
theorem hkp.rf {M : mi_H} : hkp M M := fun _ _ f _ v h1 h2 => ⟨f, v, h1, h2⟩
theorem hkp.tr {M M1 M2 : mi_H} (h : hkp M M1) (h' : hkp M1 M2) : hkp M M2 := fun a ci f k v h1 h2 => by
  obtain ⟨f', v', h3, h4⟩ := h a ci f k v h1 h2
  exact h' a ci f' k v' h3 h4
def mnk (o : mi_O) : Prop := (∀ pc lv st M S' M2, o (pc, lv, st, M) = some S' → hle M M2 → ∃ M2', o (pc, lv, st, M2) = some (S'.1, S'.2.1, S'.2.2.1, M2') ∧ hle S'.2.2.2 M2' ∧ M2'.2 = M2.2) ∧ ∀ pc lv st M S', o (pc, lv, st, M) = some S' → hkp M S'.2.2.2 ∧ S'.2.2.2.2 = M.2

theorem mn_push {v : Value} {n : Nat} : mnk (o_push v n) := by
  refine ⟨fun pc lv st M S' M2 h hl => ?_, fun pc lv st M S' h => ?_⟩
  · unfold o_push at h ⊢
    dsimp only at h ⊢
    repeat' split at h
    all_goals first | (cases h; done) | (cases h; exact ⟨M2, rfl, hl, rfl⟩) | (cases h; refine ⟨M2, ?_, hl, rfl⟩; first | (rw [if_pos (by assumption)]; done) | (rw [if_neg (by assumption)]; done) | (simp only [*]; done))
  · unfold o_push at h
    dsimp only at h
    repeat' split at h
    all_goals first | (cases h; done) | (cases h; exact ⟨hkp.rf, rfl⟩)
theorem mn_iload {i n : Nat} : mnk (o_iload i n) := by
  refine ⟨fun pc lv st M S' M2 h hl => ?_, fun pc lv st M S' h => ?_⟩
  · unfold o_iload at h ⊢
    dsimp only at h ⊢
    repeat' split at h
    all_goals first | (cases h; done) | (cases h; exact ⟨M2, rfl, hl, rfl⟩) | (cases h; refine ⟨M2, ?_, hl, rfl⟩; first | (rw [if_pos (by assumption)]; done) | (rw [if_neg (by assumption)]; done) | (simp only [*]; done))
  · unfold o_iload at h
    dsimp only at h
    repeat' split at h
    all_goals first | (cases h; done) | (cases h; exact ⟨hkp.rf, rfl⟩)
theorem mn_lload {i n : Nat} : mnk (o_lload i n) := by
  refine ⟨fun pc lv st M S' M2 h hl => ?_, fun pc lv st M S' h => ?_⟩
  · unfold o_lload at h ⊢
    dsimp only at h ⊢
    repeat' split at h
    all_goals first | (cases h; done) | (cases h; exact ⟨M2, rfl, hl, rfl⟩) | (cases h; refine ⟨M2, ?_, hl, rfl⟩; first | (rw [if_pos (by assumption)]; done) | (rw [if_neg (by assumption)]; done) | (simp only [*]; done))
  · unfold o_lload at h
    dsimp only at h
    repeat' split at h
    all_goals first | (cases h; done) | (cases h; exact ⟨hkp.rf, rfl⟩)
theorem mn_aload {i n : Nat} : mnk (o_aload i n) := by
  refine ⟨fun pc lv st M S' M2 h hl => ?_, fun pc lv st M S' h => ?_⟩
  · unfold o_aload at h ⊢
    dsimp only at h ⊢
    repeat' split at h
    all_goals first | (cases h; done) | (cases h; exact ⟨M2, rfl, hl, rfl⟩) | (cases h; refine ⟨M2, ?_, hl, rfl⟩; first | (rw [if_pos (by assumption)]; done) | (rw [if_neg (by assumption)]; done) | (simp only [*]; done))
  · unfold o_aload at h
    dsimp only at h
    repeat' split at h
    all_goals first | (cases h; done) | (cases h; exact ⟨hkp.rf, rfl⟩)
theorem mn_bin {f : Int32 → Int32 → Int32} {n : Nat} : mnk (o_bin f n) := by
  refine ⟨fun pc lv st M S' M2 h hl => ?_, fun pc lv st M S' h => ?_⟩
  · unfold o_bin at h ⊢
    dsimp only at h ⊢
    repeat' split at h
    all_goals first | (cases h; done) | (cases h; exact ⟨M2, rfl, hl, rfl⟩) | (cases h; refine ⟨M2, ?_, hl, rfl⟩; first | (rw [if_pos (by assumption)]; done) | (rw [if_neg (by assumption)]; done) | (simp only [*]; done))
  · unfold o_bin at h
    dsimp only at h
    repeat' split at h
    all_goals first | (cases h; done) | (cases h; exact ⟨hkp.rf, rfl⟩)
theorem mn_div {f : Int32 → Int32 → Int32} : mnk (o_div f) := by
  refine ⟨fun pc lv st M S' M2 h hl => ?_, fun pc lv st M S' h => ?_⟩
  · unfold o_div at h ⊢
    dsimp only at h ⊢
    repeat' split at h
    all_goals first | (cases h; done) | (cases h; exact ⟨M2, rfl, hl, rfl⟩) | (cases h; refine ⟨M2, ?_, hl, rfl⟩; first | (rw [if_pos (by assumption)]; done) | (rw [if_neg (by assumption)]; done) | (simp only [*]; done))
  · unfold o_div at h
    dsimp only at h
    repeat' split at h
    all_goals first | (cases h; done) | (cases h; exact ⟨hkp.rf, rfl⟩)
theorem mn_binL {f : Int64 → Int64 → Int64} : mnk (o_binL f) := by
  refine ⟨fun pc lv st M S' M2 h hl => ?_, fun pc lv st M S' h => ?_⟩
  · unfold o_binL at h ⊢
    dsimp only at h ⊢
    repeat' split at h
    all_goals first | (cases h; done) | (cases h; exact ⟨M2, rfl, hl, rfl⟩) | (cases h; refine ⟨M2, ?_, hl, rfl⟩; first | (rw [if_pos (by assumption)]; done) | (rw [if_neg (by assumption)]; done) | (simp only [*]; done))
  · unfold o_binL at h
    dsimp only at h
    repeat' split at h
    all_goals first | (cases h; done) | (cases h; exact ⟨hkp.rf, rfl⟩)
theorem mn_un {f : Int32 → Int32} : mnk (o_un f) := by
  refine ⟨fun pc lv st M S' M2 h hl => ?_, fun pc lv st M S' h => ?_⟩
  · unfold o_un at h ⊢
    dsimp only at h ⊢
    repeat' split at h
    all_goals first | (cases h; done) | (cases h; exact ⟨M2, rfl, hl, rfl⟩) | (cases h; refine ⟨M2, ?_, hl, rfl⟩; first | (rw [if_pos (by assumption)]; done) | (rw [if_neg (by assumption)]; done) | (simp only [*]; done))
  · unfold o_un at h
    dsimp only at h
    repeat' split at h
    all_goals first | (cases h; done) | (cases h; exact ⟨hkp.rf, rfl⟩)
theorem mn_lshl  : mnk (o_lshl ) := by
  refine ⟨fun pc lv st M S' M2 h hl => ?_, fun pc lv st M S' h => ?_⟩
  · unfold o_lshl at h ⊢
    dsimp only at h ⊢
    repeat' split at h
    all_goals first | (cases h; done) | (cases h; exact ⟨M2, rfl, hl, rfl⟩) | (cases h; refine ⟨M2, ?_, hl, rfl⟩; first | (rw [if_pos (by assumption)]; done) | (rw [if_neg (by assumption)]; done) | (simp only [*]; done))
  · unfold o_lshl at h
    dsimp only at h
    repeat' split at h
    all_goals first | (cases h; done) | (cases h; exact ⟨hkp.rf, rfl⟩)
theorem mn_lcmp  : mnk (o_lcmp ) := by
  refine ⟨fun pc lv st M S' M2 h hl => ?_, fun pc lv st M S' h => ?_⟩
  · unfold o_lcmp at h ⊢
    dsimp only at h ⊢
    repeat' split at h
    all_goals first | (cases h; done) | (cases h; exact ⟨M2, rfl, hl, rfl⟩) | (cases h; refine ⟨M2, ?_, hl, rfl⟩; first | (rw [if_pos (by assumption)]; done) | (rw [if_neg (by assumption)]; done) | (simp only [*]; done))
  · unfold o_lcmp at h
    dsimp only at h
    repeat' split at h
    all_goals first | (cases h; done) | (cases h; exact ⟨hkp.rf, rfl⟩)
theorem mn_i2l  : mnk (o_i2l ) := by
  refine ⟨fun pc lv st M S' M2 h hl => ?_, fun pc lv st M S' h => ?_⟩
  · unfold o_i2l at h ⊢
    dsimp only at h ⊢
    repeat' split at h
    all_goals first | (cases h; done) | (cases h; exact ⟨M2, rfl, hl, rfl⟩) | (cases h; refine ⟨M2, ?_, hl, rfl⟩; first | (rw [if_pos (by assumption)]; done) | (rw [if_neg (by assumption)]; done) | (simp only [*]; done))
  · unfold o_i2l at h
    dsimp only at h
    repeat' split at h
    all_goals first | (cases h; done) | (cases h; exact ⟨hkp.rf, rfl⟩)
theorem mn_l2i  : mnk (o_l2i ) := by
  refine ⟨fun pc lv st M S' M2 h hl => ?_, fun pc lv st M S' h => ?_⟩
  · unfold o_l2i at h ⊢
    dsimp only at h ⊢
    repeat' split at h
    all_goals first | (cases h; done) | (cases h; exact ⟨M2, rfl, hl, rfl⟩) | (cases h; refine ⟨M2, ?_, hl, rfl⟩; first | (rw [if_pos (by assumption)]; done) | (rw [if_neg (by assumption)]; done) | (simp only [*]; done))
  · unfold o_l2i at h
    dsimp only at h
    repeat' split at h
    all_goals first | (cases h; done) | (cases h; exact ⟨hkp.rf, rfl⟩)
theorem mn_dup  : mnk (o_dup ) := by
  refine ⟨fun pc lv st M S' M2 h hl => ?_, fun pc lv st M S' h => ?_⟩
  · unfold o_dup at h ⊢
    dsimp only at h ⊢
    repeat' split at h
    all_goals first | (cases h; done) | (cases h; exact ⟨M2, rfl, hl, rfl⟩) | (cases h; refine ⟨M2, ?_, hl, rfl⟩; first | (rw [if_pos (by assumption)]; done) | (rw [if_neg (by assumption)]; done) | (simp only [*]; done))
  · unfold o_dup at h
    dsimp only at h
    repeat' split at h
    all_goals first | (cases h; done) | (cases h; exact ⟨hkp.rf, rfl⟩)
theorem mn_pop  : mnk (o_pop ) := by
  refine ⟨fun pc lv st M S' M2 h hl => ?_, fun pc lv st M S' h => ?_⟩
  · unfold o_pop at h ⊢
    dsimp only at h ⊢
    repeat' split at h
    all_goals first | (cases h; done) | (cases h; exact ⟨M2, rfl, hl, rfl⟩) | (cases h; refine ⟨M2, ?_, hl, rfl⟩; first | (rw [if_pos (by assumption)]; done) | (rw [if_neg (by assumption)]; done) | (simp only [*]; done))
  · unfold o_pop at h
    dsimp only at h
    repeat' split at h
    all_goals first | (cases h; done) | (cases h; exact ⟨hkp.rf, rfl⟩)
theorem mn_dup_x1  : mnk (o_dup_x1 ) := by
  refine ⟨fun pc lv st M S' M2 h hl => ?_, fun pc lv st M S' h => ?_⟩
  · unfold o_dup_x1 at h ⊢
    dsimp only at h ⊢
    repeat' split at h
    all_goals first | (cases h; done) | (cases h; exact ⟨M2, rfl, hl, rfl⟩) | (cases h; refine ⟨M2, ?_, hl, rfl⟩; first | (rw [if_pos (by assumption)]; done) | (rw [if_neg (by assumption)]; done) | (simp only [*]; done))
  · unfold o_dup_x1 at h
    dsimp only at h
    repeat' split at h
    all_goals first | (cases h; done) | (cases h; exact ⟨hkp.rf, rfl⟩)
theorem mn_dup2  : mnk (o_dup2 ) := by
  refine ⟨fun pc lv st M S' M2 h hl => ?_, fun pc lv st M S' h => ?_⟩
  · unfold o_dup2 at h ⊢
    dsimp only at h ⊢
    repeat' split at h
    all_goals first | (cases h; done) | (cases h; exact ⟨M2, rfl, hl, rfl⟩) | (cases h; refine ⟨M2, ?_, hl, rfl⟩; first | (rw [if_pos (by assumption)]; done) | (rw [if_neg (by assumption)]; done) | (simp only [*]; done))
  · unfold o_dup2 at h
    dsimp only at h
    repeat' split at h
    all_goals first | (cases h; done) | (cases h; exact ⟨hkp.rf, rfl⟩)
theorem mn_if {f : Int32 → Bool} {t : Nat} : mnk (o_if f t) := by
  refine ⟨fun pc lv st M S' M2 h hl => ?_, fun pc lv st M S' h => ?_⟩
  · unfold o_if at h ⊢
    dsimp only at h ⊢
    repeat' split at h
    all_goals first | (cases h; done) | (cases h; exact ⟨M2, rfl, hl, rfl⟩) | (cases h; refine ⟨M2, ?_, hl, rfl⟩; first | (rw [if_pos (by assumption)]; done) | (rw [if_neg (by assumption)]; done) | (simp only [*]; done))
  · unfold o_if at h
    dsimp only at h
    repeat' split at h
    all_goals first | (cases h; done) | (cases h; exact ⟨hkp.rf, rfl⟩)
theorem mn_if2 {f : Int32 → Int32 → Bool} {t : Nat} : mnk (o_if2 f t) := by
  refine ⟨fun pc lv st M S' M2 h hl => ?_, fun pc lv st M S' h => ?_⟩
  · unfold o_if2 at h ⊢
    dsimp only at h ⊢
    repeat' split at h
    all_goals first | (cases h; done) | (cases h; exact ⟨M2, rfl, hl, rfl⟩) | (cases h; refine ⟨M2, ?_, hl, rfl⟩; first | (rw [if_pos (by assumption)]; done) | (rw [if_neg (by assumption)]; done) | (simp only [*]; done))
  · unfold o_if2 at h
    dsimp only at h
    repeat' split at h
    all_goals first | (cases h; done) | (cases h; exact ⟨hkp.rf, rfl⟩)
theorem mn_goto {t : Nat} : mnk (o_goto t) := by
  refine ⟨fun pc lv st M S' M2 h hl => ?_, fun pc lv st M S' h => ?_⟩
  · unfold o_goto at h ⊢
    dsimp only at h ⊢
    repeat' split at h
    all_goals first | (cases h; done) | (cases h; exact ⟨M2, rfl, hl, rfl⟩) | (cases h; refine ⟨M2, ?_, hl, rfl⟩; first | (rw [if_pos (by assumption)]; done) | (rw [if_neg (by assumption)]; done) | (simp only [*]; done))
  · unfold o_goto at h
    dsimp only at h
    repeat' split at h
    all_goals first | (cases h; done) | (cases h; exact ⟨hkp.rf, rfl⟩)
theorem mn_null {a b : Nat} : mnk (o_null a b) := by
  refine ⟨fun pc lv st M S' M2 h hl => ?_, fun pc lv st M S' h => ?_⟩
  · unfold o_null at h ⊢
    dsimp only at h ⊢
    repeat' split at h
    all_goals first | (cases h; done) | (cases h; exact ⟨M2, rfl, hl, rfl⟩) | (cases h; refine ⟨M2, ?_, hl, rfl⟩; first | (rw [if_pos (by assumption)]; done) | (rw [if_neg (by assumption)]; done) | (simp only [*]; done))
  · unfold o_null at h
    dsimp only at h
    repeat' split at h
    all_goals first | (cases h; done) | (cases h; exact ⟨hkp.rf, rfl⟩)
theorem mn_sw {ps : List (Int × Nat)} {dt : Nat} : mnk (o_sw ps dt) := by
  refine ⟨fun pc lv st M S' M2 h hl => ?_, fun pc lv st M S' h => ?_⟩
  · unfold o_sw at h ⊢
    dsimp only at h ⊢
    repeat' split at h
    all_goals first | (cases h; done) | (cases h; exact ⟨M2, rfl, hl, rfl⟩) | (cases h; refine ⟨M2, ?_, hl, rfl⟩; first | (rw [if_pos (by assumption)]; done) | (rw [if_neg (by assumption)]; done) | (simp only [*]; done))
  · unfold o_sw at h
    dsimp only at h
    repeat' split at h
    all_goals first | (cases h; done) | (cases h; exact ⟨hkp.rf, rfl⟩)
theorem mn_isto {i n : Nat} : mnk (o_isto i n) := by
  refine ⟨fun pc lv st M S' M2 h hl => ?_, fun pc lv st M S' h => ?_⟩
  · unfold o_isto at h ⊢
    dsimp only at h ⊢
    repeat' split at h
    all_goals first | (cases h; done) | (cases h; exact ⟨M2, rfl, hl, rfl⟩) | (cases h; refine ⟨M2, ?_, hl, rfl⟩; first | (rw [if_pos (by assumption)]; done) | (rw [if_neg (by assumption)]; done) | (simp only [*]; done))
  · unfold o_isto at h
    dsimp only at h
    repeat' split at h
    all_goals first | (cases h; done) | (cases h; exact ⟨hkp.rf, rfl⟩)
theorem mn_lsto {i n : Nat} : mnk (o_lsto i n) := by
  refine ⟨fun pc lv st M S' M2 h hl => ?_, fun pc lv st M S' h => ?_⟩
  · unfold o_lsto at h ⊢
    dsimp only at h ⊢
    repeat' split at h
    all_goals first | (cases h; done) | (cases h; exact ⟨M2, rfl, hl, rfl⟩) | (cases h; refine ⟨M2, ?_, hl, rfl⟩; first | (rw [if_pos (by assumption)]; done) | (rw [if_neg (by assumption)]; done) | (simp only [*]; done))
  · unfold o_lsto at h
    dsimp only at h
    repeat' split at h
    all_goals first | (cases h; done) | (cases h; exact ⟨hkp.rf, rfl⟩)
theorem mn_asto {i n : Nat} : mnk (o_asto i n) := by
  refine ⟨fun pc lv st M S' M2 h hl => ?_, fun pc lv st M S' h => ?_⟩
  · unfold o_asto at h ⊢
    dsimp only at h ⊢
    repeat' split at h
    all_goals first | (cases h; done) | (cases h; exact ⟨M2, rfl, hl, rfl⟩) | (cases h; refine ⟨M2, ?_, hl, rfl⟩; first | (rw [if_pos (by assumption)]; done) | (rw [if_neg (by assumption)]; done) | (simp only [*]; done))
  · unfold o_asto at h
    dsimp only at h
    repeat' split at h
    all_goals first | (cases h; done) | (cases h; exact ⟨hkp.rf, rfl⟩)
theorem mn_iinc {i : Nat} {n : Int32} : mnk (o_iinc i n) := by
  refine ⟨fun pc lv st M S' M2 h hl => ?_, fun pc lv st M S' h => ?_⟩
  · unfold o_iinc at h ⊢
    dsimp only at h ⊢
    repeat' split at h
    all_goals first | (cases h; done) | (cases h; exact ⟨M2, rfl, hl, rfl⟩) | (cases h; refine ⟨M2, ?_, hl, rfl⟩; first | (rw [if_pos (by assumption)]; done) | (rw [if_neg (by assumption)]; done) | (simp only [*]; done))
  · unfold o_iinc at h
    dsimp only at h
    repeat' split at h
    all_goals first | (cases h; done) | (cases h; exact ⟨hkp.rf, rfl⟩)
theorem mn_mm {f : Int32 → Int32 → Int32} : mnk (o_mm f) := by
  refine ⟨fun pc lv st M S' M2 h hl => ?_, fun pc lv st M S' h => ?_⟩
  · unfold o_mm at h ⊢
    dsimp only at h ⊢
    repeat' split at h
    all_goals first | (cases h; done) | (cases h; exact ⟨M2, rfl, hl, rfl⟩) | (cases h; refine ⟨M2, ?_, hl, rfl⟩; first | (rw [if_pos (by assumption)]; done) | (rw [if_neg (by assumption)]; done) | (simp only [*]; done))
  · unfold o_mm at h
    dsimp only at h
    repeat' split at h
    all_goals first | (cases h; done) | (cases h; exact ⟨hkp.rf, rfl⟩)
variable {M M2 : mi_H}
theorem gf_le {a ci k : Nat} {v : Value} (h : mi_gf M a ci k = some v) (hl : hle M M2) : mi_gf M2 a ci k = some v := by
  unfold mi_gf at h ⊢
  split at h
  · rename_i o hM
    obtain ⟨c', h1, h2⟩ := hl a _ hM
    rw [h1]
    cases c' with
    | inl b => exact h2.elim
    | inr b =>
      obtain ⟨e, h3⟩ := h2
      split at h
      · rename_i ho
        show (if b.1 = ci then b.2 k else none) = some v
        rw [if_pos (e.symm.trans ho)]
        exact h3 k v h
      · cases h
  · cases h
theorem ga_le {a : Nat} {ty : FieldType} {r : Nat × (Nat → Option Value)} (h : mi_ga M a ty = some r) (hl : hle M M2) : ∃ f', mi_ga M2 a ty = some (r.1, f') ∧ ∀ i v, r.2 i = some v → f' i = some v := by
  unfold mi_ga at h ⊢
  split at h
  · rename_i o hM
    obtain ⟨c', h1, h2⟩ := hl a _ hM
    rw [h1]
    cases c' with
    | inr b => exact h2.elim
    | inl b =>
      obtain ⟨e1, e2, h3⟩ := h2
      split at h
      · rename_i ho
        cases h
        refine ⟨b.2.2, ?_, h3⟩
        show (if b.1 = ty then some b.2 else none) = _
        rw [if_pos (e1.symm.trans ho), e2]
      · cases h
  · cases h
theorem ga_cell {a : Nat} {ty : FieldType} {r : Nat × (Nat → Option Value)} (h : mi_ga M a ty = some r) : M.1 a = some (.inl (ty, r)) := by
  unfold mi_ga at h
  split at h
  · rename_i o hM
    split at h
    · rename_i ho
      cases h
      rw [hM, ← ho]
    · cases h
  · cases h
theorem hle.up {a : Nat} {c c' : mi_C} (hl : hle M M2) (hc : cle c c') : hle (va_up M.1 a (some c), M.2) (va_up M2.1 a (some c'), M2.2) := by
  intro b d hd
  by_cases e : b = a
  · subst e
    have : some c = some d := by simpa [va_up] using hd
    cases this
    exact ⟨c', by simp [va_up], hc⟩
  · have : M.1 b = some d := by simpa [va_up, e] using hd
    obtain ⟨d', h1, h2⟩ := hl b d this
    exact ⟨d', by simpa [va_up, e] using h1, h2⟩
theorem va_le {f f' : Nat → Option Value} {k : Nat} {v : Value} (h : ∀ i w, f i = some w → f' i = some w) : ∀ i w, va_up f k (some v) i = some w → va_up f' k (some v) i = some w := by
  intro i w hw
  by_cases e : i = k
  · subst e
    simpa [va_up] using hw
  · simp only [va_up, if_neg e] at hw ⊢
    exact h i w hw
theorem mn_get {ci k : Nat} : mnk (o_get ci k) := by
  refine ⟨fun pc lv st M S' M2 h hl => ?_, fun pc lv st M S' h => ?_⟩
  · unfold o_get at h ⊢
    dsimp only at h ⊢
    split at h
    · split at h
      · rename_i v hv
        cases h
        refine ⟨M2, ?_, hl, rfl⟩
        simp only [gf_le hv hl]
      · cases h
    · cases h
  · unfold o_get at h
    dsimp only at h
    split at h
    · split at h
      · cases h
        exact ⟨hkp.rf, rfl⟩
      · cases h
    · cases h
theorem mn_ald {ty : FieldType} : mnk (o_ald ty) := by
  refine ⟨fun pc lv st M S' M2 h hl => ?_, fun pc lv st M S' h => ?_⟩
  · unfold o_ald at h ⊢
    dsimp only at h ⊢
    split at h
    · split at h
      · rename_i r hr
        obtain ⟨f', h1, h2⟩ := ga_le hr hl
        split at h
        · cases h
        · rename_i hin
          split at h
          · rename_i v hv
            cases h
            refine ⟨M2, ?_, hl, rfl⟩
            simp only [h1]
            rw [if_neg hin]
            simp only [h2 _ _ hv]
          · cases h
      · cases h
    · cases h
  · unfold o_ald at h
    dsimp only at h
    repeat' split at h
    all_goals first | (cases h; done) | (cases h; exact ⟨hkp.rf, rfl⟩)
theorem mn_alen {ty : FieldType} : mnk (o_alen ty) := by
  refine ⟨fun pc lv st M S' M2 h hl => ?_, fun pc lv st M S' h => ?_⟩
  · unfold o_alen at h ⊢
    dsimp only at h ⊢
    split at h
    · split at h
      · rename_i r hr
        obtain ⟨f', h1, h2⟩ := ga_le hr hl
        cases h
        refine ⟨M2, ?_, hl, rfl⟩
        simp only [h1]
      · cases h
    · cases h
  · unfold o_alen at h
    dsimp only at h
    repeat' split at h
    all_goals first | (cases h; done) | (cases h; exact ⟨hkp.rf, rfl⟩)
theorem mn_ast {ty : FieldType} {nar : Int32 → Int32} : mnk (o_ast ty nar) := by
  refine ⟨fun pc lv st M S' M2 h hl => ?_, fun pc lv st M S' h => ?_⟩
  · unfold o_ast at h ⊢
    dsimp only at h ⊢
    split at h
    · rename_i x i a st
      split at h
      · rename_i r hr
        obtain ⟨f', h1, h2⟩ := ga_le hr hl
        split at h
        · cases h
        · rename_i hin
          cases h
          refine ⟨(va_up M2.1 a (some (.inl (ty, r.1, va_up f' i.toNatClampNeg (some (.int (nar x)))))), M2.2), ?_, hl.up ⟨rfl, rfl, va_le h2⟩, rfl⟩
          simp only [h1]
          rw [if_neg hin]
      · cases h
    · cases h
  · unfold o_ast at h
    dsimp only at h
    split at h
    · rename_i x i a st
      split at h
      · rename_i r hr
        split at h
        · cases h
        · cases h
          refine ⟨fun b ci f k v h1 h2 => ⟨f, v, ?_, h2⟩, rfl⟩
          have hne : b ≠ a := by
            intro e
            rw [e, ga_cell hr] at h1
            cases h1
          simpa [va_up, hne] using h1
      · cases h
    · cases h
theorem mn_put {ci k : Nat} {ty : FieldType} : mnk (o_put ci k ty) := by
  refine ⟨fun pc lv st M S' M2 h hl => ?_, fun pc lv st M S' h => ?_⟩
  · unfold o_put at h ⊢
    dsimp only at h ⊢
    split at h
    · rename_i v a st
      split at h
      · rename_i o hM
        obtain ⟨c', h1, h2⟩ := hl a _ hM
        cases c' with
        | inl b => exact h2.elim
        | inr b =>
          obtain ⟨e, h3⟩ := h2
          split at h
          · rename_i hc
            cases h
            refine ⟨(va_up M2.1 a (some (.inr (ci, va_up b.2 k (some v)))), M2.2), ?_, hl.up ⟨rfl, va_le h3⟩, rfl⟩
            simp only [h1]
            rw [if_pos ⟨e.symm.trans hc.1, hc.2⟩]
          · cases h
      · cases h
    · cases h
  · unfold o_put at h
    dsimp only at h
    split at h
    · rename_i v a st
      split at h
      · rename_i o hM
        split at h
        · rename_i hc
          cases h
          refine ⟨fun b c1 f j w h1 h2 => ?_, rfl⟩
          by_cases e : b = a
          · subst e
            rw [hM] at h1
            cases h1
            refine ⟨va_up f k (some v), if j = k then v else w, by simp [va_up, ← hc.1], ?_⟩
            by_cases e2 : j = k
            · simp [va_up, e2]
            · simp [va_up, e2, h2]
          · exact ⟨f, w, by simpa [va_up, e] using h1, h2⟩
        · cases h
      · cases h
    · cases h
theorem mn_slength : mnk o_slength := by
  refine ⟨fun pc lv st M S' M2 h hl => ?_, fun pc lv st M S' h => ?_⟩
  · unfold o_slength at h ⊢
    dsimp only at h ⊢
    split at h
    · split at h
      · rename_i o hM
        obtain ⟨c', h1, h2⟩ := hl _ _ hM
        cases c' with
        | inl b => exact h2.elim
        | inr b =>
          obtain ⟨e, h3⟩ := h2
          split at h
          · rename_i hc
            cases h
            refine ⟨M2, ?_, hl, rfl⟩
            simp only [h1, ← e]
            rw [if_pos hc]
          · cases h
      · cases h
    · cases h
  · unfold o_slength at h
    dsimp only at h
    repeat' split at h
    all_goals first | (cases h; done) | (cases h; exact ⟨hkp.rf, rfl⟩)
theorem mn_scharAt : mnk o_scharAt := by
  refine ⟨fun pc lv st M S' M2 h hl => ?_, fun pc lv st M S' h => ?_⟩
  · unfold o_scharAt at h ⊢
    dsimp only at h ⊢
    split at h
    · split at h
      · rename_i o hM
        obtain ⟨c', h1, h2⟩ := hl _ _ hM
        cases c' with
        | inl b => exact h2.elim
        | inr b =>
          obtain ⟨e, h3⟩ := h2
          split at h
          · rename_i hc
            cases h
            refine ⟨M2, ?_, hl, rfl⟩
            simp only [h1, ← e]
            rw [if_pos hc]
          · cases h
      · cases h
    · cases h
  · unfold o_scharAt at h
    dsimp only at h
    repeat' split at h
    all_goals first | (cases h; done) | (cases h; exact ⟨hkp.rf, rfl⟩)
def mnP (L : List Nat) (_ : Nat) (e : mi_N) : Prop := match e with
  | .inl o => mnk o
  | .inr (.inl c) => L.elem c.1 = true
  | .inr (.inr _) => True
def mnT (T : Nat → Option (Nat × mi_B)) (L : List Nat) : Prop := ∀ y b, y ∈ L → T y = some b → mt_all (mnP L) b.2.1
theorem okc_le {k : Option Nat} {na pc : Nat} {lv : List (Nat × Value)} {st : List Value} (h : mi_okc k na (pc, lv, st, M) = true) (hl : hle M M2) : mi_okc k na (pc, lv, st, M2) = true := by
  unfold mi_okc at h ⊢
  simp only [Bool.and_eq_true] at h ⊢
  refine ⟨h.1, ?_⟩
  have h2 := h.2
  cases k with
  | none => rfl
  | some ci =>
    dsimp only at h2 ⊢
    split at h2
    · rename_i b _ hst
      split at h2
      · rename_i c f hM
        obtain ⟨c', h3, h4⟩ := hl b _ hM
        simp only [h3]
        cases c' with
        | inl x => exact h4.elim
        | inr x =>
          obtain ⟨e, -⟩ := h4
          dsimp only at e ⊢
          rw [← e]
          exact h2
      · cases h2
    · cases h2
theorem nk_le {kl : Nat → Option (List Nat)} {S : mi_S} {M2 : mi_H} : mi_nk kl (S.1, S.2.1, S.2.2.1, M2) = ((mi_nk kl S).1, (mi_nk kl S).2.1, (mi_nk kl S).2.2.1, M2) := by
  unfold mi_nk
  dsimp only
  split <;> rfl
theorem nk_h {kl : Nat → Option (List Nat)} {S : mi_S} : (mi_nk kl S).2.2.2 = S.2.2.2 := by
  unfold mi_nk
  split <;> rfl
theorem loop_mn {L : List Nat} {tb : mi_B} {call : Nat → List Value → mi_H → Option mi_R} (ht : mt_all (mnP L) tb.1)
    (hc : ∀ y a M r, y ∈ L → call y a M = some r → (hkp M r.2 ∧ r.2.2 = M.2) ∧ ∀ M2, hle M M2 → ∃ M2', call y a M2 = some (r.1, M2') ∧ hle r.2 M2' ∧ M2'.2 = M2.2) :
    ∀ (n : Nat) (S : mi_S) (r : mi_R), mi_loop tb call n S = some r → (hkp S.2.2.2 r.2 ∧ r.2.2 = S.2.2.2.2) ∧ ∀ M2, hle S.2.2.2 M2 → ∃ M2', mi_loop tb call n (S.1, S.2.1, S.2.2.1, M2) = some (r.1, M2') ∧ hle r.2 M2' ∧ M2'.2 = M2.2 := by
  intro n
  induction n with
  | zero => intro S r h; cases h
  | succ n ih =>
    intro S r h
    rw [mi_loop] at h
    split at h
    · rename_i o ho
      split at h
      · rename_i S1 hS1
        have hm : mnk o := ht S.1 _ ho
        obtain ⟨k1, k2⟩ := ih _ r h
        rw [nk_h] at k1 k2
        obtain ⟨a1, a2⟩ := hm.2 S.1 S.2.1 S.2.2.1 S.2.2.2 S1 hS1
        refine ⟨⟨a1.tr k1.1, k1.2.trans a2⟩, fun M2 hl => ?_⟩
        obtain ⟨M3, b1, b2, b3⟩ := hm.1 S.1 S.2.1 S.2.2.1 S.2.2.2 S1 M2 hS1 hl
        obtain ⟨M4, c1, c2, c3⟩ := k2 M3 b2
        refine ⟨M4, ?_, c2, c3.trans b3⟩
        rw [mi_loop]
        simp only [ho, b1]
        rw [nk_le]
        exact c1
      · cases h
    · rename_i c ho
      split at h
      · rename_i hok
        split at h
        · rename_i r1 hr1
          have hL : L.elem c.1 = true := ht S.1 _ ho
          have hL2 : c.1 ∈ L := List.elem_iff.mp hL
          obtain ⟨d1, d2⟩ := hc _ _ _ _ hL2 hr1
          obtain ⟨k1, k2⟩ := ih _ r h
          rw [nk_h] at k1 k2
          refine ⟨⟨d1.1.tr k1.1, k1.2.trans d1.2⟩, fun M2 hl => ?_⟩
          obtain ⟨M3, b1, b2, b3⟩ := d2 M2 hl
          obtain ⟨M4, c1, c2, c3⟩ := k2 M3 b2
          refine ⟨M4, ?_, c2, c3.trans b3⟩
          rw [mi_loop]
          simp only [ho, okc_le hok hl, b1]
          have e := nk_le (kl := tb.2) (S := (S.1 + 3, S.2.1, r1.1.toList ++ S.2.2.1.drop c.2.1, r1.2)) (M2 := M3)
          dsimp only at e
          rw [e]
          exact c1
        · cases h
      · cases h
    · rename_i f ho
      obtain ⟨v, hv, e⟩ := Option.map_eq_some_iff.mp h
      subst e
      refine ⟨⟨hkp.rf, rfl⟩, fun M2 hl => ⟨M2, ?_, hl, rfl⟩⟩
      rw [mi_loop]
      simp only [ho, hv, Option.map_some]
    · cases h
theorem run_mn {L : List Nat} {T : Nat → Option (Nat × mi_B)} (hT : mnT T L) {n : Nat} : ∀ (d y : Nat) (a : List Value) (M : mi_H) (r : mi_R), y ∈ L → mi_run T n d y a M = some r → (hkp M r.2 ∧ r.2.2 = M.2) ∧ ∀ M2, hle M M2 → ∃ M2', mi_run T n d y a M2 = some (r.1, M2') ∧ hle r.2 M2' ∧ M2'.2 = M2.2 := by
  intro d
  induction d with
  | zero => intro y a M r _ h; cases h
  | succ d ih =>
    intro y a M r hy h
    rw [mi_run] at h
    split at h
    · cases h
    · rename_i b hb
      split at h
      · rename_i hd
        obtain ⟨k1, k2⟩ := loop_mn (hT y b hy hb) (fun y a M r => ih y a M r) n _ r h
        refine ⟨k1, fun M2 hl => ?_⟩
        obtain ⟨M3, c1, c2, c3⟩ := k2 M2 hl
        refine ⟨M3, ?_, c2, c3⟩
        rw [mi_run]
        simp only [hb, hd]
        exact c1
      · cases h
/-- a run that ends from less knowledge and one from more: the answers agree -/
theorem mt.more {L : List Nat} {T : Nat → Option (Nat × mi_B)} (hT : mnT T L) {d d' y : Nat} {a : List Value} {Q Q' : Option Value → mi_H → Prop} (hy : y ∈ L) (h : mt T d y a M Q) (h' : mt T d' y a M2 Q') (hl : hle M M2) : mt T d' y a M2 (fun v M' => Q' v M' ∧ hkp M2 M' ∧ ∃ M0, Q v M0 ∧ hle M0 M') := by
  obtain ⟨r, ⟨n0, h1⟩, h2⟩ := h.deeper d'
  obtain ⟨r', ⟨n1, h3⟩, h4⟩ := h'
  obtain ⟨r9, ⟨n2, h5⟩, h6⟩ := (show mt T d' y a M2 (fun v M' => v = r'.1 ∧ M' = r'.2) from ⟨r', ⟨n1, h3⟩, rfl, rfl⟩).deeper d
  obtain ⟨a1, a2⟩ := run_mn hT (d + d') y a M r hy (h1 (max (max n0 n1) n2) (by omega))
  obtain ⟨M3, b1, b2, b3⟩ := a2 M2 hl
  have e := h5 (max (max n0 n1) n2) (by omega)
  rw [Nat.add_comm d' d] at e
  have e2 : r9 = (r.1, M3) := Option.some.inj (e.symm.trans b1)
  have e3 : r' = (r.1, M3) := by
    obtain ⟨h7, h8⟩ := h6
    rw [e2] at h7 h8
    exact Prod.ext h7.symm h8.symm
  have e4 := h3 (max (max n0 n1) n2) (by omega)
  have k := (run_mn hT d' y a M2 r' hy e4).1.1
  refine ⟨r', ⟨n1, h3⟩, h4, k, r.2, ?_, ?_⟩
  · rw [e3]
    exact h2
  · rw [e3]
    exact b2
end MIZ
end
section
def mS : List Nat := [175, 176, 177, 178, 185, 187, 188, 189, 190, 191, 192, 193, 194, 195, 196, 197, 203, 206, 209, 212, 213, 214, 216, 217, 218, 219, 221, 224, 226, 230, 233, 235, 237, 238, 242, 244, 245, 246, 247, 249, 250, 251, 252, 253, 257]
theorem mz_175_0 {g : xe_G} : mt_all (mnP mS) (mb_175_0 g) := mt_node_ok (mt_node_ok (mt_node_ok (mt_node_ok (mt_leaf_ok (mn_push)) (mt_node_ok (mt_leaf_ok (mn_isto)) (mt_leaf_ok (mn_iload)))) (mt_node_ok (mt_leaf_ok (mn_aload)) (mt_node_ok (mt_leaf_ok (mn_iload)) (mt_leaf_ok (rfl))))) (mt_node_ok (mt_node_ok (mt_leaf_ok (mn_if2)) (mt_node_ok (mt_leaf_ok (mn_aload)) (mt_leaf_ok (mn_iload)))) (mt_node_ok (mt_leaf_ok (mn_iload)) (mt_node_ok (mt_leaf_ok (rfl)) (mt_leaf_ok (mn_push)))))) (mt_node_ok (mt_node_ok (mt_node_ok (mt_leaf_ok (mn_if2)) (mt_node_ok (mt_leaf_ok (mn_aload)) (mt_leaf_ok (mn_iload)))) (mt_node_ok (mt_leaf_ok (mn_iload)) (mt_node_ok (mt_leaf_ok (rfl)) (mt_leaf_ok (mn_push))))) (mt_node_ok (mt_node_ok (mt_leaf_ok (mn_if2)) (mt_node_ok (mt_leaf_ok (mn_push)) (mt_leaf_ok (trivial)))) (mt_node_ok (mt_node_ok (mt_leaf_ok (mn_iinc)) (mt_leaf_ok (mn_goto))) (mt_node_ok (mt_leaf_ok (mn_push)) (mt_leaf_ok (trivial))))))
theorem mz_175 {g : xe_G} : mt_all (mnP mS) (mb_175 g).2.1 := (mz_175_0 (g := g))
theorem mz_176_0 {g : xe_G} : mt_all (mnP mS) (mb_176_0 g) := mt_node_ok (mt_node_ok (mt_node_ok (mt_leaf_ok (mn_aload)) (mt_leaf_ok (mn_get))) (mt_node_ok (mt_leaf_ok (mn_aload)) (mt_node_ok (mt_leaf_ok (mn_get)) (mt_leaf_ok (mn_iload))))) (mt_node_ok (mt_node_ok (mt_leaf_ok (mn_ald)) (mt_leaf_ok (mn_iload))) (mt_node_ok (mt_leaf_ok (mn_bin)) (mt_node_ok (mt_leaf_ok (mn_ald)) (mt_leaf_ok (trivial)))))
theorem mz_176 {g : xe_G} : mt_all (mnP mS) (mb_176 g).2.1 := (mz_176_0 (g := g))
theorem mz_177_0 {g : xe_G} : mt_all (mnP mS) (mb_177_0 g) := mt_node_ok (mt_node_ok (mt_node_ok (mt_node_ok (mt_node_ok (mt_leaf_ok (mn_iload)) (mt_node_ok (mt_leaf_ok (mn_sw)) (mt_leaf_ok (mn_iload)))) (mt_node_ok (mt_leaf_ok (mn_iload)) (mt_node_ok (mt_leaf_ok (mn_bin)) (mt_leaf_ok (mn_push))))) (mt_node_ok (mt_node_ok (mt_leaf_ok (mn_if2)) (mt_node_ok (mt_leaf_ok (mn_push)) (mt_leaf_ok (trivial)))) (mt_node_ok (mt_leaf_ok (mn_aload)) (mt_node_ok (mt_leaf_ok (mn_get)) (mt_leaf_ok (mn_iload)))))) (mt_node_ok (mt_node_ok (mt_node_ok (mt_leaf_ok (mn_ald)) (mt_node_ok (mt_leaf_ok (mn_push)) (mt_leaf_ok (mn_bin)))) (mt_node_ok (mt_leaf_ok (mn_if)) (mt_node_ok (mt_leaf_ok (mn_push)) (mt_leaf_ok (trivial))))) (mt_node_ok (mt_node_ok (mt_leaf_ok (mn_aload)) (mt_node_ok (mt_leaf_ok (mn_aload)) (mt_leaf_ok (mn_get)))) (mt_node_ok (mt_leaf_ok (mn_iload)) (mt_node_ok (mt_leaf_ok (mn_ald)) (mt_leaf_ok (mn_push))))))) (mt_node_ok (mt_node_ok (mt_node_ok (mt_node_ok (mt_leaf_ok (rfl)) (mt_node_ok (mt_leaf_ok (mn_isto)) (mt_leaf_ok (mn_iload)))) (mt_node_ok (mt_leaf_ok (mn_push)) (mt_node_ok (mt_leaf_ok (mn_if2)) (mt_leaf_ok (mn_push))))) (mt_node_ok (mt_node_ok (mt_leaf_ok (mn_goto)) (mt_node_ok (mt_leaf_ok (mn_iload)) (mt_leaf_ok (mn_push)))) (mt_node_ok (mt_leaf_ok (mn_if2)) (mt_node_ok (mt_leaf_ok (mn_push)) (mt_leaf_ok (mn_goto)))))) (mt_node_ok (mt_node_ok (mt_node_ok (mt_leaf_ok (mn_iload)) (mt_node_ok (mt_leaf_ok (mn_push)) (mt_leaf_ok (mn_if2)))) (mt_node_ok (mt_leaf_ok (mn_push)) (mt_node_ok (mt_leaf_ok (mn_goto)) (mt_leaf_ok (mn_iload))))) (mt_node_ok (mt_node_ok (mt_leaf_ok (mn_push)) (mt_node_ok (mt_leaf_ok (mn_if2)) (mt_leaf_ok (mn_aload)))) (mt_node_ok (mt_leaf_ok (mn_aload)) (mt_node_ok (mt_leaf_ok (mn_get)) (mt_leaf_ok (mn_iload)))))))
theorem mz_177_1 {g : xe_G} : mt_all (mnP mS) (mb_177_1 g) := mt_node_ok (mt_node_ok (mt_node_ok (mt_node_ok (mt_node_ok (mt_leaf_ok (mn_ald)) (mt_node_ok (mt_leaf_ok (mn_push)) (mt_leaf_ok (rfl)))) (mt_node_ok (mt_leaf_ok (mn_if)) (mt_node_ok (mt_leaf_ok (mn_push)) (mt_leaf_ok (mn_goto))))) (mt_node_ok (mt_node_ok (mt_leaf_ok (mn_push)) (mt_node_ok (mt_leaf_ok (mn_goto)) (mt_leaf_ok (mn_iload)))) (mt_node_ok (mt_leaf_ok (mn_push)) (mt_node_ok (mt_leaf_ok (mn_if2)) (mt_leaf_ok (mn_push)))))) (mt_node_ok (mt_node_ok (mt_node_ok (mt_leaf_ok (mn_goto)) (mt_node_ok (mt_leaf_ok (mn_push)) (mt_leaf_ok (mn_isto)))) (mt_node_ok (mt_leaf_ok (mn_aload)) (mt_node_ok (mt_leaf_ok (mn_aload)) (mt_leaf_ok (mn_iload))))) (mt_node_ok (mt_node_ok (mt_leaf_ok (rfl)) (mt_node_ok (mt_leaf_ok (rfl)) (mt_leaf_ok (mn_iload)))) (mt_node_ok (mt_leaf_ok (mn_if2)) (mt_node_ok (mt_leaf_ok (mn_push)) (mt_leaf_ok (trivial))))))) (mt_node_ok (mt_node_ok (mt_node_ok (mt_node_ok (mt_leaf_ok (mn_aload)) (mt_node_ok (mt_leaf_ok (mn_get)) (mt_leaf_ok (mn_iload)))) (mt_node_ok (mt_leaf_ok (mn_aload)) (mt_node_ok (mt_leaf_ok (mn_iload)) (mt_leaf_ok (rfl))))) (mt_node_ok (mt_node_ok (mt_leaf_ok (mn_ast)) (mt_node_ok (mt_leaf_ok (mn_push)) (mt_leaf_ok (trivial)))) (mt_node_ok (mt_leaf_ok (mn_aload)) (mt_node_ok (mt_leaf_ok (mn_iload)) (mt_leaf_ok (mn_iload)))))) (mt_node_ok (mt_node_ok (mt_node_ok (mt_leaf_ok (mn_iload)) (mt_node_ok (mt_leaf_ok (mn_iload)) (mt_leaf_ok (rfl)))) (mt_node_ok (mt_leaf_ok (trivial)) (mt_node_ok (mt_leaf_ok (mn_iload)) (mt_leaf_ok (mn_iload))))) (mt_node_ok (mt_node_ok (mt_leaf_ok (mn_bin)) (mt_node_ok (mt_leaf_ok (mn_push)) (mt_leaf_ok (mn_if2)))) (mt_node_ok (mt_leaf_ok (mn_iload)) (mt_node_ok (mt_leaf_ok (mn_iload)) (mt_leaf_ok (mn_bin)))))))
theorem mz_177_2 {g : xe_G} : mt_all (mnP mS) (mb_177_2 g) := mt_node_ok (mt_node_ok (mt_node_ok (mt_node_ok (mt_node_ok (mt_leaf_ok (mn_push)) (mt_node_ok (mt_leaf_ok (mn_push)) (mt_leaf_ok (mn_aload)))) (mt_node_ok (mt_leaf_ok (mn_iload)) (mt_node_ok (mt_leaf_ok (rfl)) (mt_leaf_ok (mn_bin))))) (mt_node_ok (mt_node_ok (mt_leaf_ok (mn_bin)) (mt_node_ok (mt_leaf_ok (mn_if2)) (mt_leaf_ok (mn_push)))) (mt_node_ok (mt_leaf_ok (trivial)) (mt_node_ok (mt_leaf_ok (mn_iload)) (mt_leaf_ok (mn_push)))))) (mt_node_ok (mt_node_ok (mt_node_ok (mt_leaf_ok (mn_if2)) (mt_node_ok (mt_leaf_ok (mn_aload)) (mt_leaf_ok (mn_get)))) (mt_node_ok (mt_leaf_ok (mn_push)) (mt_node_ok (mt_leaf_ok (mn_bin)) (mt_leaf_ok (mn_if))))) (mt_node_ok (mt_node_ok (mt_leaf_ok (mn_push)) (mt_node_ok (mt_leaf_ok (trivial)) (mt_leaf_ok (mn_push)))) (mt_node_ok (mt_leaf_ok (mn_isto)) (mt_node_ok (mt_leaf_ok (mn_iload)) (mt_leaf_ok (mn_aload))))))) (mt_node_ok (mt_node_ok (mt_node_ok (mt_node_ok (mt_leaf_ok (mn_iload)) (mt_node_ok (mt_leaf_ok (rfl)) (mt_leaf_ok (mn_if2)))) (mt_node_ok (mt_leaf_ok (mn_aload)) (mt_node_ok (mt_leaf_ok (mn_aload)) (mt_leaf_ok (mn_iload))))) (mt_node_ok (mt_node_ok (mt_leaf_ok (mn_push)) (mt_node_ok (mt_leaf_ok (mn_bin)) (mt_leaf_ok (mn_push)))) (mt_node_ok (mt_leaf_ok (mn_iload)) (mt_node_ok (mt_leaf_ok (mn_bin)) (mt_leaf_ok (mn_bin)))))) (mt_node_ok (mt_node_ok (mt_node_ok (mt_leaf_ok (rfl)) (mt_node_ok (mt_leaf_ok (rfl)) (mt_leaf_ok (mn_push)))) (mt_node_ok (mt_leaf_ok (mn_if2)) (mt_node_ok (mt_leaf_ok (mn_iload)) (mt_leaf_ok (mn_push))))) (mt_node_ok (mt_node_ok (mt_leaf_ok (mn_if2)) (mt_node_ok (mt_leaf_ok (mn_push)) (mt_leaf_ok (mn_goto)))) (mt_node_ok (mt_leaf_ok (mn_iload)) (mt_node_ok (mt_leaf_ok (mn_push)) (mt_leaf_ok (mn_if2)))))))
theorem mz_177_3 {g : xe_G} : mt_all (mnP mS) (mb_177_3 g) := mt_node_ok (mt_node_ok (mt_node_ok (mt_node_ok (mt_node_ok (mt_leaf_ok (mn_push)) (mt_node_ok (mt_leaf_ok (mn_goto)) (mt_leaf_ok (mn_push)))) (mt_node_ok (mt_leaf_ok (trivial)) (mt_node_ok (mt_leaf_ok (mn_iinc)) (mt_leaf_ok (mn_goto))))) (mt_node_ok (mt_node_ok (mt_leaf_ok (mn_iload)) (mt_node_ok (mt_leaf_ok (mn_push)) (mt_leaf_ok (mn_if2)))) (mt_node_ok (mt_leaf_ok (mn_iload)) (mt_node_ok (mt_leaf_ok (mn_push)) (mt_leaf_ok (mn_bin)))))) (mt_node_ok (mt_node_ok (mt_node_ok (mt_leaf_ok (mn_push)) (mt_node_ok (mt_leaf_ok (mn_bin)) (mt_leaf_ok (mn_push)))) (mt_node_ok (mt_leaf_ok (mn_if2)) (mt_node_ok (mt_leaf_ok (mn_push)) (mt_leaf_ok (trivial))))) (mt_node_ok (mt_node_ok (mt_leaf_ok (mn_iload)) (mt_node_ok (mt_leaf_ok (mn_push)) (mt_leaf_ok (mn_if2)))) (mt_node_ok (mt_leaf_ok (mn_aload)) (mt_node_ok (mt_leaf_ok (mn_get)) (mt_leaf_ok (mn_iload))))))) (mt_node_ok (mt_node_ok (mt_node_ok (mt_node_ok (mt_leaf_ok (mn_aload)) (mt_node_ok (mt_leaf_ok (mn_iload)) (mt_leaf_ok (rfl)))) (mt_node_ok (mt_leaf_ok (mn_ast)) (mt_node_ok (mt_leaf_ok (mn_iload)) (mt_leaf_ok (mn_push))))) (mt_node_ok (mt_node_ok (mt_leaf_ok (mn_if2)) (mt_node_ok (mt_leaf_ok (mn_aload)) (mt_leaf_ok (mn_aload)))) (mt_node_ok (mt_leaf_ok (mn_iload)) (mt_node_ok (mt_leaf_ok (rfl)) (mt_leaf_ok (mn_put)))))) (mt_node_ok (mt_node_ok (mt_node_ok (mt_leaf_ok (mn_iload)) (mt_node_ok (mt_leaf_ok (mn_push)) (mt_leaf_ok (mn_if2)))) (mt_node_ok (mt_leaf_ok (mn_aload)) (mt_node_ok (mt_leaf_ok (mn_aload)) (mt_leaf_ok (mn_iload))))) (mt_node_ok (mt_node_ok (mt_leaf_ok (rfl)) (mt_node_ok (mt_leaf_ok (mn_put)) (mt_leaf_ok (mn_push)))) (mt_node_ok (mt_leaf_ok (trivial)) (mt_node_ok (mt_leaf_ok (mn_push)) (mt_leaf_ok (trivial)))))))
theorem mz_177_4 {g : xe_G} : mt_all (mnP mS) (mb_177_4 g) := mt_node_ok (mt_node_ok (mt_node_ok (mt_node_ok (mt_node_ok (mt_leaf_ok (mn_iload)) (mt_node_ok (mt_leaf_ok (mn_iload)) (mt_leaf_ok (mn_bin)))) (mt_node_ok (mt_leaf_ok (mn_push)) (mt_node_ok (mt_leaf_ok (mn_if2)) (mt_leaf_ok (mn_iload))))) (mt_node_ok (mt_node_ok (mt_leaf_ok (mn_iload)) (mt_node_ok (mt_leaf_ok (mn_bin)) (mt_leaf_ok (mn_push)))) (mt_node_ok (mt_leaf_ok (mn_push)) (mt_node_ok (mt_leaf_ok (mn_aload)) (mt_leaf_ok (mn_iload)))))) (mt_node_ok (mt_node_ok (mt_node_ok (mt_leaf_ok (rfl)) (mt_node_ok (mt_leaf_ok (mn_bin)) (mt_leaf_ok (mn_bin)))) (mt_node_ok (mt_leaf_ok (mn_if2)) (mt_node_ok (mt_leaf_ok (mn_push)) (mt_leaf_ok (trivial))))) (mt_node_ok (mt_node_ok (mt_leaf_ok (mn_push)) (mt_node_ok (mt_leaf_ok (mn_isto)) (mt_leaf_ok (mn_iload)))) (mt_node_ok (mt_leaf_ok (mn_aload)) (mt_node_ok (mt_leaf_ok (mn_iload)) (mt_leaf_ok (rfl))))))) (mt_node_ok (mt_node_ok (mt_node_ok (mt_node_ok (mt_leaf_ok (mn_if2)) (mt_node_ok (mt_leaf_ok (mn_iload)) (mt_leaf_ok (mn_push)))) (mt_node_ok (mt_leaf_ok (mn_bin)) (mt_node_ok (mt_leaf_ok (mn_push)) (mt_leaf_ok (mn_iload))))) (mt_node_ok (mt_node_ok (mt_leaf_ok (mn_bin)) (mt_node_ok (mt_leaf_ok (mn_bin)) (mt_leaf_ok (mn_isto)))) (mt_node_ok (mt_leaf_ok (mn_aload)) (mt_node_ok (mt_leaf_ok (mn_aload)) (mt_leaf_ok (mn_iload)))))) (mt_node_ok (mt_node_ok (mt_node_ok (mt_leaf_ok (rfl)) (mt_node_ok (mt_leaf_ok (rfl)) (mt_leaf_ok (mn_push)))) (mt_node_ok (mt_leaf_ok (mn_if2)) (mt_node_ok (mt_leaf_ok (mn_aload)) (mt_leaf_ok (mn_iload))))) (mt_node_ok (mt_node_ok (mt_leaf_ok (mn_push)) (mt_node_ok (mt_leaf_ok (mn_bin)) (mt_leaf_ok (rfl)))) (mt_node_ok (mt_leaf_ok (mn_if)) (mt_node_ok (mt_leaf_ok (mn_aload)) (mt_leaf_ok (mn_aload)))))))
theorem mz_177_5 {g : xe_G} : mt_all (mnP mS) (mb_177_5 g) := mt_node_ok (mt_node_ok (mt_node_ok (mt_node_ok (mt_node_ok (mt_leaf_ok (mn_iload)) (mt_node_ok (mt_leaf_ok (mn_push)) (mt_leaf_ok (mn_bin)))) (mt_node_ok (mt_leaf_ok (rfl)) (mt_node_ok (mt_leaf_ok (rfl)) (mt_leaf_ok (mn_push))))) (mt_node_ok (mt_node_ok (mt_leaf_ok (mn_if2)) (mt_node_ok (mt_leaf_ok (mn_aload)) (mt_leaf_ok (mn_iload)))) (mt_node_ok (mt_leaf_ok (mn_push)) (mt_node_ok (mt_leaf_ok (mn_bin)) (mt_leaf_ok (rfl)))))) (mt_node_ok (mt_node_ok (mt_node_ok (mt_leaf_ok (mn_if)) (mt_node_ok (mt_leaf_ok (mn_aload)) (mt_leaf_ok (mn_aload)))) (mt_node_ok (mt_leaf_ok (mn_iload)) (mt_node_ok (mt_leaf_ok (mn_push)) (mt_leaf_ok (mn_bin))))) (mt_node_ok (mt_node_ok (mt_leaf_ok (rfl)) (mt_node_ok (mt_leaf_ok (rfl)) (mt_leaf_ok (mn_push)))) (mt_node_ok (mt_leaf_ok (mn_if2)) (mt_node_ok (mt_leaf_ok (mn_push)) (mt_leaf_ok (trivial))))))) (mt_node_ok (mt_node_ok (mt_node_ok (mt_node_ok (mt_leaf_ok (mn_iinc)) (mt_node_ok (mt_leaf_ok (mn_goto)) (mt_leaf_ok (mn_aload)))) (mt_node_ok (mt_leaf_ok (mn_aload)) (mt_node_ok (mt_leaf_ok (mn_iload)) (mt_leaf_ok (rfl))))) (mt_node_ok (mt_node_ok (mt_leaf_ok (mn_put)) (mt_node_ok (mt_leaf_ok (mn_push)) (mt_leaf_ok (trivial)))) (mt_node_ok (mt_leaf_ok (mn_aload)) (mt_node_ok (mt_leaf_ok (mn_iload)) (mt_leaf_ok (mn_iload)))))) (mt_node_ok (mt_node_ok (mt_node_ok (mt_leaf_ok (rfl)) (mt_node_ok (mt_leaf_ok (trivial)) (mt_leaf_ok (mn_iload)))) (mt_node_ok (mt_leaf_ok (mn_iload)) (mt_node_ok (mt_leaf_ok (mn_bin)) (mt_leaf_ok (mn_push))))) (mt_node_ok (mt_node_ok (mt_leaf_ok (mn_if2)) (mt_node_ok (mt_leaf_ok (mn_push)) (mt_leaf_ok (trivial)))) (mt_node_ok (mt_leaf_ok (mn_aload)) (mt_node_ok (mt_leaf_ok (mn_aload)) (mt_leaf_ok (mn_iload)))))))
theorem mz_177_6 {g : xe_G} : mt_all (mnP mS) (mb_177_6 g) := mt_node_ok (mt_node_ok (mt_node_ok (mt_node_ok (mt_leaf_ok (rfl)) (mt_node_ok (mt_leaf_ok (rfl)) (mt_leaf_ok (mn_push)))) (mt_node_ok (mt_leaf_ok (mn_if2)) (mt_node_ok (mt_leaf_ok (mn_iload)) (mt_leaf_ok (mn_push))))) (mt_node_ok (mt_node_ok (mt_leaf_ok (mn_bin)) (mt_node_ok (mt_leaf_ok (mn_push)) (mt_leaf_ok (mn_bin)))) (mt_node_ok (mt_leaf_ok (mn_push)) (mt_node_ok (mt_leaf_ok (mn_if2)) (mt_leaf_ok (mn_push)))))) (mt_node_ok (mt_node_ok (mt_node_ok (mt_leaf_ok (trivial)) (mt_node_ok (mt_leaf_ok (mn_aload)) (mt_leaf_ok (mn_aload)))) (mt_node_ok (mt_leaf_ok (mn_iload)) (mt_node_ok (mt_leaf_ok (rfl)) (mt_leaf_ok (mn_put))))) (mt_node_ok (mt_node_ok (mt_leaf_ok (mn_push)) (mt_node_ok (mt_leaf_ok (trivial)) (mt_leaf_ok (mn_aload)))) (mt_node_ok (mt_node_ok (mt_leaf_ok (mn_iload)) (mt_leaf_ok (mn_iload))) (mt_node_ok (mt_leaf_ok (rfl)) (mt_leaf_ok (trivial))))))
theorem mz_177 {g : xe_G} : mt_all (mnP mS) (mb_177 g).2.1 := mt_node_ok (mt_node_ok ((mz_177_0 (g := g))) (mt_node_ok ((mz_177_1 (g := g))) ((mz_177_2 (g := g))))) (mt_node_ok (mt_node_ok ((mz_177_3 (g := g))) ((mz_177_4 (g := g)))) (mt_node_ok ((mz_177_5 (g := g))) ((mz_177_6 (g := g)))))
theorem mz_178_0 {g : xe_G} : mt_all (mnP mS) (mb_178_0 g) := mt_node_ok (mt_node_ok (mt_node_ok (mt_node_ok (mt_node_ok (mt_leaf_ok (mn_aload)) (mt_node_ok (mt_leaf_ok (mn_push)) (mt_leaf_ok (rfl)))) (mt_node_ok (mt_leaf_ok (mn_if)) (mt_node_ok (mt_leaf_ok (mn_push)) (mt_leaf_ok (trivial))))) (mt_node_ok (mt_node_ok (mt_leaf_ok (mn_aload)) (mt_node_ok (mt_leaf_ok (mn_aload)) (mt_leaf_ok (mn_get)))) (mt_node_ok (mt_leaf_ok (rfl)) (mt_node_ok (mt_leaf_ok (mn_isto)) (mt_leaf_ok (mn_aload)))))) (mt_node_ok (mt_node_ok (mt_node_ok (mt_leaf_ok (mn_dup)) (mt_node_ok (mt_leaf_ok (mn_get)) (mt_leaf_ok (mn_push)))) (mt_node_ok (mt_leaf_ok (mn_bin)) (mt_node_ok (mt_leaf_ok (mn_put)) (mt_leaf_ok (mn_push))))) (mt_node_ok (mt_node_ok (mt_leaf_ok (mn_isto)) (mt_node_ok (mt_leaf_ok (mn_iload)) (mt_leaf_ok (mn_iload)))) (mt_node_ok (mt_leaf_ok (mn_if2)) (mt_node_ok (mt_leaf_ok (mn_aload)) (mt_leaf_ok (mn_push))))))) (mt_node_ok (mt_node_ok (mt_node_ok (mt_node_ok (mt_leaf_ok (rfl)) (mt_node_ok (mt_leaf_ok (mn_if)) (mt_leaf_ok (mn_push)))) (mt_node_ok (mt_leaf_ok (trivial)) (mt_node_ok (mt_leaf_ok (mn_aload)) (mt_leaf_ok (mn_dup))))) (mt_node_ok (mt_node_ok (mt_leaf_ok (mn_get)) (mt_node_ok (mt_leaf_ok (mn_push)) (mt_leaf_ok (mn_bin)))) (mt_node_ok (mt_leaf_ok (mn_put)) (mt_node_ok (mt_leaf_ok (mn_aload)) (mt_leaf_ok (mn_push)))))) (mt_node_ok (mt_node_ok (mt_node_ok (mt_leaf_ok (rfl)) (mt_node_ok (mt_leaf_ok (mn_if)) (mt_leaf_ok (mn_push)))) (mt_node_ok (mt_leaf_ok (trivial)) (mt_node_ok (mt_leaf_ok (mn_aload)) (mt_leaf_ok (mn_aload))))) (mt_node_ok (mt_node_ok (mt_leaf_ok (mn_get)) (mt_node_ok (mt_leaf_ok (rfl)) (mt_leaf_ok (mn_lsto)))) (mt_node_ok (mt_leaf_ok (mn_aload)) (mt_node_ok (mt_leaf_ok (mn_dup)) (mt_leaf_ok (mn_get)))))))
theorem mz_178_1 {g : xe_G} : mt_all (mnP mS) (mb_178_1 g) := mt_node_ok (mt_node_ok (mt_node_ok (mt_node_ok (mt_leaf_ok (mn_push)) (mt_leaf_ok (mn_bin))) (mt_node_ok (mt_leaf_ok (mn_put)) (mt_node_ok (mt_leaf_ok (mn_aload)) (mt_leaf_ok (mn_lload))))) (mt_node_ok (mt_node_ok (mt_leaf_ok (rfl)) (mt_leaf_ok (mn_if))) (mt_node_ok (mt_leaf_ok (mn_push)) (mt_node_ok (mt_leaf_ok (trivial)) (mt_leaf_ok (mn_aload)))))) (mt_node_ok (mt_node_ok (mt_node_ok (mt_leaf_ok (mn_dup)) (mt_leaf_ok (mn_get))) (mt_node_ok (mt_leaf_ok (mn_lload)) (mt_node_ok (mt_leaf_ok (mn_l2i)) (mt_leaf_ok (mn_bin))))) (mt_node_ok (mt_node_ok (mt_leaf_ok (mn_put)) (mt_leaf_ok (mn_iinc))) (mt_node_ok (mt_leaf_ok (mn_goto)) (mt_node_ok (mt_leaf_ok (mn_push)) (mt_leaf_ok (trivial))))))
theorem mz_178 {g : xe_G} : mt_all (mnP mS) (mb_178 g).2.1 := mt_node_ok ((mz_178_0 (g := g))) ((mz_178_1 (g := g)))
theorem mz_185_0 {g : xe_G} : mt_all (mnP mS) (mb_185_0 g) := mt_node_ok (mt_node_ok (mt_node_ok (mt_node_ok (mt_node_ok (mt_leaf_ok (mn_iload)) (mt_node_ok (mt_leaf_ok (mn_iload)) (mt_leaf_ok (mn_bin)))) (mt_node_ok (mt_leaf_ok (mn_push)) (mt_node_ok (mt_leaf_ok (mn_if2)) (mt_leaf_ok (mn_push))))) (mt_node_ok (mt_node_ok (mt_leaf_ok (trivial)) (mt_node_ok (mt_leaf_ok (mn_aload)) (mt_leaf_ok (mn_iload)))) (mt_node_ok (mt_leaf_ok (rfl)) (mt_node_ok (mt_leaf_ok (mn_isto)) (mt_leaf_ok (mn_iload)))))) (mt_node_ok (mt_node_ok (mt_node_ok (mt_leaf_ok (mn_push)) (mt_node_ok (mt_leaf_ok (mn_bin)) (mt_leaf_ok (mn_isto)))) (mt_node_ok (mt_leaf_ok (mn_push)) (mt_node_ok (mt_leaf_ok (mn_isto)) (mt_leaf_ok (mn_iload))))) (mt_node_ok (mt_node_ok (mt_leaf_ok (mn_iload)) (mt_node_ok (mt_leaf_ok (mn_if2)) (mt_leaf_ok (mn_iload)))) (mt_node_ok (mt_leaf_ok (mn_push)) (mt_node_ok (mt_leaf_ok (mn_bin)) (mt_leaf_ok (mn_iload))))))) (mt_node_ok (mt_node_ok (mt_node_ok (mt_node_ok (mt_leaf_ok (mn_if2)) (mt_node_ok (mt_leaf_ok (mn_iload)) (mt_leaf_ok (mn_push)))) (mt_node_ok (mt_leaf_ok (mn_bin)) (mt_node_ok (mt_leaf_ok (mn_push)) (mt_leaf_ok (mn_aload))))) (mt_node_ok (mt_node_ok (mt_leaf_ok (mn_iload)) (mt_node_ok (mt_leaf_ok (mn_push)) (mt_leaf_ok (mn_bin)))) (mt_node_ok (mt_leaf_ok (rfl)) (mt_node_ok (mt_leaf_ok (mn_bin)) (mt_leaf_ok (mn_bin)))))) (mt_node_ok (mt_node_ok (mt_node_ok (mt_leaf_ok (mn_iload)) (mt_node_ok (mt_leaf_ok (mn_if2)) (mt_leaf_ok (mn_push)))) (mt_node_ok (mt_leaf_ok (trivial)) (mt_node_ok (mt_leaf_ok (mn_iload)) (mt_leaf_ok (mn_push))))) (mt_node_ok (mt_node_ok (mt_leaf_ok (mn_push)) (mt_node_ok (mt_leaf_ok (mn_aload)) (mt_leaf_ok (mn_iload)))) (mt_node_ok (mt_leaf_ok (mn_push)) (mt_node_ok (mt_leaf_ok (mn_bin)) (mt_leaf_ok (rfl)))))))
theorem mz_185_1 {g : xe_G} : mt_all (mnP mS) (mb_185_1 g) := mt_node_ok (mt_node_ok (mt_node_ok (mt_node_ok (mt_node_ok (mt_leaf_ok (mn_bin)) (mt_node_ok (mt_leaf_ok (mn_bin)) (mt_leaf_ok (mn_bin)))) (mt_node_ok (mt_leaf_ok (mn_isto)) (mt_node_ok (mt_leaf_ok (mn_iinc)) (mt_leaf_ok (mn_goto))))) (mt_node_ok (mt_node_ok (mt_leaf_ok (mn_iload)) (mt_node_ok (mt_leaf_ok (mn_iload)) (mt_leaf_ok (mn_if2)))) (mt_node_ok (mt_leaf_ok (mn_push)) (mt_node_ok (mt_leaf_ok (trivial)) (mt_leaf_ok (mn_iload)))))) (mt_node_ok (mt_node_ok (mt_node_ok (mt_leaf_ok (mn_push)) (mt_node_ok (mt_leaf_ok (mn_bin)) (mt_leaf_ok (mn_isto)))) (mt_node_ok (mt_leaf_ok (mn_push)) (mt_node_ok (mt_leaf_ok (mn_isto)) (mt_leaf_ok (mn_iload))))) (mt_node_ok (mt_node_ok (mt_leaf_ok (mn_iload)) (mt_node_ok (mt_leaf_ok (mn_if2)) (mt_leaf_ok (mn_aload)))) (mt_node_ok (mt_leaf_ok (mn_aload)) (mt_node_ok (mt_leaf_ok (mn_iload)) (mt_leaf_ok (rfl))))))) (mt_node_ok (mt_node_ok (mt_node_ok (mt_node_ok (mt_leaf_ok (rfl)) (mt_node_ok (mt_leaf_ok (mn_push)) (mt_leaf_ok (mn_if2)))) (mt_node_ok (mt_leaf_ok (mn_push)) (mt_node_ok (mt_leaf_ok (trivial)) (mt_leaf_ok (mn_push))))) (mt_node_ok (mt_node_ok (mt_leaf_ok (mn_isto)) (mt_node_ok (mt_leaf_ok (mn_iload)) (mt_leaf_ok (mn_aload)))) (mt_node_ok (mt_leaf_ok (mn_iload)) (mt_node_ok (mt_leaf_ok (mn_push)) (mt_leaf_ok (mn_bin)))))) (mt_node_ok (mt_node_ok (mt_node_ok (mt_leaf_ok (rfl)) (mt_node_ok (mt_leaf_ok (mn_if2)) (mt_leaf_ok (mn_aload)))) (mt_node_ok (mt_leaf_ok (mn_aload)) (mt_node_ok (mt_leaf_ok (mn_iload)) (mt_leaf_ok (mn_push))))) (mt_node_ok (mt_node_ok (mt_leaf_ok (mn_bin)) (mt_node_ok (mt_leaf_ok (mn_push)) (mt_leaf_ok (mn_iload)))) (mt_node_ok (mt_leaf_ok (mn_bin)) (mt_node_ok (mt_leaf_ok (mn_bin)) (mt_leaf_ok (rfl)))))))
theorem mz_185_2 {g : xe_G} : mt_all (mnP mS) (mb_185_2 g) := mt_node_ok (mt_node_ok (mt_node_ok (mt_node_ok (mt_node_ok (mt_leaf_ok (rfl)) (mt_leaf_ok (mn_isto))) (mt_node_ok (mt_leaf_ok (mn_iload)) (mt_node_ok (mt_leaf_ok (mn_push)) (mt_leaf_ok (mn_if2))))) (mt_node_ok (mt_node_ok (mt_leaf_ok (mn_iload)) (mt_leaf_ok (mn_push))) (mt_node_ok (mt_leaf_ok (mn_if2)) (mt_node_ok (mt_leaf_ok (mn_iload)) (mt_leaf_ok (mn_push)))))) (mt_node_ok (mt_node_ok (mt_node_ok (mt_leaf_ok (mn_if2)) (mt_leaf_ok (mn_iload))) (mt_node_ok (mt_leaf_ok (mn_push)) (mt_node_ok (mt_leaf_ok (mn_if2)) (mt_leaf_ok (mn_push))))) (mt_node_ok (mt_node_ok (mt_leaf_ok (trivial)) (mt_leaf_ok (mn_iinc))) (mt_node_ok (mt_leaf_ok (mn_goto)) (mt_node_ok (mt_leaf_ok (mn_iload)) (mt_leaf_ok (mn_push))))))) (mt_node_ok (mt_node_ok (mt_node_ok (mt_node_ok (mt_leaf_ok (mn_push)) (mt_leaf_ok (mn_aload))) (mt_node_ok (mt_leaf_ok (mn_iload)) (mt_node_ok (mt_leaf_ok (mn_push)) (mt_leaf_ok (mn_bin))))) (mt_node_ok (mt_node_ok (mt_leaf_ok (rfl)) (mt_leaf_ok (mn_bin))) (mt_node_ok (mt_leaf_ok (mn_bin)) (mt_node_ok (mt_leaf_ok (mn_bin)) (mt_leaf_ok (mn_isto)))))) (mt_node_ok (mt_node_ok (mt_node_ok (mt_leaf_ok (mn_iinc)) (mt_leaf_ok (mn_goto))) (mt_node_ok (mt_leaf_ok (mn_aload)) (mt_node_ok (mt_leaf_ok (mn_iload)) (mt_leaf_ok (mn_put))))) (mt_node_ok (mt_node_ok (mt_leaf_ok (mn_aload)) (mt_leaf_ok (mn_iload))) (mt_node_ok (mt_leaf_ok (mn_put)) (mt_node_ok (mt_leaf_ok (mn_push)) (mt_leaf_ok (trivial)))))))
theorem mz_185 {g : xe_G} : mt_all (mnP mS) (mb_185 g).2.1 := mt_node_ok ((mz_185_0 (g := g))) (mt_node_ok ((mz_185_1 (g := g))) ((mz_185_2 (g := g))))
theorem mz_187_0 {g : xe_G} : mt_all (mnP mS) (mb_187_0 g) := mt_node_ok (mt_node_ok (mt_node_ok (mt_node_ok (mt_node_ok (mt_leaf_ok (mn_aload)) (mt_node_ok (mt_leaf_ok (mn_iload)) (mt_leaf_ok (rfl)))) (mt_node_ok (mt_leaf_ok (mn_isto)) (mt_node_ok (mt_leaf_ok (mn_iload)) (mt_leaf_ok (mn_push))))) (mt_node_ok (mt_node_ok (mt_leaf_ok (mn_bin)) (mt_node_ok (mt_leaf_ok (mn_isto)) (mt_leaf_ok (mn_push)))) (mt_node_ok (mt_leaf_ok (mn_isto)) (mt_node_ok (mt_leaf_ok (mn_push)) (mt_leaf_ok (mn_isto)))))) (mt_node_ok (mt_node_ok (mt_node_ok (mt_leaf_ok (mn_iload)) (mt_node_ok (mt_leaf_ok (mn_iload)) (mt_leaf_ok (mn_if2)))) (mt_node_ok (mt_leaf_ok (mn_aload)) (mt_node_ok (mt_leaf_ok (mn_iload)) (mt_leaf_ok (mn_push))))) (mt_node_ok (mt_node_ok (mt_leaf_ok (mn_bin)) (mt_node_ok (mt_leaf_ok (rfl)) (mt_leaf_ok (mn_l2i)))) (mt_node_ok (mt_leaf_ok (mn_isto)) (mt_node_ok (mt_leaf_ok (mn_aload)) (mt_leaf_ok (mn_aload))))))) (mt_node_ok (mt_node_ok (mt_node_ok (mt_node_ok (mt_leaf_ok (mn_iload)) (mt_node_ok (mt_leaf_ok (rfl)) (mt_leaf_ok (rfl)))) (mt_node_ok (mt_leaf_ok (mn_push)) (mt_node_ok (mt_leaf_ok (mn_if2)) (mt_leaf_ok (mn_aload))))) (mt_node_ok (mt_node_ok (mt_leaf_ok (mn_push)) (mt_node_ok (mt_leaf_ok (mn_iload)) (mt_leaf_ok (rfl)))) (mt_node_ok (mt_leaf_ok (mn_pop)) (mt_node_ok (mt_leaf_ok (mn_push)) (mt_leaf_ok (trivial)))))) (mt_node_ok (mt_node_ok (mt_node_ok (mt_leaf_ok (mn_aload)) (mt_node_ok (mt_leaf_ok (mn_aload)) (mt_leaf_ok (mn_iload)))) (mt_node_ok (mt_leaf_ok (rfl)) (mt_node_ok (mt_leaf_ok (rfl)) (mt_leaf_ok (mn_isto))))) (mt_node_ok (mt_node_ok (mt_leaf_ok (mn_push)) (mt_node_ok (mt_leaf_ok (mn_isto)) (mt_leaf_ok (mn_push)))) (mt_node_ok (mt_leaf_ok (mn_isto)) (mt_node_ok (mt_leaf_ok (mn_iload)) (mt_leaf_ok (mn_aload)))))))
theorem mz_187_1 {g : xe_G} : mt_all (mnP mS) (mb_187_1 g) := mt_node_ok (mt_node_ok (mt_node_ok (mt_node_ok (mt_node_ok (mt_leaf_ok (mn_get)) (mt_node_ok (mt_leaf_ok (mn_alen)) (mt_leaf_ok (mn_if2)))) (mt_node_ok (mt_leaf_ok (mn_aload)) (mt_node_ok (mt_leaf_ok (mn_get)) (mt_leaf_ok (mn_iload))))) (mt_node_ok (mt_node_ok (mt_leaf_ok (mn_ald)) (mt_node_ok (mt_leaf_ok (mn_iload)) (mt_leaf_ok (mn_if2)))) (mt_node_ok (mt_leaf_ok (mn_aload)) (mt_node_ok (mt_leaf_ok (mn_get)) (mt_leaf_ok (mn_aload)))))) (mt_node_ok (mt_node_ok (mt_node_ok (mt_leaf_ok (mn_get)) (mt_node_ok (mt_leaf_ok (mn_iload)) (mt_leaf_ok (mn_ald)))) (mt_node_ok (mt_leaf_ok (mn_if2)) (mt_node_ok (mt_leaf_ok (mn_aload)) (mt_leaf_ok (mn_iload))))) (mt_node_ok (mt_node_ok (mt_leaf_ok (mn_aload)) (mt_node_ok (mt_leaf_ok (mn_get)) (mt_leaf_ok (mn_iload)))) (mt_node_ok (mt_leaf_ok (mn_ald)) (mt_node_ok (mt_leaf_ok (rfl)) (mt_leaf_ok (mn_if))))))) (mt_node_ok (mt_node_ok (mt_node_ok (mt_node_ok (mt_leaf_ok (mn_iload)) (mt_node_ok (mt_leaf_ok (mn_isto)) (mt_leaf_ok (mn_iinc)))) (mt_node_ok (mt_leaf_ok (mn_goto)) (mt_node_ok (mt_leaf_ok (mn_iload)) (mt_leaf_ok (mn_if))))) (mt_node_ok (mt_node_ok (mt_leaf_ok (mn_iload)) (mt_node_ok (mt_leaf_ok (mn_push)) (mt_leaf_ok (mn_if2)))) (mt_node_ok (mt_leaf_ok (mn_aload)) (mt_node_ok (mt_leaf_ok (mn_get)) (mt_leaf_ok (mn_iload)))))) (mt_node_ok (mt_node_ok (mt_node_ok (mt_leaf_ok (mn_dup2)) (mt_node_ok (mt_leaf_ok (mn_ald)) (mt_leaf_ok (mn_push)))) (mt_node_ok (mt_leaf_ok (mn_bin)) (mt_node_ok (mt_leaf_ok (mn_ast)) (mt_leaf_ok (mn_iload))))) (mt_node_ok (mt_node_ok (mt_leaf_ok (mn_push)) (mt_node_ok (mt_leaf_ok (mn_if2)) (mt_leaf_ok (mn_aload)))) (mt_node_ok (mt_leaf_ok (mn_get)) (mt_node_ok (mt_leaf_ok (mn_iload)) (mt_leaf_ok (mn_dup2)))))))
theorem mz_187_2 {g : xe_G} : mt_all (mnP mS) (mb_187_2 g) := mt_node_ok (mt_node_ok (mt_node_ok (mt_node_ok (mt_node_ok (mt_leaf_ok (mn_ald)) (mt_node_ok (mt_leaf_ok (mn_push)) (mt_leaf_ok (mn_bin)))) (mt_node_ok (mt_leaf_ok (mn_ast)) (mt_node_ok (mt_leaf_ok (mn_iload)) (mt_leaf_ok (mn_push))))) (mt_node_ok (mt_node_ok (mt_leaf_ok (mn_if2)) (mt_node_ok (mt_leaf_ok (mn_aload)) (mt_leaf_ok (mn_dup)))) (mt_node_ok (mt_leaf_ok (mn_get)) (mt_node_ok (mt_leaf_ok (mn_push)) (mt_leaf_ok (mn_bin)))))) (mt_node_ok (mt_node_ok (mt_node_ok (mt_leaf_ok (mn_put)) (mt_node_ok (mt_leaf_ok (mn_iload)) (mt_leaf_ok (mn_iload)))) (mt_node_ok (mt_leaf_ok (mn_bin)) (mt_node_ok (mt_leaf_ok (mn_push)) (mt_leaf_ok (mn_bin))))) (mt_node_ok (mt_node_ok (mt_leaf_ok (mn_push)) (mt_node_ok (mt_leaf_ok (mn_if2)) (mt_leaf_ok (mn_aload)))) (mt_node_ok (mt_leaf_ok (mn_push)) (mt_node_ok (mt_leaf_ok (mn_iload)) (mt_leaf_ok (rfl))))))) (mt_node_ok (mt_node_ok (mt_node_ok (mt_node_ok (mt_leaf_ok (mn_pop)) (mt_node_ok (mt_leaf_ok (mn_push)) (mt_leaf_ok (trivial)))) (mt_node_ok (mt_leaf_ok (mn_aload)) (mt_node_ok (mt_leaf_ok (mn_iload)) (mt_leaf_ok (mn_iload))))) (mt_node_ok (mt_node_ok (mt_leaf_ok (mn_iload)) (mt_node_ok (mt_leaf_ok (mn_push)) (mt_leaf_ok (mn_bin)))) (mt_node_ok (mt_leaf_ok (mn_iload)) (mt_node_ok (mt_leaf_ok (mn_push)) (mt_leaf_ok (mn_bin)))))) (mt_node_ok (mt_node_ok (mt_node_ok (mt_leaf_ok (mn_iload)) (mt_node_ok (mt_leaf_ok (mn_bin)) (mt_leaf_ok (mn_iload)))) (mt_node_ok (mt_leaf_ok (mn_iload)) (mt_node_ok (mt_leaf_ok (rfl)) (mt_leaf_ok (mn_isto))))) (mt_node_ok (mt_node_ok (mt_leaf_ok (mn_iload)) (mt_node_ok (mt_leaf_ok (mn_push)) (mt_leaf_ok (mn_iload)))) (mt_node_ok (mt_leaf_ok (mn_bin)) (mt_node_ok (mt_leaf_ok (mn_bin)) (mt_leaf_ok (mn_isto)))))))
theorem mz_187_3 {g : xe_G} : mt_all (mnP mS) (mb_187_3 g) := mt_node_ok (mt_node_ok (mt_node_ok (mt_node_ok (mt_leaf_ok (mn_iload)) (mt_leaf_ok (mn_if))) (mt_node_ok (mt_leaf_ok (mn_aload)) (mt_node_ok (mt_leaf_ok (mn_iload)) (mt_leaf_ok (mn_iload))))) (mt_node_ok (mt_node_ok (mt_leaf_ok (rfl)) (mt_leaf_ok (mn_pop))) (mt_node_ok (mt_leaf_ok (mn_iload)) (mt_node_ok (mt_leaf_ok (mn_if)) (mt_leaf_ok (mn_push)))))) (mt_node_ok (mt_node_ok (mt_node_ok (mt_leaf_ok (trivial)) (mt_leaf_ok (mn_iload))) (mt_node_ok (mt_leaf_ok (mn_push)) (mt_node_ok (mt_leaf_ok (mn_iload)) (mt_leaf_ok (mn_bin))))) (mt_node_ok (mt_node_ok (mt_leaf_ok (mn_bin)) (mt_node_ok (mt_leaf_ok (mn_isto)) (mt_leaf_ok (mn_iinc)))) (mt_node_ok (mt_leaf_ok (mn_goto)) (mt_node_ok (mt_leaf_ok (mn_iload)) (mt_leaf_ok (trivial))))))
theorem mz_187 {g : xe_G} : mt_all (mnP mS) (mb_187 g).2.1 := mt_node_ok (mt_node_ok ((mz_187_0 (g := g))) ((mz_187_1 (g := g)))) (mt_node_ok ((mz_187_2 (g := g))) ((mz_187_3 (g := g))))
theorem mz_188_0 {g : xe_G} : mt_all (mnP mS) (mb_188_0 g) := mt_node_ok (mt_node_ok (mt_node_ok (mt_node_ok (mt_node_ok (mt_leaf_ok (mn_aload)) (mt_node_ok (mt_leaf_ok (mn_aload)) (mt_leaf_ok (mn_get)))) (mt_node_ok (mt_leaf_ok (rfl)) (mt_node_ok (mt_leaf_ok (mn_isto)) (mt_leaf_ok (mn_aload))))) (mt_node_ok (mt_node_ok (mt_leaf_ok (mn_iload)) (mt_node_ok (mt_leaf_ok (mn_put)) (mt_leaf_ok (mn_iload)))) (mt_node_ok (mt_leaf_ok (mn_push)) (mt_node_ok (mt_leaf_ok (mn_bin)) (mt_leaf_ok (mn_if)))))) (mt_node_ok (mt_node_ok (mt_node_ok (mt_leaf_ok (mn_push)) (mt_node_ok (mt_leaf_ok (mn_goto)) (mt_leaf_ok (mn_push)))) (mt_node_ok (mt_leaf_ok (mn_isto)) (mt_node_ok (mt_leaf_ok (mn_iload)) (mt_leaf_ok (mn_push))))) (mt_node_ok (mt_node_ok (mt_leaf_ok (mn_bin)) (mt_node_ok (mt_leaf_ok (mn_if)) (mt_leaf_ok (mn_iload)))) (mt_node_ok (mt_leaf_ok (mn_if)) (mt_node_ok (mt_leaf_ok (mn_iload)) (mt_leaf_ok (mn_push))))))) (mt_node_ok (mt_node_ok (mt_node_ok (mt_node_ok (mt_leaf_ok (mn_bin)) (mt_node_ok (mt_leaf_ok (mn_if)) (mt_leaf_ok (mn_iload)))) (mt_node_ok (mt_leaf_ok (mn_push)) (mt_node_ok (mt_leaf_ok (mn_bin)) (mt_leaf_ok (mn_if))))) (mt_node_ok (mt_node_ok (mt_leaf_ok (mn_goto)) (mt_node_ok (mt_leaf_ok (mn_iload)) (mt_leaf_ok (mn_push)))) (mt_node_ok (mt_leaf_ok (mn_bin)) (mt_node_ok (mt_leaf_ok (mn_if)) (mt_leaf_ok (mn_iload)))))) (mt_node_ok (mt_node_ok (mt_node_ok (mt_leaf_ok (mn_push)) (mt_node_ok (mt_leaf_ok (mn_bin)) (mt_leaf_ok (mn_if)))) (mt_node_ok (mt_leaf_ok (mn_iload)) (mt_node_ok (mt_leaf_ok (mn_push)) (mt_leaf_ok (mn_bin))))) (mt_node_ok (mt_node_ok (mt_leaf_ok (mn_if)) (mt_node_ok (mt_leaf_ok (mn_iload)) (mt_leaf_ok (mn_if)))) (mt_node_ok (mt_leaf_ok (mn_iload)) (mt_node_ok (mt_leaf_ok (mn_push)) (mt_leaf_ok (mn_bin)))))))
theorem mz_188_1 {g : xe_G} : mt_all (mnP mS) (mb_188_1 g) := mt_node_ok (mt_node_ok (mt_node_ok (mt_node_ok (mt_node_ok (mt_leaf_ok (mn_if)) (mt_node_ok (mt_leaf_ok (mn_iload)) (mt_leaf_ok (mn_push)))) (mt_node_ok (mt_leaf_ok (mn_bin)) (mt_node_ok (mt_leaf_ok (mn_if)) (mt_leaf_ok (mn_iload))))) (mt_node_ok (mt_node_ok (mt_leaf_ok (mn_push)) (mt_node_ok (mt_leaf_ok (mn_bin)) (mt_leaf_ok (mn_if)))) (mt_node_ok (mt_leaf_ok (mn_aload)) (mt_node_ok (mt_leaf_ok (mn_push)) (mt_leaf_ok (mn_aload)))))) (mt_node_ok (mt_node_ok (mt_node_ok (mt_leaf_ok (mn_get)) (mt_node_ok (mt_leaf_ok (rfl)) (mt_leaf_ok (trivial)))) (mt_node_ok (mt_leaf_ok (mn_aload)) (mt_node_ok (mt_leaf_ok (mn_aload)) (mt_leaf_ok (mn_aload))))) (mt_node_ok (mt_node_ok (mt_leaf_ok (mn_get)) (mt_node_ok (mt_leaf_ok (mn_push)) (mt_leaf_ok (mn_bin)))) (mt_node_ok (mt_leaf_ok (rfl)) (mt_node_ok (mt_leaf_ok (rfl)) (mt_leaf_ok (mn_if))))))) (mt_node_ok (mt_node_ok (mt_node_ok (mt_node_ok (mt_leaf_ok (mn_aload)) (mt_node_ok (mt_leaf_ok (mn_push)) (mt_leaf_ok (mn_aload)))) (mt_node_ok (mt_leaf_ok (mn_get)) (mt_node_ok (mt_leaf_ok (mn_push)) (mt_leaf_ok (mn_bin))))) (mt_node_ok (mt_node_ok (mt_leaf_ok (rfl)) (mt_node_ok (mt_leaf_ok (trivial)) (mt_leaf_ok (mn_aload)))) (mt_node_ok (mt_leaf_ok (mn_aload)) (mt_node_ok (mt_leaf_ok (mn_aload)) (mt_leaf_ok (mn_aload)))))) (mt_node_ok (mt_node_ok (mt_node_ok (mt_leaf_ok (mn_get)) (mt_node_ok (mt_leaf_ok (mn_push)) (mt_leaf_ok (mn_bin)))) (mt_node_ok (mt_leaf_ok (rfl)) (mt_node_ok (mt_leaf_ok (rfl)) (mt_leaf_ok (mn_put))))) (mt_node_ok (mt_node_ok (mt_leaf_ok (mn_aload)) (mt_node_ok (mt_leaf_ok (mn_aload)) (mt_leaf_ok (mn_get)))) (mt_node_ok (mt_leaf_ok (mn_push)) (mt_node_ok (mt_leaf_ok (mn_bin)) (mt_leaf_ok (rfl)))))))
theorem mz_188_2 {g : xe_G} : mt_all (mnP mS) (mb_188_2 g) := mt_node_ok (mt_node_ok (mt_node_ok (mt_node_ok (mt_node_ok (mt_leaf_ok (mn_isto)) (mt_node_ok (mt_leaf_ok (mn_aload)) (mt_leaf_ok (mn_iload)))) (mt_node_ok (mt_leaf_ok (rfl)) (mt_node_ok (mt_leaf_ok (mn_if)) (mt_leaf_ok (mn_iload))))) (mt_node_ok (mt_node_ok (mt_leaf_ok (mn_if)) (mt_node_ok (mt_leaf_ok (mn_aload)) (mt_leaf_ok (mn_iload)))) (mt_node_ok (mt_leaf_ok (rfl)) (mt_node_ok (mt_leaf_ok (mn_aload)) (mt_leaf_ok (mn_get)))))) (mt_node_ok (mt_node_ok (mt_node_ok (mt_leaf_ok (mn_if2)) (mt_node_ok (mt_leaf_ok (mn_aload)) (mt_leaf_ok (mn_push)))) (mt_node_ok (mt_leaf_ok (mn_aload)) (mt_node_ok (mt_leaf_ok (mn_get)) (mt_leaf_ok (mn_push))))) (mt_node_ok (mt_node_ok (mt_leaf_ok (mn_bin)) (mt_node_ok (mt_leaf_ok (rfl)) (mt_leaf_ok (trivial)))) (mt_node_ok (mt_leaf_ok (mn_aload)) (mt_node_ok (mt_leaf_ok (mn_aload)) (mt_leaf_ok (mn_iload))))))) (mt_node_ok (mt_node_ok (mt_node_ok (mt_node_ok (mt_leaf_ok (rfl)) (mt_node_ok (mt_leaf_ok (mn_put)) (mt_leaf_ok (mn_aload)))) (mt_node_ok (mt_leaf_ok (mn_aload)) (mt_node_ok (mt_leaf_ok (mn_get)) (mt_leaf_ok (mn_push))))) (mt_node_ok (mt_node_ok (mt_leaf_ok (mn_bin)) (mt_node_ok (mt_leaf_ok (rfl)) (mt_leaf_ok (mn_isto)))) (mt_node_ok (mt_leaf_ok (mn_push)) (mt_node_ok (mt_leaf_ok (mn_isto)) (mt_leaf_ok (mn_iload)))))) (mt_node_ok (mt_node_ok (mt_node_ok (mt_leaf_ok (mn_iload)) (mt_node_ok (mt_leaf_ok (mn_if2)) (mt_leaf_ok (mn_aload)))) (mt_node_ok (mt_leaf_ok (mn_get)) (mt_node_ok (mt_leaf_ok (mn_push)) (mt_leaf_ok (mn_bin))))) (mt_node_ok (mt_node_ok (mt_leaf_ok (mn_push)) (mt_node_ok (mt_leaf_ok (mn_iload)) (mt_leaf_ok (mn_bin)))) (mt_node_ok (mt_leaf_ok (mn_bin)) (mt_node_ok (mt_leaf_ok (mn_isto)) (mt_leaf_ok (mn_aload)))))))
theorem mz_188_3 {g : xe_G} : mt_all (mnP mS) (mb_188_3 g) := mt_node_ok (mt_node_ok (mt_node_ok (mt_node_ok (mt_node_ok (mt_leaf_ok (mn_aload)) (mt_leaf_ok (mn_iload))) (mt_node_ok (mt_leaf_ok (rfl)) (mt_node_ok (mt_leaf_ok (rfl)) (mt_leaf_ok (mn_if))))) (mt_node_ok (mt_node_ok (mt_leaf_ok (mn_aload)) (mt_node_ok (mt_leaf_ok (mn_push)) (mt_leaf_ok (mn_iload)))) (mt_node_ok (mt_leaf_ok (rfl)) (mt_node_ok (mt_leaf_ok (trivial)) (mt_leaf_ok (mn_push)))))) (mt_node_ok (mt_node_ok (mt_node_ok (mt_leaf_ok (mn_isto)) (mt_node_ok (mt_leaf_ok (mn_iload)) (mt_leaf_ok (mn_iload)))) (mt_node_ok (mt_leaf_ok (mn_if2)) (mt_node_ok (mt_leaf_ok (mn_aload)) (mt_leaf_ok (mn_aload))))) (mt_node_ok (mt_node_ok (mt_leaf_ok (mn_aload)) (mt_node_ok (mt_leaf_ok (mn_get)) (mt_leaf_ok (mn_push)))) (mt_node_ok (mt_leaf_ok (mn_bin)) (mt_node_ok (mt_leaf_ok (mn_push)) (mt_leaf_ok (mn_iload))))))) (mt_node_ok (mt_node_ok (mt_node_ok (mt_node_ok (mt_leaf_ok (mn_bin)) (mt_node_ok (mt_leaf_ok (mn_bin)) (mt_leaf_ok (rfl)))) (mt_node_ok (mt_leaf_ok (rfl)) (mt_node_ok (mt_leaf_ok (mn_aload)) (mt_leaf_ok (mn_aload))))) (mt_node_ok (mt_node_ok (mt_leaf_ok (mn_iload)) (mt_node_ok (mt_leaf_ok (rfl)) (mt_leaf_ok (rfl)))) (mt_node_ok (mt_leaf_ok (mn_if2)) (mt_node_ok (mt_leaf_ok (mn_aload)) (mt_leaf_ok (mn_push)))))) (mt_node_ok (mt_node_ok (mt_node_ok (mt_leaf_ok (mn_iload)) (mt_node_ok (mt_leaf_ok (rfl)) (mt_leaf_ok (trivial)))) (mt_node_ok (mt_leaf_ok (mn_iinc)) (mt_node_ok (mt_leaf_ok (mn_goto)) (mt_leaf_ok (mn_iinc))))) (mt_node_ok (mt_node_ok (mt_leaf_ok (mn_goto)) (mt_node_ok (mt_leaf_ok (mn_aload)) (mt_leaf_ok (mn_iload)))) (mt_node_ok (mt_leaf_ok (mn_put)) (mt_node_ok (mt_leaf_ok (mn_push)) (mt_leaf_ok (trivial)))))))
theorem mz_188 {g : xe_G} : mt_all (mnP mS) (mb_188 g).2.1 := mt_node_ok (mt_node_ok ((mz_188_0 (g := g))) ((mz_188_1 (g := g)))) (mt_node_ok ((mz_188_2 (g := g))) ((mz_188_3 (g := g))))
theorem mz_189_0 {g : xe_G} : mt_all (mnP mS) (mb_189_0 g) := mt_node_ok (mt_node_ok (mt_node_ok (mt_node_ok (mt_node_ok (mt_leaf_ok (mn_aload)) (mt_node_ok (mt_leaf_ok (mn_get)) (mt_leaf_ok (mn_isto)))) (mt_node_ok (mt_leaf_ok (mn_aload)) (mt_node_ok (mt_leaf_ok (mn_iload)) (mt_leaf_ok (rfl))))) (mt_node_ok (mt_node_ok (mt_leaf_ok (mn_isto)) (mt_node_ok (mt_leaf_ok (mn_iinc)) (mt_leaf_ok (mn_aload)))) (mt_node_ok (mt_leaf_ok (mn_get)) (mt_node_ok (mt_leaf_ok (mn_isto)) (mt_leaf_ok (mn_push)))))) (mt_node_ok (mt_node_ok (mt_node_ok (mt_leaf_ok (mn_isto)) (mt_node_ok (mt_leaf_ok (mn_iload)) (mt_leaf_ok (mn_iload)))) (mt_node_ok (mt_leaf_ok (mn_if2)) (mt_node_ok (mt_leaf_ok (mn_aload)) (mt_leaf_ok (mn_iload))))) (mt_node_ok (mt_node_ok (mt_leaf_ok (rfl)) (mt_node_ok (mt_leaf_ok (mn_isto)) (mt_leaf_ok (mn_iload)))) (mt_node_ok (mt_leaf_ok (mn_push)) (mt_node_ok (mt_leaf_ok (mn_push)) (mt_leaf_ok (mn_push))))))) (mt_node_ok (mt_node_ok (mt_node_ok (mt_node_ok (mt_leaf_ok (rfl)) (mt_node_ok (mt_leaf_ok (mn_if)) (mt_leaf_ok (mn_iload)))) (mt_node_ok (mt_leaf_ok (mn_push)) (mt_node_ok (mt_leaf_ok (mn_bin)) (mt_leaf_ok (mn_if))))) (mt_node_ok (mt_node_ok (mt_leaf_ok (mn_iload)) (mt_node_ok (mt_leaf_ok (mn_push)) (mt_leaf_ok (mn_bin)))) (mt_node_ok (mt_leaf_ok (mn_if)) (mt_node_ok (mt_leaf_ok (mn_aload)) (mt_leaf_ok (mn_get)))))) (mt_node_ok (mt_node_ok (mt_node_ok (mt_leaf_ok (mn_push)) (mt_node_ok (mt_leaf_ok (mn_bin)) (mt_leaf_ok (mn_if)))) (mt_node_ok (mt_leaf_ok (mn_iload)) (mt_node_ok (mt_leaf_ok (mn_push)) (mt_leaf_ok (mn_bin))))) (mt_node_ok (mt_node_ok (mt_leaf_ok (mn_push)) (mt_node_ok (mt_leaf_ok (mn_if2)) (mt_leaf_ok (mn_aload)))) (mt_node_ok (mt_leaf_ok (mn_push)) (mt_node_ok (mt_leaf_ok (mn_iload)) (mt_leaf_ok (rfl)))))))
theorem mz_189_1 {g : xe_G} : mt_all (mnP mS) (mb_189_1 g) := mt_node_ok (mt_node_ok (mt_node_ok (mt_node_ok (mt_node_ok (mt_leaf_ok (trivial)) (mt_node_ok (mt_leaf_ok (mn_aload)) (mt_leaf_ok (mn_aload)))) (mt_node_ok (mt_leaf_ok (mn_iload)) (mt_node_ok (mt_leaf_ok (mn_push)) (mt_leaf_ok (mn_bin))))) (mt_node_ok (mt_node_ok (mt_leaf_ok (rfl)) (mt_node_ok (mt_leaf_ok (rfl)) (mt_leaf_ok (mn_push)))) (mt_node_ok (mt_leaf_ok (mn_if2)) (mt_node_ok (mt_leaf_ok (mn_aload)) (mt_leaf_ok (mn_aload)))))) (mt_node_ok (mt_node_ok (mt_node_ok (mt_leaf_ok (mn_aload)) (mt_node_ok (mt_leaf_ok (mn_iload)) (mt_leaf_ok (mn_push)))) (mt_node_ok (mt_leaf_ok (mn_bin)) (mt_node_ok (mt_leaf_ok (rfl)) (mt_leaf_ok (rfl))))) (mt_node_ok (mt_node_ok (mt_leaf_ok (mn_push)) (mt_node_ok (mt_leaf_ok (rfl)) (mt_leaf_ok (mn_if)))) (mt_node_ok (mt_leaf_ok (mn_aload)) (mt_node_ok (mt_leaf_ok (mn_push)) (mt_leaf_ok (mn_iload))))))) (mt_node_ok (mt_node_ok (mt_node_ok (mt_node_ok (mt_leaf_ok (mn_push)) (mt_node_ok (mt_leaf_ok (mn_bin)) (mt_leaf_ok (rfl)))) (mt_node_ok (mt_leaf_ok (trivial)) (mt_node_ok (mt_leaf_ok (mn_aload)) (mt_leaf_ok (mn_aload))))) (mt_node_ok (mt_node_ok (mt_leaf_ok (mn_iload)) (mt_node_ok (mt_leaf_ok (mn_push)) (mt_leaf_ok (mn_bin)))) (mt_node_ok (mt_leaf_ok (rfl)) (mt_node_ok (mt_leaf_ok (rfl)) (mt_leaf_ok (mn_push)))))) (mt_node_ok (mt_node_ok (mt_node_ok (mt_leaf_ok (mn_if2)) (mt_node_ok (mt_leaf_ok (mn_aload)) (mt_leaf_ok (mn_aload)))) (mt_node_ok (mt_leaf_ok (mn_aload)) (mt_node_ok (mt_leaf_ok (mn_iload)) (mt_leaf_ok (mn_push))))) (mt_node_ok (mt_node_ok (mt_leaf_ok (mn_bin)) (mt_node_ok (mt_leaf_ok (rfl)) (mt_leaf_ok (rfl)))) (mt_node_ok (mt_leaf_ok (rfl)) (mt_node_ok (mt_leaf_ok (mn_if)) (mt_leaf_ok (mn_aload)))))))
theorem mz_189_2 {g : xe_G} : mt_all (mnP mS) (mb_189_2 g) := mt_node_ok (mt_node_ok (mt_node_ok (mt_node_ok (mt_node_ok (mt_leaf_ok (mn_push)) (mt_node_ok (mt_leaf_ok (mn_iload)) (mt_leaf_ok (mn_push)))) (mt_node_ok (mt_leaf_ok (mn_bin)) (mt_node_ok (mt_leaf_ok (rfl)) (mt_leaf_ok (trivial))))) (mt_node_ok (mt_node_ok (mt_leaf_ok (mn_aload)) (mt_node_ok (mt_leaf_ok (mn_get)) (mt_leaf_ok (mn_isto)))) (mt_node_ok (mt_leaf_ok (mn_aload)) (mt_node_ok (mt_leaf_ok (mn_get)) (mt_leaf_ok (mn_iload)))))) (mt_node_ok (mt_node_ok (mt_node_ok (mt_leaf_ok (mn_iload)) (mt_node_ok (mt_leaf_ok (mn_ast)) (mt_leaf_ok (mn_aload)))) (mt_node_ok (mt_leaf_ok (mn_get)) (mt_node_ok (mt_leaf_ok (mn_iload)) (mt_leaf_ok (mn_aload))))) (mt_node_ok (mt_node_ok (mt_leaf_ok (mn_aload)) (mt_node_ok (mt_leaf_ok (mn_iload)) (mt_leaf_ok (mn_push)))) (mt_node_ok (mt_leaf_ok (mn_bin)) (mt_node_ok (mt_leaf_ok (rfl)) (mt_leaf_ok (rfl))))))) (mt_node_ok (mt_node_ok (mt_node_ok (mt_node_ok (mt_leaf_ok (mn_ast)) (mt_node_ok (mt_leaf_ok (mn_aload)) (mt_leaf_ok (mn_get)))) (mt_node_ok (mt_leaf_ok (mn_iload)) (mt_node_ok (mt_leaf_ok (mn_aload)) (mt_leaf_ok (mn_aload))))) (mt_node_ok (mt_node_ok (mt_leaf_ok (mn_iload)) (mt_node_ok (mt_leaf_ok (mn_push)) (mt_leaf_ok (mn_bin)))) (mt_node_ok (mt_leaf_ok (rfl)) (mt_node_ok (mt_leaf_ok (rfl)) (mt_leaf_ok (mn_ast)))))) (mt_node_ok (mt_node_ok (mt_node_ok (mt_leaf_ok (mn_aload)) (mt_node_ok (mt_leaf_ok (mn_get)) (mt_leaf_ok (mn_iload)))) (mt_node_ok (mt_leaf_ok (mn_push)) (mt_node_ok (mt_leaf_ok (mn_ast)) (mt_leaf_ok (mn_aload))))) (mt_node_ok (mt_node_ok (mt_leaf_ok (mn_get)) (mt_node_ok (mt_leaf_ok (mn_iload)) (mt_leaf_ok (mn_push)))) (mt_node_ok (mt_leaf_ok (mn_ast)) (mt_node_ok (mt_leaf_ok (mn_aload)) (mt_leaf_ok (mn_get)))))))
theorem mz_189_3 {g : xe_G} : mt_all (mnP mS) (mb_189_3 g) := mt_node_ok (mt_node_ok (mt_node_ok (mt_node_ok (mt_node_ok (mt_leaf_ok (mn_iload)) (mt_node_ok (mt_leaf_ok (mn_aload)) (mt_leaf_ok (mn_iload)))) (mt_node_ok (mt_leaf_ok (mn_push)) (mt_node_ok (mt_leaf_ok (mn_bin)) (mt_leaf_ok (rfl))))) (mt_node_ok (mt_node_ok (mt_leaf_ok (mn_ast)) (mt_node_ok (mt_leaf_ok (mn_aload)) (mt_leaf_ok (mn_get)))) (mt_node_ok (mt_leaf_ok (mn_iload)) (mt_node_ok (mt_leaf_ok (mn_aload)) (mt_leaf_ok (mn_iload)))))) (mt_node_ok (mt_node_ok (mt_node_ok (mt_leaf_ok (mn_push)) (mt_node_ok (mt_leaf_ok (mn_bin)) (mt_leaf_ok (rfl)))) (mt_node_ok (mt_leaf_ok (mn_ast)) (mt_node_ok (mt_leaf_ok (mn_iload)) (mt_leaf_ok (mn_isto))))) (mt_node_ok (mt_node_ok (mt_leaf_ok (mn_iload)) (mt_node_ok (mt_leaf_ok (mn_iload)) (mt_leaf_ok (mn_if2)))) (mt_node_ok (mt_leaf_ok (mn_aload)) (mt_node_ok (mt_leaf_ok (mn_get)) (mt_leaf_ok (mn_iload))))))) (mt_node_ok (mt_node_ok (mt_node_ok (mt_node_ok (mt_leaf_ok (mn_ald)) (mt_node_ok (mt_leaf_ok (mn_aload)) (mt_leaf_ok (mn_get)))) (mt_node_ok (mt_leaf_ok (mn_iload)) (mt_node_ok (mt_leaf_ok (mn_ald)) (mt_leaf_ok (mn_if2))))) (mt_node_ok (mt_node_ok (mt_leaf_ok (mn_aload)) (mt_node_ok (mt_leaf_ok (mn_get)) (mt_leaf_ok (mn_iload)))) (mt_node_ok (mt_leaf_ok (mn_ald)) (mt_node_ok (mt_leaf_ok (mn_aload)) (mt_leaf_ok (mn_get)))))) (mt_node_ok (mt_node_ok (mt_node_ok (mt_leaf_ok (mn_iload)) (mt_node_ok (mt_leaf_ok (mn_ald)) (mt_leaf_ok (mn_if2)))) (mt_node_ok (mt_leaf_ok (mn_aload)) (mt_node_ok (mt_leaf_ok (mn_push)) (mt_leaf_ok (mn_iload))))) (mt_node_ok (mt_node_ok (mt_leaf_ok (rfl)) (mt_node_ok (mt_leaf_ok (trivial)) (mt_leaf_ok (mn_iinc)))) (mt_node_ok (mt_leaf_ok (mn_goto)) (mt_node_ok (mt_leaf_ok (mn_aload)) (mt_leaf_ok (mn_dup)))))))
theorem mz_189_4 {g : xe_G} : mt_all (mnP mS) (mb_189_4 g) := mt_node_ok (mt_node_ok (mt_node_ok (mt_node_ok (mt_leaf_ok (mn_get)) (mt_leaf_ok (mn_push))) (mt_node_ok (mt_leaf_ok (mn_bin)) (mt_node_ok (mt_leaf_ok (mn_put)) (mt_leaf_ok (mn_aload))))) (mt_node_ok (mt_node_ok (mt_leaf_ok (mn_iload)) (mt_leaf_ok (mn_push))) (mt_node_ok (mt_leaf_ok (mn_bin)) (mt_node_ok (mt_leaf_ok (mn_push)) (mt_leaf_ok (mn_iload)))))) (mt_node_ok (mt_node_ok (mt_node_ok (mt_leaf_ok (rfl)) (mt_leaf_ok (mn_isto))) (mt_node_ok (mt_leaf_ok (mn_iload)) (mt_node_ok (mt_leaf_ok (mn_if)) (mt_leaf_ok (mn_push))))) (mt_node_ok (mt_node_ok (mt_leaf_ok (trivial)) (mt_leaf_ok (mn_iinc))) (mt_node_ok (mt_leaf_ok (mn_goto)) (mt_node_ok (mt_leaf_ok (mn_push)) (mt_leaf_ok (trivial))))))
theorem mz_189 {g : xe_G} : mt_all (mnP mS) (mb_189 g).2.1 := mt_node_ok (mt_node_ok ((mz_189_0 (g := g))) ((mz_189_1 (g := g)))) (mt_node_ok ((mz_189_2 (g := g))) (mt_node_ok ((mz_189_3 (g := g))) ((mz_189_4 (g := g)))))
theorem mz_190_0 {g : xe_G} : mt_all (mnP mS) (mb_190_0 g) := mt_node_ok (mt_node_ok (mt_node_ok (mt_node_ok (mt_node_ok (mt_leaf_ok (mn_aload)) (mt_node_ok (mt_leaf_ok (mn_push)) (mt_leaf_ok (mn_put)))) (mt_node_ok (mt_leaf_ok (mn_aload)) (mt_node_ok (mt_leaf_ok (mn_push)) (mt_leaf_ok (mn_put))))) (mt_node_ok (mt_node_ok (mt_leaf_ok (mn_aload)) (mt_node_ok (mt_leaf_ok (mn_push)) (mt_leaf_ok (mn_put)))) (mt_node_ok (mt_leaf_ok (mn_aload)) (mt_node_ok (mt_leaf_ok (mn_push)) (mt_leaf_ok (mn_put)))))) (mt_node_ok (mt_node_ok (mt_node_ok (mt_leaf_ok (mn_aload)) (mt_node_ok (mt_leaf_ok (mn_push)) (mt_leaf_ok (mn_put)))) (mt_node_ok (mt_leaf_ok (mn_aload)) (mt_node_ok (mt_leaf_ok (mn_push)) (mt_leaf_ok (mn_put))))) (mt_node_ok (mt_node_ok (mt_leaf_ok (mn_aload)) (mt_node_ok (mt_leaf_ok (mn_push)) (mt_leaf_ok (mn_put)))) (mt_node_ok (mt_leaf_ok (mn_aload)) (mt_node_ok (mt_leaf_ok (mn_push)) (mt_leaf_ok (mn_put))))))) (mt_node_ok (mt_node_ok (mt_node_ok (mt_node_ok (mt_leaf_ok (mn_aload)) (mt_node_ok (mt_leaf_ok (rfl)) (mt_leaf_ok (mn_if)))) (mt_node_ok (mt_leaf_ok (mn_aload)) (mt_node_ok (mt_leaf_ok (rfl)) (mt_leaf_ok (mn_if))))) (mt_node_ok (mt_node_ok (mt_leaf_ok (mn_aload)) (mt_node_ok (mt_leaf_ok (rfl)) (mt_leaf_ok (mn_if)))) (mt_node_ok (mt_leaf_ok (mn_aload)) (mt_node_ok (mt_leaf_ok (rfl)) (mt_leaf_ok (mn_if)))))) (mt_node_ok (mt_node_ok (mt_node_ok (mt_leaf_ok (mn_aload)) (mt_node_ok (mt_leaf_ok (rfl)) (mt_leaf_ok (mn_if)))) (mt_node_ok (mt_leaf_ok (mn_push)) (mt_node_ok (mt_leaf_ok (trivial)) (mt_leaf_ok (mn_aload))))) (mt_node_ok (mt_node_ok (mt_leaf_ok (mn_aload)) (mt_node_ok (mt_leaf_ok (mn_get)) (mt_leaf_ok (mn_push)))) (mt_node_ok (mt_leaf_ok (mn_push)) (mt_node_ok (mt_leaf_ok (rfl)) (mt_leaf_ok (mn_if)))))))
theorem mz_190_1 {g : xe_G} : mt_all (mnP mS) (mb_190_1 g) := mt_node_ok (mt_node_ok (mt_node_ok (mt_node_ok (mt_node_ok (mt_leaf_ok (mn_push)) (mt_leaf_ok (trivial))) (mt_node_ok (mt_leaf_ok (mn_push)) (mt_node_ok (mt_leaf_ok (mn_isto)) (mt_leaf_ok (mn_iload))))) (mt_node_ok (mt_node_ok (mt_leaf_ok (mn_aload)) (mt_leaf_ok (mn_get))) (mt_node_ok (mt_leaf_ok (mn_if2)) (mt_node_ok (mt_leaf_ok (mn_aload)) (mt_leaf_ok (mn_iload)))))) (mt_node_ok (mt_node_ok (mt_node_ok (mt_leaf_ok (rfl)) (mt_leaf_ok (mn_isto))) (mt_node_ok (mt_leaf_ok (mn_iload)) (mt_node_ok (mt_leaf_ok (mn_push)) (mt_leaf_ok (mn_if2))))) (mt_node_ok (mt_node_ok (mt_leaf_ok (mn_iload)) (mt_leaf_ok (mn_push))) (mt_node_ok (mt_leaf_ok (mn_if2)) (mt_node_ok (mt_leaf_ok (mn_aload)) (mt_leaf_ok (mn_iload))))))) (mt_node_ok (mt_node_ok (mt_node_ok (mt_node_ok (mt_leaf_ok (mn_push)) (mt_leaf_ok (rfl))) (mt_node_ok (mt_leaf_ok (mn_aload)) (mt_node_ok (mt_leaf_ok (mn_get)) (mt_leaf_ok (mn_if2))))) (mt_node_ok (mt_node_ok (mt_leaf_ok (mn_aload)) (mt_leaf_ok (mn_push))) (mt_node_ok (mt_leaf_ok (mn_aload)) (mt_node_ok (mt_leaf_ok (mn_get)) (mt_leaf_ok (mn_aload)))))) (mt_node_ok (mt_node_ok (mt_node_ok (mt_leaf_ok (mn_get)) (mt_leaf_ok (mn_iload))) (mt_node_ok (mt_leaf_ok (mn_bin)) (mt_node_ok (mt_leaf_ok (mn_ald)) (mt_leaf_ok (rfl))))) (mt_node_ok (mt_node_ok (mt_leaf_ok (trivial)) (mt_leaf_ok (mn_iinc))) (mt_node_ok (mt_leaf_ok (mn_goto)) (mt_node_ok (mt_leaf_ok (mn_push)) (mt_leaf_ok (trivial)))))))
theorem mz_190 {g : xe_G} : mt_all (mnP mS) (mb_190 g).2.1 := mt_node_ok ((mz_190_0 (g := g))) ((mz_190_1 (g := g)))
theorem mz_191_0 {g : xe_G} : mt_all (mnP mS) (mb_191_0 g) := mt_node_ok (mt_node_ok (mt_node_ok (mt_node_ok (mt_node_ok (mt_leaf_ok (mn_aload)) (mt_node_ok (mt_leaf_ok (mn_get)) (mt_leaf_ok (mn_isto)))) (mt_node_ok (mt_leaf_ok (mn_aload)) (mt_node_ok (mt_leaf_ok (mn_iload)) (mt_leaf_ok (rfl))))) (mt_node_ok (mt_node_ok (mt_leaf_ok (mn_isto)) (mt_node_ok (mt_leaf_ok (mn_iinc)) (mt_leaf_ok (mn_aload)))) (mt_node_ok (mt_leaf_ok (mn_get)) (mt_node_ok (mt_leaf_ok (mn_isto)) (mt_leaf_ok (mn_aload)))))) (mt_node_ok (mt_node_ok (mt_node_ok (mt_leaf_ok (mn_get)) (mt_node_ok (mt_leaf_ok (mn_push)) (mt_leaf_ok (mn_bin)))) (mt_node_ok (mt_leaf_ok (mn_if)) (mt_node_ok (mt_leaf_ok (mn_push)) (mt_leaf_ok (mn_goto))))) (mt_node_ok (mt_node_ok (mt_leaf_ok (mn_push)) (mt_node_ok (mt_leaf_ok (mn_isto)) (mt_leaf_ok (mn_push)))) (mt_node_ok (mt_leaf_ok (mn_isto)) (mt_node_ok (mt_leaf_ok (mn_iload)) (mt_leaf_ok (mn_iload))))))) (mt_node_ok (mt_node_ok (mt_node_ok (mt_node_ok (mt_leaf_ok (mn_if2)) (mt_node_ok (mt_leaf_ok (mn_aload)) (mt_leaf_ok (mn_iload)))) (mt_node_ok (mt_leaf_ok (rfl)) (mt_node_ok (mt_leaf_ok (mn_isto)) (mt_leaf_ok (mn_aload))))) (mt_node_ok (mt_node_ok (mt_leaf_ok (mn_aload)) (mt_node_ok (mt_leaf_ok (mn_iload)) (mt_leaf_ok (mn_push)))) (mt_node_ok (mt_leaf_ok (mn_bin)) (mt_node_ok (mt_leaf_ok (rfl)) (mt_leaf_ok (rfl)))))) (mt_node_ok (mt_node_ok (mt_node_ok (mt_leaf_ok (mn_push)) (mt_node_ok (mt_leaf_ok (mn_if2)) (mt_leaf_ok (mn_aload)))) (mt_node_ok (mt_leaf_ok (mn_aload)) (mt_node_ok (mt_leaf_ok (mn_iload)) (mt_leaf_ok (mn_push))))) (mt_node_ok (mt_node_ok (mt_leaf_ok (mn_bin)) (mt_node_ok (mt_leaf_ok (rfl)) (mt_leaf_ok (rfl)))) (mt_node_ok (mt_leaf_ok (mn_goto)) (mt_node_ok (mt_leaf_ok (mn_push)) (mt_leaf_ok (mn_isto)))))))
theorem mz_191_1 {g : xe_G} : mt_all (mnP mS) (mb_191_1 g) := mt_node_ok (mt_node_ok (mt_node_ok (mt_node_ok (mt_node_ok (mt_leaf_ok (mn_iload)) (mt_node_ok (mt_leaf_ok (mn_aload)) (mt_leaf_ok (mn_get)))) (mt_node_ok (mt_leaf_ok (mn_if2)) (mt_node_ok (mt_leaf_ok (mn_push)) (mt_leaf_ok (mn_goto))))) (mt_node_ok (mt_node_ok (mt_leaf_ok (mn_push)) (mt_node_ok (mt_leaf_ok (mn_isto)) (mt_leaf_ok (mn_iload)))) (mt_node_ok (mt_leaf_ok (mn_aload)) (mt_node_ok (mt_leaf_ok (mn_get)) (mt_leaf_ok (mn_if2)))))) (mt_node_ok (mt_node_ok (mt_node_ok (mt_leaf_ok (mn_push)) (mt_node_ok (mt_leaf_ok (mn_goto)) (mt_leaf_ok (mn_push)))) (mt_node_ok (mt_leaf_ok (mn_isto)) (mt_node_ok (mt_leaf_ok (mn_iload)) (mt_leaf_ok (mn_if))))) (mt_node_ok (mt_node_ok (mt_leaf_ok (mn_iload)) (mt_node_ok (mt_leaf_ok (mn_if)) (mt_leaf_ok (mn_iload)))) (mt_node_ok (mt_leaf_ok (mn_if)) (mt_node_ok (mt_leaf_ok (mn_iload)) (mt_leaf_ok (mn_if))))))) (mt_node_ok (mt_node_ok (mt_node_ok (mt_node_ok (mt_leaf_ok (mn_aload)) (mt_node_ok (mt_leaf_ok (mn_iload)) (mt_leaf_ok (mn_push)))) (mt_node_ok (mt_leaf_ok (rfl)) (mt_node_ok (mt_leaf_ok (mn_if)) (mt_leaf_ok (mn_aload))))) (mt_node_ok (mt_node_ok (mt_leaf_ok (mn_push)) (mt_node_ok (mt_leaf_ok (mn_iload)) (mt_leaf_ok (mn_push)))) (mt_node_ok (mt_leaf_ok (mn_bin)) (mt_node_ok (mt_leaf_ok (rfl)) (mt_leaf_ok (trivial)))))) (mt_node_ok (mt_node_ok (mt_node_ok (mt_leaf_ok (mn_iload)) (mt_node_ok (mt_leaf_ok (mn_if)) (mt_leaf_ok (mn_aload)))) (mt_node_ok (mt_leaf_ok (mn_iload)) (mt_node_ok (mt_leaf_ok (mn_iload)) (mt_leaf_ok (mn_iload))))) (mt_node_ok (mt_node_ok (mt_leaf_ok (rfl)) (mt_node_ok (mt_leaf_ok (mn_if)) (mt_leaf_ok (mn_aload)))) (mt_node_ok (mt_leaf_ok (mn_push)) (mt_node_ok (mt_leaf_ok (mn_iload)) (mt_leaf_ok (rfl)))))))
theorem mz_191_2 {g : xe_G} : mt_all (mnP mS) (mb_191_2 g) := mt_node_ok (mt_node_ok (mt_node_ok (mt_node_ok (mt_node_ok (mt_leaf_ok (trivial)) (mt_node_ok (mt_leaf_ok (mn_aload)) (mt_leaf_ok (mn_aload)))) (mt_node_ok (mt_leaf_ok (mn_iload)) (mt_node_ok (mt_leaf_ok (mn_push)) (mt_leaf_ok (mn_bin))))) (mt_node_ok (mt_node_ok (mt_leaf_ok (rfl)) (mt_node_ok (mt_leaf_ok (rfl)) (mt_leaf_ok (mn_push)))) (mt_node_ok (mt_leaf_ok (mn_if2)) (mt_node_ok (mt_leaf_ok (mn_aload)) (mt_leaf_ok (mn_aload)))))) (mt_node_ok (mt_node_ok (mt_node_ok (mt_leaf_ok (mn_iload)) (mt_node_ok (mt_leaf_ok (mn_push)) (mt_leaf_ok (mn_bin)))) (mt_node_ok (mt_leaf_ok (rfl)) (mt_node_ok (mt_leaf_ok (rfl)) (mt_leaf_ok (mn_goto))))) (mt_node_ok (mt_node_ok (mt_leaf_ok (mn_push)) (mt_node_ok (mt_leaf_ok (mn_isto)) (mt_leaf_ok (mn_iload)))) (mt_node_ok (mt_leaf_ok (mn_if)) (mt_node_ok (mt_leaf_ok (mn_aload)) (mt_leaf_ok (mn_iload))))))) (mt_node_ok (mt_node_ok (mt_node_ok (mt_node_ok (mt_leaf_ok (rfl)) (mt_node_ok (mt_leaf_ok (mn_if)) (mt_leaf_ok (mn_iload)))) (mt_node_ok (mt_leaf_ok (mn_if)) (mt_node_ok (mt_leaf_ok (mn_aload)) (mt_leaf_ok (mn_iload))))) (mt_node_ok (mt_node_ok (mt_leaf_ok (rfl)) (mt_node_ok (mt_leaf_ok (mn_if)) (mt_leaf_ok (mn_aload)))) (mt_node_ok (mt_leaf_ok (mn_iload)) (mt_node_ok (mt_leaf_ok (rfl)) (mt_leaf_ok (mn_iload)))))) (mt_node_ok (mt_node_ok (mt_node_ok (mt_leaf_ok (mn_push)) (mt_node_ok (mt_leaf_ok (mn_bin)) (mt_leaf_ok (mn_if)))) (mt_node_ok (mt_leaf_ok (mn_push)) (mt_node_ok (mt_leaf_ok (mn_goto)) (mt_leaf_ok (mn_push))))) (mt_node_ok (mt_node_ok (mt_leaf_ok (mn_bin)) (mt_node_ok (mt_leaf_ok (mn_push)) (mt_leaf_ok (mn_if2)))) (mt_node_ok (mt_leaf_ok (mn_aload)) (mt_node_ok (mt_leaf_ok (mn_push)) (mt_leaf_ok (mn_iload)))))))
theorem mz_191_3 {g : xe_G} : mt_all (mnP mS) (mb_191_3 g) := mt_node_ok (mt_node_ok (mt_node_ok (mt_node_ok (mt_node_ok (mt_leaf_ok (mn_push)) (mt_node_ok (mt_leaf_ok (mn_bin)) (mt_leaf_ok (rfl)))) (mt_node_ok (mt_leaf_ok (trivial)) (mt_node_ok (mt_leaf_ok (mn_aload)) (mt_leaf_ok (mn_get))))) (mt_node_ok (mt_node_ok (mt_leaf_ok (mn_isto)) (mt_node_ok (mt_leaf_ok (mn_aload)) (mt_leaf_ok (mn_get)))) (mt_node_ok (mt_leaf_ok (mn_iload)) (mt_node_ok (mt_leaf_ok (mn_iload)) (mt_leaf_ok (mn_ast)))))) (mt_node_ok (mt_node_ok (mt_node_ok (mt_leaf_ok (mn_aload)) (mt_node_ok (mt_leaf_ok (mn_get)) (mt_leaf_ok (mn_iload)))) (mt_node_ok (mt_leaf_ok (mn_iload)) (mt_node_ok (mt_leaf_ok (mn_ast)) (mt_leaf_ok (mn_aload))))) (mt_node_ok (mt_node_ok (mt_leaf_ok (mn_get)) (mt_node_ok (mt_leaf_ok (mn_iload)) (mt_leaf_ok (mn_iload)))) (mt_node_ok (mt_leaf_ok (mn_ast)) (mt_node_ok (mt_leaf_ok (mn_aload)) (mt_leaf_ok (mn_get))))))) (mt_node_ok (mt_node_ok (mt_node_ok (mt_node_ok (mt_leaf_ok (mn_iload)) (mt_node_ok (mt_leaf_ok (mn_push)) (mt_leaf_ok (mn_ast)))) (mt_node_ok (mt_leaf_ok (mn_aload)) (mt_node_ok (mt_leaf_ok (mn_get)) (mt_leaf_ok (mn_iload))))) (mt_node_ok (mt_node_ok (mt_leaf_ok (mn_push)) (mt_node_ok (mt_leaf_ok (mn_ast)) (mt_leaf_ok (mn_aload)))) (mt_node_ok (mt_leaf_ok (mn_get)) (mt_node_ok (mt_leaf_ok (mn_iload)) (mt_leaf_ok (mn_push)))))) (mt_node_ok (mt_node_ok (mt_node_ok (mt_leaf_ok (mn_ast)) (mt_node_ok (mt_leaf_ok (mn_aload)) (mt_leaf_ok (mn_get)))) (mt_node_ok (mt_leaf_ok (mn_iload)) (mt_node_ok (mt_leaf_ok (mn_push)) (mt_leaf_ok (mn_ast))))) (mt_node_ok (mt_node_ok (mt_leaf_ok (mn_aload)) (mt_node_ok (mt_leaf_ok (mn_get)) (mt_leaf_ok (mn_iload)))) (mt_node_ok (mt_leaf_ok (mn_push)) (mt_node_ok (mt_leaf_ok (mn_ast)) (mt_leaf_ok (mn_aload)))))))
theorem mz_191_4 {g : xe_G} : mt_all (mnP mS) (mb_191_4 g) := mt_node_ok (mt_node_ok (mt_node_ok (mt_node_ok (mt_node_ok (mt_leaf_ok (mn_get)) (mt_node_ok (mt_leaf_ok (mn_iload)) (mt_leaf_ok (mn_push)))) (mt_node_ok (mt_leaf_ok (mn_ast)) (mt_node_ok (mt_leaf_ok (mn_aload)) (mt_leaf_ok (mn_get))))) (mt_node_ok (mt_node_ok (mt_leaf_ok (mn_iload)) (mt_node_ok (mt_leaf_ok (mn_push)) (mt_leaf_ok (mn_ast)))) (mt_node_ok (mt_leaf_ok (mn_aload)) (mt_node_ok (mt_leaf_ok (mn_get)) (mt_leaf_ok (mn_iload)))))) (mt_node_ok (mt_node_ok (mt_node_ok (mt_leaf_ok (mn_aload)) (mt_node_ok (mt_leaf_ok (mn_iload)) (mt_leaf_ok (mn_push)))) (mt_node_ok (mt_leaf_ok (mn_bin)) (mt_node_ok (mt_leaf_ok (rfl)) (mt_leaf_ok (mn_ast))))) (mt_node_ok (mt_node_ok (mt_leaf_ok (mn_aload)) (mt_node_ok (mt_leaf_ok (mn_get)) (mt_leaf_ok (mn_iload)))) (mt_node_ok (mt_leaf_ok (mn_aload)) (mt_node_ok (mt_leaf_ok (mn_iload)) (mt_leaf_ok (mn_push))))))) (mt_node_ok (mt_node_ok (mt_node_ok (mt_node_ok (mt_leaf_ok (mn_bin)) (mt_node_ok (mt_leaf_ok (rfl)) (mt_leaf_ok (mn_ast)))) (mt_node_ok (mt_leaf_ok (mn_iload)) (mt_node_ok (mt_leaf_ok (mn_isto)) (mt_leaf_ok (mn_iload))))) (mt_node_ok (mt_node_ok (mt_leaf_ok (mn_iload)) (mt_node_ok (mt_leaf_ok (mn_if2)) (mt_leaf_ok (mn_aload)))) (mt_node_ok (mt_leaf_ok (mn_get)) (mt_node_ok (mt_leaf_ok (mn_iload)) (mt_leaf_ok (mn_ald)))))) (mt_node_ok (mt_node_ok (mt_node_ok (mt_leaf_ok (mn_iload)) (mt_node_ok (mt_leaf_ok (mn_if2)) (mt_leaf_ok (mn_aload)))) (mt_node_ok (mt_leaf_ok (mn_get)) (mt_node_ok (mt_leaf_ok (mn_iload)) (mt_leaf_ok (mn_ald))))) (mt_node_ok (mt_node_ok (mt_leaf_ok (mn_iload)) (mt_node_ok (mt_leaf_ok (mn_if2)) (mt_leaf_ok (mn_aload)))) (mt_node_ok (mt_leaf_ok (mn_push)) (mt_node_ok (mt_leaf_ok (mn_iload)) (mt_leaf_ok (rfl)))))))
theorem mz_191_5 {g : xe_G} : mt_all (mnP mS) (mb_191_5 g) := mt_node_ok (mt_node_ok (mt_node_ok (mt_node_ok (mt_node_ok (mt_leaf_ok (trivial)) (mt_node_ok (mt_leaf_ok (mn_iinc)) (mt_leaf_ok (mn_goto)))) (mt_node_ok (mt_leaf_ok (mn_aload)) (mt_node_ok (mt_leaf_ok (mn_dup)) (mt_leaf_ok (mn_get))))) (mt_node_ok (mt_node_ok (mt_leaf_ok (mn_push)) (mt_node_ok (mt_leaf_ok (mn_bin)) (mt_leaf_ok (mn_put)))) (mt_node_ok (mt_leaf_ok (mn_aload)) (mt_node_ok (mt_leaf_ok (mn_iload)) (mt_leaf_ok (mn_push)))))) (mt_node_ok (mt_node_ok (mt_node_ok (mt_leaf_ok (mn_bin)) (mt_node_ok (mt_leaf_ok (mn_push)) (mt_leaf_ok (mn_iload)))) (mt_node_ok (mt_leaf_ok (rfl)) (mt_node_ok (mt_leaf_ok (mn_isto)) (mt_leaf_ok (mn_iload))))) (mt_node_ok (mt_node_ok (mt_leaf_ok (mn_if)) (mt_node_ok (mt_leaf_ok (mn_push)) (mt_leaf_ok (trivial)))) (mt_node_ok (mt_leaf_ok (mn_iload)) (mt_node_ok (mt_leaf_ok (mn_push)) (mt_leaf_ok (mn_bin))))))) (mt_node_ok (mt_node_ok (mt_node_ok (mt_node_ok (mt_leaf_ok (mn_if)) (mt_node_ok (mt_leaf_ok (mn_iload)) (mt_leaf_ok (mn_if)))) (mt_node_ok (mt_leaf_ok (mn_push)) (mt_node_ok (mt_leaf_ok (mn_goto)) (mt_leaf_ok (mn_push))))) (mt_node_ok (mt_node_ok (mt_leaf_ok (mn_isto)) (mt_node_ok (mt_leaf_ok (mn_aload)) (mt_leaf_ok (mn_get)))) (mt_node_ok (mt_leaf_ok (mn_iload)) (mt_node_ok (mt_leaf_ok (mn_ald)) (mt_leaf_ok (mn_if)))))) (mt_node_ok (mt_node_ok (mt_node_ok (mt_leaf_ok (mn_push)) (mt_node_ok (mt_leaf_ok (mn_goto)) (mt_leaf_ok (mn_push)))) (mt_node_ok (mt_leaf_ok (mn_iload)) (mt_node_ok (mt_leaf_ok (mn_if2)) (mt_leaf_ok (mn_aload))))) (mt_node_ok (mt_node_ok (mt_leaf_ok (mn_push)) (mt_node_ok (mt_leaf_ok (mn_iload)) (mt_leaf_ok (rfl)))) (mt_node_ok (mt_leaf_ok (trivial)) (mt_node_ok (mt_leaf_ok (mn_iload)) (mt_leaf_ok (mn_isto)))))))
theorem mz_191_6 {g : xe_G} : mt_all (mnP mS) (mb_191_6 g) := mt_node_ok (mt_node_ok (mt_leaf_ok (mn_iinc)) (mt_leaf_ok (mn_goto))) (mt_node_ok (mt_leaf_ok (mn_push)) (mt_leaf_ok (trivial)))
theorem mz_191 {g : xe_G} : mt_all (mnP mS) (mb_191 g).2.1 := mt_node_ok (mt_node_ok ((mz_191_0 (g := g))) (mt_node_ok ((mz_191_1 (g := g))) ((mz_191_2 (g := g))))) (mt_node_ok (mt_node_ok ((mz_191_3 (g := g))) ((mz_191_4 (g := g)))) (mt_node_ok ((mz_191_5 (g := g))) ((mz_191_6 (g := g)))))
theorem mz_192_0 {g : xe_G} : mt_all (mnP mS) (mb_192_0 g) := mt_node_ok (mt_node_ok (mt_node_ok (mt_node_ok (mt_node_ok (mt_leaf_ok (mn_push)) (mt_node_ok (mt_leaf_ok (mn_isto)) (mt_leaf_ok (mn_iload)))) (mt_node_ok (mt_leaf_ok (mn_aload)) (mt_node_ok (mt_leaf_ok (mn_get)) (mt_leaf_ok (mn_if2))))) (mt_node_ok (mt_node_ok (mt_leaf_ok (mn_aload)) (mt_node_ok (mt_leaf_ok (mn_get)) (mt_leaf_ok (mn_aload)))) (mt_node_ok (mt_leaf_ok (mn_get)) (mt_node_ok (mt_leaf_ok (mn_iload)) (mt_leaf_ok (mn_bin)))))) (mt_node_ok (mt_node_ok (mt_node_ok (mt_leaf_ok (mn_ald)) (mt_node_ok (mt_leaf_ok (mn_isto)) (mt_leaf_ok (mn_iload)))) (mt_node_ok (mt_leaf_ok (mn_if)) (mt_node_ok (mt_leaf_ok (mn_goto)) (mt_leaf_ok (mn_aload))))) (mt_node_ok (mt_node_ok (mt_leaf_ok (mn_iload)) (mt_node_ok (mt_leaf_ok (rfl)) (mt_leaf_ok (mn_isto)))) (mt_node_ok (mt_leaf_ok (mn_aload)) (mt_node_ok (mt_leaf_ok (mn_iload)) (mt_leaf_ok (mn_iload))))))) (mt_node_ok (mt_node_ok (mt_node_ok (mt_node_ok (mt_leaf_ok (mn_push)) (mt_node_ok (mt_leaf_ok (rfl)) (mt_leaf_ok (mn_if)))) (mt_node_ok (mt_leaf_ok (mn_aload)) (mt_node_ok (mt_leaf_ok (mn_push)) (mt_leaf_ok (mn_iload))))) (mt_node_ok (mt_node_ok (mt_leaf_ok (rfl)) (mt_node_ok (mt_leaf_ok (trivial)) (mt_leaf_ok (mn_iload)))) (mt_node_ok (mt_leaf_ok (mn_push)) (mt_node_ok (mt_leaf_ok (mn_if2)) (mt_leaf_ok (mn_aload)))))) (mt_node_ok (mt_node_ok (mt_node_ok (mt_leaf_ok (mn_aload)) (mt_node_ok (mt_leaf_ok (mn_aload)) (mt_leaf_ok (mn_iload)))) (mt_node_ok (mt_leaf_ok (mn_push)) (mt_node_ok (mt_leaf_ok (rfl)) (mt_leaf_ok (rfl))))) (mt_node_ok (mt_node_ok (mt_leaf_ok (rfl)) (mt_node_ok (mt_leaf_ok (mn_if)) (mt_leaf_ok (mn_aload)))) (mt_node_ok (mt_leaf_ok (mn_push)) (mt_node_ok (mt_leaf_ok (mn_iload)) (mt_leaf_ok (rfl)))))))
theorem mz_192_1 {g : xe_G} : mt_all (mnP mS) (mb_192_1 g) := mt_node_ok (mt_node_ok (mt_node_ok (mt_node_ok (mt_node_ok (mt_leaf_ok (trivial)) (mt_node_ok (mt_leaf_ok (mn_iload)) (mt_leaf_ok (mn_push)))) (mt_node_ok (mt_leaf_ok (mn_if2)) (mt_node_ok (mt_leaf_ok (mn_aload)) (mt_leaf_ok (mn_aload))))) (mt_node_ok (mt_node_ok (mt_leaf_ok (mn_aload)) (mt_node_ok (mt_leaf_ok (mn_iload)) (mt_leaf_ok (mn_push)))) (mt_node_ok (mt_leaf_ok (rfl)) (mt_node_ok (mt_leaf_ok (rfl)) (mt_leaf_ok (mn_push)))))) (mt_node_ok (mt_node_ok (mt_node_ok (mt_leaf_ok (rfl)) (mt_node_ok (mt_leaf_ok (mn_if)) (mt_leaf_ok (mn_aload)))) (mt_node_ok (mt_leaf_ok (mn_aload)) (mt_node_ok (mt_leaf_ok (mn_aload)) (mt_leaf_ok (mn_iload))))) (mt_node_ok (mt_node_ok (mt_leaf_ok (mn_push)) (mt_node_ok (mt_leaf_ok (rfl)) (mt_leaf_ok (rfl)))) (mt_node_ok (mt_leaf_ok (rfl)) (mt_node_ok (mt_leaf_ok (mn_if)) (mt_leaf_ok (mn_aload))))))) (mt_node_ok (mt_node_ok (mt_node_ok (mt_node_ok (mt_leaf_ok (mn_aload)) (mt_node_ok (mt_leaf_ok (mn_aload)) (mt_leaf_ok (mn_iload)))) (mt_node_ok (mt_leaf_ok (mn_push)) (mt_node_ok (mt_leaf_ok (rfl)) (mt_leaf_ok (rfl))))) (mt_node_ok (mt_node_ok (mt_leaf_ok (rfl)) (mt_node_ok (mt_leaf_ok (mn_if)) (mt_leaf_ok (mn_aload)))) (mt_node_ok (mt_leaf_ok (mn_push)) (mt_node_ok (mt_leaf_ok (mn_iload)) (mt_leaf_ok (rfl)))))) (mt_node_ok (mt_node_ok (mt_node_ok (mt_leaf_ok (trivial)) (mt_node_ok (mt_leaf_ok (mn_iload)) (mt_leaf_ok (mn_push)))) (mt_node_ok (mt_leaf_ok (mn_if2)) (mt_node_ok (mt_leaf_ok (mn_iload)) (mt_leaf_ok (mn_push))))) (mt_node_ok (mt_node_ok (mt_leaf_ok (mn_if2)) (mt_node_ok (mt_leaf_ok (mn_aload)) (mt_leaf_ok (mn_aload)))) (mt_node_ok (mt_leaf_ok (mn_aload)) (mt_node_ok (mt_leaf_ok (mn_iload)) (mt_leaf_ok (mn_push)))))))
theorem mz_192_2 {g : xe_G} : mt_all (mnP mS) (mb_192_2 g) := mt_node_ok (mt_node_ok (mt_node_ok (mt_node_ok (mt_node_ok (mt_leaf_ok (rfl)) (mt_node_ok (mt_leaf_ok (mn_push)) (mt_leaf_ok (rfl)))) (mt_node_ok (mt_leaf_ok (rfl)) (mt_node_ok (mt_leaf_ok (mn_isto)) (mt_leaf_ok (mn_aload))))) (mt_node_ok (mt_node_ok (mt_leaf_ok (mn_aload)) (mt_node_ok (mt_leaf_ok (mn_aload)) (mt_leaf_ok (mn_iload)))) (mt_node_ok (mt_leaf_ok (mn_push)) (mt_node_ok (mt_leaf_ok (rfl)) (mt_leaf_ok (mn_push)))))) (mt_node_ok (mt_node_ok (mt_node_ok (mt_leaf_ok (rfl)) (mt_node_ok (mt_leaf_ok (rfl)) (mt_leaf_ok (mn_isto)))) (mt_node_ok (mt_leaf_ok (mn_aload)) (mt_node_ok (mt_leaf_ok (mn_iload)) (mt_leaf_ok (rfl))))) (mt_node_ok (mt_node_ok (mt_leaf_ok (mn_isto)) (mt_node_ok (mt_leaf_ok (mn_iload)) (mt_leaf_ok (mn_push)))) (mt_node_ok (mt_leaf_ok (mn_if2)) (mt_node_ok (mt_leaf_ok (mn_aload)) (mt_leaf_ok (mn_iload))))))) (mt_node_ok (mt_node_ok (mt_node_ok (mt_node_ok (mt_leaf_ok (rfl)) (mt_node_ok (mt_leaf_ok (mn_goto)) (mt_leaf_ok (mn_aload)))) (mt_node_ok (mt_leaf_ok (mn_iload)) (mt_node_ok (mt_leaf_ok (rfl)) (mt_leaf_ok (mn_if))))) (mt_node_ok (mt_node_ok (mt_leaf_ok (mn_iload)) (mt_node_ok (mt_leaf_ok (mn_if)) (mt_leaf_ok (mn_iload)))) (mt_node_ok (mt_leaf_ok (mn_push)) (mt_node_ok (mt_leaf_ok (mn_if2)) (mt_leaf_ok (mn_iload)))))) (mt_node_ok (mt_node_ok (mt_node_ok (mt_leaf_ok (mn_aload)) (mt_node_ok (mt_leaf_ok (mn_get)) (mt_leaf_ok (mn_if2)))) (mt_node_ok (mt_leaf_ok (mn_aload)) (mt_node_ok (mt_leaf_ok (mn_iload)) (mt_leaf_ok (rfl))))) (mt_node_ok (mt_node_ok (mt_leaf_ok (mn_if)) (mt_node_ok (mt_leaf_ok (mn_push)) (mt_leaf_ok (mn_goto)))) (mt_node_ok (mt_leaf_ok (mn_push)) (mt_node_ok (mt_leaf_ok (mn_isto)) (mt_leaf_ok (mn_iload)))))))
theorem mz_192_3 {g : xe_G} : mt_all (mnP mS) (mb_192_3 g) := mt_node_ok (mt_node_ok (mt_node_ok (mt_node_ok (mt_node_ok (mt_leaf_ok (mn_if)) (mt_node_ok (mt_leaf_ok (mn_aload)) (mt_leaf_ok (mn_push)))) (mt_node_ok (mt_leaf_ok (mn_iload)) (mt_node_ok (mt_leaf_ok (rfl)) (mt_leaf_ok (trivial))))) (mt_node_ok (mt_node_ok (mt_leaf_ok (mn_iload)) (mt_node_ok (mt_leaf_ok (mn_push)) (mt_leaf_ok (mn_if2)))) (mt_node_ok (mt_leaf_ok (mn_aload)) (mt_node_ok (mt_leaf_ok (mn_iload)) (mt_leaf_ok (rfl)))))) (mt_node_ok (mt_node_ok (mt_node_ok (mt_leaf_ok (mn_if)) (mt_node_ok (mt_leaf_ok (mn_aload)) (mt_leaf_ok (mn_push)))) (mt_node_ok (mt_leaf_ok (mn_iload)) (mt_node_ok (mt_leaf_ok (rfl)) (mt_leaf_ok (trivial))))) (mt_node_ok (mt_node_ok (mt_leaf_ok (mn_iload)) (mt_node_ok (mt_leaf_ok (mn_push)) (mt_leaf_ok (mn_if2)))) (mt_node_ok (mt_leaf_ok (mn_aload)) (mt_node_ok (mt_leaf_ok (mn_aload)) (mt_leaf_ok (mn_aload))))))) (mt_node_ok (mt_node_ok (mt_node_ok (mt_node_ok (mt_leaf_ok (mn_iload)) (mt_node_ok (mt_leaf_ok (mn_push)) (mt_leaf_ok (rfl)))) (mt_node_ok (mt_leaf_ok (rfl)) (mt_node_ok (mt_leaf_ok (rfl)) (mt_leaf_ok (mn_if))))) (mt_node_ok (mt_node_ok (mt_leaf_ok (mn_aload)) (mt_node_ok (mt_leaf_ok (mn_push)) (mt_leaf_ok (mn_iload)))) (mt_node_ok (mt_leaf_ok (rfl)) (mt_node_ok (mt_leaf_ok (trivial)) (mt_leaf_ok (mn_iload)))))) (mt_node_ok (mt_node_ok (mt_node_ok (mt_leaf_ok (mn_push)) (mt_node_ok (mt_leaf_ok (mn_if2)) (mt_leaf_ok (mn_iload)))) (mt_node_ok (mt_leaf_ok (mn_push)) (mt_node_ok (mt_leaf_ok (mn_if2)) (mt_leaf_ok (mn_aload))))) (mt_node_ok (mt_node_ok (mt_leaf_ok (mn_aload)) (mt_node_ok (mt_leaf_ok (mn_aload)) (mt_leaf_ok (mn_iload)))) (mt_node_ok (mt_leaf_ok (mn_push)) (mt_node_ok (mt_leaf_ok (rfl)) (mt_leaf_ok (mn_push)))))))
theorem mz_192_4 {g : xe_G} : mt_all (mnP mS) (mb_192_4 g) := mt_node_ok (mt_node_ok (mt_node_ok (mt_node_ok (mt_node_ok (mt_leaf_ok (rfl)) (mt_leaf_ok (rfl))) (mt_node_ok (mt_leaf_ok (mn_isto)) (mt_leaf_ok (mn_aload)))) (mt_node_ok (mt_node_ok (mt_leaf_ok (mn_aload)) (mt_leaf_ok (mn_aload))) (mt_node_ok (mt_leaf_ok (mn_iload)) (mt_node_ok (mt_leaf_ok (mn_push)) (mt_leaf_ok (rfl)))))) (mt_node_ok (mt_node_ok (mt_node_ok (mt_leaf_ok (mn_push)) (mt_leaf_ok (rfl))) (mt_node_ok (mt_leaf_ok (rfl)) (mt_node_ok (mt_leaf_ok (mn_isto)) (mt_leaf_ok (mn_aload))))) (mt_node_ok (mt_node_ok (mt_leaf_ok (mn_iload)) (mt_leaf_ok (rfl))) (mt_node_ok (mt_leaf_ok (mn_if)) (mt_node_ok (mt_leaf_ok (mn_iload)) (mt_leaf_ok (mn_push))))))) (mt_node_ok (mt_node_ok (mt_node_ok (mt_node_ok (mt_leaf_ok (mn_if2)) (mt_leaf_ok (mn_aload))) (mt_node_ok (mt_leaf_ok (mn_iload)) (mt_leaf_ok (rfl)))) (mt_node_ok (mt_node_ok (mt_leaf_ok (mn_if)) (mt_leaf_ok (mn_goto))) (mt_node_ok (mt_leaf_ok (mn_aload)) (mt_node_ok (mt_leaf_ok (mn_iload)) (mt_leaf_ok (rfl)))))) (mt_node_ok (mt_node_ok (mt_node_ok (mt_leaf_ok (mn_if)) (mt_leaf_ok (mn_aload))) (mt_node_ok (mt_leaf_ok (mn_push)) (mt_node_ok (mt_leaf_ok (mn_iload)) (mt_leaf_ok (rfl))))) (mt_node_ok (mt_node_ok (mt_leaf_ok (trivial)) (mt_leaf_ok (mn_iinc))) (mt_node_ok (mt_leaf_ok (mn_goto)) (mt_node_ok (mt_leaf_ok (mn_push)) (mt_leaf_ok (trivial)))))))
theorem mz_192 {g : xe_G} : mt_all (mnP mS) (mb_192 g).2.1 := mt_node_ok (mt_node_ok ((mz_192_0 (g := g))) ((mz_192_1 (g := g)))) (mt_node_ok ((mz_192_2 (g := g))) (mt_node_ok ((mz_192_3 (g := g))) ((mz_192_4 (g := g)))))
theorem mz_193_0 {g : xe_G} : mt_all (mnP mS) (mb_193_0 g) := mt_node_ok (mt_node_ok (mt_leaf_ok (mn_aload)) (mt_node_ok (mt_leaf_ok (mn_aload)) (mt_leaf_ok (mn_iload)))) (mt_node_ok (mt_node_ok (mt_leaf_ok (mn_push)) (mt_leaf_ok (rfl))) (mt_node_ok (mt_leaf_ok (rfl)) (mt_leaf_ok (trivial))))
theorem mz_193 {g : xe_G} : mt_all (mnP mS) (mb_193 g).2.1 := (mz_193_0 (g := g))
theorem mz_194_0 {g : xe_G} : mt_all (mnP mS) (mb_194_0 g) := mt_node_ok (mt_node_ok (mt_node_ok (mt_node_ok (mt_leaf_ok (mn_aload)) (mt_node_ok (mt_leaf_ok (mn_iload)) (mt_leaf_ok (rfl)))) (mt_node_ok (mt_node_ok (mt_leaf_ok (mn_if)) (mt_leaf_ok (mn_aload))) (mt_node_ok (mt_leaf_ok (mn_iload)) (mt_leaf_ok (mn_push))))) (mt_node_ok (mt_node_ok (mt_node_ok (mt_leaf_ok (rfl)) (mt_leaf_ok (mn_push))) (mt_node_ok (mt_leaf_ok (mn_if2)) (mt_leaf_ok (mn_aload)))) (mt_node_ok (mt_node_ok (mt_leaf_ok (mn_iload)) (mt_leaf_ok (mn_push))) (mt_node_ok (mt_leaf_ok (rfl)) (mt_leaf_ok (mn_aload)))))) (mt_node_ok (mt_node_ok (mt_node_ok (mt_leaf_ok (mn_iload)) (mt_node_ok (mt_leaf_ok (rfl)) (mt_leaf_ok (mn_if2)))) (mt_node_ok (mt_node_ok (mt_leaf_ok (mn_push)) (mt_leaf_ok (mn_goto))) (mt_node_ok (mt_leaf_ok (mn_push)) (mt_leaf_ok (mn_goto))))) (mt_node_ok (mt_node_ok (mt_node_ok (mt_leaf_ok (mn_aload)) (mt_leaf_ok (mn_iload))) (mt_node_ok (mt_leaf_ok (mn_push)) (mt_leaf_ok (mn_aload)))) (mt_node_ok (mt_node_ok (mt_leaf_ok (mn_iload)) (mt_leaf_ok (rfl))) (mt_node_ok (mt_leaf_ok (rfl)) (mt_leaf_ok (trivial))))))
theorem mz_194 {g : xe_G} : mt_all (mnP mS) (mb_194 g).2.1 := (mz_194_0 (g := g))
theorem mz_195_0 {g : xe_G} : mt_all (mnP mS) (mb_195_0 g) := mt_node_ok (mt_node_ok (mt_node_ok (mt_node_ok (mt_node_ok (mt_leaf_ok (mn_aload)) (mt_leaf_ok (mn_push))) (mt_node_ok (mt_leaf_ok (mn_put)) (mt_node_ok (mt_leaf_ok (mn_aload)) (mt_leaf_ok (mn_push))))) (mt_node_ok (mt_node_ok (mt_leaf_ok (mn_put)) (mt_leaf_ok (mn_push))) (mt_node_ok (mt_leaf_ok (mn_isto)) (mt_node_ok (mt_leaf_ok (mn_iload)) (mt_leaf_ok (mn_push)))))) (mt_node_ok (mt_node_ok (mt_node_ok (mt_leaf_ok (mn_if2)) (mt_leaf_ok (mn_aload))) (mt_node_ok (mt_leaf_ok (mn_get)) (mt_node_ok (mt_leaf_ok (mn_iload)) (mt_leaf_ok (mn_push))))) (mt_node_ok (mt_node_ok (mt_leaf_ok (mn_ast)) (mt_node_ok (mt_leaf_ok (mn_iinc)) (mt_leaf_ok (mn_goto)))) (mt_node_ok (mt_leaf_ok (mn_aload)) (mt_node_ok (mt_leaf_ok (mn_aload)) (mt_leaf_ok (mn_push))))))) (mt_node_ok (mt_node_ok (mt_node_ok (mt_node_ok (mt_leaf_ok (rfl)) (mt_leaf_ok (mn_put))) (mt_node_ok (mt_leaf_ok (mn_aload)) (mt_node_ok (mt_leaf_ok (mn_aload)) (mt_leaf_ok (mn_push))))) (mt_node_ok (mt_node_ok (mt_leaf_ok (rfl)) (mt_node_ok (mt_leaf_ok (mn_put)) (mt_leaf_ok (mn_aload)))) (mt_node_ok (mt_leaf_ok (mn_aload)) (mt_node_ok (mt_leaf_ok (mn_push)) (mt_leaf_ok (rfl)))))) (mt_node_ok (mt_node_ok (mt_node_ok (mt_leaf_ok (mn_put)) (mt_leaf_ok (mn_aload))) (mt_node_ok (mt_leaf_ok (mn_push)) (mt_node_ok (mt_leaf_ok (mn_put)) (mt_leaf_ok (mn_aload))))) (mt_node_ok (mt_node_ok (mt_leaf_ok (mn_push)) (mt_node_ok (mt_leaf_ok (mn_put)) (mt_leaf_ok (mn_aload)))) (mt_node_ok (mt_leaf_ok (mn_push)) (mt_node_ok (mt_leaf_ok (mn_put)) (mt_leaf_ok (trivial)))))))
theorem mz_195 {g : xe_G} : mt_all (mnP mS) (mb_195 g).2.1 := (mz_195_0 (g := g))
theorem mz_196_0 {g : xe_G} : mt_all (mnP mS) (mb_196_0 g) := mt_node_ok (mt_node_ok (mt_node_ok (mt_node_ok (mt_node_ok (mt_leaf_ok (mn_iload)) (mt_node_ok (mt_leaf_ok (mn_iload)) (mt_leaf_ok (mn_bin)))) (mt_node_ok (mt_leaf_ok (mn_push)) (mt_node_ok (mt_leaf_ok (mn_if2)) (mt_leaf_ok (mn_push))))) (mt_node_ok (mt_node_ok (mt_leaf_ok (trivial)) (mt_node_ok (mt_leaf_ok (mn_aload)) (mt_leaf_ok (mn_iload)))) (mt_node_ok (mt_leaf_ok (mn_push)) (mt_node_ok (mt_leaf_ok (mn_bin)) (mt_leaf_ok (rfl)))))) (mt_node_ok (mt_node_ok (mt_node_ok (mt_leaf_ok (mn_lsto)) (mt_node_ok (mt_leaf_ok (mn_lload)) (mt_leaf_ok (mn_iload)))) (mt_node_ok (mt_leaf_ok (mn_iload)) (mt_node_ok (mt_leaf_ok (mn_bin)) (mt_leaf_ok (mn_push))))) (mt_node_ok (mt_node_ok (mt_leaf_ok (mn_bin)) (mt_node_ok (mt_leaf_ok (mn_i2l)) (mt_leaf_ok (mn_lcmp)))) (mt_node_ok (mt_leaf_ok (mn_if)) (mt_node_ok (mt_leaf_ok (mn_push)) (mt_leaf_ok (trivial))))))) (mt_node_ok (mt_node_ok (mt_node_ok (mt_node_ok (mt_leaf_ok (mn_iload)) (mt_node_ok (mt_leaf_ok (mn_push)) (mt_leaf_ok (mn_bin)))) (mt_node_ok (mt_leaf_ok (mn_lload)) (mt_node_ok (mt_leaf_ok (mn_l2i)) (mt_leaf_ok (mn_bin))))) (mt_node_ok (mt_node_ok (mt_leaf_ok (mn_isto)) (mt_node_ok (mt_leaf_ok (mn_iload)) (mt_leaf_ok (mn_push)))) (mt_node_ok (mt_leaf_ok (mn_bin)) (mt_node_ok (mt_leaf_ok (mn_iload)) (mt_leaf_ok (mn_if2)))))) (mt_node_ok (mt_node_ok (mt_node_ok (mt_leaf_ok (mn_push)) (mt_node_ok (mt_leaf_ok (trivial)) (mt_leaf_ok (mn_aload)))) (mt_node_ok (mt_leaf_ok (mn_iload)) (mt_node_ok (mt_leaf_ok (rfl)) (mt_leaf_ok (mn_isto))))) (mt_node_ok (mt_node_ok (mt_leaf_ok (mn_iload)) (mt_node_ok (mt_leaf_ok (mn_push)) (mt_leaf_ok (mn_bin)))) (mt_node_ok (mt_leaf_ok (mn_isto)) (mt_node_ok (mt_leaf_ok (mn_iload)) (mt_leaf_ok (mn_push)))))))
theorem mz_196_1 {g : xe_G} : mt_all (mnP mS) (mb_196_1 g) := mt_node_ok (mt_node_ok (mt_node_ok (mt_node_ok (mt_node_ok (mt_leaf_ok (mn_iload)) (mt_node_ok (mt_leaf_ok (mn_bin)) (mt_leaf_ok (mn_bin)))) (mt_node_ok (mt_leaf_ok (mn_isto)) (mt_node_ok (mt_leaf_ok (mn_iload)) (mt_leaf_ok (mn_push))))) (mt_node_ok (mt_node_ok (mt_leaf_ok (mn_bin)) (mt_node_ok (mt_leaf_ok (mn_iload)) (mt_leaf_ok (mn_if2)))) (mt_node_ok (mt_leaf_ok (mn_push)) (mt_node_ok (mt_leaf_ok (trivial)) (mt_leaf_ok (mn_iload)))))) (mt_node_ok (mt_node_ok (mt_node_ok (mt_leaf_ok (mn_isto)) (mt_node_ok (mt_leaf_ok (mn_aload)) (mt_leaf_ok (mn_iload)))) (mt_node_ok (mt_leaf_ok (rfl)) (mt_node_ok (mt_leaf_ok (mn_isto)) (mt_leaf_ok (mn_iinc))))) (mt_node_ok (mt_node_ok (mt_leaf_ok (mn_push)) (mt_node_ok (mt_leaf_ok (mn_isto)) (mt_leaf_ok (mn_iload)))) (mt_node_ok (mt_leaf_ok (mn_iload)) (mt_node_ok (mt_leaf_ok (mn_if2)) (mt_leaf_ok (mn_iload))))))) (mt_node_ok (mt_node_ok (mt_node_ok (mt_node_ok (mt_leaf_ok (mn_push)) (mt_node_ok (mt_leaf_ok (mn_bin)) (mt_leaf_ok (mn_iload)))) (mt_node_ok (mt_leaf_ok (mn_if2)) (mt_node_ok (mt_leaf_ok (mn_aload)) (mt_leaf_ok (mn_iload))))) (mt_node_ok (mt_node_ok (mt_leaf_ok (mn_push)) (mt_node_ok (mt_leaf_ok (mn_bin)) (mt_leaf_ok (rfl)))) (mt_node_ok (mt_leaf_ok (mn_iload)) (mt_node_ok (mt_leaf_ok (mn_iload)) (mt_leaf_ok (mn_bin)))))) (mt_node_ok (mt_node_ok (mt_node_ok (mt_leaf_ok (mn_push)) (mt_node_ok (mt_leaf_ok (mn_bin)) (mt_leaf_ok (mn_i2l)))) (mt_node_ok (mt_leaf_ok (mn_lcmp)) (mt_node_ok (mt_leaf_ok (mn_if)) (mt_leaf_ok (mn_push))))) (mt_node_ok (mt_node_ok (mt_leaf_ok (trivial)) (mt_node_ok (mt_leaf_ok (mn_iload)) (mt_leaf_ok (mn_push)))) (mt_node_ok (mt_leaf_ok (mn_aload)) (mt_node_ok (mt_leaf_ok (mn_iload)) (mt_leaf_ok (mn_push)))))))
theorem mz_196_2 {g : xe_G} : mt_all (mnP mS) (mb_196_2 g) := mt_node_ok (mt_node_ok (mt_node_ok (mt_node_ok (mt_node_ok (mt_leaf_ok (mn_bin)) (mt_node_ok (mt_leaf_ok (rfl)) (mt_leaf_ok (mn_l2i)))) (mt_node_ok (mt_leaf_ok (mn_bin)) (mt_node_ok (mt_leaf_ok (mn_bin)) (mt_leaf_ok (mn_isto))))) (mt_node_ok (mt_node_ok (mt_leaf_ok (mn_iinc)) (mt_node_ok (mt_leaf_ok (mn_goto)) (mt_leaf_ok (mn_iload)))) (mt_node_ok (mt_leaf_ok (mn_iload)) (mt_node_ok (mt_leaf_ok (mn_if2)) (mt_leaf_ok (mn_push)))))) (mt_node_ok (mt_node_ok (mt_node_ok (mt_leaf_ok (trivial)) (mt_node_ok (mt_leaf_ok (mn_lload)) (mt_leaf_ok (mn_push)))) (mt_node_ok (mt_leaf_ok (mn_lcmp)) (mt_node_ok (mt_leaf_ok (mn_if)) (mt_leaf_ok (mn_lload))))) (mt_node_ok (mt_node_ok (mt_leaf_ok (mn_push)) (mt_node_ok (mt_leaf_ok (mn_lcmp)) (mt_leaf_ok (mn_if)))) (mt_node_ok (mt_leaf_ok (mn_push)) (mt_node_ok (mt_leaf_ok (trivial)) (mt_leaf_ok (mn_aload))))))) (mt_node_ok (mt_node_ok (mt_node_ok (mt_node_ok (mt_leaf_ok (mn_aload)) (mt_node_ok (mt_leaf_ok (mn_get)) (mt_leaf_ok (mn_iload)))) (mt_node_ok (mt_leaf_ok (mn_ald)) (mt_node_ok (mt_leaf_ok (rfl)) (mt_leaf_ok (mn_aload))))) (mt_node_ok (mt_node_ok (mt_leaf_ok (mn_get)) (mt_node_ok (mt_leaf_ok (mn_iload)) (mt_leaf_ok (mn_ald)))) (mt_node_ok (mt_leaf_ok (mn_push)) (mt_node_ok (mt_leaf_ok (mn_bin)) (mt_leaf_ok (mn_if)))))) (mt_node_ok (mt_node_ok (mt_node_ok (mt_leaf_ok (mn_push)) (mt_node_ok (mt_leaf_ok (mn_goto)) (mt_leaf_ok (mn_push)))) (mt_node_ok (mt_leaf_ok (mn_bin)) (mt_node_ok (mt_leaf_ok (mn_isto)) (mt_leaf_ok (mn_aload))))) (mt_node_ok (mt_node_ok (mt_leaf_ok (mn_iload)) (mt_node_ok (mt_leaf_ok (mn_push)) (mt_leaf_ok (mn_bin)))) (mt_node_ok (mt_leaf_ok (rfl)) (mt_node_ok (mt_leaf_ok (mn_iload)) (mt_leaf_ok (mn_if2)))))))
theorem mz_196_3 {g : xe_G} : mt_all (mnP mS) (mb_196_3 g) := mt_node_ok (mt_node_ok (mt_node_ok (mt_node_ok (mt_node_ok (mt_leaf_ok (mn_push)) (mt_node_ok (mt_leaf_ok (trivial)) (mt_leaf_ok (mn_push)))) (mt_node_ok (mt_leaf_ok (mn_isto)) (mt_node_ok (mt_leaf_ok (mn_iload)) (mt_leaf_ok (mn_iload))))) (mt_node_ok (mt_node_ok (mt_leaf_ok (mn_if2)) (mt_node_ok (mt_leaf_ok (mn_iload)) (mt_leaf_ok (mn_push)))) (mt_node_ok (mt_leaf_ok (mn_iload)) (mt_node_ok (mt_leaf_ok (mn_bin)) (mt_leaf_ok (mn_bin)))))) (mt_node_ok (mt_node_ok (mt_node_ok (mt_leaf_ok (mn_isto)) (mt_node_ok (mt_leaf_ok (mn_aload)) (mt_leaf_ok (mn_iload)))) (mt_node_ok (mt_leaf_ok (rfl)) (mt_node_ok (mt_leaf_ok (mn_aload)) (mt_leaf_ok (mn_iload))))) (mt_node_ok (mt_node_ok (mt_leaf_ok (mn_push)) (mt_node_ok (mt_leaf_ok (mn_bin)) (mt_leaf_ok (rfl)))) (mt_node_ok (mt_leaf_ok (mn_if2)) (mt_node_ok (mt_leaf_ok (mn_aload)) (mt_leaf_ok (mn_iload))))))) (mt_node_ok (mt_node_ok (mt_node_ok (mt_node_ok (mt_leaf_ok (mn_push)) (mt_node_ok (mt_leaf_ok (mn_bin)) (mt_leaf_ok (rfl)))) (mt_node_ok (mt_leaf_ok (mn_i2l)) (mt_node_ok (mt_leaf_ok (mn_lload)) (mt_leaf_ok (mn_lcmp))))) (mt_node_ok (mt_node_ok (mt_leaf_ok (mn_if)) (mt_node_ok (mt_leaf_ok (mn_aload)) (mt_leaf_ok (mn_iload)))) (mt_node_ok (mt_leaf_ok (mn_push)) (mt_node_ok (mt_leaf_ok (mn_bin)) (mt_leaf_ok (rfl)))))) (mt_node_ok (mt_node_ok (mt_node_ok (mt_leaf_ok (mn_i2l)) (mt_node_ok (mt_leaf_ok (mn_lload)) (mt_leaf_ok (mn_lcmp)))) (mt_node_ok (mt_leaf_ok (mn_if)) (mt_node_ok (mt_leaf_ok (mn_aload)) (mt_leaf_ok (mn_iload))))) (mt_node_ok (mt_node_ok (mt_leaf_ok (mn_push)) (mt_node_ok (mt_leaf_ok (mn_bin)) (mt_leaf_ok (rfl)))) (mt_node_ok (mt_leaf_ok (mn_if)) (mt_node_ok (mt_leaf_ok (mn_aload)) (mt_leaf_ok (mn_aload)))))))
theorem mz_196_4 {g : xe_G} : mt_all (mnP mS) (mb_196_4 g) := mt_node_ok (mt_node_ok (mt_node_ok (mt_node_ok (mt_node_ok (mt_leaf_ok (mn_iload)) (mt_node_ok (mt_leaf_ok (mn_push)) (mt_leaf_ok (mn_bin)))) (mt_node_ok (mt_leaf_ok (rfl)) (mt_node_ok (mt_leaf_ok (rfl)) (mt_leaf_ok (mn_push))))) (mt_node_ok (mt_node_ok (mt_leaf_ok (mn_if2)) (mt_node_ok (mt_leaf_ok (mn_push)) (mt_leaf_ok (trivial)))) (mt_node_ok (mt_leaf_ok (mn_iinc)) (mt_node_ok (mt_leaf_ok (mn_goto)) (mt_leaf_ok (mn_aload)))))) (mt_node_ok (mt_node_ok (mt_node_ok (mt_leaf_ok (mn_get)) (mt_node_ok (mt_leaf_ok (mn_iload)) (mt_leaf_ok (mn_aload)))) (mt_node_ok (mt_leaf_ok (mn_iload)) (mt_node_ok (mt_leaf_ok (rfl)) (mt_leaf_ok (mn_ast))))) (mt_node_ok (mt_node_ok (mt_leaf_ok (mn_aload)) (mt_node_ok (mt_leaf_ok (mn_get)) (mt_leaf_ok (mn_iload)))) (mt_node_ok (mt_leaf_ok (mn_aload)) (mt_node_ok (mt_leaf_ok (mn_iload)) (mt_leaf_ok (mn_push))))))) (mt_node_ok (mt_node_ok (mt_node_ok (mt_node_ok (mt_leaf_ok (mn_bin)) (mt_node_ok (mt_leaf_ok (rfl)) (mt_leaf_ok (mn_ast)))) (mt_node_ok (mt_leaf_ok (mn_aload)) (mt_node_ok (mt_leaf_ok (mn_get)) (mt_leaf_ok (mn_iload))))) (mt_node_ok (mt_node_ok (mt_leaf_ok (mn_lload)) (mt_node_ok (mt_leaf_ok (mn_l2i)) (mt_leaf_ok (mn_ast)))) (mt_node_ok (mt_leaf_ok (mn_aload)) (mt_node_ok (mt_leaf_ok (mn_get)) (mt_leaf_ok (mn_iload)))))) (mt_node_ok (mt_node_ok (mt_node_ok (mt_leaf_ok (mn_aload)) (mt_node_ok (mt_leaf_ok (mn_get)) (mt_leaf_ok (mn_iload)))) (mt_node_ok (mt_leaf_ok (mn_bin)) (mt_node_ok (mt_leaf_ok (mn_push)) (mt_leaf_ok (mn_bin))))) (mt_node_ok (mt_node_ok (mt_leaf_ok (mn_ast)) (mt_node_ok (mt_leaf_ok (mn_aload)) (mt_leaf_ok (mn_get)))) (mt_node_ok (mt_leaf_ok (mn_iload)) (mt_node_ok (mt_leaf_ok (mn_aload)) (mt_leaf_ok (mn_get)))))))
theorem mz_196_5 {g : xe_G} : mt_all (mnP mS) (mb_196_5 g) := mt_node_ok (mt_node_ok (mt_node_ok (mt_node_ok (mt_leaf_ok (mn_iload)) (mt_leaf_ok (mn_bin))) (mt_node_ok (mt_leaf_ok (mn_ast)) (mt_leaf_ok (mn_aload)))) (mt_node_ok (mt_node_ok (mt_leaf_ok (mn_get)) (mt_leaf_ok (mn_iload))) (mt_node_ok (mt_leaf_ok (mn_iload)) (mt_node_ok (mt_leaf_ok (mn_ast)) (mt_leaf_ok (mn_aload)))))) (mt_node_ok (mt_node_ok (mt_node_ok (mt_leaf_ok (mn_iload)) (mt_leaf_ok (mn_push))) (mt_node_ok (mt_leaf_ok (mn_iload)) (mt_leaf_ok (rfl)))) (mt_node_ok (mt_node_ok (mt_leaf_ok (mn_if)) (mt_leaf_ok (mn_push))) (mt_node_ok (mt_leaf_ok (mn_goto)) (mt_node_ok (mt_leaf_ok (mn_push)) (mt_leaf_ok (trivial))))))
theorem mz_196 {g : xe_G} : mt_all (mnP mS) (mb_196 g).2.1 := mt_node_ok (mt_node_ok ((mz_196_0 (g := g))) (mt_node_ok ((mz_196_1 (g := g))) ((mz_196_2 (g := g))))) (mt_node_ok ((mz_196_3 (g := g))) (mt_node_ok ((mz_196_4 (g := g))) ((mz_196_5 (g := g)))))
theorem mz_197_0 {g : xe_G} : mt_all (mnP mS) (mb_197_0 g) := mt_node_ok (mt_node_ok (mt_node_ok (mt_node_ok (mt_node_ok (mt_leaf_ok (mn_iload)) (mt_node_ok (mt_leaf_ok (mn_iload)) (mt_leaf_ok (mn_bin)))) (mt_node_ok (mt_leaf_ok (mn_push)) (mt_node_ok (mt_leaf_ok (mn_if2)) (mt_leaf_ok (mn_push))))) (mt_node_ok (mt_node_ok (mt_leaf_ok (trivial)) (mt_node_ok (mt_leaf_ok (mn_aload)) (mt_leaf_ok (mn_iload)))) (mt_node_ok (mt_leaf_ok (rfl)) (mt_node_ok (mt_leaf_ok (mn_isto)) (mt_leaf_ok (mn_iload)))))) (mt_node_ok (mt_node_ok (mt_node_ok (mt_leaf_ok (mn_push)) (mt_node_ok (mt_leaf_ok (mn_bin)) (mt_leaf_ok (mn_isto)))) (mt_node_ok (mt_leaf_ok (mn_push)) (mt_node_ok (mt_leaf_ok (mn_isto)) (mt_leaf_ok (mn_iload))))) (mt_node_ok (mt_node_ok (mt_leaf_ok (mn_iload)) (mt_node_ok (mt_leaf_ok (mn_if2)) (mt_leaf_ok (mn_iload)))) (mt_node_ok (mt_leaf_ok (mn_push)) (mt_node_ok (mt_leaf_ok (mn_bin)) (mt_leaf_ok (mn_iload))))))) (mt_node_ok (mt_node_ok (mt_node_ok (mt_node_ok (mt_leaf_ok (mn_if2)) (mt_node_ok (mt_leaf_ok (mn_push)) (mt_leaf_ok (trivial)))) (mt_node_ok (mt_leaf_ok (mn_aload)) (mt_node_ok (mt_leaf_ok (mn_iload)) (mt_leaf_ok (mn_push))))) (mt_node_ok (mt_node_ok (mt_leaf_ok (mn_bin)) (mt_node_ok (mt_leaf_ok (rfl)) (mt_leaf_ok (mn_isto)))) (mt_node_ok (mt_leaf_ok (mn_iinc)) (mt_node_ok (mt_leaf_ok (mn_push)) (mt_leaf_ok (mn_isto)))))) (mt_node_ok (mt_node_ok (mt_node_ok (mt_leaf_ok (mn_iload)) (mt_node_ok (mt_leaf_ok (mn_iload)) (mt_leaf_ok (mn_if2)))) (mt_node_ok (mt_leaf_ok (mn_iload)) (mt_node_ok (mt_leaf_ok (mn_push)) (mt_leaf_ok (mn_bin))))) (mt_node_ok (mt_node_ok (mt_leaf_ok (mn_iload)) (mt_node_ok (mt_leaf_ok (mn_if2)) (mt_leaf_ok (mn_aload)))) (mt_node_ok (mt_leaf_ok (mn_iload)) (mt_node_ok (mt_leaf_ok (mn_push)) (mt_leaf_ok (mn_bin)))))))
theorem mz_197_1 {g : xe_G} : mt_all (mnP mS) (mb_197_1 g) := mt_node_ok (mt_node_ok (mt_node_ok (mt_node_ok (mt_node_ok (mt_leaf_ok (rfl)) (mt_node_ok (mt_leaf_ok (mn_iload)) (mt_leaf_ok (mn_iload)))) (mt_node_ok (mt_leaf_ok (mn_bin)) (mt_node_ok (mt_leaf_ok (mn_push)) (mt_leaf_ok (mn_bin))))) (mt_node_ok (mt_node_ok (mt_leaf_ok (mn_i2l)) (mt_node_ok (mt_leaf_ok (mn_lcmp)) (mt_leaf_ok (mn_if)))) (mt_node_ok (mt_leaf_ok (mn_push)) (mt_node_ok (mt_leaf_ok (trivial)) (mt_leaf_ok (mn_iload)))))) (mt_node_ok (mt_node_ok (mt_node_ok (mt_leaf_ok (mn_push)) (mt_node_ok (mt_leaf_ok (mn_aload)) (mt_leaf_ok (mn_iload)))) (mt_node_ok (mt_leaf_ok (mn_push)) (mt_node_ok (mt_leaf_ok (mn_bin)) (mt_leaf_ok (rfl))))) (mt_node_ok (mt_node_ok (mt_leaf_ok (mn_l2i)) (mt_node_ok (mt_leaf_ok (mn_bin)) (mt_leaf_ok (mn_bin)))) (mt_node_ok (mt_leaf_ok (mn_isto)) (mt_node_ok (mt_leaf_ok (mn_iinc)) (mt_leaf_ok (mn_goto))))))) (mt_node_ok (mt_node_ok (mt_node_ok (mt_node_ok (mt_leaf_ok (mn_iinc)) (mt_node_ok (mt_leaf_ok (mn_goto)) (mt_leaf_ok (mn_iload)))) (mt_node_ok (mt_leaf_ok (mn_iload)) (mt_node_ok (mt_leaf_ok (mn_if2)) (mt_leaf_ok (mn_push))))) (mt_node_ok (mt_node_ok (mt_leaf_ok (trivial)) (mt_node_ok (mt_leaf_ok (mn_iload)) (mt_leaf_ok (mn_push)))) (mt_node_ok (mt_leaf_ok (mn_bin)) (mt_node_ok (mt_leaf_ok (mn_isto)) (mt_leaf_ok (mn_push)))))) (mt_node_ok (mt_node_ok (mt_node_ok (mt_leaf_ok (mn_isto)) (mt_node_ok (mt_leaf_ok (mn_iload)) (mt_leaf_ok (mn_iload)))) (mt_node_ok (mt_leaf_ok (mn_if2)) (mt_node_ok (mt_leaf_ok (mn_aload)) (mt_leaf_ok (mn_aload))))) (mt_node_ok (mt_node_ok (mt_leaf_ok (mn_iload)) (mt_node_ok (mt_leaf_ok (rfl)) (mt_leaf_ok (rfl)))) (mt_node_ok (mt_leaf_ok (mn_push)) (mt_node_ok (mt_leaf_ok (mn_if2)) (mt_leaf_ok (mn_aload)))))))
theorem mz_197_2 {g : xe_G} : mt_all (mnP mS) (mb_197_2 g) := mt_node_ok (mt_node_ok (mt_node_ok (mt_node_ok (mt_node_ok (mt_leaf_ok (mn_aload)) (mt_node_ok (mt_leaf_ok (mn_aload)) (mt_leaf_ok (mn_iload)))) (mt_node_ok (mt_leaf_ok (rfl)) (mt_node_ok (mt_leaf_ok (rfl)) (mt_leaf_ok (mn_push))))) (mt_node_ok (mt_node_ok (mt_leaf_ok (rfl)) (mt_node_ok (mt_leaf_ok (mn_if)) (mt_leaf_ok (mn_aload)))) (mt_node_ok (mt_leaf_ok (mn_aload)) (mt_node_ok (mt_leaf_ok (mn_iload)) (mt_leaf_ok (mn_push)))))) (mt_node_ok (mt_node_ok (mt_node_ok (mt_leaf_ok (mn_bin)) (mt_node_ok (mt_leaf_ok (rfl)) (mt_leaf_ok (rfl)))) (mt_node_ok (mt_leaf_ok (mn_push)) (mt_node_ok (mt_leaf_ok (mn_if2)) (mt_leaf_ok (mn_aload))))) (mt_node_ok (mt_node_ok (mt_leaf_ok (mn_aload)) (mt_node_ok (mt_leaf_ok (mn_aload)) (mt_leaf_ok (mn_iload)))) (mt_node_ok (mt_leaf_ok (mn_push)) (mt_node_ok (mt_leaf_ok (mn_bin)) (mt_leaf_ok (rfl))))))) (mt_node_ok (mt_node_ok (mt_node_ok (mt_node_ok (mt_leaf_ok (rfl)) (mt_node_ok (mt_leaf_ok (rfl)) (mt_leaf_ok (mn_if)))) (mt_node_ok (mt_leaf_ok (mn_push)) (mt_node_ok (mt_leaf_ok (trivial)) (mt_leaf_ok (mn_aload))))) (mt_node_ok (mt_node_ok (mt_leaf_ok (mn_iload)) (mt_node_ok (mt_leaf_ok (mn_push)) (mt_leaf_ok (mn_bin)))) (mt_node_ok (mt_leaf_ok (rfl)) (mt_node_ok (mt_leaf_ok (mn_isto)) (mt_leaf_ok (mn_iinc)))))) (mt_node_ok (mt_node_ok (mt_node_ok (mt_leaf_ok (mn_push)) (mt_node_ok (mt_leaf_ok (mn_isto)) (mt_leaf_ok (mn_iload)))) (mt_node_ok (mt_leaf_ok (mn_iload)) (mt_node_ok (mt_leaf_ok (mn_if2)) (mt_leaf_ok (mn_aload))))) (mt_node_ok (mt_node_ok (mt_leaf_ok (mn_aload)) (mt_node_ok (mt_leaf_ok (mn_iload)) (mt_leaf_ok (rfl)))) (mt_node_ok (mt_leaf_ok (rfl)) (mt_node_ok (mt_leaf_ok (mn_push)) (mt_leaf_ok (mn_if2)))))))
theorem mz_197_3 {g : xe_G} : mt_all (mnP mS) (mb_197_3 g) := mt_node_ok (mt_node_ok (mt_node_ok (mt_node_ok (mt_leaf_ok (mn_aload)) (mt_node_ok (mt_leaf_ok (mn_push)) (mt_leaf_ok (mn_iload)))) (mt_node_ok (mt_leaf_ok (rfl)) (mt_node_ok (mt_leaf_ok (mn_pop)) (mt_leaf_ok (mn_push))))) (mt_node_ok (mt_node_ok (mt_leaf_ok (trivial)) (mt_node_ok (mt_leaf_ok (mn_iload)) (mt_leaf_ok (mn_push)))) (mt_node_ok (mt_node_ok (mt_leaf_ok (mn_aload)) (mt_leaf_ok (mn_iload))) (mt_node_ok (mt_leaf_ok (mn_push)) (mt_leaf_ok (mn_bin)))))) (mt_node_ok (mt_node_ok (mt_node_ok (mt_leaf_ok (rfl)) (mt_node_ok (mt_leaf_ok (mn_l2i)) (mt_leaf_ok (mn_bin)))) (mt_node_ok (mt_node_ok (mt_leaf_ok (mn_bin)) (mt_leaf_ok (mn_isto))) (mt_node_ok (mt_leaf_ok (mn_iinc)) (mt_leaf_ok (mn_goto))))) (mt_node_ok (mt_node_ok (mt_leaf_ok (mn_iinc)) (mt_node_ok (mt_leaf_ok (mn_goto)) (mt_leaf_ok (mn_aload)))) (mt_node_ok (mt_node_ok (mt_leaf_ok (mn_iload)) (mt_leaf_ok (mn_put))) (mt_node_ok (mt_leaf_ok (mn_push)) (mt_leaf_ok (trivial))))))
theorem mz_197 {g : xe_G} : mt_all (mnP mS) (mb_197 g).2.1 := mt_node_ok (mt_node_ok ((mz_197_0 (g := g))) ((mz_197_1 (g := g)))) (mt_node_ok ((mz_197_2 (g := g))) ((mz_197_3 (g := g))))
theorem mz_203_0 {g : xe_G} : mt_all (mnP mS) (mb_203_0 g) := mt_node_ok (mt_node_ok (mt_node_ok (mt_node_ok (mt_leaf_ok (mn_aload)) (mt_node_ok (mt_leaf_ok (mn_iload)) (mt_leaf_ok (mn_aload)))) (mt_node_ok (mt_leaf_ok (mn_iload)) (mt_node_ok (mt_leaf_ok (rfl)) (mt_leaf_ok (mn_push))))) (mt_node_ok (mt_node_ok (mt_leaf_ok (mn_bin)) (mt_node_ok (mt_leaf_ok (rfl)) (mt_leaf_ok (mn_push)))) (mt_node_ok (mt_leaf_ok (mn_if2)) (mt_node_ok (mt_leaf_ok (mn_aload)) (mt_leaf_ok (mn_iload)))))) (mt_node_ok (mt_node_ok (mt_node_ok (mt_leaf_ok (mn_aload)) (mt_node_ok (mt_leaf_ok (mn_iload)) (mt_leaf_ok (rfl)))) (mt_node_ok (mt_leaf_ok (mn_push)) (mt_node_ok (mt_leaf_ok (mn_bin)) (mt_leaf_ok (rfl))))) (mt_node_ok (mt_node_ok (mt_leaf_ok (mn_push)) (mt_node_ok (mt_leaf_ok (mn_if2)) (mt_leaf_ok (mn_push)))) (mt_node_ok (mt_leaf_ok (mn_goto)) (mt_node_ok (mt_leaf_ok (mn_push)) (mt_leaf_ok (trivial))))))
theorem mz_203 {g : xe_G} : mt_all (mnP mS) (mb_203 g).2.1 := (mz_203_0 (g := g))
theorem mz_206_0 {g : xe_G} : mt_all (mnP mS) (mb_206_0 g) := mt_node_ok (mt_node_ok (mt_node_ok (mt_node_ok (mt_node_ok (mt_leaf_ok (mn_aload)) (mt_node_ok (mt_leaf_ok (mn_iload)) (mt_leaf_ok (rfl)))) (mt_node_ok (mt_leaf_ok (mn_isto)) (mt_node_ok (mt_leaf_ok (mn_iload)) (mt_leaf_ok (mn_isto))))) (mt_node_ok (mt_node_ok (mt_leaf_ok (mn_iload)) (mt_node_ok (mt_leaf_ok (mn_iload)) (mt_leaf_ok (mn_if2)))) (mt_node_ok (mt_leaf_ok (mn_aload)) (mt_node_ok (mt_leaf_ok (mn_iload)) (mt_leaf_ok (mn_iload)))))) (mt_node_ok (mt_node_ok (mt_node_ok (mt_leaf_ok (rfl)) (mt_node_ok (mt_leaf_ok (mn_push)) (mt_leaf_ok (mn_if2)))) (mt_node_ok (mt_leaf_ok (mn_iinc)) (mt_node_ok (mt_leaf_ok (mn_goto)) (mt_leaf_ok (mn_iload))))) (mt_node_ok (mt_node_ok (mt_leaf_ok (mn_iload)) (mt_node_ok (mt_leaf_ok (mn_bin)) (mt_leaf_ok (mn_push)))) (mt_node_ok (mt_leaf_ok (mn_if2)) (mt_node_ok (mt_leaf_ok (mn_iload)) (mt_leaf_ok (mn_iload))))))) (mt_node_ok (mt_node_ok (mt_node_ok (mt_node_ok (mt_leaf_ok (mn_if2)) (mt_node_ok (mt_leaf_ok (mn_push)) (mt_leaf_ok (trivial)))) (mt_node_ok (mt_leaf_ok (mn_aload)) (mt_node_ok (mt_leaf_ok (mn_iload)) (mt_leaf_ok (mn_iload))))) (mt_node_ok (mt_node_ok (mt_leaf_ok (rfl)) (mt_node_ok (mt_leaf_ok (mn_isto)) (mt_leaf_ok (mn_iload)))) (mt_node_ok (mt_leaf_ok (mn_push)) (mt_node_ok (mt_leaf_ok (mn_if2)) (mt_leaf_ok (mn_iload)))))) (mt_node_ok (mt_node_ok (mt_node_ok (mt_leaf_ok (mn_push)) (mt_node_ok (mt_leaf_ok (mn_if2)) (mt_leaf_ok (mn_iload)))) (mt_node_ok (mt_leaf_ok (mn_push)) (mt_node_ok (mt_leaf_ok (mn_if2)) (mt_leaf_ok (mn_iload))))) (mt_node_ok (mt_node_ok (mt_leaf_ok (mn_push)) (mt_node_ok (mt_leaf_ok (mn_if2)) (mt_leaf_ok (mn_iload)))) (mt_node_ok (mt_leaf_ok (mn_push)) (mt_node_ok (mt_leaf_ok (mn_if2)) (mt_leaf_ok (mn_iload)))))))
theorem mz_206_1 {g : xe_G} : mt_all (mnP mS) (mb_206_1 g) := mt_node_ok (mt_node_ok (mt_node_ok (mt_node_ok (mt_node_ok (mt_leaf_ok (mn_push)) (mt_node_ok (mt_leaf_ok (mn_if2)) (mt_leaf_ok (mn_iload)))) (mt_node_ok (mt_leaf_ok (mn_push)) (mt_node_ok (mt_leaf_ok (mn_if2)) (mt_leaf_ok (mn_iload))))) (mt_node_ok (mt_node_ok (mt_leaf_ok (mn_push)) (mt_node_ok (mt_leaf_ok (mn_if2)) (mt_leaf_ok (mn_iload)))) (mt_node_ok (mt_leaf_ok (mn_push)) (mt_node_ok (mt_leaf_ok (mn_bin)) (mt_leaf_ok (trivial)))))) (mt_node_ok (mt_node_ok (mt_node_ok (mt_leaf_ok (mn_iload)) (mt_node_ok (mt_leaf_ok (mn_push)) (mt_leaf_ok (mn_if2)))) (mt_node_ok (mt_leaf_ok (mn_push)) (mt_node_ok (mt_leaf_ok (trivial)) (mt_leaf_ok (mn_iload))))) (mt_node_ok (mt_node_ok (mt_leaf_ok (mn_push)) (mt_node_ok (mt_leaf_ok (mn_bin)) (mt_leaf_ok (mn_isto)))) (mt_node_ok (mt_leaf_ok (mn_iload)) (mt_node_ok (mt_leaf_ok (mn_iload)) (mt_leaf_ok (mn_if2))))))) (mt_node_ok (mt_node_ok (mt_node_ok (mt_node_ok (mt_leaf_ok (mn_aload)) (mt_node_ok (mt_leaf_ok (mn_iload)) (mt_leaf_ok (mn_iload)))) (mt_node_ok (mt_leaf_ok (rfl)) (mt_node_ok (mt_leaf_ok (mn_push)) (mt_leaf_ok (mn_if2))))) (mt_node_ok (mt_node_ok (mt_leaf_ok (mn_iinc)) (mt_node_ok (mt_leaf_ok (mn_goto)) (mt_leaf_ok (mn_iload)))) (mt_node_ok (mt_leaf_ok (mn_iload)) (mt_node_ok (mt_leaf_ok (mn_if2)) (mt_leaf_ok (mn_aload)))))) (mt_node_ok (mt_node_ok (mt_node_ok (mt_leaf_ok (mn_iload)) (mt_node_ok (mt_leaf_ok (mn_iload)) (mt_leaf_ok (mn_push)))) (mt_node_ok (mt_leaf_ok (mn_bin)) (mt_node_ok (mt_leaf_ok (mn_iload)) (mt_leaf_ok (rfl))))) (mt_node_ok (mt_node_ok (mt_leaf_ok (mn_if)) (mt_node_ok (mt_leaf_ok (mn_iload)) (mt_leaf_ok (mn_push)))) (mt_node_ok (mt_leaf_ok (mn_bin)) (mt_node_ok (mt_leaf_ok (mn_goto)) (mt_leaf_ok (mn_push)))))))
theorem mz_206_2 {g : xe_G} : mt_all (mnP mS) (mb_206_2 g) := mt_leaf_ok (trivial)
theorem mz_206 {g : xe_G} : mt_all (mnP mS) (mb_206 g).2.1 := mt_node_ok ((mz_206_0 (g := g))) (mt_node_ok ((mz_206_1 (g := g))) ((mz_206_2 (g := g))))
theorem mz_209_0 {g : xe_G} : mt_all (mnP mS) (mb_209_0 g) := mt_node_ok (mt_node_ok (mt_node_ok (mt_node_ok (mt_node_ok (mt_leaf_ok (mn_iload)) (mt_node_ok (mt_leaf_ok (mn_if)) (mt_leaf_ok (mn_iload)))) (mt_node_ok (mt_leaf_ok (mn_push)) (mt_node_ok (mt_leaf_ok (mn_push)) (mt_leaf_ok (mn_push))))) (mt_node_ok (mt_node_ok (mt_leaf_ok (rfl)) (mt_node_ok (mt_leaf_ok (mn_if)) (mt_leaf_ok (mn_iload)))) (mt_node_ok (mt_leaf_ok (mn_push)) (mt_node_ok (mt_leaf_ok (mn_bin)) (mt_leaf_ok (mn_if)))))) (mt_node_ok (mt_node_ok (mt_node_ok (mt_leaf_ok (mn_push)) (mt_node_ok (mt_leaf_ok (mn_goto)) (mt_leaf_ok (mn_push)))) (mt_node_ok (mt_leaf_ok (trivial)) (mt_node_ok (mt_leaf_ok (mn_iload)) (mt_leaf_ok (mn_push))))) (mt_node_ok (mt_node_ok (mt_leaf_ok (mn_bin)) (mt_node_ok (mt_leaf_ok (mn_if)) (mt_leaf_ok (mn_iload)))) (mt_node_ok (mt_leaf_ok (mn_push)) (mt_node_ok (mt_leaf_ok (mn_bin)) (mt_leaf_ok (mn_if))))))) (mt_node_ok (mt_node_ok (mt_node_ok (mt_node_ok (mt_leaf_ok (mn_aload)) (mt_node_ok (mt_leaf_ok (mn_get)) (mt_leaf_ok (mn_push)))) (mt_node_ok (mt_leaf_ok (mn_if2)) (mt_node_ok (mt_leaf_ok (mn_aload)) (mt_leaf_ok (mn_get))))) (mt_node_ok (mt_node_ok (mt_leaf_ok (mn_push)) (mt_node_ok (mt_leaf_ok (mn_if2)) (mt_leaf_ok (mn_iload)))) (mt_node_ok (mt_leaf_ok (mn_push)) (mt_node_ok (mt_leaf_ok (mn_bin)) (mt_leaf_ok (mn_if)))))) (mt_node_ok (mt_node_ok (mt_node_ok (mt_leaf_ok (mn_push)) (mt_node_ok (mt_leaf_ok (mn_goto)) (mt_leaf_ok (mn_push)))) (mt_node_ok (mt_leaf_ok (mn_isto)) (mt_node_ok (mt_leaf_ok (mn_iload)) (mt_leaf_ok (mn_if))))) (mt_node_ok (mt_node_ok (mt_leaf_ok (mn_iload)) (mt_node_ok (mt_leaf_ok (mn_push)) (mt_leaf_ok (mn_push)))) (mt_node_ok (mt_leaf_ok (mn_push)) (mt_node_ok (mt_leaf_ok (rfl)) (mt_leaf_ok (mn_if)))))))
theorem mz_209_1 {g : xe_G} : mt_all (mnP mS) (mb_209_1 g) := mt_node_ok (mt_node_ok (mt_node_ok (mt_node_ok (mt_node_ok (mt_leaf_ok (mn_iload)) (mt_node_ok (mt_leaf_ok (mn_if)) (mt_leaf_ok (mn_push)))) (mt_node_ok (mt_leaf_ok (mn_goto)) (mt_node_ok (mt_leaf_ok (mn_push)) (mt_leaf_ok (trivial))))) (mt_node_ok (mt_node_ok (mt_leaf_ok (mn_iload)) (mt_node_ok (mt_leaf_ok (mn_push)) (mt_leaf_ok (mn_bin)))) (mt_node_ok (mt_leaf_ok (mn_if)) (mt_node_ok (mt_leaf_ok (mn_push)) (mt_leaf_ok (trivial)))))) (mt_node_ok (mt_node_ok (mt_node_ok (mt_leaf_ok (mn_aload)) (mt_node_ok (mt_leaf_ok (mn_get)) (mt_leaf_ok (mn_push)))) (mt_node_ok (mt_leaf_ok (mn_if2)) (mt_node_ok (mt_leaf_ok (mn_iload)) (mt_leaf_ok (mn_push))))) (mt_node_ok (mt_node_ok (mt_leaf_ok (mn_bin)) (mt_node_ok (mt_leaf_ok (mn_if)) (mt_leaf_ok (mn_iload)))) (mt_node_ok (mt_leaf_ok (mn_push)) (mt_node_ok (mt_leaf_ok (mn_bin)) (mt_leaf_ok (mn_if))))))) (mt_node_ok (mt_node_ok (mt_node_ok (mt_node_ok (mt_leaf_ok (mn_iload)) (mt_node_ok (mt_leaf_ok (mn_push)) (mt_leaf_ok (mn_bin)))) (mt_node_ok (mt_leaf_ok (mn_if)) (mt_node_ok (mt_leaf_ok (mn_goto)) (mt_leaf_ok (mn_iload))))) (mt_node_ok (mt_node_ok (mt_leaf_ok (mn_push)) (mt_node_ok (mt_leaf_ok (mn_bin)) (mt_leaf_ok (mn_if)))) (mt_node_ok (mt_leaf_ok (mn_push)) (mt_node_ok (mt_leaf_ok (mn_goto)) (mt_leaf_ok (mn_push)))))) (mt_node_ok (mt_node_ok (mt_node_ok (mt_leaf_ok (mn_iload)) (mt_node_ok (mt_leaf_ok (mn_push)) (mt_leaf_ok (mn_bin)))) (mt_node_ok (mt_leaf_ok (mn_if)) (mt_node_ok (mt_leaf_ok (mn_push)) (mt_leaf_ok (mn_goto))))) (mt_node_ok (mt_node_ok (mt_leaf_ok (mn_push)) (mt_node_ok (mt_leaf_ok (mn_if2)) (mt_leaf_ok (mn_push)))) (mt_node_ok (mt_leaf_ok (trivial)) (mt_node_ok (mt_leaf_ok (mn_iload)) (mt_leaf_ok (mn_if)))))))
theorem mz_209_2 {g : xe_G} : mt_all (mnP mS) (mb_209_2 g) := mt_node_ok (mt_node_ok (mt_leaf_ok (mn_push)) (mt_leaf_ok (mn_goto))) (mt_node_ok (mt_leaf_ok (mn_push)) (mt_leaf_ok (trivial)))
theorem mz_209 {g : xe_G} : mt_all (mnP mS) (mb_209 g).2.1 := mt_node_ok ((mz_209_0 (g := g))) (mt_node_ok ((mz_209_1 (g := g))) ((mz_209_2 (g := g))))
theorem mz_212_0 {g : xe_G} : mt_all (mnP mS) (mb_212_0 g) := mt_node_ok (mt_node_ok (mt_node_ok (mt_node_ok (mt_node_ok (mt_leaf_ok (mn_aload)) (mt_node_ok (mt_leaf_ok (mn_aload)) (mt_leaf_ok (mn_get)))) (mt_node_ok (mt_leaf_ok (mn_aload)) (mt_node_ok (mt_leaf_ok (mn_get)) (mt_leaf_ok (mn_iload))))) (mt_node_ok (mt_node_ok (mt_leaf_ok (mn_bin)) (mt_node_ok (mt_leaf_ok (mn_ald)) (mt_leaf_ok (mn_push)))) (mt_node_ok (mt_leaf_ok (mn_bin)) (mt_node_ok (mt_leaf_ok (rfl)) (mt_leaf_ok (mn_isto)))))) (mt_node_ok (mt_node_ok (mt_node_ok (mt_leaf_ok (mn_aload)) (mt_node_ok (mt_leaf_ok (mn_iload)) (mt_leaf_ok (mn_push)))) (mt_node_ok (mt_leaf_ok (rfl)) (mt_node_ok (mt_leaf_ok (mn_isto)) (mt_leaf_ok (mn_aload))))) (mt_node_ok (mt_node_ok (mt_leaf_ok (mn_iload)) (mt_node_ok (mt_leaf_ok (rfl)) (mt_leaf_ok (mn_isto)))) (mt_node_ok (mt_leaf_ok (mn_iload)) (mt_node_ok (mt_leaf_ok (mn_push)) (mt_leaf_ok (mn_if2))))))) (mt_node_ok (mt_node_ok (mt_node_ok (mt_node_ok (mt_leaf_ok (mn_iload)) (mt_node_ok (mt_leaf_ok (mn_push)) (mt_leaf_ok (mn_if2)))) (mt_node_ok (mt_leaf_ok (mn_push)) (mt_node_ok (mt_leaf_ok (trivial)) (mt_leaf_ok (mn_iload))))) (mt_node_ok (mt_node_ok (mt_leaf_ok (mn_push)) (mt_node_ok (mt_leaf_ok (mn_if2)) (mt_leaf_ok (mn_iload)))) (mt_node_ok (mt_leaf_ok (mn_push)) (mt_node_ok (mt_leaf_ok (mn_if2)) (mt_leaf_ok (mn_push)))))) (mt_node_ok (mt_node_ok (mt_node_ok (mt_leaf_ok (mn_goto)) (mt_node_ok (mt_leaf_ok (mn_push)) (mt_leaf_ok (trivial)))) (mt_node_ok (mt_leaf_ok (mn_iload)) (mt_node_ok (mt_leaf_ok (mn_push)) (mt_leaf_ok (mn_if2))))) (mt_node_ok (mt_node_ok (mt_leaf_ok (mn_iload)) (mt_node_ok (mt_leaf_ok (mn_push)) (mt_leaf_ok (mn_if2)))) (mt_node_ok (mt_leaf_ok (mn_iload)) (mt_node_ok (mt_leaf_ok (mn_push)) (mt_leaf_ok (mn_if2)))))))
theorem mz_212_1 {g : xe_G} : mt_all (mnP mS) (mb_212_1 g) := mt_node_ok (mt_node_ok (mt_node_ok (mt_node_ok (mt_node_ok (mt_leaf_ok (mn_goto)) (mt_node_ok (mt_leaf_ok (mn_iload)) (mt_leaf_ok (mn_push)))) (mt_node_ok (mt_leaf_ok (mn_if2)) (mt_node_ok (mt_leaf_ok (mn_iload)) (mt_leaf_ok (mn_push))))) (mt_node_ok (mt_node_ok (mt_leaf_ok (mn_if2)) (mt_node_ok (mt_leaf_ok (mn_goto)) (mt_leaf_ok (mn_iload)))) (mt_node_ok (mt_leaf_ok (mn_push)) (mt_node_ok (mt_leaf_ok (mn_if2)) (mt_leaf_ok (mn_iload)))))) (mt_node_ok (mt_node_ok (mt_node_ok (mt_leaf_ok (mn_push)) (mt_node_ok (mt_leaf_ok (mn_if2)) (mt_leaf_ok (mn_aload)))) (mt_node_ok (mt_leaf_ok (mn_get)) (mt_node_ok (mt_leaf_ok (mn_push)) (mt_leaf_ok (mn_if2))))) (mt_node_ok (mt_node_ok (mt_leaf_ok (mn_push)) (mt_node_ok (mt_leaf_ok (trivial)) (mt_leaf_ok (mn_aload)))) (mt_node_ok (mt_leaf_ok (mn_aload)) (mt_node_ok (mt_leaf_ok (mn_aload)) (mt_leaf_ok (mn_iload))))))) (mt_node_ok (mt_node_ok (mt_node_ok (mt_node_ok (mt_leaf_ok (mn_push)) (mt_node_ok (mt_leaf_ok (rfl)) (mt_leaf_ok (mn_push)))) (mt_node_ok (mt_leaf_ok (rfl)) (mt_node_ok (mt_leaf_ok (rfl)) (mt_leaf_ok (mn_isto))))) (mt_node_ok (mt_node_ok (mt_leaf_ok (mn_iload)) (mt_node_ok (mt_leaf_ok (mn_push)) (mt_leaf_ok (mn_if2)))) (mt_node_ok (mt_leaf_ok (mn_push)) (mt_node_ok (mt_leaf_ok (mn_goto)) (mt_leaf_ok (mn_push)))))) (mt_node_ok (mt_node_ok (mt_node_ok (mt_leaf_ok (mn_iload)) (mt_node_ok (mt_leaf_ok (mn_aload)) (mt_leaf_ok (mn_get)))) (mt_node_ok (mt_leaf_ok (mn_if2)) (mt_node_ok (mt_leaf_ok (mn_push)) (mt_leaf_ok (mn_goto))))) (mt_node_ok (mt_node_ok (mt_leaf_ok (mn_push)) (mt_node_ok (mt_leaf_ok (mn_if2)) (mt_leaf_ok (mn_push)))) (mt_node_ok (mt_leaf_ok (mn_goto)) (mt_node_ok (mt_leaf_ok (mn_push)) (mt_leaf_ok (trivial)))))))
theorem mz_212 {g : xe_G} : mt_all (mnP mS) (mb_212 g).2.1 := mt_node_ok ((mz_212_0 (g := g))) ((mz_212_1 (g := g)))
theorem mz_213_0 {g : xe_G} : mt_all (mnP mS) (mb_213_0 g) := mt_node_ok (mt_node_ok (mt_node_ok (mt_leaf_ok (mn_aload)) (mt_node_ok (mt_leaf_ok (mn_aload)) (mt_leaf_ok (mn_get)))) (mt_node_ok (mt_leaf_ok (mn_aload)) (mt_node_ok (mt_leaf_ok (mn_get)) (mt_leaf_ok (mn_iload))))) (mt_node_ok (mt_node_ok (mt_leaf_ok (mn_bin)) (mt_node_ok (mt_leaf_ok (mn_ald)) (mt_leaf_ok (mn_iload)))) (mt_node_ok (mt_leaf_ok (mn_bin)) (mt_node_ok (mt_leaf_ok (rfl)) (mt_leaf_ok (trivial)))))
theorem mz_213 {g : xe_G} : mt_all (mnP mS) (mb_213 g).2.1 := (mz_213_0 (g := g))
theorem mz_214_0 {g : xe_G} : mt_all (mnP mS) (mb_214_0 g) := mt_node_ok (mt_node_ok (mt_node_ok (mt_node_ok (mt_node_ok (mt_leaf_ok (mn_iload)) (mt_node_ok (mt_leaf_ok (mn_push)) (mt_leaf_ok (mn_if2)))) (mt_node_ok (mt_leaf_ok (mn_iload)) (mt_node_ok (mt_leaf_ok (mn_push)) (mt_leaf_ok (mn_if2))))) (mt_node_ok (mt_node_ok (mt_leaf_ok (mn_iload)) (mt_node_ok (mt_leaf_ok (mn_push)) (mt_leaf_ok (mn_if2)))) (mt_node_ok (mt_leaf_ok (mn_iload)) (mt_node_ok (mt_leaf_ok (mn_push)) (mt_leaf_ok (mn_if2)))))) (mt_node_ok (mt_node_ok (mt_node_ok (mt_leaf_ok (mn_iload)) (mt_node_ok (mt_leaf_ok (mn_push)) (mt_leaf_ok (mn_if2)))) (mt_node_ok (mt_leaf_ok (mn_aload)) (mt_node_ok (mt_leaf_ok (mn_aload)) (mt_leaf_ok (mn_iload))))) (mt_node_ok (mt_node_ok (mt_leaf_ok (mn_push)) (mt_node_ok (mt_leaf_ok (rfl)) (mt_leaf_ok (rfl)))) (mt_node_ok (mt_leaf_ok (mn_push)) (mt_node_ok (mt_leaf_ok (mn_if2)) (mt_leaf_ok (mn_push))))))) (mt_node_ok (mt_node_ok (mt_node_ok (mt_node_ok (mt_leaf_ok (mn_goto)) (mt_node_ok (mt_leaf_ok (mn_push)) (mt_leaf_ok (trivial)))) (mt_node_ok (mt_leaf_ok (mn_iload)) (mt_node_ok (mt_leaf_ok (mn_push)) (mt_leaf_ok (mn_if2))))) (mt_node_ok (mt_node_ok (mt_leaf_ok (mn_iload)) (mt_node_ok (mt_leaf_ok (mn_push)) (mt_leaf_ok (mn_if2)))) (mt_node_ok (mt_leaf_ok (mn_aload)) (mt_node_ok (mt_leaf_ok (mn_aload)) (mt_leaf_ok (mn_iload)))))) (mt_node_ok (mt_node_ok (mt_node_ok (mt_leaf_ok (mn_push)) (mt_node_ok (mt_leaf_ok (rfl)) (mt_leaf_ok (rfl)))) (mt_node_ok (mt_leaf_ok (mn_push)) (mt_node_ok (mt_leaf_ok (mn_if2)) (mt_leaf_ok (mn_aload))))) (mt_node_ok (mt_node_ok (mt_leaf_ok (mn_aload)) (mt_node_ok (mt_leaf_ok (mn_iload)) (mt_leaf_ok (mn_push)))) (mt_node_ok (mt_leaf_ok (rfl)) (mt_node_ok (mt_leaf_ok (mn_push)) (mt_leaf_ok (mn_push)))))))
theorem mz_214_1 {g : xe_G} : mt_all (mnP mS) (mb_214_1 g) := mt_node_ok (mt_node_ok (mt_node_ok (mt_node_ok (mt_node_ok (mt_leaf_ok (rfl)) (mt_node_ok (mt_leaf_ok (mn_if)) (mt_leaf_ok (mn_aload)))) (mt_node_ok (mt_leaf_ok (mn_aload)) (mt_node_ok (mt_leaf_ok (mn_iload)) (mt_leaf_ok (mn_push))))) (mt_node_ok (mt_node_ok (mt_leaf_ok (rfl)) (mt_node_ok (mt_leaf_ok (rfl)) (mt_leaf_ok (mn_push)))) (mt_node_ok (mt_leaf_ok (mn_if2)) (mt_node_ok (mt_leaf_ok (mn_aload)) (mt_leaf_ok (mn_aload)))))) (mt_node_ok (mt_node_ok (mt_node_ok (mt_leaf_ok (mn_iload)) (mt_node_ok (mt_leaf_ok (mn_push)) (mt_leaf_ok (rfl)))) (mt_node_ok (mt_leaf_ok (mn_push)) (mt_node_ok (mt_leaf_ok (mn_push)) (mt_leaf_ok (rfl))))) (mt_node_ok (mt_node_ok (mt_leaf_ok (mn_if)) (mt_node_ok (mt_leaf_ok (mn_push)) (mt_leaf_ok (mn_goto)))) (mt_node_ok (mt_leaf_ok (mn_push)) (mt_node_ok (mt_leaf_ok (trivial)) (mt_leaf_ok (mn_iload))))))) (mt_node_ok (mt_node_ok (mt_node_ok (mt_node_ok (mt_leaf_ok (mn_push)) (mt_node_ok (mt_leaf_ok (mn_if2)) (mt_leaf_ok (mn_aload)))) (mt_node_ok (mt_leaf_ok (mn_aload)) (mt_node_ok (mt_leaf_ok (mn_iload)) (mt_leaf_ok (mn_push))))) (mt_node_ok (mt_node_ok (mt_leaf_ok (rfl)) (mt_node_ok (mt_leaf_ok (rfl)) (mt_leaf_ok (mn_push)))) (mt_node_ok (mt_leaf_ok (mn_if2)) (mt_node_ok (mt_leaf_ok (mn_aload)) (mt_leaf_ok (mn_aload)))))) (mt_node_ok (mt_node_ok (mt_node_ok (mt_leaf_ok (mn_iload)) (mt_node_ok (mt_leaf_ok (mn_push)) (mt_leaf_ok (rfl)))) (mt_node_ok (mt_leaf_ok (rfl)) (mt_node_ok (mt_leaf_ok (mn_push)) (mt_leaf_ok (mn_if2))))) (mt_node_ok (mt_node_ok (mt_leaf_ok (mn_push)) (mt_node_ok (mt_leaf_ok (mn_goto)) (mt_leaf_ok (mn_push)))) (mt_node_ok (mt_leaf_ok (trivial)) (mt_node_ok (mt_leaf_ok (mn_iload)) (mt_leaf_ok (mn_push)))))))
theorem mz_214_2 {g : xe_G} : mt_all (mnP mS) (mb_214_2 g) := mt_node_ok (mt_node_ok (mt_node_ok (mt_node_ok (mt_node_ok (mt_leaf_ok (mn_if2)) (mt_node_ok (mt_leaf_ok (mn_aload)) (mt_leaf_ok (mn_aload)))) (mt_node_ok (mt_leaf_ok (mn_iload)) (mt_node_ok (mt_leaf_ok (mn_push)) (mt_leaf_ok (rfl))))) (mt_node_ok (mt_node_ok (mt_leaf_ok (rfl)) (mt_node_ok (mt_leaf_ok (mn_isto)) (mt_leaf_ok (mn_iload)))) (mt_node_ok (mt_leaf_ok (mn_if)) (mt_node_ok (mt_leaf_ok (mn_iload)) (mt_leaf_ok (mn_push)))))) (mt_node_ok (mt_node_ok (mt_node_ok (mt_leaf_ok (mn_if2)) (mt_node_ok (mt_leaf_ok (mn_iload)) (mt_leaf_ok (mn_push)))) (mt_node_ok (mt_leaf_ok (mn_if2)) (mt_node_ok (mt_leaf_ok (mn_aload)) (mt_leaf_ok (mn_aload))))) (mt_node_ok (mt_node_ok (mt_leaf_ok (mn_iload)) (mt_node_ok (mt_leaf_ok (mn_push)) (mt_leaf_ok (rfl)))) (mt_node_ok (mt_leaf_ok (mn_iload)) (mt_node_ok (mt_leaf_ok (mn_push)) (mt_leaf_ok (rfl))))))) (mt_node_ok (mt_node_ok (mt_node_ok (mt_node_ok (mt_leaf_ok (mn_if)) (mt_node_ok (mt_leaf_ok (mn_push)) (mt_leaf_ok (mn_goto)))) (mt_node_ok (mt_leaf_ok (mn_push)) (mt_node_ok (mt_leaf_ok (trivial)) (mt_leaf_ok (mn_iload))))) (mt_node_ok (mt_node_ok (mt_leaf_ok (mn_push)) (mt_node_ok (mt_leaf_ok (mn_if2)) (mt_leaf_ok (mn_iload)))) (mt_node_ok (mt_leaf_ok (mn_push)) (mt_node_ok (mt_leaf_ok (mn_if2)) (mt_leaf_ok (mn_aload)))))) (mt_node_ok (mt_node_ok (mt_node_ok (mt_leaf_ok (mn_aload)) (mt_node_ok (mt_leaf_ok (mn_iload)) (mt_leaf_ok (mn_push)))) (mt_node_ok (mt_leaf_ok (rfl)) (mt_node_ok (mt_leaf_ok (rfl)) (mt_leaf_ok (mn_push))))) (mt_node_ok (mt_node_ok (mt_leaf_ok (mn_if2)) (mt_node_ok (mt_leaf_ok (mn_aload)) (mt_leaf_ok (mn_aload)))) (mt_node_ok (mt_leaf_ok (mn_iload)) (mt_node_ok (mt_leaf_ok (mn_push)) (mt_leaf_ok (rfl)))))))
theorem mz_214_3 {g : xe_G} : mt_all (mnP mS) (mb_214_3 g) := mt_node_ok (mt_node_ok (mt_node_ok (mt_leaf_ok (mn_push)) (mt_leaf_ok (mn_push))) (mt_node_ok (mt_leaf_ok (rfl)) (mt_node_ok (mt_leaf_ok (mn_if)) (mt_leaf_ok (mn_push))))) (mt_node_ok (mt_node_ok (mt_leaf_ok (mn_goto)) (mt_leaf_ok (mn_push))) (mt_node_ok (mt_leaf_ok (trivial)) (mt_node_ok (mt_leaf_ok (mn_push)) (mt_leaf_ok (trivial)))))
theorem mz_214 {g : xe_G} : mt_all (mnP mS) (mb_214 g).2.1 := mt_node_ok (mt_node_ok ((mz_214_0 (g := g))) ((mz_214_1 (g := g)))) (mt_node_ok ((mz_214_2 (g := g))) ((mz_214_3 (g := g))))
theorem mz_216_0 {g : xe_G} : mt_all (mnP mS) (mb_216_0 g) := mt_node_ok (mt_node_ok (mt_node_ok (mt_node_ok (mt_leaf_ok (mn_aload)) (mt_node_ok (mt_leaf_ok (mn_iload)) (mt_leaf_ok (rfl)))) (mt_node_ok (mt_node_ok (mt_leaf_ok (mn_aload)) (mt_leaf_ok (mn_slength))) (mt_node_ok (mt_leaf_ok (mn_if2)) (mt_leaf_ok (mn_push))))) (mt_node_ok (mt_node_ok (mt_leaf_ok (trivial)) (mt_node_ok (mt_leaf_ok (mn_push)) (mt_leaf_ok (mn_isto)))) (mt_node_ok (mt_node_ok (mt_leaf_ok (mn_iload)) (mt_leaf_ok (mn_aload))) (mt_node_ok (mt_leaf_ok (mn_slength)) (mt_leaf_ok (mn_if2)))))) (mt_node_ok (mt_node_ok (mt_node_ok (mt_leaf_ok (mn_aload)) (mt_node_ok (mt_leaf_ok (mn_iload)) (mt_leaf_ok (mn_iload)))) (mt_node_ok (mt_node_ok (mt_leaf_ok (rfl)) (mt_leaf_ok (mn_aload))) (mt_node_ok (mt_leaf_ok (mn_iload)) (mt_leaf_ok (mn_scharAt))))) (mt_node_ok (mt_node_ok (mt_leaf_ok (mn_if2)) (mt_node_ok (mt_leaf_ok (mn_push)) (mt_leaf_ok (trivial)))) (mt_node_ok (mt_node_ok (mt_leaf_ok (mn_iinc)) (mt_leaf_ok (mn_goto))) (mt_node_ok (mt_leaf_ok (mn_push)) (mt_leaf_ok (trivial))))))
theorem mz_216 {g : xe_G} : mt_all (mnP mS) (mb_216 g).2.1 := (mz_216_0 (g := g))
theorem mz_217_0 {g : xe_G} : mt_all (mnP mS) (mb_217_0 g) := mt_node_ok (mt_node_ok (mt_node_ok (mt_leaf_ok (mn_aload)) (mt_node_ok (mt_leaf_ok (mn_iload)) (mt_leaf_ok (mn_push)))) (mt_node_ok (mt_leaf_ok (rfl)) (mt_node_ok (mt_leaf_ok (mn_aload)) (mt_leaf_ok (mn_iload))))) (mt_node_ok (mt_node_ok (mt_leaf_ok (rfl)) (mt_node_ok (mt_leaf_ok (mn_if2)) (mt_leaf_ok (mn_push)))) (mt_node_ok (mt_leaf_ok (mn_goto)) (mt_node_ok (mt_leaf_ok (mn_push)) (mt_leaf_ok (trivial)))))
theorem mz_217 {g : xe_G} : mt_all (mnP mS) (mb_217 g).2.1 := (mz_217_0 (g := g))
theorem mz_218_0 {g : xe_G} : mt_all (mnP mS) (mb_218_0 g) := mt_node_ok (mt_node_ok (mt_node_ok (mt_node_ok (mt_node_ok (mt_leaf_ok (mn_aload)) (mt_node_ok (mt_leaf_ok (mn_iload)) (mt_leaf_ok (rfl)))) (mt_node_ok (mt_leaf_ok (mn_isto)) (mt_node_ok (mt_leaf_ok (mn_iload)) (mt_leaf_ok (mn_if))))) (mt_node_ok (mt_node_ok (mt_leaf_ok (mn_aload)) (mt_node_ok (mt_leaf_ok (mn_iload)) (mt_leaf_ok (mn_push)))) (mt_node_ok (mt_leaf_ok (rfl)) (mt_node_ok (mt_leaf_ok (mn_push)) (mt_leaf_ok (mn_if2)))))) (mt_node_ok (mt_node_ok (mt_node_ok (mt_leaf_ok (mn_push)) (mt_node_ok (mt_leaf_ok (trivial)) (mt_leaf_ok (mn_push)))) (mt_node_ok (mt_leaf_ok (mn_isto)) (mt_node_ok (mt_leaf_ok (mn_iload)) (mt_leaf_ok (mn_iload))))) (mt_node_ok (mt_node_ok (mt_leaf_ok (mn_if2)) (mt_node_ok (mt_leaf_ok (mn_aload)) (mt_leaf_ok (mn_iload)))) (mt_node_ok (mt_leaf_ok (mn_iload)) (mt_node_ok (mt_leaf_ok (rfl)) (mt_leaf_ok (mn_push))))))) (mt_node_ok (mt_node_ok (mt_node_ok (mt_node_ok (mt_leaf_ok (mn_if2)) (mt_node_ok (mt_leaf_ok (mn_aload)) (mt_leaf_ok (mn_iload)))) (mt_node_ok (mt_leaf_ok (mn_iload)) (mt_node_ok (mt_leaf_ok (rfl)) (mt_leaf_ok (mn_isto))))) (mt_node_ok (mt_node_ok (mt_leaf_ok (mn_iload)) (mt_node_ok (mt_leaf_ok (mn_if)) (mt_leaf_ok (mn_push)))) (mt_node_ok (mt_leaf_ok (trivial)) (mt_node_ok (mt_leaf_ok (mn_iload)) (mt_leaf_ok (mn_iload)))))) (mt_node_ok (mt_node_ok (mt_node_ok (mt_leaf_ok (mn_if2)) (mt_node_ok (mt_leaf_ok (mn_push)) (mt_leaf_ok (trivial)))) (mt_node_ok (mt_leaf_ok (mn_iinc)) (mt_node_ok (mt_leaf_ok (mn_iload)) (mt_leaf_ok (mn_push))))) (mt_node_ok (mt_node_ok (mt_leaf_ok (mn_bin)) (mt_node_ok (mt_leaf_ok (mn_iload)) (mt_leaf_ok (mn_if2)))) (mt_node_ok (mt_leaf_ok (mn_aload)) (mt_node_ok (mt_leaf_ok (mn_iload)) (mt_leaf_ok (mn_iload)))))))
theorem mz_218_1 {g : xe_G} : mt_all (mnP mS) (mb_218_1 g) := mt_node_ok (mt_node_ok (mt_node_ok (mt_node_ok (mt_leaf_ok (rfl)) (mt_leaf_ok (mn_push))) (mt_node_ok (mt_leaf_ok (mn_if2)) (mt_node_ok (mt_leaf_ok (mn_aload)) (mt_leaf_ok (mn_iload))))) (mt_node_ok (mt_node_ok (mt_leaf_ok (mn_iload)) (mt_leaf_ok (rfl))) (mt_node_ok (mt_leaf_ok (mn_iload)) (mt_node_ok (mt_leaf_ok (mn_if2)) (mt_leaf_ok (mn_push)))))) (mt_node_ok (mt_node_ok (mt_node_ok (mt_leaf_ok (trivial)) (mt_leaf_ok (mn_aload))) (mt_node_ok (mt_leaf_ok (mn_iload)) (mt_node_ok (mt_leaf_ok (rfl)) (mt_leaf_ok (mn_push))))) (mt_node_ok (mt_node_ok (mt_leaf_ok (mn_if2)) (mt_leaf_ok (mn_push))) (mt_node_ok (mt_leaf_ok (mn_goto)) (mt_node_ok (mt_leaf_ok (mn_push)) (mt_leaf_ok (trivial))))))
theorem mz_218 {g : xe_G} : mt_all (mnP mS) (mb_218 g).2.1 := mt_node_ok ((mz_218_0 (g := g))) ((mz_218_1 (g := g)))
theorem mz_219_0 {g : xe_G} : mt_all (mnP mS) (mb_219_0 g) := mt_node_ok (mt_node_ok (mt_node_ok (mt_node_ok (mt_leaf_ok (mn_aload)) (mt_leaf_ok (mn_get))) (mt_node_ok (mt_leaf_ok (mn_i2l)) (mt_node_ok (mt_leaf_ok (mn_lload)) (mt_leaf_ok (mn_binL))))) (mt_node_ok (mt_node_ok (mt_leaf_ok (mn_aload)) (mt_leaf_ok (mn_get))) (mt_node_ok (mt_leaf_ok (mn_i2l)) (mt_node_ok (mt_leaf_ok (mn_lcmp)) (mt_leaf_ok (mn_if)))))) (mt_node_ok (mt_node_ok (mt_node_ok (mt_leaf_ok (mn_aload)) (mt_leaf_ok (mn_push))) (mt_node_ok (mt_leaf_ok (mn_aload)) (mt_node_ok (mt_leaf_ok (mn_get)) (mt_leaf_ok (rfl))))) (mt_node_ok (mt_node_ok (mt_leaf_ok (mn_if)) (mt_leaf_ok (mn_push))) (mt_node_ok (mt_leaf_ok (mn_goto)) (mt_node_ok (mt_leaf_ok (mn_push)) (mt_leaf_ok (trivial))))))
theorem mz_219 {g : xe_G} : mt_all (mnP mS) (mb_219 g).2.1 := (mz_219_0 (g := g))
theorem mz_221_0 {g : xe_G} : mt_all (mnP mS) (mb_221_0 g) := mt_node_ok (mt_node_ok (mt_leaf_ok (mn_aload)) (mt_leaf_ok (mn_get))) (mt_node_ok (mt_leaf_ok (mn_iload)) (mt_node_ok (mt_leaf_ok (mn_ald)) (mt_leaf_ok (trivial))))
theorem mz_221 {g : xe_G} : mt_all (mnP mS) (mb_221 g).2.1 := (mz_221_0 (g := g))
theorem mz_224_0 {g : xe_G} : mt_all (mnP mS) (mb_224_0 g) := mt_node_ok (mt_node_ok (mt_node_ok (mt_node_ok (mt_node_ok (mt_leaf_ok (mn_aload)) (mt_node_ok (mt_leaf_ok (mn_push)) (mt_leaf_ok (rfl)))) (mt_node_ok (mt_leaf_ok (mn_if)) (mt_node_ok (mt_leaf_ok (mn_push)) (mt_leaf_ok (trivial))))) (mt_node_ok (mt_node_ok (mt_leaf_ok (mn_aload)) (mt_node_ok (mt_leaf_ok (mn_aload)) (mt_leaf_ok (mn_get)))) (mt_node_ok (mt_leaf_ok (rfl)) (mt_node_ok (mt_leaf_ok (mn_isto)) (mt_leaf_ok (mn_aload)))))) (mt_node_ok (mt_node_ok (mt_node_ok (mt_leaf_ok (mn_dup)) (mt_node_ok (mt_leaf_ok (mn_get)) (mt_leaf_ok (mn_push)))) (mt_node_ok (mt_leaf_ok (mn_bin)) (mt_node_ok (mt_leaf_ok (mn_put)) (mt_leaf_ok (mn_push))))) (mt_node_ok (mt_node_ok (mt_leaf_ok (mn_isto)) (mt_node_ok (mt_leaf_ok (mn_iload)) (mt_leaf_ok (mn_iload)))) (mt_node_ok (mt_leaf_ok (mn_if2)) (mt_node_ok (mt_leaf_ok (mn_push)) (mt_leaf_ok (mn_isto))))))) (mt_node_ok (mt_node_ok (mt_node_ok (mt_node_ok (mt_leaf_ok (mn_iload)) (mt_node_ok (mt_leaf_ok (mn_push)) (mt_leaf_ok (mn_if2)))) (mt_node_ok (mt_leaf_ok (mn_aload)) (mt_node_ok (mt_leaf_ok (mn_push)) (mt_leaf_ok (rfl))))) (mt_node_ok (mt_node_ok (mt_leaf_ok (mn_if)) (mt_node_ok (mt_leaf_ok (mn_push)) (mt_leaf_ok (trivial)))) (mt_node_ok (mt_leaf_ok (mn_aload)) (mt_node_ok (mt_leaf_ok (mn_dup)) (mt_leaf_ok (mn_get)))))) (mt_node_ok (mt_node_ok (mt_node_ok (mt_leaf_ok (mn_push)) (mt_node_ok (mt_leaf_ok (mn_bin)) (mt_leaf_ok (mn_put)))) (mt_node_ok (mt_leaf_ok (mn_iinc)) (mt_node_ok (mt_leaf_ok (mn_goto)) (mt_leaf_ok (mn_aload))))) (mt_node_ok (mt_node_ok (mt_leaf_ok (rfl)) (mt_node_ok (mt_leaf_ok (mn_if)) (mt_leaf_ok (mn_push)))) (mt_node_ok (mt_leaf_ok (trivial)) (mt_node_ok (mt_leaf_ok (mn_iinc)) (mt_leaf_ok (mn_goto)))))))
theorem mz_224_1 {g : xe_G} : mt_all (mnP mS) (mb_224_1 g) := mt_node_ok (mt_leaf_ok (mn_push)) (mt_leaf_ok (trivial))
theorem mz_224 {g : xe_G} : mt_all (mnP mS) (mb_224 g).2.1 := mt_node_ok ((mz_224_0 (g := g))) ((mz_224_1 (g := g)))
theorem mz_226_0 {g : xe_G} : mt_all (mnP mS) (mb_226_0 g) := mt_node_ok (mt_node_ok (mt_node_ok (mt_node_ok (mt_node_ok (mt_leaf_ok (mn_iload)) (mt_leaf_ok (mn_push))) (mt_node_ok (mt_leaf_ok (mn_bin)) (mt_node_ok (mt_leaf_ok (mn_isto)) (mt_leaf_ok (mn_iload))))) (mt_node_ok (mt_node_ok (mt_leaf_ok (mn_isto)) (mt_node_ok (mt_leaf_ok (mn_iload)) (mt_leaf_ok (mn_iload)))) (mt_node_ok (mt_leaf_ok (mn_if2)) (mt_node_ok (mt_leaf_ok (mn_iload)) (mt_leaf_ok (mn_iload)))))) (mt_node_ok (mt_node_ok (mt_node_ok (mt_leaf_ok (mn_if2)) (mt_node_ok (mt_leaf_ok (mn_aload)) (mt_leaf_ok (mn_iload)))) (mt_node_ok (mt_leaf_ok (mn_iload)) (mt_node_ok (mt_leaf_ok (rfl)) (mt_leaf_ok (mn_goto))))) (mt_node_ok (mt_node_ok (mt_leaf_ok (mn_push)) (mt_node_ok (mt_leaf_ok (mn_isto)) (mt_leaf_ok (mn_iload)))) (mt_node_ok (mt_leaf_ok (mn_push)) (mt_node_ok (mt_leaf_ok (mn_if2)) (mt_leaf_ok (mn_iload))))))) (mt_node_ok (mt_node_ok (mt_node_ok (mt_node_ok (mt_leaf_ok (mn_push)) (mt_leaf_ok (mn_if2))) (mt_node_ok (mt_leaf_ok (mn_iload)) (mt_node_ok (mt_leaf_ok (mn_push)) (mt_leaf_ok (mn_if2))))) (mt_node_ok (mt_node_ok (mt_leaf_ok (mn_push)) (mt_node_ok (mt_leaf_ok (trivial)) (mt_leaf_ok (mn_iload)))) (mt_node_ok (mt_leaf_ok (mn_push)) (mt_node_ok (mt_leaf_ok (mn_if2)) (mt_leaf_ok (mn_iload)))))) (mt_node_ok (mt_node_ok (mt_node_ok (mt_leaf_ok (mn_iload)) (mt_node_ok (mt_leaf_ok (mn_push)) (mt_leaf_ok (mn_bin)))) (mt_node_ok (mt_leaf_ok (mn_if2)) (mt_node_ok (mt_leaf_ok (mn_push)) (mt_leaf_ok (trivial))))) (mt_node_ok (mt_node_ok (mt_leaf_ok (mn_iload)) (mt_node_ok (mt_leaf_ok (mn_isto)) (mt_leaf_ok (mn_iinc)))) (mt_node_ok (mt_leaf_ok (mn_goto)) (mt_node_ok (mt_leaf_ok (mn_push)) (mt_leaf_ok (trivial)))))))
theorem mz_226 {g : xe_G} : mt_all (mnP mS) (mb_226 g).2.1 := (mz_226_0 (g := g))
theorem mz_230_0 {g : xe_G} : mt_all (mnP mS) (mb_230_0 g) := mt_node_ok (mt_node_ok (mt_node_ok (mt_node_ok (mt_leaf_ok (mn_aload)) (mt_leaf_ok (rfl))) (mt_node_ok (mt_leaf_ok (mn_aload)) (mt_node_ok (mt_leaf_ok (mn_iload)) (mt_leaf_ok (mn_put))))) (mt_node_ok (mt_node_ok (mt_leaf_ok (mn_push)) (mt_node_ok (mt_leaf_ok (mn_isto)) (mt_leaf_ok (mn_iload)))) (mt_node_ok (mt_leaf_ok (mn_iload)) (mt_node_ok (mt_leaf_ok (mn_if2)) (mt_leaf_ok (mn_aload)))))) (mt_node_ok (mt_node_ok (mt_node_ok (mt_leaf_ok (mn_get)) (mt_leaf_ok (mn_iload))) (mt_node_ok (mt_leaf_ok (mn_aload)) (mt_node_ok (mt_leaf_ok (mn_iload)) (mt_leaf_ok (mn_ald))))) (mt_node_ok (mt_node_ok (mt_leaf_ok (mn_ast)) (mt_node_ok (mt_leaf_ok (mn_iinc)) (mt_leaf_ok (mn_goto)))) (mt_node_ok (mt_leaf_ok (mn_aload)) (mt_node_ok (mt_leaf_ok (rfl)) (mt_leaf_ok (trivial))))))
theorem mz_230 {g : xe_G} : mt_all (mnP mS) (mb_230 g).2.1 := (mz_230_0 (g := g))
theorem mz_233_0 {g : xe_G} : mt_all (mnP mS) (mb_233_0 g) := mt_node_ok (mt_node_ok (mt_node_ok (mt_node_ok (mt_node_ok (mt_leaf_ok (mn_push)) (mt_leaf_ok (mn_isto))) (mt_node_ok (mt_leaf_ok (mn_push)) (mt_leaf_ok (mn_isto)))) (mt_node_ok (mt_node_ok (mt_leaf_ok (mn_aload)) (mt_leaf_ok (mn_iload))) (mt_node_ok (mt_leaf_ok (mn_iload)) (mt_leaf_ok (rfl))))) (mt_node_ok (mt_node_ok (mt_node_ok (mt_leaf_ok (mn_push)) (mt_leaf_ok (mn_if2))) (mt_node_ok (mt_leaf_ok (mn_aload)) (mt_leaf_ok (mn_iload)))) (mt_node_ok (mt_node_ok (mt_leaf_ok (mn_iload)) (mt_leaf_ok (rfl))) (mt_node_ok (mt_leaf_ok (mn_isto)) (mt_node_ok (mt_leaf_ok (mn_iload)) (mt_leaf_ok (mn_iload))))))) (mt_node_ok (mt_node_ok (mt_node_ok (mt_node_ok (mt_leaf_ok (mn_push)) (mt_leaf_ok (mn_if2))) (mt_node_ok (mt_leaf_ok (mn_iload)) (mt_leaf_ok (mn_push)))) (mt_node_ok (mt_node_ok (mt_leaf_ok (mn_if2)) (mt_leaf_ok (mn_push))) (mt_node_ok (mt_leaf_ok (mn_goto)) (mt_node_ok (mt_leaf_ok (mn_push)) (mt_leaf_ok (mn_bin)))))) (mt_node_ok (mt_node_ok (mt_node_ok (mt_leaf_ok (mn_isto)) (mt_leaf_ok (mn_aload))) (mt_node_ok (mt_leaf_ok (mn_iload)) (mt_leaf_ok (mn_iload)))) (mt_node_ok (mt_node_ok (mt_leaf_ok (rfl)) (mt_leaf_ok (mn_isto))) (mt_node_ok (mt_leaf_ok (mn_goto)) (mt_node_ok (mt_leaf_ok (mn_iload)) (mt_leaf_ok (trivial)))))))
theorem mz_233 {g : xe_G} : mt_all (mnP mS) (mb_233 g).2.1 := (mz_233_0 (g := g))
theorem mz_235_0 {g : xe_G} : mt_all (mnP mS) (mb_235_0 g) := mt_node_ok (mt_node_ok (mt_node_ok (mt_node_ok (mt_leaf_ok (mn_aload)) (mt_leaf_ok (mn_iload))) (mt_node_ok (mt_leaf_ok (rfl)) (mt_leaf_ok (mn_push)))) (mt_node_ok (mt_node_ok (mt_leaf_ok (mn_if2)) (mt_leaf_ok (mn_aload))) (mt_node_ok (mt_leaf_ok (mn_aload)) (mt_leaf_ok (mn_iload))))) (mt_node_ok (mt_node_ok (mt_node_ok (mt_leaf_ok (rfl)) (mt_leaf_ok (mn_push))) (mt_node_ok (mt_leaf_ok (rfl)) (mt_leaf_ok (mn_push)))) (mt_node_ok (mt_node_ok (mt_leaf_ok (mn_if2)) (mt_leaf_ok (mn_push))) (mt_node_ok (mt_leaf_ok (mn_goto)) (mt_node_ok (mt_leaf_ok (mn_push)) (mt_leaf_ok (trivial))))))
theorem mz_235 {g : xe_G} : mt_all (mnP mS) (mb_235 g).2.1 := (mz_235_0 (g := g))
theorem mz_237_0 {g : xe_G} : mt_all (mnP mS) (mb_237_0 g) := mt_node_ok (mt_node_ok (mt_node_ok (mt_node_ok (mt_node_ok (mt_leaf_ok (mn_aload)) (mt_node_ok (mt_leaf_ok (mn_push)) (mt_leaf_ok (mn_put)))) (mt_node_ok (mt_leaf_ok (mn_aload)) (mt_node_ok (mt_leaf_ok (mn_push)) (mt_leaf_ok (rfl))))) (mt_node_ok (mt_node_ok (mt_leaf_ok (mn_if)) (mt_node_ok (mt_leaf_ok (mn_push)) (mt_leaf_ok (trivial)))) (mt_node_ok (mt_leaf_ok (mn_aload)) (mt_node_ok (mt_leaf_ok (mn_push)) (mt_leaf_ok (rfl)))))) (mt_node_ok (mt_node_ok (mt_node_ok (mt_leaf_ok (mn_push)) (mt_node_ok (mt_leaf_ok (mn_lcmp)) (mt_leaf_ok (mn_if)))) (mt_node_ok (mt_leaf_ok (mn_aload)) (mt_node_ok (mt_leaf_ok (mn_push)) (mt_leaf_ok (mn_push))))) (mt_node_ok (mt_node_ok (mt_leaf_ok (rfl)) (mt_node_ok (mt_leaf_ok (trivial)) (mt_leaf_ok (mn_aload)))) (mt_node_ok (mt_leaf_ok (mn_push)) (mt_node_ok (mt_leaf_ok (mn_put)) (mt_leaf_ok (mn_aload))))))) (mt_node_ok (mt_node_ok (mt_node_ok (mt_node_ok (mt_leaf_ok (mn_push)) (mt_node_ok (mt_leaf_ok (rfl)) (mt_leaf_ok (mn_if)))) (mt_node_ok (mt_leaf_ok (mn_push)) (mt_node_ok (mt_leaf_ok (trivial)) (mt_leaf_ok (mn_aload))))) (mt_node_ok (mt_node_ok (mt_leaf_ok (mn_push)) (mt_node_ok (mt_leaf_ok (mn_put)) (mt_leaf_ok (mn_aload)))) (mt_node_ok (mt_leaf_ok (mn_push)) (mt_node_ok (mt_leaf_ok (rfl)) (mt_leaf_ok (mn_if)))))) (mt_node_ok (mt_node_ok (mt_node_ok (mt_leaf_ok (mn_push)) (mt_node_ok (mt_leaf_ok (trivial)) (mt_leaf_ok (mn_aload)))) (mt_node_ok (mt_leaf_ok (mn_aload)) (mt_node_ok (mt_leaf_ok (mn_push)) (mt_leaf_ok (rfl))))) (mt_node_ok (mt_node_ok (mt_leaf_ok (mn_put)) (mt_node_ok (mt_leaf_ok (mn_aload)) (mt_leaf_ok (mn_get)))) (mt_node_ok (mt_leaf_ok (mn_push)) (mt_node_ok (mt_leaf_ok (mn_if2)) (mt_leaf_ok (mn_aload)))))))
theorem mz_237_1 {g : xe_G} : mt_all (mnP mS) (mb_237_1 g) := mt_node_ok (mt_node_ok (mt_node_ok (mt_node_ok (mt_node_ok (mt_leaf_ok (mn_get)) (mt_node_ok (mt_leaf_ok (mn_push)) (mt_leaf_ok (mn_if2)))) (mt_node_ok (mt_leaf_ok (mn_aload)) (mt_node_ok (mt_leaf_ok (mn_get)) (mt_leaf_ok (mn_push))))) (mt_node_ok (mt_node_ok (mt_leaf_ok (mn_if2)) (mt_node_ok (mt_leaf_ok (mn_aload)) (mt_leaf_ok (mn_push)))) (mt_node_ok (mt_leaf_ok (rfl)) (mt_node_ok (mt_leaf_ok (mn_if)) (mt_leaf_ok (mn_aload)))))) (mt_node_ok (mt_node_ok (mt_node_ok (mt_leaf_ok (mn_push)) (mt_node_ok (mt_leaf_ok (mn_push)) (mt_leaf_ok (rfl)))) (mt_node_ok (mt_leaf_ok (trivial)) (mt_node_ok (mt_leaf_ok (mn_aload)) (mt_leaf_ok (mn_push))))) (mt_node_ok (mt_node_ok (mt_leaf_ok (mn_put)) (mt_node_ok (mt_leaf_ok (mn_aload)) (mt_leaf_ok (mn_push)))) (mt_node_ok (mt_leaf_ok (rfl)) (mt_node_ok (mt_leaf_ok (mn_if)) (mt_leaf_ok (mn_push))))))) (mt_node_ok (mt_node_ok (mt_node_ok (mt_node_ok (mt_leaf_ok (trivial)) (mt_node_ok (mt_leaf_ok (mn_aload)) (mt_leaf_ok (mn_aload)))) (mt_node_ok (mt_leaf_ok (mn_push)) (mt_node_ok (mt_leaf_ok (rfl)) (mt_leaf_ok (mn_put))))) (mt_node_ok (mt_node_ok (mt_leaf_ok (mn_aload)) (mt_node_ok (mt_leaf_ok (mn_get)) (mt_leaf_ok (mn_if)))) (mt_node_ok (mt_leaf_ok (mn_aload)) (mt_node_ok (mt_leaf_ok (mn_push)) (mt_leaf_ok (mn_push)))))) (mt_node_ok (mt_node_ok (mt_node_ok (mt_leaf_ok (rfl)) (mt_node_ok (mt_leaf_ok (trivial)) (mt_leaf_ok (mn_aload)))) (mt_node_ok (mt_leaf_ok (mn_push)) (mt_node_ok (mt_leaf_ok (mn_put)) (mt_leaf_ok (mn_aload))))) (mt_node_ok (mt_node_ok (mt_leaf_ok (rfl)) (mt_node_ok (mt_leaf_ok (mn_if)) (mt_leaf_ok (mn_push)))) (mt_node_ok (mt_leaf_ok (trivial)) (mt_node_ok (mt_leaf_ok (mn_aload)) (mt_leaf_ok (mn_aload)))))))
theorem mz_237_2 {g : xe_G} : mt_all (mnP mS) (mb_237_2 g) := mt_node_ok (mt_node_ok (mt_node_ok (mt_node_ok (mt_node_ok (mt_leaf_ok (mn_get)) (mt_node_ok (mt_leaf_ok (mn_put)) (mt_leaf_ok (mn_push)))) (mt_node_ok (mt_leaf_ok (mn_isto)) (mt_node_ok (mt_leaf_ok (mn_iload)) (mt_leaf_ok (mn_push))))) (mt_node_ok (mt_node_ok (mt_leaf_ok (mn_if2)) (mt_node_ok (mt_leaf_ok (mn_aload)) (mt_leaf_ok (mn_push)))) (mt_node_ok (mt_leaf_ok (rfl)) (mt_node_ok (mt_leaf_ok (mn_if)) (mt_leaf_ok (mn_push)))))) (mt_node_ok (mt_node_ok (mt_node_ok (mt_leaf_ok (trivial)) (mt_node_ok (mt_leaf_ok (mn_aload)) (mt_leaf_ok (mn_dup)))) (mt_node_ok (mt_leaf_ok (mn_get)) (mt_node_ok (mt_leaf_ok (mn_push)) (mt_leaf_ok (mn_bin))))) (mt_node_ok (mt_node_ok (mt_leaf_ok (mn_put)) (mt_node_ok (mt_leaf_ok (mn_iinc)) (mt_leaf_ok (mn_goto)))) (mt_node_ok (mt_leaf_ok (mn_aload)) (mt_node_ok (mt_leaf_ok (mn_aload)) (mt_leaf_ok (mn_get))))))) (mt_node_ok (mt_node_ok (mt_node_ok (mt_node_ok (mt_leaf_ok (mn_push)) (mt_node_ok (mt_leaf_ok (mn_bin)) (mt_leaf_ok (rfl)))) (mt_node_ok (mt_leaf_ok (mn_isto)) (mt_node_ok (mt_leaf_ok (mn_push)) (mt_leaf_ok (mn_isto))))) (mt_node_ok (mt_node_ok (mt_leaf_ok (mn_iload)) (mt_node_ok (mt_leaf_ok (mn_iload)) (mt_leaf_ok (mn_if2)))) (mt_node_ok (mt_leaf_ok (mn_aload)) (mt_node_ok (mt_leaf_ok (mn_push)) (mt_leaf_ok (rfl)))))) (mt_node_ok (mt_node_ok (mt_node_ok (mt_leaf_ok (mn_if)) (mt_node_ok (mt_leaf_ok (mn_push)) (mt_leaf_ok (trivial)))) (mt_node_ok (mt_leaf_ok (mn_aload)) (mt_node_ok (mt_leaf_ok (mn_dup)) (mt_leaf_ok (mn_get))))) (mt_node_ok (mt_node_ok (mt_leaf_ok (mn_push)) (mt_node_ok (mt_leaf_ok (mn_bin)) (mt_leaf_ok (mn_put)))) (mt_node_ok (mt_leaf_ok (mn_iinc)) (mt_node_ok (mt_leaf_ok (mn_goto)) (mt_leaf_ok (mn_aload)))))))
end
section
theorem mz_237_3 {g : xe_G} : mt_all (mnP mS) (mb_237_3 g) := mt_node_ok (mt_node_ok (mt_node_ok (mt_node_ok (mt_node_ok (mt_leaf_ok (mn_aload)) (mt_leaf_ok (mn_get))) (mt_node_ok (mt_leaf_ok (mn_put)) (mt_node_ok (mt_leaf_ok (mn_aload)) (mt_leaf_ok (rfl))))) (mt_node_ok (mt_node_ok (mt_leaf_ok (mn_if)) (mt_leaf_ok (mn_push))) (mt_node_ok (mt_leaf_ok (trivial)) (mt_node_ok (mt_leaf_ok (mn_aload)) (mt_leaf_ok (mn_aload)))))) (mt_node_ok (mt_node_ok (mt_node_ok (mt_leaf_ok (mn_get)) (mt_leaf_ok (mn_put))) (mt_node_ok (mt_leaf_ok (mn_aload)) (mt_node_ok (mt_leaf_ok (rfl)) (mt_leaf_ok (mn_if))))) (mt_node_ok (mt_node_ok (mt_leaf_ok (mn_push)) (mt_leaf_ok (trivial))) (mt_node_ok (mt_leaf_ok (mn_aload)) (mt_node_ok (mt_leaf_ok (mn_aload)) (mt_leaf_ok (mn_get))))))) (mt_node_ok (mt_node_ok (mt_node_ok (mt_node_ok (mt_leaf_ok (mn_put)) (mt_leaf_ok (mn_aload))) (mt_node_ok (mt_leaf_ok (rfl)) (mt_node_ok (mt_leaf_ok (mn_if)) (mt_leaf_ok (mn_push))))) (mt_node_ok (mt_node_ok (mt_leaf_ok (trivial)) (mt_leaf_ok (mn_aload))) (mt_node_ok (mt_leaf_ok (mn_get)) (mt_node_ok (mt_leaf_ok (mn_aload)) (mt_leaf_ok (mn_get)))))) (mt_node_ok (mt_node_ok (mt_node_ok (mt_leaf_ok (mn_if2)) (mt_leaf_ok (mn_aload))) (mt_node_ok (mt_leaf_ok (mn_push)) (mt_node_ok (mt_leaf_ok (mn_aload)) (mt_leaf_ok (mn_get))))) (mt_node_ok (mt_node_ok (mt_leaf_ok (rfl)) (mt_node_ok (mt_leaf_ok (mn_if)) (mt_leaf_ok (mn_push)))) (mt_node_ok (mt_leaf_ok (mn_goto)) (mt_node_ok (mt_leaf_ok (mn_push)) (mt_leaf_ok (trivial)))))))
theorem mz_237 {g : xe_G} : mt_all (mnP mS) (mb_237 g).2.1 := mt_node_ok (mt_node_ok ((mz_237_0 (g := g))) ((mz_237_1 (g := g)))) (mt_node_ok ((mz_237_2 (g := g))) ((mz_237_3 (g := g))))
theorem mz_238_0 {g : xe_G} : mt_all (mnP mS) (mb_238_0 g) := mt_node_ok (mt_node_ok (mt_node_ok (mt_node_ok (mt_node_ok (mt_leaf_ok (mn_aload)) (mt_node_ok (mt_leaf_ok (mn_aload)) (mt_leaf_ok (mn_get)))) (mt_node_ok (mt_leaf_ok (mn_put)) (mt_node_ok (mt_leaf_ok (mn_aload)) (mt_leaf_ok (mn_get))))) (mt_node_ok (mt_node_ok (mt_leaf_ok (mn_aload)) (mt_node_ok (mt_leaf_ok (mn_get)) (mt_leaf_ok (mn_push)))) (mt_node_ok (mt_leaf_ok (mn_ast)) (mt_node_ok (mt_leaf_ok (mn_push)) (mt_leaf_ok (mn_isto)))))) (mt_node_ok (mt_node_ok (mt_node_ok (mt_leaf_ok (mn_iload)) (mt_node_ok (mt_leaf_ok (mn_aload)) (mt_leaf_ok (mn_get)))) (mt_node_ok (mt_leaf_ok (mn_if2)) (mt_node_ok (mt_leaf_ok (mn_aload)) (mt_leaf_ok (mn_push))))) (mt_node_ok (mt_node_ok (mt_leaf_ok (rfl)) (mt_node_ok (mt_leaf_ok (mn_if)) (mt_leaf_ok (mn_push)))) (mt_node_ok (mt_leaf_ok (trivial)) (mt_node_ok (mt_leaf_ok (mn_aload)) (mt_leaf_ok (mn_aload))))))) (mt_node_ok (mt_node_ok (mt_node_ok (mt_node_ok (mt_leaf_ok (mn_get)) (mt_node_ok (mt_leaf_ok (rfl)) (mt_leaf_ok (mn_isto)))) (mt_node_ok (mt_leaf_ok (mn_aload)) (mt_node_ok (mt_leaf_ok (mn_get)) (mt_leaf_ok (mn_isto))))) (mt_node_ok (mt_node_ok (mt_leaf_ok (mn_aload)) (mt_node_ok (mt_leaf_ok (mn_get)) (mt_leaf_ok (mn_aload)))) (mt_node_ok (mt_leaf_ok (mn_get)) (mt_node_ok (mt_leaf_ok (mn_iload)) (mt_leaf_ok (mn_bin)))))) (mt_node_ok (mt_node_ok (mt_node_ok (mt_leaf_ok (mn_iload)) (mt_node_ok (mt_leaf_ok (mn_ast)) (mt_leaf_ok (mn_aload)))) (mt_node_ok (mt_leaf_ok (mn_get)) (mt_node_ok (mt_leaf_ok (mn_aload)) (mt_leaf_ok (mn_get))))) (mt_node_ok (mt_node_ok (mt_leaf_ok (mn_iload)) (mt_node_ok (mt_leaf_ok (mn_bin)) (mt_leaf_ok (mn_push)))) (mt_node_ok (mt_leaf_ok (mn_ast)) (mt_node_ok (mt_leaf_ok (mn_iload)) (mt_leaf_ok (mn_push)))))))
theorem mz_238_1 {g : xe_G} : mt_all (mnP mS) (mb_238_1 g) := mt_node_ok (mt_node_ok (mt_node_ok (mt_node_ok (mt_node_ok (mt_leaf_ok (mn_if2)) (mt_node_ok (mt_leaf_ok (mn_iload)) (mt_leaf_ok (mn_push)))) (mt_node_ok (mt_leaf_ok (mn_if2)) (mt_node_ok (mt_leaf_ok (mn_iload)) (mt_leaf_ok (mn_push))))) (mt_node_ok (mt_node_ok (mt_leaf_ok (mn_if2)) (mt_node_ok (mt_leaf_ok (mn_iload)) (mt_leaf_ok (mn_push)))) (mt_node_ok (mt_leaf_ok (mn_if2)) (mt_node_ok (mt_leaf_ok (mn_iload)) (mt_leaf_ok (mn_push)))))) (mt_node_ok (mt_node_ok (mt_node_ok (mt_leaf_ok (mn_if2)) (mt_node_ok (mt_leaf_ok (mn_iload)) (mt_leaf_ok (mn_push)))) (mt_node_ok (mt_leaf_ok (mn_if2)) (mt_node_ok (mt_leaf_ok (mn_aload)) (mt_leaf_ok (mn_get))))) (mt_node_ok (mt_node_ok (mt_leaf_ok (mn_push)) (mt_node_ok (mt_leaf_ok (mn_if2)) (mt_leaf_ok (mn_iload)))) (mt_node_ok (mt_leaf_ok (mn_push)) (mt_node_ok (mt_leaf_ok (mn_if2)) (mt_leaf_ok (mn_iload))))))) (mt_node_ok (mt_node_ok (mt_node_ok (mt_node_ok (mt_leaf_ok (mn_push)) (mt_node_ok (mt_leaf_ok (mn_if2)) (mt_leaf_ok (mn_aload)))) (mt_node_ok (mt_leaf_ok (mn_get)) (mt_node_ok (mt_leaf_ok (mn_push)) (mt_leaf_ok (mn_if2))))) (mt_node_ok (mt_node_ok (mt_leaf_ok (mn_iload)) (mt_node_ok (mt_leaf_ok (mn_push)) (mt_leaf_ok (mn_if2)))) (mt_node_ok (mt_leaf_ok (mn_aload)) (mt_node_ok (mt_leaf_ok (mn_get)) (mt_leaf_ok (mn_push)))))) (mt_node_ok (mt_node_ok (mt_node_ok (mt_leaf_ok (mn_if2)) (mt_node_ok (mt_leaf_ok (mn_push)) (mt_leaf_ok (mn_goto)))) (mt_node_ok (mt_leaf_ok (mn_push)) (mt_node_ok (mt_leaf_ok (mn_isto)) (mt_leaf_ok (mn_iload))))) (mt_node_ok (mt_node_ok (mt_leaf_ok (mn_if)) (mt_node_ok (mt_leaf_ok (mn_aload)) (mt_leaf_ok (mn_push)))) (mt_node_ok (mt_leaf_ok (mn_iload)) (mt_node_ok (mt_leaf_ok (rfl)) (mt_leaf_ok (trivial)))))))
theorem mz_238_2 {g : xe_G} : mt_all (mnP mS) (mb_238_2 g) := mt_node_ok (mt_node_ok (mt_node_ok (mt_node_ok (mt_node_ok (mt_leaf_ok (mn_iload)) (mt_node_ok (mt_leaf_ok (mn_push)) (mt_leaf_ok (mn_if2)))) (mt_node_ok (mt_leaf_ok (mn_iload)) (mt_node_ok (mt_leaf_ok (mn_push)) (mt_leaf_ok (mn_if2))))) (mt_node_ok (mt_node_ok (mt_leaf_ok (mn_iload)) (mt_node_ok (mt_leaf_ok (mn_push)) (mt_leaf_ok (mn_bin)))) (mt_node_ok (mt_leaf_ok (mn_aload)) (mt_node_ok (mt_leaf_ok (mn_get)) (mt_leaf_ok (mn_if2)))))) (mt_node_ok (mt_node_ok (mt_node_ok (mt_leaf_ok (mn_aload)) (mt_node_ok (mt_leaf_ok (mn_push)) (mt_leaf_ok (mn_iload)))) (mt_node_ok (mt_leaf_ok (rfl)) (mt_node_ok (mt_leaf_ok (trivial)) (mt_leaf_ok (mn_aload))))) (mt_node_ok (mt_node_ok (mt_leaf_ok (mn_dup)) (mt_node_ok (mt_leaf_ok (mn_get)) (mt_leaf_ok (mn_push)))) (mt_node_ok (mt_leaf_ok (mn_bin)) (mt_node_ok (mt_leaf_ok (mn_put)) (mt_leaf_ok (mn_iload))))))) (mt_node_ok (mt_node_ok (mt_node_ok (mt_node_ok (mt_leaf_ok (mn_push)) (mt_node_ok (mt_leaf_ok (mn_if2)) (mt_leaf_ok (mn_aload)))) (mt_node_ok (mt_leaf_ok (mn_push)) (mt_node_ok (mt_leaf_ok (rfl)) (mt_leaf_ok (mn_if))))) (mt_node_ok (mt_node_ok (mt_leaf_ok (mn_push)) (mt_node_ok (mt_leaf_ok (trivial)) (mt_leaf_ok (mn_aload)))) (mt_node_ok (mt_leaf_ok (mn_aload)) (mt_node_ok (mt_leaf_ok (mn_get)) (mt_leaf_ok (rfl)))))) (mt_node_ok (mt_node_ok (mt_node_ok (mt_leaf_ok (mn_isto)) (mt_node_ok (mt_leaf_ok (mn_aload)) (mt_leaf_ok (mn_dup)))) (mt_node_ok (mt_leaf_ok (mn_get)) (mt_node_ok (mt_leaf_ok (mn_push)) (mt_leaf_ok (mn_bin))))) (mt_node_ok (mt_node_ok (mt_leaf_ok (mn_put)) (mt_node_ok (mt_leaf_ok (mn_aload)) (mt_leaf_ok (mn_iload)))) (mt_node_ok (mt_leaf_ok (mn_i2l)) (mt_node_ok (mt_leaf_ok (rfl)) (mt_leaf_ok (mn_if)))))))
theorem mz_238_3 {g : xe_G} : mt_all (mnP mS) (mb_238_3 g) := mt_node_ok (mt_node_ok (mt_node_ok (mt_node_ok (mt_node_ok (mt_leaf_ok (mn_push)) (mt_node_ok (mt_leaf_ok (trivial)) (mt_leaf_ok (mn_aload)))) (mt_node_ok (mt_leaf_ok (mn_aload)) (mt_node_ok (mt_leaf_ok (mn_get)) (mt_leaf_ok (mn_iload))))) (mt_node_ok (mt_node_ok (mt_leaf_ok (mn_bin)) (mt_node_ok (mt_leaf_ok (mn_aload)) (mt_leaf_ok (mn_get)))) (mt_node_ok (mt_leaf_ok (mn_iload)) (mt_node_ok (mt_leaf_ok (rfl)) (mt_leaf_ok (mn_if)))))) (mt_node_ok (mt_node_ok (mt_node_ok (mt_leaf_ok (mn_push)) (mt_node_ok (mt_leaf_ok (trivial)) (mt_leaf_ok (mn_aload)))) (mt_node_ok (mt_leaf_ok (mn_dup)) (mt_node_ok (mt_leaf_ok (mn_get)) (mt_leaf_ok (mn_iload))))) (mt_node_ok (mt_node_ok (mt_leaf_ok (mn_bin)) (mt_node_ok (mt_leaf_ok (mn_put)) (mt_leaf_ok (mn_goto)))) (mt_node_ok (mt_leaf_ok (mn_iload)) (mt_node_ok (mt_leaf_ok (mn_push)) (mt_leaf_ok (mn_if2))))))) (mt_node_ok (mt_node_ok (mt_node_ok (mt_node_ok (mt_leaf_ok (mn_aload)) (mt_node_ok (mt_leaf_ok (mn_push)) (mt_leaf_ok (rfl)))) (mt_node_ok (mt_leaf_ok (mn_if)) (mt_node_ok (mt_leaf_ok (mn_push)) (mt_leaf_ok (trivial))))) (mt_node_ok (mt_node_ok (mt_leaf_ok (mn_aload)) (mt_node_ok (mt_leaf_ok (mn_dup)) (mt_leaf_ok (mn_get)))) (mt_node_ok (mt_leaf_ok (mn_push)) (mt_node_ok (mt_leaf_ok (mn_bin)) (mt_leaf_ok (mn_put)))))) (mt_node_ok (mt_node_ok (mt_node_ok (mt_leaf_ok (mn_aload)) (mt_node_ok (mt_leaf_ok (mn_push)) (mt_leaf_ok (rfl)))) (mt_node_ok (mt_leaf_ok (mn_if)) (mt_node_ok (mt_leaf_ok (mn_push)) (mt_leaf_ok (trivial))))) (mt_node_ok (mt_node_ok (mt_leaf_ok (mn_aload)) (mt_node_ok (mt_leaf_ok (mn_dup)) (mt_leaf_ok (mn_get)))) (mt_node_ok (mt_leaf_ok (mn_push)) (mt_node_ok (mt_leaf_ok (mn_bin)) (mt_leaf_ok (mn_put)))))))
theorem mz_238_4 {g : xe_G} : mt_all (mnP mS) (mb_238_4 g) := mt_node_ok (mt_node_ok (mt_node_ok (mt_node_ok (mt_node_ok (mt_leaf_ok (mn_goto)) (mt_node_ok (mt_leaf_ok (mn_iload)) (mt_leaf_ok (mn_push)))) (mt_node_ok (mt_leaf_ok (mn_if2)) (mt_node_ok (mt_leaf_ok (mn_iload)) (mt_leaf_ok (mn_push))))) (mt_node_ok (mt_node_ok (mt_leaf_ok (mn_if2)) (mt_node_ok (mt_leaf_ok (mn_aload)) (mt_leaf_ok (mn_push)))) (mt_node_ok (mt_leaf_ok (rfl)) (mt_node_ok (mt_leaf_ok (mn_if)) (mt_leaf_ok (mn_push)))))) (mt_node_ok (mt_node_ok (mt_node_ok (mt_leaf_ok (trivial)) (mt_node_ok (mt_leaf_ok (mn_aload)) (mt_leaf_ok (mn_dup)))) (mt_node_ok (mt_leaf_ok (mn_get)) (mt_node_ok (mt_leaf_ok (mn_push)) (mt_leaf_ok (mn_bin))))) (mt_node_ok (mt_node_ok (mt_leaf_ok (mn_put)) (mt_node_ok (mt_leaf_ok (mn_goto)) (mt_leaf_ok (mn_iload)))) (mt_node_ok (mt_leaf_ok (mn_push)) (mt_node_ok (mt_leaf_ok (mn_if2)) (mt_leaf_ok (mn_iload))))))) (mt_node_ok (mt_node_ok (mt_node_ok (mt_node_ok (mt_leaf_ok (mn_push)) (mt_node_ok (mt_leaf_ok (mn_if2)) (mt_leaf_ok (mn_push)))) (mt_node_ok (mt_leaf_ok (mn_isto)) (mt_node_ok (mt_leaf_ok (mn_iload)) (mt_leaf_ok (mn_push))))) (mt_node_ok (mt_node_ok (mt_leaf_ok (mn_if2)) (mt_node_ok (mt_leaf_ok (mn_aload)) (mt_leaf_ok (mn_push)))) (mt_node_ok (mt_leaf_ok (rfl)) (mt_node_ok (mt_leaf_ok (mn_if)) (mt_leaf_ok (mn_push)))))) (mt_node_ok (mt_node_ok (mt_node_ok (mt_leaf_ok (trivial)) (mt_node_ok (mt_leaf_ok (mn_aload)) (mt_leaf_ok (mn_dup)))) (mt_node_ok (mt_leaf_ok (mn_get)) (mt_node_ok (mt_leaf_ok (mn_push)) (mt_leaf_ok (mn_bin))))) (mt_node_ok (mt_node_ok (mt_leaf_ok (mn_put)) (mt_node_ok (mt_leaf_ok (mn_iinc)) (mt_leaf_ok (mn_goto)))) (mt_node_ok (mt_leaf_ok (mn_goto)) (mt_node_ok (mt_leaf_ok (mn_push)) (mt_leaf_ok (mn_isto)))))))
theorem mz_238_5 {g : xe_G} : mt_all (mnP mS) (mb_238_5 g) := mt_node_ok (mt_node_ok (mt_node_ok (mt_node_ok (mt_node_ok (mt_leaf_ok (mn_iload)) (mt_node_ok (mt_leaf_ok (mn_iload)) (mt_leaf_ok (mn_push)))) (mt_node_ok (mt_leaf_ok (mn_if2)) (mt_node_ok (mt_leaf_ok (mn_iload)) (mt_leaf_ok (mn_push))))) (mt_node_ok (mt_node_ok (mt_leaf_ok (mn_if2)) (mt_node_ok (mt_leaf_ok (mn_iload)) (mt_leaf_ok (mn_push)))) (mt_node_ok (mt_leaf_ok (mn_if2)) (mt_node_ok (mt_leaf_ok (mn_iload)) (mt_leaf_ok (mn_push)))))) (mt_node_ok (mt_node_ok (mt_node_ok (mt_leaf_ok (mn_if2)) (mt_node_ok (mt_leaf_ok (mn_push)) (mt_leaf_ok (mn_goto)))) (mt_node_ok (mt_leaf_ok (mn_push)) (mt_node_ok (mt_leaf_ok (mn_if2)) (mt_leaf_ok (mn_aload))))) (mt_node_ok (mt_node_ok (mt_leaf_ok (mn_push)) (mt_node_ok (mt_leaf_ok (rfl)) (mt_leaf_ok (mn_if)))) (mt_node_ok (mt_leaf_ok (mn_push)) (mt_node_ok (mt_leaf_ok (trivial)) (mt_leaf_ok (mn_aload))))))) (mt_node_ok (mt_node_ok (mt_node_ok (mt_node_ok (mt_leaf_ok (mn_dup)) (mt_node_ok (mt_leaf_ok (mn_get)) (mt_leaf_ok (mn_push)))) (mt_node_ok (mt_leaf_ok (mn_bin)) (mt_node_ok (mt_leaf_ok (mn_put)) (mt_leaf_ok (mn_iinc))))) (mt_node_ok (mt_node_ok (mt_leaf_ok (mn_goto)) (mt_node_ok (mt_leaf_ok (mn_iload)) (mt_leaf_ok (mn_push)))) (mt_node_ok (mt_leaf_ok (mn_if2)) (mt_node_ok (mt_leaf_ok (mn_iload)) (mt_leaf_ok (mn_push)))))) (mt_node_ok (mt_node_ok (mt_node_ok (mt_leaf_ok (mn_if2)) (mt_node_ok (mt_leaf_ok (mn_iinc)) (mt_leaf_ok (mn_aload)))) (mt_node_ok (mt_leaf_ok (mn_get)) (mt_node_ok (mt_leaf_ok (mn_aload)) (mt_leaf_ok (mn_get))))) (mt_node_ok (mt_node_ok (mt_leaf_ok (mn_iload)) (mt_node_ok (mt_leaf_ok (mn_bin)) (mt_leaf_ok (mn_push)))) (mt_node_ok (mt_leaf_ok (mn_ast)) (mt_node_ok (mt_leaf_ok (mn_iinc)) (mt_leaf_ok (mn_goto)))))))
theorem mz_238_6 {g : xe_G} : mt_all (mnP mS) (mb_238_6 g) := mt_node_ok (mt_node_ok (mt_node_ok (mt_leaf_ok (mn_aload)) (mt_leaf_ok (mn_aload))) (mt_node_ok (mt_leaf_ok (mn_get)) (mt_leaf_ok (mn_aload)))) (mt_node_ok (mt_node_ok (mt_leaf_ok (mn_get)) (mt_leaf_ok (mn_bin))) (mt_node_ok (mt_leaf_ok (mn_put)) (mt_node_ok (mt_leaf_ok (mn_push)) (mt_leaf_ok (trivial)))))
theorem mz_238 {g : xe_G} : mt_all (mnP mS) (mb_238 g).2.1 := mt_node_ok (mt_node_ok ((mz_238_0 (g := g))) (mt_node_ok ((mz_238_1 (g := g))) ((mz_238_2 (g := g))))) (mt_node_ok (mt_node_ok ((mz_238_3 (g := g))) ((mz_238_4 (g := g)))) (mt_node_ok ((mz_238_5 (g := g))) ((mz_238_6 (g := g)))))
theorem mz_242_0 {g : xe_G} : mt_all (mnP mS) (mb_242_0 g) := mt_node_ok (mt_node_ok (mt_node_ok (mt_node_ok (mt_leaf_ok (mn_iload)) (mt_node_ok (mt_leaf_ok (mn_iload)) (mt_leaf_ok (mn_bin)))) (mt_node_ok (mt_node_ok (mt_leaf_ok (mn_if)) (mt_leaf_ok (mn_push))) (mt_node_ok (mt_leaf_ok (mn_goto)) (mt_leaf_ok (mn_push))))) (mt_node_ok (mt_node_ok (mt_leaf_ok (mn_iload)) (mt_node_ok (mt_leaf_ok (mn_iload)) (mt_leaf_ok (mn_bin)))) (mt_node_ok (mt_node_ok (mt_leaf_ok (mn_if)) (mt_leaf_ok (mn_push))) (mt_node_ok (mt_leaf_ok (mn_goto)) (mt_leaf_ok (mn_push)))))) (mt_node_ok (mt_node_ok (mt_node_ok (mt_leaf_ok (mn_bin)) (mt_node_ok (mt_leaf_ok (mn_iload)) (mt_leaf_ok (mn_iload)))) (mt_node_ok (mt_node_ok (mt_leaf_ok (mn_bin)) (mt_leaf_ok (mn_if))) (mt_node_ok (mt_leaf_ok (mn_push)) (mt_leaf_ok (mn_goto))))) (mt_node_ok (mt_node_ok (mt_node_ok (mt_leaf_ok (mn_push)) (mt_leaf_ok (mn_bin))) (mt_node_ok (mt_leaf_ok (mn_push)) (mt_leaf_ok (mn_if2)))) (mt_node_ok (mt_node_ok (mt_leaf_ok (mn_push)) (mt_leaf_ok (mn_goto))) (mt_node_ok (mt_leaf_ok (mn_push)) (mt_leaf_ok (trivial))))))
theorem mz_242 {g : xe_G} : mt_all (mnP mS) (mb_242 g).2.1 := (mz_242_0 (g := g))
theorem mz_244_0 {g : xe_G} : mt_all (mnP mS) (mb_244_0 g) := mt_node_ok (mt_node_ok (mt_node_ok (mt_leaf_ok (mn_aload)) (mt_leaf_ok (mn_get))) (mt_node_ok (mt_leaf_ok (mn_aload)) (mt_leaf_ok (mn_get)))) (mt_node_ok (mt_node_ok (mt_leaf_ok (mn_iload)) (mt_leaf_ok (mn_bin))) (mt_node_ok (mt_leaf_ok (mn_ald)) (mt_leaf_ok (trivial))))
theorem mz_244 {g : xe_G} : mt_all (mnP mS) (mb_244 g).2.1 := (mz_244_0 (g := g))
theorem mz_245_0 {g : xe_G} : mt_all (mnP mS) (mb_245_0 g) := mt_node_ok (mt_node_ok (mt_node_ok (mt_node_ok (mt_node_ok (mt_leaf_ok (mn_push)) (mt_node_ok (mt_leaf_ok (mn_isto)) (mt_leaf_ok (mn_push)))) (mt_node_ok (mt_leaf_ok (mn_isto)) (mt_node_ok (mt_leaf_ok (mn_iload)) (mt_leaf_ok (mn_iload))))) (mt_node_ok (mt_node_ok (mt_leaf_ok (mn_if2)) (mt_node_ok (mt_leaf_ok (mn_push)) (mt_leaf_ok (mn_iload)))) (mt_node_ok (mt_leaf_ok (mn_bin)) (mt_node_ok (mt_leaf_ok (mn_aload)) (mt_leaf_ok (mn_get)))))) (mt_node_ok (mt_node_ok (mt_node_ok (mt_leaf_ok (mn_iload)) (mt_node_ok (mt_leaf_ok (mn_ald)) (mt_leaf_ok (mn_bin)))) (mt_node_ok (mt_leaf_ok (mn_isto)) (mt_node_ok (mt_leaf_ok (mn_iinc)) (mt_leaf_ok (mn_goto))))) (mt_node_ok (mt_node_ok (mt_leaf_ok (mn_iload)) (mt_node_ok (mt_leaf_ok (mn_iload)) (mt_leaf_ok (mn_push)))) (mt_node_ok (mt_leaf_ok (mn_bin)) (mt_node_ok (mt_leaf_ok (mn_bin)) (mt_leaf_ok (mn_push))))))) (mt_node_ok (mt_node_ok (mt_node_ok (mt_node_ok (mt_leaf_ok (mn_bin)) (mt_node_ok (mt_leaf_ok (mn_isto)) (mt_leaf_ok (mn_aload)))) (mt_node_ok (mt_leaf_ok (mn_get)) (mt_node_ok (mt_leaf_ok (mn_iload)) (mt_leaf_ok (mn_ald))))) (mt_node_ok (mt_node_ok (mt_leaf_ok (mn_isto)) (mt_node_ok (mt_leaf_ok (mn_iload)) (mt_leaf_ok (mn_if)))) (mt_node_ok (mt_leaf_ok (mn_aload)) (mt_node_ok (mt_leaf_ok (mn_get)) (mt_leaf_ok (mn_iload)))))) (mt_node_ok (mt_node_ok (mt_node_ok (mt_leaf_ok (mn_ald)) (mt_node_ok (mt_leaf_ok (mn_iload)) (mt_leaf_ok (mn_if2)))) (mt_node_ok (mt_leaf_ok (mn_push)) (mt_node_ok (mt_leaf_ok (mn_goto)) (mt_leaf_ok (mn_push))))) (mt_node_ok (mt_node_ok (mt_leaf_ok (mn_isto)) (mt_node_ok (mt_leaf_ok (mn_push)) (mt_leaf_ok (mn_isto)))) (mt_node_ok (mt_leaf_ok (mn_iload)) (mt_node_ok (mt_leaf_ok (mn_iload)) (mt_leaf_ok (mn_if2)))))))
theorem mz_245_1 {g : xe_G} : mt_all (mnP mS) (mb_245_1 g) := mt_node_ok (mt_node_ok (mt_node_ok (mt_node_ok (mt_node_ok (mt_leaf_ok (mn_iload)) (mt_node_ok (mt_leaf_ok (mn_if)) (mt_leaf_ok (mn_aload)))) (mt_node_ok (mt_leaf_ok (mn_get)) (mt_node_ok (mt_leaf_ok (mn_aload)) (mt_leaf_ok (mn_get))))) (mt_node_ok (mt_node_ok (mt_leaf_ok (mn_iload)) (mt_node_ok (mt_leaf_ok (mn_ald)) (mt_leaf_ok (mn_iload)))) (mt_node_ok (mt_leaf_ok (mn_bin)) (mt_node_ok (mt_leaf_ok (mn_ald)) (mt_leaf_ok (mn_aload)))))) (mt_node_ok (mt_node_ok (mt_node_ok (mt_leaf_ok (mn_get)) (mt_node_ok (mt_leaf_ok (mn_iload)) (mt_leaf_ok (mn_ald)))) (mt_node_ok (mt_leaf_ok (mn_if2)) (mt_node_ok (mt_leaf_ok (mn_push)) (mt_leaf_ok (mn_goto))))) (mt_node_ok (mt_node_ok (mt_leaf_ok (mn_push)) (mt_node_ok (mt_leaf_ok (mn_isto)) (mt_leaf_ok (mn_iinc)))) (mt_node_ok (mt_leaf_ok (mn_goto)) (mt_node_ok (mt_leaf_ok (mn_iload)) (mt_leaf_ok (mn_if))))))) (mt_node_ok (mt_node_ok (mt_node_ok (mt_node_ok (mt_leaf_ok (mn_iload)) (mt_node_ok (mt_leaf_ok (trivial)) (mt_leaf_ok (mn_aload)))) (mt_node_ok (mt_leaf_ok (mn_get)) (mt_node_ok (mt_leaf_ok (mn_iload)) (mt_leaf_ok (mn_ald))))) (mt_node_ok (mt_node_ok (mt_leaf_ok (mn_isto)) (mt_node_ok (mt_leaf_ok (mn_goto)) (mt_leaf_ok (mn_push)))) (mt_node_ok (mt_leaf_ok (mn_isto)) (mt_node_ok (mt_leaf_ok (mn_iload)) (mt_leaf_ok (mn_iload)))))) (mt_node_ok (mt_node_ok (mt_node_ok (mt_leaf_ok (mn_if2)) (mt_node_ok (mt_leaf_ok (mn_aload)) (mt_leaf_ok (mn_get)))) (mt_node_ok (mt_leaf_ok (mn_aload)) (mt_node_ok (mt_leaf_ok (mn_get)) (mt_leaf_ok (mn_iload))))) (mt_node_ok (mt_node_ok (mt_leaf_ok (mn_bin)) (mt_node_ok (mt_leaf_ok (mn_aload)) (mt_leaf_ok (mn_get)))) (mt_node_ok (mt_leaf_ok (mn_iload)) (mt_node_ok (mt_leaf_ok (mn_ald)) (mt_leaf_ok (mn_ast)))))))
theorem mz_245_2 {g : xe_G} : mt_all (mnP mS) (mb_245_2 g) := mt_node_ok (mt_node_ok (mt_node_ok (mt_node_ok (mt_node_ok (mt_leaf_ok (mn_iinc)) (mt_leaf_ok (mn_goto))) (mt_node_ok (mt_leaf_ok (mn_aload)) (mt_node_ok (mt_leaf_ok (mn_dup)) (mt_leaf_ok (mn_get))))) (mt_node_ok (mt_node_ok (mt_leaf_ok (mn_dup_x1)) (mt_leaf_ok (mn_push))) (mt_node_ok (mt_leaf_ok (mn_bin)) (mt_node_ok (mt_leaf_ok (mn_put)) (mt_leaf_ok (mn_isto)))))) (mt_node_ok (mt_node_ok (mt_node_ok (mt_leaf_ok (mn_aload)) (mt_leaf_ok (mn_get))) (mt_node_ok (mt_leaf_ok (mn_iload)) (mt_node_ok (mt_leaf_ok (mn_aload)) (mt_leaf_ok (mn_get))))) (mt_node_ok (mt_node_ok (mt_leaf_ok (mn_ast)) (mt_node_ok (mt_leaf_ok (mn_aload)) (mt_leaf_ok (mn_get)))) (mt_node_ok (mt_leaf_ok (mn_iload)) (mt_node_ok (mt_leaf_ok (mn_iload)) (mt_leaf_ok (mn_ast))))))) (mt_node_ok (mt_node_ok (mt_node_ok (mt_node_ok (mt_leaf_ok (mn_aload)) (mt_leaf_ok (mn_get))) (mt_node_ok (mt_leaf_ok (mn_iload)) (mt_node_ok (mt_leaf_ok (mn_aload)) (mt_leaf_ok (mn_get))))) (mt_node_ok (mt_node_ok (mt_leaf_ok (mn_iload)) (mt_leaf_ok (mn_ald))) (mt_node_ok (mt_leaf_ok (mn_ast)) (mt_node_ok (mt_leaf_ok (mn_aload)) (mt_leaf_ok (mn_get)))))) (mt_node_ok (mt_node_ok (mt_node_ok (mt_leaf_ok (mn_iload)) (mt_leaf_ok (mn_iload))) (mt_node_ok (mt_leaf_ok (mn_ast)) (mt_node_ok (mt_leaf_ok (mn_aload)) (mt_leaf_ok (mn_dup))))) (mt_node_ok (mt_node_ok (mt_leaf_ok (mn_get)) (mt_node_ok (mt_leaf_ok (mn_iload)) (mt_leaf_ok (mn_bin)))) (mt_node_ok (mt_leaf_ok (mn_put)) (mt_node_ok (mt_leaf_ok (mn_iload)) (mt_leaf_ok (trivial)))))))
theorem mz_245 {g : xe_G} : mt_all (mnP mS) (mb_245 g).2.1 := mt_node_ok ((mz_245_0 (g := g))) (mt_node_ok ((mz_245_1 (g := g))) ((mz_245_2 (g := g))))
theorem mz_246_0 {g : xe_G} : mt_all (mnP mS) (mb_246_0 g) := mt_node_ok (mt_node_ok (mt_node_ok (mt_node_ok (mt_leaf_ok (mn_push)) (mt_leaf_ok (mn_isto))) (mt_node_ok (mt_leaf_ok (mn_iload)) (mt_node_ok (mt_leaf_ok (mn_aload)) (mt_leaf_ok (mn_slength))))) (mt_node_ok (mt_node_ok (mt_leaf_ok (mn_if2)) (mt_leaf_ok (mn_aload))) (mt_node_ok (mt_leaf_ok (mn_get)) (mt_node_ok (mt_leaf_ok (mn_iload)) (mt_leaf_ok (mn_aload)))))) (mt_node_ok (mt_node_ok (mt_node_ok (mt_leaf_ok (mn_iload)) (mt_leaf_ok (mn_scharAt))) (mt_node_ok (mt_leaf_ok (mn_ast)) (mt_node_ok (mt_leaf_ok (mn_iinc)) (mt_leaf_ok (mn_goto))))) (mt_node_ok (mt_node_ok (mt_leaf_ok (mn_aload)) (mt_leaf_ok (mn_aload))) (mt_node_ok (mt_leaf_ok (mn_slength)) (mt_node_ok (mt_leaf_ok (rfl)) (mt_leaf_ok (trivial))))))
theorem mz_246 {g : xe_G} : mt_all (mnP mS) (mb_246 g).2.1 := (mz_246_0 (g := g))
theorem mz_247_0 {g : xe_G} : mt_all (mnP mS) (mb_247_0 g) := mt_node_ok (mt_node_ok (mt_node_ok (mt_node_ok (mt_leaf_ok (mn_iload)) (mt_node_ok (mt_leaf_ok (mn_if)) (mt_leaf_ok (mn_iload)))) (mt_node_ok (mt_leaf_ok (mn_aload)) (mt_node_ok (mt_leaf_ok (mn_get)) (mt_leaf_ok (mn_if2))))) (mt_node_ok (mt_node_ok (mt_leaf_ok (mn_aload)) (mt_node_ok (mt_leaf_ok (mn_get)) (mt_leaf_ok (mn_aload)))) (mt_node_ok (mt_node_ok (mt_leaf_ok (mn_get)) (mt_leaf_ok (mn_iload))) (mt_node_ok (mt_leaf_ok (mn_bin)) (mt_leaf_ok (mn_ald)))))) (mt_node_ok (mt_node_ok (mt_node_ok (mt_leaf_ok (mn_if)) (mt_node_ok (mt_leaf_ok (mn_push)) (mt_leaf_ok (mn_goto)))) (mt_node_ok (mt_leaf_ok (mn_aload)) (mt_node_ok (mt_leaf_ok (mn_aload)) (mt_leaf_ok (mn_get))))) (mt_node_ok (mt_node_ok (mt_leaf_ok (mn_aload)) (mt_node_ok (mt_leaf_ok (mn_get)) (mt_leaf_ok (mn_iload)))) (mt_node_ok (mt_node_ok (mt_leaf_ok (mn_bin)) (mt_leaf_ok (mn_ald))) (mt_node_ok (mt_leaf_ok (rfl)) (mt_leaf_ok (trivial))))))
theorem mz_247 {g : xe_G} : mt_all (mnP mS) (mb_247 g).2.1 := (mz_247_0 (g := g))
theorem mz_249_0 {g : xe_G} : mt_all (mnP mS) (mb_249_0 g) := mt_node_ok (mt_node_ok (mt_node_ok (mt_leaf_ok (mn_aload)) (mt_leaf_ok (mn_get))) (mt_node_ok (mt_leaf_ok (mn_aload)) (mt_node_ok (mt_leaf_ok (mn_get)) (mt_leaf_ok (mn_iload))))) (mt_node_ok (mt_node_ok (mt_leaf_ok (mn_bin)) (mt_leaf_ok (mn_ald))) (mt_node_ok (mt_leaf_ok (mn_push)) (mt_node_ok (mt_leaf_ok (mn_bin)) (mt_leaf_ok (trivial)))))
theorem mz_249 {g : xe_G} : mt_all (mnP mS) (mb_249 g).2.1 := (mz_249_0 (g := g))
theorem mz_250_0 {g : xe_G} : mt_all (mnP mS) (mb_250_0 g) := mt_node_ok (mt_node_ok (mt_node_ok (mt_leaf_ok (mn_aload)) (mt_node_ok (mt_leaf_ok (mn_iload)) (mt_leaf_ok (rfl)))) (mt_node_ok (mt_leaf_ok (mn_push)) (mt_node_ok (mt_leaf_ok (mn_bin)) (mt_leaf_ok (mn_aload))))) (mt_node_ok (mt_node_ok (mt_leaf_ok (mn_iload)) (mt_node_ok (mt_leaf_ok (mn_push)) (mt_leaf_ok (mn_bin)))) (mt_node_ok (mt_leaf_ok (rfl)) (mt_node_ok (mt_leaf_ok (mn_bin)) (mt_leaf_ok (trivial)))))
theorem mz_250 {g : xe_G} : mt_all (mnP mS) (mb_250 g).2.1 := (mz_250_0 (g := g))
theorem mz_251_0 {g : xe_G} : mt_all (mnP mS) (mb_251_0 g) := mt_node_ok (mt_node_ok (mt_node_ok (mt_leaf_ok (mn_aload)) (mt_node_ok (mt_leaf_ok (mn_iload)) (mt_leaf_ok (rfl)))) (mt_node_ok (mt_node_ok (mt_leaf_ok (mn_i2l)) (mt_leaf_ok (mn_push))) (mt_node_ok (mt_leaf_ok (mn_lshl)) (mt_leaf_ok (mn_aload))))) (mt_node_ok (mt_node_ok (mt_leaf_ok (mn_iload)) (mt_node_ok (mt_leaf_ok (mn_push)) (mt_leaf_ok (mn_bin)))) (mt_node_ok (mt_node_ok (mt_leaf_ok (rfl)) (mt_leaf_ok (mn_i2l))) (mt_node_ok (mt_leaf_ok (mn_binL)) (mt_leaf_ok (trivial)))))
theorem mz_251 {g : xe_G} : mt_all (mnP mS) (mb_251 g).2.1 := (mz_251_0 (g := g))
theorem mz_252_0 {g : xe_G} : mt_all (mnP mS) (mb_252_0 g) := mt_node_ok (mt_node_ok (mt_node_ok (mt_node_ok (mt_node_ok (mt_leaf_ok (mn_aload)) (mt_leaf_ok (mn_iload))) (mt_node_ok (mt_leaf_ok (rfl)) (mt_node_ok (mt_leaf_ok (mn_isto)) (mt_leaf_ok (mn_push))))) (mt_node_ok (mt_node_ok (mt_leaf_ok (mn_isto)) (mt_node_ok (mt_leaf_ok (mn_iload)) (mt_leaf_ok (mn_iload)))) (mt_node_ok (mt_leaf_ok (mn_if2)) (mt_node_ok (mt_leaf_ok (mn_aload)) (mt_leaf_ok (mn_iload)))))) (mt_node_ok (mt_node_ok (mt_node_ok (mt_leaf_ok (mn_iload)) (mt_leaf_ok (rfl))) (mt_node_ok (mt_leaf_ok (mn_isto)) (mt_node_ok (mt_leaf_ok (mn_iload)) (mt_leaf_ok (mn_push))))) (mt_node_ok (mt_node_ok (mt_leaf_ok (mn_if2)) (mt_node_ok (mt_leaf_ok (mn_iload)) (mt_leaf_ok (mn_push)))) (mt_node_ok (mt_leaf_ok (mn_if2)) (mt_node_ok (mt_leaf_ok (mn_iload)) (mt_leaf_ok (mn_push))))))) (mt_node_ok (mt_node_ok (mt_node_ok (mt_node_ok (mt_leaf_ok (mn_if2)) (mt_leaf_ok (mn_iload))) (mt_node_ok (mt_leaf_ok (mn_push)) (mt_node_ok (mt_leaf_ok (mn_if2)) (mt_leaf_ok (mn_iload))))) (mt_node_ok (mt_node_ok (mt_leaf_ok (mn_if)) (mt_node_ok (mt_leaf_ok (mn_iload)) (mt_leaf_ok (mn_push)))) (mt_node_ok (mt_leaf_ok (mn_if2)) (mt_node_ok (mt_leaf_ok (mn_iload)) (mt_leaf_ok (mn_push)))))) (mt_node_ok (mt_node_ok (mt_node_ok (mt_leaf_ok (mn_if2)) (mt_leaf_ok (mn_push))) (mt_node_ok (mt_leaf_ok (trivial)) (mt_node_ok (mt_leaf_ok (mn_iinc)) (mt_leaf_ok (mn_goto))))) (mt_node_ok (mt_node_ok (mt_leaf_ok (mn_iload)) (mt_node_ok (mt_leaf_ok (mn_if)) (mt_leaf_ok (mn_push)))) (mt_node_ok (mt_leaf_ok (mn_goto)) (mt_node_ok (mt_leaf_ok (mn_push)) (mt_leaf_ok (trivial)))))))
theorem mz_252 {g : xe_G} : mt_all (mnP mS) (mb_252 g).2.1 := (mz_252_0 (g := g))
theorem mz_253_0 {g : xe_G} : mt_all (mnP mS) (mb_253_0 g) := mt_node_ok (mt_node_ok (mt_node_ok (mt_node_ok (mt_node_ok (mt_leaf_ok (mn_push)) (mt_node_ok (mt_leaf_ok (mn_isto)) (mt_leaf_ok (mn_iload)))) (mt_node_ok (mt_leaf_ok (mn_isto)) (mt_node_ok (mt_leaf_ok (mn_iload)) (mt_leaf_ok (mn_iload))))) (mt_node_ok (mt_node_ok (mt_leaf_ok (mn_bin)) (mt_node_ok (mt_leaf_ok (mn_isto)) (mt_leaf_ok (mn_iload)))) (mt_node_ok (mt_leaf_ok (mn_iload)) (mt_node_ok (mt_leaf_ok (mn_if2)) (mt_leaf_ok (mn_aload)))))) (mt_node_ok (mt_node_ok (mt_node_ok (mt_leaf_ok (mn_iload)) (mt_node_ok (mt_leaf_ok (rfl)) (mt_leaf_ok (mn_isto)))) (mt_node_ok (mt_leaf_ok (mn_iload)) (mt_node_ok (mt_leaf_ok (mn_if)) (mt_leaf_ok (mn_iload))))) (mt_node_ok (mt_node_ok (mt_leaf_ok (mn_push)) (mt_node_ok (mt_leaf_ok (mn_if2)) (mt_leaf_ok (mn_iload)))) (mt_node_ok (mt_leaf_ok (mn_push)) (mt_node_ok (mt_leaf_ok (mn_if2)) (mt_leaf_ok (mn_iload))))))) (mt_node_ok (mt_node_ok (mt_node_ok (mt_node_ok (mt_leaf_ok (mn_push)) (mt_node_ok (mt_leaf_ok (mn_if2)) (mt_leaf_ok (mn_aload)))) (mt_node_ok (mt_leaf_ok (mn_push)) (mt_node_ok (mt_leaf_ok (mn_iload)) (mt_leaf_ok (rfl))))) (mt_node_ok (mt_node_ok (mt_leaf_ok (trivial)) (mt_node_ok (mt_leaf_ok (mn_iload)) (mt_leaf_ok (mn_push)))) (mt_node_ok (mt_leaf_ok (mn_if2)) (mt_node_ok (mt_leaf_ok (mn_push)) (mt_leaf_ok (mn_goto)))))) (mt_node_ok (mt_node_ok (mt_node_ok (mt_leaf_ok (mn_iload)) (mt_node_ok (mt_leaf_ok (mn_push)) (mt_leaf_ok (mn_if2)))) (mt_node_ok (mt_leaf_ok (mn_push)) (mt_node_ok (mt_leaf_ok (mn_goto)) (mt_leaf_ok (mn_push))))) (mt_node_ok (mt_node_ok (mt_leaf_ok (mn_isto)) (mt_node_ok (mt_leaf_ok (mn_push)) (mt_leaf_ok (mn_isto)))) (mt_node_ok (mt_leaf_ok (mn_iload)) (mt_node_ok (mt_leaf_ok (mn_iload)) (mt_leaf_ok (mn_if2)))))))
theorem mz_253_1 {g : xe_G} : mt_all (mnP mS) (mb_253_1 g) := mt_node_ok (mt_node_ok (mt_node_ok (mt_node_ok (mt_node_ok (mt_leaf_ok (mn_iload)) (mt_node_ok (mt_leaf_ok (mn_iload)) (mt_leaf_ok (mn_bin)))) (mt_node_ok (mt_leaf_ok (mn_iload)) (mt_node_ok (mt_leaf_ok (mn_if2)) (mt_leaf_ok (mn_aload))))) (mt_node_ok (mt_node_ok (mt_leaf_ok (mn_iload)) (mt_node_ok (mt_leaf_ok (mn_iload)) (mt_leaf_ok (mn_bin)))) (mt_node_ok (mt_leaf_ok (rfl)) (mt_node_ok (mt_leaf_ok (mn_push)) (mt_leaf_ok (mn_bin)))))) (mt_node_ok (mt_node_ok (mt_node_ok (mt_leaf_ok (mn_push)) (mt_node_ok (mt_leaf_ok (mn_if2)) (mt_leaf_ok (mn_aload)))) (mt_node_ok (mt_leaf_ok (mn_push)) (mt_node_ok (mt_leaf_ok (mn_iload)) (mt_leaf_ok (rfl))))) (mt_node_ok (mt_node_ok (mt_leaf_ok (trivial)) (mt_node_ok (mt_leaf_ok (mn_iinc)) (mt_leaf_ok (mn_goto)))) (mt_node_ok (mt_leaf_ok (mn_aload)) (mt_node_ok (mt_leaf_ok (mn_get)) (mt_leaf_ok (mn_iload))))))) (mt_node_ok (mt_node_ok (mt_node_ok (mt_node_ok (mt_leaf_ok (mn_iinc)) (mt_node_ok (mt_leaf_ok (mn_iload)) (mt_leaf_ok (mn_if)))) (mt_node_ok (mt_leaf_ok (mn_iload)) (mt_node_ok (mt_leaf_ok (mn_goto)) (mt_leaf_ok (mn_iload))))) (mt_node_ok (mt_node_ok (mt_leaf_ok (mn_push)) (mt_node_ok (mt_leaf_ok (mn_if2)) (mt_leaf_ok (mn_iload)))) (mt_node_ok (mt_leaf_ok (mn_push)) (mt_node_ok (mt_leaf_ok (mn_bin)) (mt_leaf_ok (mn_push)))))) (mt_node_ok (mt_node_ok (mt_node_ok (mt_leaf_ok (mn_bin)) (mt_node_ok (mt_leaf_ok (mn_aload)) (mt_leaf_ok (mn_iload)))) (mt_node_ok (mt_leaf_ok (mn_push)) (mt_node_ok (mt_leaf_ok (mn_bin)) (mt_leaf_ok (rfl))))) (mt_node_ok (mt_node_ok (mt_leaf_ok (mn_push)) (mt_node_ok (mt_leaf_ok (mn_bin)) (mt_leaf_ok (mn_bin)))) (mt_node_ok (mt_leaf_ok (mn_goto)) (mt_node_ok (mt_leaf_ok (mn_iload)) (mt_leaf_ok (mn_push)))))))
theorem mz_253_2 {g : xe_G} : mt_all (mnP mS) (mb_253_2 g) := mt_node_ok (mt_node_ok (mt_node_ok (mt_node_ok (mt_node_ok (mt_leaf_ok (mn_bin)) (mt_leaf_ok (mn_push))) (mt_node_ok (mt_leaf_ok (mn_bin)) (mt_leaf_ok (mn_aload)))) (mt_node_ok (mt_node_ok (mt_leaf_ok (mn_iload)) (mt_leaf_ok (mn_push))) (mt_node_ok (mt_leaf_ok (mn_bin)) (mt_node_ok (mt_leaf_ok (rfl)) (mt_leaf_ok (mn_push)))))) (mt_node_ok (mt_node_ok (mt_node_ok (mt_leaf_ok (mn_bin)) (mt_leaf_ok (mn_push))) (mt_node_ok (mt_leaf_ok (mn_bin)) (mt_node_ok (mt_leaf_ok (mn_bin)) (mt_leaf_ok (mn_aload))))) (mt_node_ok (mt_node_ok (mt_leaf_ok (mn_iload)) (mt_leaf_ok (mn_push))) (mt_node_ok (mt_leaf_ok (mn_bin)) (mt_node_ok (mt_leaf_ok (rfl)) (mt_leaf_ok (mn_push))))))) (mt_node_ok (mt_node_ok (mt_node_ok (mt_node_ok (mt_leaf_ok (mn_bin)) (mt_leaf_ok (mn_bin))) (mt_node_ok (mt_leaf_ok (mn_un)) (mt_node_ok (mt_leaf_ok (mn_ast)) (mt_leaf_ok (mn_iload))))) (mt_node_ok (mt_node_ok (mt_leaf_ok (mn_iload)) (mt_leaf_ok (mn_push))) (mt_node_ok (mt_leaf_ok (mn_bin)) (mt_node_ok (mt_leaf_ok (mn_bin)) (mt_leaf_ok (mn_isto)))))) (mt_node_ok (mt_node_ok (mt_node_ok (mt_leaf_ok (mn_goto)) (mt_leaf_ok (mn_aload))) (mt_node_ok (mt_leaf_ok (mn_get)) (mt_node_ok (mt_leaf_ok (mn_iload)) (mt_leaf_ok (mn_aload))))) (mt_node_ok (mt_node_ok (mt_leaf_ok (mn_iload)) (mt_leaf_ok (rfl))) (mt_node_ok (mt_leaf_ok (mn_ast)) (mt_node_ok (mt_leaf_ok (mn_push)) (mt_leaf_ok (trivial)))))))
theorem mz_253 {g : xe_G} : mt_all (mnP mS) (mb_253 g).2.1 := mt_node_ok ((mz_253_0 (g := g))) (mt_node_ok ((mz_253_1 (g := g))) ((mz_253_2 (g := g))))
theorem mz_257_0 {g : xe_G} : mt_all (mnP mS) (mb_257_0 g) := mt_node_ok (mt_node_ok (mt_node_ok (mt_leaf_ok (mn_aload)) (mt_leaf_ok (mn_iload))) (mt_node_ok (mt_leaf_ok (mn_put)) (mt_leaf_ok (mn_aload)))) (mt_node_ok (mt_node_ok (mt_leaf_ok (mn_iload)) (mt_leaf_ok (mn_put))) (mt_node_ok (mt_leaf_ok (mn_push)) (mt_leaf_ok (trivial))))
theorem mz_257 {g : xe_G} : mt_all (mnP mS) (mb_257 g).2.1 := (mz_257_0 (g := g))
theorem mz_all {g : xe_G} : mnT (mT g) mS := by
  intro y b hy hb
  simp only [mS, List.mem_cons, List.not_mem_nil, or_false] at hy
  rcases hy with rfl | rfl | rfl | rfl | rfl | rfl | rfl | rfl | rfl | rfl | rfl | rfl | rfl | rfl | rfl | rfl | rfl | rfl | rfl | rfl | rfl | rfl | rfl | rfl | rfl | rfl | rfl | rfl | rfl | rfl | rfl | rfl | rfl | rfl | rfl | rfl | rfl | rfl | rfl | rfl | rfl | rfl | rfl | rfl | rfl
  · cases (show some (mb_175 g) = some b from hb)
    exact mz_175 (g := g)
  · cases (show some (mb_176 g) = some b from hb)
    exact mz_176 (g := g)
  · cases (show some (mb_177 g) = some b from hb)
    exact mz_177 (g := g)
  · cases (show some (mb_178 g) = some b from hb)
    exact mz_178 (g := g)
  · cases (show some (mb_185 g) = some b from hb)
    exact mz_185 (g := g)
  · cases (show some (mb_187 g) = some b from hb)
    exact mz_187 (g := g)
  · cases (show some (mb_188 g) = some b from hb)
    exact mz_188 (g := g)
  · cases (show some (mb_189 g) = some b from hb)
    exact mz_189 (g := g)
  · cases (show some (mb_190 g) = some b from hb)
    exact mz_190 (g := g)
  · cases (show some (mb_191 g) = some b from hb)
    exact mz_191 (g := g)
  · cases (show some (mb_192 g) = some b from hb)
    exact mz_192 (g := g)
  · cases (show some (mb_193 g) = some b from hb)
    exact mz_193 (g := g)
  · cases (show some (mb_194 g) = some b from hb)
    exact mz_194 (g := g)
  · cases (show some (mb_195 g) = some b from hb)
    exact mz_195 (g := g)
  · cases (show some (mb_196 g) = some b from hb)
    exact mz_196 (g := g)
  · cases (show some (mb_197 g) = some b from hb)
    exact mz_197 (g := g)
  · cases (show some (mb_203 g) = some b from hb)
    exact mz_203 (g := g)
  · cases (show some (mb_206 g) = some b from hb)
    exact mz_206 (g := g)
  · cases (show some (mb_209 g) = some b from hb)
    exact mz_209 (g := g)
  · cases (show some (mb_212 g) = some b from hb)
    exact mz_212 (g := g)
  · cases (show some (mb_213 g) = some b from hb)
    exact mz_213 (g := g)
  · cases (show some (mb_214 g) = some b from hb)
    exact mz_214 (g := g)
  · cases (show some (mb_216 g) = some b from hb)
    exact mz_216 (g := g)
  · cases (show some (mb_217 g) = some b from hb)
    exact mz_217 (g := g)
  · cases (show some (mb_218 g) = some b from hb)
    exact mz_218 (g := g)
  · cases (show some (mb_219 g) = some b from hb)
    exact mz_219 (g := g)
  · cases (show some (mb_221 g) = some b from hb)
    exact mz_221 (g := g)
  · cases (show some (mb_224 g) = some b from hb)
    exact mz_224 (g := g)
  · cases (show some (mb_226 g) = some b from hb)
    exact mz_226 (g := g)
  · cases (show some (mb_230 g) = some b from hb)
    exact mz_230 (g := g)
  · cases (show some (mb_233 g) = some b from hb)
    exact mz_233 (g := g)
  · cases (show some (mb_235 g) = some b from hb)
    exact mz_235 (g := g)
  · cases (show some (mb_237 g) = some b from hb)
    exact mz_237 (g := g)
  · cases (show some (mb_238 g) = some b from hb)
    exact mz_238 (g := g)
  · cases (show some (mb_242 g) = some b from hb)
    exact mz_242 (g := g)
  · cases (show some (mb_244 g) = some b from hb)
    exact mz_244 (g := g)
  · cases (show some (mb_245 g) = some b from hb)
    exact mz_245 (g := g)
  · cases (show some (mb_246 g) = some b from hb)
    exact mz_246 (g := g)
  · cases (show some (mb_247 g) = some b from hb)
    exact mz_247 (g := g)
  · cases (show some (mb_249 g) = some b from hb)
    exact mz_249 (g := g)
  · cases (show some (mb_250 g) = some b from hb)
    exact mz_250 (g := g)
  · cases (show some (mb_251 g) = some b from hb)
    exact mz_251 (g := g)
  · cases (show some (mb_252 g) = some b from hb)
    exact mz_252 (g := g)
  · cases (show some (mb_253 g) = some b from hb)
    exact mz_253 (g := g)
  · cases (show some (mb_257 g) = some b from hb)
    exact mz_257 (g := g)
end
section
/-! the reference: look-ups (my own text) -/
section MIA5
def AGX (c : Int32 → Int32) (n a : Int32) : Prop := ∃ m b, itr (AG1 c n) m a b ∧ 0 ≤ b.toInt ∧ b.toInt + 1 < n.toInt ∧ c b = 41
theorem AGX.w {c : Int32 → Int32} {n a : Int32} (h : AGX c n a) : AGW c n a := by
  obtain ⟨m, b, h1, h2, h3, h4⟩ := h
  exact ⟨m, b, h1, h2, by omega, h4⟩
theorem AGX.next {c : Int32 → Int32} {n a : Int32} (h : AGX c n a) (ha : ¬ c a = 41) : a.toInt < (FTx c n a).toInt ∧ AGX c n (FTx c n a) := by
  obtain ⟨m, b, h1, h2, h3, h4⟩ := h
  cases m with
  | zero => cases h1; exact absurd h4 ha
  | succ m =>
    obtain ⟨c1, h5, h6⟩ := h1.front
    obtain ⟨d1, d2, d3, d4, d5, d6⟩ := h5
    subst d4
    exact ⟨d5, m, b, h6, h2, h3, h4⟩
theorem AGX.end {c : Int32 → Int32} {n a : Int32} (h : AGX c n a) (ha : c a = 41) : 0 ≤ a.toInt ∧ a.toInt + 1 < n.toInt := by
  obtain ⟨m, b, h1, h2, h3, h4⟩ := h
  cases m with
  | zero => cases h1; exact ⟨h2, h3⟩
  | succ m =>
    obtain ⟨c1, h5, h6⟩ := h1.front
    exact absurd ha h5.2.2.1
theorem i_ltn {x : Int32} {k : Nat} (h : x < nI k) (hk : k ≤ 8192) : x.toInt < k := by
  have := i_lt h
  rw [nI_val (by omega)] at this
  exact this
theorem i_lt8 {x : Int32} {k : Nat} (h : x < nI k) (hk : k ≤ 8192) : x < 8192 := by
  have := i_ltn h hk
  apply Int32.lt_iff_toInt_lt.mpr
  have : (8192 : Int32).toInt = 8192 := rfl
  omega
theorem esz_mid {t : Int32} (h1 : ¬ t < 9) (h2 : t ≤ 12) : esz t = 5 ∧ t ≠ 0 := by
  have a := i_nlt h1
  have b := i_le h2
  have a9 : (9 : Int32).toInt = 9 := rfl
  have b12 : (12 : Int32).toInt = 12 := rfl
  have h : t.toInt = 9 ∨ t.toInt = 10 ∨ t.toInt = 11 ∨ t.toInt = 12 := by omega
  have h' : t = 9 ∨ t = 10 ∨ t = 11 ∨ t = 12 := h.imp (fun e => Int32.toInt_inj.mp e) (fun h => h.imp (fun e => Int32.toInt_inj.mp e) (fun h => h.imp (fun e => Int32.toInt_inj.mp e) (fun e => Int32.toInt_inj.mp e)))
  rcases h' with h | h | h | h <;> rw [h] <;> exact ⟨rfl, by decide⟩
/-- the first bytes of a row are known -/
def KB (k c : Nat) (R : rR) : Prop := ∀ i, i < c → ∃ b, R k i = some b
theorem KB.put {k c : Nat} {R R' : rR} {i x : Int32} (h : KB k c R) (h0 : i.toInt = c) (h1 : R' k i.toNatClampNeg = some x) (h2 : ∀ b, b ≠ i.toNatClampNeg → R' k b = R k b) : KB k (c + 1) R' := by
  intro b hb
  by_cases e : b = i.toNatClampNeg
  · exact ⟨x, e ▸ h1⟩
  · rw [h2 b e]
    have : i.toNatClampNeg = i.toInt.toNat := rfl
    exact h b (by omega)
theorem KB.eq {k c : Nat} {R R' : rR} (h : KB k c R) (e : R' k = R k) : KB k c R' := fun i hi => by rw [e]; exact h i hi
theorem KB.le {k c c' : Nat} {R : rR} (h : KB k c R) (e : c' ≤ c) : KB k c' R := fun i hi => h i (by omega)
theorem nI_s1 {c : Nat} (h : c ≤ 65540) : nI c + 1 = nI (c + 1) := by
  apply Int32.toInt_inj.mp
  have e1 : (1 : Int32).toInt = 1 := rfl
  rw [i_add (by rw [nI_val (by omega)]; omega) (by rw [nI_val (by omega)]; omega), nI_val (by omega), nI_val (by omega), e1]
  omega
end MIA5
end
section
/-! the reference: look-ups (laid by wip/p2/c73.py) -/
set_option maxHeartbeats 2000000 in
theorem rm_bad {g : xe_G}  {m0 : Nat} {q : Nat → Nat} {z : Nat × Nat} {I : rI} {R : rR} {M : mi_H}  (hR : RS g m0 q z I R M) {d : Nat} (hd : 1 ≤ d) : mt (mT g) d 182 [.ref m0] M (fun v M' => ∃ (x : Int32) (I' : rI) (R' : rR), v = some (.int x) ∧ RS g m0 q z I' R' M' ∧ eqI [0] I I' ∧ eqR [] R R' ∧ I' 0 = some 1) := by
  obtain ⟨d, rfl⟩ : ∃ e, d = e + 1 := ⟨d - 1, by omega⟩
  refine mt_in (b := mb_182 g) rfl rfl ?_
  show ml (mT g) d (mb_182 g).2 (0, [(0, .ref m0)], [], M) _
  refine ml_blk 2 (S' := (2, [(0, .ref m0)], [.int 1, .ref m0], M)) rfl ?_
  refine rp_int rfl hR rfl (fun M11 I12 hR13 e14 f15 => ?_)
  show ml _ _ _ (5, [(0, .ref m0)], [], M11) _
  refine ml_st (S' := (6, [(0, .ref m0)], [.int 0], M11)) rfl rfl rfl ?_
  exact ml_ret rfl (rfl) (⟨_, _, _, rfl, hR13, (eqI.rf.put f15 (by decide)), eqR.rf, e14⟩)
set_option maxHeartbeats 2000000 in
theorem rm_place {g : xe_G}  {m0 : Nat} {q : Nat → Nat} {z : Nat × Nat} {I : rI} {R : rR} {M : mi_H} {lp : Int32}  (hR : RS g m0 q z I R M) (hk73 : I 73 = some lp) {d : Nat} (hd : 1 ≤ d) : mt (mT g) d 231 [.ref m0] M (fun v M' => ∃ (x : Int32) (I' : rI) (R' : rR), v = some (.int x) ∧ RS g m0 q z I' R' M' ∧ eqI [0] I I' ∧ eqR [] R R') := by
  obtain ⟨d, rfl⟩ : ∃ e, d = e + 1 := ⟨d - 1, by omega⟩
  refine mt_in (b := mb_231 g) rfl rfl ?_
  show ml (mT g) d (mb_231 g).2 (0, [(0, .ref m0)], [], M) _
  refine ml_blk 2 (S' := (2, [(0, .ref m0)], [.int 0, .ref m0], M)) rfl ?_
  refine rp_int rfl hR rfl (fun M11 I12 hR13 e14 f15 => ?_)
  show ml _ _ _ (5, [(0, .ref m0)], [], M11) _
  refine ml_st (S' := (6, [(0, .ref m0)], [.ref m0], M11)) rfl rfl rfl ?_
  refine rg_int (S' := (9, [(0, .ref m0)], [.int lp], M11)) rfl hR13 rfl ((f15 73 (by decide)).trans (hk73)) rfl ?_
  exact ml_ret rfl (rfl) (⟨_, _, _, rfl, hR13, (eqI.rf.put f15 (by decide)), eqR.rf⟩)
set_option maxHeartbeats 2000000 in
theorem rm_thrown {g : xe_G}  {m0 : Nat} {q : Nat → Nat} {z : Nat × Nat} {I : rI} {R : rR} {M : mi_H} {th : Int32}  (hR : RS g m0 q z I R M) (hk0 : I 0 = some th) {d : Nat} (hd : 1 ≤ d) : mt (mT g) d 248 [.ref m0] M (fun v M' => v = some (.int th) ∧ M' = M) := by
  obtain ⟨d, rfl⟩ : ∃ e, d = e + 1 := ⟨d - 1, by omega⟩
  refine mt_in (b := mb_248 g) rfl rfl ?_
  show ml (mT g) d (mb_248 g).2 (0, [(0, .ref m0)], [], M) _
  refine ml_st (S' := (1, [(0, .ref m0)], [.ref m0], M)) rfl rfl rfl ?_
  refine rg_int (S' := (4, [(0, .ref m0)], [.int th], M)) rfl hR rfl (hk0) rfl ?_
  exact ml_ret rfl (rfl) (⟨rfl, rfl⟩)
set_option maxHeartbeats 2000000 in
theorem rm_count {g : xe_G}  {m0 : Nat} {q : Nat → Nat} {z : Nat × Nat} {I : rI} {R : rR} {M : mi_H} {x1 kn : Int32} {n : Nat} {f : Nat → Int32}  (hR : RS g m0 q z I R M) (hk18 : I 18 = some kn) (hG : (kn < 0 ∨ GD n f I R)) {d : Nat} (hd : 3 ≤ d) : mt (mT g) d 198 [.ref m0, .int x1] M (fun v M' => ∃ (x : Int32) (I' : rI) (R' : rR), v = some (.int x) ∧ RS g m0 q z I' R' M' ∧ eqI [0] I I' ∧ eqR [] R R') := by
  obtain ⟨d, rfl⟩ : ∃ e, d = e + 1 := ⟨d - 1, by omega⟩
  refine mt_in (b := mb_198 g) rfl rfl ?_
  show ml (mT g) d (mb_198 g).2 (0, [(0, .ref m0), (1, .int x1)], [], M) _
  refine ml_blk 2 (S' := (2, [(0, .ref m0), (1, .int x1)], [.int 0, .ref m0], M)) rfl ?_
  refine rp_int rfl hR rfl (fun M11 I12 hR13 e14 f15 => ?_)
  show ml _ _ _ (5, [(0, .ref m0), (1, .int x1)], [], M11) _
  refine ml_st (S' := (6, [(0, .ref m0), (1, .int x1)], [.int x1], M11)) rfl rfl rfl ?_
  refine ml_if (S1 := (15, [(0, .ref m0)], [], M11)) (S2 := (9, [(0, .ref m0), (1, .int x1)], [], M11)) rfl rfl rfl (fun c_6 => ?_) (fun c_6 => ?_)
  · have c_6 : x1 < 0 := of_decide_eq_true c_6
    refine ml_st (S' := (16, [(0, .ref m0)], [.ref m0], M11)) rfl rfl rfl ?_
    refine ml_call (a := [.ref m0]) (rest := []) rfl (hR13.okc rfl rfl rfl) rfl rfl (rm_bad hR13 (by omega)) (fun v16 M17 h18 => ?_)
    obtain ⟨u24, I19, R20, rfl, hR21, hI22, hV23, w25⟩ := h18
    show ml _ _ _ (19, [(0, .ref m0)], [.int u24], M17) _
    exact ml_ret rfl (rfl) (⟨_, _, _, rfl, hR21, ((eqI.rf.put f15 (by decide)).tr hI22 (by decide)), (eqR.rf.tr hV23 (by decide))⟩)
  · have c_6 : ¬ (x1 < 0) := of_decide_eq_false c_6
    refine ml_blk 2 (S' := (12, [(0, .ref m0), (1, .int x1)], [.int 15, .int x1], M11)) rfl ?_
    refine ml_if2 (S1 := (20, [(0, .ref m0), (1, .int x1)], [], M11)) (S2 := (15, [(0, .ref m0)], [], M11)) rfl rfl rfl (fun c_12 => ?_) (fun c_12 => ?_)
    · have c_12 : x1 ≤ 15 := of_decide_eq_true c_12
      refine ml_st (S' := (21, [(0, .ref m0), (1, .int x1)], [.ref m0], M11)) rfl rfl rfl ?_
      refine rg_int (S' := (24, [(0, .ref m0), (1, .int x1)], [.int kn], M11)) rfl hR13 rfl ((f15 18 (by decide)).trans (hk18)) rfl ?_
      refine ml_if (S1 := (29, [(0, .ref m0), (1, .int x1)], [], M11)) (S2 := (27, [(0, .ref m0), (1, .int x1)], [], M11)) rfl rfl rfl (fun c_24 => ?_) (fun c_24 => ?_)
      · have c_24 : 0 ≤ kn := of_decide_eq_true c_24
        obtain ⟨S, cN, sa, sl, ch, cp, mj, pa, py, hA, fA, mA, aA, nf, ni, kf, km, hF0, hY0, hP0, hE0, hFO, kq54, kq58, kq61, hkf, kq25, hfk, hkm, kq26, hmk, hNW⟩ := hG.resolve_left (Int32.not_lt.mpr c_24)
        have hn := hF0.1
        obtain ⟨hNk, nb, nc, kq70, kq71, hnc, hbs⟩ := hNW
        obtain ⟨w65, kq65⟩ := hNk 65 (by decide)
        obtain ⟨w66, kq66⟩ := hNk 66 (by decide)
        obtain ⟨w67, kq67⟩ := hNk 67 (by decide)
        obtain ⟨w68, kq68⟩ := hNk 68 (by decide)
        obtain ⟨w69, kq69⟩ := hNk 69 (by decide)
        obtain ⟨w72, kq72⟩ := hNk 72 (by decide)
        obtain ⟨hcp, ⟨hh0, hh1, hh2⟩, hmb1, hmb2, eE, hatE⟩ := hFO
        have hq6 := f2_pos (f := f) (x := hA + 6)
        refine ml_st (S' := (30, [(0, .ref m0), (1, .int x1)], [.int x1], M11)) rfl rfl rfl ?_
        refine ml_sw rfl (fun t_30 ht_30 => ?_)
        have kt_30 := ht_30
        have ht_30 : t_30 ∈ [104, 109, 114, 119, 124, 129, 134, 139, 144, 150, 161, 172, 213, 218, 223, 228] := mi_sw_sub ht_30 (by decide)
        simp only [List.mem_cons, List.not_mem_nil, or_false] at ht_30
        rcases ht_30 with rfl | rfl | rfl | rfl | rfl | rfl | rfl | rfl | rfl | rfl | rfl | rfl | rfl | rfl | rfl | rfl
        · show ml _ _ _ (104, [(0, .ref m0), (1, .int x1)], [], M11) _
          refine ml_st (S' := (105, [(0, .ref m0), (1, .int x1)], [.ref m0], M11)) rfl rfl rfl ?_
          refine rg_int (S' := (108, [(0, .ref m0), (1, .int x1)], [.int cp], M11)) rfl hR13 rfl ((f15 52 (by decide)).trans (hP0.2.1)) rfl ?_
          exact ml_ret rfl (rfl) (⟨_, _, _, rfl, hR13, (eqI.rf.put f15 (by decide)), eqR.rf⟩)
        · show ml _ _ _ (109, [(0, .ref m0), (1, .int x1)], [], M11) _
          refine ml_st (S' := (110, [(0, .ref m0), (1, .int x1)], [.ref m0], M11)) rfl rfl rfl ?_
          refine rg_int (S' := (113, [(0, .ref m0), (1, .int x1)], [.int (nI kf)], M11)) rfl hR13 rfl ((f15 25 (by decide)).trans (kq25)) rfl ?_
          exact ml_ret rfl (rfl) (⟨_, _, _, rfl, hR13, (eqI.rf.put f15 (by decide)), eqR.rf⟩)
        · show ml _ _ _ (114, [(0, .ref m0), (1, .int x1)], [], M11) _
          refine ml_st (S' := (115, [(0, .ref m0), (1, .int x1)], [.ref m0], M11)) rfl rfl rfl ?_
          refine rg_int (S' := (118, [(0, .ref m0), (1, .int x1)], [.int (nI km)], M11)) rfl hR13 rfl ((f15 26 (by decide)).trans (kq26)) rfl ?_
          exact ml_ret rfl (rfl) (⟨_, _, _, rfl, hR13, (eqI.rf.put f15 (by decide)), eqR.rf⟩)
        · show ml _ _ _ (119, [(0, .ref m0), (1, .int x1)], [], M11) _
          refine ml_st (S' := (120, [(0, .ref m0), (1, .int x1)], [.ref m0], M11)) rfl rfl rfl ?_
          refine rg_int (S' := (123, [(0, .ref m0), (1, .int x1)], [.int ni], M11)) rfl hR13 rfl ((f15 61 (by decide)).trans (kq61)) rfl ?_
          exact ml_ret rfl (rfl) (⟨_, _, _, rfl, hR13, (eqI.rf.put f15 (by decide)), eqR.rf⟩)
        · show ml _ _ _ (124, [(0, .ref m0), (1, .int x1)], [], M11) _
          refine ml_st (S' := (125, [(0, .ref m0), (1, .int x1)], [.ref m0], M11)) rfl rfl rfl ?_
          refine rg_int (S' := (128, [(0, .ref m0), (1, .int x1)], [.int nc], M11)) rfl hR13 rfl ((f15 71 (by decide)).trans (kq71)) rfl ?_
          exact ml_ret rfl (rfl) (⟨_, _, _, rfl, hR13, (eqI.rf.put f15 (by decide)), eqR.rf⟩)
        · show ml _ _ _ (129, [(0, .ref m0), (1, .int x1)], [], M11) _
          refine ml_st (S' := (130, [(0, .ref m0), (1, .int x1)], [.ref m0], M11)) rfl rfl rfl ?_
          refine rg_int (S' := (133, [(0, .ref m0), (1, .int x1)], [.int w66], M11)) rfl hR13 rfl ((f15 66 (by decide)).trans (kq66)) rfl ?_
          exact ml_ret rfl (rfl) (⟨_, _, _, rfl, hR13, (eqI.rf.put f15 (by decide)), eqR.rf⟩)
        · show ml _ _ _ (134, [(0, .ref m0), (1, .int x1)], [], M11) _
          refine ml_st (S' := (135, [(0, .ref m0), (1, .int x1)], [.ref m0], M11)) rfl rfl rfl ?_
          refine rg_int (S' := (138, [(0, .ref m0), (1, .int x1)], [.int nf], M11)) rfl hR13 rfl ((f15 58 (by decide)).trans (kq58)) rfl ?_
          exact ml_ret rfl (rfl) (⟨_, _, _, rfl, hR13, (eqI.rf.put f15 (by decide)), eqR.rf⟩)
        · show ml _ _ _ (139, [(0, .ref m0), (1, .int x1)], [], M11) _
          refine ml_st (S' := (140, [(0, .ref m0), (1, .int x1)], [.ref m0], M11)) rfl rfl rfl ?_
          refine rg_int (S' := (143, [(0, .ref m0), (1, .int x1)], [.int mj], M11)) rfl hR13 rfl ((f15 53 (by decide)).trans (hP0.2.2.1)) rfl ?_
          exact ml_ret rfl (rfl) (⟨_, _, _, rfl, hR13, (eqI.rf.put f15 (by decide)), eqR.rf⟩)
        · show ml _ _ _ (144, [(0, .ref m0), (1, .int x1)], [], M11) _
          refine ml_blk 2 (S' := (146, [(0, .ref m0), (1, .int x1)], [.int 4, .ref m0], M11)) rfl ?_
          have hF26 : FK n f I12 R := (hF0.mono (pIx f15 (by decide)) (fun _ _ => rfl))
          refine ml_call (a := [.ref m0, .int 4]) (rest := []) rfl (hR13.okc rfl rfl rfl) rfl rfl (rm_u2 hR13 hF26 (by decide) (by have : (4 : Int32).toInt = 4 := rfl; omega) (by omega)) (fun v27 M28 h29 => ?_)
          obtain ⟨rfl, h29⟩ := h29
          rw [h29]
          show ml _ _ _ (149, [(0, .ref m0), (1, .int x1)], [.int (f2 f 4)], M11) _
          exact ml_ret rfl (rfl) (⟨_, _, _, rfl, hR13, (eqI.rf.put f15 (by decide)), eqR.rf⟩)
        · show ml _ _ _ (150, [(0, .ref m0), (1, .int x1)], [], M11) _
          have e2 : (hA + 2).toInt = hA.toInt + 2 := i_add (by have : (2 : Int32).toInt = 2 := rfl; omega) (by have : (2 : Int32).toInt = 2 := rfl; omega)
          refine ml_blk 2 (S' := (152, [(0, .ref m0), (1, .int x1)], [.ref m0, .ref m0], M11)) rfl ?_
          refine rg_int (S' := (155, [(0, .ref m0), (1, .int x1)], [.int hA, .ref m0], M11)) rfl hR13 rfl ((f15 54 (by decide)).trans (kq54)) rfl ?_
          refine ml_blk 2 (S' := (157, [(0, .ref m0), (1, .int x1)], [.int (hA + 2), .ref m0], M11)) rfl ?_
          have hF30 : FK n f I12 R := (hF0.mono (pIx f15 (by decide)) (fun _ _ => rfl))
          refine ml_call (a := [.ref m0, .int (hA + 2)]) (rest := []) rfl (hR13.okc rfl rfl rfl) rfl rfl (rm_u2 hR13 hF30 (by omega) (by omega) (by omega)) (fun v31 M32 h33 => ?_)
          obtain ⟨rfl, h33⟩ := h33
          rw [h33]
          show ml _ _ _ (160, [(0, .ref m0), (1, .int x1)], [.int (f2 f (hA + 2))], M11) _
          exact ml_ret rfl (rfl) (⟨_, _, _, rfl, hR13, (eqI.rf.put f15 (by decide)), eqR.rf⟩)
        · show ml _ _ _ (161, [(0, .ref m0), (1, .int x1)], [], M11) _
          have e4 : (hA + 4).toInt = hA.toInt + 4 := i_add (by have : (4 : Int32).toInt = 4 := rfl; omega) (by have : (4 : Int32).toInt = 4 := rfl; omega)
          refine ml_blk 2 (S' := (163, [(0, .ref m0), (1, .int x1)], [.ref m0, .ref m0], M11)) rfl ?_
          refine rg_int (S' := (166, [(0, .ref m0), (1, .int x1)], [.int hA, .ref m0], M11)) rfl hR13 rfl ((f15 54 (by decide)).trans (kq54)) rfl ?_
          refine ml_blk 2 (S' := (168, [(0, .ref m0), (1, .int x1)], [.int (hA + 4), .ref m0], M11)) rfl ?_
          have hF34 : FK n f I12 R := (hF0.mono (pIx f15 (by decide)) (fun _ _ => rfl))
          refine ml_call (a := [.ref m0, .int (hA + 4)]) (rest := []) rfl (hR13.okc rfl rfl rfl) rfl rfl (rm_u2 hR13 hF34 (by omega) (by omega) (by omega)) (fun v35 M36 h37 => ?_)
          obtain ⟨rfl, h37⟩ := h37
          rw [h37]
          show ml _ _ _ (171, [(0, .ref m0), (1, .int x1)], [.int (f2 f (hA + 4))], M11) _
          exact ml_ret rfl (rfl) (⟨_, _, _, rfl, hR13, (eqI.rf.put f15 (by decide)), eqR.rf⟩)
        · show ml _ _ _ (172, [(0, .ref m0), (1, .int x1)], [], M11) _
          refine ml_st (S' := (173, [(0, .ref m0), (1, .int x1)], [.int 0], M11)) rfl rfl rfl ?_
          refine ml_st (S' := (174, [(2, .int 0), (0, .ref m0), (1, .int x1)], [], M11)) rfl rfl rfl ?_
          refine ml_st (S' := (175, [(2, .int 0), (0, .ref m0), (1, .int x1)], [.int 1], M11)) rfl rfl rfl ?_
          refine ml_st (S' := (176, [(0, .ref m0), (2, .int 0), (3, .int 1)], [], M11)) rfl rfl rfl ?_
          have L_176 : ∀ (n_176 : Nat) (i176_2 : Int32) (i176_3 : Int32), (2147483648 - i176_3.toInt).toNat ≤ n_176 → 1 ≤ i176_3.toInt → ml (mT g) d (mb_198 g).2 (176, [(0, .ref m0), (2, .int i176_2), (3, .int i176_3)], [], M11) (fun v M' => ∃ (x : Int32) (I' : rI) (R' : rR), v = some (.int x) ∧ RS g m0 q z I' R' M' ∧ eqI [0] I I' ∧ eqR [] R R') := by
            intro n_176
            induction n_176 with
            | zero => intro i176_2 i176_3 hn; exact (loop_zero hn).elim
            | succ n_176 ih_176 =>
              intro i176_2 i176_3 hn_176 hi_176
              refine ml_blk 2 (S' := (178, [(0, .ref m0), (2, .int i176_2), (3, .int i176_3)], [.ref m0, .int i176_3], M11)) rfl ?_
              refine rg_int (S' := (181, [(0, .ref m0), (2, .int i176_2), (3, .int i176_3)], [.int cp, .int i176_3], M11)) rfl hR13 rfl ((f15 52 (by decide)).trans (hP0.2.1)) rfl ?_
              refine ml_if2 (S1 := (211, [(0, .ref m0), (2, .int i176_2), (3, .int i176_3)], [], M11)) (S2 := (184, [(0, .ref m0), (2, .int i176_2), (3, .int i176_3)], [], M11)) rfl rfl rfl (fun c_181 => ?_) (fun c_181 => ?_)
              · have c_181 : cp ≤ i176_3 := of_decide_eq_true c_181
                refine ml_st (S' := (212, [(0, .ref m0), (2, .int i176_2), (3, .int i176_3)], [.int i176_2], M11)) rfl rfl rfl ?_
                exact ml_ret rfl (rfl) (⟨_, _, _, rfl, hR13, (eqI.rf.put f15 (by decide)), eqR.rf⟩)
              · have c_181 : ¬ (cp ≤ i176_3) := of_decide_eq_false c_181
                refine ml_blk 2 (S' := (186, [(0, .ref m0), (2, .int i176_2), (3, .int i176_3)], [.int i176_3, .ref m0], M11)) rfl ?_
                have hF38 : FK n f I12 R := (hF0.mono (pIx f15 (by decide)) (fun _ _ => rfl))
                have hP39 : PK n f S cp mj pa py I12 R := (hP0.mono (pIx f15 (by decide)) (fun _ _ => rfl))
                refine ml_call (a := [.ref m0, .int i176_3]) (rest := []) rfl (hR13.okc rfl rfl rfl) rfl rfl (rm_tag hR13 hF38 hP39 (by omega)) (fun v40 M41 h42 => ?_)
                obtain ⟨rfl, h42⟩ := h42
                rw [h42]
                show ml _ _ _ (189, [(0, .ref m0), (2, .int i176_2), (3, .int i176_3)], [.int (tgf f cp pa i176_3)], M11) _
                refine ml_st (S' := (190, [(0, .ref m0), (2, .int i176_2), (3, .int i176_3)], [.int 1, .int (tgf f cp pa i176_3)], M11)) rfl rfl rfl ?_
                refine ml_if2 (S1 := (205, [(0, .ref m0), (2, .int i176_2), (3, .int i176_3)], [], M11)) (S2 := (193, [(0, .ref m0), (2, .int i176_2), (3, .int i176_3)], [], M11)) rfl rfl rfl (fun c_190 => ?_) (fun c_190 => ?_)
                · have c_190 : ¬ (tgf f cp pa i176_3) = 1 := of_decide_eq_true c_190
                  refine ml_st (S' := (208, [(3, .int (i176_3 + 1)), (0, .ref m0), (2, .int i176_2)], [], M11)) rfl rfl rfl ?_
                  refine ml_st (S' := (176, [(0, .ref m0), (2, .int i176_2), (3, .int (i176_3 + 1))], [], M11)) rfl rfl rfl ?_
                  exact ih_176 i176_2 (i176_3 + 1) (loop_inc (Int32.not_le.mp c_181) hn_176) (by rw [inc_lt (Int32.not_le.mp c_181)]; omega)
                · have c_190 : ¬ (¬ (tgf f cp pa i176_3) = 1) := of_decide_eq_false c_190
                  refine ml_blk 3 (S' := (196, [(0, .ref m0), (2, .int i176_2), (3, .int i176_3)], [.ref m0, .ref m0, .int i176_2], M11)) rfl ?_
                  refine ml_st (S' := (197, [(0, .ref m0), (2, .int i176_2), (3, .int i176_3)], [.int i176_3, .ref m0, .ref m0, .int i176_2], M11)) rfl rfl rfl ?_
                  refine ml_call (a := [.ref m0, .int i176_3]) (rest := [.ref m0, .int i176_2]) rfl (hR13.okc rfl rfl rfl) rfl rfl (rm_symOf hR13 hP39 (Decidable.not_not.mp c_190) (by omega)) (fun v43 M44 h45 => ?_)
                  obtain ⟨rfl, h45⟩ := h45
                  rw [h45]
                  show ml _ _ _ (200, [(0, .ref m0), (2, .int i176_2), (3, .int i176_3)], [.int (pyf py i176_3), .ref m0, .int i176_2], M11) _
                  have hY46 : SK S cN sa sl ch I12 R := (hY0.mono (pIx f15 (by decide)) (fun _ _ => rfl))
                  refine ml_call (a := [.ref m0, .int (pyf py i176_3)]) (rest := [.int i176_2]) rfl (hR13.okc rfl rfl rfl) rfl rfl (rm_length hR13 hY46 ((hP0.y (Decidable.not_not.mp c_190)).2.2.1) ((hP0.y (Decidable.not_not.mp c_190)).2.2.2) (by omega)) (fun v47 M48 h49 => ?_)
                  obtain ⟨rfl, h49⟩ := h49
                  rw [h49]
                  show ml _ _ _ (203, [(0, .ref m0), (2, .int i176_2), (3, .int i176_3)], [.int (sL sl (pyf py i176_3)), .int i176_2], M11) _
                  refine ml_st (S' := (204, [(0, .ref m0), (2, .int i176_2), (3, .int i176_3)], [.int (i176_2 + (sL sl (pyf py i176_3)))], M11)) rfl rfl rfl ?_
                  refine ml_st (S' := (205, [(0, .ref m0), (2, .int (i176_2 + (sL sl (pyf py i176_3)))), (3, .int i176_3)], [], M11)) rfl rfl rfl ?_
                  refine ml_st (S' := (208, [(3, .int (i176_3 + 1)), (0, .ref m0), (2, .int (i176_2 + (sL sl (pyf py i176_3))))], [], M11)) rfl rfl rfl ?_
                  refine ml_st (S' := (176, [(0, .ref m0), (2, .int (i176_2 + (sL sl (pyf py i176_3)))), (3, .int (i176_3 + 1))], [], M11)) rfl rfl rfl ?_
                  exact ih_176 (i176_2 + (sL sl (pyf py i176_3))) (i176_3 + 1) (loop_inc (Int32.not_le.mp c_181) hn_176) (by rw [inc_lt (Int32.not_le.mp c_181)]; omega)
          exact L_176 _ 0 1 (Nat.le_refl _) (by decide)
        · show ml _ _ _ (213, [(0, .ref m0), (1, .int x1)], [], M11) _
          refine ml_st (S' := (214, [(0, .ref m0), (1, .int x1)], [.ref m0], M11)) rfl rfl rfl ?_
          refine rg_int (S' := (217, [(0, .ref m0), (1, .int x1)], [.int w65], M11)) rfl hR13 rfl ((f15 65 (by decide)).trans (kq65)) rfl ?_
          exact ml_ret rfl (rfl) (⟨_, _, _, rfl, hR13, (eqI.rf.put f15 (by decide)), eqR.rf⟩)
        · show ml _ _ _ (218, [(0, .ref m0), (1, .int x1)], [], M11) _
          refine ml_st (S' := (219, [(0, .ref m0), (1, .int x1)], [.ref m0], M11)) rfl rfl rfl ?_
          refine rg_int (S' := (222, [(0, .ref m0), (1, .int x1)], [.int w68], M11)) rfl hR13 rfl ((f15 68 (by decide)).trans (kq68)) rfl ?_
          exact ml_ret rfl (rfl) (⟨_, _, _, rfl, hR13, (eqI.rf.put f15 (by decide)), eqR.rf⟩)
        · show ml _ _ _ (223, [(0, .ref m0), (1, .int x1)], [], M11) _
          refine ml_st (S' := (224, [(0, .ref m0), (1, .int x1)], [.ref m0], M11)) rfl rfl rfl ?_
          refine rg_int (S' := (227, [(0, .ref m0), (1, .int x1)], [.int w69], M11)) rfl hR13 rfl ((f15 69 (by decide)).trans (kq69)) rfl ?_
          exact ml_ret rfl (rfl) (⟨_, _, _, rfl, hR13, (eqI.rf.put f15 (by decide)), eqR.rf⟩)
        · show ml _ _ _ (228, [(0, .ref m0), (1, .int x1)], [], M11) _
          refine ml_st (S' := (229, [(0, .ref m0), (1, .int x1)], [.ref m0], M11)) rfl rfl rfl ?_
          refine rg_int (S' := (232, [(0, .ref m0), (1, .int x1)], [.int w72], M11)) rfl hR13 rfl ((f15 72 (by decide)).trans (kq72)) rfl ?_
          exact ml_ret rfl (rfl) (⟨_, _, _, rfl, hR13, (eqI.rf.put f15 (by decide)), eqR.rf⟩)
      · have c_24 : ¬ (0 ≤ kn) := of_decide_eq_false c_24
        refine ml_st (S' := (28, [(0, .ref m0), (1, .int x1)], [.int (-1)], M11)) rfl rfl rfl ?_
        exact ml_ret rfl (rfl) (⟨_, _, _, rfl, hR13, (eqI.rf.put f15 (by decide)), eqR.rf⟩)
    · have c_12 : ¬ (x1 ≤ 15) := of_decide_eq_false c_12
      refine ml_st (S' := (16, [(0, .ref m0)], [.ref m0], M11)) rfl rfl rfl ?_
      refine ml_call (a := [.ref m0]) (rest := []) rfl (hR13.okc rfl rfl rfl) rfl rfl (rm_bad hR13 (by omega)) (fun v50 M51 h52 => ?_)
      obtain ⟨u58, I53, R54, rfl, hR55, hI56, hV57, w59⟩ := h52
      show ml _ _ _ (19, [(0, .ref m0)], [.int u58], M51) _
      exact ml_ret rfl (rfl) (⟨_, _, _, rfl, hR55, ((eqI.rf.put f15 (by decide)).tr hI56 (by decide)), (eqR.rf.tr hV57 (by decide))⟩)
set_option maxHeartbeats 2000000 in
theorem rm_entry {g : xe_G}  {m0 : Nat} {q : Nat → Nat} {z : Nat × Nat} {I : rI} {R : rR} {M : mi_H} {x1 x2 kn : Int32} {n : Nat} {f : Nat → Int32}  (hR : RS g m0 q z I R M) (hk18 : I 18 = some kn) (hG : (kn < 0 ∨ GD n f I R)) {d : Nat} (hd : 4 ≤ d) : mt (mT g) d 204 [.ref m0, .int x1, .int x2] M (fun v M' => ∃ (x : Int32) (I' : rI) (R' : rR), v = some (.int x) ∧ RS g m0 q z I' R' M' ∧ eqI [0] I I' ∧ eqR [] R R') := by
  obtain ⟨d, rfl⟩ : ∃ e, d = e + 1 := ⟨d - 1, by omega⟩
  refine mt_in (b := mb_204 g) rfl rfl ?_
  show ml (mT g) d (mb_204 g).2 (0, [(0, .ref m0), (1, .int x1), (2, .int x2)], [], M) _
  refine ml_blk 2 (S' := (2, [(0, .ref m0), (1, .int x1), (2, .int x2)], [.int 0, .ref m0], M)) rfl ?_
  refine rp_int rfl hR rfl (fun M11 I12 hR13 e14 f15 => ?_)
  show ml _ _ _ (5, [(0, .ref m0), (1, .int x1), (2, .int x2)], [], M11) _
  refine ml_st (S' := (6, [(0, .ref m0), (1, .int x1), (2, .int x2)], [.int x2], M11)) rfl rfl rfl ?_
  refine ml_if (S1 := (14, [(0, .ref m0)], [], M11)) (S2 := (9, [(0, .ref m0), (1, .int x1), (2, .int x2)], [], M11)) rfl rfl rfl (fun c_6 => ?_) (fun c_6 => ?_)
  · have c_6 : x2 < 0 := of_decide_eq_true c_6
    refine ml_st (S' := (15, [(0, .ref m0)], [.ref m0], M11)) rfl rfl rfl ?_
    refine ml_call (a := [.ref m0]) (rest := []) rfl (hR13.okc rfl rfl rfl) rfl rfl (rm_bad hR13 (by omega)) (fun v16 M17 h18 => ?_)
    obtain ⟨u24, I19, R20, rfl, hR21, hI22, hV23, w25⟩ := h18
    show ml _ _ _ (18, [(0, .ref m0)], [.int u24], M17) _
    exact ml_ret rfl (rfl) (⟨_, _, _, rfl, hR21, ((eqI.rf.put f15 (by decide)).tr hI22 (by decide)), (eqR.rf.tr hV23 (by decide))⟩)
  · have c_6 : ¬ (x2 < 0) := of_decide_eq_false c_6
    refine ml_blk 2 (S' := (11, [(0, .ref m0), (1, .int x1), (2, .int x2)], [.int 2, .int x2], M11)) rfl ?_
    refine ml_if2 (S1 := (19, [(0, .ref m0), (1, .int x1), (2, .int x2)], [], M11)) (S2 := (14, [(0, .ref m0)], [], M11)) rfl rfl rfl (fun c_11 => ?_) (fun c_11 => ?_)
    · have c_11 : x2 ≤ 2 := of_decide_eq_true c_11
      refine ml_st (S' := (20, [(0, .ref m0), (1, .int x1), (2, .int x2)], [.ref m0], M11)) rfl rfl rfl ?_
      refine rg_int (S' := (23, [(0, .ref m0), (1, .int x1), (2, .int x2)], [.int kn], M11)) rfl hR13 rfl ((f15 18 (by decide)).trans (hk18)) rfl ?_
      refine ml_if (S1 := (38, [], [], M11)) (S2 := (26, [(0, .ref m0), (1, .int x1), (2, .int x2)], [], M11)) rfl rfl rfl (fun c_23 => ?_) (fun c_23 => ?_)
      · have c_23 : kn < 0 := of_decide_eq_true c_23
        refine ml_st (S' := (39, [], [.int (-1)], M11)) rfl rfl rfl ?_
        exact ml_ret rfl (rfl) (⟨_, _, _, rfl, hR13, (eqI.rf.put f15 (by decide)), eqR.rf⟩)
      · have c_23 : ¬ (kn < 0) := of_decide_eq_false c_23
        obtain ⟨S, cN, sa, sl, ch, cp, mj, pa, py, hA, fA, mA, aA, nf, ni, kf, km, hF0, hY0, hP0, hE0, hFO, kq54, kq58, kq61, hkf, kq25, hfk, hkm, kq26, hmk, hNW⟩ := hG.resolve_left (c_23)
        have hn := hF0.1
        refine ml_st (S' := (27, [(0, .ref m0), (1, .int x1), (2, .int x2)], [.int x1], M11)) rfl rfl rfl ?_
        refine ml_if (S1 := (38, [], [], M11)) (S2 := (30, [(0, .ref m0), (1, .int x1), (2, .int x2)], [], M11)) rfl rfl rfl (fun c_27 => ?_) (fun c_27 => ?_)
        · have c_27 : x1 < 0 := of_decide_eq_true c_27
          refine ml_st (S' := (39, [], [.int (-1)], M11)) rfl rfl rfl ?_
          exact ml_ret rfl (rfl) (⟨_, _, _, rfl, hR13, (eqI.rf.put f15 (by decide)), eqR.rf⟩)
        · have c_27 : ¬ (x1 < 0) := of_decide_eq_false c_27
          refine ml_blk 2 (S' := (32, [(0, .ref m0), (1, .int x1), (2, .int x2)], [.ref m0, .int x1], M11)) rfl ?_
          refine rg_int (S' := (35, [(0, .ref m0), (1, .int x1), (2, .int x2)], [.int cp, .int x1], M11)) rfl hR13 rfl ((f15 52 (by decide)).trans (hP0.2.1)) rfl ?_
          refine ml_if2 (S1 := (40, [(0, .ref m0), (1, .int x1), (2, .int x2)], [], M11)) (S2 := (38, [], [], M11)) rfl rfl rfl (fun c_35 => ?_) (fun c_35 => ?_)
          · have c_35 : x1 < cp := of_decide_eq_true c_35
            refine ml_blk 2 (S' := (42, [(0, .ref m0), (1, .int x1), (2, .int x2)], [.int x1, .ref m0], M11)) rfl ?_
            have hF26 : FK n f I12 R := (hF0.mono (pIx f15 (by decide)) (fun _ _ => rfl))
            have hP27 : PK n f S cp mj pa py I12 R := (hP0.mono (pIx f15 (by decide)) (fun _ _ => rfl))
            refine ml_call (a := [.ref m0, .int x1]) (rest := []) rfl (hR13.okc rfl rfl rfl) rfl rfl (rm_tag hR13 hF26 hP27 (by omega)) (fun v28 M29 h30 => ?_)
            obtain ⟨rfl, h30⟩ := h30
            rw [h30]
            show ml _ _ _ (45, [(0, .ref m0), (1, .int x1), (2, .int x2)], [.int (tgf f cp pa x1)], M11) _
            refine ml_st (S' := (46, [(3, .int (tgf f cp pa x1)), (0, .ref m0), (1, .int x1), (2, .int x2)], [], M11)) rfl rfl rfl ?_
            refine ml_st (S' := (47, [(3, .int (tgf f cp pa x1)), (0, .ref m0), (1, .int x1), (2, .int x2)], [.int x2], M11)) rfl rfl rfl ?_
            refine ml_if (S1 := (52, [(3, .int (tgf f cp pa x1)), (0, .ref m0), (1, .int x1), (2, .int x2)], [], M11)) (S2 := (50, [(3, .int (tgf f cp pa x1)), (0, .ref m0), (1, .int x1), (2, .int x2)], [], M11)) rfl rfl rfl (fun c_47 => ?_) (fun c_47 => ?_)
            · have c_47 : ¬ x2 = 0 := of_decide_eq_true c_47
              refine ml_blk 2 (S' := (55, [(3, .int (tgf f cp pa x1)), (0, .ref m0), (1, .int x1), (2, .int x2)], [.int 15, .int (tgf f cp pa x1)], M11)) rfl ?_
              refine ml_if2 (S1 := (85, [(3, .int (tgf f cp pa x1)), (0, .ref m0), (1, .int x1), (2, .int x2)], [], M11)) (S2 := (58, [(3, .int (tgf f cp pa x1)), (0, .ref m0), (1, .int x1), (2, .int x2)], [], M11)) rfl rfl rfl (fun c_55 => ?_) (fun c_55 => ?_)
              · have c_55 : ¬ (tgf f cp pa x1) = 15 := of_decide_eq_true c_55
                refine ml_blk 2 (S' := (88, [(3, .int (tgf f cp pa x1)), (0, .ref m0), (1, .int x1), (2, .int x2)], [.int 7, .int (tgf f cp pa x1)], M11)) rfl ?_
                have J_115 : (tgf f cp pa x1 = 7 ∨ tgf f cp pa x1 = 8 ∨ tgf f cp pa x1 = 16 ∨ tgf f cp pa x1 = 19 ∨ tgf f cp pa x1 = 20) → ml (mT g) d (mb_204 g).2 (115, [(0, .ref m0), (1, .int x1), (2, .int x2)], [], M11) (fun v M' => ∃ (x : Int32) (I' : rI) (R' : rR), v = some (.int x) ∧ RS g m0 q z I' R' M' ∧ eqI [0] I I' ∧ eqR [] R R') := by
                  intro hj_115
                  have h7 := hP0.tg (rfl : tgf f cp pa x1 = _) (fun e => by rcases hj_115 with h | h | h | h | h <;> rw [h] at e <;> exact absurd e (by decide))
                  have q7 : (pa (Int32.toNatClampNeg x1)).toInt + 3 ≤ n := by have q := h7.2.2.2.2; rcases hj_115 with h | h | h | h | h <;> rw [h] at q <;> exact q
                  refine ml_blk 2 (S' := (117, [(0, .ref m0), (1, .int x1), (2, .int x2)], [.int 1, .int x2], M11)) rfl ?_
                  refine ml_if2 (S1 := (129, [(0, .ref m0), (1, .int x1), (2, .int x2)], [], M11)) (S2 := (120, [(0, .ref m0), (1, .int x1), (2, .int x2)], [], M11)) rfl rfl rfl (fun c_117 => ?_) (fun c_117 => ?_)
                  · have c_117 : ¬ x2 = 1 := of_decide_eq_true c_117
                    refine ml_st (S' := (130, [], [.int 0], M11)) rfl rfl rfl ?_
                    exact ml_ret rfl (rfl) (⟨_, _, _, rfl, hR13, (eqI.rf.put f15 (by decide)), eqR.rf⟩)
                  · have c_117 : ¬ (¬ x2 = 1) := of_decide_eq_false c_117
                    refine ml_blk 3 (S' := (123, [(0, .ref m0), (1, .int x1), (2, .int x2)], [.int 1, .int x1, .ref m0], M11)) rfl ?_
                    refine ml_call (a := [.ref m0, .int x1, .int 1]) (rest := []) rfl (hR13.okc rfl rfl rfl) rfl rfl (rm_index hR13 hF26 hP27 (h7.1) (h7.2.1) (h7.2.2.1) (by decide) (by have : (1 : Int32).toInt = 1 := rfl; omega) (by omega)) (fun v31 M32 h33 => ?_)
                    obtain ⟨rfl, h33⟩ := h33
                    rw [h33]
                    show ml _ _ _ (126, [(0, .ref m0), (1, .int x1), (2, .int x2)], [.int (ixf f pa x1 1)], M11) _
                    refine ml_st (S' := (130, [], [.int (ixf f pa x1 1)], M11)) rfl rfl rfl ?_
                    exact ml_ret rfl (rfl) (⟨_, _, _, rfl, hR13, (eqI.rf.put f15 (by decide)), eqR.rf⟩)
                refine ml_if2 (S1 := (115, [(0, .ref m0), (1, .int x1), (2, .int x2)], [], M11)) (S2 := (91, [(3, .int (tgf f cp pa x1)), (0, .ref m0), (1, .int x1), (2, .int x2)], [], M11)) rfl rfl rfl (fun c_88 => ?_) (fun c_88 => ?_)
                · have c_88 : (tgf f cp pa x1) = 7 := of_decide_eq_true c_88
                  exact J_115  (Or.inl c_88)
                · have c_88 : ¬ ((tgf f cp pa x1) = 7) := of_decide_eq_false c_88
                  refine ml_blk 2 (S' := (94, [(3, .int (tgf f cp pa x1)), (0, .ref m0), (1, .int x1), (2, .int x2)], [.int 8, .int (tgf f cp pa x1)], M11)) rfl ?_
                  refine ml_if2 (S1 := (115, [(0, .ref m0), (1, .int x1), (2, .int x2)], [], M11)) (S2 := (97, [(3, .int (tgf f cp pa x1)), (0, .ref m0), (1, .int x1), (2, .int x2)], [], M11)) rfl rfl rfl (fun c_94 => ?_) (fun c_94 => ?_)
                  · have c_94 : (tgf f cp pa x1) = 8 := of_decide_eq_true c_94
                    exact J_115  (Or.inr (Or.inl c_94))
                  · have c_94 : ¬ ((tgf f cp pa x1) = 8) := of_decide_eq_false c_94
                    refine ml_blk 2 (S' := (100, [(3, .int (tgf f cp pa x1)), (0, .ref m0), (1, .int x1), (2, .int x2)], [.int 16, .int (tgf f cp pa x1)], M11)) rfl ?_
                    refine ml_if2 (S1 := (115, [(0, .ref m0), (1, .int x1), (2, .int x2)], [], M11)) (S2 := (103, [(3, .int (tgf f cp pa x1)), (0, .ref m0), (1, .int x1), (2, .int x2)], [], M11)) rfl rfl rfl (fun c_100 => ?_) (fun c_100 => ?_)
                    · have c_100 : (tgf f cp pa x1) = 16 := of_decide_eq_true c_100
                      exact J_115  (Or.inr (Or.inr (Or.inl c_100)))
                    · have c_100 : ¬ ((tgf f cp pa x1) = 16) := of_decide_eq_false c_100
                      refine ml_blk 2 (S' := (106, [(3, .int (tgf f cp pa x1)), (0, .ref m0), (1, .int x1), (2, .int x2)], [.int 19, .int (tgf f cp pa x1)], M11)) rfl ?_
                      refine ml_if2 (S1 := (115, [(0, .ref m0), (1, .int x1), (2, .int x2)], [], M11)) (S2 := (109, [(3, .int (tgf f cp pa x1)), (0, .ref m0), (1, .int x1), (2, .int x2)], [], M11)) rfl rfl rfl (fun c_106 => ?_) (fun c_106 => ?_)
                      · have c_106 : (tgf f cp pa x1) = 19 := of_decide_eq_true c_106
                        exact J_115  (Or.inr (Or.inr (Or.inr (Or.inl c_106))))
                      · have c_106 : ¬ ((tgf f cp pa x1) = 19) := of_decide_eq_false c_106
                        refine ml_blk 2 (S' := (112, [(3, .int (tgf f cp pa x1)), (0, .ref m0), (1, .int x1), (2, .int x2)], [.int 20, .int (tgf f cp pa x1)], M11)) rfl ?_
                        refine ml_if2 (S1 := (131, [(3, .int (tgf f cp pa x1)), (0, .ref m0), (1, .int x1), (2, .int x2)], [], M11)) (S2 := (115, [(0, .ref m0), (1, .int x1), (2, .int x2)], [], M11)) rfl rfl rfl (fun c_112 => ?_) (fun c_112 => ?_)
                        · have c_112 : ¬ (tgf f cp pa x1) = 20 := of_decide_eq_true c_112
                          refine ml_blk 2 (S' := (134, [(3, .int (tgf f cp pa x1)), (0, .ref m0), (1, .int x1), (2, .int x2)], [.int 9, .int (tgf f cp pa x1)], M11)) rfl ?_
                          have J_155 : (esz (tgf f cp pa x1) = 5 ∧ tgf f cp pa x1 ≠ 0) → ml (mT g) d (mb_204 g).2 (155, [(0, .ref m0), (1, .int x1), (2, .int x2)], [], M11) (fun v M' => ∃ (x : Int32) (I' : rI) (R' : rR), v = some (.int x) ∧ RS g m0 q z I' R' M' ∧ eqI [0] I I' ∧ eqR [] R R') := by
                            intro hj_155
                            have h9 := hP0.tg (rfl : tgf f cp pa x1 = _) hj_155.2
                            have q9 : (pa (Int32.toNatClampNeg x1)).toInt + 5 ≤ n := by have q := h9.2.2.2.2; rw [hj_155.1] at q; exact q
                            refine ml_blk 3 (S' := (158, [(0, .ref m0), (1, .int x1), (2, .int x2)], [.int x2, .int x1, .ref m0], M11)) rfl ?_
                            refine ml_st (S' := (159, [(0, .ref m0), (1, .int x1), (2, .int x2)], [.int 1, .int x2, .int x1, .ref m0], M11)) rfl rfl rfl ?_
                            refine ml_if2 (S1 := (166, [(0, .ref m0), (1, .int x1), (2, .int x2)], [.int x1, .ref m0], M11)) (S2 := (162, [(0, .ref m0), (1, .int x1), (2, .int x2)], [.int x1, .ref m0], M11)) rfl rfl rfl (fun c_159 => ?_) (fun c_159 => ?_)
                            · have c_159 : ¬ x2 = 1 := of_decide_eq_true c_159
                              refine ml_st (S' := (167, [], [.int 3, .int x1, .ref m0], M11)) rfl rfl rfl ?_
                              refine ml_call (a := [.ref m0, .int x1, .int 3]) (rest := []) rfl (hR13.okc rfl rfl rfl) rfl rfl (rm_index hR13 hF26 hP27 (h9.1) (h9.2.1) (h9.2.2.1) (by decide) (by have : (3 : Int32).toInt = 3 := rfl; omega) (by omega)) (fun v34 M35 h36 => ?_)
                              obtain ⟨rfl, h36⟩ := h36
                              rw [h36]
                              show ml _ _ _ (170, [], [.int (ixf f pa x1 3)], M11) _
                              exact ml_ret rfl (rfl) (⟨_, _, _, rfl, hR13, (eqI.rf.put f15 (by decide)), eqR.rf⟩)
                            · have c_159 : ¬ (¬ x2 = 1) := of_decide_eq_false c_159
                              refine ml_st (S' := (163, [(0, .ref m0), (1, .int x1), (2, .int x2)], [.int 1, .int x1, .ref m0], M11)) rfl rfl rfl ?_
                              refine ml_st (S' := (167, [], [.int 1, .int x1, .ref m0], M11)) rfl rfl rfl ?_
                              refine ml_call (a := [.ref m0, .int x1, .int 1]) (rest := []) rfl (hR13.okc rfl rfl rfl) rfl rfl (rm_index hR13 hF26 hP27 (h9.1) (h9.2.1) (h9.2.2.1) (by decide) (by have : (1 : Int32).toInt = 1 := rfl; omega) (by omega)) (fun v37 M38 h39 => ?_)
                              obtain ⟨rfl, h39⟩ := h39
                              rw [h39]
                              show ml _ _ _ (170, [], [.int (ixf f pa x1 1)], M11) _
                              exact ml_ret rfl (rfl) (⟨_, _, _, rfl, hR13, (eqI.rf.put f15 (by decide)), eqR.rf⟩)
                          have J_143 : ml (mT g) d (mb_204 g).2 (143, [(0, .ref m0), (1, .int x1), (2, .int x2), (3, .int (tgf f cp pa x1))], [], M11) (fun v M' => ∃ (x : Int32) (I' : rI) (R' : rR), v = some (.int x) ∧ RS g m0 q z I' R' M' ∧ eqI [0] I I' ∧ eqR [] R R') := by
                            refine ml_blk 2 (S' := (146, [(0, .ref m0), (1, .int x1), (2, .int x2), (3, .int (tgf f cp pa x1))], [.int 17, .int (tgf f cp pa x1)], M11)) rfl ?_
                            refine ml_if2 (S1 := (155, [(0, .ref m0), (1, .int x1), (2, .int x2)], [], M11)) (S2 := (149, [(0, .ref m0), (1, .int x1), (2, .int x2), (3, .int (tgf f cp pa x1))], [], M11)) rfl rfl rfl (fun c_146 => ?_) (fun c_146 => ?_)
                            · have c_146 : (tgf f cp pa x1) = 17 := of_decide_eq_true c_146
                              exact J_155  (by rw [c_146]; decide)
                            · have c_146 : ¬ ((tgf f cp pa x1) = 17) := of_decide_eq_false c_146
                              refine ml_blk 2 (S' := (152, [(0, .ref m0), (1, .int x1), (2, .int x2), (3, .int (tgf f cp pa x1))], [.int 18, .int (tgf f cp pa x1)], M11)) rfl ?_
                              refine ml_if2 (S1 := (171, [(0, .ref m0), (1, .int x1), (2, .int x2), (3, .int (tgf f cp pa x1))], [], M11)) (S2 := (155, [(0, .ref m0), (1, .int x1), (2, .int x2)], [], M11)) rfl rfl rfl (fun c_152 => ?_) (fun c_152 => ?_)
                              · have c_152 : ¬ (tgf f cp pa x1) = 18 := of_decide_eq_true c_152
                                refine ml_st (S' := (172, [(0, .ref m0), (1, .int x1), (2, .int x2), (3, .int (tgf f cp pa x1))], [.int 0], M11)) rfl rfl rfl ?_
                                exact ml_ret rfl (rfl) (⟨_, _, _, rfl, hR13, (eqI.rf.put f15 (by decide)), eqR.rf⟩)
                              · have c_152 : ¬ (¬ (tgf f cp pa x1) = 18) := of_decide_eq_false c_152
                                exact J_155  (by rw [show tgf f cp pa x1 = 18 from Decidable.not_not.mp c_152]; decide)
                          refine ml_if2 (S1 := (143, [(0, .ref m0), (1, .int x1), (2, .int x2), (3, .int (tgf f cp pa x1))], [], M11)) (S2 := (137, [(3, .int (tgf f cp pa x1)), (0, .ref m0), (1, .int x1), (2, .int x2)], [], M11)) rfl rfl rfl (fun c_134 => ?_) (fun c_134 => ?_)
                          · have c_134 : (tgf f cp pa x1) < 9 := of_decide_eq_true c_134
                            exact J_143 
                          · have c_134 : ¬ ((tgf f cp pa x1) < 9) := of_decide_eq_false c_134
                            refine ml_blk 2 (S' := (140, [(3, .int (tgf f cp pa x1)), (0, .ref m0), (1, .int x1), (2, .int x2)], [.int 12, .int (tgf f cp pa x1)], M11)) rfl ?_
                            refine ml_if2 (S1 := (155, [(0, .ref m0), (1, .int x1), (2, .int x2)], [], M11)) (S2 := (143, [(0, .ref m0), (1, .int x1), (2, .int x2), (3, .int (tgf f cp pa x1))], [], M11)) rfl rfl rfl (fun c_140 => ?_) (fun c_140 => ?_)
                            · have c_140 : (tgf f cp pa x1) ≤ 12 := of_decide_eq_true c_140
                              exact J_155  (esz_mid c_134 c_140)
                            · have c_140 : ¬ ((tgf f cp pa x1) ≤ 12) := of_decide_eq_false c_140
                              exact J_143 
                        · have c_112 : ¬ (¬ (tgf f cp pa x1) = 20) := of_decide_eq_false c_112
                          exact J_115  (Or.inr (Or.inr (Or.inr (Or.inr (Decidable.not_not.mp c_112)))))
              · have c_55 : ¬ (¬ (tgf f cp pa x1) = 15) := of_decide_eq_false c_55
                have h15 := hP0.tg (Decidable.not_not.mp c_55) (by decide)
                have q15 : (pa (Int32.toNatClampNeg x1)).toInt + 4 ≤ n := h15.2.2.2.2
                have e1 : ((pa (Int32.toNatClampNeg x1)) + 1).toInt = (pa (Int32.toNatClampNeg x1)).toInt + 1 := i_add (by have : (1 : Int32).toInt = 1 := rfl; omega) (by have : (1 : Int32).toInt = 1 := rfl; omega)
                refine ml_blk 2 (S' := (60, [(3, .int (tgf f cp pa x1)), (0, .ref m0), (1, .int x1), (2, .int x2)], [.int 1, .int x2], M11)) rfl ?_
                refine ml_if2 (S1 := (78, [(3, .int (tgf f cp pa x1)), (0, .ref m0), (1, .int x1), (2, .int x2)], [], M11)) (S2 := (63, [(3, .int (tgf f cp pa x1)), (0, .ref m0), (1, .int x1), (2, .int x2)], [], M11)) rfl rfl rfl (fun c_60 => ?_) (fun c_60 => ?_)
                · have c_60 : ¬ x2 = 1 := of_decide_eq_true c_60
                  refine ml_blk 3 (S' := (81, [(3, .int (tgf f cp pa x1)), (0, .ref m0), (1, .int x1), (2, .int x2)], [.int 2, .int x1, .ref m0], M11)) rfl ?_
                  refine ml_call (a := [.ref m0, .int x1, .int 2]) (rest := []) rfl (hR13.okc rfl rfl rfl) rfl rfl (rm_index hR13 hF26 hP27 (h15.1) (h15.2.1) (h15.2.2.1) (by decide) (by have : (2 : Int32).toInt = 2 := rfl; omega) (by omega)) (fun v40 M41 h42 => ?_)
                  obtain ⟨rfl, h42⟩ := h42
                  rw [h42]
                  show ml _ _ _ (84, [], [.int (ixf f pa x1 2)], M11) _
                  exact ml_ret rfl (rfl) (⟨_, _, _, rfl, hR13, (eqI.rf.put f15 (by decide)), eqR.rf⟩)
                · have c_60 : ¬ (¬ x2 = 1) := of_decide_eq_false c_60
                  refine ml_blk 2 (S' := (65, [(3, .int (tgf f cp pa x1)), (0, .ref m0), (1, .int x1), (2, .int x2)], [.ref m0, .ref m0], M11)) rfl ?_
                  refine rg_ref (S' := (68, [(3, .int (tgf f cp pa x1)), (0, .ref m0), (1, .int x1), (2, .int x2)], [.ref (q 21), .ref m0], M11)) rfl hR13 rfl rfl ?_
                  refine ml_st (S' := (69, [(3, .int (tgf f cp pa x1)), (0, .ref m0), (1, .int x1), (2, .int x2)], [.int x1, .ref (q 21), .ref m0], M11)) rfl rfl rfl ?_
                  refine ra_ld (k := 21) (S' := (70, [(3, .int (tgf f cp pa x1)), (0, .ref m0), (1, .int x1), (2, .int x2)], [.int (pa (Int32.toNatClampNeg x1)), .ref m0], M11)) rfl hR13 rfl (by have q := (hP0.e h15.1 h15.2.1).2.1; rwa [Int32.zero_add] at q) (by have q := (hP0.e h15.1 h15.2.1).1; rwa [Int32.zero_add] at q) rfl ?_
                  refine ml_blk 2 (S' := (72, [(3, .int (tgf f cp pa x1)), (0, .ref m0), (1, .int x1), (2, .int x2)], [.int ((pa (Int32.toNatClampNeg x1)) + 1), .ref m0], M11)) rfl ?_
                  refine ml_call (a := [.ref m0, .int ((pa (Int32.toNatClampNeg x1)) + 1)]) (rest := []) rfl (hR13.okc rfl rfl rfl) rfl rfl (rm_u1 hR13 hF26 (by omega) (by omega) (by omega)) (fun v43 M44 h45 => ?_)
                  obtain ⟨rfl, h45⟩ := h45
                  rw [h45]
                  show ml _ _ _ (75, [(3, .int (tgf f cp pa x1)), (0, .ref m0), (1, .int x1), (2, .int x2)], [.int (f1 f ((pa (Int32.toNatClampNeg x1)) + 1))], M11) _
                  refine ml_st (S' := (84, [], [.int (f1 f ((pa (Int32.toNatClampNeg x1)) + 1))], M11)) rfl rfl rfl ?_
                  exact ml_ret rfl (rfl) (⟨_, _, _, rfl, hR13, (eqI.rf.put f15 (by decide)), eqR.rf⟩)
            · have c_47 : ¬ (¬ x2 = 0) := of_decide_eq_false c_47
              refine ml_st (S' := (51, [(3, .int (tgf f cp pa x1)), (0, .ref m0), (1, .int x1), (2, .int x2)], [.int (tgf f cp pa x1)], M11)) rfl rfl rfl ?_
              exact ml_ret rfl (rfl) (⟨_, _, _, rfl, hR13, (eqI.rf.put f15 (by decide)), eqR.rf⟩)
          · have c_35 : ¬ (x1 < cp) := of_decide_eq_false c_35
            refine ml_st (S' := (39, [], [.int (-1)], M11)) rfl rfl rfl ?_
            exact ml_ret rfl (rfl) (⟨_, _, _, rfl, hR13, (eqI.rf.put f15 (by decide)), eqR.rf⟩)
    · have c_11 : ¬ (x2 ≤ 2) := of_decide_eq_false c_11
      refine ml_st (S' := (15, [(0, .ref m0)], [.ref m0], M11)) rfl rfl rfl ?_
      refine ml_call (a := [.ref m0]) (rest := []) rfl (hR13.okc rfl rfl rfl) rfl rfl (rm_bad hR13 (by omega)) (fun v46 M47 h48 => ?_)
      obtain ⟨u54, I49, R50, rfl, hR51, hI52, hV53, w55⟩ := h48
      show ml _ _ _ (18, [(0, .ref m0)], [.int u54], M47) _
      exact ml_ret rfl (rfl) (⟨_, _, _, rfl, hR51, ((eqI.rf.put f15 (by decide)).tr hI52 (by decide)), (eqR.rf.tr hV53 (by decide))⟩)
end
section
set_option maxHeartbeats 2000000 in
theorem rm_bits {g : xe_G}  {m0 : Nat} {q : Nat → Nat} {z : Nat × Nat} {I : rI} {R : rR} {M : mi_H} {x1 kn : Int32} {n : Nat} {f : Nat → Int32}  (hR : RS g m0 q z I R M) (hk18 : I 18 = some kn) (hG : (kn < 0 ∨ GD n f I R)) {d : Nat} (hd : 4 ≤ d) : mt (mT g) d 183 [.ref m0, .int x1] M (fun v M' => ∃ (x : Int64) (I' : rI) (R' : rR), v = some (.long x) ∧ RS g m0 q z I' R' M' ∧ eqI [0] I I' ∧ eqR [] R R') := by
  obtain ⟨d, rfl⟩ : ∃ e, d = e + 1 := ⟨d - 1, by omega⟩
  refine mt_in (b := mb_183 g) rfl rfl ?_
  show ml (mT g) d (mb_183 g).2 (0, [(0, .ref m0), (1, .int x1)], [], M) _
  refine ml_blk 2 (S' := (2, [(0, .ref m0), (1, .int x1)], [.int 0, .ref m0], M)) rfl ?_
  refine rp_int rfl hR rfl (fun M11 I12 hR13 e14 f15 => ?_)
  show ml _ _ _ (5, [(0, .ref m0), (1, .int x1)], [], M11) _
  refine ml_st (S' := (6, [(0, .ref m0), (1, .int x1)], [.ref m0], M11)) rfl rfl rfl ?_
  refine rg_int (S' := (9, [(0, .ref m0), (1, .int x1)], [.int kn], M11)) rfl hR13 rfl ((f15 18 (by decide)).trans (hk18)) rfl ?_
  refine ml_if (S1 := (14, [(0, .ref m0), (1, .int x1)], [], M11)) (S2 := (12, [(0, .ref m0), (1, .int x1)], [], M11)) rfl rfl rfl (fun c_9 => ?_) (fun c_9 => ?_)
  · have c_9 : 0 ≤ kn := of_decide_eq_true c_9
    obtain ⟨S, cN, sa, sl, ch, cp, mj, pa, py, hA, fA, mA, aA, nf, ni, kf, km, hF0, hY0, hP0, hE0, hFO, kq54, kq58, kq61, hkf, kq25, hfk, hkm, kq26, hmk, hNW⟩ := hG.resolve_left (Int32.not_lt.mpr c_9)
    have hn := hF0.1
    refine ml_blk 2 (S' := (16, [(0, .ref m0), (1, .int x1)], [.int x1, .ref m0], M11)) rfl ?_
    have hF16 : FK n f I12 R := (hF0.mono (pIx f15 (by decide)) (fun _ _ => rfl))
    have hP17 : PK n f S cp mj pa py I12 R := (hP0.mono (pIx f15 (by decide)) (fun _ _ => rfl))
    refine ml_call (a := [.ref m0, .int x1]) (rest := []) rfl (hR13.okc rfl rfl rfl) rfl rfl (rm_tag hR13 hF16 hP17 (by omega)) (fun v18 M19 h20 => ?_)
    obtain ⟨rfl, h20⟩ := h20
    rw [h20]
    show ml _ _ _ (19, [(0, .ref m0), (1, .int x1)], [.int (tgf f cp pa x1)], M11) _
    refine ml_st (S' := (20, [(2, .int (tgf f cp pa x1)), (0, .ref m0), (1, .int x1)], [], M11)) rfl rfl rfl ?_
    refine ml_blk 2 (S' := (22, [(2, .int (tgf f cp pa x1)), (0, .ref m0), (1, .int x1)], [.int 3, .int (tgf f cp pa x1)], M11)) rfl ?_
    have J_30 : (tgf f cp pa x1 = 3 ∨ tgf f cp pa x1 = 4) → ml (mT g) d (mb_183 g).2 (30, [(0, .ref m0), (1, .int x1)], [], M11) (fun v M' => ∃ (x : Int64) (I' : rI) (R' : rR), v = some (.long x) ∧ RS g m0 q z I' R' M' ∧ eqI [0] I I' ∧ eqR [] R R') := by
      intro hj_30
      have h3 := hP0.tg (rfl : tgf f cp pa x1 = _) (fun e => by rcases hj_30 with h | h <;> rw [h] at e <;> exact absurd e (by decide))
      have q3 : (pa (Int32.toNatClampNeg x1)).toInt + 5 ≤ n := by have q := h3.2.2.2.2; rcases hj_30 with h | h <;> rw [h] at q <;> exact q
      have e1 : ((pa (Int32.toNatClampNeg x1)) + 1).toInt = (pa (Int32.toNatClampNeg x1)).toInt + 1 := i_add (by have : (1 : Int32).toInt = 1 := rfl; omega) (by have : (1 : Int32).toInt = 1 := rfl; omega)
      refine ml_blk 2 (S' := (32, [(0, .ref m0), (1, .int x1)], [.ref m0, .ref m0], M11)) rfl ?_
      refine rg_ref (S' := (35, [(0, .ref m0), (1, .int x1)], [.ref (q 21), .ref m0], M11)) rfl hR13 rfl rfl ?_
      refine ml_st (S' := (36, [(0, .ref m0), (1, .int x1)], [.int x1, .ref (q 21), .ref m0], M11)) rfl rfl rfl ?_
      refine ra_ld (k := 21) (S' := (37, [(0, .ref m0), (1, .int x1)], [.int (pa (Int32.toNatClampNeg x1)), .ref m0], M11)) rfl hR13 rfl (by have q := (hP0.e h3.1 h3.2.1).2.1; rwa [Int32.zero_add] at q) (by have q := (hP0.e h3.1 h3.2.1).1; rwa [Int32.zero_add] at q) rfl ?_
      refine ml_blk 2 (S' := (39, [(0, .ref m0), (1, .int x1)], [.int ((pa (Int32.toNatClampNeg x1)) + 1), .ref m0], M11)) rfl ?_
      refine ml_call (a := [.ref m0, .int ((pa (Int32.toNatClampNeg x1)) + 1)]) (rest := []) rfl (hR13.okc rfl rfl rfl) rfl rfl (rm_u4 hR13 hF16 (by omega) (by omega) (by omega)) (fun v21 M22 h23 => ?_)
      obtain ⟨rfl, h23⟩ := h23
      rw [h23]
      show ml _ _ _ (42, [(0, .ref m0), (1, .int x1)], [.long (f4 f ((pa (Int32.toNatClampNeg x1)) + 1))], M11) _
      refine ml_blk 2 (S' := (44, [(0, .ref m0), (1, .int x1)], [.long (Int32.toInt64 (Int64.toInt32 (f4 f ((pa (Int32.toNatClampNeg x1)) + 1))))], M11)) rfl ?_
      exact ml_ret rfl (rfl) (⟨_, _, _, rfl, hR13, (eqI.rf.put f15 (by decide)), eqR.rf⟩)
    refine ml_if2 (S1 := (30, [(0, .ref m0), (1, .int x1)], [], M11)) (S2 := (25, [(2, .int (tgf f cp pa x1)), (0, .ref m0), (1, .int x1)], [], M11)) rfl rfl rfl (fun c_22 => ?_) (fun c_22 => ?_)
    · have c_22 : (tgf f cp pa x1) = 3 := of_decide_eq_true c_22
      exact J_30  (Or.inl c_22)
    · have c_22 : ¬ ((tgf f cp pa x1) = 3) := of_decide_eq_false c_22
      refine ml_blk 2 (S' := (27, [(2, .int (tgf f cp pa x1)), (0, .ref m0), (1, .int x1)], [.int 4, .int (tgf f cp pa x1)], M11)) rfl ?_
      refine ml_if2 (S1 := (45, [(2, .int (tgf f cp pa x1)), (0, .ref m0), (1, .int x1)], [], M11)) (S2 := (30, [(0, .ref m0), (1, .int x1)], [], M11)) rfl rfl rfl (fun c_27 => ?_) (fun c_27 => ?_)
      · have c_27 : ¬ (tgf f cp pa x1) = 4 := of_decide_eq_true c_27
        refine ml_blk 2 (S' := (47, [(2, .int (tgf f cp pa x1)), (0, .ref m0), (1, .int x1)], [.int 5, .int (tgf f cp pa x1)], M11)) rfl ?_
        have J_56 : (tgf f cp pa x1 = 5 ∨ tgf f cp pa x1 = 6) → ml (mT g) d (mb_183 g).2 (56, [(0, .ref m0), (1, .int x1)], [], M11) (fun v M' => ∃ (x : Int64) (I' : rI) (R' : rR), v = some (.long x) ∧ RS g m0 q z I' R' M' ∧ eqI [0] I I' ∧ eqR [] R R') := by
          intro hj_56
          have h3 := hP0.tg (rfl : tgf f cp pa x1 = _) (fun e => by rcases hj_56 with h | h <;> rw [h] at e <;> exact absurd e (by decide))
          have q3 : (pa (Int32.toNatClampNeg x1)).toInt + 9 ≤ n := by have q := h3.2.2.2.2; rcases hj_56 with h | h <;> rw [h] at q <;> exact q
          have e1 : ((pa (Int32.toNatClampNeg x1)) + 1).toInt = (pa (Int32.toNatClampNeg x1)).toInt + 1 := i_add (by have : (1 : Int32).toInt = 1 := rfl; omega) (by have : (1 : Int32).toInt = 1 := rfl; omega)
          have e5 : ((pa (Int32.toNatClampNeg x1)) + 5).toInt = (pa (Int32.toNatClampNeg x1)).toInt + 5 := i_add (by have : (5 : Int32).toInt = 5 := rfl; omega) (by have : (5 : Int32).toInt = 5 := rfl; omega)
          refine ml_blk 2 (S' := (58, [(0, .ref m0), (1, .int x1)], [.ref m0, .ref m0], M11)) rfl ?_
          refine rg_ref (S' := (61, [(0, .ref m0), (1, .int x1)], [.ref (q 21), .ref m0], M11)) rfl hR13 rfl rfl ?_
          refine ml_st (S' := (62, [(0, .ref m0), (1, .int x1)], [.int x1, .ref (q 21), .ref m0], M11)) rfl rfl rfl ?_
          refine ra_ld (k := 21) (S' := (63, [(0, .ref m0), (1, .int x1)], [.int (pa (Int32.toNatClampNeg x1)), .ref m0], M11)) rfl hR13 rfl (by have q := (hP0.e h3.1 h3.2.1).2.1; rwa [Int32.zero_add] at q) (by have q := (hP0.e h3.1 h3.2.1).1; rwa [Int32.zero_add] at q) rfl ?_
          refine ml_blk 2 (S' := (65, [(0, .ref m0), (1, .int x1)], [.int ((pa (Int32.toNatClampNeg x1)) + 1), .ref m0], M11)) rfl ?_
          refine ml_call (a := [.ref m0, .int ((pa (Int32.toNatClampNeg x1)) + 1)]) (rest := []) rfl (hR13.okc rfl rfl rfl) rfl rfl (rm_u4 hR13 hF16 (by omega) (by omega) (by omega)) (fun v24 M25 h26 => ?_)
          obtain ⟨rfl, h26⟩ := h26
          rw [h26]
          show ml _ _ _ (68, [(0, .ref m0), (1, .int x1)], [.long (f4 f ((pa (Int32.toNatClampNeg x1)) + 1))], M11) _
          refine ml_blk 3 (S' := (72, [(0, .ref m0), (1, .int x1)], [.ref m0, .long ((f4 f ((pa (Int32.toNatClampNeg x1)) + 1)) <<< (Int32.toInt64 32 &&& 63))], M11)) rfl ?_
          refine ml_st (S' := (73, [(0, .ref m0), (1, .int x1)], [.ref m0, .ref m0, .long ((f4 f ((pa (Int32.toNatClampNeg x1)) + 1)) <<< (Int32.toInt64 32 &&& 63))], M11)) rfl rfl rfl ?_
          refine rg_ref (S' := (76, [(0, .ref m0), (1, .int x1)], [.ref (q 21), .ref m0, .long ((f4 f ((pa (Int32.toNatClampNeg x1)) + 1)) <<< (Int32.toInt64 32 &&& 63))], M11)) rfl hR13 rfl rfl ?_
          refine ml_st (S' := (77, [(0, .ref m0), (1, .int x1)], [.int x1, .ref (q 21), .ref m0, .long ((f4 f ((pa (Int32.toNatClampNeg x1)) + 1)) <<< (Int32.toInt64 32 &&& 63))], M11)) rfl rfl rfl ?_
          refine ra_ld (k := 21) (S' := (78, [(0, .ref m0), (1, .int x1)], [.int (pa (Int32.toNatClampNeg x1)), .ref m0, .long ((f4 f ((pa (Int32.toNatClampNeg x1)) + 1)) <<< (Int32.toInt64 32 &&& 63))], M11)) rfl hR13 rfl (by have q := (hP0.e h3.1 h3.2.1).2.1; rwa [Int32.zero_add] at q) (by have q := (hP0.e h3.1 h3.2.1).1; rwa [Int32.zero_add] at q) rfl ?_
          refine ml_blk 2 (S' := (80, [(0, .ref m0), (1, .int x1)], [.int ((pa (Int32.toNatClampNeg x1)) + 5), .ref m0, .long ((f4 f ((pa (Int32.toNatClampNeg x1)) + 1)) <<< (Int32.toInt64 32 &&& 63))], M11)) rfl ?_
          refine ml_call (a := [.ref m0, .int ((pa (Int32.toNatClampNeg x1)) + 5)]) (rest := [.long ((f4 f ((pa (Int32.toNatClampNeg x1)) + 1)) <<< (Int32.toInt64 32 &&& 63))]) rfl (hR13.okc rfl rfl rfl) rfl rfl (rm_u4 hR13 hF16 (by omega) (by omega) (by omega)) (fun v27 M28 h29 => ?_)
          obtain ⟨rfl, h29⟩ := h29
          rw [h29]
          show ml _ _ _ (83, [(0, .ref m0), (1, .int x1)], [.long (f4 f ((pa (Int32.toNatClampNeg x1)) + 5)), .long ((f4 f ((pa (Int32.toNatClampNeg x1)) + 1)) <<< (Int32.toInt64 32 &&& 63))], M11) _
          refine ml_st (S' := (84, [(0, .ref m0), (1, .int x1)], [.long (((f4 f ((pa (Int32.toNatClampNeg x1)) + 1)) <<< (Int32.toInt64 32 &&& 63)) ||| (f4 f ((pa (Int32.toNatClampNeg x1)) + 5)))], M11)) rfl rfl rfl ?_
          exact ml_ret rfl (rfl) (⟨_, _, _, rfl, hR13, (eqI.rf.put f15 (by decide)), eqR.rf⟩)
        refine ml_if2 (S1 := (56, [(0, .ref m0), (1, .int x1)], [], M11)) (S2 := (50, [(2, .int (tgf f cp pa x1)), (0, .ref m0), (1, .int x1)], [], M11)) rfl rfl rfl (fun c_47 => ?_) (fun c_47 => ?_)
        · have c_47 : (tgf f cp pa x1) = 5 := of_decide_eq_true c_47
          exact J_56  (Or.inl c_47)
        · have c_47 : ¬ ((tgf f cp pa x1) = 5) := of_decide_eq_false c_47
          refine ml_blk 2 (S' := (53, [(2, .int (tgf f cp pa x1)), (0, .ref m0), (1, .int x1)], [.int 6, .int (tgf f cp pa x1)], M11)) rfl ?_
          refine ml_if2 (S1 := (85, [(2, .int (tgf f cp pa x1)), (0, .ref m0), (1, .int x1)], [], M11)) (S2 := (56, [(0, .ref m0), (1, .int x1)], [], M11)) rfl rfl rfl (fun c_53 => ?_) (fun c_53 => ?_)
          · have c_53 : ¬ (tgf f cp pa x1) = 6 := of_decide_eq_true c_53
            refine ml_st (S' := (86, [(2, .int (tgf f cp pa x1)), (0, .ref m0), (1, .int x1)], [.long 0], M11)) rfl rfl rfl ?_
            exact ml_ret rfl (rfl) (⟨_, _, _, rfl, hR13, (eqI.rf.put f15 (by decide)), eqR.rf⟩)
          · have c_53 : ¬ (¬ (tgf f cp pa x1) = 6) := of_decide_eq_false c_53
            exact J_56  (Or.inr (Decidable.not_not.mp c_53))
      · have c_27 : ¬ (¬ (tgf f cp pa x1) = 4) := of_decide_eq_false c_27
        exact J_30  (Or.inr (Decidable.not_not.mp c_27))
  · have c_9 : ¬ (0 ≤ kn) := of_decide_eq_false c_9
    refine ml_st (S' := (13, [(0, .ref m0), (1, .int x1)], [.long 0], M11)) rfl rfl rfl ?_
    exact ml_ret rfl (rfl) (⟨_, _, _, rfl, hR13, (eqI.rf.put f15 (by decide)), eqR.rf⟩)
set_option maxHeartbeats 2000000 in
theorem rm_character {g : xe_G}  {m0 : Nat} {q : Nat → Nat} {z : Nat × Nat} {I : rI} {R : rR} {M : mi_H} {x1 x2 kn : Int32} {n : Nat} {f : Nat → Int32}  (hR : RS g m0 q z I R M) (hk18 : I 18 = some kn) (hG : (kn < 0 ∨ GD n f I R)) {d : Nat} (hd : 3 ≤ d) : mt (mT g) d 186 [.ref m0, .int x1, .int x2] M (fun v M' => ∃ (x : Int32) (I' : rI) (R' : rR), v = some (.int x) ∧ RS g m0 q z I' R' M' ∧ eqI [0] I I' ∧ eqR [] R R') := by
  obtain ⟨d, rfl⟩ : ∃ e, d = e + 1 := ⟨d - 1, by omega⟩
  refine mt_in (b := mb_186 g) rfl rfl ?_
  show ml (mT g) d (mb_186 g).2 (0, [(0, .ref m0), (1, .int x1), (2, .int x2)], [], M) _
  refine ml_blk 2 (S' := (2, [(0, .ref m0), (1, .int x1), (2, .int x2)], [.int 0, .ref m0], M)) rfl ?_
  refine rp_int rfl hR rfl (fun M11 I12 hR13 e14 f15 => ?_)
  show ml _ _ _ (5, [(0, .ref m0), (1, .int x1), (2, .int x2)], [], M11) _
  refine ml_st (S' := (6, [(0, .ref m0), (1, .int x1), (2, .int x2)], [.ref m0], M11)) rfl rfl rfl ?_
  refine rg_int (S' := (9, [(0, .ref m0), (1, .int x1), (2, .int x2)], [.int kn], M11)) rfl hR13 rfl ((f15 18 (by decide)).trans (hk18)) rfl ?_
  refine ml_if (S1 := (38, [], [], M11)) (S2 := (12, [(0, .ref m0), (1, .int x1), (2, .int x2)], [], M11)) rfl rfl rfl (fun c_9 => ?_) (fun c_9 => ?_)
  · have c_9 : kn < 0 := of_decide_eq_true c_9
    refine ml_st (S' := (39, [], [.int (-1)], M11)) rfl rfl rfl ?_
    refine ml_st (S' := (52, [], [.int (-1)], M11)) rfl rfl rfl ?_
    exact ml_ret rfl (rfl) (⟨_, _, _, rfl, hR13, (eqI.rf.put f15 (by decide)), eqR.rf⟩)
  · have c_9 : ¬ (kn < 0) := of_decide_eq_false c_9
    obtain ⟨S, cN, sa, sl, ch, cp, mj, pa, py, hA, fA, mA, aA, nf, ni, kf, km, hF0, hY0, hP0, hE0, hFO, kq54, kq58, kq61, hkf, kq25, hfk, hkm, kq26, hmk, hNW⟩ := hG.resolve_left (c_9)
    have hn := hF0.1
    refine ml_blk 2 (S' := (14, [(0, .ref m0), (1, .int x1), (2, .int x2)], [.int x1, .ref m0], M11)) rfl ?_
    have hF16 : FK n f I12 R := (hF0.mono (pIx f15 (by decide)) (fun _ _ => rfl))
    have hP17 : PK n f S cp mj pa py I12 R := (hP0.mono (pIx f15 (by decide)) (fun _ _ => rfl))
    refine ml_call (a := [.ref m0, .int x1]) (rest := []) rfl (hR13.okc rfl rfl rfl) rfl rfl (rm_tag hR13 hF16 hP17 (by omega)) (fun v18 M19 h20 => ?_)
    obtain ⟨rfl, h20⟩ := h20
    rw [h20]
    show ml _ _ _ (17, [(0, .ref m0), (1, .int x1), (2, .int x2)], [.int (tgf f cp pa x1)], M11) _
    refine ml_st (S' := (18, [(0, .ref m0), (1, .int x1), (2, .int x2)], [.int 1, .int (tgf f cp pa x1)], M11)) rfl rfl rfl ?_
    refine ml_if2 (S1 := (38, [], [], M11)) (S2 := (21, [(0, .ref m0), (1, .int x1), (2, .int x2)], [], M11)) rfl rfl rfl (fun c_18 => ?_) (fun c_18 => ?_)
    · have c_18 : ¬ (tgf f cp pa x1) = 1 := of_decide_eq_true c_18
      refine ml_st (S' := (39, [], [.int (-1)], M11)) rfl rfl rfl ?_
      refine ml_st (S' := (52, [], [.int (-1)], M11)) rfl rfl rfl ?_
      exact ml_ret rfl (rfl) (⟨_, _, _, rfl, hR13, (eqI.rf.put f15 (by decide)), eqR.rf⟩)
    · have c_18 : ¬ (¬ (tgf f cp pa x1) = 1) := of_decide_eq_false c_18
      refine ml_st (S' := (22, [(0, .ref m0), (1, .int x1), (2, .int x2)], [.int x2], M11)) rfl rfl rfl ?_
      refine ml_if (S1 := (38, [], [], M11)) (S2 := (25, [(0, .ref m0), (1, .int x1), (2, .int x2)], [], M11)) rfl rfl rfl (fun c_22 => ?_) (fun c_22 => ?_)
      · have c_22 : x2 < 0 := of_decide_eq_true c_22
        refine ml_st (S' := (39, [], [.int (-1)], M11)) rfl rfl rfl ?_
        refine ml_st (S' := (52, [], [.int (-1)], M11)) rfl rfl rfl ?_
        exact ml_ret rfl (rfl) (⟨_, _, _, rfl, hR13, (eqI.rf.put f15 (by decide)), eqR.rf⟩)
      · have c_22 : ¬ (x2 < 0) := of_decide_eq_false c_22
        refine ml_blk 3 (S' := (28, [(0, .ref m0), (1, .int x1), (2, .int x2)], [.ref m0, .ref m0, .int x2], M11)) rfl ?_
        refine ml_st (S' := (29, [(0, .ref m0), (1, .int x1), (2, .int x2)], [.int x1, .ref m0, .ref m0, .int x2], M11)) rfl rfl rfl ?_
        refine ml_call (a := [.ref m0, .int x1]) (rest := [.ref m0, .int x2]) rfl (hR13.okc rfl rfl rfl) rfl rfl (rm_symOf hR13 hP17 (Decidable.not_not.mp c_18) (by omega)) (fun v21 M22 h23 => ?_)
        obtain ⟨rfl, h23⟩ := h23
        rw [h23]
        show ml _ _ _ (32, [(0, .ref m0), (1, .int x1), (2, .int x2)], [.int (pyf py x1), .ref m0, .int x2], M11) _
        have hY24 : SK S cN sa sl ch I12 R := (hY0.mono (pIx f15 (by decide)) (fun _ _ => rfl))
        refine ml_call (a := [.ref m0, .int (pyf py x1)]) (rest := [.int x2]) rfl (hR13.okc rfl rfl rfl) rfl rfl (rm_length hR13 hY24 ((hP0.y (Decidable.not_not.mp c_18)).2.2.1) ((hP0.y (Decidable.not_not.mp c_18)).2.2.2) (by omega)) (fun v25 M26 h27 => ?_)
        obtain ⟨rfl, h27⟩ := h27
        rw [h27]
        show ml _ _ _ (35, [(0, .ref m0), (1, .int x1), (2, .int x2)], [.int (sL sl (pyf py x1)), .int x2], M11) _
        refine ml_if2 (S1 := (42, [(0, .ref m0), (1, .int x1), (2, .int x2)], [], M11)) (S2 := (38, [], [], M11)) rfl rfl rfl (fun c_35 => ?_) (fun c_35 => ?_)
        · have c_35 : x2 < (sL sl (pyf py x1)) := of_decide_eq_true c_35
          refine ml_blk 3 (S' := (45, [(0, .ref m0), (1, .int x1), (2, .int x2)], [.int x1, .ref m0, .ref m0], M11)) rfl ?_
          refine ml_call (a := [.ref m0, .int x1]) (rest := [.ref m0]) rfl (hR13.okc rfl rfl rfl) rfl rfl (rm_symOf hR13 hP17 (Decidable.not_not.mp c_18) (by omega)) (fun v28 M29 h30 => ?_)
          obtain ⟨rfl, h30⟩ := h30
          rw [h30]
          show ml _ _ _ (48, [(0, .ref m0), (1, .int x1), (2, .int x2)], [.int (pyf py x1), .ref m0], M11) _
          refine ml_st (S' := (49, [(0, .ref m0), (1, .int x1), (2, .int x2)], [.int x2, .int (pyf py x1), .ref m0], M11)) rfl rfl rfl ?_
          refine ml_call (a := [.ref m0, .int (pyf py x1), .int x2]) (rest := []) rfl (hR13.okc rfl rfl rfl) rfl rfl (rm_at hR13 hY24 ((hP0.y (Decidable.not_not.mp c_18)).2.2.1) ((hP0.y (Decidable.not_not.mp c_18)).2.2.2) (i_nlt c_22) (i_lt c_35) (by omega)) (fun v31 M32 h33 => ?_)
          obtain ⟨rfl, h33⟩ := h33
          rw [h33]
          show ml _ _ _ (52, [], [.int (tx sa ch (pyf py x1) x2)], M11) _
          exact ml_ret rfl (rfl) (⟨_, _, _, rfl, hR13, (eqI.rf.put f15 (by decide)), eqR.rf⟩)
        · have c_35 : ¬ (x2 < (sL sl (pyf py x1))) := of_decide_eq_false c_35
          refine ml_st (S' := (39, [], [.int (-1)], M11)) rfl rfl rfl ?_
          refine ml_st (S' := (52, [], [.int (-1)], M11)) rfl rfl rfl ?_
          exact ml_ret rfl (rfl) (⟨_, _, _, rfl, hR13, (eqI.rf.put f15 (by decide)), eqR.rf⟩)
set_option maxHeartbeats 2000000 in
theorem rm_member {g : xe_G}  {m0 : Nat} {q : Nat → Nat} {z : Nat × Nat} {I : rI} {R : rR} {M : mi_H} {x1 x2 x3 kn : Int32} {n : Nat} {f : Nat → Int32}  (hR : RS g m0 q z I R M) (hk18 : I 18 = some kn) (hG : (kn < 0 ∨ GD n f I R)) {d : Nat} (hd : 5 ≤ d) : mt (mT g) d 223 [.ref m0, .int x1, .int x2, .int x3] M (fun v M' => ∃ (x : Int32) (I' : rI) (R' : rR), v = some (.int x) ∧ RS g m0 q z I' R' M' ∧ eqI [0] I I' ∧ eqR [] R R') := by
  obtain ⟨d, rfl⟩ : ∃ e, d = e + 1 := ⟨d - 1, by omega⟩
  refine mt_in (b := mb_223 g) rfl rfl ?_
  show ml (mT g) d (mb_223 g).2 (0, [(0, .ref m0), (1, .int x1), (2, .int x2), (3, .int x3)], [], M) _
  refine ml_blk 2 (S' := (2, [(0, .ref m0), (1, .int x1), (2, .int x2), (3, .int x3)], [.int 0, .ref m0], M)) rfl ?_
  refine rp_int rfl hR rfl (fun M11 I12 hR13 e14 f15 => ?_)
  show ml _ _ _ (5, [(0, .ref m0), (1, .int x1), (2, .int x2), (3, .int x3)], [], M11) _
  refine ml_st (S' := (6, [(0, .ref m0), (1, .int x1), (2, .int x2), (3, .int x3)], [.int x3], M11)) rfl rfl rfl ?_
  refine ml_if (S1 := (15, [(0, .ref m0)], [], M11)) (S2 := (9, [(0, .ref m0), (1, .int x1), (2, .int x2), (3, .int x3)], [], M11)) rfl rfl rfl (fun c_6 => ?_) (fun c_6 => ?_)
  · have c_6 : x3 < 0 := of_decide_eq_true c_6
    refine ml_st (S' := (16, [(0, .ref m0)], [.ref m0], M11)) rfl rfl rfl ?_
    refine ml_call (a := [.ref m0]) (rest := []) rfl (hR13.okc rfl rfl rfl) rfl rfl (rm_bad hR13 (by omega)) (fun v16 M17 h18 => ?_)
    obtain ⟨u24, I19, R20, rfl, hR21, hI22, hV23, w25⟩ := h18
    show ml _ _ _ (19, [(0, .ref m0)], [.int u24], M17) _
    exact ml_ret rfl (rfl) (⟨_, _, _, rfl, hR21, ((eqI.rf.put f15 (by decide)).tr hI22 (by decide)), (eqR.rf.tr hV23 (by decide))⟩)
  · have c_6 : ¬ (x3 < 0) := of_decide_eq_false c_6
    refine ml_blk 2 (S' := (12, [(0, .ref m0), (1, .int x1), (2, .int x2), (3, .int x3)], [.int 9, .int x3], M11)) rfl ?_
    refine ml_if2 (S1 := (20, [(0, .ref m0), (1, .int x1), (2, .int x2), (3, .int x3)], [], M11)) (S2 := (15, [(0, .ref m0)], [], M11)) rfl rfl rfl (fun c_12 => ?_) (fun c_12 => ?_)
    · have c_12 : x3 ≤ 9 := of_decide_eq_true c_12
      refine ml_st (S' := (21, [(0, .ref m0), (1, .int x1), (2, .int x2), (3, .int x3)], [.ref m0], M11)) rfl rfl rfl ?_
      refine rg_int (S' := (24, [(0, .ref m0), (1, .int x1), (2, .int x2), (3, .int x3)], [.int kn], M11)) rfl hR13 rfl ((f15 18 (by decide)).trans (hk18)) rfl ?_
      refine ml_if (S1 := (50, [], [], M11)) (S2 := (27, [(0, .ref m0), (1, .int x1), (2, .int x2), (3, .int x3)], [], M11)) rfl rfl rfl (fun c_24 => ?_) (fun c_24 => ?_)
      · have c_24 : kn < 0 := of_decide_eq_true c_24
        refine ml_st (S' := (51, [], [.int (-1)], M11)) rfl rfl rfl ?_
        exact ml_ret rfl (rfl) (⟨_, _, _, rfl, hR13, (eqI.rf.put f15 (by decide)), eqR.rf⟩)
      · have c_24 : ¬ (kn < 0) := of_decide_eq_false c_24
        obtain ⟨S, cN, sa, sl, ch, cp, mj, pa, py, hA, fA, mA, aA, nf, ni, kf, km, hF0, hY0, hP0, hE0, hFO, kq54, kq58, kq61, hkf, kq25, hfk, hkm, kq26, hmk, hNW⟩ := hG.resolve_left (c_24)
        have hn := hF0.1
        refine ml_st (S' := (28, [(0, .ref m0), (1, .int x1), (2, .int x2), (3, .int x3)], [.int x2], M11)) rfl rfl rfl ?_
        refine ml_if (S1 := (50, [], [], M11)) (S2 := (31, [(0, .ref m0), (1, .int x1), (2, .int x2), (3, .int x3)], [], M11)) rfl rfl rfl (fun c_28 => ?_) (fun c_28 => ?_)
        · have c_28 : x2 < 0 := of_decide_eq_true c_28
          refine ml_st (S' := (51, [], [.int (-1)], M11)) rfl rfl rfl ?_
          exact ml_ret rfl (rfl) (⟨_, _, _, rfl, hR13, (eqI.rf.put f15 (by decide)), eqR.rf⟩)
        · have c_28 : ¬ (x2 < 0) := of_decide_eq_false c_28
          refine ml_blk 2 (S' := (33, [(0, .ref m0), (1, .int x1), (2, .int x2), (3, .int x3)], [.int x1, .int x2], M11)) rfl ?_
          have J_47 : ∀ (s47_0 : Int32), ((x1 = 0 → s47_0 = nI kf) ∧ (¬ x1 = 0 → s47_0 = nI km)) → ml (mT g) d (mb_223 g).2 (47, [(0, .ref m0), (1, .int x1), (2, .int x2), (3, .int x3)], [.int s47_0, .int x2], M11) (fun v M' => ∃ (x : Int32) (I' : rI) (R' : rR), v = some (.int x) ∧ RS g m0 q z I' R' M' ∧ eqI [0] I I' ∧ eqR [] R R') := by
            intro s47_0 hj_47
            refine ml_if2 (S1 := (52, [(0, .ref m0), (1, .int x1), (2, .int x2), (3, .int x3)], [], M11)) (S2 := (50, [], [], M11)) rfl rfl rfl (fun c_47 => ?_) (fun c_47 => ?_)
            · have c_47 : x2 < s47_0 := of_decide_eq_true c_47
              have hj_52 : (0 ≤ x2.toInt ∧ (x1 = 0 → x2.toInt < kf) ∧ (¬ x1 = 0 → x2.toInt < km)) := ⟨i_nlt c_28, fun e => i_ltn (hj_47.1 e ▸ c_47) hkf, fun e => i_ltn (hj_47.2 e ▸ c_47) hkm⟩
              refine ml_st (S' := (53, [(0, .ref m0), (1, .int x1), (2, .int x2), (3, .int x3)], [.int x3], M11)) rfl rfl rfl ?_
              refine ml_sw rfl (fun t_53 ht_53 => ?_)
              have kt_53 := ht_53
              have ht_53 : t_53 ∈ [88, 108, 128, 148, 168, 188] := mi_sw_sub ht_53 (by decide)
              simp only [List.mem_cons, List.not_mem_nil, or_false] at ht_53
              rcases ht_53 with rfl | rfl | rfl | rfl | rfl | rfl
              · show ml _ _ _ (88, [(0, .ref m0), (1, .int x1), (2, .int x2), (3, .int x3)], [], M11) _
                refine ml_st (S' := (89, [(0, .ref m0), (1, .int x1), (2, .int x2), (3, .int x3)], [.int x1], M11)) rfl rfl rfl ?_
                refine ml_if (S1 := (101, [(0, .ref m0), (1, .int x1), (2, .int x2), (3, .int x3)], [], M11)) (S2 := (92, [(0, .ref m0), (1, .int x1), (2, .int x2), (3, .int x3)], [], M11)) rfl rfl rfl (fun c_89 => ?_) (fun c_89 => ?_)
                · have c_89 : x1 = 0 := of_decide_eq_true c_89
                  refine ml_st (S' := (102, [(0, .ref m0), (1, .int x1), (2, .int x2), (3, .int x3)], [.ref m0], M11)) rfl rfl rfl ?_
                  refine rg_ref (S' := (105, [(0, .ref m0), (1, .int x1), (2, .int x2), (3, .int x3)], [.ref (q 27)], M11)) rfl hR13 rfl rfl ?_
                  refine ml_st (S' := (106, [(0, .ref m0), (1, .int x1), (2, .int x2), (3, .int x3)], [.int x2, .ref (q 27)], M11)) rfl rfl rfl ?_
                  have hx106 := hj_52.2.1 c_89
                  obtain ⟨v26, hv27⟩ := hfk x2.toNatClampNeg (by show x2.toInt.toNat < kf; omega) 27 (by decide)
                  refine ra_ld (k := 27) (S' := (107, [], [.int v26], M11)) rfl hR13 rfl (vin_lt hj_52.1 (by omega)) (hv27) rfl ?_
                  exact ml_ret rfl (rfl) (⟨_, _, _, rfl, hR13, (eqI.rf.put f15 (by decide)), eqR.rf⟩)
                · have c_89 : ¬ (x1 = 0) := of_decide_eq_false c_89
                  refine ml_st (S' := (93, [(0, .ref m0), (1, .int x1), (2, .int x2), (3, .int x3)], [.ref m0], M11)) rfl rfl rfl ?_
                  refine rg_ref (S' := (96, [(0, .ref m0), (1, .int x1), (2, .int x2), (3, .int x3)], [.ref (q 34)], M11)) rfl hR13 rfl rfl ?_
                  refine ml_st (S' := (97, [(0, .ref m0), (1, .int x1), (2, .int x2), (3, .int x3)], [.int x2, .ref (q 34)], M11)) rfl rfl rfl ?_
                  have hx97 := hj_52.2.2 c_89
                  obtain ⟨v28, hv29⟩ := (hmk x2.toNatClampNeg (by show x2.toInt.toNat < km; omega)).1 34 (by decide)
                  refine ra_ld (k := 34) (S' := (98, [(0, .ref m0), (1, .int x1), (2, .int x2), (3, .int x3)], [.int v28], M11)) rfl hR13 rfl (vin_lt hj_52.1 (by omega)) (hv29) rfl ?_
                  refine ml_st (S' := (107, [], [.int v28], M11)) rfl rfl rfl ?_
                  exact ml_ret rfl (rfl) (⟨_, _, _, rfl, hR13, (eqI.rf.put f15 (by decide)), eqR.rf⟩)
              · show ml _ _ _ (108, [(0, .ref m0), (1, .int x1), (2, .int x2), (3, .int x3)], [], M11) _
                refine ml_st (S' := (109, [(0, .ref m0), (1, .int x1), (2, .int x2), (3, .int x3)], [.int x1], M11)) rfl rfl rfl ?_
                refine ml_if (S1 := (121, [(0, .ref m0), (1, .int x1), (2, .int x2), (3, .int x3)], [], M11)) (S2 := (112, [(0, .ref m0), (1, .int x1), (2, .int x2), (3, .int x3)], [], M11)) rfl rfl rfl (fun c_109 => ?_) (fun c_109 => ?_)
                · have c_109 : x1 = 0 := of_decide_eq_true c_109
                  refine ml_st (S' := (122, [(0, .ref m0), (1, .int x1), (2, .int x2), (3, .int x3)], [.ref m0], M11)) rfl rfl rfl ?_
                  refine rg_ref (S' := (125, [(0, .ref m0), (1, .int x1), (2, .int x2), (3, .int x3)], [.ref (q 32)], M11)) rfl hR13 rfl rfl ?_
                  refine ml_st (S' := (126, [(0, .ref m0), (1, .int x1), (2, .int x2), (3, .int x3)], [.int x2, .ref (q 32)], M11)) rfl rfl rfl ?_
                  have hx126 := hj_52.2.1 c_109
                  obtain ⟨v30, hv31⟩ := hfk x2.toNatClampNeg (by show x2.toInt.toNat < kf; omega) 32 (by decide)
                  refine ra_ld (k := 32) (S' := (127, [], [.int v30], M11)) rfl hR13 rfl (vin_lt hj_52.1 (by omega)) (hv31) rfl ?_
                  exact ml_ret rfl (rfl) (⟨_, _, _, rfl, hR13, (eqI.rf.put f15 (by decide)), eqR.rf⟩)
                · have c_109 : ¬ (x1 = 0) := of_decide_eq_false c_109
                  refine ml_st (S' := (113, [(0, .ref m0), (1, .int x1), (2, .int x2), (3, .int x3)], [.ref m0], M11)) rfl rfl rfl ?_
                  refine rg_ref (S' := (116, [(0, .ref m0), (1, .int x1), (2, .int x2), (3, .int x3)], [.ref (q 45)], M11)) rfl hR13 rfl rfl ?_
                  refine ml_st (S' := (117, [(0, .ref m0), (1, .int x1), (2, .int x2), (3, .int x3)], [.int x2, .ref (q 45)], M11)) rfl rfl rfl ?_
                  have hx117 := hj_52.2.2 c_109
                  obtain ⟨v32, hv33⟩ := (hmk x2.toNatClampNeg (by show x2.toInt.toNat < km; omega)).1 45 (by decide)
                  refine ra_ld (k := 45) (S' := (118, [(0, .ref m0), (1, .int x1), (2, .int x2), (3, .int x3)], [.int v32], M11)) rfl hR13 rfl (vin_lt hj_52.1 (by omega)) (hv33) rfl ?_
                  refine ml_st (S' := (127, [], [.int v32], M11)) rfl rfl rfl ?_
                  exact ml_ret rfl (rfl) (⟨_, _, _, rfl, hR13, (eqI.rf.put f15 (by decide)), eqR.rf⟩)
              · show ml _ _ _ (128, [(0, .ref m0), (1, .int x1), (2, .int x2), (3, .int x3)], [], M11) _
                refine ml_st (S' := (129, [(0, .ref m0), (1, .int x1), (2, .int x2), (3, .int x3)], [.int x1], M11)) rfl rfl rfl ?_
                refine ml_if (S1 := (141, [(0, .ref m0), (1, .int x1), (2, .int x2), (3, .int x3)], [], M11)) (S2 := (132, [(0, .ref m0), (1, .int x1), (2, .int x2), (3, .int x3)], [], M11)) rfl rfl rfl (fun c_129 => ?_) (fun c_129 => ?_)
                · have c_129 : x1 = 0 := of_decide_eq_true c_129
                  refine ml_st (S' := (142, [(0, .ref m0), (1, .int x1), (2, .int x2), (3, .int x3)], [.ref m0], M11)) rfl rfl rfl ?_
                  refine rg_ref (S' := (145, [(0, .ref m0), (1, .int x1), (2, .int x2), (3, .int x3)], [.ref (q 33)], M11)) rfl hR13 rfl rfl ?_
                  refine ml_st (S' := (146, [(0, .ref m0), (1, .int x1), (2, .int x2), (3, .int x3)], [.int x2, .ref (q 33)], M11)) rfl rfl rfl ?_
                  have hx146 := hj_52.2.1 c_129
                  obtain ⟨v34, hv35⟩ := hfk x2.toNatClampNeg (by show x2.toInt.toNat < kf; omega) 33 (by decide)
                  refine ra_ld (k := 33) (S' := (147, [], [.int v34], M11)) rfl hR13 rfl (vin_lt hj_52.1 (by omega)) (hv35) rfl ?_
                  exact ml_ret rfl (rfl) (⟨_, _, _, rfl, hR13, (eqI.rf.put f15 (by decide)), eqR.rf⟩)
                · have c_129 : ¬ (x1 = 0) := of_decide_eq_false c_129
                  refine ml_st (S' := (133, [(0, .ref m0), (1, .int x1), (2, .int x2), (3, .int x3)], [.ref m0], M11)) rfl rfl rfl ?_
                  refine rg_ref (S' := (136, [(0, .ref m0), (1, .int x1), (2, .int x2), (3, .int x3)], [.ref (q 46)], M11)) rfl hR13 rfl rfl ?_
                  refine ml_st (S' := (137, [(0, .ref m0), (1, .int x1), (2, .int x2), (3, .int x3)], [.int x2, .ref (q 46)], M11)) rfl rfl rfl ?_
                  have hx137 := hj_52.2.2 c_129
                  obtain ⟨v36, hv37⟩ := (hmk x2.toNatClampNeg (by show x2.toInt.toNat < km; omega)).1 46 (by decide)
                  refine ra_ld (k := 46) (S' := (138, [(0, .ref m0), (1, .int x1), (2, .int x2), (3, .int x3)], [.int v36], M11)) rfl hR13 rfl (vin_lt hj_52.1 (by omega)) (hv37) rfl ?_
                  refine ml_st (S' := (147, [], [.int v36], M11)) rfl rfl rfl ?_
                  exact ml_ret rfl (rfl) (⟨_, _, _, rfl, hR13, (eqI.rf.put f15 (by decide)), eqR.rf⟩)
              · show ml _ _ _ (148, [(0, .ref m0), (1, .int x1), (2, .int x2), (3, .int x3)], [], M11) _
                refine ml_st (S' := (149, [(0, .ref m0), (1, .int x1), (2, .int x2), (3, .int x3)], [.int x1], M11)) rfl rfl rfl ?_
                refine ml_if (S1 := (161, [(0, .ref m0), (1, .int x1), (2, .int x2), (3, .int x3)], [], M11)) (S2 := (152, [(0, .ref m0), (1, .int x1), (2, .int x2), (3, .int x3)], [], M11)) rfl rfl rfl (fun c_149 => ?_) (fun c_149 => ?_)
                · have c_149 : x1 = 0 := of_decide_eq_true c_149
                  refine ml_st (S' := (162, [(0, .ref m0), (1, .int x1), (2, .int x2), (3, .int x3)], [.ref m0], M11)) rfl rfl rfl ?_
                  refine rg_ref (S' := (165, [(0, .ref m0), (1, .int x1), (2, .int x2), (3, .int x3)], [.ref (q 31)], M11)) rfl hR13 rfl rfl ?_
                  refine ml_st (S' := (166, [(0, .ref m0), (1, .int x1), (2, .int x2), (3, .int x3)], [.int x2, .ref (q 31)], M11)) rfl rfl rfl ?_
                  have hx166 := hj_52.2.1 c_149
                  obtain ⟨v38, hv39⟩ := hfk x2.toNatClampNeg (by show x2.toInt.toNat < kf; omega) 31 (by decide)
                  refine ra_ld (k := 31) (S' := (167, [], [.int v38], M11)) rfl hR13 rfl (vin_lt hj_52.1 (by omega)) (hv39) rfl ?_
                  exact ml_ret rfl (rfl) (⟨_, _, _, rfl, hR13, (eqI.rf.put f15 (by decide)), eqR.rf⟩)
                · have c_149 : ¬ (x1 = 0) := of_decide_eq_false c_149
                  refine ml_st (S' := (153, [(0, .ref m0), (1, .int x1), (2, .int x2), (3, .int x3)], [.ref m0], M11)) rfl rfl rfl ?_
                  refine rg_ref (S' := (156, [(0, .ref m0), (1, .int x1), (2, .int x2), (3, .int x3)], [.ref (q 43)], M11)) rfl hR13 rfl rfl ?_
                  refine ml_st (S' := (157, [(0, .ref m0), (1, .int x1), (2, .int x2), (3, .int x3)], [.int x2, .ref (q 43)], M11)) rfl rfl rfl ?_
                  have hx157 := hj_52.2.2 c_149
                  obtain ⟨v40, hv41⟩ := (hmk x2.toNatClampNeg (by show x2.toInt.toNat < km; omega)).1 43 (by decide)
                  refine ra_ld (k := 43) (S' := (158, [(0, .ref m0), (1, .int x1), (2, .int x2), (3, .int x3)], [.int v40], M11)) rfl hR13 rfl (vin_lt hj_52.1 (by omega)) (hv41) rfl ?_
                  refine ml_st (S' := (167, [], [.int v40], M11)) rfl rfl rfl ?_
                  exact ml_ret rfl (rfl) (⟨_, _, _, rfl, hR13, (eqI.rf.put f15 (by decide)), eqR.rf⟩)
              · show ml _ _ _ (168, [(0, .ref m0), (1, .int x1), (2, .int x2), (3, .int x3)], [], M11) _
                refine ml_st (S' := (169, [(0, .ref m0), (1, .int x1), (2, .int x2), (3, .int x3)], [.int x1], M11)) rfl rfl rfl ?_
                refine ml_if (S1 := (181, [(0, .ref m0), (1, .int x1), (2, .int x2), (3, .int x3)], [], M11)) (S2 := (172, [(0, .ref m0), (1, .int x1), (2, .int x2), (3, .int x3)], [], M11)) rfl rfl rfl (fun c_169 => ?_) (fun c_169 => ?_)
                · have c_169 : x1 = 0 := of_decide_eq_true c_169
                  refine ml_st (S' := (182, [(0, .ref m0), (1, .int x1), (2, .int x2), (3, .int x3)], [.ref m0], M11)) rfl rfl rfl ?_
                  refine rg_ref (S' := (185, [(0, .ref m0), (1, .int x1), (2, .int x2), (3, .int x3)], [.ref (q 30)], M11)) rfl hR13 rfl rfl ?_
                  refine ml_st (S' := (186, [(0, .ref m0), (1, .int x1), (2, .int x2), (3, .int x3)], [.int x2, .ref (q 30)], M11)) rfl rfl rfl ?_
                  have hx186 := hj_52.2.1 c_169
                  obtain ⟨v42, hv43⟩ := hfk x2.toNatClampNeg (by show x2.toInt.toNat < kf; omega) 30 (by decide)
                  refine ra_ld (k := 30) (S' := (187, [], [.int v42], M11)) rfl hR13 rfl (vin_lt hj_52.1 (by omega)) (hv43) rfl ?_
                  exact ml_ret rfl (rfl) (⟨_, _, _, rfl, hR13, (eqI.rf.put f15 (by decide)), eqR.rf⟩)
                · have c_169 : ¬ (x1 = 0) := of_decide_eq_false c_169
                  refine ml_st (S' := (173, [(0, .ref m0), (1, .int x1), (2, .int x2), (3, .int x3)], [.ref m0], M11)) rfl rfl rfl ?_
                  refine rg_ref (S' := (176, [(0, .ref m0), (1, .int x1), (2, .int x2), (3, .int x3)], [.ref (q 38)], M11)) rfl hR13 rfl rfl ?_
                  refine ml_st (S' := (177, [(0, .ref m0), (1, .int x1), (2, .int x2), (3, .int x3)], [.int x2, .ref (q 38)], M11)) rfl rfl rfl ?_
                  have hx177 := hj_52.2.2 c_169
                  obtain ⟨v44, hv45⟩ := (hmk x2.toNatClampNeg (by show x2.toInt.toNat < km; omega)).1 38 (by decide)
                  refine ra_ld (k := 38) (S' := (178, [(0, .ref m0), (1, .int x1), (2, .int x2), (3, .int x3)], [.int v44], M11)) rfl hR13 rfl (vin_lt hj_52.1 (by omega)) (hv45) rfl ?_
                  refine ml_st (S' := (187, [], [.int v44], M11)) rfl rfl rfl ?_
                  exact ml_ret rfl (rfl) (⟨_, _, _, rfl, hR13, (eqI.rf.put f15 (by decide)), eqR.rf⟩)
              · show ml _ _ _ (188, [(0, .ref m0), (1, .int x1), (2, .int x2), (3, .int x3)], [], M11) _
                refine ml_st (S' := (189, [(0, .ref m0), (1, .int x1), (2, .int x2), (3, .int x3)], [.int x1], M11)) rfl rfl rfl ?_
                refine ml_if (S1 := (194, [(0, .ref m0), (1, .int x1), (2, .int x2), (3, .int x3)], [], M11)) (S2 := (192, [(0, .ref m0), (1, .int x1), (2, .int x2), (3, .int x3)], [], M11)) rfl rfl rfl (fun c_189 => ?_) (fun c_189 => ?_)
                · have c_189 : ¬ x1 = 0 := of_decide_eq_true c_189
                  refine ml_blk 2 (S' := (196, [(0, .ref m0), (1, .int x1), (2, .int x2), (3, .int x3)], [.int 5, .int x3], M11)) rfl ?_
                  refine ml_if2 (S1 := (208, [(0, .ref m0), (1, .int x1), (2, .int x2), (3, .int x3)], [], M11)) (S2 := (199, [(0, .ref m0), (1, .int x1), (2, .int x2), (3, .int x3)], [], M11)) rfl rfl rfl (fun c_196 => ?_) (fun c_196 => ?_)
                  · have c_196 : ¬ x3 = 5 := of_decide_eq_true c_196
                    refine ml_blk 2 (S' := (211, [(0, .ref m0), (1, .int x1), (2, .int x2), (3, .int x3)], [.int 6, .int x3], M11)) rfl ?_
                    refine ml_if2 (S1 := (223, [(0, .ref m0), (1, .int x1), (2, .int x2), (3, .int x3)], [], M11)) (S2 := (214, [(0, .ref m0), (1, .int x1), (2, .int x2), (3, .int x3)], [], M11)) rfl rfl rfl (fun c_211 => ?_) (fun c_211 => ?_)
                    · have c_211 : ¬ x3 = 6 := of_decide_eq_true c_211
                      refine ml_blk 2 (S' := (226, [(0, .ref m0), (1, .int x1), (2, .int x2), (3, .int x3)], [.int 7, .int x3], M11)) rfl ?_
                      refine ml_if2 (S1 := (238, [(0, .ref m0), (1, .int x1), (2, .int x2), (3, .int x3)], [], M11)) (S2 := (229, [(0, .ref m0), (1, .int x1), (2, .int x2), (3, .int x3)], [], M11)) rfl rfl rfl (fun c_226 => ?_) (fun c_226 => ?_)
                      · have c_226 : ¬ x3 = 7 := of_decide_eq_true c_226
                        refine ml_blk 2 (S' := (241, [(0, .ref m0), (1, .int x1), (2, .int x2), (3, .int x3)], [.int 8, .int x3], M11)) rfl ?_
                        refine ml_if2 (S1 := (275, [(0, .ref m0), (1, .int x1), (2, .int x2), (3, .int x3)], [], M11)) (S2 := (244, [(0, .ref m0), (1, .int x1), (2, .int x2), (3, .int x3)], [], M11)) rfl rfl rfl (fun c_241 => ?_) (fun c_241 => ?_)
                        · have c_241 : ¬ x3 = 8 := of_decide_eq_true c_241
                          refine ml_st (S' := (276, [(0, .ref m0), (1, .int x1), (2, .int x2), (3, .int x3)], [.ref m0], M11)) rfl rfl rfl ?_
                          refine rg_ref (S' := (279, [(0, .ref m0), (1, .int x1), (2, .int x2), (3, .int x3)], [.ref (q 44)], M11)) rfl hR13 rfl rfl ?_
                          refine ml_st (S' := (280, [(0, .ref m0), (1, .int x1), (2, .int x2), (3, .int x3)], [.int x2, .ref (q 44)], M11)) rfl rfl rfl ?_
                          have hx280 := hj_52.2.2 c_189
                          obtain ⟨v46, hv47⟩ := (hmk x2.toNatClampNeg (by show x2.toInt.toNat < km; omega)).1 44 (by decide)
                          refine ra_ld (k := 44) (S' := (281, [], [.int v46], M11)) rfl hR13 rfl (vin_lt hj_52.1 (by omega)) (hv47) rfl ?_
                          exact ml_ret rfl (rfl) (⟨_, _, _, rfl, hR13, (eqI.rf.put f15 (by decide)), eqR.rf⟩)
                        · have c_241 : ¬ (¬ x3 = 8) := of_decide_eq_false c_241
                          refine ml_blk 2 (S' := (246, [(0, .ref m0), (1, .int x1), (2, .int x2), (3, .int x3)], [.ref m0, .ref m0], M11)) rfl ?_
                          refine rg_ref (S' := (249, [(0, .ref m0), (1, .int x1), (2, .int x2), (3, .int x3)], [.ref (q 36), .ref m0], M11)) rfl hR13 rfl rfl ?_
                          refine ml_st (S' := (250, [(0, .ref m0), (1, .int x1), (2, .int x2), (3, .int x3)], [.int x2, .ref (q 36), .ref m0], M11)) rfl rfl rfl ?_
                          have hx250 := hj_52.2.2 c_189
                          obtain ⟨v48, hv49, hd0, hd1, hmt⟩ := (hmk x2.toNatClampNeg (by show x2.toInt.toNat < km; omega)).2.2
                          refine ra_ld (k := 36) (S' := (251, [(0, .ref m0), (1, .int x1), (2, .int x2), (3, .int x3)], [.int v48, .ref m0], M11)) rfl hR13 rfl (vin_lt hj_52.1 (by omega)) (hv49) rfl ?_
                          have hY50 : SK S cN sa sl ch I12 R := (hY0.mono (pIx f15 (by decide)) (fun _ _ => rfl))
                          refine ml_call (a := [.ref m0, .int v48]) (rest := []) rfl (hR13.okc rfl rfl rfl) rfl rfl (rm_places0 hR13 hY50 (hd0) (hd1) (hmt.1) (by omega)) (fun v51 M52 h53 => ?_)
                          obtain ⟨⟨u54, rfl⟩, h53⟩ := h53
                          rw [h53]
                          show ml _ _ _ (254, [(0, .ref m0), (1, .int x1), (2, .int x2), (3, .int x3)], [.int u54], M11) _
                          refine ml_st (S' := (255, [(0, .ref m0), (1, .int x1), (2, .int x2), (3, .int x3)], [.ref m0, .int u54], M11)) rfl rfl rfl ?_
                          refine rg_ref (S' := (258, [(0, .ref m0), (1, .int x1), (2, .int x2), (3, .int x3)], [.ref (q 34), .int u54], M11)) rfl hR13 rfl rfl ?_
                          refine ml_st (S' := (259, [(0, .ref m0), (1, .int x1), (2, .int x2), (3, .int x3)], [.int x2, .ref (q 34), .int u54], M11)) rfl rfl rfl ?_
                          have hx259 := hj_52.2.2 c_189
                          obtain ⟨v55, hv56⟩ := (hmk x2.toNatClampNeg (by show x2.toInt.toNat < km; omega)).1 34 (by decide)
                          refine ra_ld (k := 34) (S' := (260, [(0, .ref m0), (1, .int x1), (2, .int x2), (3, .int x3)], [.int v55, .int u54], M11)) rfl hR13 rfl (vin_lt hj_52.1 (by omega)) (hv56) rfl ?_
                          refine ml_blk 2 (S' := (263, [(0, .ref m0), (1, .int x1), (2, .int x2), (3, .int x3)], [.int (v55 &&& 8), .int u54], M11)) rfl ?_
                          refine ml_if (S1 := (270, [(0, .ref m0), (1, .int x1), (2, .int x2), (3, .int x3)], [.int u54], M11)) (S2 := (266, [(0, .ref m0), (1, .int x1), (2, .int x2), (3, .int x3)], [.int u54], M11)) rfl rfl rfl (fun c_263 => ?_) (fun c_263 => ?_)
                          · have c_263 : ¬ (v55 &&& 8) = 0 := of_decide_eq_true c_263
                            refine ml_st (S' := (271, [], [.int 0, .int u54], M11)) rfl rfl rfl ?_
                            refine ml_st (S' := (272, [], [.int (u54 + 0)], M11)) rfl rfl rfl ?_
                            refine ml_st (S' := (281, [], [.int (u54 + 0)], M11)) rfl rfl rfl ?_
                            exact ml_ret rfl (rfl) (⟨_, _, _, rfl, hR13, (eqI.rf.put f15 (by decide)), eqR.rf⟩)
                          · have c_263 : ¬ (¬ (v55 &&& 8) = 0) := of_decide_eq_false c_263
                            refine ml_st (S' := (267, [(0, .ref m0), (1, .int x1), (2, .int x2), (3, .int x3)], [.int 1, .int u54], M11)) rfl rfl rfl ?_
                            refine ml_st (S' := (271, [], [.int 1, .int u54], M11)) rfl rfl rfl ?_
                            refine ml_st (S' := (272, [], [.int (u54 + 1)], M11)) rfl rfl rfl ?_
                            refine ml_st (S' := (281, [], [.int (u54 + 1)], M11)) rfl rfl rfl ?_
                            exact ml_ret rfl (rfl) (⟨_, _, _, rfl, hR13, (eqI.rf.put f15 (by decide)), eqR.rf⟩)
                      · have c_226 : ¬ (¬ x3 = 7) := of_decide_eq_false c_226
                        refine ml_st (S' := (230, [(0, .ref m0), (1, .int x1), (2, .int x2), (3, .int x3)], [.ref m0], M11)) rfl rfl rfl ?_
                        refine rg_ref (S' := (233, [(0, .ref m0), (1, .int x1), (2, .int x2), (3, .int x3)], [.ref (q 42)], M11)) rfl hR13 rfl rfl ?_
                        refine ml_st (S' := (234, [(0, .ref m0), (1, .int x1), (2, .int x2), (3, .int x3)], [.int x2, .ref (q 42)], M11)) rfl rfl rfl ?_
                        have hx234 := hj_52.2.2 c_189
                        obtain ⟨v57, hv58⟩ := (hmk x2.toNatClampNeg (by show x2.toInt.toNat < km; omega)).1 42 (by decide)
                        refine ra_ld (k := 42) (S' := (235, [(0, .ref m0), (1, .int x1), (2, .int x2), (3, .int x3)], [.int v57], M11)) rfl hR13 rfl (vin_lt hj_52.1 (by omega)) (hv58) rfl ?_
                        refine ml_st (S' := (281, [], [.int v57], M11)) rfl rfl rfl ?_
                        exact ml_ret rfl (rfl) (⟨_, _, _, rfl, hR13, (eqI.rf.put f15 (by decide)), eqR.rf⟩)
                    · have c_211 : ¬ (¬ x3 = 6) := of_decide_eq_false c_211
                      refine ml_st (S' := (215, [(0, .ref m0), (1, .int x1), (2, .int x2), (3, .int x3)], [.ref m0], M11)) rfl rfl rfl ?_
                      refine rg_ref (S' := (218, [(0, .ref m0), (1, .int x1), (2, .int x2), (3, .int x3)], [.ref (q 40)], M11)) rfl hR13 rfl rfl ?_
                      refine ml_st (S' := (219, [(0, .ref m0), (1, .int x1), (2, .int x2), (3, .int x3)], [.int x2, .ref (q 40)], M11)) rfl rfl rfl ?_
                      have hx219 := hj_52.2.2 c_189
                      obtain ⟨v59, hv60⟩ := (hmk x2.toNatClampNeg (by show x2.toInt.toNat < km; omega)).1 40 (by decide)
                      refine ra_ld (k := 40) (S' := (220, [(0, .ref m0), (1, .int x1), (2, .int x2), (3, .int x3)], [.int v59], M11)) rfl hR13 rfl (vin_lt hj_52.1 (by omega)) (hv60) rfl ?_
                      refine ml_st (S' := (281, [], [.int v59], M11)) rfl rfl rfl ?_
                      exact ml_ret rfl (rfl) (⟨_, _, _, rfl, hR13, (eqI.rf.put f15 (by decide)), eqR.rf⟩)
                  · have c_196 : ¬ (¬ x3 = 5) := of_decide_eq_false c_196
                    refine ml_st (S' := (200, [(0, .ref m0), (1, .int x1), (2, .int x2), (3, .int x3)], [.ref m0], M11)) rfl rfl rfl ?_
                    refine rg_ref (S' := (203, [(0, .ref m0), (1, .int x1), (2, .int x2), (3, .int x3)], [.ref (q 39)], M11)) rfl hR13 rfl rfl ?_
                    refine ml_st (S' := (204, [(0, .ref m0), (1, .int x1), (2, .int x2), (3, .int x3)], [.int x2, .ref (q 39)], M11)) rfl rfl rfl ?_
                    have hx204 := hj_52.2.2 c_189
                    obtain ⟨v61, hv62⟩ := (hmk x2.toNatClampNeg (by show x2.toInt.toNat < km; omega)).1 39 (by decide)
                    refine ra_ld (k := 39) (S' := (205, [(0, .ref m0), (1, .int x1), (2, .int x2), (3, .int x3)], [.int v61], M11)) rfl hR13 rfl (vin_lt hj_52.1 (by omega)) (hv62) rfl ?_
                    refine ml_st (S' := (281, [], [.int v61], M11)) rfl rfl rfl ?_
                    exact ml_ret rfl (rfl) (⟨_, _, _, rfl, hR13, (eqI.rf.put f15 (by decide)), eqR.rf⟩)
                · have c_189 : ¬ (¬ x1 = 0) := of_decide_eq_false c_189
                  refine ml_st (S' := (193, [(0, .ref m0), (1, .int x1), (2, .int x2), (3, .int x3)], [.int 0], M11)) rfl rfl rfl ?_
                  exact ml_ret rfl (rfl) (⟨_, _, _, rfl, hR13, (eqI.rf.put f15 (by decide)), eqR.rf⟩)
            · have c_47 : ¬ (x2 < s47_0) := of_decide_eq_false c_47
              refine ml_st (S' := (51, [], [.int (-1)], M11)) rfl rfl rfl ?_
              exact ml_ret rfl (rfl) (⟨_, _, _, rfl, hR13, (eqI.rf.put f15 (by decide)), eqR.rf⟩)
          refine ml_if (S1 := (43, [(0, .ref m0), (1, .int x1), (2, .int x2), (3, .int x3)], [.int x2], M11)) (S2 := (36, [(0, .ref m0), (1, .int x1), (2, .int x2), (3, .int x3)], [.int x2], M11)) rfl rfl rfl (fun c_33 => ?_) (fun c_33 => ?_)
          · have c_33 : x1 = 0 := of_decide_eq_true c_33
            refine ml_st (S' := (44, [(0, .ref m0), (1, .int x1), (2, .int x2), (3, .int x3)], [.ref m0, .int x2], M11)) rfl rfl rfl ?_
            refine rg_int (S' := (47, [(0, .ref m0), (1, .int x1), (2, .int x2), (3, .int x3)], [.int (nI kf), .int x2], M11)) rfl hR13 rfl ((f15 25 (by decide)).trans (kq25)) rfl ?_
            exact J_47 (nI kf) (⟨fun e => by first | exact absurd e c_33 | rfl, fun e => by first | exact absurd c_33 e | rfl⟩)
          · have c_33 : ¬ (x1 = 0) := of_decide_eq_false c_33
            refine ml_st (S' := (37, [(0, .ref m0), (1, .int x1), (2, .int x2), (3, .int x3)], [.ref m0, .int x2], M11)) rfl rfl rfl ?_
            refine rg_int (S' := (40, [(0, .ref m0), (1, .int x1), (2, .int x2), (3, .int x3)], [.int (nI km), .int x2], M11)) rfl hR13 rfl ((f15 26 (by decide)).trans (kq26)) rfl ?_
            refine ml_st (S' := (47, [(0, .ref m0), (1, .int x1), (2, .int x2), (3, .int x3)], [.int (nI km), .int x2], M11)) rfl rfl rfl ?_
            exact J_47 (nI km) (⟨fun e => by first | exact absurd e c_33 | rfl, fun e => by first | exact absurd c_33 e | rfl⟩)
    · have c_12 : ¬ (x3 ≤ 9) := of_decide_eq_false c_12
      refine ml_st (S' := (16, [(0, .ref m0)], [.ref m0], M11)) rfl rfl rfl ?_
      refine ml_call (a := [.ref m0]) (rest := []) rfl (hR13.okc rfl rfl rfl) rfl rfl (rm_bad hR13 (by omega)) (fun v63 M64 h65 => ?_)
      obtain ⟨u71, I66, R67, rfl, hR68, hI69, hV70, w72⟩ := h65
      show ml _ _ _ (19, [(0, .ref m0)], [.int u71], M64) _
      exact ml_ret rfl (rfl) (⟨_, _, _, rfl, hR68, ((eqI.rf.put f15 (by decide)).tr hI69 (by decide)), (eqR.rf.tr hV70 (by decide))⟩)
end
section
set_option maxHeartbeats 2000000 in
theorem rm_find {g : xe_G}  {m0 : Nat} {q : Nat → Nat} {z : Nat × Nat} {I : rI} {R : rR} {M : mi_H} {x1 x2 x3 kn : Int32} {n : Nat} {f : Nat → Int32}  (hR : RS g m0 q z I R M) (hk18 : I 18 = some kn) (hG : (kn < 0 ∨ GD n f I R)) {d : Nat} (hd : 3 ≤ d) : mt (mT g) d 207 [.ref m0, .int x1, .int x2, .int x3] M (fun v M' => ∃ (x : Int32) (I' : rI) (R' : rR), v = some (.int x) ∧ RS g m0 q z I' R' M' ∧ eqI [0] I I' ∧ eqR [] R R') := by
  obtain ⟨d, rfl⟩ : ∃ e, d = e + 1 := ⟨d - 1, by omega⟩
  refine mt_in (b := mb_207 g) rfl rfl ?_
  show ml (mT g) d (mb_207 g).2 (0, [(0, .ref m0), (1, .int x1), (2, .int x2), (3, .int x3)], [], M) _
  refine ml_blk 2 (S' := (2, [(0, .ref m0), (1, .int x1), (2, .int x2), (3, .int x3)], [.int 0, .ref m0], M)) rfl ?_
  refine rp_int rfl hR rfl (fun M11 I12 hR13 e14 f15 => ?_)
  show ml _ _ _ (5, [(0, .ref m0), (1, .int x1), (2, .int x2), (3, .int x3)], [], M11) _
  refine ml_st (S' := (6, [(0, .ref m0), (1, .int x1), (2, .int x2), (3, .int x3)], [.ref m0], M11)) rfl rfl rfl ?_
  refine rg_int (S' := (9, [(0, .ref m0), (1, .int x1), (2, .int x2), (3, .int x3)], [.int kn], M11)) rfl hR13 rfl ((f15 18 (by decide)).trans (hk18)) rfl ?_
  refine ml_if (S1 := (30, [], [], M11)) (S2 := (12, [(0, .ref m0), (1, .int x1), (2, .int x2), (3, .int x3)], [], M11)) rfl rfl rfl (fun c_9 => ?_) (fun c_9 => ?_)
  · have c_9 : kn < 0 := of_decide_eq_true c_9
    refine ml_st (S' := (31, [], [.int (-1)], M11)) rfl rfl rfl ?_
    exact ml_ret rfl (rfl) (⟨_, _, _, rfl, hR13, (eqI.rf.put f15 (by decide)), eqR.rf⟩)
  · have c_9 : ¬ (kn < 0) := of_decide_eq_false c_9
    obtain ⟨S, cN, sa, sl, ch, cp, mj, pa, py, hA, fA, mA, aA, nf, ni, kf, km, hF0, hY0, hP0, hE0, hFO, kq54, kq58, kq61, hkf, kq25, hfk, hkm, kq26, hmk, hNW⟩ := hG.resolve_left (c_9)
    have hn := hF0.1
    refine ml_blk 2 (S' := (14, [(0, .ref m0), (1, .int x1), (2, .int x2), (3, .int x3)], [.int x2, .ref m0], M11)) rfl ?_
    have hF16 : FK n f I12 R := (hF0.mono (pIx f15 (by decide)) (fun _ _ => rfl))
    have hP17 : PK n f S cp mj pa py I12 R := (hP0.mono (pIx f15 (by decide)) (fun _ _ => rfl))
    refine ml_call (a := [.ref m0, .int x2]) (rest := []) rfl (hR13.okc rfl rfl rfl) rfl rfl (rm_tag hR13 hF16 hP17 (by omega)) (fun v18 M19 h20 => ?_)
    obtain ⟨rfl, h20⟩ := h20
    rw [h20]
    show ml _ _ _ (17, [(0, .ref m0), (1, .int x1), (2, .int x2), (3, .int x3)], [.int (tgf f cp pa x2)], M11) _
    refine ml_st (S' := (18, [(0, .ref m0), (1, .int x1), (2, .int x2), (3, .int x3)], [.int 1, .int (tgf f cp pa x2)], M11)) rfl rfl rfl ?_
    refine ml_if2 (S1 := (30, [], [], M11)) (S2 := (21, [(0, .ref m0), (1, .int x1), (2, .int x2), (3, .int x3)], [], M11)) rfl rfl rfl (fun c_18 => ?_) (fun c_18 => ?_)
    · have c_18 : ¬ (tgf f cp pa x2) = 1 := of_decide_eq_true c_18
      refine ml_st (S' := (31, [], [.int (-1)], M11)) rfl rfl rfl ?_
      exact ml_ret rfl (rfl) (⟨_, _, _, rfl, hR13, (eqI.rf.put f15 (by decide)), eqR.rf⟩)
    · have c_18 : ¬ (¬ (tgf f cp pa x2) = 1) := of_decide_eq_false c_18
      refine ml_blk 2 (S' := (23, [(0, .ref m0), (1, .int x1), (2, .int x2), (3, .int x3)], [.int x3, .ref m0], M11)) rfl ?_
      refine ml_call (a := [.ref m0, .int x3]) (rest := []) rfl (hR13.okc rfl rfl rfl) rfl rfl (rm_tag hR13 hF16 hP17 (by omega)) (fun v21 M22 h23 => ?_)
      obtain ⟨rfl, h23⟩ := h23
      rw [h23]
      show ml _ _ _ (26, [(0, .ref m0), (1, .int x1), (2, .int x2), (3, .int x3)], [.int (tgf f cp pa x3)], M11) _
      refine ml_st (S' := (27, [(0, .ref m0), (1, .int x1), (2, .int x2), (3, .int x3)], [.int 1, .int (tgf f cp pa x3)], M11)) rfl rfl rfl ?_
      refine ml_if2 (S1 := (32, [(0, .ref m0), (1, .int x1), (2, .int x2), (3, .int x3)], [], M11)) (S2 := (30, [], [], M11)) rfl rfl rfl (fun c_27 => ?_) (fun c_27 => ?_)
      · have c_27 : (tgf f cp pa x3) = 1 := of_decide_eq_true c_27
        refine ml_blk 2 (S' := (34, [(0, .ref m0), (1, .int x1), (2, .int x2), (3, .int x3)], [.int x2, .ref m0], M11)) rfl ?_
        refine ml_call (a := [.ref m0, .int x2]) (rest := []) rfl (hR13.okc rfl rfl rfl) rfl rfl (rm_symOf hR13 hP17 (Decidable.not_not.mp c_18) (by omega)) (fun v24 M25 h26 => ?_)
        obtain ⟨rfl, h26⟩ := h26
        rw [h26]
        show ml _ _ _ (37, [(0, .ref m0), (1, .int x1), (2, .int x2), (3, .int x3)], [.int (pyf py x2)], M11) _
        refine ml_st (S' := (39, [(4, .int (pyf py x2)), (0, .ref m0), (1, .int x1), (2, .int x2), (3, .int x3)], [], M11)) rfl rfl rfl ?_
        refine ml_blk 2 (S' := (41, [(4, .int (pyf py x2)), (0, .ref m0), (1, .int x1), (2, .int x2), (3, .int x3)], [.int x3, .ref m0], M11)) rfl ?_
        refine ml_call (a := [.ref m0, .int x3]) (rest := []) rfl (hR13.okc rfl rfl rfl) rfl rfl (rm_symOf hR13 hP17 (c_27) (by omega)) (fun v27 M28 h29 => ?_)
        obtain ⟨rfl, h29⟩ := h29
        rw [h29]
        show ml _ _ _ (44, [(4, .int (pyf py x2)), (0, .ref m0), (1, .int x1), (2, .int x2), (3, .int x3)], [.int (pyf py x3)], M11) _
        refine ml_st (S' := (46, [(5, .int (pyf py x3)), (4, .int (pyf py x2)), (0, .ref m0), (1, .int x1), (2, .int x2), (3, .int x3)], [], M11)) rfl rfl rfl ?_
        refine ml_st (S' := (47, [(5, .int (pyf py x3)), (4, .int (pyf py x2)), (0, .ref m0), (1, .int x1), (2, .int x2), (3, .int x3)], [.int 0], M11)) rfl rfl rfl ?_
        refine ml_st (S' := (49, [(0, .ref m0), (1, .int x1), (4, .int (pyf py x2)), (5, .int (pyf py x3)), (6, .int 0)], [], M11)) rfl rfl rfl ?_
        have L_49 : ∀ (n_49 : Nat) (i49_6 : Int32), (2147483648 - i49_6.toInt).toNat ≤ n_49 → 0 ≤ i49_6.toInt → ml (mT g) d (mb_207 g).2 (49, [(0, .ref m0), (1, .int x1), (4, .int (pyf py x2)), (5, .int (pyf py x3)), (6, .int i49_6)], [], M11) (fun v M' => ∃ (x : Int32) (I' : rI) (R' : rR), v = some (.int x) ∧ RS g m0 q z I' R' M' ∧ eqI [0] I I' ∧ eqR [] R R') := by
          intro n_49
          induction n_49 with
          | zero => intro i49_6 hn; exact (loop_zero hn).elim
          | succ n_49 ih_49 =>
            intro i49_6 hn_49 hi_49
            refine ml_blk 2 (S' := (52, [(0, .ref m0), (1, .int x1), (4, .int (pyf py x2)), (5, .int (pyf py x3)), (6, .int i49_6)], [.int x1, .int i49_6], M11)) rfl ?_
            have J_66 : ∀ (s66_0 : Int32), ((x1 = 0 → s66_0 = nI kf) ∧ (¬ x1 = 0 → s66_0 = nI km)) → ml (mT g) d (mb_207 g).2 (66, [(0, .ref m0), (1, .int x1), (4, .int (pyf py x2)), (5, .int (pyf py x3)), (6, .int i49_6)], [.int s66_0, .int i49_6], M11) (fun v M' => ∃ (x : Int32) (I' : rI) (R' : rR), v = some (.int x) ∧ RS g m0 q z I' R' M' ∧ eqI [0] I I' ∧ eqR [] R R') := by
              intro s66_0 hj_66
              refine ml_if2 (S1 := (130, [(0, .ref m0), (1, .int x1), (4, .int (pyf py x2)), (5, .int (pyf py x3)), (6, .int i49_6)], [], M11)) (S2 := (69, [(0, .ref m0), (1, .int x1), (4, .int (pyf py x2)), (5, .int (pyf py x3)), (6, .int i49_6)], [], M11)) rfl rfl rfl (fun c_66 => ?_) (fun c_66 => ?_)
              · have c_66 : s66_0 ≤ i49_6 := of_decide_eq_true c_66
                refine ml_st (S' := (131, [(0, .ref m0), (1, .int x1), (4, .int (pyf py x2)), (5, .int (pyf py x3)), (6, .int i49_6)], [.int (-1)], M11)) rfl rfl rfl ?_
                exact ml_ret rfl (rfl) (⟨_, _, _, rfl, hR13, (eqI.rf.put f15 (by decide)), eqR.rf⟩)
              · have c_66 : ¬ (s66_0 ≤ i49_6) := of_decide_eq_false c_66
                have hj_69 : ((x1 = 0 → i49_6.toInt < kf) ∧ (¬ x1 = 0 → i49_6.toInt < km) ∧ i49_6 < 8192) := by rcases Decidable.em (x1 = 0) with e | e; (have q := hj_66.1 e ▸ Int32.not_le.mp c_66; exact ⟨fun _ => i_ltn q hkf, fun e2 => absurd e e2, i_lt8 q hkf⟩); (have q := hj_66.2 e ▸ Int32.not_le.mp c_66; exact ⟨fun e2 => absurd e2 e, fun _ => i_ltn q hkm, i_lt8 q hkm⟩)
                refine ml_st (S' := (70, [(0, .ref m0), (1, .int x1), (4, .int (pyf py x2)), (5, .int (pyf py x3)), (6, .int i49_6)], [.int x1], M11)) rfl rfl rfl ?_
                refine ml_if (S1 := (83, [(0, .ref m0), (1, .int x1), (4, .int (pyf py x2)), (5, .int (pyf py x3)), (6, .int i49_6)], [], M11)) (S2 := (73, [(0, .ref m0), (1, .int x1), (4, .int (pyf py x2)), (5, .int (pyf py x3)), (6, .int i49_6)], [], M11)) rfl rfl rfl (fun c_70 => ?_) (fun c_70 => ?_)
                · have c_70 : x1 = 0 := of_decide_eq_true c_70
                  refine ml_st (S' := (84, [(0, .ref m0), (1, .int x1), (4, .int (pyf py x2)), (5, .int (pyf py x3)), (6, .int i49_6)], [.ref m0], M11)) rfl rfl rfl ?_
                  refine rg_ref (S' := (87, [(0, .ref m0), (1, .int x1), (4, .int (pyf py x2)), (5, .int (pyf py x3)), (6, .int i49_6)], [.ref (q 28)], M11)) rfl hR13 rfl rfl ?_
                  refine ml_st (S' := (89, [(0, .ref m0), (1, .int x1), (4, .int (pyf py x2)), (5, .int (pyf py x3)), (6, .int i49_6)], [.int i49_6, .ref (q 28)], M11)) rfl rfl rfl ?_
                  have hx89 := hj_69.1 c_70
                  obtain ⟨v30, hv31⟩ := hfk i49_6.toNatClampNeg (by show i49_6.toInt.toNat < kf; omega) 28 (by decide)
                  refine ra_ld (k := 28) (S' := (90, [(0, .ref m0), (1, .int x1), (4, .int (pyf py x2)), (5, .int (pyf py x3)), (6, .int i49_6)], [.int v30], M11)) rfl hR13 rfl (vin_lt hi_49 (by omega)) (hv31) rfl ?_
                  refine ml_st (S' := (92, [(0, .ref m0), (1, .int x1), (4, .int (pyf py x2)), (5, .int (pyf py x3)), (6, .int i49_6)], [.int (pyf py x2), .int v30], M11)) rfl rfl rfl ?_
                  refine ml_if2 (S1 := (124, [(0, .ref m0), (1, .int x1), (4, .int (pyf py x2)), (5, .int (pyf py x3)), (6, .int i49_6)], [], M11)) (S2 := (95, [(0, .ref m0), (1, .int x1), (4, .int (pyf py x2)), (5, .int (pyf py x3)), (6, .int i49_6)], [], M11)) rfl rfl rfl (fun c_92 => ?_) (fun c_92 => ?_)
                  · have c_92 : ¬ v30 = (pyf py x2) := of_decide_eq_true c_92
                    refine ml_st (S' := (127, [(6, .int (i49_6 + 1)), (0, .ref m0), (1, .int x1), (4, .int (pyf py x2)), (5, .int (pyf py x3))], [], M11)) rfl rfl rfl ?_
                    refine ml_st (S' := (49, [(0, .ref m0), (1, .int x1), (4, .int (pyf py x2)), (5, .int (pyf py x3)), (6, .int (i49_6 + 1))], [], M11)) rfl rfl rfl ?_
                    exact ih_49 (i49_6 + 1) (loop_inc hj_69.2.2 hn_49) (by rw [inc_lt hj_69.2.2]; omega)
                  · have c_92 : ¬ (¬ v30 = (pyf py x2)) := of_decide_eq_false c_92
                    refine ml_st (S' := (96, [(0, .ref m0), (1, .int x1), (4, .int (pyf py x2)), (5, .int (pyf py x3)), (6, .int i49_6)], [.int x1], M11)) rfl rfl rfl ?_
                    refine ml_if (S1 := (109, [(0, .ref m0), (1, .int x1), (4, .int (pyf py x2)), (5, .int (pyf py x3)), (6, .int i49_6)], [], M11)) (S2 := (99, [(0, .ref m0), (1, .int x1), (4, .int (pyf py x2)), (5, .int (pyf py x3)), (6, .int i49_6)], [], M11)) rfl rfl rfl (fun c_96 => ?_) (fun c_96 => ?_)
                    · have c_96 : x1 = 0 := of_decide_eq_true c_96
                      refine ml_st (S' := (110, [(0, .ref m0), (1, .int x1), (4, .int (pyf py x2)), (5, .int (pyf py x3)), (6, .int i49_6)], [.ref m0], M11)) rfl rfl rfl ?_
                      refine rg_ref (S' := (113, [(0, .ref m0), (1, .int x1), (4, .int (pyf py x2)), (5, .int (pyf py x3)), (6, .int i49_6)], [.ref (q 29)], M11)) rfl hR13 rfl rfl ?_
                      refine ml_st (S' := (115, [(0, .ref m0), (1, .int x1), (4, .int (pyf py x2)), (5, .int (pyf py x3)), (6, .int i49_6)], [.int i49_6, .ref (q 29)], M11)) rfl rfl rfl ?_
                      have hx115 := hj_69.1 c_96
                      obtain ⟨v32, hv33⟩ := hfk i49_6.toNatClampNeg (by show i49_6.toInt.toNat < kf; omega) 29 (by decide)
                      refine ra_ld (k := 29) (S' := (116, [(0, .ref m0), (1, .int x1), (4, .int (pyf py x2)), (5, .int (pyf py x3)), (6, .int i49_6)], [.int v32], M11)) rfl hR13 rfl (vin_lt hi_49 (by omega)) (hv33) rfl ?_
                      refine ml_st (S' := (118, [(0, .ref m0), (1, .int x1), (4, .int (pyf py x2)), (5, .int (pyf py x3)), (6, .int i49_6)], [.int (pyf py x3), .int v32], M11)) rfl rfl rfl ?_
                      refine ml_if2 (S1 := (124, [(0, .ref m0), (1, .int x1), (4, .int (pyf py x2)), (5, .int (pyf py x3)), (6, .int i49_6)], [], M11)) (S2 := (121, [(0, .ref m0), (1, .int x1), (4, .int (pyf py x2)), (5, .int (pyf py x3)), (6, .int i49_6)], [], M11)) rfl rfl rfl (fun c_118 => ?_) (fun c_118 => ?_)
                      · have c_118 : ¬ v32 = (pyf py x3) := of_decide_eq_true c_118
                        refine ml_st (S' := (127, [(6, .int (i49_6 + 1)), (0, .ref m0), (1, .int x1), (4, .int (pyf py x2)), (5, .int (pyf py x3))], [], M11)) rfl rfl rfl ?_
                        refine ml_st (S' := (49, [(0, .ref m0), (1, .int x1), (4, .int (pyf py x2)), (5, .int (pyf py x3)), (6, .int (i49_6 + 1))], [], M11)) rfl rfl rfl ?_
                        exact ih_49 (i49_6 + 1) (loop_inc hj_69.2.2 hn_49) (by rw [inc_lt hj_69.2.2]; omega)
                      · have c_118 : ¬ (¬ v32 = (pyf py x3)) := of_decide_eq_false c_118
                        refine ml_st (S' := (123, [(0, .ref m0), (1, .int x1), (4, .int (pyf py x2)), (5, .int (pyf py x3)), (6, .int i49_6)], [.int i49_6], M11)) rfl rfl rfl ?_
                        exact ml_ret rfl (rfl) (⟨_, _, _, rfl, hR13, (eqI.rf.put f15 (by decide)), eqR.rf⟩)
                    · have c_96 : ¬ (x1 = 0) := of_decide_eq_false c_96
                      refine ml_st (S' := (100, [(0, .ref m0), (1, .int x1), (4, .int (pyf py x2)), (5, .int (pyf py x3)), (6, .int i49_6)], [.ref m0], M11)) rfl rfl rfl ?_
                      refine rg_ref (S' := (103, [(0, .ref m0), (1, .int x1), (4, .int (pyf py x2)), (5, .int (pyf py x3)), (6, .int i49_6)], [.ref (q 36)], M11)) rfl hR13 rfl rfl ?_
                      refine ml_st (S' := (105, [(0, .ref m0), (1, .int x1), (4, .int (pyf py x2)), (5, .int (pyf py x3)), (6, .int i49_6)], [.int i49_6, .ref (q 36)], M11)) rfl rfl rfl ?_
                      have hx105 := hj_69.2.1 c_96
                      obtain ⟨v34, hv35, -⟩ := (hmk i49_6.toNatClampNeg (by show i49_6.toInt.toNat < km; omega)).2.2
                      refine ra_ld (k := 36) (S' := (106, [(0, .ref m0), (1, .int x1), (4, .int (pyf py x2)), (5, .int (pyf py x3)), (6, .int i49_6)], [.int v34], M11)) rfl hR13 rfl (vin_lt hi_49 (by omega)) (hv35) rfl ?_
                      refine ml_st (S' := (116, [(0, .ref m0), (1, .int x1), (4, .int (pyf py x2)), (5, .int (pyf py x3)), (6, .int i49_6)], [.int v34], M11)) rfl rfl rfl ?_
                      refine ml_st (S' := (118, [(0, .ref m0), (1, .int x1), (4, .int (pyf py x2)), (5, .int (pyf py x3)), (6, .int i49_6)], [.int (pyf py x3), .int v34], M11)) rfl rfl rfl ?_
                      refine ml_if2 (S1 := (124, [(0, .ref m0), (1, .int x1), (4, .int (pyf py x2)), (5, .int (pyf py x3)), (6, .int i49_6)], [], M11)) (S2 := (121, [(0, .ref m0), (1, .int x1), (4, .int (pyf py x2)), (5, .int (pyf py x3)), (6, .int i49_6)], [], M11)) rfl rfl rfl (fun c_118 => ?_) (fun c_118 => ?_)
                      · have c_118 : ¬ v34 = (pyf py x3) := of_decide_eq_true c_118
                        refine ml_st (S' := (127, [(6, .int (i49_6 + 1)), (0, .ref m0), (1, .int x1), (4, .int (pyf py x2)), (5, .int (pyf py x3))], [], M11)) rfl rfl rfl ?_
                        refine ml_st (S' := (49, [(0, .ref m0), (1, .int x1), (4, .int (pyf py x2)), (5, .int (pyf py x3)), (6, .int (i49_6 + 1))], [], M11)) rfl rfl rfl ?_
                        exact ih_49 (i49_6 + 1) (loop_inc hj_69.2.2 hn_49) (by rw [inc_lt hj_69.2.2]; omega)
                      · have c_118 : ¬ (¬ v34 = (pyf py x3)) := of_decide_eq_false c_118
                        refine ml_st (S' := (123, [(0, .ref m0), (1, .int x1), (4, .int (pyf py x2)), (5, .int (pyf py x3)), (6, .int i49_6)], [.int i49_6], M11)) rfl rfl rfl ?_
                        exact ml_ret rfl (rfl) (⟨_, _, _, rfl, hR13, (eqI.rf.put f15 (by decide)), eqR.rf⟩)
                · have c_70 : ¬ (x1 = 0) := of_decide_eq_false c_70
                  refine ml_st (S' := (74, [(0, .ref m0), (1, .int x1), (4, .int (pyf py x2)), (5, .int (pyf py x3)), (6, .int i49_6)], [.ref m0], M11)) rfl rfl rfl ?_
                  refine rg_ref (S' := (77, [(0, .ref m0), (1, .int x1), (4, .int (pyf py x2)), (5, .int (pyf py x3)), (6, .int i49_6)], [.ref (q 35)], M11)) rfl hR13 rfl rfl ?_
                  refine ml_st (S' := (79, [(0, .ref m0), (1, .int x1), (4, .int (pyf py x2)), (5, .int (pyf py x3)), (6, .int i49_6)], [.int i49_6, .ref (q 35)], M11)) rfl rfl rfl ?_
                  have hx79 := hj_69.2.1 c_70
                  obtain ⟨v36, hv37⟩ := (hmk i49_6.toNatClampNeg (by show i49_6.toInt.toNat < km; omega)).1 35 (by decide)
                  refine ra_ld (k := 35) (S' := (80, [(0, .ref m0), (1, .int x1), (4, .int (pyf py x2)), (5, .int (pyf py x3)), (6, .int i49_6)], [.int v36], M11)) rfl hR13 rfl (vin_lt hi_49 (by omega)) (hv37) rfl ?_
                  refine ml_st (S' := (90, [(0, .ref m0), (1, .int x1), (4, .int (pyf py x2)), (5, .int (pyf py x3)), (6, .int i49_6)], [.int v36], M11)) rfl rfl rfl ?_
                  refine ml_st (S' := (92, [(0, .ref m0), (1, .int x1), (4, .int (pyf py x2)), (5, .int (pyf py x3)), (6, .int i49_6)], [.int (pyf py x2), .int v36], M11)) rfl rfl rfl ?_
                  refine ml_if2 (S1 := (124, [(0, .ref m0), (1, .int x1), (4, .int (pyf py x2)), (5, .int (pyf py x3)), (6, .int i49_6)], [], M11)) (S2 := (95, [(0, .ref m0), (1, .int x1), (4, .int (pyf py x2)), (5, .int (pyf py x3)), (6, .int i49_6)], [], M11)) rfl rfl rfl (fun c_92 => ?_) (fun c_92 => ?_)
                  · have c_92 : ¬ v36 = (pyf py x2) := of_decide_eq_true c_92
                    refine ml_st (S' := (127, [(6, .int (i49_6 + 1)), (0, .ref m0), (1, .int x1), (4, .int (pyf py x2)), (5, .int (pyf py x3))], [], M11)) rfl rfl rfl ?_
                    refine ml_st (S' := (49, [(0, .ref m0), (1, .int x1), (4, .int (pyf py x2)), (5, .int (pyf py x3)), (6, .int (i49_6 + 1))], [], M11)) rfl rfl rfl ?_
                    exact ih_49 (i49_6 + 1) (loop_inc hj_69.2.2 hn_49) (by rw [inc_lt hj_69.2.2]; omega)
                  · have c_92 : ¬ (¬ v36 = (pyf py x2)) := of_decide_eq_false c_92
                    refine ml_st (S' := (96, [(0, .ref m0), (1, .int x1), (4, .int (pyf py x2)), (5, .int (pyf py x3)), (6, .int i49_6)], [.int x1], M11)) rfl rfl rfl ?_
                    refine ml_if (S1 := (109, [(0, .ref m0), (1, .int x1), (4, .int (pyf py x2)), (5, .int (pyf py x3)), (6, .int i49_6)], [], M11)) (S2 := (99, [(0, .ref m0), (1, .int x1), (4, .int (pyf py x2)), (5, .int (pyf py x3)), (6, .int i49_6)], [], M11)) rfl rfl rfl (fun c_96 => ?_) (fun c_96 => ?_)
                    · have c_96 : x1 = 0 := of_decide_eq_true c_96
                      refine ml_st (S' := (110, [(0, .ref m0), (1, .int x1), (4, .int (pyf py x2)), (5, .int (pyf py x3)), (6, .int i49_6)], [.ref m0], M11)) rfl rfl rfl ?_
                      refine rg_ref (S' := (113, [(0, .ref m0), (1, .int x1), (4, .int (pyf py x2)), (5, .int (pyf py x3)), (6, .int i49_6)], [.ref (q 29)], M11)) rfl hR13 rfl rfl ?_
                      refine ml_st (S' := (115, [(0, .ref m0), (1, .int x1), (4, .int (pyf py x2)), (5, .int (pyf py x3)), (6, .int i49_6)], [.int i49_6, .ref (q 29)], M11)) rfl rfl rfl ?_
                      have hx115 := hj_69.1 c_96
                      obtain ⟨v38, hv39⟩ := hfk i49_6.toNatClampNeg (by show i49_6.toInt.toNat < kf; omega) 29 (by decide)
                      refine ra_ld (k := 29) (S' := (116, [(0, .ref m0), (1, .int x1), (4, .int (pyf py x2)), (5, .int (pyf py x3)), (6, .int i49_6)], [.int v38], M11)) rfl hR13 rfl (vin_lt hi_49 (by omega)) (hv39) rfl ?_
                      refine ml_st (S' := (118, [(0, .ref m0), (1, .int x1), (4, .int (pyf py x2)), (5, .int (pyf py x3)), (6, .int i49_6)], [.int (pyf py x3), .int v38], M11)) rfl rfl rfl ?_
                      refine ml_if2 (S1 := (124, [(0, .ref m0), (1, .int x1), (4, .int (pyf py x2)), (5, .int (pyf py x3)), (6, .int i49_6)], [], M11)) (S2 := (121, [(0, .ref m0), (1, .int x1), (4, .int (pyf py x2)), (5, .int (pyf py x3)), (6, .int i49_6)], [], M11)) rfl rfl rfl (fun c_118 => ?_) (fun c_118 => ?_)
                      · have c_118 : ¬ v38 = (pyf py x3) := of_decide_eq_true c_118
                        refine ml_st (S' := (127, [(6, .int (i49_6 + 1)), (0, .ref m0), (1, .int x1), (4, .int (pyf py x2)), (5, .int (pyf py x3))], [], M11)) rfl rfl rfl ?_
                        refine ml_st (S' := (49, [(0, .ref m0), (1, .int x1), (4, .int (pyf py x2)), (5, .int (pyf py x3)), (6, .int (i49_6 + 1))], [], M11)) rfl rfl rfl ?_
                        exact ih_49 (i49_6 + 1) (loop_inc hj_69.2.2 hn_49) (by rw [inc_lt hj_69.2.2]; omega)
                      · have c_118 : ¬ (¬ v38 = (pyf py x3)) := of_decide_eq_false c_118
                        refine ml_st (S' := (123, [(0, .ref m0), (1, .int x1), (4, .int (pyf py x2)), (5, .int (pyf py x3)), (6, .int i49_6)], [.int i49_6], M11)) rfl rfl rfl ?_
                        exact ml_ret rfl (rfl) (⟨_, _, _, rfl, hR13, (eqI.rf.put f15 (by decide)), eqR.rf⟩)
                    · have c_96 : ¬ (x1 = 0) := of_decide_eq_false c_96
                      refine ml_st (S' := (100, [(0, .ref m0), (1, .int x1), (4, .int (pyf py x2)), (5, .int (pyf py x3)), (6, .int i49_6)], [.ref m0], M11)) rfl rfl rfl ?_
                      refine rg_ref (S' := (103, [(0, .ref m0), (1, .int x1), (4, .int (pyf py x2)), (5, .int (pyf py x3)), (6, .int i49_6)], [.ref (q 36)], M11)) rfl hR13 rfl rfl ?_
                      refine ml_st (S' := (105, [(0, .ref m0), (1, .int x1), (4, .int (pyf py x2)), (5, .int (pyf py x3)), (6, .int i49_6)], [.int i49_6, .ref (q 36)], M11)) rfl rfl rfl ?_
                      have hx105 := hj_69.2.1 c_96
                      obtain ⟨v40, hv41, -⟩ := (hmk i49_6.toNatClampNeg (by show i49_6.toInt.toNat < km; omega)).2.2
                      refine ra_ld (k := 36) (S' := (106, [(0, .ref m0), (1, .int x1), (4, .int (pyf py x2)), (5, .int (pyf py x3)), (6, .int i49_6)], [.int v40], M11)) rfl hR13 rfl (vin_lt hi_49 (by omega)) (hv41) rfl ?_
                      refine ml_st (S' := (116, [(0, .ref m0), (1, .int x1), (4, .int (pyf py x2)), (5, .int (pyf py x3)), (6, .int i49_6)], [.int v40], M11)) rfl rfl rfl ?_
                      refine ml_st (S' := (118, [(0, .ref m0), (1, .int x1), (4, .int (pyf py x2)), (5, .int (pyf py x3)), (6, .int i49_6)], [.int (pyf py x3), .int v40], M11)) rfl rfl rfl ?_
                      refine ml_if2 (S1 := (124, [(0, .ref m0), (1, .int x1), (4, .int (pyf py x2)), (5, .int (pyf py x3)), (6, .int i49_6)], [], M11)) (S2 := (121, [(0, .ref m0), (1, .int x1), (4, .int (pyf py x2)), (5, .int (pyf py x3)), (6, .int i49_6)], [], M11)) rfl rfl rfl (fun c_118 => ?_) (fun c_118 => ?_)
                      · have c_118 : ¬ v40 = (pyf py x3) := of_decide_eq_true c_118
                        refine ml_st (S' := (127, [(6, .int (i49_6 + 1)), (0, .ref m0), (1, .int x1), (4, .int (pyf py x2)), (5, .int (pyf py x3))], [], M11)) rfl rfl rfl ?_
                        refine ml_st (S' := (49, [(0, .ref m0), (1, .int x1), (4, .int (pyf py x2)), (5, .int (pyf py x3)), (6, .int (i49_6 + 1))], [], M11)) rfl rfl rfl ?_
                        exact ih_49 (i49_6 + 1) (loop_inc hj_69.2.2 hn_49) (by rw [inc_lt hj_69.2.2]; omega)
                      · have c_118 : ¬ (¬ v40 = (pyf py x3)) := of_decide_eq_false c_118
                        refine ml_st (S' := (123, [(0, .ref m0), (1, .int x1), (4, .int (pyf py x2)), (5, .int (pyf py x3)), (6, .int i49_6)], [.int i49_6], M11)) rfl rfl rfl ?_
                        exact ml_ret rfl (rfl) (⟨_, _, _, rfl, hR13, (eqI.rf.put f15 (by decide)), eqR.rf⟩)
            refine ml_if (S1 := (62, [(0, .ref m0), (1, .int x1), (4, .int (pyf py x2)), (5, .int (pyf py x3)), (6, .int i49_6)], [.int i49_6], M11)) (S2 := (55, [(0, .ref m0), (1, .int x1), (4, .int (pyf py x2)), (5, .int (pyf py x3)), (6, .int i49_6)], [.int i49_6], M11)) rfl rfl rfl (fun c_52 => ?_) (fun c_52 => ?_)
            · have c_52 : x1 = 0 := of_decide_eq_true c_52
              refine ml_st (S' := (63, [(0, .ref m0), (1, .int x1), (4, .int (pyf py x2)), (5, .int (pyf py x3)), (6, .int i49_6)], [.ref m0, .int i49_6], M11)) rfl rfl rfl ?_
              refine rg_int (S' := (66, [(0, .ref m0), (1, .int x1), (4, .int (pyf py x2)), (5, .int (pyf py x3)), (6, .int i49_6)], [.int (nI kf), .int i49_6], M11)) rfl hR13 rfl ((f15 25 (by decide)).trans (kq25)) rfl ?_
              exact J_66 (nI kf) (⟨fun e => by first | exact absurd e c_52 | rfl, fun e => by first | exact absurd c_52 e | rfl⟩)
            · have c_52 : ¬ (x1 = 0) := of_decide_eq_false c_52
              refine ml_st (S' := (56, [(0, .ref m0), (1, .int x1), (4, .int (pyf py x2)), (5, .int (pyf py x3)), (6, .int i49_6)], [.ref m0, .int i49_6], M11)) rfl rfl rfl ?_
              refine rg_int (S' := (59, [(0, .ref m0), (1, .int x1), (4, .int (pyf py x2)), (5, .int (pyf py x3)), (6, .int i49_6)], [.int (nI km), .int i49_6], M11)) rfl hR13 rfl ((f15 26 (by decide)).trans (kq26)) rfl ?_
              refine ml_st (S' := (66, [(0, .ref m0), (1, .int x1), (4, .int (pyf py x2)), (5, .int (pyf py x3)), (6, .int i49_6)], [.int (nI km), .int i49_6], M11)) rfl rfl rfl ?_
              exact J_66 (nI km) (⟨fun e => by first | exact absurd e c_52 | rfl, fun e => by first | exact absurd c_52 e | rfl⟩)
        exact L_49 _ 0 (Nat.le_refl _) (by decide)
      · have c_27 : ¬ ((tgf f cp pa x3) = 1) := of_decide_eq_false c_27
        refine ml_st (S' := (31, [], [.int (-1)], M11)) rfl rfl rfl ?_
        exact ml_ret rfl (rfl) (⟨_, _, _, rfl, hR13, (eqI.rf.put f15 (by decide)), eqR.rf⟩)
set_option maxHeartbeats 2000000 in
theorem rm_row {g : xe_G}  {m0 : Nat} {q : Nat → Nat} {z : Nat × Nat} {I : rI} {R : rR} {M : mi_H} {x1 x2 x3 kn : Int32} {n : Nat} {f : Nat → Int32}  (hR : RS g m0 q z I R M) (hk18 : I 18 = some kn) (hG : (kn < 0 ∨ GD n f I R)) {d : Nat} (hd : 3 ≤ d) : mt (mT g) d 239 [.ref m0, .int x1, .int x2, .int x3] M (fun v M' => ∃ (x : Int32) (I' : rI) (R' : rR), v = some (.int x) ∧ RS g m0 q z I' R' M' ∧ eqI [0] I I' ∧ eqR [] R R') := by
  obtain ⟨d, rfl⟩ : ∃ e, d = e + 1 := ⟨d - 1, by omega⟩
  refine mt_in (b := mb_239 g) rfl rfl ?_
  show ml (mT g) d (mb_239 g).2 (0, [(0, .ref m0), (1, .int x1), (2, .int x2), (3, .int x3)], [], M) _
  refine ml_blk 2 (S' := (2, [(0, .ref m0), (1, .int x1), (2, .int x2), (3, .int x3)], [.int 0, .ref m0], M)) rfl ?_
  refine rp_int rfl hR rfl (fun M11 I12 hR13 e14 f15 => ?_)
  show ml _ _ _ (5, [(0, .ref m0), (1, .int x1), (2, .int x2), (3, .int x3)], [], M11) _
  refine ml_st (S' := (6, [(0, .ref m0), (1, .int x1), (2, .int x2), (3, .int x3)], [.int x3], M11)) rfl rfl rfl ?_
  refine ml_if (S1 := (14, [(0, .ref m0)], [], M11)) (S2 := (9, [(0, .ref m0), (1, .int x1), (2, .int x2), (3, .int x3)], [], M11)) rfl rfl rfl (fun c_6 => ?_) (fun c_6 => ?_)
  · have c_6 : x3 < 0 := of_decide_eq_true c_6
    refine ml_st (S' := (15, [(0, .ref m0)], [.ref m0], M11)) rfl rfl rfl ?_
    refine ml_call (a := [.ref m0]) (rest := []) rfl (hR13.okc rfl rfl rfl) rfl rfl (rm_bad hR13 (by omega)) (fun v16 M17 h18 => ?_)
    obtain ⟨u24, I19, R20, rfl, hR21, hI22, hV23, w25⟩ := h18
    show ml _ _ _ (18, [(0, .ref m0)], [.int u24], M17) _
    exact ml_ret rfl (rfl) (⟨_, _, _, rfl, hR21, ((eqI.rf.put f15 (by decide)).tr hI22 (by decide)), (eqR.rf.tr hV23 (by decide))⟩)
  · have c_6 : ¬ (x3 < 0) := of_decide_eq_false c_6
    refine ml_blk 2 (S' := (11, [(0, .ref m0), (1, .int x1), (2, .int x2), (3, .int x3)], [.int 3, .int x3], M11)) rfl ?_
    refine ml_if2 (S1 := (19, [(0, .ref m0), (1, .int x1), (2, .int x2), (3, .int x3)], [], M11)) (S2 := (14, [(0, .ref m0)], [], M11)) rfl rfl rfl (fun c_11 => ?_) (fun c_11 => ?_)
    · have c_11 : x3 ≤ 3 := of_decide_eq_true c_11
      refine ml_st (S' := (20, [(0, .ref m0), (1, .int x1), (2, .int x2), (3, .int x3)], [.ref m0], M11)) rfl rfl rfl ?_
      refine rg_int (S' := (23, [(0, .ref m0), (1, .int x1), (2, .int x2), (3, .int x3)], [.int kn], M11)) rfl hR13 rfl ((f15 18 (by decide)).trans (hk18)) rfl ?_
      refine ml_if (S1 := (61, [], [], M11)) (S2 := (26, [(0, .ref m0), (1, .int x1), (2, .int x2), (3, .int x3)], [], M11)) rfl rfl rfl (fun c_23 => ?_) (fun c_23 => ?_)
      · have c_23 : kn < 0 := of_decide_eq_true c_23
        refine ml_st (S' := (62, [], [.int (-1)], M11)) rfl rfl rfl ?_
        exact ml_ret rfl (rfl) (⟨_, _, _, rfl, hR13, (eqI.rf.put f15 (by decide)), eqR.rf⟩)
      · have c_23 : ¬ (kn < 0) := of_decide_eq_false c_23
        obtain ⟨S, cN, sa, sl, ch, cp, mj, pa, py, hA, fA, mA, aA, nf, ni, kf, km, hF0, hY0, hP0, hE0, hFO, kq54, kq58, kq61, hkf, kq25, hfk, hkm, kq26, hmk, hNW⟩ := hG.resolve_left (c_23)
        have hn := hF0.1
        refine ml_st (S' := (27, [(0, .ref m0), (1, .int x1), (2, .int x2), (3, .int x3)], [.int x1], M11)) rfl rfl rfl ?_
        refine ml_if (S1 := (61, [], [], M11)) (S2 := (30, [(0, .ref m0), (1, .int x1), (2, .int x2), (3, .int x3)], [], M11)) rfl rfl rfl (fun c_27 => ?_) (fun c_27 => ?_)
        · have c_27 : x1 < 0 := of_decide_eq_true c_27
          refine ml_st (S' := (62, [], [.int (-1)], M11)) rfl rfl rfl ?_
          exact ml_ret rfl (rfl) (⟨_, _, _, rfl, hR13, (eqI.rf.put f15 (by decide)), eqR.rf⟩)
        · have c_27 : ¬ (x1 < 0) := of_decide_eq_false c_27
          refine ml_blk 2 (S' := (32, [(0, .ref m0), (1, .int x1), (2, .int x2), (3, .int x3)], [.ref m0, .int x1], M11)) rfl ?_
          refine rg_int (S' := (35, [(0, .ref m0), (1, .int x1), (2, .int x2), (3, .int x3)], [.int (nI km), .int x1], M11)) rfl hR13 rfl ((f15 26 (by decide)).trans (kq26)) rfl ?_
          refine ml_if2 (S1 := (61, [], [], M11)) (S2 := (38, [(0, .ref m0), (1, .int x1), (2, .int x2), (3, .int x3)], [], M11)) rfl rfl rfl (fun c_35 => ?_) (fun c_35 => ?_)
          · have c_35 : (nI km) ≤ x1 := of_decide_eq_true c_35
            refine ml_st (S' := (62, [], [.int (-1)], M11)) rfl rfl rfl ?_
            exact ml_ret rfl (rfl) (⟨_, _, _, rfl, hR13, (eqI.rf.put f15 (by decide)), eqR.rf⟩)
          · have c_35 : ¬ ((nI km) ≤ x1) := of_decide_eq_false c_35
            have hx0 : 0 ≤ x1.toInt := i_nlt c_27
            have hx1 : x1.toInt < km := i_ltn (Int32.not_le.mp c_35) hkm
            obtain ⟨-, ⟨mc, hmc, hmd⟩, -⟩ := hmk x1.toNatClampNeg (by show x1.toInt.toNat < km; omega)
            refine ml_st (S' := (39, [(0, .ref m0), (1, .int x1), (2, .int x2), (3, .int x3)], [.ref m0], M11)) rfl rfl rfl ?_
            refine rg_ref (S' := (42, [(0, .ref m0), (1, .int x1), (2, .int x2), (3, .int x3)], [.ref (q 37)], M11)) rfl hR13 rfl rfl ?_
            refine ml_st (S' := (43, [(0, .ref m0), (1, .int x1), (2, .int x2), (3, .int x3)], [.int x1, .ref (q 37)], M11)) rfl rfl rfl ?_
            refine ra_ld (k := 37) (S' := (44, [(0, .ref m0), (1, .int x1), (2, .int x2), (3, .int x3)], [.int mc], M11)) rfl hR13 rfl (vin_lt hx0 (by omega)) (hmc) rfl ?_
            refine ml_if (S1 := (61, [], [], M11)) (S2 := (47, [(0, .ref m0), (1, .int x1), (2, .int x2), (3, .int x3)], [], M11)) rfl rfl rfl (fun c_44 => ?_) (fun c_44 => ?_)
            · have c_44 : mc < 0 := of_decide_eq_true c_44
              refine ml_st (S' := (62, [], [.int (-1)], M11)) rfl rfl rfl ?_
              exact ml_ret rfl (rfl) (⟨_, _, _, rfl, hR13, (eqI.rf.put f15 (by decide)), eqR.rf⟩)
            · have c_44 : ¬ (mc < 0) := of_decide_eq_false c_44
              obtain ⟨ml9, mr9, mm9, ms9, mt9, hl9, hr9, hm9, hs9, ht9, hl0, hcl, hr0, hm0, hrm⟩ := hmd.resolve_left (by have q : 0 ≤ mc.toInt := i_nlt c_44; omega)
              refine ml_st (S' := (48, [(0, .ref m0), (1, .int x1), (2, .int x2), (3, .int x3)], [.int x2], M11)) rfl rfl rfl ?_
              refine ml_if (S1 := (61, [], [], M11)) (S2 := (51, [(0, .ref m0), (1, .int x1), (2, .int x2), (3, .int x3)], [], M11)) rfl rfl rfl (fun c_48 => ?_) (fun c_48 => ?_)
              · have c_48 : x2 < 0 := of_decide_eq_true c_48
                refine ml_st (S' := (62, [], [.int (-1)], M11)) rfl rfl rfl ?_
                exact ml_ret rfl (rfl) (⟨_, _, _, rfl, hR13, (eqI.rf.put f15 (by decide)), eqR.rf⟩)
              · have c_48 : ¬ (x2 < 0) := of_decide_eq_false c_48
                refine ml_blk 2 (S' := (53, [(0, .ref m0), (1, .int x1), (2, .int x2), (3, .int x3)], [.ref m0, .int x2], M11)) rfl ?_
                refine rg_ref (S' := (56, [(0, .ref m0), (1, .int x1), (2, .int x2), (3, .int x3)], [.ref (q 42), .int x2], M11)) rfl hR13 rfl rfl ?_
                refine ml_st (S' := (57, [(0, .ref m0), (1, .int x1), (2, .int x2), (3, .int x3)], [.int x1, .ref (q 42), .int x2], M11)) rfl rfl rfl ?_
                refine ra_ld (k := 42) (S' := (58, [(0, .ref m0), (1, .int x1), (2, .int x2), (3, .int x3)], [.int mm9, .int x2], M11)) rfl hR13 rfl (vin_lt hx0 (by omega)) (hm9) rfl ?_
                refine ml_if2 (S1 := (63, [(0, .ref m0), (1, .int x1), (2, .int x2), (3, .int x3)], [], M11)) (S2 := (61, [], [], M11)) rfl rfl rfl (fun c_58 => ?_) (fun c_58 => ?_)
                · have c_58 : x2 < mm9 := of_decide_eq_true c_58
                  have y0 : 0 ≤ x2.toInt := i_nlt c_48
                  have y1 := i_lt c_58
                  have w0 : 0 ≤ x3.toInt := i_nlt c_6
                  have w1 := i_le c_11
                  have w3 : (3 : Int32).toInt = 3 := rfl
                  have m8 : (8 * x2).toInt = 8 * x2.toInt := by have e8 : (8 : Int32).toInt = 8 := rfl; rw [i_mul (by rw [e8]; omega) (by rw [e8]; omega), e8]
                  have a1 : (mr9 + 8 * x2).toInt = mr9.toInt + 8 * x2.toInt := by rw [i_add (by omega) (by omega), m8]
                  have a2 : (mr9 + 8 * x2 + 2 * x3).toInt = mr9.toInt + 8 * x2.toInt + 2 * x3.toInt := by have t2 := two_k w0 (by omega); rw [i_add (by omega) (by omega), a1, t2]
                  refine ml_blk 2 (S' := (65, [(0, .ref m0), (1, .int x1), (2, .int x2), (3, .int x3)], [.ref m0, .ref m0], M11)) rfl ?_
                  refine rg_ref (S' := (68, [(0, .ref m0), (1, .int x1), (2, .int x2), (3, .int x3)], [.ref (q 41), .ref m0], M11)) rfl hR13 rfl rfl ?_
                  refine ml_st (S' := (69, [(0, .ref m0), (1, .int x1), (2, .int x2), (3, .int x3)], [.int x1, .ref (q 41), .ref m0], M11)) rfl rfl rfl ?_
                  refine ra_ld (k := 41) (S' := (70, [(0, .ref m0), (1, .int x1), (2, .int x2), (3, .int x3)], [.int mr9, .ref m0], M11)) rfl hR13 rfl (vin_lt hx0 (by omega)) (hr9) rfl ?_
                  refine ml_blk 3 (S' := (74, [(0, .ref m0), (1, .int x1), (2, .int x2), (3, .int x3)], [.int (8 * x2), .int mr9, .ref m0], M11)) rfl ?_
                  refine ml_blk 3 (S' := (77, [(0, .ref m0), (1, .int x1), (2, .int x2), (3, .int x3)], [.int x3, .int 2, .int (mr9 + (8 * x2)), .ref m0], M11)) rfl ?_
                  refine ml_blk 2 (S' := (79, [(0, .ref m0), (1, .int x1), (2, .int x2), (3, .int x3)], [.int ((mr9 + (8 * x2)) + (2 * x3)), .ref m0], M11)) rfl ?_
                  have hF26 : FK n f I12 R := (hF0.mono (pIx f15 (by decide)) (fun _ _ => rfl))
                  refine ml_call (a := [.ref m0, .int ((mr9 + (8 * x2)) + (2 * x3))]) (rest := []) rfl (hR13.okc rfl rfl rfl) rfl rfl (rm_u2 hR13 hF26 (by omega) (by omega) (by omega)) (fun v27 M28 h29 => ?_)
                  obtain ⟨rfl, h29⟩ := h29
                  rw [h29]
                  show ml _ _ _ (82, [(0, .ref m0), (1, .int x1), (2, .int x2), (3, .int x3)], [.int (f2 f ((mr9 + (8 * x2)) + (2 * x3)))], M11) _
                  exact ml_ret rfl (rfl) (⟨_, _, _, rfl, hR13, (eqI.rf.put f15 (by decide)), eqR.rf⟩)
                · have c_58 : ¬ (x2 < mm9) := of_decide_eq_false c_58
                  refine ml_st (S' := (62, [], [.int (-1)], M11)) rfl rfl rfl ?_
                  exact ml_ret rfl (rfl) (⟨_, _, _, rfl, hR13, (eqI.rf.put f15 (by decide)), eqR.rf⟩)
    · have c_11 : ¬ (x3 ≤ 3) := of_decide_eq_false c_11
      refine ml_st (S' := (15, [(0, .ref m0)], [.ref m0], M11)) rfl rfl rfl ?_
      refine ml_call (a := [.ref m0]) (rest := []) rfl (hR13.okc rfl rfl rfl) rfl rfl (rm_bad hR13 (by omega)) (fun v30 M31 h32 => ?_)
      obtain ⟨u38, I33, R34, rfl, hR35, hI36, hV37, w39⟩ := h32
      show ml _ _ _ (18, [(0, .ref m0)], [.int u38], M31) _
      exact ml_ret rfl (rfl) (⟨_, _, _, rfl, hR35, ((eqI.rf.put f15 (by decide)).tr hI36 (by decide)), (eqR.rf.tr hV37 (by decide))⟩)
set_option maxHeartbeats 2000000 in
theorem rm_bootstrap {g : xe_G}  {m0 : Nat} {q : Nat → Nat} {z : Nat × Nat} {I : rI} {R : rR} {M : mi_H} {x1 x2 kn : Int32} {n : Nat} {f : Nat → Int32}  (hR : RS g m0 q z I R M) (hk18 : I 18 = some kn) (hG : (kn < 0 ∨ GD n f I R)) {d : Nat} (hd : 3 ≤ d) : mt (mT g) d 184 [.ref m0, .int x1, .int x2] M (fun v M' => ∃ (x : Int32) (I' : rI) (R' : rR), v = some (.int x) ∧ RS g m0 q z I' R' M' ∧ eqI [0] I I' ∧ eqR [] R R') := by
  obtain ⟨d, rfl⟩ : ∃ e, d = e + 1 := ⟨d - 1, by omega⟩
  refine mt_in (b := mb_184 g) rfl rfl ?_
  show ml (mT g) d (mb_184 g).2 (0, [(0, .ref m0), (1, .int x1), (2, .int x2)], [], M) _
  refine ml_blk 2 (S' := (2, [(0, .ref m0), (1, .int x1), (2, .int x2)], [.int 0, .ref m0], M)) rfl ?_
  refine rp_int rfl hR rfl (fun M11 I12 hR13 e14 f15 => ?_)
  show ml _ _ _ (5, [(0, .ref m0), (1, .int x1), (2, .int x2)], [], M11) _
  refine ml_st (S' := (6, [(0, .ref m0), (1, .int x1), (2, .int x2)], [.ref m0], M11)) rfl rfl rfl ?_
  refine rg_int (S' := (9, [(0, .ref m0), (1, .int x1), (2, .int x2)], [.int kn], M11)) rfl hR13 rfl ((f15 18 (by decide)).trans (hk18)) rfl ?_
  refine ml_if (S1 := (28, [], [], M11)) (S2 := (12, [(0, .ref m0), (1, .int x1), (2, .int x2)], [], M11)) rfl rfl rfl (fun c_9 => ?_) (fun c_9 => ?_)
  · have c_9 : kn < 0 := of_decide_eq_true c_9
    refine ml_st (S' := (29, [], [.int (-1)], M11)) rfl rfl rfl ?_
    exact ml_ret rfl (rfl) (⟨_, _, _, rfl, hR13, (eqI.rf.put f15 (by decide)), eqR.rf⟩)
  · have c_9 : ¬ (kn < 0) := of_decide_eq_false c_9
    obtain ⟨S, cN, sa, sl, ch, cp, mj, pa, py, hA, fA, mA, aA, nf, ni, kf, km, hF0, hY0, hP0, hE0, hFO, kq54, kq58, kq61, hkf, kq25, hfk, hkm, kq26, hmk, hNW⟩ := hG.resolve_left (c_9)
    have hn := hF0.1
    obtain ⟨hNk, nb, nc, kq70, kq71, hnc, hbs⟩ := hNW
    refine ml_st (S' := (13, [(0, .ref m0), (1, .int x1), (2, .int x2)], [.int x1], M11)) rfl rfl rfl ?_
    refine ml_if (S1 := (28, [], [], M11)) (S2 := (16, [(0, .ref m0), (1, .int x1), (2, .int x2)], [], M11)) rfl rfl rfl (fun c_13 => ?_) (fun c_13 => ?_)
    · have c_13 : x1 < 0 := of_decide_eq_true c_13
      refine ml_st (S' := (29, [], [.int (-1)], M11)) rfl rfl rfl ?_
      exact ml_ret rfl (rfl) (⟨_, _, _, rfl, hR13, (eqI.rf.put f15 (by decide)), eqR.rf⟩)
    · have c_13 : ¬ (x1 < 0) := of_decide_eq_false c_13
      refine ml_blk 2 (S' := (18, [(0, .ref m0), (1, .int x1), (2, .int x2)], [.ref m0, .int x1], M11)) rfl ?_
      refine rg_int (S' := (21, [(0, .ref m0), (1, .int x1), (2, .int x2)], [.int nc, .int x1], M11)) rfl hR13 rfl ((f15 71 (by decide)).trans (kq71)) rfl ?_
      refine ml_if2 (S1 := (28, [], [], M11)) (S2 := (24, [(0, .ref m0), (1, .int x1), (2, .int x2)], [], M11)) rfl rfl rfl (fun c_21 => ?_) (fun c_21 => ?_)
      · have c_21 : nc ≤ x1 := of_decide_eq_true c_21
        refine ml_st (S' := (29, [], [.int (-1)], M11)) rfl rfl rfl ?_
        exact ml_ret rfl (rfl) (⟨_, _, _, rfl, hR13, (eqI.rf.put f15 (by decide)), eqR.rf⟩)
      · have c_21 : ¬ (nc ≤ x1) := of_decide_eq_false c_21
        refine ml_st (S' := (25, [(0, .ref m0), (1, .int x1), (2, .int x2)], [.int x2], M11)) rfl rfl rfl ?_
        refine ml_if (S1 := (30, [(0, .ref m0), (1, .int x1), (2, .int x2)], [], M11)) (S2 := (28, [], [], M11)) rfl rfl rfl (fun c_25 => ?_) (fun c_25 => ?_)
        · have c_25 : 0 ≤ x2 := of_decide_eq_true c_25
          have x0 : 0 ≤ x1.toInt := i_nlt c_13
          have x1n := i_nle c_21
          have hp0 : 0 ≤ x2.toInt := i_le c_25
          obtain ⟨hb0, hb2, e9, hit, hen⟩ := hbs.resolve_left (by omega)
          refine ml_st (S' := (31, [(0, .ref m0), (1, .int x1), (2, .int x2)], [.ref m0], M11)) rfl rfl rfl ?_
          refine rg_int (S' := (34, [(0, .ref m0), (1, .int x1), (2, .int x2)], [.int nb], M11)) rfl hR13 rfl ((f15 70 (by decide)).trans (kq70)) rfl ?_
          refine ml_blk 2 (S' := (36, [(0, .ref m0), (1, .int x1), (2, .int x2)], [.int (nb + 2)], M11)) rfl ?_
          refine ml_st (S' := (37, [(3, .int (nb + 2)), (0, .ref m0), (1, .int x1), (2, .int x2)], [], M11)) rfl rfl rfl ?_
          refine ml_st (S' := (38, [(3, .int (nb + 2)), (0, .ref m0), (1, .int x1), (2, .int x2)], [.int 0], M11)) rfl rfl rfl ?_
          refine ml_st (S' := (40, [(0, .ref m0), (1, .int x1), (2, .int x2), (3, .int (nb + 2)), (4, .int 0)], [], M11)) rfl rfl rfl ?_
          have L_40 : ∀ (n_40 : Nat) (i40_3 : Int32) (i40_4 : Int32), (2147483648 - i40_4.toInt).toNat ≤ n_40 → (0 ≤ i40_4.toInt ∧ i40_4.toInt ≤ x1.toInt ∧ itr (BS1 f n) (nc.toInt - i40_4.toInt).toNat i40_3 e9) → ml (mT g) d (mb_184 g).2 (40, [(0, .ref m0), (1, .int x1), (2, .int x2), (3, .int i40_3), (4, .int i40_4)], [], M11) (fun v M' => ∃ (x : Int32) (I' : rI) (R' : rR), v = some (.int x) ∧ RS g m0 q z I' R' M' ∧ eqI [0] I I' ∧ eqR [] R R') := by
            intro n_40
            induction n_40 with
            | zero => intro i40_3 i40_4 hn; exact (loop_zero hn).elim
            | succ n_40 ih_40 =>
              intro i40_3 i40_4 hn_40 hi_40
              obtain ⟨hk0b, hk1b, hitb⟩ := hi_40
              have hkc : ¬ nc ≤ i40_4 := fun e => by have := i_le e; omega
              obtain ⟨b1, hb1, hnx⟩ := itr_next hitb hkc
              have hb2 := hb1
              obtain ⟨g0, g1, g2, g3⟩ := hb2
              have eq2 : (i40_3 + 2).toInt = i40_3.toInt + 2 := i_add (by have : (2 : Int32).toInt = 2 := rfl; omega) (by have : (2 : Int32).toInt = 2 := rfl; omega)
              have hbs2 := bs_of (f := f) hn g0 g1
              have hm0 := f2_pos (f := f) (x := i40_3 + 2)
              have hm1 := f2_le (f := f) (x := i40_3 + 2)
              refine ml_blk 2 (S' := (43, [(0, .ref m0), (1, .int x1), (2, .int x2), (3, .int i40_3), (4, .int i40_4)], [.int x1, .int i40_4], M11)) rfl ?_
              refine ml_if2 (S1 := (66, [(0, .ref m0), (1, .int x1), (2, .int x2), (3, .int i40_3), (4, .int i40_4)], [], M11)) (S2 := (46, [(0, .ref m0), (1, .int x1), (2, .int x2), (3, .int i40_3), (4, .int i40_4)], [], M11)) rfl rfl rfl (fun c_43 => ?_) (fun c_43 => ?_)
              · have c_43 : x1 ≤ i40_4 := of_decide_eq_true c_43
                refine ml_st (S' := (67, [(0, .ref m0), (1, .int x1), (2, .int x2), (3, .int i40_3), (4, .int i40_4)], [.int x2], M11)) rfl rfl rfl ?_
                refine ml_if (S1 := (76, [(0, .ref m0), (1, .int x1), (2, .int x2), (3, .int i40_3), (4, .int i40_4)], [], M11)) (S2 := (70, [(0, .ref m0), (1, .int x1), (2, .int x2), (3, .int i40_3), (4, .int i40_4)], [], M11)) rfl rfl rfl (fun c_67 => ?_) (fun c_67 => ?_)
                · have c_67 : ¬ x2 = 0 := of_decide_eq_true c_67
                  refine ml_blk 3 (S' := (79, [(0, .ref m0), (1, .int x1), (2, .int x2), (3, .int i40_3), (4, .int i40_4)], [.int i40_3, .ref m0, .int x2], M11)) rfl ?_
                  refine ml_blk 2 (S' := (81, [(0, .ref m0), (1, .int x1), (2, .int x2), (3, .int i40_3), (4, .int i40_4)], [.int (i40_3 + 2), .ref m0, .int x2], M11)) rfl ?_
                  have hF16 : FK n f I12 R := (hF0.mono (pIx f15 (by decide)) (fun _ _ => rfl))
                  refine ml_call (a := [.ref m0, .int (i40_3 + 2)]) (rest := [.int x2]) rfl (hR13.okc rfl rfl rfl) rfl rfl (rm_u2 hR13 hF16 (by omega) (by omega) (by omega)) (fun v17 M18 h19 => ?_)
                  obtain ⟨rfl, h19⟩ := h19
                  rw [h19]
                  show ml _ _ _ (84, [(0, .ref m0), (1, .int x1), (2, .int x2), (3, .int i40_3), (4, .int i40_4)], [.int (f2 f (i40_3 + 2)), .int x2], M11) _
                  refine ml_if2 (S1 := (91, [(0, .ref m0), (1, .int x1), (2, .int x2), (3, .int i40_3), (4, .int i40_4)], [], M11)) (S2 := (87, [(0, .ref m0), (1, .int x1), (2, .int x2), (3, .int i40_3), (4, .int i40_4)], [], M11)) rfl rfl rfl (fun c_84 => ?_) (fun c_84 => ?_)
                  · have c_84 : x2 ≤ (f2 f (i40_3 + 2)) := of_decide_eq_true c_84
                    have r1 := i_le c_84
                    have t2 := two_k hp0 (by omega)
                    have a2 : (i40_3 + 2 + 2 * x2).toInt = i40_3.toInt + 2 + 2 * x2.toInt := by rw [i_add (by omega) (by omega), eq2, t2]
                    refine ml_blk 3 (S' := (94, [(0, .ref m0), (1, .int x1), (2, .int x2), (3, .int i40_3), (4, .int i40_4)], [.int 2, .int i40_3, .ref m0], M11)) rfl ?_
                    refine ml_blk 3 (S' := (97, [(0, .ref m0), (1, .int x1), (2, .int x2), (3, .int i40_3), (4, .int i40_4)], [.int x2, .int 2, .int (i40_3 + 2), .ref m0], M11)) rfl ?_
                    refine ml_blk 2 (S' := (99, [(0, .ref m0), (1, .int x1), (2, .int x2), (3, .int i40_3), (4, .int i40_4)], [.int ((i40_3 + 2) + (2 * x2)), .ref m0], M11)) rfl ?_
                    refine ml_call (a := [.ref m0, .int ((i40_3 + 2) + (2 * x2))]) (rest := []) rfl (hR13.okc rfl rfl rfl) rfl rfl (rm_u2 hR13 hF16 (by omega) (by omega) (by omega)) (fun v20 M21 h22 => ?_)
                    obtain ⟨rfl, h22⟩ := h22
                    rw [h22]
                    show ml _ _ _ (102, [], [.int (f2 f ((i40_3 + 2) + (2 * x2)))], M11) _
                    exact ml_ret rfl (rfl) (⟨_, _, _, rfl, hR13, (eqI.rf.put f15 (by decide)), eqR.rf⟩)
                  · have c_84 : ¬ (x2 ≤ (f2 f (i40_3 + 2))) := of_decide_eq_false c_84
                    refine ml_st (S' := (88, [(0, .ref m0), (1, .int x1), (2, .int x2), (3, .int i40_3), (4, .int i40_4)], [.int (-1)], M11)) rfl rfl rfl ?_
                    refine ml_st (S' := (102, [], [.int (-1)], M11)) rfl rfl rfl ?_
                    exact ml_ret rfl (rfl) (⟨_, _, _, rfl, hR13, (eqI.rf.put f15 (by decide)), eqR.rf⟩)
                · have c_67 : ¬ (¬ x2 = 0) := of_decide_eq_false c_67
                  refine ml_blk 2 (S' := (72, [(0, .ref m0), (1, .int x1), (2, .int x2), (3, .int i40_3), (4, .int i40_4)], [.int i40_3, .ref m0], M11)) rfl ?_
                  have hF23 : FK n f I12 R := (hF0.mono (pIx f15 (by decide)) (fun _ _ => rfl))
                  refine ml_call (a := [.ref m0, .int i40_3]) (rest := []) rfl (hR13.okc rfl rfl rfl) rfl rfl (rm_u2 hR13 hF23 (g0) (by omega) (by omega)) (fun v24 M25 h26 => ?_)
                  obtain ⟨rfl, h26⟩ := h26
                  rw [h26]
                  show ml _ _ _ (75, [(0, .ref m0), (1, .int x1), (2, .int x2), (3, .int i40_3), (4, .int i40_4)], [.int (f2 f i40_3)], M11) _
                  exact ml_ret rfl (rfl) (⟨_, _, _, rfl, hR13, (eqI.rf.put f15 (by decide)), eqR.rf⟩)
              · have c_43 : ¬ (x1 ≤ i40_4) := of_decide_eq_false c_43
                refine ml_blk 3 (S' := (49, [(0, .ref m0), (1, .int x1), (2, .int x2), (3, .int i40_3), (4, .int i40_4)], [.int 2, .int 4, .int i40_3], M11)) rfl ?_
                refine ml_blk 3 (S' := (52, [(0, .ref m0), (1, .int x1), (2, .int x2), (3, .int i40_3), (4, .int i40_4)], [.int 2, .int i40_3, .ref m0, .int 2, .int 4, .int i40_3], M11)) rfl ?_
                refine ml_st (S' := (53, [(0, .ref m0), (1, .int x1), (2, .int x2), (3, .int i40_3), (4, .int i40_4)], [.int (i40_3 + 2), .ref m0, .int 2, .int 4, .int i40_3], M11)) rfl rfl rfl ?_
                have hF27 : FK n f I12 R := (hF0.mono (pIx f15 (by decide)) (fun _ _ => rfl))
                refine ml_call (a := [.ref m0, .int (i40_3 + 2)]) (rest := [.int 2, .int 4, .int i40_3]) rfl (hR13.okc rfl rfl rfl) rfl rfl (rm_u2 hR13 hF27 (by omega) (by omega) (by omega)) (fun v28 M29 h30 => ?_)
                obtain ⟨rfl, h30⟩ := h30
                rw [h30]
                show ml _ _ _ (56, [(0, .ref m0), (1, .int x1), (2, .int x2), (3, .int i40_3), (4, .int i40_4)], [.int (f2 f (i40_3 + 2)), .int 2, .int 4, .int i40_3], M11) _
                refine ml_blk 3 (S' := (59, [(0, .ref m0), (1, .int x1), (2, .int x2), (3, .int i40_3), (4, .int i40_4)], [.int (i40_3 + (4 + (2 * (f2 f (i40_3 + 2)))))], M11)) rfl ?_
                refine ml_st (S' := (60, [(3, .int (i40_3 + (4 + (2 * (f2 f (i40_3 + 2)))))), (0, .ref m0), (1, .int x1), (2, .int x2), (4, .int i40_4)], [], M11)) rfl rfl rfl ?_
                refine ml_st (S' := (63, [(4, .int (i40_4 + 1)), (3, .int (i40_3 + (4 + (2 * (f2 f (i40_3 + 2)))))), (0, .ref m0), (1, .int x1), (2, .int x2)], [], M11)) rfl rfl rfl ?_
                refine ml_st (S' := (40, [(0, .ref m0), (1, .int x1), (2, .int x2), (3, .int (i40_3 + (4 + (2 * (f2 f (i40_3 + 2)))))), (4, .int (i40_4 + 1))], [], M11)) rfl rfl rfl ?_
                exact ih_40 (i40_3 + (4 + (2 * (f2 f (i40_3 + 2))))) (i40_4 + 1) (loop_inc (Int32.not_le.mp c_43) hn_40) (⟨by rw [inc_lt (Int32.not_le.mp c_43)]; omega, by rw [inc_lt (Int32.not_le.mp c_43)]; have := i_nle c_43; omega, hb1.eq hbs2.1 ▸ hnx⟩)
          exact L_40 _ (nb + 2) 0 (Nat.le_refl _) (⟨by decide, x0, by rw [show (nc.toInt - (0 : Int32).toInt).toNat = nc.toInt.toNat by have : (0 : Int32).toInt = 0 := rfl; omega]; exact hit⟩)
        · have c_25 : ¬ (0 ≤ x2) := of_decide_eq_false c_25
          refine ml_st (S' := (29, [], [.int (-1)], M11)) rfl rfl rfl ?_
          exact ml_ret rfl (rfl) (⟨_, _, _, rfl, hR13, (eqI.rf.put f15 (by decide)), eqR.rf⟩)
end
section
set_option maxHeartbeats 2000000 in
theorem rm_isMethodX {g : xe_G}  {m0 : Nat} {q : Nat → Nat} {z : Nat × Nat} {I : rI} {R : rR} {M : mi_H} {x1 : Int32} {S cN : Nat} {sa sl ch : Nat → Int32}  (hR : RS g m0 q z I R M) (hY : SK S cN sa sl ch I R) (hs0 : 0 ≤ x1.toInt) (hs1 : x1.toInt < S) {d : Nat} (hd : 5 ≤ d) : mt (mT g) d 218 [.ref m0, .int x1] M (fun v M' => (∃ x : Int32, v = some (.int x) ∧ (x = 0 ∨ x = 1) ∧ (x = 0 ∨ MTX sa sl ch x1 ∧ AGX (tx sa ch x1) (sL sl x1) 1)) ∧ M' = M) := by
  obtain ⟨d, rfl⟩ : ∃ e, d = e + 1 := ⟨d - 1, by omega⟩
  refine mt_in (b := mb_218 g) rfl rfl ?_
  show ml (mT g) d (mb_218 g).2 (0, [(0, .ref m0), (1, .int x1)], [], M) _
  have hsl := hY.s hs0 hs1
  have hsl0 : 0 ≤ (sL sl x1).toInt := hsl.2.2.2.1
  have hsl1 : (sL sl x1).toInt ≤ 66000 := by have h1 := hsl.2.2.1; have h2 := hsl.2.2.2.2.1; have h3 := hsl.2.2.2.2.2.1; show (sl _).toInt ≤ 66000; omega
  refine ml_blk 2 (S' := (2, [(0, .ref m0), (1, .int x1)], [.int x1, .ref m0], M)) rfl ?_
  refine ml_call (a := [.ref m0, .int x1]) (rest := []) rfl (hR.okc rfl rfl rfl) rfl rfl (rm_length hR hY (hs0) (hs1) (by omega)) (fun v11 M12 h13 => ?_)
  obtain ⟨rfl, h13⟩ := h13
  rw [h13]
  show ml _ _ _ (5, [(0, .ref m0), (1, .int x1)], [.int (sL sl x1)], M) _
  refine ml_st (S' := (6, [(2, .int (sL sl x1)), (0, .ref m0), (1, .int x1)], [], M)) rfl rfl rfl ?_
  refine ml_st (S' := (7, [(2, .int (sL sl x1)), (0, .ref m0), (1, .int x1)], [.int (sL sl x1)], M)) rfl rfl rfl ?_
  refine ml_if (S1 := (21, [], [], M)) (S2 := (10, [(2, .int (sL sl x1)), (0, .ref m0), (1, .int x1)], [], M)) rfl rfl rfl (fun c_7 => ?_) (fun c_7 => ?_)
  · have c_7 : (sL sl x1) = 0 := of_decide_eq_true c_7
    refine ml_st (S' := (22, [], [.int 0], M)) rfl rfl rfl ?_
    exact ml_ret rfl (r_z (Or.inl rfl)) (⟨⟨_, rfl, Or.inl rfl, Or.inl rfl⟩, rfl⟩)
  · have c_7 : ¬ ((sL sl x1) = 0) := of_decide_eq_false c_7
    refine ml_blk 3 (S' := (13, [(2, .int (sL sl x1)), (0, .ref m0), (1, .int x1)], [.int 0, .int x1, .ref m0], M)) rfl ?_
    refine ml_call (a := [.ref m0, .int x1, .int 0]) (rest := []) rfl (hR.okc rfl rfl rfl) rfl rfl (rm_at hR hY (hs0) (hs1) (by decide) (by have h7 : (sL sl x1).toInt ≠ 0 := (fun e => c_7 (Int32.toInt_inj.mp e)); have : (0 : Int32).toInt = 0 := rfl; omega) (by omega)) (fun v14 M15 h16 => ?_)
    obtain ⟨rfl, h16⟩ := h16
    rw [h16]
    show ml _ _ _ (16, [(2, .int (sL sl x1)), (0, .ref m0), (1, .int x1)], [.int (tx sa ch x1 0)], M) _
    refine ml_st (S' := (18, [(2, .int (sL sl x1)), (0, .ref m0), (1, .int x1)], [.int 40, .int (tx sa ch x1 0)], M)) rfl rfl rfl ?_
    refine ml_if2 (S1 := (23, [(2, .int (sL sl x1)), (0, .ref m0), (1, .int x1)], [], M)) (S2 := (21, [], [], M)) rfl rfl rfl (fun c_18 => ?_) (fun c_18 => ?_)
    · have c_18 : (tx sa ch x1 0) = 40 := of_decide_eq_true c_18
      refine ml_st (S' := (24, [(2, .int (sL sl x1)), (0, .ref m0), (1, .int x1)], [.int 1], M)) rfl rfl rfl ?_
      refine ml_st (S' := (25, [(0, .ref m0), (1, .int x1), (2, .int (sL sl x1)), (3, .int 1)], [], M)) rfl rfl rfl ?_
      have L_25 : ∀ (n_25 : Nat) (i25_3 : Int32), (2147483648 - i25_3.toInt).toNat ≤ n_25 → (1 ≤ i25_3.toInt ∧ i25_3.toInt ≤ (sL sl x1).toInt ∧ ∃ m, itr (AG1 (tx sa ch x1) (sL sl x1)) m 1 i25_3) → ml (mT g) d (mb_218 g).2 (25, [(0, .ref m0), (1, .int x1), (2, .int (sL sl x1)), (3, .int i25_3)], [], M) (fun v M' => (∃ x : Int32, v = some (.int x) ∧ (x = 0 ∨ x = 1) ∧ (x = 0 ∨ MTX sa sl ch x1 ∧ AGX (tx sa ch x1) (sL sl x1) 1)) ∧ M' = M) := by
        intro n_25
        induction n_25 with
        | zero => intro i25_3 hn; exact (loop_zero hn).elim
        | succ n_25 ih_25 =>
          intro i25_3 hn_25 hi_25
          obtain ⟨hk1, hkn, m9, hit⟩ := hi_25
          refine ml_blk 2 (S' := (27, [(0, .ref m0), (1, .int x1), (2, .int (sL sl x1)), (3, .int i25_3)], [.int (sL sl x1), .int i25_3], M)) rfl ?_
          have J_54 : ((sL sl x1) ≤ i25_3 ∨ (tx sa ch x1) i25_3 = 41) → ml (mT g) d (mb_218 g).2 (54, [(0, .ref m0), (1, .int x1), (2, .int (sL sl x1)), (3, .int i25_3)], [], M) (fun v M' => (∃ x : Int32, v = some (.int x) ∧ (x = 0 ∨ x = 1) ∧ (x = 0 ∨ MTX sa sl ch x1 ∧ AGX (tx sa ch x1) (sL sl x1) 1)) ∧ M' = M) := by
            intro hj_54
            refine ml_blk 2 (S' := (56, [(0, .ref m0), (1, .int x1), (2, .int (sL sl x1)), (3, .int i25_3)], [.int (sL sl x1), .int i25_3], M)) rfl ?_
            refine ml_if2 (S1 := (61, [(0, .ref m0), (1, .int x1), (2, .int (sL sl x1)), (3, .int i25_3)], [], M)) (S2 := (59, [(0, .ref m0), (1, .int x1), (2, .int (sL sl x1)), (3, .int i25_3)], [], M)) rfl rfl rfl (fun c_56 => ?_) (fun c_56 => ?_)
            · have c_56 : i25_3 < (sL sl x1) := of_decide_eq_true c_56
              have hk54 := hj_54.resolve_left (Int32.not_le.mpr c_56)
              have hlt := i_lt c_56
              have hk2 : (i25_3 + 1).toInt = i25_3.toInt + 1 := inc_lt c_56
              have hagw : AGW (tx sa ch x1) (sL sl x1) 1 := ⟨m9, i25_3, hit, by omega, hlt, hk54⟩
              refine ml_st (S' := (64, [(3, .int (i25_3 + 1)), (0, .ref m0), (1, .int x1), (2, .int (sL sl x1))], [], M)) rfl rfl rfl ?_
              refine ml_blk 3 (S' := (67, [(3, .int (i25_3 + 1)), (0, .ref m0), (1, .int x1), (2, .int (sL sl x1))], [.int ((i25_3 + 1) + 1)], M)) rfl ?_
              refine ml_st (S' := (68, [(3, .int (i25_3 + 1)), (0, .ref m0), (1, .int x1), (2, .int (sL sl x1))], [.int (sL sl x1), .int ((i25_3 + 1) + 1)], M)) rfl rfl rfl ?_
              have J_94 : (3 ≤ (sL sl x1).toInt ∧ (i25_3 + 1).toInt < (sL sl x1).toInt) → ml (mT g) d (mb_218 g).2 (94, [(0, .ref m0), (1, .int x1)], [], M) (fun v M' => (∃ x : Int32, v = some (.int x) ∧ (x = 0 ∨ x = 1) ∧ (x = 0 ∨ MTX sa sl ch x1 ∧ AGX (tx sa ch x1) (sL sl x1) 1)) ∧ M' = M) := by
                intro hj_94
                refine ml_blk 2 (S' := (96, [(0, .ref m0), (1, .int x1)], [.int x1, .ref m0], M)) rfl ?_
                refine ml_call (a := [.ref m0, .int x1]) (rest := []) rfl (hR.okc rfl rfl rfl) rfl rfl (rm_places0 hR hY (hs0) (hs1) (hagw) (by omega)) (fun v17 M18 h19 => ?_)
                obtain ⟨⟨u20, rfl⟩, h19⟩ := h19
                rw [h19]
                show ml _ _ _ (99, [(0, .ref m0), (1, .int x1)], [.int u20], M) _
                refine ml_st (S' := (102, [(0, .ref m0), (1, .int x1)], [.int 255, .int u20], M)) rfl rfl rfl ?_
                refine ml_if2 (S1 := (109, [(0, .ref m0), (1, .int x1)], [], M)) (S2 := (105, [(0, .ref m0), (1, .int x1)], [], M)) rfl rfl rfl (fun c_102 => ?_) (fun c_102 => ?_)
                · have c_102 : 255 < u20 := of_decide_eq_true c_102
                  refine ml_st (S' := (110, [], [.int 0], M)) rfl rfl rfl ?_
                  exact ml_ret rfl (r_z (Or.inl rfl)) (⟨⟨_, rfl, Or.inl rfl, Or.inl rfl⟩, rfl⟩)
                · have c_102 : ¬ (255 < u20) := of_decide_eq_false c_102
                  refine ml_st (S' := (106, [(0, .ref m0), (1, .int x1)], [.int 1], M)) rfl rfl rfl ?_
                  refine ml_st (S' := (110, [], [.int 1], M)) rfl rfl rfl ?_
                  exact ml_ret rfl (r_z (Or.inr rfl)) (⟨⟨_, rfl, Or.inr rfl, Or.inr ⟨⟨hagw, hj_94.1⟩, m9, i25_3, hit, by omega, by have := hj_94.2; omega, hk54⟩⟩, rfl⟩)
              refine ml_if2 (S1 := (82, [(0, .ref m0), (1, .int x1), (2, .int (sL sl x1)), (3, .int (i25_3 + 1))], [], M)) (S2 := (71, [(3, .int (i25_3 + 1)), (0, .ref m0), (1, .int x1), (2, .int (sL sl x1))], [], M)) rfl rfl rfl (fun c_68 => ?_) (fun c_68 => ?_)
              · have c_68 : ¬ ((i25_3 + 1) + 1) = (sL sl x1) := of_decide_eq_true c_68
                refine ml_blk 3 (S' := (85, [(0, .ref m0), (1, .int x1), (2, .int (sL sl x1)), (3, .int (i25_3 + 1))], [.int (i25_3 + 1), .int x1, .ref m0], M)) rfl ?_
                refine ml_call (a := [.ref m0, .int x1, .int (i25_3 + 1)]) (rest := []) rfl (hR.okc rfl rfl rfl) rfl rfl (rm_fieldText hR hY (hs0) (hs1) (by omega) (by omega) (by omega)) (fun v21 M22 h23 => ?_)
                obtain ⟨rfl, h23⟩ := h23
                rw [h23]
                show ml _ _ _ (88, [(0, .ref m0), (1, .int x1), (2, .int (sL sl x1)), (3, .int (i25_3 + 1))], [.int (FTx (tx sa ch x1) (sL sl x1) (i25_3 + 1))], M) _
                refine ml_st (S' := (89, [(0, .ref m0), (1, .int x1), (2, .int (sL sl x1)), (3, .int (i25_3 + 1))], [.int (sL sl x1), .int (FTx (tx sa ch x1) (sL sl x1) (i25_3 + 1))], M)) rfl rfl rfl ?_
                refine ml_if2 (S1 := (94, [(0, .ref m0), (1, .int x1)], [], M)) (S2 := (92, [(0, .ref m0), (1, .int x1), (2, .int (sL sl x1)), (3, .int (i25_3 + 1))], [], M)) rfl rfl rfl (fun c_89 => ?_) (fun c_89 => ?_)
                · have c_89 : (FTx (tx sa ch x1) (sL sl x1) (i25_3 + 1)) = (sL sl x1) := of_decide_eq_true c_89
                  exact J_94  ((by have q := FTx_b (c := (tx sa ch x1)) (n := (sL sl x1)) (a := i25_3 + 1) (by omega) (by omega) (by omega); have e : FTx (tx sa ch x1) (sL sl x1) (i25_3 + 1) = (sL sl x1) := c_89; rw [e] at q; rcases q with q | q; (rw [q] at hsl0; exact absurd hsl0 (by decide)); omega))
                · have c_89 : ¬ ((FTx (tx sa ch x1) (sL sl x1) (i25_3 + 1)) = (sL sl x1)) := of_decide_eq_false c_89
                  refine ml_st (S' := (93, [(0, .ref m0), (1, .int x1), (2, .int (sL sl x1)), (3, .int (i25_3 + 1))], [.int 0], M)) rfl rfl rfl ?_
                  exact ml_ret rfl (r_z (Or.inl rfl)) (⟨⟨_, rfl, Or.inl rfl, Or.inl rfl⟩, rfl⟩)
              · have c_68 : ¬ (¬ ((i25_3 + 1) + 1) = (sL sl x1)) := of_decide_eq_false c_68
                refine ml_blk 3 (S' := (74, [(3, .int (i25_3 + 1)), (0, .ref m0), (1, .int x1), (2, .int (sL sl x1))], [.int (i25_3 + 1), .int x1, .ref m0], M)) rfl ?_
                refine ml_call (a := [.ref m0, .int x1, .int (i25_3 + 1)]) (rest := []) rfl (hR.okc rfl rfl rfl) rfl rfl (rm_at hR hY (hs0) (hs1) (by omega) (by have e : (i25_3 + 1 + 1).toInt = (sL sl x1).toInt := congrArg Int32.toInt (Decidable.not_not.mp c_68); rw [i_add (by have : (1 : Int32).toInt = 1 := rfl; omega) (by have : (1 : Int32).toInt = 1 := rfl; omega), hk2] at e; have : (1 : Int32).toInt = 1 := rfl; omega) (by omega)) (fun v24 M25 h26 => ?_)
                obtain ⟨rfl, h26⟩ := h26
                rw [h26]
                show ml _ _ _ (77, [(3, .int (i25_3 + 1)), (0, .ref m0), (1, .int x1), (2, .int (sL sl x1))], [.int (tx sa ch x1 (i25_3 + 1))], M) _
                refine ml_st (S' := (79, [(3, .int (i25_3 + 1)), (0, .ref m0), (1, .int x1), (2, .int (sL sl x1))], [.int 86, .int (tx sa ch x1 (i25_3 + 1))], M)) rfl rfl rfl ?_
                refine ml_if2 (S1 := (94, [(0, .ref m0), (1, .int x1)], [], M)) (S2 := (82, [(0, .ref m0), (1, .int x1), (2, .int (sL sl x1)), (3, .int (i25_3 + 1))], [], M)) rfl rfl rfl (fun c_79 => ?_) (fun c_79 => ?_)
                · have c_79 : (tx sa ch x1 (i25_3 + 1)) = 86 := of_decide_eq_true c_79
                  exact J_94  ((by have e : (i25_3 + 1 + 1).toInt = (sL sl x1).toInt := congrArg Int32.toInt (Decidable.not_not.mp c_68); rw [i_add (by have : (1 : Int32).toInt = 1 := rfl; omega) (by have : (1 : Int32).toInt = 1 := rfl; omega), hk2] at e; have : (1 : Int32).toInt = 1 := rfl; omega))
                · have c_79 : ¬ ((tx sa ch x1 (i25_3 + 1)) = 86) := of_decide_eq_false c_79
                  refine ml_blk 3 (S' := (85, [(0, .ref m0), (1, .int x1), (2, .int (sL sl x1)), (3, .int (i25_3 + 1))], [.int (i25_3 + 1), .int x1, .ref m0], M)) rfl ?_
                  refine ml_call (a := [.ref m0, .int x1, .int (i25_3 + 1)]) (rest := []) rfl (hR.okc rfl rfl rfl) rfl rfl (rm_fieldText hR hY (hs0) (hs1) (by omega) (by omega) (by omega)) (fun v27 M28 h29 => ?_)
                  obtain ⟨rfl, h29⟩ := h29
                  rw [h29]
                  show ml _ _ _ (88, [(0, .ref m0), (1, .int x1), (2, .int (sL sl x1)), (3, .int (i25_3 + 1))], [.int (FTx (tx sa ch x1) (sL sl x1) (i25_3 + 1))], M) _
                  refine ml_st (S' := (89, [(0, .ref m0), (1, .int x1), (2, .int (sL sl x1)), (3, .int (i25_3 + 1))], [.int (sL sl x1), .int (FTx (tx sa ch x1) (sL sl x1) (i25_3 + 1))], M)) rfl rfl rfl ?_
                  refine ml_if2 (S1 := (94, [(0, .ref m0), (1, .int x1)], [], M)) (S2 := (92, [(0, .ref m0), (1, .int x1), (2, .int (sL sl x1)), (3, .int (i25_3 + 1))], [], M)) rfl rfl rfl (fun c_89 => ?_) (fun c_89 => ?_)
                  · have c_89 : (FTx (tx sa ch x1) (sL sl x1) (i25_3 + 1)) = (sL sl x1) := of_decide_eq_true c_89
                    exact J_94  ((by have q := FTx_b (c := (tx sa ch x1)) (n := (sL sl x1)) (a := i25_3 + 1) (by omega) (by omega) (by omega); have e : FTx (tx sa ch x1) (sL sl x1) (i25_3 + 1) = (sL sl x1) := c_89; rw [e] at q; rcases q with q | q; (rw [q] at hsl0; exact absurd hsl0 (by decide)); omega))
                  · have c_89 : ¬ ((FTx (tx sa ch x1) (sL sl x1) (i25_3 + 1)) = (sL sl x1)) := of_decide_eq_false c_89
                    refine ml_st (S' := (93, [(0, .ref m0), (1, .int x1), (2, .int (sL sl x1)), (3, .int (i25_3 + 1))], [.int 0], M)) rfl rfl rfl ?_
                    exact ml_ret rfl (r_z (Or.inl rfl)) (⟨⟨_, rfl, Or.inl rfl, Or.inl rfl⟩, rfl⟩)
            · have c_56 : ¬ (i25_3 < (sL sl x1)) := of_decide_eq_false c_56
              refine ml_st (S' := (60, [(0, .ref m0), (1, .int x1), (2, .int (sL sl x1)), (3, .int i25_3)], [.int 0], M)) rfl rfl rfl ?_
              exact ml_ret rfl (r_z (Or.inl rfl)) (⟨⟨_, rfl, Or.inl rfl, Or.inl rfl⟩, rfl⟩)
          refine ml_if2 (S1 := (54, [(0, .ref m0), (1, .int x1), (2, .int (sL sl x1)), (3, .int i25_3)], [], M)) (S2 := (30, [(0, .ref m0), (1, .int x1), (2, .int (sL sl x1)), (3, .int i25_3)], [], M)) rfl rfl rfl (fun c_27 => ?_) (fun c_27 => ?_)
          · have c_27 : (sL sl x1) ≤ i25_3 := of_decide_eq_true c_27
            exact J_54  (Or.inl c_27)
          · have c_27 : ¬ ((sL sl x1) ≤ i25_3) := of_decide_eq_false c_27
            refine ml_blk 3 (S' := (33, [(0, .ref m0), (1, .int x1), (2, .int (sL sl x1)), (3, .int i25_3)], [.int i25_3, .int x1, .ref m0], M)) rfl ?_
            refine ml_call (a := [.ref m0, .int x1, .int i25_3]) (rest := []) rfl (hR.okc rfl rfl rfl) rfl rfl (rm_at hR hY (hs0) (hs1) (by omega) (i_nle c_27) (by omega)) (fun v30 M31 h32 => ?_)
            obtain ⟨rfl, h32⟩ := h32
            rw [h32]
            show ml _ _ _ (36, [(0, .ref m0), (1, .int x1), (2, .int (sL sl x1)), (3, .int i25_3)], [.int (tx sa ch x1 i25_3)], M) _
            refine ml_st (S' := (38, [(0, .ref m0), (1, .int x1), (2, .int (sL sl x1)), (3, .int i25_3)], [.int 41, .int (tx sa ch x1 i25_3)], M)) rfl rfl rfl ?_
            refine ml_if2 (S1 := (54, [(0, .ref m0), (1, .int x1), (2, .int (sL sl x1)), (3, .int i25_3)], [], M)) (S2 := (41, [(0, .ref m0), (1, .int x1), (2, .int (sL sl x1)), (3, .int i25_3)], [], M)) rfl rfl rfl (fun c_38 => ?_) (fun c_38 => ?_)
            · have c_38 : (tx sa ch x1 i25_3) = 41 := of_decide_eq_true c_38
              exact J_54  (Or.inr c_38)
            · have c_38 : ¬ ((tx sa ch x1 i25_3) = 41) := of_decide_eq_false c_38
              refine ml_blk 3 (S' := (44, [(0, .ref m0), (1, .int x1), (2, .int (sL sl x1)), (3, .int i25_3)], [.int i25_3, .int x1, .ref m0], M)) rfl ?_
              refine ml_call (a := [.ref m0, .int x1, .int i25_3]) (rest := []) rfl (hR.okc rfl rfl rfl) rfl rfl (rm_fieldText hR hY (hs0) (hs1) (by omega) (hkn) (by omega)) (fun v33 M34 h35 => ?_)
              obtain ⟨rfl, h35⟩ := h35
              rw [h35]
              show ml _ _ _ (47, [(0, .ref m0), (1, .int x1), (2, .int (sL sl x1)), (3, .int i25_3)], [.int (FTx (tx sa ch x1) (sL sl x1) i25_3)], M) _
              refine ml_st (S' := (48, [(3, .int (FTx (tx sa ch x1) (sL sl x1) i25_3)), (0, .ref m0), (1, .int x1), (2, .int (sL sl x1))], [], M)) rfl rfl rfl ?_
              refine ml_st (S' := (49, [(3, .int (FTx (tx sa ch x1) (sL sl x1) i25_3)), (0, .ref m0), (1, .int x1), (2, .int (sL sl x1))], [.int (FTx (tx sa ch x1) (sL sl x1) i25_3)], M)) rfl rfl rfl ?_
              refine ml_if (S1 := (25, [(0, .ref m0), (1, .int x1), (2, .int (sL sl x1)), (3, .int (FTx (tx sa ch x1) (sL sl x1) i25_3))], [], M)) (S2 := (52, [(3, .int (FTx (tx sa ch x1) (sL sl x1) i25_3)), (0, .ref m0), (1, .int x1), (2, .int (sL sl x1))], [], M)) rfl rfl rfl (fun c_49 => ?_) (fun c_49 => ?_)
              · have c_49 : 0 ≤ (FTx (tx sa ch x1) (sL sl x1) i25_3) := of_decide_eq_true c_49
                have hft := (FTx_b (c := (tx sa ch x1)) (n := (sL sl x1)) (a := i25_3) (by omega) hkn (by omega)).resolve_left (fun e => absurd (e ▸ c_49 : (0 : Int32) ≤ -1) (by decide))
                exact ih_25 (FTx (tx sa ch x1) (sL sl x1) i25_3) (by have := hft.1; omega) (⟨by omega, hft.2, m9 + 1, i25_3, hit, by omega, i_nle c_27, c_38, rfl, hft.1, hft.2⟩)
              · have c_49 : ¬ (0 ≤ (FTx (tx sa ch x1) (sL sl x1) i25_3)) := of_decide_eq_false c_49
                refine ml_st (S' := (53, [(3, .int (FTx (tx sa ch x1) (sL sl x1) i25_3)), (0, .ref m0), (1, .int x1), (2, .int (sL sl x1))], [.int 0], M)) rfl rfl rfl ?_
                exact ml_ret rfl (r_z (Or.inl rfl)) (⟨⟨_, rfl, Or.inl rfl, Or.inl rfl⟩, rfl⟩)
      exact L_25 _ 1 (Nat.le_refl _) (⟨by decide, by have h7 : (sL sl x1).toInt ≠ 0 := (fun e => c_7 (Int32.toInt_inj.mp e)); show (1 : Int) ≤ _; omega, 0, rfl⟩)
    · have c_18 : ¬ ((tx sa ch x1 0) = 40) := of_decide_eq_false c_18
      refine ml_st (S' := (22, [], [.int 0], M)) rfl rfl rfl ?_
      exact ml_ret rfl (r_z (Or.inl rfl)) (⟨⟨_, rfl, Or.inl rfl, Or.inl rfl⟩, rfl⟩)
set_option maxHeartbeats 2000000 in
theorem rm_places {g : xe_G}  {m0 : Nat} {q : Nat → Nat} {z : Nat × Nat} {I : rI} {R : rR} {M : mi_H} {x1 kn : Int32} {n : Nat} {f : Nat → Int32}  (hR : RS g m0 q z I R M) (hk18 : I 18 = some kn) (hG : (kn < 0 ∨ GD n f I R)) {d : Nat} (hd : 6 ≤ d) : mt (mT g) d 232 [.ref m0, .int x1] M (fun v M' => ∃ (x : Int32) (I' : rI) (R' : rR), v = some (.int x) ∧ RS g m0 q z I' R' M' ∧ eqI [0] I I' ∧ eqR [] R R') := by
  obtain ⟨d, rfl⟩ : ∃ e, d = e + 1 := ⟨d - 1, by omega⟩
  refine mt_in (b := mb_232 g) rfl rfl ?_
  show ml (mT g) d (mb_232 g).2 (0, [(0, .ref m0), (1, .int x1)], [], M) _
  refine ml_blk 2 (S' := (2, [(0, .ref m0), (1, .int x1)], [.int 0, .ref m0], M)) rfl ?_
  refine rp_int rfl hR rfl (fun M11 I12 hR13 e14 f15 => ?_)
  show ml _ _ _ (5, [(0, .ref m0), (1, .int x1)], [], M11) _
  refine ml_st (S' := (6, [(0, .ref m0), (1, .int x1)], [.ref m0], M11)) rfl rfl rfl ?_
  refine rg_int (S' := (9, [(0, .ref m0), (1, .int x1)], [.int kn], M11)) rfl hR13 rfl ((f15 18 (by decide)).trans (hk18)) rfl ?_
  refine ml_if (S1 := (21, [], [], M11)) (S2 := (12, [(0, .ref m0), (1, .int x1)], [], M11)) rfl rfl rfl (fun c_9 => ?_) (fun c_9 => ?_)
  · have c_9 : kn < 0 := of_decide_eq_true c_9
    refine ml_st (S' := (22, [], [.int (-1)], M11)) rfl rfl rfl ?_
    exact ml_ret rfl (rfl) (⟨_, _, _, rfl, hR13, (eqI.rf.put f15 (by decide)), eqR.rf⟩)
  · have c_9 : ¬ (kn < 0) := of_decide_eq_false c_9
    obtain ⟨S, cN, sa, sl, ch, cp, mj, pa, py, hA, fA, mA, aA, nf, ni, kf, km, hF0, hY0, hP0, hE0, hFO, kq54, kq58, kq61, hkf, kq25, hfk, hkm, kq26, hmk, hNW⟩ := hG.resolve_left (c_9)
    have hn := hF0.1
    refine ml_blk 2 (S' := (14, [(0, .ref m0), (1, .int x1)], [.int x1, .ref m0], M11)) rfl ?_
    have hF16 : FK n f I12 R := (hF0.mono (pIx f15 (by decide)) (fun _ _ => rfl))
    have hP17 : PK n f S cp mj pa py I12 R := (hP0.mono (pIx f15 (by decide)) (fun _ _ => rfl))
    refine ml_call (a := [.ref m0, .int x1]) (rest := []) rfl (hR13.okc rfl rfl rfl) rfl rfl (rm_tag hR13 hF16 hP17 (by omega)) (fun v18 M19 h20 => ?_)
    obtain ⟨rfl, h20⟩ := h20
    rw [h20]
    show ml _ _ _ (17, [(0, .ref m0), (1, .int x1)], [.int (tgf f cp pa x1)], M11) _
    refine ml_st (S' := (18, [(0, .ref m0), (1, .int x1)], [.int 1, .int (tgf f cp pa x1)], M11)) rfl rfl rfl ?_
    refine ml_if2 (S1 := (23, [(0, .ref m0), (1, .int x1)], [], M11)) (S2 := (21, [], [], M11)) rfl rfl rfl (fun c_18 => ?_) (fun c_18 => ?_)
    · have c_18 : (tgf f cp pa x1) = 1 := of_decide_eq_true c_18
      have hy := hP0.y (show tgf f cp pa x1 = 1 from c_18)
      have hs0 := hy.2.2.1
      have hs1 := hy.2.2.2
      have hsl9 := hY0.s hs0 hs1
      have hs66 : (sL sl (pyf py x1)).toInt ≤ 66000 := by show (sl (pyf py x1).toNatClampNeg).toInt ≤ 66000; omega
      refine ml_blk 2 (S' := (25, [(0, .ref m0), (1, .int x1)], [.int x1, .ref m0], M11)) rfl ?_
      refine ml_call (a := [.ref m0, .int x1]) (rest := []) rfl (hR13.okc rfl rfl rfl) rfl rfl (rm_symOf hR13 hP17 (c_18) (by omega)) (fun v21 M22 h23 => ?_)
      obtain ⟨rfl, h23⟩ := h23
      rw [h23]
      show ml _ _ _ (28, [(0, .ref m0), (1, .int x1)], [.int (pyf py x1)], M11) _
      refine ml_st (S' := (29, [(2, .int (pyf py x1)), (0, .ref m0), (1, .int x1)], [], M11)) rfl rfl rfl ?_
      refine ml_blk 2 (S' := (31, [(2, .int (pyf py x1)), (0, .ref m0), (1, .int x1)], [.int (pyf py x1), .ref m0], M11)) rfl ?_
      have hY24 : SK S cN sa sl ch I12 R := (hY0.mono (pIx f15 (by decide)) (fun _ _ => rfl))
      refine ml_call (a := [.ref m0, .int (pyf py x1)]) (rest := []) rfl (hR13.okc rfl rfl rfl) rfl rfl (rm_isField hR13 hY24 (hs0) (hs1) (by omega)) (fun v25 M26 h27 => ?_)
      obtain ⟨⟨u28, rfl, z29, w30⟩, h27⟩ := h27
      rw [h27]
      show ml _ _ _ (34, [(2, .int (pyf py x1)), (0, .ref m0), (1, .int x1)], [.int u28], M11) _
      refine ml_if (S1 := (52, [(2, .int (pyf py x1)), (0, .ref m0), (1, .int x1)], [], M11)) (S2 := (37, [(2, .int (pyf py x1)), (0, .ref m0), (1, .int x1)], [], M11)) rfl rfl rfl (fun c_34 => ?_) (fun c_34 => ?_)
      · have c_34 : u28 = 0 := of_decide_eq_true c_34
        refine ml_blk 2 (S' := (54, [(2, .int (pyf py x1)), (0, .ref m0), (1, .int x1)], [.int (pyf py x1), .ref m0], M11)) rfl ?_
        refine ml_call (a := [.ref m0, .int (pyf py x1)]) (rest := []) rfl (hR13.okc rfl rfl rfl) rfl rfl (rm_isMethodX hR13 hY24 (hs0) (hs1) (by omega)) (fun v31 M32 h33 => ?_)
        obtain ⟨⟨u34, rfl, z35, w36⟩, h33⟩ := h33
        rw [h33]
        show ml _ _ _ (57, [(2, .int (pyf py x1)), (0, .ref m0), (1, .int x1)], [.int u34], M11) _
        refine ml_if (S1 := (62, [(2, .int (pyf py x1)), (0, .ref m0), (1, .int x1)], [], M11)) (S2 := (60, [(2, .int (pyf py x1)), (0, .ref m0), (1, .int x1)], [], M11)) rfl rfl rfl (fun c_57 => ?_) (fun c_57 => ?_)
        · have c_57 : ¬ u34 = 0 := of_decide_eq_true c_57
          obtain ⟨hmtx, hagx⟩ := w36.resolve_left c_57
          have hL1 : ((sL sl (pyf py x1)) - 1).toInt = (sL sl (pyf py x1)).toInt - 1 := i_sub (by have : (1 : Int32).toInt = 1 := rfl; have := hmtx.2; omega) (by have : (1 : Int32).toInt = 1 := rfl; have := hmtx.2; omega)
          have hl3 := hmtx.2
          refine ml_blk 2 (S' := (64, [(2, .int (pyf py x1)), (0, .ref m0), (1, .int x1)], [.int (pyf py x1), .ref m0], M11)) rfl ?_
          refine ml_call (a := [.ref m0, .int (pyf py x1)]) (rest := []) rfl (hR13.okc rfl rfl rfl) rfl rfl (rm_length hR13 hY24 (hs0) (hs1) (by omega)) (fun v37 M38 h39 => ?_)
          obtain ⟨rfl, h39⟩ := h39
          rw [h39]
          show ml _ _ _ (67, [(2, .int (pyf py x1)), (0, .ref m0), (1, .int x1)], [.int (sL sl (pyf py x1))], M11) _
          refine ml_blk 2 (S' := (69, [(2, .int (pyf py x1)), (0, .ref m0), (1, .int x1)], [.int ((sL sl (pyf py x1)) - 1)], M11)) rfl ?_
          refine ml_st (S' := (70, [(3, .int ((sL sl (pyf py x1)) - 1)), (2, .int (pyf py x1)), (0, .ref m0), (1, .int x1)], [], M11)) rfl rfl rfl ?_
          refine ml_st (S' := (71, [(3, .int ((sL sl (pyf py x1)) - 1)), (2, .int (pyf py x1)), (0, .ref m0), (1, .int x1)], [.int 1], M11)) rfl rfl rfl ?_
          refine ml_st (S' := (73, [(0, .ref m0), (2, .int (pyf py x1)), (3, .int ((sL sl (pyf py x1)) - 1)), (4, .int 1)], [], M11)) rfl rfl rfl ?_
          have L_73 : ∀ (n_73 : Nat) (i73_4 : Int32), (2147483648 - i73_4.toInt).toNat ≤ n_73 → (AGX (tx sa ch (pyf py x1)) (sL sl (pyf py x1)) i73_4) → ml (mT g) d (mb_232 g).2 (73, [(0, .ref m0), (2, .int (pyf py x1)), (3, .int ((sL sl (pyf py x1)) - 1)), (4, .int i73_4)], [], M11) (fun v M' => ∃ (x : Int32) (I' : rI) (R' : rR), v = some (.int x) ∧ RS g m0 q z I' R' M' ∧ eqI [0] I I' ∧ eqR [] R R') := by
            intro n_73
            induction n_73 with
            | zero => intro i73_4 hn; exact (loop_zero hn).elim
            | succ n_73 ih_73 =>
              intro i73_4 hn_73 hi_73
              have hb := hi_73.w.at
              refine ml_blk 3 (S' := (77, [(0, .ref m0), (2, .int (pyf py x1)), (3, .int ((sL sl (pyf py x1)) - 1)), (4, .int i73_4)], [.int i73_4, .int (pyf py x1), .ref m0], M11)) rfl ?_
              refine ml_call (a := [.ref m0, .int (pyf py x1), .int i73_4]) (rest := []) rfl (hR13.okc rfl rfl rfl) rfl rfl (rm_at hR13 hY24 (hs0) (hs1) (hb.1) (hb.2) (by omega)) (fun v40 M41 h42 => ?_)
              obtain ⟨rfl, h42⟩ := h42
              rw [h42]
              show ml _ _ _ (80, [(0, .ref m0), (2, .int (pyf py x1)), (3, .int ((sL sl (pyf py x1)) - 1)), (4, .int i73_4)], [.int (tx sa ch (pyf py x1) i73_4)], M11) _
              refine ml_st (S' := (82, [(0, .ref m0), (2, .int (pyf py x1)), (3, .int ((sL sl (pyf py x1)) - 1)), (4, .int i73_4)], [.int 41, .int (tx sa ch (pyf py x1) i73_4)], M11)) rfl rfl rfl ?_
              refine ml_if2 (S1 := (97, [(0, .ref m0), (2, .int (pyf py x1)), (3, .int ((sL sl (pyf py x1)) - 1)), (4, .int i73_4)], [], M11)) (S2 := (85, [(0, .ref m0), (2, .int (pyf py x1)), (3, .int ((sL sl (pyf py x1)) - 1)), (4, .int i73_4)], [], M11)) rfl rfl rfl (fun c_82 => ?_) (fun c_82 => ?_)
              · have c_82 : (tx sa ch (pyf py x1) i73_4) = 41 := of_decide_eq_true c_82
                have hz := hi_73.end c_82
                have er : (i73_4 + 1).toInt = i73_4.toInt + 1 := i_add (by have : (1 : Int32).toInt = 1 := rfl; omega) (by have : (1 : Int32).toInt = 1 := rfl; omega)
                refine ml_blk 2 (S' := (99, [(0, .ref m0), (2, .int (pyf py x1)), (3, .int ((sL sl (pyf py x1)) - 1)), (4, .int i73_4)], [.int (pyf py x1), .ref m0], M11)) rfl ?_
                refine ml_call (a := [.ref m0, .int (pyf py x1)]) (rest := []) rfl (hR13.okc rfl rfl rfl) rfl rfl (rm_places0 hR13 hY24 (hs0) (hs1) (hmtx.1) (by omega)) (fun v43 M44 h45 => ?_)
                obtain ⟨⟨u46, rfl⟩, h45⟩ := h45
                rw [h45]
                show ml _ _ _ (102, [(0, .ref m0), (2, .int (pyf py x1)), (3, .int ((sL sl (pyf py x1)) - 1)), (4, .int i73_4)], [.int u46], M11) _
                refine ml_blk 3 (S' := (107, [(0, .ref m0), (2, .int (pyf py x1)), (3, .int ((sL sl (pyf py x1)) - 1)), (4, .int i73_4)], [.int (pyf py x1), .ref m0, .int 1024, .int u46], M11)) rfl ?_
                refine ml_st (S' := (108, [(0, .ref m0), (2, .int (pyf py x1)), (3, .int ((sL sl (pyf py x1)) - 1)), (4, .int i73_4)], [.int ((sL sl (pyf py x1)) - 1), .int (pyf py x1), .ref m0, .int 1024, .int u46], M11)) rfl rfl rfl ?_
                refine ml_call (a := [.ref m0, .int (pyf py x1), .int ((sL sl (pyf py x1)) - 1)]) (rest := [.int 1024, .int u46]) rfl (hR13.okc rfl rfl rfl) rfl rfl (rm_at hR13 hY24 (hs0) (hs1) (by omega) (by omega) (by omega)) (fun v47 M48 h49 => ?_)
                obtain ⟨rfl, h49⟩ := h49
                rw [h49]
                show ml _ _ _ (111, [(0, .ref m0), (2, .int (pyf py x1)), (3, .int ((sL sl (pyf py x1)) - 1)), (4, .int i73_4)], [.int (tx sa ch (pyf py x1) ((sL sl (pyf py x1)) - 1)), .int 1024, .int u46], M11) _
                refine ml_st (S' := (113, [(0, .ref m0), (2, .int (pyf py x1)), (3, .int ((sL sl (pyf py x1)) - 1)), (4, .int i73_4)], [.int 86, .int (tx sa ch (pyf py x1) ((sL sl (pyf py x1)) - 1)), .int 1024, .int u46], M11)) rfl rfl rfl ?_
                refine ml_if2 (S1 := (128, [(0, .ref m0), (2, .int (pyf py x1)), (4, .int i73_4)], [.int 1024, .int u46], M11)) (S2 := (116, [(0, .ref m0), (2, .int (pyf py x1)), (3, .int ((sL sl (pyf py x1)) - 1)), (4, .int i73_4)], [.int 1024, .int u46], M11)) rfl rfl rfl (fun c_113 => ?_) (fun c_113 => ?_)
                · have c_113 : ¬ (tx sa ch (pyf py x1) ((sL sl (pyf py x1)) - 1)) = 86 := of_decide_eq_true c_113
                  refine ml_blk 3 (S' := (132, [(0, .ref m0), (2, .int (pyf py x1)), (4, .int i73_4)], [.int i73_4, .int (pyf py x1), .ref m0, .int 1024, .int u46], M11)) rfl ?_
                  refine ml_blk 2 (S' := (134, [(0, .ref m0), (2, .int (pyf py x1)), (4, .int i73_4)], [.int (i73_4 + 1), .int (pyf py x1), .ref m0, .int 1024, .int u46], M11)) rfl ?_
                  refine ml_call (a := [.ref m0, .int (pyf py x1), .int (i73_4 + 1)]) (rest := [.int 1024, .int u46]) rfl (hR13.okc rfl rfl rfl) rfl rfl (rm_wide hR13 hY24 (hs0) (hs1) (by omega) (by omega) (by omega)) (fun v50 M51 h52 => ?_)
                  obtain ⟨⟨u53, rfl, z54⟩, h52⟩ := h52
                  rw [h52]
                  show ml _ _ _ (137, [(0, .ref m0), (2, .int (pyf py x1)), (4, .int i73_4)], [.int u53, .int 1024, .int u46], M11) _
                  refine ml_if (S1 := (144, [(0, .ref m0), (2, .int (pyf py x1)), (4, .int i73_4)], [.int 1024, .int u46], M11)) (S2 := (140, [(0, .ref m0), (2, .int (pyf py x1)), (4, .int i73_4)], [.int 1024, .int u46], M11)) rfl rfl rfl (fun c_137 => ?_) (fun c_137 => ?_)
                  · have c_137 : u53 = 0 := of_decide_eq_true c_137
                    refine ml_st (S' := (145, [], [.int 1, .int 1024, .int u46], M11)) rfl rfl rfl ?_
                    refine ml_blk 2 (S' := (147, [], [.int (u46 + (1024 * 1))], M11)) rfl ?_
                    exact ml_ret rfl (rfl) (⟨_, _, _, rfl, hR13, (eqI.rf.put f15 (by decide)), eqR.rf⟩)
                  · have c_137 : ¬ (u53 = 0) := of_decide_eq_false c_137
                    refine ml_st (S' := (141, [(0, .ref m0), (2, .int (pyf py x1)), (4, .int i73_4)], [.int 2, .int 1024, .int u46], M11)) rfl rfl rfl ?_
                    refine ml_st (S' := (145, [], [.int 2, .int 1024, .int u46], M11)) rfl rfl rfl ?_
                    refine ml_blk 2 (S' := (147, [], [.int (u46 + (1024 * 2))], M11)) rfl ?_
                    exact ml_ret rfl (rfl) (⟨_, _, _, rfl, hR13, (eqI.rf.put f15 (by decide)), eqR.rf⟩)
                · have c_113 : ¬ (¬ (tx sa ch (pyf py x1) ((sL sl (pyf py x1)) - 1)) = 86) := of_decide_eq_false c_113
                  refine ml_blk 3 (S' := (120, [(0, .ref m0), (2, .int (pyf py x1)), (3, .int ((sL sl (pyf py x1)) - 1)), (4, .int i73_4)], [.int 1, .int i73_4, .int ((sL sl (pyf py x1)) - 1), .int 1024, .int u46], M11)) rfl ?_
                  refine ml_st (S' := (121, [(0, .ref m0), (2, .int (pyf py x1)), (3, .int ((sL sl (pyf py x1)) - 1)), (4, .int i73_4)], [.int (i73_4 + 1), .int ((sL sl (pyf py x1)) - 1), .int 1024, .int u46], M11)) rfl rfl rfl ?_
                  refine ml_if2 (S1 := (128, [(0, .ref m0), (2, .int (pyf py x1)), (4, .int i73_4)], [.int 1024, .int u46], M11)) (S2 := (124, [(0, .ref m0), (2, .int (pyf py x1)), (3, .int ((sL sl (pyf py x1)) - 1)), (4, .int i73_4)], [.int 1024, .int u46], M11)) rfl rfl rfl (fun c_121 => ?_) (fun c_121 => ?_)
                  · have c_121 : ¬ ((sL sl (pyf py x1)) - 1) = (i73_4 + 1) := of_decide_eq_true c_121
                    refine ml_blk 3 (S' := (132, [(0, .ref m0), (2, .int (pyf py x1)), (4, .int i73_4)], [.int i73_4, .int (pyf py x1), .ref m0, .int 1024, .int u46], M11)) rfl ?_
                    refine ml_blk 2 (S' := (134, [(0, .ref m0), (2, .int (pyf py x1)), (4, .int i73_4)], [.int (i73_4 + 1), .int (pyf py x1), .ref m0, .int 1024, .int u46], M11)) rfl ?_
                    refine ml_call (a := [.ref m0, .int (pyf py x1), .int (i73_4 + 1)]) (rest := [.int 1024, .int u46]) rfl (hR13.okc rfl rfl rfl) rfl rfl (rm_wide hR13 hY24 (hs0) (hs1) (by omega) (by omega) (by omega)) (fun v55 M56 h57 => ?_)
                    obtain ⟨⟨u58, rfl, z59⟩, h57⟩ := h57
                    rw [h57]
                    show ml _ _ _ (137, [(0, .ref m0), (2, .int (pyf py x1)), (4, .int i73_4)], [.int u58, .int 1024, .int u46], M11) _
                    refine ml_if (S1 := (144, [(0, .ref m0), (2, .int (pyf py x1)), (4, .int i73_4)], [.int 1024, .int u46], M11)) (S2 := (140, [(0, .ref m0), (2, .int (pyf py x1)), (4, .int i73_4)], [.int 1024, .int u46], M11)) rfl rfl rfl (fun c_137 => ?_) (fun c_137 => ?_)
                    · have c_137 : u58 = 0 := of_decide_eq_true c_137
                      refine ml_st (S' := (145, [], [.int 1, .int 1024, .int u46], M11)) rfl rfl rfl ?_
                      refine ml_blk 2 (S' := (147, [], [.int (u46 + (1024 * 1))], M11)) rfl ?_
                      exact ml_ret rfl (rfl) (⟨_, _, _, rfl, hR13, (eqI.rf.put f15 (by decide)), eqR.rf⟩)
                    · have c_137 : ¬ (u58 = 0) := of_decide_eq_false c_137
                      refine ml_st (S' := (141, [(0, .ref m0), (2, .int (pyf py x1)), (4, .int i73_4)], [.int 2, .int 1024, .int u46], M11)) rfl rfl rfl ?_
                      refine ml_st (S' := (145, [], [.int 2, .int 1024, .int u46], M11)) rfl rfl rfl ?_
                      refine ml_blk 2 (S' := (147, [], [.int (u46 + (1024 * 2))], M11)) rfl ?_
                      exact ml_ret rfl (rfl) (⟨_, _, _, rfl, hR13, (eqI.rf.put f15 (by decide)), eqR.rf⟩)
                  · have c_121 : ¬ (¬ ((sL sl (pyf py x1)) - 1) = (i73_4 + 1)) := of_decide_eq_false c_121
                    refine ml_st (S' := (125, [(0, .ref m0), (2, .int (pyf py x1)), (3, .int ((sL sl (pyf py x1)) - 1)), (4, .int i73_4)], [.int 0, .int 1024, .int u46], M11)) rfl rfl rfl ?_
                    refine ml_st (S' := (145, [], [.int 0, .int 1024, .int u46], M11)) rfl rfl rfl ?_
                    refine ml_blk 2 (S' := (147, [], [.int (u46 + (1024 * 0))], M11)) rfl ?_
                    exact ml_ret rfl (rfl) (⟨_, _, _, rfl, hR13, (eqI.rf.put f15 (by decide)), eqR.rf⟩)
              · have c_82 : ¬ ((tx sa ch (pyf py x1) i73_4) = 41) := of_decide_eq_false c_82
                refine ml_blk 3 (S' := (89, [(0, .ref m0), (2, .int (pyf py x1)), (3, .int ((sL sl (pyf py x1)) - 1)), (4, .int i73_4)], [.int i73_4, .int (pyf py x1), .ref m0], M11)) rfl ?_
                refine ml_call (a := [.ref m0, .int (pyf py x1), .int i73_4]) (rest := []) rfl (hR13.okc rfl rfl rfl) rfl rfl (rm_fieldText hR13 hY24 (hs0) (hs1) (hb.1) (by omega) (by omega)) (fun v60 M61 h62 => ?_)
                obtain ⟨rfl, h62⟩ := h62
                rw [h62]
                show ml _ _ _ (92, [(0, .ref m0), (2, .int (pyf py x1)), (3, .int ((sL sl (pyf py x1)) - 1)), (4, .int i73_4)], [.int (FTx (tx sa ch (pyf py x1)) (sL sl (pyf py x1)) i73_4)], M11) _
                refine ml_st (S' := (94, [(4, .int (FTx (tx sa ch (pyf py x1)) (sL sl (pyf py x1)) i73_4)), (0, .ref m0), (2, .int (pyf py x1)), (3, .int ((sL sl (pyf py x1)) - 1))], [], M11)) rfl rfl rfl ?_
                refine ml_st (S' := (73, [(0, .ref m0), (2, .int (pyf py x1)), (3, .int ((sL sl (pyf py x1)) - 1)), (4, .int (FTx (tx sa ch (pyf py x1)) (sL sl (pyf py x1)) i73_4))], [], M11)) rfl rfl rfl ?_
                exact ih_73 (FTx (tx sa ch (pyf py x1)) (sL sl (pyf py x1)) i73_4) (by have := (hi_73.next c_82).1; omega) ((hi_73.next c_82).2)
          exact L_73 _ 1 (Nat.le_refl _) (hagx)
        · have c_57 : ¬ (¬ u34 = 0) := of_decide_eq_false c_57
          refine ml_st (S' := (61, [(2, .int (pyf py x1)), (0, .ref m0), (1, .int x1)], [.int (-1)], M11)) rfl rfl rfl ?_
          exact ml_ret rfl (rfl) (⟨_, _, _, rfl, hR13, (eqI.rf.put f15 (by decide)), eqR.rf⟩)
      · have c_34 : ¬ (u28 = 0) := of_decide_eq_false c_34
        have hif := w30.resolve_left c_34
        refine ml_blk 3 (S' := (40, [(2, .int (pyf py x1)), (0, .ref m0), (1, .int x1)], [.int 0, .int (pyf py x1), .ref m0], M11)) rfl ?_
        refine ml_call (a := [.ref m0, .int (pyf py x1), .int 0]) (rest := []) rfl (hR13.okc rfl rfl rfl) rfl rfl (rm_wide hR13 hY24 (hs0) (hs1) (by decide) (by have : (0 : Int32).toInt = 0 := rfl; omega) (by omega)) (fun v63 M64 h65 => ?_)
        obtain ⟨⟨u66, rfl, z67⟩, h65⟩ := h65
        rw [h65]
        show ml _ _ _ (43, [(2, .int (pyf py x1)), (0, .ref m0), (1, .int x1)], [.int u66], M11) _
        refine ml_if (S1 := (50, [(2, .int (pyf py x1)), (0, .ref m0), (1, .int x1)], [], M11)) (S2 := (46, [(2, .int (pyf py x1)), (0, .ref m0), (1, .int x1)], [], M11)) rfl rfl rfl (fun c_43 => ?_) (fun c_43 => ?_)
        · have c_43 : u66 = 0 := of_decide_eq_true c_43
          refine ml_st (S' := (51, [], [.int 1], M11)) rfl rfl rfl ?_
          exact ml_ret rfl (rfl) (⟨_, _, _, rfl, hR13, (eqI.rf.put f15 (by decide)), eqR.rf⟩)
        · have c_43 : ¬ (u66 = 0) := of_decide_eq_false c_43
          refine ml_st (S' := (47, [(2, .int (pyf py x1)), (0, .ref m0), (1, .int x1)], [.int 2], M11)) rfl rfl rfl ?_
          refine ml_st (S' := (51, [], [.int 2], M11)) rfl rfl rfl ?_
          exact ml_ret rfl (rfl) (⟨_, _, _, rfl, hR13, (eqI.rf.put f15 (by decide)), eqR.rf⟩)
    · have c_18 : ¬ ((tgf f cp pa x1) = 1) := of_decide_eq_false c_18
      refine ml_st (S' := (22, [], [.int (-1)], M11)) rfl rfl rfl ?_
      exact ml_ret rfl (rfl) (⟨_, _, _, rfl, hR13, (eqI.rf.put f15 (by decide)), eqR.rf⟩)
set_option maxHeartbeats 2000000 in
theorem rm_four {g : xe_G}  {m0 : Nat} {q : Nat → Nat} {z : Nat × Nat} {I : rI} {R : rR} {M : mi_H} {x1 : Int32} {cc : Nat}  (hR : RS g m0 q z I R M) (hk19 : I 19 = some (nI cc)) (hcc : cc + 4 ≤ 65540) (hkb0 : KB 15 cc R) {d : Nat} (hd : 1 ≤ d) : mt (mT g) d 211 [.ref m0, .int x1] M (fun v M' => v = none ∧ ∃ (I' : rI) (R' : rR), RS g m0 q z I' R' M' ∧ eqI [19] I I' ∧ eqR [15] R R' ∧ (I' 19 = some (nI (cc + 4)) ∧ KB 15 (cc + 4) R')) := by
  obtain ⟨d, rfl⟩ : ∃ e, d = e + 1 := ⟨d - 1, by omega⟩
  refine mt_in (b := mb_211 g) rfl rfl ?_
  show ml (mT g) d (mb_211 g).2 (0, [(0, .ref m0), (1, .int x1)], [], M) _
  refine ml_st (S' := (2, [(0, .ref m0), (1, .int x1)], [.int 24], M)) rfl rfl rfl ?_
  refine ml_st (S' := (3, [(0, .ref m0), (1, .int x1), (2, .int 24)], [], M)) rfl rfl rfl ?_
  have L_3 : ∀ (n_3 : Nat) (i3_2 : Int32) (j : Nat) (M_3 : mi_H) (I_3 : rI) (R_3 : rR), (i3_2.toInt + 9).toNat ≤ n_3 → RS g m0 q z I_3 R_3 M_3 → eqI [19] I I_3 → eqR [15] R R_3 → (j ≤ 4 ∧ i3_2.toInt = 24 - 8 * (j : Int) ∧ I_3 19 = some (nI (cc + j)) ∧ KB 15 (cc + j) R_3) → ml (mT g) d (mb_211 g).2 (3, [(0, .ref m0), (1, .int x1), (2, .int i3_2)], [], M_3) (fun v M' => v = none ∧ ∃ (I' : rI) (R' : rR), RS g m0 q z I' R' M' ∧ eqI [19] I I' ∧ eqR [15] R R' ∧ (I' 19 = some (nI (cc + 4)) ∧ KB 15 (cc + 4) R')) := by
    intro n_3
    induction n_3 with
    | zero => intro i3_2 j M_3 I_3 R_3 hn hR_3 hI_3 hV_3 hi; exact absurd hn (by obtain ⟨a1, a2, -⟩ := hi; omega)
    | succ n_3 ih_3 =>
      intro i3_2 j M_3 I_3 R_3 hn_3 hR_3 hI_3 hV_3 hi_3
      obtain ⟨hj4, hji, h19, hkb⟩ := hi_3
      refine ml_st (S' := (4, [(0, .ref m0), (1, .int x1), (2, .int i3_2)], [.int i3_2], M_3)) rfl rfl rfl ?_
      refine ml_if (S1 := (33, [(0, .ref m0), (1, .int x1), (2, .int i3_2)], [], M_3)) (S2 := (7, [(0, .ref m0), (1, .int x1), (2, .int i3_2)], [], M_3)) rfl rfl rfl (fun c_4 => ?_) (fun c_4 => ?_)
      · have c_4 : i3_2 < 0 := of_decide_eq_true c_4
        exact ml_ret rfl (rfl) (⟨rfl, _, _, hR_3, (eqI.rf.tr hI_3 (by decide)), (eqR.rf.tr hV_3 (by decide)), ⟨by have hx : j = 4 := (by have := i_lt c_4; have : (0 : Int32).toInt = 0 := rfl; omega); subst hx; exact h19, by have hx : j = 4 := (by have := i_lt c_4; have : (0 : Int32).toInt = 0 := rfl; omega); subst hx; exact hkb⟩⟩)
      · have c_4 : ¬ (i3_2 < 0) := of_decide_eq_false c_4
        have h8 : 0 ≤ i3_2.toInt := by have := i_nlt c_4; have : (0 : Int32).toInt = 0 := rfl; omega
        have hN := nI_s1 (c := cc + j) (by omega)
        have hv : (nI (cc + j)).toInt = ((cc + j : Nat) : Int) := nI_val (by omega)
        refine ml_st (S' := (8, [(0, .ref m0), (1, .int x1), (2, .int i3_2)], [.ref m0], M_3)) rfl rfl rfl ?_
        refine rg_ref (S' := (11, [(0, .ref m0), (1, .int x1), (2, .int i3_2)], [.ref (q 15)], M_3)) rfl hR_3 rfl rfl ?_
        refine ml_blk 2 (S' := (13, [(0, .ref m0), (1, .int x1), (2, .int i3_2)], [.ref m0, .ref m0, .ref (q 15)], M_3)) rfl ?_
        refine rg_int (S' := (16, [(0, .ref m0), (1, .int x1), (2, .int i3_2)], [.int (nI (cc + j)), .ref m0, .ref (q 15)], M_3)) rfl hR_3 rfl (h19) rfl ?_
        refine ml_blk 3 (S' := (19, [(0, .ref m0), (1, .int x1), (2, .int i3_2)], [.int ((nI (cc + j)) + 1), .ref m0, .int (nI (cc + j)), .ref (q 15)], M_3)) rfl ?_
        refine rp_int rfl hR_3 rfl (fun M11 I12 hR13 e14 f15 => ?_)
        show ml _ _ _ (22, [(0, .ref m0), (1, .int x1), (2, .int i3_2)], [.int (nI (cc + j)), .ref (q 15)], M11) _
        refine ml_blk 3 (S' := (25, [(0, .ref m0), (1, .int x1), (2, .int i3_2)], [.int (((Int32.toUInt32 x1) >>> ((Int32.toUInt32 i3_2) &&& Int32.toUInt32 31)).toInt32), .int (nI (cc + j)), .ref (q 15)], M11)) rfl ?_
        refine ml_st (S' := (26, [(0, .ref m0), (1, .int x1), (2, .int i3_2)], [.int ((((Int32.toUInt32 x1) >>> ((Int32.toUInt32 i3_2) &&& Int32.toUInt32 31)).toInt32).toInt8.toInt32), .int (nI (cc + j)), .ref (q 15)], M11)) rfl rfl rfl ?_
        refine ra_st (k := 15) rfl hR13 rfl (vin_lt (by omega) (by omega)) (fun M16 R17 hR18 e19 g20 f21 => ?_)
        show ml _ _ _ (27, [(0, .ref m0), (1, .int x1), (2, .int i3_2)], [], M16) _
        refine ml_st (S' := (30, [(2, .int (i3_2 + (-8))), (0, .ref m0), (1, .int x1)], [], M16)) rfl rfl rfl ?_
        refine ml_st (S' := (3, [(0, .ref m0), (1, .int x1), (2, .int (i3_2 + (-8)))], [], M16)) rfl rfl rfl ?_
        exact ih_3 (i3_2 + (-8)) (j + 1) _ _ _ (by rw [i_add (by have : (-8 : Int32).toInt = -8 := rfl; omega) (by have : (-8 : Int32).toInt = -8 := rfl; omega)]; have : (-8 : Int32).toInt = -8 := rfl; omega) hR18 ((eqI.rf.tr hI_3 (by decide)).put f15 (by decide)) ((eqR.rf.tr hV_3 (by decide)).put f21 (by decide)) (⟨by omega, by rw [i_add (by have : (-8 : Int32).toInt = -8 := rfl; omega) (by have : (-8 : Int32).toInt = -8 := rfl; omega)]; have : (-8 : Int32).toInt = -8 := rfl; omega, by rw [← Nat.add_assoc, ← hN]; exact e14, by rw [← Nat.add_assoc]; exact (hkb).put hv e19 g20⟩)
  exact L_3 _ 24 0 _ _ _ (Nat.le_refl _) hR eqI.rf eqR.rf (⟨by omega, by decide, hk19, hkb0⟩)
end
section
/-! the reference: feed, end (laid by wip/p2/c74.py) -/
theorem feed_ok {cc : Nat} (h : cc + 20 ≤ 65540) : nI cc + 20 ≤ (65540 : Int32) := by
  apply Int32.le_iff_toInt_le.mpr
  have e1 : (20 : Int32).toInt = 20 := rfl
  have e2 : (65540 : Int32).toInt = 65540 := rfl
  rw [i_add (by rw [nI_val (by omega)]; omega) (by rw [nI_val (by omega)]; omega), nI_val (by omega), e1, e2]
  omega

set_option maxHeartbeats 2000000 in
theorem rm_feed {g : xe_G}  {m0 : Nat} {q : Nat → Nat} {z : Nat × Nat} {I : rI} {R : rR} {M : mi_H} {x1 x2 x3 x4 x5 : Int32} {cc : Nat}  (hR : RS g m0 q z I R M) (hk19 : I 19 = some (nI cc)) (hcc : cc + 20 ≤ 65540) (hkb0 : KB 15 cc R) {d : Nat} (hd : 2 ≤ d) : mt (mT g) d 205 [.ref m0, .int x1, .int x2, .int x3, .int x4, .int x5] M (fun v M' => ∃ (x : Int32) (I' : rI) (R' : rR), v = some (.int x) ∧ RS g m0 q z I' R' M' ∧ eqI [0, 19] I I' ∧ eqR [15] R R' ∧ (x = nI (cc + 4 + 4 + 4 + 4 + 4) ∧ I' 0 = some 0 ∧ I' 19 = some (nI (cc + 4 + 4 + 4 + 4 + 4)) ∧ KB 15 (cc + 4 + 4 + 4 + 4 + 4) R')) := by
  obtain ⟨d, rfl⟩ : ∃ e, d = e + 1 := ⟨d - 1, by omega⟩
  refine mt_in (b := mb_205 g) rfl rfl ?_
  show ml (mT g) d (mb_205 g).2 (0, [(0, .ref m0), (1, .int x1), (2, .int x2), (3, .int x3), (4, .int x4), (5, .int x5)], [], M) _
  refine ml_blk 2 (S' := (2, [(0, .ref m0), (1, .int x1), (2, .int x2), (3, .int x3), (4, .int x4), (5, .int x5)], [.int 0, .ref m0], M)) rfl ?_
  refine rp_int rfl hR rfl (fun M11 I12 hR13 e14 f15 => ?_)
  show ml _ _ _ (5, [(0, .ref m0), (1, .int x1), (2, .int x2), (3, .int x3), (4, .int x4), (5, .int x5)], [], M11) _
  refine ml_st (S' := (6, [(0, .ref m0), (1, .int x1), (2, .int x2), (3, .int x3), (4, .int x4), (5, .int x5)], [.ref m0], M11)) rfl rfl rfl ?_
  refine rg_int (S' := (9, [(0, .ref m0), (1, .int x1), (2, .int x2), (3, .int x3), (4, .int x4), (5, .int x5)], [.int (nI cc)], M11)) rfl hR13 rfl ((f15 19 (by decide)).trans (hk19)) rfl ?_
  refine ml_blk 3 (S' := (14, [(0, .ref m0), (1, .int x1), (2, .int x2), (3, .int x3), (4, .int x4), (5, .int x5)], [.int 65540, .int ((nI cc) + 20)], M11)) rfl ?_
  refine ml_if2 (S1 := (24, [(0, .ref m0), (1, .int x1), (2, .int x2), (3, .int x3), (4, .int x4), (5, .int x5)], [], M11)) (S2 := (17, [(0, .ref m0), (1, .int x1), (2, .int x2), (3, .int x3), (4, .int x4), (5, .int x5)], [], M11)) rfl rfl rfl (fun c_14 => ?_) (fun c_14 => ?_)
  rotate_left
  · exact absurd (feed_ok hcc) (of_decide_eq_false c_14)
  refine ml_blk 2 (S' := (26, [(0, .ref m0), (1, .int x1), (2, .int x2), (3, .int x3), (4, .int x4), (5, .int x5)], [.int x1, .ref m0], M11)) rfl ?_
  refine ml_call (a := [.ref m0, .int x1]) (rest := []) rfl (hR13.okc rfl rfl rfl) rfl rfl (rm_four hR13 ((f15 19 (by decide)).trans (hk19)) (by omega) (hkb0) (by omega)) (fun v16 M17 h18 => ?_)
  obtain ⟨rfl, I19, R20, hR21, hI22, hV23, w25⟩ := h18
  show ml _ _ _ (29, [(0, .ref m0), (1, .int x1), (2, .int x2), (3, .int x3), (4, .int x4), (5, .int x5)], [], M17) _
  obtain ⟨hc1, hb1⟩ := w25
  refine ml_blk 2 (S' := (31, [(0, .ref m0), (1, .int x1), (2, .int x2), (3, .int x3), (4, .int x4), (5, .int x5)], [.int x2, .ref m0], M17)) rfl ?_
  refine ml_call (a := [.ref m0, .int x2]) (rest := []) rfl (hR21.okc rfl rfl rfl) rfl rfl (rm_four hR21 (hc1) (by omega) (hb1) (by omega)) (fun v26 M27 h28 => ?_)
  obtain ⟨rfl, I29, R30, hR31, hI32, hV33, w35⟩ := h28
  show ml _ _ _ (34, [(0, .ref m0), (1, .int x1), (2, .int x2), (3, .int x3), (4, .int x4), (5, .int x5)], [], M27) _
  obtain ⟨hc2, hb2⟩ := w35
  refine ml_blk 2 (S' := (36, [(0, .ref m0), (1, .int x1), (2, .int x2), (3, .int x3), (4, .int x4), (5, .int x5)], [.int x3, .ref m0], M27)) rfl ?_
  refine ml_call (a := [.ref m0, .int x3]) (rest := []) rfl (hR31.okc rfl rfl rfl) rfl rfl (rm_four hR31 (hc2) (by omega) (hb2) (by omega)) (fun v36 M37 h38 => ?_)
  obtain ⟨rfl, I39, R40, hR41, hI42, hV43, w45⟩ := h38
  show ml _ _ _ (39, [(0, .ref m0), (1, .int x1), (2, .int x2), (3, .int x3), (4, .int x4), (5, .int x5)], [], M37) _
  obtain ⟨hc3, hb3⟩ := w45
  refine ml_blk 2 (S' := (42, [(0, .ref m0), (1, .int x1), (2, .int x2), (3, .int x3), (4, .int x4), (5, .int x5)], [.int x4, .ref m0], M37)) rfl ?_
  refine ml_call (a := [.ref m0, .int x4]) (rest := []) rfl (hR41.okc rfl rfl rfl) rfl rfl (rm_four hR41 (hc3) (by omega) (hb3) (by omega)) (fun v46 M47 h48 => ?_)
  obtain ⟨rfl, I49, R50, hR51, hI52, hV53, w55⟩ := h48
  show ml _ _ _ (45, [(0, .ref m0), (1, .int x1), (2, .int x2), (3, .int x3), (4, .int x4), (5, .int x5)], [], M47) _
  obtain ⟨hc4, hb4⟩ := w55
  refine ml_blk 2 (S' := (48, [(0, .ref m0), (1, .int x1), (2, .int x2), (3, .int x3), (4, .int x4), (5, .int x5)], [.int x5, .ref m0], M47)) rfl ?_
  refine ml_call (a := [.ref m0, .int x5]) (rest := []) rfl (hR51.okc rfl rfl rfl) rfl rfl (rm_four hR51 (hc4) (by omega) (hb4) (by omega)) (fun v56 M57 h58 => ?_)
  obtain ⟨rfl, I59, R60, hR61, hI62, hV63, w65⟩ := h58
  show ml _ _ _ (51, [(0, .ref m0), (1, .int x1), (2, .int x2), (3, .int x3), (4, .int x4), (5, .int x5)], [], M57) _
  obtain ⟨hc5, hb5⟩ := w65
  refine ml_st (S' := (52, [(0, .ref m0), (1, .int x1), (2, .int x2), (3, .int x3), (4, .int x4), (5, .int x5)], [.ref m0], M57)) rfl rfl rfl ?_
  refine rg_int (S' := (55, [(0, .ref m0), (1, .int x1), (2, .int x2), (3, .int x3), (4, .int x4), (5, .int x5)], [.int (nI (cc + 4 + 4 + 4 + 4 + 4))], M57)) rfl hR61 rfl (hc5) rfl ?_
  exact ml_ret rfl (rfl) (⟨_, _, _, rfl, hR61, ((((((eqI.rf.put f15 (by decide)).tr hI22 (by decide)).tr hI32 (by decide)).tr hI42 (by decide)).tr hI52 (by decide)).tr hI62 (by decide)), (((((eqR.rf.tr hV23 (by decide)).tr hV33 (by decide)).tr hV43 (by decide)).tr hV53 (by decide)).tr hV63 (by decide)), ⟨rfl, (hI62 0 (by decide)).trans ((hI52 0 (by decide)).trans ((hI42 0 (by decide)).trans ((hI32 0 (by decide)).trans ((hI22 0 (by decide)).trans (e14))))), hc5, hb5⟩⟩)
set_option maxHeartbeats 2000000 in
theorem rm_end {g : xe_G}  {m0 : Nat} {q : Nat → Nat} {z : Nat × Nat} {I : rI} {R : rR} {M : mi_H} {x1 : Int32} {cc : Nat}  (hR : RS g m0 q z I R M) (hk19 : I 19 = some (nI cc)) (hcc : cc ≤ 65540) (hkb0 : KB 15 cc R) {d : Nat} (hd : 2 ≤ d) : mt (mT g) d 202 [.ref m0, .int x1] M (fun v M' => ∃ (x : Int32) (I' : rI) (R' : rR), v = some (.int x) ∧ RS g m0 q z I' R' M' ∧ eqI [0, 17, 19] I I' ∧ eqR [13] R R' ∧ ((¬ (0 ≤ x1.toInt ∧ x1.toInt ≤ cc) ∧ I' 0 = some 1 ∧ I' 17 = I 17 ∧ I' 19 = I 19 ∧ R' 13 = R 13) ∨ (0 ≤ x1.toInt ∧ x1.toInt ≤ cc ∧ x = x1 ∧ I' 0 = some 0 ∧ I' 17 = some x1 ∧ I' 19 = some 0 ∧ KB 13 x1.toInt.toNat R'))) := by
  obtain ⟨d, rfl⟩ : ∃ e, d = e + 1 := ⟨d - 1, by omega⟩
  refine mt_in (b := mb_202 g) rfl rfl ?_
  show ml (mT g) d (mb_202 g).2 (0, [(0, .ref m0), (1, .int x1)], [], M) _
  refine ml_blk 2 (S' := (2, [(0, .ref m0), (1, .int x1)], [.int 0, .ref m0], M)) rfl ?_
  refine rp_int rfl hR rfl (fun M11 I12 hR13 e14 f15 => ?_)
  show ml _ _ _ (5, [(0, .ref m0), (1, .int x1)], [], M11) _
  refine ml_st (S' := (6, [(0, .ref m0), (1, .int x1)], [.int x1], M11)) rfl rfl rfl ?_
  refine ml_if (S1 := (17, [(0, .ref m0)], [], M11)) (S2 := (9, [(0, .ref m0), (1, .int x1)], [], M11)) rfl rfl rfl (fun c_6 => ?_) (fun c_6 => ?_)
  · have c_6 : x1 < 0 := of_decide_eq_true c_6
    refine ml_st (S' := (18, [(0, .ref m0)], [.ref m0], M11)) rfl rfl rfl ?_
    refine ml_call (a := [.ref m0]) (rest := []) rfl (hR13.okc rfl rfl rfl) rfl rfl (rm_bad hR13 (by omega)) (fun v16 M17 h18 => ?_)
    obtain ⟨u24, I19, R20, rfl, hR21, hI22, hV23, w25⟩ := h18
    show ml _ _ _ (21, [(0, .ref m0)], [.int u24], M17) _
    exact ml_ret rfl (rfl) (⟨_, _, _, rfl, hR21, ((eqI.rf.put f15 (by decide)).tr hI22 (by decide)), (eqR.rf.tr hV23 (by decide)), Or.inl ⟨fun h => by have q := i_lt c_6; have : (0 : Int32).toInt = 0 := rfl; omega, w25, (hI22 17 (by decide)).trans (f15 17 (by decide)), (hI22 19 (by decide)).trans (f15 19 (by decide)), hV23 13 (by decide)⟩⟩)
  · have c_6 : ¬ (x1 < 0) := of_decide_eq_false c_6
    refine ml_blk 2 (S' := (11, [(0, .ref m0), (1, .int x1)], [.ref m0, .int x1], M11)) rfl ?_
    refine rg_int (S' := (14, [(0, .ref m0), (1, .int x1)], [.int (nI cc), .int x1], M11)) rfl hR13 rfl ((f15 19 (by decide)).trans (hk19)) rfl ?_
    refine ml_if2 (S1 := (22, [(0, .ref m0), (1, .int x1)], [], M11)) (S2 := (17, [(0, .ref m0)], [], M11)) rfl rfl rfl (fun c_14 => ?_) (fun c_14 => ?_)
    · have c_14 : x1 ≤ (nI cc) := of_decide_eq_true c_14
      have hx0 : 0 ≤ x1.toInt := i_nlt c_6
      have hxc : x1.toInt ≤ cc := by have q := i_le c_14; rw [nI_val (by omega)] at q; exact q
      refine ml_st (S' := (23, [(0, .ref m0), (1, .int x1)], [.int 0], M11)) rfl rfl rfl ?_
      refine ml_st (S' := (24, [(0, .ref m0), (1, .int x1), (2, .int 0)], [], M11)) rfl rfl rfl ?_
      have L_24 : ∀ (n_24 : Nat) (i24_2 : Int32) (M_24 : mi_H) (I_24 : rI) (R_24 : rR), (2147483648 - i24_2.toInt).toNat ≤ n_24 → RS g m0 q z I_24 R_24 M_24 → eqI [] I12 I_24 → eqR [13] R R_24 → (0 ≤ i24_2.toInt ∧ i24_2.toInt ≤ x1.toInt ∧ KB 13 i24_2.toInt.toNat R_24) → ml (mT g) d (mb_202 g).2 (24, [(0, .ref m0), (1, .int x1), (2, .int i24_2)], [], M_24) (fun v M' => ∃ (x : Int32) (I' : rI) (R' : rR), v = some (.int x) ∧ RS g m0 q z I' R' M' ∧ eqI [0, 17, 19] I I' ∧ eqR [13] R R' ∧ ((¬ (0 ≤ x1.toInt ∧ x1.toInt ≤ cc) ∧ I' 0 = some 1 ∧ I' 17 = I 17 ∧ I' 19 = I 19 ∧ R' 13 = R 13) ∨ (0 ≤ x1.toInt ∧ x1.toInt ≤ cc ∧ x = x1 ∧ I' 0 = some 0 ∧ I' 17 = some x1 ∧ I' 19 = some 0 ∧ KB 13 x1.toInt.toNat R'))) := by
        intro n_24
        induction n_24 with
        | zero => intro i24_2 M_24 I_24 R_24 hn; exact (loop_zero hn).elim
        | succ n_24 ih_24 =>
          intro i24_2 M_24 I_24 R_24 hn_24 hR_24 hI_24 hV_24 hi_24
          obtain ⟨hk0, hk1, hk13⟩ := hi_24
          refine ml_blk 2 (S' := (26, [(0, .ref m0), (1, .int x1), (2, .int i24_2)], [.int x1, .int i24_2], M_24)) rfl ?_
          refine ml_if2 (S1 := (47, [(0, .ref m0), (1, .int x1), (2, .int i24_2)], [], M_24)) (S2 := (29, [(0, .ref m0), (1, .int x1), (2, .int i24_2)], [], M_24)) rfl rfl rfl (fun c_26 => ?_) (fun c_26 => ?_)
          · have c_26 : x1 ≤ i24_2 := of_decide_eq_true c_26
            refine ml_blk 2 (S' := (49, [(0, .ref m0), (1, .int x1), (2, .int i24_2)], [.int x1, .ref m0], M_24)) rfl ?_
            refine rp_int rfl hR_24 rfl (fun M26 I27 hR28 e29 f30 => ?_)
            show ml _ _ _ (52, [(0, .ref m0), (1, .int x1), (2, .int i24_2)], [], M26) _
            refine ml_blk 2 (S' := (54, [(0, .ref m0), (1, .int x1), (2, .int i24_2)], [.int 0, .ref m0], M26)) rfl ?_
            refine rp_int rfl hR28 rfl (fun M31 I32 hR33 e34 f35 => ?_)
            show ml _ _ _ (57, [(0, .ref m0), (1, .int x1), (2, .int i24_2)], [], M31) _
            refine ml_st (S' := (58, [(0, .ref m0), (1, .int x1), (2, .int i24_2)], [.int x1], M31)) rfl rfl rfl ?_
            exact ml_ret rfl (rfl) (⟨_, _, _, rfl, hR33, ((((eqI.rf.put f15 (by decide)).tr hI_24 (by decide)).put f30 (by decide)).put f35 (by decide)), (eqR.rf.tr hV_24 (by decide)), Or.inr ⟨hx0, hxc, rfl, (f35 0 (by decide)).trans ((f30 0 (by decide)).trans ((hI_24 0 (by decide)).trans (e14))), (f35 17 (by decide)).trans (e29), e34, by have q := i_le c_26; rw [show x1.toInt.toNat = i24_2.toInt.toNat by omega]; exact hk13⟩⟩)
          · have c_26 : ¬ (x1 ≤ i24_2) := of_decide_eq_false c_26
            refine ml_st (S' := (30, [(0, .ref m0), (1, .int x1), (2, .int i24_2)], [.ref m0], M_24)) rfl rfl rfl ?_
            refine rg_ref (S' := (33, [(0, .ref m0), (1, .int x1), (2, .int i24_2)], [.ref (q 13)], M_24)) rfl hR_24 rfl rfl ?_
            refine ml_blk 2 (S' := (35, [(0, .ref m0), (1, .int x1), (2, .int i24_2)], [.ref m0, .int i24_2, .ref (q 13)], M_24)) rfl ?_
            refine rg_ref (S' := (38, [(0, .ref m0), (1, .int x1), (2, .int i24_2)], [.ref (q 15), .int i24_2, .ref (q 13)], M_24)) rfl hR_24 rfl rfl ?_
            refine ml_st (S' := (39, [(0, .ref m0), (1, .int x1), (2, .int i24_2)], [.int i24_2, .ref (q 15), .int i24_2, .ref (q 13)], M_24)) rfl rfl rfl ?_
            have hlt := i_nle c_26
            obtain ⟨b36, hb37⟩ := hkb0 i24_2.toNatClampNeg (by show i24_2.toInt.toNat < cc; omega)
            refine ra_ld (k := 15) (S' := (40, [(0, .ref m0), (1, .int x1), (2, .int i24_2)], [.int b36, .int i24_2, .ref (q 13)], M_24)) rfl hR_24 rfl (vin_lt hk0 (by omega)) ((congrFun (hV_24 15 (by decide)) _).trans hb37) rfl ?_
            refine ra_st (k := 13) rfl hR_24 rfl (vin_lt hk0 (by omega)) (fun M38 R39 hR40 e41 g42 f43 => ?_)
            show ml _ _ _ (41, [(0, .ref m0), (1, .int x1), (2, .int i24_2)], [], M38) _
            refine ml_st (S' := (44, [(2, .int (i24_2 + 1)), (0, .ref m0), (1, .int x1)], [], M38)) rfl rfl rfl ?_
            refine ml_st (S' := (24, [(0, .ref m0), (1, .int x1), (2, .int (i24_2 + 1))], [], M38)) rfl rfl rfl ?_
            exact ih_24 (i24_2 + 1) _ _ _ (loop_inc (Int32.not_le.mp c_26) hn_24) hR40 (eqI.rf.tr hI_24 (by decide)) ((eqR.rf.tr hV_24 (by decide)).put f43 (by decide)) (⟨by rw [inc_lt (Int32.not_le.mp c_26)]; omega, by rw [inc_lt (Int32.not_le.mp c_26)]; have := i_nle c_26; omega, by rw [show (i24_2 + 1).toInt.toNat = i24_2.toInt.toNat + 1 by rw [inc_lt (Int32.not_le.mp c_26)]; omega]; exact hk13.put (by omega) e41 g42⟩)
      exact L_24 _ 0 _ _ _ (Nat.le_refl _) hR13 eqI.rf eqR.rf (⟨by decide, hx0, fun i hi => absurd hi (Nat.not_lt_zero i)⟩)
    · have c_14 : ¬ (x1 ≤ (nI cc)) := of_decide_eq_false c_14
      refine ml_st (S' := (18, [(0, .ref m0)], [.ref m0], M11)) rfl rfl rfl ?_
      refine ml_call (a := [.ref m0]) (rest := []) rfl (hR13.okc rfl rfl rfl) rfl rfl (rm_bad hR13 (by omega)) (fun v44 M45 h46 => ?_)
      obtain ⟨u52, I47, R48, rfl, hR49, hI50, hV51, w53⟩ := h46
      show ml _ _ _ (21, [(0, .ref m0)], [.int u52], M45) _
      exact ml_ret rfl (rfl) (⟨_, _, _, rfl, hR49, ((eqI.rf.put f15 (by decide)).tr hI50 (by decide)), (eqR.rf.tr hV51 (by decide)), Or.inl ⟨fun h => by have q := i_nle c_14; rw [nI_val (by omega)] at q; omega, w53, (hI50 17 (by decide)).trans (f15 17 (by decide)), (hI50 19 (by decide)).trans (f15 19 (by decide)), hV51 13 (by decide)⟩⟩)
end
section
/-! the reference: instructions (my own text) -/
section MIA6
def CK (n : Nat) (ca cl : Int32) (I : rI) (_ : rR) : Prop := I 77 = some ca ∧ I 78 = some cl ∧ 0 ≤ ca.toInt ∧ 0 ≤ cl.toInt ∧ ca.toInt + cl.toInt ≤ n
theorem CK.mono {n : Nat} {ca cl : Int32} {I I' : rI} {R R' : rR} (h : CK n ca cl I R) (hI : ∀ k, k ∈ [77, 78] → I' k = I k) (_ : ∀ k, k ∈ ([] : List Nat) → R' k = R k) : CK n ca cl I' R' :=
  ⟨(hI 77 (by decide)).trans h.1, (hI 78 (by decide)).trans h.2.1, h.2.2⟩
def mlens : List Nat := [1, 1, 1, 1, 1, 1, 1, 1, 1, 1, 1, 1, 1, 1, 1, 1, 2, 3, 2, 3, 3, 2, 2, 2, 2, 2, 1, 1, 1, 1, 1, 1, 1, 1, 1, 1, 1, 1, 1, 1, 1, 1, 1, 1, 1, 1, 1, 1, 1, 1, 1, 1, 1, 1, 2, 2, 2, 2, 2, 1, 1, 1, 1, 1, 1, 1, 1, 1, 1, 1, 1, 1, 1, 1, 1, 1, 1, 1, 1, 1, 1, 1, 1, 1, 1, 1, 1, 1, 1, 1, 1, 1, 1, 1, 1, 1, 1, 1, 1, 1, 1, 1, 1, 1, 1, 1, 1, 1, 1, 1, 1, 1, 1, 1, 1, 1, 1, 1, 1, 1, 1, 1, 1, 1, 1, 1, 1, 1, 1, 1, 1, 1, 3, 1, 1, 1, 1, 1, 1, 1, 1, 1, 1, 1, 1, 1, 1, 1, 1, 1, 1, 1, 1, 3, 3, 3, 3, 3, 3, 3, 3, 3, 3, 3, 3, 3, 3, 3, 3, 2, 1, 1, 1, 1, 1, 1, 1, 1, 3, 3, 3, 3, 3, 3, 3, 5, 5, 3, 2, 3, 1, 1, 3, 3, 1, 1, 4, 4, 3, 3, 5, 5]
def mlen (o : Nat) : Nat := mlens.getD o 0
def ILN (op : Int32) (nn : Int) : Prop := 0 ≤ op.toInt ∧ op.toInt ≤ 201 ∧ (mlen op.toInt.toNat : Int) ≤ nn
theorem iln {op : Int32} {nn : Int} (k : Nat) (h : ILN op nn) (a b : Nat) (ha : (a : Int) ≤ op.toInt) (hb : op.toInt ≤ b) (hk : ∀ o, o < 202 → a ≤ o → o ≤ b → k ≤ mlen o) : (k : Int) ≤ nn := by
  obtain ⟨h0, h1, h2⟩ := h
  have := hk op.toInt.toNat (by omega) (by omega) (by omega)
  omega
def pd (x : Int32) : Int32 := (x + 4) &&& (-4)
theorem pd_b {x : Int32} (h0 : 0 ≤ x.toInt) (h1 : x.toInt < 1000000) : x.toInt < (pd x).toInt ∧ (pd x).toInt ≤ x.toInt + 4 := by
  have e4 : (4 : Int32).toInt = 4 := rfl
  have hy : (x + 4).toInt = x.toInt + 4 := by rw [i_add (by omega) (by omega), e4]
  have h := pad4 (x := x + 4) (by omega) (by omega)
  have e : pd x = (((x + 4) &&& -4) + 4) - 4 := by
    show (x + 4) &&& -4 = _
    rw [Int32.add_sub_cancel]
  rw [e, i_sub (by omega) (by omega), e4]
  omega
def B4 (f : Nat → Int32) (ca p : Int32) : Int32 := Int64.toInt32 (f4 f (ca + p))
def S2 (f : Nat → Int32) (ca p : Int32) : Int32 := (f2 f (ca + p)).toInt16.toInt32
def SWF (f : Nat → Int32) (ca cl pc : Int32) : Prop :=
  (f1 f (ca + pc) = 170 → (pd pc).toInt + 12 ≤ cl.toInt ∧ (B4 f ca (pd pc + 4)).toInt ≤ (B4 f ca (pd pc + 8)).toInt ∧ (pd pc).toInt + 12 + 4 * ((B4 f ca (pd pc + 8)).toInt - (B4 f ca (pd pc + 4)).toInt + 1) ≤ cl.toInt) ∧
  (f1 f (ca + pc) = 171 → (pd pc).toInt + 8 ≤ cl.toInt ∧ 0 ≤ (B4 f ca (pd pc + 4)).toInt ∧ (pd pc).toInt + 8 + 8 * (B4 f ca (pd pc + 4)).toInt ≤ cl.toInt)
def wyf (f : Nat → Int32) (ca pc : Int32) : Int32 := 1 + (if f1 f (ca + pc) = 170 then B4 f ca (pd pc + 8) - B4 f ca (pd pc + 4) + 1 else B4 f ca (pd pc + 4))
def waf (f : Nat → Int32) (ca pc i : Int32) : Int32 := if i = 0 then pd pc else if f1 f (ca + pc) = 170 then pd pc + 8 + 4 * i else pd pc + 4 + 8 * i
theorem mul_k {k x : Int32} {a : Int} (hk : k.toInt = a) (h0 : 0 ≤ a) (h1 : a ≤ 8) (h2 : 0 ≤ x.toInt) (h3 : x.toInt ≤ 1000000) : (k * x).toInt = a * x.toInt := by
  have h4 : 0 ≤ a * x.toInt := Int.mul_nonneg h0 h2
  have h5 : a * x.toInt ≤ 8 * x.toInt := Int.mul_le_mul_of_nonneg_right h1 h2
  rw [i_mul (by rw [hk]; omega) (by rw [hk]; omega), hk]
theorem wyf_v {f : Nat → Int32} {ca cl pc : Int32} (hcl : cl.toInt ≤ 65540) (h0 : 0 ≤ pc.toInt) (h1 : pc.toInt < cl.toInt) (h : SWF f ca cl pc) : (f1 f (ca + pc) = 170 → (wyf f ca pc).toInt = (B4 f ca (pd pc + 8)).toInt - (B4 f ca (pd pc + 4)).toInt + 2) ∧ (f1 f (ca + pc) = 171 → (wyf f ca pc).toInt = (B4 f ca (pd pc + 4)).toInt + 1) := by
  have hp := pd_b h0 (by omega)
  have e1 : (1 : Int32).toInt = 1 := rfl
  refine ⟨fun e => ?_, fun e => ?_⟩
  · obtain ⟨a1, a2, a3⟩ := h.1 e
    have d1 : (B4 f ca (pd pc + 8) - B4 f ca (pd pc + 4)).toInt = (B4 f ca (pd pc + 8)).toInt - (B4 f ca (pd pc + 4)).toInt := i_sub (by omega) (by omega)
    have d2 : (B4 f ca (pd pc + 8) - B4 f ca (pd pc + 4) + 1).toInt = (B4 f ca (pd pc + 8)).toInt - (B4 f ca (pd pc + 4)).toInt + 1 := by rw [i_add (by omega) (by omega), d1, e1]
    rw [wyf, if_pos e, i_add (by omega) (by omega), d2, e1]
    omega
  · obtain ⟨a1, a2, a3⟩ := h.2 e
    rw [wyf, if_neg (by rw [e]; decide), i_add (by omega) (by omega), e1]
    omega
theorem waf_b {f : Nat → Int32} {ca cl pc i : Int32} (hcl : cl.toInt ≤ 65540) (h0 : 0 ≤ pc.toInt) (h1 : pc.toInt < cl.toInt) (h : SWF f ca cl pc) (ho : f1 f (ca + pc) = 170 ∨ f1 f (ca + pc) = 171) (i0 : 0 ≤ i.toInt) (i1 : i.toInt < (wyf f ca pc).toInt) : 0 ≤ (waf f ca pc i).toInt ∧ (waf f ca pc i).toInt + 4 ≤ cl.toInt := by
  have hp := pd_b h0 (by omega)
  have e4 : (4 : Int32).toInt = 4 := rfl
  have e8 : (8 : Int32).toInt = 8 := rfl
  unfold waf
  by_cases hi : i = 0
  · rw [if_pos hi]
    rcases ho with e | e
    · have := h.1 e
      omega
    · have := h.2 e
      omega
  · rw [if_neg hi]
    rcases ho with e | e
    · obtain ⟨a1, a2, a3⟩ := h.1 e
      have hw := (wyf_v hcl h0 h1 h).1 e
      have hm := mul_k (x := i) e4 (by omega) (by omega) i0 (by omega)
      have d8 : (pd pc + 8).toInt = (pd pc).toInt + 8 := by rw [i_add (by omega) (by omega), e8]
      rw [if_pos e, i_add (by omega) (by omega), d8, hm]
      omega
    · obtain ⟨a1, a2, a3⟩ := h.2 e
      have hw := (wyf_v hcl h0 h1 h).2 e
      have hm := mul_k (x := i) e8 (by omega) (by omega) i0 (by omega)
      have d8 : (pd pc + 4).toInt = (pd pc).toInt + 4 := by rw [i_add (by omega) (by omega), e4]
      rw [if_neg (by rw [e]; decide), i_add (by omega) (by omega), d8, hm]
      omega
def BRO (op : Int32) : Prop := (153 ≤ op.toInt ∧ op.toInt ≤ 168) ∨ op = 198 ∨ op = 199
/-- an instruction that is whole -/
def INS (f : Nat → Int32) (ca cl pc : Int32) : Prop := 0 ≤ pc.toInt ∧ ∃ nn : Int, 1 ≤ nn ∧ pc.toInt + nn ≤ cl.toInt ∧ ILN (f1 f (ca + pc)) nn ∧ (f1 f (ca + pc) = 196 → f1 f (ca + (pc + 1)) = 132 → 6 ≤ nn) ∧ (f1 f (ca + pc) = 170 ∨ f1 f (ca + pc) = 171 → SWF f ca cl pc)
/-- its targets lie in the code -/
def AIM (f : Nat → Int32) (ca cl pc : Int32) : Prop := (BRO (f1 f (ca + pc)) → 0 ≤ (pc + S2 f ca (pc + 1)).toInt ∧ (pc + S2 f ca (pc + 1)).toInt < cl.toInt) ∧
  (f1 f (ca + pc) = 200 ∨ f1 f (ca + pc) = 201 → 0 ≤ (pc + B4 f ca (pc + 1)).toInt ∧ (pc + B4 f ca (pc + 1)).toInt < cl.toInt) ∧
  (f1 f (ca + pc) = 170 ∨ f1 f (ca + pc) = 171 → ∀ i : Int32, 0 ≤ i.toInt → i.toInt < (wyf f ca pc).toInt → 0 ≤ (pc + B4 f ca (waf f ca pc i)).toInt ∧ (pc + B4 f ca (waf f ca pc i)).toInt < cl.toInt)
theorem BRO.no {op : Int32} (h : BRO op) (h' : op = 200 ∨ op = 201 ∨ op = 170 ∨ op = 171) : False := by
  rcases h' with rfl | rfl | rfl | rfl <;> (rcases h with h | h | h; (have : (200 : Int32).toInt = 200 := rfl; have : (201 : Int32).toInt = 201 := rfl; have : (170 : Int32).toInt = 170 := rfl; have : (171 : Int32).toInt = 171 := rfl; omega); exact absurd h (by decide); exact absurd h (by decide))
variable {f : Nat → Int32} {ca cl pc : Int32}
theorem AIM.br (hb : BRO (f1 f (ca + pc))) (h : 0 ≤ (Int32.toInt64 (pc + S2 f ca (pc + 1))).toInt ∧ (Int32.toInt64 (pc + S2 f ca (pc + 1))).toInt < cl.toInt) : AIM f ca cl pc := by
  rw [l_of] at h
  exact ⟨fun _ => h, fun e => (hb.no (e.elim Or.inl (fun e => Or.inr (Or.inl e)))).elim, fun e => (hb.no (Or.inr (Or.inr e))).elim⟩
theorem to_in {a b : Int32} (hcl : cl.toInt ≤ 65540) (h : 0 ≤ (Int32.toInt64 a + Int32.toInt64 b).toInt ∧ (Int32.toInt64 a + Int32.toInt64 b).toInt < cl.toInt) : 0 ≤ (a + b).toInt ∧ (a + b).toInt < cl.toInt := by
  have ha := Int32.le_toInt a
  have ha' := Int32.toInt_lt a
  have hb := Int32.le_toInt b
  have hb' := Int32.toInt_lt b
  rw [l_add (by rw [l_of, l_of]; omega) (by rw [l_of, l_of]; omega), l_of, l_of] at h
  rw [i_add (by omega) (by omega)]
  exact h
theorem AIM.wd (hcl : cl.toInt ≤ 65540) (hb : f1 f (ca + pc) = 200 ∨ f1 f (ca + pc) = 201) (h : 0 ≤ (Int32.toInt64 pc + Int32.toInt64 (B4 f ca (pc + 1))).toInt ∧ (Int32.toInt64 pc + Int32.toInt64 (B4 f ca (pc + 1))).toInt < cl.toInt) : AIM f ca cl pc :=
  ⟨fun e => (e.no (hb.elim Or.inl (fun e => Or.inr (Or.inl e)))).elim, fun _ => to_in hcl h, fun e => by rcases hb with b | b <;> rw [b] at e <;> exact absurd e (by decide)⟩
theorem AIM.sw (hb : f1 f (ca + pc) = 170 ∨ f1 f (ca + pc) = 171) (h : ∀ i : Int32, 0 ≤ i.toInt → i.toInt < (wyf f ca pc).toInt → 0 ≤ (pc + B4 f ca (waf f ca pc i)).toInt ∧ (pc + B4 f ca (waf f ca pc i)).toInt < cl.toInt) : AIM f ca cl pc :=
  ⟨fun e => (e.no (Or.inr (Or.inr hb))).elim, fun e => by rcases hb with b | b <;> rw [b] at e <;> exact absurd e (by decide), fun _ => h⟩
theorem AIM.no (h1 : ¬ BRO (f1 f (ca + pc))) (h2 : ¬ (f1 f (ca + pc) = 200 ∨ f1 f (ca + pc) = 201)) (h3 : ¬ (f1 f (ca + pc) = 170 ∨ f1 f (ca + pc) = 171)) : AIM f ca cl pc := ⟨fun e => absurd e h1, fun e => absurd e h2, fun e => absurd e h3⟩
theorem sw_l1 {hi lo : Int32} : ((4 : Int64) * (Int32.toInt64 hi - Int32.toInt64 lo + 1) + 12).toInt = 4 * (hi.toInt - lo.toInt + 1) + 12 := by
  have ha := Int32.le_toInt hi
  have ha' := Int32.toInt_lt hi
  have hb := Int32.le_toInt lo
  have hb' := Int32.toInt_lt lo
  have e1 : (1 : Int64).toInt = 1 := rfl
  have e4 : (4 : Int64).toInt = 4 := rfl
  have e12 : (12 : Int64).toInt = 12 := rfl
  have d1 : (Int32.toInt64 hi - Int32.toInt64 lo).toInt = hi.toInt - lo.toInt := by rw [l_sub (by rw [l_of, l_of]; omega) (by rw [l_of, l_of]; omega), l_of, l_of]
  have d2 : (Int32.toInt64 hi - Int32.toInt64 lo + 1).toInt = hi.toInt - lo.toInt + 1 := by rw [l_add (by omega) (by omega), d1, e1]
  have d3 : ((4 : Int64) * (Int32.toInt64 hi - Int32.toInt64 lo + 1)).toInt = 4 * (hi.toInt - lo.toInt + 1) := by rw [l_mul (by rw [e4, d2]; omega) (by rw [e4, d2]; omega), e4, d2]
  rw [l_add (by omega) (by omega), d3, e12]
theorem sw_l2 {np : Int32} : ((8 : Int64) * Int32.toInt64 np + 8).toInt = 8 * np.toInt + 8 := by
  have ha := Int32.le_toInt np
  have ha' := Int32.toInt_lt np
  have e8 : (8 : Int64).toInt = 8 := rfl
  have d1 : ((8 : Int64) * Int32.toInt64 np).toInt = 8 * np.toInt := by rw [l_mul (by rw [e8, l_of]; omega) (by rw [e8, l_of]; omega), e8, l_of]
  rw [l_add (by omega) (by omega), d1, e8]
theorem sw_l3 {p x : Int32} {n9 : Int64} (h0 : 0 ≤ x.toInt) (h1 : x.toInt < p.toInt) (h2 : p.toInt + n9.toInt ≤ 65540) (h3 : 8 ≤ n9.toInt) : 1 ≤ (Int64.toInt32 (Int32.toInt64 p + n9 - Int32.toInt64 x)).toInt ∧ (Int64.toInt32 (Int32.toInt64 p + n9 - Int32.toInt64 x)).toInt ≤ 65540 := by
  have d1 : (Int32.toInt64 p + n9).toInt = p.toInt + n9.toInt := by rw [l_add (by rw [l_of]; omega) (by rw [l_of]; omega), l_of]
  have d2 : (Int32.toInt64 p + n9 - Int32.toInt64 x).toInt = p.toInt + n9.toInt - x.toInt := by rw [l_sub (by rw [l_of]; omega) (by rw [l_of]; omega), l_of, d1]
  rw [i_of (by omega) (by omega), d2]
  omega
/-- what a form's length says -/
def FRM (f : Nat → Int32) (ca cl pc x : Int32) : Prop := (f1 f (ca + pc) = 196 → 4 ≤ x.toInt ∧ (f1 f (ca + (pc + 1)) = 132 → 6 ≤ x.toInt)) ∧ (f1 f (ca + pc) = 170 ∨ f1 f (ca + pc) = 171 → SWF f ca cl pc ∧ 1 ≤ x.toInt) ∧ x.toInt ≤ 65540
set_option maxRecDepth 50000 in
theorem mlk_3_153_168 : ∀ o, o < 202 → 153 ≤ o → o ≤ 168 → 3 ≤ mlen o := by decide
set_option maxRecDepth 50000 in
theorem mlk_3_198_198 : ∀ o, o < 202 → 198 ≤ o → o ≤ 198 → 3 ≤ mlen o := by decide
set_option maxRecDepth 50000 in
theorem mlk_3_199_199 : ∀ o, o < 202 → 199 ≤ o → o ≤ 199 → 3 ≤ mlen o := by decide
set_option maxRecDepth 50000 in
theorem mlk_5_200_200 : ∀ o, o < 202 → 200 ≤ o → o ≤ 200 → 5 ≤ mlen o := by decide
set_option maxRecDepth 50000 in
theorem mlk_5_201_201 : ∀ o, o < 202 → 201 ≤ o → o ≤ 201 → 5 ≤ mlen o := by decide
set_option maxRecDepth 50000 in
theorem mlk_2_169_169 : ∀ o, o < 202 → 169 ≤ o → o ≤ 169 → 2 ≤ mlen o := by decide
set_option maxRecDepth 50000 in
theorem mlk_2_21_25 : ∀ o, o < 202 → 21 ≤ o → o ≤ 25 → 2 ≤ mlen o := by decide
set_option maxRecDepth 50000 in
theorem mlk_2_54_58 : ∀ o, o < 202 → 54 ≤ o → o ≤ 58 → 2 ≤ mlen o := by decide
set_option maxRecDepth 50000 in
theorem mlk_3_132_132 : ∀ o, o < 202 → 132 ≤ o → o ≤ 132 → 3 ≤ mlen o := by decide
set_option maxRecDepth 50000 in
theorem mlk_4_196_196 : ∀ o, o < 202 → 196 ≤ o → o ≤ 196 → 4 ≤ mlen o := by decide
set_option maxRecDepth 50000 in
theorem mlk_2_188_188 : ∀ o, o < 202 → 188 ≤ o → o ≤ 188 → 2 ≤ mlen o := by decide
set_option maxRecDepth 50000 in
theorem mlk_2_18_18 : ∀ o, o < 202 → 18 ≤ o → o ≤ 18 → 2 ≤ mlen o := by decide
set_option maxRecDepth 50000 in
theorem mlk_3_19_20 : ∀ o, o < 202 → 19 ≤ o → o ≤ 20 → 3 ≤ mlen o := by decide
set_option maxRecDepth 50000 in
theorem mlk_3_178_181 : ∀ o, o < 202 → 178 ≤ o → o ≤ 181 → 3 ≤ mlen o := by decide
set_option maxRecDepth 50000 in
theorem mlk_3_182_184 : ∀ o, o < 202 → 182 ≤ o → o ≤ 184 → 3 ≤ mlen o := by decide
set_option maxRecDepth 50000 in
theorem mlk_5_185_185 : ∀ o, o < 202 → 185 ≤ o → o ≤ 185 → 5 ≤ mlen o := by decide
set_option maxRecDepth 50000 in
theorem mlk_3_182_185 : ∀ o, o < 202 → 182 ≤ o → o ≤ 185 → 3 ≤ mlen o := by decide
set_option maxRecDepth 50000 in
theorem mlk_5_186_186 : ∀ o, o < 202 → 186 ≤ o → o ≤ 186 → 5 ≤ mlen o := by decide
set_option maxRecDepth 50000 in
theorem mlk_3_187_187 : ∀ o, o < 202 → 187 ≤ o → o ≤ 187 → 3 ≤ mlen o := by decide
set_option maxRecDepth 50000 in
theorem mlk_3_189_189 : ∀ o, o < 202 → 189 ≤ o → o ≤ 189 → 3 ≤ mlen o := by decide
set_option maxRecDepth 50000 in
theorem mlk_3_192_193 : ∀ o, o < 202 → 192 ≤ o → o ≤ 193 → 3 ≤ mlen o := by decide
set_option maxRecDepth 50000 in
theorem mlk_3_192_192 : ∀ o, o < 202 → 192 ≤ o → o ≤ 192 → 3 ≤ mlen o := by decide
set_option maxRecDepth 50000 in
theorem mlk_3_193_193 : ∀ o, o < 202 → 193 ≤ o → o ≤ 193 → 3 ≤ mlen o := by decide
set_option maxRecDepth 50000 in
theorem mlk_4_197_197 : ∀ o, o < 202 → 197 ≤ o → o ≤ 197 → 4 ≤ mlen o := by decide
set_option maxRecDepth 50000 in
theorem mlk_2_16_16 : ∀ o, o < 202 → 16 ≤ o → o ≤ 16 → 2 ≤ mlen o := by decide
set_option maxRecDepth 50000 in
theorem mlk_3_17_17 : ∀ o, o < 202 → 17 ≤ o → o ≤ 17 → 3 ≤ mlen o := by decide
set_option maxRecDepth 50000 in
theorem mlk_3_178_187 : ∀ o, o < 202 → 178 ≤ o → o ≤ 187 → 3 ≤ mlen o := by decide
set_option maxRecDepth 50000 in
theorem mlk_3_19_19 : ∀ o, o < 202 → 19 ≤ o → o ≤ 19 → 3 ≤ mlen o := by decide
set_option maxRecDepth 50000 in
theorem mlk_3_20_20 : ∀ o, o < 202 → 20 ≤ o → o ≤ 20 → 3 ≤ mlen o := by decide
set_option maxRecDepth 50000 in
theorem mlk_1_0_201 : ∀ o, o < 202 → 0 ≤ o → o ≤ 201 → 1 ≤ mlen o := by decide
set_option maxRecDepth 50000 in
theorem mlk_2_132_132 : ∀ o, o < 202 → 132 ≤ o → o ≤ 132 → 2 ≤ mlen o := by decide
end MIA6
end
section
/-! the reference: instructions (laid by wip/p2/c75.py) -/
set_option maxHeartbeats 2000000 in
theorem rm_noCode {g : xe_G}  {m0 : Nat} {q : Nat → Nat} {z : Nat × Nat} {I : rI} {R : rR} {M : mi_H} {x1 kn : Int32} {n : Nat} {f : Nat → Int32}  (hR : RS g m0 q z I R M) (hk18 : I 18 = some kn) (hG : (kn < 0 ∨ GD n f I R)) {d : Nat} (hd : 1 ≤ d) : mt (mT g) d 227 [.ref m0, .int x1] M (fun v M' => (∃ x : Int32, v = some (.int x) ∧ (x = 0 ∨ x = 1) ∧ (x = 1 ∨ ¬ kn < 0 ∧ 0 ≤ x1.toInt ∧ x1.toInt < 8192 ∧ ∃ c l t : Int32, R 37 x1.toNatClampNeg = some c ∧ R 38 x1.toNatClampNeg = some l ∧ R 40 x1.toNatClampNeg = some t ∧ 0 ≤ c.toInt ∧ 0 ≤ l.toInt ∧ c.toInt + l.toInt ≤ n)) ∧ M' = M) := by
  obtain ⟨d, rfl⟩ : ∃ e, d = e + 1 := ⟨d - 1, by omega⟩
  refine mt_in (b := mb_227 g) rfl rfl ?_
  show ml (mT g) d (mb_227 g).2 (0, [(0, .ref m0), (1, .int x1)], [], M) _
  refine ml_st (S' := (1, [(0, .ref m0), (1, .int x1)], [.ref m0], M)) rfl rfl rfl ?_
  refine rg_int (S' := (4, [(0, .ref m0), (1, .int x1)], [.int kn], M)) rfl hR rfl (hk18) rfl ?_
  refine ml_if (S1 := (28, [], [], M)) (S2 := (7, [(0, .ref m0), (1, .int x1)], [], M)) rfl rfl rfl (fun c_4 => ?_) (fun c_4 => ?_)
  · have c_4 : kn < 0 := of_decide_eq_true c_4
    refine ml_st (S' := (29, [], [.int 1], M)) rfl rfl rfl ?_
    refine ml_st (S' := (33, [], [.int 1], M)) rfl rfl rfl ?_
    exact ml_ret rfl (r_z (Or.inr rfl)) (⟨⟨_, rfl, Or.inr rfl, Or.inl rfl⟩, rfl⟩)
  · have c_4 : ¬ (kn < 0) := of_decide_eq_false c_4
    obtain ⟨S, cN, sa, sl, ch, cp, mj, pa, py, hA, fA, mA, aA, nf, ni, kf, km, hF0, hY0, hP0, hE0, hFO, kq54, kq58, kq61, hkf, kq25, hfk, hkm, kq26, hmk, hNW⟩ := hG.resolve_left (c_4)
    have hn := hF0.1
    refine ml_st (S' := (8, [(0, .ref m0), (1, .int x1)], [.int x1], M)) rfl rfl rfl ?_
    refine ml_if (S1 := (28, [], [], M)) (S2 := (11, [(0, .ref m0), (1, .int x1)], [], M)) rfl rfl rfl (fun c_8 => ?_) (fun c_8 => ?_)
    · have c_8 : x1 < 0 := of_decide_eq_true c_8
      refine ml_st (S' := (29, [], [.int 1], M)) rfl rfl rfl ?_
      refine ml_st (S' := (33, [], [.int 1], M)) rfl rfl rfl ?_
      exact ml_ret rfl (r_z (Or.inr rfl)) (⟨⟨_, rfl, Or.inr rfl, Or.inl rfl⟩, rfl⟩)
    · have c_8 : ¬ (x1 < 0) := of_decide_eq_false c_8
      refine ml_blk 2 (S' := (13, [(0, .ref m0), (1, .int x1)], [.ref m0, .int x1], M)) rfl ?_
      refine rg_int (S' := (16, [(0, .ref m0), (1, .int x1)], [.int (nI km), .int x1], M)) rfl hR rfl (kq26) rfl ?_
      refine ml_if2 (S1 := (28, [], [], M)) (S2 := (19, [(0, .ref m0), (1, .int x1)], [], M)) rfl rfl rfl (fun c_16 => ?_) (fun c_16 => ?_)
      · have c_16 : (nI km) ≤ x1 := of_decide_eq_true c_16
        refine ml_st (S' := (29, [], [.int 1], M)) rfl rfl rfl ?_
        refine ml_st (S' := (33, [], [.int 1], M)) rfl rfl rfl ?_
        exact ml_ret rfl (r_z (Or.inr rfl)) (⟨⟨_, rfl, Or.inr rfl, Or.inl rfl⟩, rfl⟩)
      · have c_16 : ¬ ((nI km) ≤ x1) := of_decide_eq_false c_16
        have hx0 : 0 ≤ x1.toInt := i_nlt c_8
        have hx1 : x1.toInt < km := i_ltn (Int32.not_le.mp c_16) hkm
        obtain ⟨-, ⟨mc, hmc, hmd⟩, -⟩ := hmk x1.toNatClampNeg (by show x1.toInt.toNat < km; omega)
        refine ml_st (S' := (20, [(0, .ref m0), (1, .int x1)], [.ref m0], M)) rfl rfl rfl ?_
        refine rg_ref (S' := (23, [(0, .ref m0), (1, .int x1)], [.ref (q 37)], M)) rfl hR rfl rfl ?_
        refine ml_st (S' := (24, [(0, .ref m0), (1, .int x1)], [.int x1, .ref (q 37)], M)) rfl rfl rfl ?_
        refine ra_ld (k := 37) (S' := (25, [(0, .ref m0), (1, .int x1)], [.int mc], M)) rfl hR rfl (vin_lt hx0 (by omega)) (hmc) rfl ?_
        refine ml_if (S1 := (32, [(0, .ref m0), (1, .int x1)], [], M)) (S2 := (28, [], [], M)) rfl rfl rfl (fun c_25 => ?_) (fun c_25 => ?_)
        · have c_25 : 0 ≤ mc := of_decide_eq_true c_25
          refine ml_st (S' := (33, [], [.int 0], M)) rfl rfl rfl ?_
          exact ml_ret rfl (r_z (Or.inl rfl)) (⟨⟨_, rfl, Or.inl rfl, Or.inr (by have q0 : 0 ≤ mc.toInt := i_le c_25; obtain ⟨ml9, mr9, mm9, ms9, mt9, hl9, hr9, hm9, hs9, ht9, hl0, hcl, -⟩ := hmd.resolve_left (by omega); exact ⟨c_4, hx0, by omega, mc, ml9, mt9, hmc, hl9, ht9, q0, hl0, hcl⟩)⟩, rfl⟩)
        · have c_25 : ¬ (0 ≤ mc) := of_decide_eq_false c_25
          refine ml_st (S' := (29, [], [.int 1], M)) rfl rfl rfl ?_
          refine ml_st (S' := (33, [], [.int 1], M)) rfl rfl rfl ?_
          exact ml_ret rfl (r_z (Or.inr rfl)) (⟨⟨_, rfl, Or.inr rfl, Or.inl rfl⟩, rfl⟩)
set_option maxHeartbeats 2000000 in
theorem rm_b1 {g : xe_G}  {m0 : Nat} {q : Nat → Nat} {z : Nat × Nat} {I : rI} {R : rR} {M : mi_H} {x1 : Int32} {n : Nat} {f : Nat → Int32} {ca cl : Int32}  (hR : RS g m0 q z I R M) (hF : FK n f I R) (hC : CK n ca cl I R) (h0 : 0 ≤ x1.toInt) (h1 : x1.toInt + 1 ≤ cl.toInt) {d : Nat} (hd : 1 ≤ d) : mt (mT g) d 179 [.ref m0, .int x1] M (fun v M' => v = some (.int (f1 f (ca + x1))) ∧ M' = M) := by
  obtain ⟨d, rfl⟩ : ∃ e, d = e + 1 := ⟨d - 1, by omega⟩
  refine mt_in (b := mb_179 g) rfl rfl ?_
  show ml (mT g) d (mb_179 g).2 (0, [(0, .ref m0), (1, .int x1)], [], M) _
  have hn := hF.1
  obtain ⟨hca, hcl, hcn⟩ := hC.2.2
  have eca : (ca + x1).toInt = ca.toInt + x1.toInt := i_add (by omega) (by omega)
  refine ml_st (S' := (1, [(0, .ref m0), (1, .int x1)], [.ref m0], M)) rfl rfl rfl ?_
  refine rg_ref (S' := (4, [(0, .ref m0), (1, .int x1)], [.ref (q 12)], M)) rfl hR rfl rfl ?_
  refine ml_st (S' := (5, [(0, .ref m0), (1, .int x1)], [.ref m0, .ref (q 12)], M)) rfl rfl rfl ?_
  refine rg_int (S' := (8, [(0, .ref m0), (1, .int x1)], [.int ca, .ref (q 12)], M)) rfl hR rfl (hC.1) rfl ?_
  refine ml_blk 2 (S' := (10, [(0, .ref m0), (1, .int x1)], [.int (ca + x1), .ref (q 12)], M)) rfl ?_
  refine ra_ld (k := 12) (S' := (11, [(0, .ref m0), (1, .int x1)], [.int (f (ca + x1).toNatClampNeg)], M)) rfl hR rfl (vin_lt (by omega) (by omega)) (hF.2.2.2 _ (by show (ca + x1).toInt.toNat < n; omega)) rfl ?_
  refine ml_blk 2 (S' := (15, [(0, .ref m0), (1, .int x1)], [.int ((f (ca + x1).toNatClampNeg) &&& 255)], M)) rfl ?_
  exact ml_ret rfl (rfl) (⟨rfl, rfl⟩)
set_option maxHeartbeats 2000000 in
theorem rm_b2 {g : xe_G}  {m0 : Nat} {q : Nat → Nat} {z : Nat × Nat} {I : rI} {R : rR} {M : mi_H} {x1 : Int32} {n : Nat} {f : Nat → Int32} {ca cl : Int32}  (hR : RS g m0 q z I R M) (hF : FK n f I R) (hC : CK n ca cl I R) (h0 : 0 ≤ x1.toInt) (h1 : x1.toInt + 2 ≤ cl.toInt) {d : Nat} (hd : 3 ≤ d) : mt (mT g) d 180 [.ref m0, .int x1] M (fun v M' => v = some (.int (f2 f (ca + x1))) ∧ M' = M) := by
  obtain ⟨d, rfl⟩ : ∃ e, d = e + 1 := ⟨d - 1, by omega⟩
  refine mt_in (b := mb_180 g) rfl rfl ?_
  show ml (mT g) d (mb_180 g).2 (0, [(0, .ref m0), (1, .int x1)], [], M) _
  have hn := hF.1
  obtain ⟨hca, hcl, hcn⟩ := hC.2.2
  have eca : (ca + x1).toInt = ca.toInt + x1.toInt := i_add (by omega) (by omega)
  refine ml_blk 2 (S' := (2, [(0, .ref m0), (1, .int x1)], [.ref m0, .ref m0], M)) rfl ?_
  refine rg_int (S' := (5, [(0, .ref m0), (1, .int x1)], [.int ca, .ref m0], M)) rfl hR rfl (hC.1) rfl ?_
  refine ml_blk 2 (S' := (7, [(0, .ref m0), (1, .int x1)], [.int (ca + x1), .ref m0], M)) rfl ?_
  refine ml_call (a := [.ref m0, .int (ca + x1)]) (rest := []) rfl (hR.okc rfl rfl rfl) rfl rfl (rm_u2 hR hF (by omega) (by omega) (by omega)) (fun v11 M12 h13 => ?_)
  obtain ⟨rfl, h13⟩ := h13
  rw [h13]
  show ml _ _ _ (10, [(0, .ref m0), (1, .int x1)], [.int (f2 f (ca + x1))], M) _
  exact ml_ret rfl (rfl) (⟨rfl, rfl⟩)
set_option maxHeartbeats 2000000 in
theorem rm_s2 {g : xe_G}  {m0 : Nat} {q : Nat → Nat} {z : Nat × Nat} {I : rI} {R : rR} {M : mi_H} {x1 : Int32} {n : Nat} {f : Nat → Int32} {ca cl : Int32}  (hR : RS g m0 q z I R M) (hF : FK n f I R) (hC : CK n ca cl I R) (h0 : 0 ≤ x1.toInt) (h1 : x1.toInt + 2 ≤ cl.toInt) {d : Nat} (hd : 4 ≤ d) : mt (mT g) d 240 [.ref m0, .int x1] M (fun v M' => v = some (.int (S2 f ca x1)) ∧ M' = M) := by
  obtain ⟨d, rfl⟩ : ∃ e, d = e + 1 := ⟨d - 1, by omega⟩
  refine mt_in (b := mb_240 g) rfl rfl ?_
  show ml (mT g) d (mb_240 g).2 (0, [(0, .ref m0), (1, .int x1)], [], M) _
  refine ml_blk 2 (S' := (2, [(0, .ref m0), (1, .int x1)], [.int x1, .ref m0], M)) rfl ?_
  refine ml_call (a := [.ref m0, .int x1]) (rest := []) rfl (hR.okc rfl rfl rfl) rfl rfl (rm_b2 hR hF hC (h0) (h1) (by omega)) (fun v11 M12 h13 => ?_)
  obtain ⟨rfl, h13⟩ := h13
  rw [h13]
  show ml _ _ _ (5, [(0, .ref m0), (1, .int x1)], [.int (f2 f (ca + x1))], M) _
  refine ml_st (S' := (6, [(0, .ref m0), (1, .int x1)], [.int ((f2 f (ca + x1)).toInt16.toInt32)], M)) rfl rfl rfl ?_
  exact ml_ret rfl (rfl) (⟨rfl, rfl⟩)
set_option maxHeartbeats 2000000 in
theorem rm_b4 {g : xe_G}  {m0 : Nat} {q : Nat → Nat} {z : Nat × Nat} {I : rI} {R : rR} {M : mi_H} {x1 : Int32} {n : Nat} {f : Nat → Int32} {ca cl : Int32}  (hR : RS g m0 q z I R M) (hF : FK n f I R) (hC : CK n ca cl I R) (h0 : 0 ≤ x1.toInt) (h1 : x1.toInt + 4 ≤ cl.toInt) {d : Nat} (hd : 4 ≤ d) : mt (mT g) d 181 [.ref m0, .int x1] M (fun v M' => v = some (.int (B4 f ca x1)) ∧ M' = M) := by
  obtain ⟨d, rfl⟩ : ∃ e, d = e + 1 := ⟨d - 1, by omega⟩
  refine mt_in (b := mb_181 g) rfl rfl ?_
  show ml (mT g) d (mb_181 g).2 (0, [(0, .ref m0), (1, .int x1)], [], M) _
  have hn := hF.1
  obtain ⟨hca, hcl, hcn⟩ := hC.2.2
  have eca : (ca + x1).toInt = ca.toInt + x1.toInt := i_add (by omega) (by omega)
  refine ml_blk 2 (S' := (2, [(0, .ref m0), (1, .int x1)], [.ref m0, .ref m0], M)) rfl ?_
  refine rg_int (S' := (5, [(0, .ref m0), (1, .int x1)], [.int ca, .ref m0], M)) rfl hR rfl (hC.1) rfl ?_
  refine ml_blk 2 (S' := (7, [(0, .ref m0), (1, .int x1)], [.int (ca + x1), .ref m0], M)) rfl ?_
  refine ml_call (a := [.ref m0, .int (ca + x1)]) (rest := []) rfl (hR.okc rfl rfl rfl) rfl rfl (rm_u4 hR hF (by omega) (by omega) (by omega)) (fun v11 M12 h13 => ?_)
  obtain ⟨rfl, h13⟩ := h13
  rw [h13]
  show ml _ _ _ (10, [(0, .ref m0), (1, .int x1)], [.long (f4 f (ca + x1))], M) _
  refine ml_st (S' := (11, [(0, .ref m0), (1, .int x1)], [.int (Int64.toInt32 (f4 f (ca + x1)))], M)) rfl rfl rfl ?_
  exact ml_ret rfl (rfl) (⟨rfl, rfl⟩)
set_option maxHeartbeats 2000000 in
theorem rm_pad {g : xe_G}  {m0 : Nat} {q : Nat → Nat} {z : Nat × Nat} {I : rI} {R : rR} {M : mi_H} {x1 : Int32}  (hR : RS g m0 q z I R M) {d : Nat} (hd : 1 ≤ d) : mt (mT g) d 229 [.int x1] M (fun v M' => v = some (.int (pd x1)) ∧ M' = M) := by
  obtain ⟨d, rfl⟩ : ∃ e, d = e + 1 := ⟨d - 1, by omega⟩
  refine mt_in (b := mb_229 g) rfl rfl ?_
  show ml (mT g) d (mb_229 g).2 (0, [(0, .int x1)], [], M) _
  refine ml_blk 3 (S' := (3, [(0, .int x1)], [.int (x1 + 4)], M)) rfl ?_
  refine ml_blk 2 (S' := (6, [(0, .int x1)], [.int ((x1 + 4) &&& (-4))], M)) rfl ?_
  exact ml_ret rfl (rfl) (⟨rfl, rfl⟩)
set_option maxHeartbeats 2000000 in
theorem rm_local {g : xe_G}  {m0 : Nat} {q : Nat → Nat} {z : Nat × Nat} {I : rI} {R : rR} {M : mi_H} {x1 x2 mx : Int32}  (hR : RS g m0 q z I R M) (hk79 : I 79 = some mx) {d : Nat} (hd : 1 ≤ d) : mt (mT g) d 222 [.ref m0, .int x1, .int x2] M (fun v M' => (∃ x : Int32, v = some (.int x) ∧ (x = 0 ∨ x = 1)) ∧ M' = M) := by
  obtain ⟨d, rfl⟩ : ∃ e, d = e + 1 := ⟨d - 1, by omega⟩
  refine mt_in (b := mb_222 g) rfl rfl ?_
  show ml (mT g) d (mb_222 g).2 (0, [(0, .ref m0), (1, .int x1), (2, .int x2)], [], M) _
  refine ml_blk 3 (S' := (3, [(0, .ref m0), (1, .int x1), (2, .int x2)], [.int (x1 + x2)], M)) rfl ?_
  refine ml_st (S' := (4, [(0, .ref m0), (1, .int x1), (2, .int x2)], [.ref m0, .int (x1 + x2)], M)) rfl rfl rfl ?_
  refine rg_int (S' := (7, [(0, .ref m0), (1, .int x1), (2, .int x2)], [.int mx, .int (x1 + x2)], M)) rfl hR rfl (hk79) rfl ?_
  refine ml_if2 (S1 := (14, [(0, .ref m0), (1, .int x1), (2, .int x2)], [], M)) (S2 := (10, [(0, .ref m0), (1, .int x1), (2, .int x2)], [], M)) rfl rfl rfl (fun c_7 => ?_) (fun c_7 => ?_)
  · have c_7 : mx < (x1 + x2) := of_decide_eq_true c_7
    refine ml_st (S' := (15, [], [.int 0], M)) rfl rfl rfl ?_
    exact ml_ret rfl (r_z (Or.inl rfl)) (⟨⟨_, rfl, Or.inl rfl⟩, rfl⟩)
  · have c_7 : ¬ (mx < (x1 + x2)) := of_decide_eq_false c_7
    refine ml_st (S' := (11, [(0, .ref m0), (1, .int x1), (2, .int x2)], [.int 1], M)) rfl rfl rfl ?_
    refine ml_st (S' := (15, [], [.int 1], M)) rfl rfl rfl ?_
    exact ml_ret rfl (r_z (Or.inr rfl)) (⟨⟨_, rfl, Or.inr rfl⟩, rfl⟩)
set_option maxHeartbeats 2000000 in
theorem rm_starts {g : xe_G}  {m0 : Nat} {q : Nat → Nat} {z : Nat × Nat} {I : rI} {R : rR} {M : mi_H} {x1 : Int64} {n : Nat} {ca cl : Int32}  (hR : RS g m0 q z I R M) (hC : CK n ca cl I R) (hn : n ≤ 65540) (hW : ∀ i, i < cl.toInt.toNat → ∃ v, R 81 i = some v) {d : Nat} (hd : 1 ≤ d) : mt (mT g) d 243 [.ref m0, .long x1] M (fun v M' => (∃ x : Int32, v = some (.int x) ∧ (x = 0 ∨ x = 1) ∧ (x = 0 ∨ 0 ≤ x1.toInt ∧ x1.toInt < cl.toInt)) ∧ M' = M) := by
  obtain ⟨d, rfl⟩ : ∃ e, d = e + 1 := ⟨d - 1, by omega⟩
  refine mt_in (b := mb_243 g) rfl rfl ?_
  show ml (mT g) d (mb_243 g).2 (0, [(0, .ref m0), (1, .long x1)], [], M) _
  obtain ⟨hca, hcl, hcn⟩ := hC.2.2
  refine ml_blk 3 (S' := (3, [(0, .ref m0), (1, .long x1)], [.int (lg_cmp x1 0)], M)) rfl ?_
  refine ml_if (S1 := (30, [], [], M)) (S2 := (6, [(0, .ref m0), (1, .long x1)], [], M)) rfl rfl rfl (fun c_3 => ?_) (fun c_3 => ?_)
  · have c_3 : (lg_cmp x1 0) < 0 := of_decide_eq_true c_3
    refine ml_st (S' := (31, [], [.int 0], M)) rfl rfl rfl ?_
    exact ml_ret rfl (r_z (Or.inl rfl)) (⟨⟨_, rfl, Or.inl rfl, Or.inl rfl⟩, rfl⟩)
  · have c_3 : ¬ ((lg_cmp x1 0) < 0) := of_decide_eq_false c_3
    refine ml_blk 2 (S' := (8, [(0, .ref m0), (1, .long x1)], [.ref m0, .long x1], M)) rfl ?_
    refine rg_int (S' := (11, [(0, .ref m0), (1, .long x1)], [.int cl, .long x1], M)) rfl hR rfl (hC.2.1) rfl ?_
    refine ml_blk 2 (S' := (13, [(0, .ref m0), (1, .long x1)], [.int (lg_cmp x1 (Int32.toInt64 cl))], M)) rfl ?_
    refine ml_if (S1 := (30, [], [], M)) (S2 := (16, [(0, .ref m0), (1, .long x1)], [], M)) rfl rfl rfl (fun c_13 => ?_) (fun c_13 => ?_)
    · have c_13 : 0 ≤ (lg_cmp x1 (Int32.toInt64 cl)) := of_decide_eq_true c_13
      refine ml_st (S' := (31, [], [.int 0], M)) rfl rfl rfl ?_
      exact ml_ret rfl (r_z (Or.inl rfl)) (⟨⟨_, rfl, Or.inl rfl, Or.inl rfl⟩, rfl⟩)
    · have c_13 : ¬ (0 ≤ (lg_cmp x1 (Int32.toInt64 cl))) := of_decide_eq_false c_13
      have q0 : 0 ≤ x1.toInt := lc_ge c_3
      have q1 : x1.toInt < cl.toInt := by have q := lc_lt (Int32.not_le.mp c_13); rw [l_of] at q; exact q
      have e1 : (Int64.toInt32 x1).toInt = x1.toInt := i_of (by omega) (by omega)
      obtain ⟨v9, hv9⟩ := hW (Int64.toInt32 x1).toNatClampNeg (by show (Int64.toInt32 x1).toInt.toNat < _; omega)
      refine ml_st (S' := (17, [(0, .ref m0), (1, .long x1)], [.ref m0], M)) rfl rfl rfl ?_
      refine rg_ref (S' := (20, [(0, .ref m0), (1, .long x1)], [.ref (q 81)], M)) rfl hR rfl rfl ?_
      refine ml_blk 2 (S' := (22, [(0, .ref m0), (1, .long x1)], [.int (Int64.toInt32 x1), .ref (q 81)], M)) rfl ?_
      refine ra_ld (k := 81) (S' := (23, [(0, .ref m0), (1, .long x1)], [.int v9], M)) rfl hR rfl (vin_lt (by omega) (by omega)) (hv9) rfl ?_
      refine ml_if (S1 := (30, [], [], M)) (S2 := (26, [(0, .ref m0), (1, .long x1)], [], M)) rfl rfl rfl (fun c_23 => ?_) (fun c_23 => ?_)
      · have c_23 : v9 < 0 := of_decide_eq_true c_23
        refine ml_st (S' := (31, [], [.int 0], M)) rfl rfl rfl ?_
        exact ml_ret rfl (r_z (Or.inl rfl)) (⟨⟨_, rfl, Or.inl rfl, Or.inl rfl⟩, rfl⟩)
      · have c_23 : ¬ (v9 < 0) := of_decide_eq_false c_23
        refine ml_st (S' := (27, [(0, .ref m0), (1, .long x1)], [.int 1], M)) rfl rfl rfl ?_
        refine ml_st (S' := (31, [], [.int 1], M)) rfl rfl rfl ?_
        exact ml_ret rfl (r_z (Or.inr rfl)) (⟨⟨_, rfl, Or.inr rfl, Or.inr ⟨q0, q1⟩⟩, rfl⟩)
set_option maxHeartbeats 2000000 in
theorem rm_ways {g : xe_G}  {m0 : Nat} {q : Nat → Nat} {z : Nat × Nat} {I : rI} {R : rR} {M : mi_H} {x1 : Int32} {n : Nat} {f : Nat → Int32} {ca cl : Int32}  (hR : RS g m0 q z I R M) (hF : FK n f I R) (hC : CK n ca cl I R) (h0 : 0 ≤ x1.toInt) (h1 : x1.toInt < cl.toInt) (hs : SWF f ca cl x1) (ho : f1 f (ca + x1) = 170 ∨ f1 f (ca + x1) = 171) {d : Nat} (hd : 5 ≤ d) : mt (mT g) d 255 [.ref m0, .int x1] M (fun v M' => v = some (.int (wyf f ca x1)) ∧ M' = M) := by
  obtain ⟨d, rfl⟩ : ∃ e, d = e + 1 := ⟨d - 1, by omega⟩
  refine mt_in (b := mb_255 g) rfl rfl ?_
  show ml (mT g) d (mb_255 g).2 (0, [(0, .ref m0), (1, .int x1)], [], M) _
  have hn := hF.1
  obtain ⟨hca, hcl, hcn⟩ := hC.2.2
  have hp := pd_b h0 (by omega)
  have e4 : (4 : Int32).toInt = 4 := rfl
  have e8 : (8 : Int32).toInt = 8 := rfl
  have d4 : (pd x1 + 4).toInt = (pd x1).toInt + 4 := by rw [i_add (by omega) (by omega), e4]
  have d8 : (pd x1 + 8).toInt = (pd x1).toInt + 8 := by rw [i_add (by omega) (by omega), e8]
  refine ml_st (S' := (1, [(0, .ref m0), (1, .int x1)], [.int x1], M)) rfl rfl rfl ?_
  refine ml_call (a := [.int x1]) (rest := []) rfl (rfl) rfl rfl (rm_pad hR (by omega)) (fun v11 M12 h13 => ?_)
  obtain ⟨rfl, h13⟩ := h13
  rw [h13]
  show ml _ _ _ (4, [(0, .ref m0), (1, .int x1)], [.int (pd x1)], M) _
  refine ml_st (S' := (5, [(2, .int (pd x1)), (0, .ref m0), (1, .int x1)], [], M)) rfl rfl rfl ?_
  refine ml_blk 3 (S' := (8, [(2, .int (pd x1)), (0, .ref m0), (1, .int x1)], [.int x1, .ref m0, .int 1], M)) rfl ?_
  refine ml_call (a := [.ref m0, .int x1]) (rest := [.int 1]) rfl (hR.okc rfl rfl rfl) rfl rfl (rm_b1 hR hF hC (h0) (by omega) (by omega)) (fun v14 M15 h16 => ?_)
  obtain ⟨rfl, h16⟩ := h16
  rw [h16]
  show ml _ _ _ (11, [(2, .int (pd x1)), (0, .ref m0), (1, .int x1)], [.int (f1 f (ca + x1)), .int 1], M) _
  refine ml_st (S' := (14, [(2, .int (pd x1)), (0, .ref m0), (1, .int x1)], [.int 170, .int (f1 f (ca + x1)), .int 1], M)) rfl rfl rfl ?_
  refine ml_if2 (S1 := (38, [(2, .int (pd x1)), (0, .ref m0), (1, .int x1)], [.int 1], M)) (S2 := (17, [(2, .int (pd x1)), (0, .ref m0), (1, .int x1)], [.int 1], M)) rfl rfl rfl (fun c_14 => ?_) (fun c_14 => ?_)
  · have c_14 : ¬ (f1 f (ca + x1)) = 170 := of_decide_eq_true c_14
    refine ml_blk 3 (S' := (41, [(2, .int (pd x1)), (0, .ref m0), (1, .int x1)], [.int 4, .int (pd x1), .ref m0, .int 1], M)) rfl ?_
    refine ml_st (S' := (42, [(2, .int (pd x1)), (0, .ref m0), (1, .int x1)], [.int ((pd x1) + 4), .ref m0, .int 1], M)) rfl rfl rfl ?_
    refine ml_call (a := [.ref m0, .int ((pd x1) + 4)]) (rest := [.int 1]) rfl (hR.okc rfl rfl rfl) rfl rfl (rm_b4 hR hF hC (by omega) (by have q := hs.2 (ho.resolve_left c_14); omega) (by omega)) (fun v17 M18 h19 => ?_)
    obtain ⟨rfl, h19⟩ := h19
    rw [h19]
    show ml _ _ _ (45, [], [.int (B4 f ca ((pd x1) + 4)), .int 1], M) _
    refine ml_st (S' := (46, [], [.int (1 + (B4 f ca ((pd x1) + 4)))], M)) rfl rfl rfl ?_
    exact ml_ret rfl (rfl) (⟨congrArg (fun y => some (Value.int y)) (show _ = wyf f ca x1 by rw [wyf, if_neg c_14]), rfl⟩)
  · have c_14 : ¬ (¬ (f1 f (ca + x1)) = 170) := of_decide_eq_false c_14
    refine ml_blk 3 (S' := (21, [(2, .int (pd x1)), (0, .ref m0), (1, .int x1)], [.int 8, .int (pd x1), .ref m0, .int 1], M)) rfl ?_
    refine ml_st (S' := (22, [(2, .int (pd x1)), (0, .ref m0), (1, .int x1)], [.int ((pd x1) + 8), .ref m0, .int 1], M)) rfl rfl rfl ?_
    refine ml_call (a := [.ref m0, .int ((pd x1) + 8)]) (rest := [.int 1]) rfl (hR.okc rfl rfl rfl) rfl rfl (rm_b4 hR hF hC (by omega) (by have q := hs.1 (Decidable.not_not.mp c_14); omega) (by omega)) (fun v20 M21 h22 => ?_)
    obtain ⟨rfl, h22⟩ := h22
    rw [h22]
    show ml _ _ _ (25, [(2, .int (pd x1)), (0, .ref m0), (1, .int x1)], [.int (B4 f ca ((pd x1) + 8)), .int 1], M) _
    refine ml_blk 3 (S' := (28, [(2, .int (pd x1)), (0, .ref m0), (1, .int x1)], [.int 4, .int (pd x1), .ref m0, .int (B4 f ca ((pd x1) + 8)), .int 1], M)) rfl ?_
    refine ml_st (S' := (29, [(2, .int (pd x1)), (0, .ref m0), (1, .int x1)], [.int ((pd x1) + 4), .ref m0, .int (B4 f ca ((pd x1) + 8)), .int 1], M)) rfl rfl rfl ?_
    refine ml_call (a := [.ref m0, .int ((pd x1) + 4)]) (rest := [.int (B4 f ca ((pd x1) + 8)), .int 1]) rfl (hR.okc rfl rfl rfl) rfl rfl (rm_b4 hR hF hC (by omega) (by have q := hs.1 (Decidable.not_not.mp c_14); omega) (by omega)) (fun v23 M24 h25 => ?_)
    obtain ⟨rfl, h25⟩ := h25
    rw [h25]
    show ml _ _ _ (32, [(2, .int (pd x1)), (0, .ref m0), (1, .int x1)], [.int (B4 f ca ((pd x1) + 4)), .int (B4 f ca ((pd x1) + 8)), .int 1], M) _
    refine ml_blk 3 (S' := (35, [(2, .int (pd x1)), (0, .ref m0), (1, .int x1)], [.int (((B4 f ca ((pd x1) + 8)) - (B4 f ca ((pd x1) + 4))) + 1), .int 1], M)) rfl ?_
    refine ml_st (S' := (45, [], [.int (((B4 f ca ((pd x1) + 8)) - (B4 f ca ((pd x1) + 4))) + 1), .int 1], M)) rfl rfl rfl ?_
    refine ml_st (S' := (46, [], [.int (1 + (((B4 f ca ((pd x1) + 8)) - (B4 f ca ((pd x1) + 4))) + 1))], M)) rfl rfl rfl ?_
    exact ml_ret rfl (rfl) (⟨congrArg (fun y => some (Value.int y)) (show _ = wyf f ca x1 by rw [wyf, if_pos (Decidable.not_not.mp c_14)]), rfl⟩)
set_option maxHeartbeats 2000000 in
theorem rm_wayAt {g : xe_G}  {m0 : Nat} {q : Nat → Nat} {z : Nat × Nat} {I : rI} {R : rR} {M : mi_H} {x1 x2 : Int32} {n : Nat} {f : Nat → Int32} {ca cl : Int32}  (hR : RS g m0 q z I R M) (hF : FK n f I R) (hC : CK n ca cl I R) (h0 : 0 ≤ x1.toInt) (h1 : x1.toInt < cl.toInt) {d : Nat} (hd : 2 ≤ d) : mt (mT g) d 254 [.ref m0, .int x1, .int x2] M (fun v M' => v = some (.int (waf f ca x1 x2)) ∧ M' = M) := by
  obtain ⟨d, rfl⟩ : ∃ e, d = e + 1 := ⟨d - 1, by omega⟩
  refine mt_in (b := mb_254 g) rfl rfl ?_
  show ml (mT g) d (mb_254 g).2 (0, [(0, .ref m0), (1, .int x1), (2, .int x2)], [], M) _
  refine ml_st (S' := (1, [(0, .ref m0), (1, .int x1), (2, .int x2)], [.int x1], M)) rfl rfl rfl ?_
  refine ml_call (a := [.int x1]) (rest := []) rfl (rfl) rfl rfl (rm_pad hR (by omega)) (fun v11 M12 h13 => ?_)
  obtain ⟨rfl, h13⟩ := h13
  rw [h13]
  show ml _ _ _ (4, [(0, .ref m0), (1, .int x1), (2, .int x2)], [.int (pd x1)], M) _
  refine ml_st (S' := (5, [(3, .int (pd x1)), (0, .ref m0), (1, .int x1), (2, .int x2)], [], M)) rfl rfl rfl ?_
  refine ml_st (S' := (6, [(3, .int (pd x1)), (0, .ref m0), (1, .int x1), (2, .int x2)], [.int x2], M)) rfl rfl rfl ?_
  refine ml_if (S1 := (13, [(3, .int (pd x1)), (0, .ref m0), (1, .int x1), (2, .int x2)], [], M)) (S2 := (9, [(3, .int (pd x1)), (0, .ref m0), (1, .int x1), (2, .int x2)], [], M)) rfl rfl rfl (fun c_6 => ?_) (fun c_6 => ?_)
  · have c_6 : ¬ x2 = 0 := of_decide_eq_true c_6
    refine ml_blk 2 (S' := (15, [(3, .int (pd x1)), (0, .ref m0), (1, .int x1), (2, .int x2)], [.int x1, .ref m0], M)) rfl ?_
    refine ml_call (a := [.ref m0, .int x1]) (rest := []) rfl (hR.okc rfl rfl rfl) rfl rfl (rm_b1 hR hF hC (h0) (by omega) (by omega)) (fun v14 M15 h16 => ?_)
    obtain ⟨rfl, h16⟩ := h16
    rw [h16]
    show ml _ _ _ (18, [(3, .int (pd x1)), (0, .ref m0), (1, .int x1), (2, .int x2)], [.int (f1 f (ca + x1))], M) _
    refine ml_st (S' := (21, [(3, .int (pd x1)), (0, .ref m0), (1, .int x1), (2, .int x2)], [.int 170, .int (f1 f (ca + x1))], M)) rfl rfl rfl ?_
    refine ml_if2 (S1 := (35, [(3, .int (pd x1)), (0, .ref m0), (1, .int x1), (2, .int x2)], [], M)) (S2 := (24, [(3, .int (pd x1)), (0, .ref m0), (1, .int x1), (2, .int x2)], [], M)) rfl rfl rfl (fun c_21 => ?_) (fun c_21 => ?_)
    · have c_21 : ¬ (f1 f (ca + x1)) = 170 := of_decide_eq_true c_21
      refine ml_blk 3 (S' := (38, [(3, .int (pd x1)), (0, .ref m0), (1, .int x1), (2, .int x2)], [.int ((pd x1) + 4)], M)) rfl ?_
      refine ml_blk 3 (S' := (42, [(3, .int (pd x1)), (0, .ref m0), (1, .int x1), (2, .int x2)], [.int (8 * x2), .int ((pd x1) + 4)], M)) rfl ?_
      refine ml_st (S' := (43, [], [.int (((pd x1) + 4) + (8 * x2))], M)) rfl rfl rfl ?_
      exact ml_ret rfl (rfl) (⟨congrArg (fun y => some (Value.int y)) (show _ = waf f ca x1 x2 by rw [waf, if_neg c_6, if_neg c_21]), rfl⟩)
    · have c_21 : ¬ (¬ (f1 f (ca + x1)) = 170) := of_decide_eq_false c_21
      refine ml_blk 3 (S' := (28, [(3, .int (pd x1)), (0, .ref m0), (1, .int x1), (2, .int x2)], [.int ((pd x1) + 8)], M)) rfl ?_
      refine ml_blk 3 (S' := (31, [(3, .int (pd x1)), (0, .ref m0), (1, .int x1), (2, .int x2)], [.int (4 * x2), .int ((pd x1) + 8)], M)) rfl ?_
      refine ml_st (S' := (32, [(3, .int (pd x1)), (0, .ref m0), (1, .int x1), (2, .int x2)], [.int (((pd x1) + 8) + (4 * x2))], M)) rfl rfl rfl ?_
      refine ml_st (S' := (43, [], [.int (((pd x1) + 8) + (4 * x2))], M)) rfl rfl rfl ?_
      exact ml_ret rfl (rfl) (⟨congrArg (fun y => some (Value.int y)) (show _ = waf f ca x1 x2 by rw [waf, if_neg c_6, if_pos (Decidable.not_not.mp c_21)]), rfl⟩)
  · have c_6 : ¬ (¬ x2 = 0) := of_decide_eq_false c_6
    refine ml_st (S' := (10, [(3, .int (pd x1)), (0, .ref m0), (1, .int x1), (2, .int x2)], [.int (pd x1)], M)) rfl rfl rfl ?_
    refine ml_st (S' := (43, [], [.int (pd x1)], M)) rfl rfl rfl ?_
    exact ml_ret rfl (rfl) (⟨congrArg (fun y => some (Value.int y)) (show _ = waf f ca x1 x2 by rw [waf, if_pos (Decidable.not_not.mp c_6)]), rfl⟩)
set_option maxHeartbeats 2000000 in
theorem rm_aims {g : xe_G}  {m0 : Nat} {q : Nat → Nat} {z : Nat × Nat} {I : rI} {R : rR} {M : mi_H} {x1 : Int32} {n : Nat} {f : Nat → Int32} {ca cl : Int32}  (hR : RS g m0 q z I R M) (hF : FK n f I R) (hC : CK n ca cl I R) (hI : INS f ca cl x1) (hW : ∀ i, i < cl.toInt.toNat → ∃ v, R 81 i = some v) {d : Nat} (hd : 6 ≤ d) : mt (mT g) d 174 [.ref m0, .int x1] M (fun v M' => (∃ x : Int32, v = some (.int x) ∧ (x = 0 ∨ x = 1) ∧ (x = 0 ∨ AIM f ca cl x1)) ∧ M' = M) := by
  obtain ⟨d, rfl⟩ : ∃ e, d = e + 1 := ⟨d - 1, by omega⟩
  refine mt_in (b := mb_174 g) rfl rfl ?_
  show ml (mT g) d (mb_174 g).2 (0, [(0, .ref m0), (1, .int x1)], [], M) _
  have hn := hF.1
  obtain ⟨hca, hcl, hcn⟩ := hC.2.2
  obtain ⟨h0, nn, hn1, hnn, hln, -, hsw⟩ := hI
  have e1 : (1 : Int32).toInt = 1 := rfl
  have d1 : (x1 + 1).toInt = x1.toInt + 1 := by rw [i_add (by omega) (by omega), e1]
  refine ml_blk 2 (S' := (2, [(0, .ref m0), (1, .int x1)], [.int x1, .ref m0], M)) rfl ?_
  refine ml_call (a := [.ref m0, .int x1]) (rest := []) rfl (hR.okc rfl rfl rfl) rfl rfl (rm_b1 hR hF hC (h0) (by omega) (by omega)) (fun v11 M12 h13 => ?_)
  obtain ⟨rfl, h13⟩ := h13
  rw [h13]
  show ml _ _ _ (5, [(0, .ref m0), (1, .int x1)], [.int (f1 f (ca + x1))], M) _
  refine ml_st (S' := (6, [(2, .int (f1 f (ca + x1))), (0, .ref m0), (1, .int x1)], [], M)) rfl rfl rfl ?_
  refine ml_blk 2 (S' := (10, [(2, .int (f1 f (ca + x1))), (0, .ref m0), (1, .int x1)], [.int 153, .int (f1 f (ca + x1))], M)) rfl ?_
  have J_34 : BRO (f1 f (ca + x1)) → ml (mT g) d (mb_174 g).2 (34, [(0, .ref m0), (1, .int x1)], [], M) (fun v M' => (∃ x : Int32, v = some (.int x) ∧ (x = 0 ∨ x = 1) ∧ (x = 0 ∨ AIM f ca cl x1)) ∧ M' = M) := by
    intro hj_34
    have h3 : (3 : Int) ≤ nn := by rcases hj_34 with h | h | h; exact iln 3 hln 153 168 h.1 h.2 mlk_3_153_168; exact iln 3 hln 198 198 (by rw [show _ = (198 : Int32) from h]; decide) (by rw [show _ = (198 : Int32) from h]; decide) mlk_3_198_198; exact iln 3 hln 199 199 (by rw [show _ = (199 : Int32) from h]; decide) (by rw [show _ = (199 : Int32) from h]; decide) mlk_3_199_199
    refine ml_blk 3 (S' := (37, [(0, .ref m0), (1, .int x1)], [.ref m0, .int x1, .ref m0], M)) rfl ?_
    refine ml_blk 3 (S' := (40, [(0, .ref m0), (1, .int x1)], [.int (x1 + 1), .ref m0, .int x1, .ref m0], M)) rfl ?_
    refine ml_call (a := [.ref m0, .int (x1 + 1)]) (rest := [.int x1, .ref m0]) rfl (hR.okc rfl rfl rfl) rfl rfl (rm_s2 hR hF hC (by omega) (by omega) (by omega)) (fun v14 M15 h16 => ?_)
    obtain ⟨rfl, h16⟩ := h16
    rw [h16]
    show ml _ _ _ (43, [(0, .ref m0), (1, .int x1)], [.int (S2 f ca (x1 + 1)), .int x1, .ref m0], M) _
    refine ml_blk 2 (S' := (45, [(0, .ref m0), (1, .int x1)], [.long (Int32.toInt64 (x1 + (S2 f ca (x1 + 1)))), .ref m0], M)) rfl ?_
    refine ml_call (a := [.ref m0, .long (Int32.toInt64 (x1 + (S2 f ca (x1 + 1))))]) (rest := []) rfl (hR.okc rfl rfl rfl) rfl rfl (rm_starts hR hC (hn) (hW) (by omega)) (fun v17 M18 h19 => ?_)
    obtain ⟨⟨u20, rfl, z21, w22⟩, h19⟩ := h19
    rw [h19]
    show ml _ _ _ (48, [(0, .ref m0), (1, .int x1)], [.int u20], M) _
    exact ml_ret rfl (r_z (z21)) (⟨⟨_, rfl, z21, w22.imp id (fun h => by first | exact AIM.br hj_34 h | exact AIM.wd (by omega) hj_63 h)⟩, rfl⟩)
  have J_20 : (¬ (153 ≤ (f1 f (ca + x1)).toInt ∧ (f1 f (ca + x1)).toInt ≤ 168)) → ml (mT g) d (mb_174 g).2 (20, [(0, .ref m0), (1, .int x1), (2, .int (f1 f (ca + x1)))], [], M) (fun v M' => (∃ x : Int32, v = some (.int x) ∧ (x = 0 ∨ x = 1) ∧ (x = 0 ∨ AIM f ca cl x1)) ∧ M' = M) := by
    intro hj_20
    refine ml_blk 2 (S' := (24, [(0, .ref m0), (1, .int x1), (2, .int (f1 f (ca + x1)))], [.int 198, .int (f1 f (ca + x1))], M)) rfl ?_
    refine ml_if2 (S1 := (34, [(0, .ref m0), (1, .int x1)], [], M)) (S2 := (27, [(0, .ref m0), (1, .int x1), (2, .int (f1 f (ca + x1)))], [], M)) rfl rfl rfl (fun c_24 => ?_) (fun c_24 => ?_)
    · have c_24 : (f1 f (ca + x1)) = 198 := of_decide_eq_true c_24
      exact J_34  (Or.inr (Or.inl c_24))
    · have c_24 : ¬ ((f1 f (ca + x1)) = 198) := of_decide_eq_false c_24
      refine ml_blk 2 (S' := (31, [(0, .ref m0), (1, .int x1), (2, .int (f1 f (ca + x1)))], [.int 199, .int (f1 f (ca + x1))], M)) rfl ?_
      refine ml_if2 (S1 := (49, [(0, .ref m0), (1, .int x1), (2, .int (f1 f (ca + x1)))], [], M)) (S2 := (34, [(0, .ref m0), (1, .int x1)], [], M)) rfl rfl rfl (fun c_31 => ?_) (fun c_31 => ?_)
      · have c_31 : ¬ (f1 f (ca + x1)) = 199 := of_decide_eq_true c_31
        refine ml_blk 2 (S' := (53, [(0, .ref m0), (1, .int x1), (2, .int (f1 f (ca + x1)))], [.int 200, .int (f1 f (ca + x1))], M)) rfl ?_
        have J_63 : (f1 f (ca + x1) = 200 ∨ f1 f (ca + x1) = 201) → ml (mT g) d (mb_174 g).2 (63, [(0, .ref m0), (1, .int x1)], [], M) (fun v M' => (∃ x : Int32, v = some (.int x) ∧ (x = 0 ∨ x = 1) ∧ (x = 0 ∨ AIM f ca cl x1)) ∧ M' = M) := by
          intro hj_63
          have h5 : (5 : Int) ≤ nn := by rcases hj_63 with h | h; exact iln 5 hln 200 200 (by rw [show _ = (200 : Int32) from h]; decide) (by rw [show _ = (200 : Int32) from h]; decide) mlk_5_200_200; exact iln 5 hln 201 201 (by rw [show _ = (201 : Int32) from h]; decide) (by rw [show _ = (201 : Int32) from h]; decide) mlk_5_201_201
          refine ml_blk 3 (S' := (66, [(0, .ref m0), (1, .int x1)], [.long (Int32.toInt64 x1), .ref m0], M)) rfl ?_
          refine ml_blk 3 (S' := (69, [(0, .ref m0), (1, .int x1)], [.int 1, .int x1, .ref m0, .long (Int32.toInt64 x1), .ref m0], M)) rfl ?_
          refine ml_st (S' := (70, [(0, .ref m0), (1, .int x1)], [.int (x1 + 1), .ref m0, .long (Int32.toInt64 x1), .ref m0], M)) rfl rfl rfl ?_
          refine ml_call (a := [.ref m0, .int (x1 + 1)]) (rest := [.long (Int32.toInt64 x1), .ref m0]) rfl (hR.okc rfl rfl rfl) rfl rfl (rm_b4 hR hF hC (by omega) (by omega) (by omega)) (fun v23 M24 h25 => ?_)
          obtain ⟨rfl, h25⟩ := h25
          rw [h25]
          show ml _ _ _ (73, [(0, .ref m0), (1, .int x1)], [.int (B4 f ca (x1 + 1)), .long (Int32.toInt64 x1), .ref m0], M) _
          refine ml_blk 2 (S' := (75, [(0, .ref m0), (1, .int x1)], [.long ((Int32.toInt64 x1) + (Int32.toInt64 (B4 f ca (x1 + 1)))), .ref m0], M)) rfl ?_
          refine ml_call (a := [.ref m0, .long ((Int32.toInt64 x1) + (Int32.toInt64 (B4 f ca (x1 + 1))))]) (rest := []) rfl (hR.okc rfl rfl rfl) rfl rfl (rm_starts hR hC (hn) (hW) (by omega)) (fun v26 M27 h28 => ?_)
          obtain ⟨⟨u29, rfl, z30, w31⟩, h28⟩ := h28
          rw [h28]
          show ml _ _ _ (78, [(0, .ref m0), (1, .int x1)], [.int u29], M) _
          exact ml_ret rfl (r_z (z30)) (⟨⟨_, rfl, z30, w31.imp id (fun h => by first | exact AIM.br hj_34 h | exact AIM.wd (by omega) hj_63 h)⟩, rfl⟩)
        refine ml_if2 (S1 := (63, [(0, .ref m0), (1, .int x1)], [], M)) (S2 := (56, [(0, .ref m0), (1, .int x1), (2, .int (f1 f (ca + x1)))], [], M)) rfl rfl rfl (fun c_53 => ?_) (fun c_53 => ?_)
        · have c_53 : (f1 f (ca + x1)) = 200 := of_decide_eq_true c_53
          exact J_63  (Or.inl c_53)
        · have c_53 : ¬ ((f1 f (ca + x1)) = 200) := of_decide_eq_false c_53
          refine ml_blk 2 (S' := (60, [(0, .ref m0), (1, .int x1), (2, .int (f1 f (ca + x1)))], [.int 201, .int (f1 f (ca + x1))], M)) rfl ?_
          refine ml_if2 (S1 := (79, [(0, .ref m0), (1, .int x1), (2, .int (f1 f (ca + x1)))], [], M)) (S2 := (63, [(0, .ref m0), (1, .int x1)], [], M)) rfl rfl rfl (fun c_60 => ?_) (fun c_60 => ?_)
          · have c_60 : ¬ (f1 f (ca + x1)) = 201 := of_decide_eq_true c_60
            refine ml_blk 2 (S' := (83, [(0, .ref m0), (1, .int x1), (2, .int (f1 f (ca + x1)))], [.int 170, .int (f1 f (ca + x1))], M)) rfl ?_
            have J_93 : (f1 f (ca + x1) = 170 ∨ f1 f (ca + x1) = 171) → ml (mT g) d (mb_174 g).2 (93, [(0, .ref m0), (1, .int x1)], [], M) (fun v M' => (∃ x : Int32, v = some (.int x) ∧ (x = 0 ∨ x = 1) ∧ (x = 0 ∨ AIM f ca cl x1)) ∧ M' = M) := by
              intro hj_93
              refine ml_st (S' := (94, [(0, .ref m0), (1, .int x1)], [.int 0], M)) rfl rfl rfl ?_
              refine ml_st (S' := (95, [(0, .ref m0), (1, .int x1), (3, .int 0)], [], M)) rfl rfl rfl ?_
              have L_95 : ∀ (n_95 : Nat) (i95_3 : Int32), (2147483648 - i95_3.toInt).toNat ≤ n_95 → (0 ≤ i95_3.toInt ∧ ∀ i : Int32, 0 ≤ i.toInt → i.toInt < i95_3.toInt → 0 ≤ (x1 + B4 f ca (waf f ca x1 i)).toInt ∧ (x1 + B4 f ca (waf f ca x1 i)).toInt < cl.toInt) → ml (mT g) d (mb_174 g).2 (95, [(0, .ref m0), (1, .int x1), (3, .int i95_3)], [], M) (fun v M' => (∃ x : Int32, v = some (.int x) ∧ (x = 0 ∨ x = 1) ∧ (x = 0 ∨ AIM f ca cl x1)) ∧ M' = M) := by
                intro n_95
                induction n_95 with
                | zero => intro i95_3 hn; exact (loop_zero hn).elim
                | succ n_95 ih_95 =>
                  intro i95_3 hn_95 hi_95
                  obtain ⟨hk0, hka⟩ := hi_95
                  refine ml_blk 3 (S' := (98, [(0, .ref m0), (1, .int x1), (3, .int i95_3)], [.int x1, .ref m0, .int i95_3], M)) rfl ?_
                  refine ml_call (a := [.ref m0, .int x1]) (rest := [.int i95_3]) rfl (hR.okc rfl rfl rfl) rfl rfl (rm_ways hR hF hC (h0) (by omega) (hsw hj_93) (hj_93) (by omega)) (fun v32 M33 h34 => ?_)
                  obtain ⟨rfl, h34⟩ := h34
                  rw [h34]
                  show ml _ _ _ (101, [(0, .ref m0), (1, .int x1), (3, .int i95_3)], [.int (wyf f ca x1), .int i95_3], M) _
                  refine ml_if2 (S1 := (133, [], [], M)) (S2 := (104, [(0, .ref m0), (1, .int x1), (3, .int i95_3)], [], M)) rfl rfl rfl (fun c_101 => ?_) (fun c_101 => ?_)
                  · have c_101 : (wyf f ca x1) ≤ i95_3 := of_decide_eq_true c_101
                    refine ml_st (S' := (134, [], [.int 1], M)) rfl rfl rfl ?_
                    exact ml_ret rfl (r_z (Or.inr rfl)) (⟨⟨_, rfl, Or.inr rfl, Or.inr (AIM.sw hj_93 (fun i a b => hka i a (by have := i_le c_101; omega)))⟩, rfl⟩)
                  · have c_101 : ¬ ((wyf f ca x1) ≤ i95_3) := of_decide_eq_false c_101
                    have hlt := i_nle c_101
                    have hwb := waf_b (by omega) h0 (by omega) (hsw hj_93) hj_93 hk0 hlt
                    refine ml_blk 3 (S' := (107, [(0, .ref m0), (1, .int x1), (3, .int i95_3)], [.long (Int32.toInt64 x1), .ref m0], M)) rfl ?_
                    refine ml_blk 3 (S' := (110, [(0, .ref m0), (1, .int x1), (3, .int i95_3)], [.int x1, .ref m0, .ref m0, .long (Int32.toInt64 x1), .ref m0], M)) rfl ?_
                    refine ml_st (S' := (111, [(0, .ref m0), (1, .int x1), (3, .int i95_3)], [.int i95_3, .int x1, .ref m0, .ref m0, .long (Int32.toInt64 x1), .ref m0], M)) rfl rfl rfl ?_
                    refine ml_call (a := [.ref m0, .int x1, .int i95_3]) (rest := [.ref m0, .long (Int32.toInt64 x1), .ref m0]) rfl (hR.okc rfl rfl rfl) rfl rfl (rm_wayAt hR hF hC (h0) (by omega) (by omega)) (fun v35 M36 h37 => ?_)
                    obtain ⟨rfl, h37⟩ := h37
                    rw [h37]
                    show ml _ _ _ (114, [(0, .ref m0), (1, .int x1), (3, .int i95_3)], [.int (waf f ca x1 i95_3), .ref m0, .long (Int32.toInt64 x1), .ref m0], M) _
                    refine ml_call (a := [.ref m0, .int (waf f ca x1 i95_3)]) (rest := [.long (Int32.toInt64 x1), .ref m0]) rfl (hR.okc rfl rfl rfl) rfl rfl (rm_b4 hR hF hC (hwb.1) (hwb.2) (by omega)) (fun v38 M39 h40 => ?_)
                    obtain ⟨rfl, h40⟩ := h40
                    rw [h40]
                    show ml _ _ _ (117, [(0, .ref m0), (1, .int x1), (3, .int i95_3)], [.int (B4 f ca (waf f ca x1 i95_3)), .long (Int32.toInt64 x1), .ref m0], M) _
                    refine ml_blk 2 (S' := (119, [(0, .ref m0), (1, .int x1), (3, .int i95_3)], [.long ((Int32.toInt64 x1) + (Int32.toInt64 (B4 f ca (waf f ca x1 i95_3)))), .ref m0], M)) rfl ?_
                    refine ml_call (a := [.ref m0, .long ((Int32.toInt64 x1) + (Int32.toInt64 (B4 f ca (waf f ca x1 i95_3))))]) (rest := []) rfl (hR.okc rfl rfl rfl) rfl rfl (rm_starts hR hC (hn) (hW) (by omega)) (fun v41 M42 h43 => ?_)
                    obtain ⟨⟨u44, rfl, z45, w46⟩, h43⟩ := h43
                    rw [h43]
                    show ml _ _ _ (122, [(0, .ref m0), (1, .int x1), (3, .int i95_3)], [.int u44], M) _
                    have hst := w46
                    refine ml_if (S1 := (127, [(0, .ref m0), (1, .int x1), (3, .int i95_3)], [], M)) (S2 := (125, [(0, .ref m0), (1, .int x1), (3, .int i95_3)], [], M)) rfl rfl rfl (fun c_122 => ?_) (fun c_122 => ?_)
                    · have c_122 : ¬ u44 = 0 := of_decide_eq_true c_122
                      refine ml_st (S' := (130, [(3, .int (i95_3 + 1)), (0, .ref m0), (1, .int x1)], [], M)) rfl rfl rfl ?_
                      refine ml_st (S' := (95, [(0, .ref m0), (1, .int x1), (3, .int (i95_3 + 1))], [], M)) rfl rfl rfl ?_
                      exact ih_95 (i95_3 + 1) (loop_inc (Int32.not_le.mp c_101) hn_95) (⟨by rw [inc_lt (Int32.not_le.mp c_101)]; omega, fun i a b => by rw [inc_lt (Int32.not_le.mp c_101)] at b; by_cases e : i.toInt = i95_3.toInt; (rw [Int32.toInt_inj.mp e]; exact to_in (by omega) (hst.resolve_left c_122)); exact hka i a (by omega)⟩)
                    · have c_122 : ¬ (¬ u44 = 0) := of_decide_eq_false c_122
                      refine ml_st (S' := (126, [(0, .ref m0), (1, .int x1), (3, .int i95_3)], [.int 0], M)) rfl rfl rfl ?_
                      exact ml_ret rfl (r_z (Or.inl rfl)) (⟨⟨_, rfl, Or.inl rfl, Or.inl rfl⟩, rfl⟩)
              exact L_95 _ 0 (Nat.le_refl _) (⟨by decide, fun i a b => absurd b (by have : (0 : Int32).toInt = 0 := rfl; omega)⟩)
            refine ml_if2 (S1 := (93, [(0, .ref m0), (1, .int x1)], [], M)) (S2 := (86, [(0, .ref m0), (1, .int x1), (2, .int (f1 f (ca + x1)))], [], M)) rfl rfl rfl (fun c_83 => ?_) (fun c_83 => ?_)
            · have c_83 : (f1 f (ca + x1)) = 170 := of_decide_eq_true c_83
              exact J_93  (Or.inl c_83)
            · have c_83 : ¬ ((f1 f (ca + x1)) = 170) := of_decide_eq_false c_83
              refine ml_blk 2 (S' := (90, [(0, .ref m0), (1, .int x1), (2, .int (f1 f (ca + x1)))], [.int 171, .int (f1 f (ca + x1))], M)) rfl ?_
              refine ml_if2 (S1 := (133, [], [], M)) (S2 := (93, [(0, .ref m0), (1, .int x1)], [], M)) rfl rfl rfl (fun c_90 => ?_) (fun c_90 => ?_)
              · have c_90 : ¬ (f1 f (ca + x1)) = 171 := of_decide_eq_true c_90
                refine ml_st (S' := (134, [], [.int 1], M)) rfl rfl rfl ?_
                exact ml_ret rfl (r_z (Or.inr rfl)) (⟨⟨_, rfl, Or.inr rfl, Or.inr (AIM.no (fun h => h.elim hj_20 (fun h => h.elim c_24 c_31)) (fun h => h.elim c_53 c_60) (fun h => h.elim c_83 c_90))⟩, rfl⟩)
              · have c_90 : ¬ (¬ (f1 f (ca + x1)) = 171) := of_decide_eq_false c_90
                exact J_93  (Or.inr (Decidable.not_not.mp c_90))
          · have c_60 : ¬ (¬ (f1 f (ca + x1)) = 201) := of_decide_eq_false c_60
            exact J_63  (Or.inr (Decidable.not_not.mp c_60))
      · have c_31 : ¬ (¬ (f1 f (ca + x1)) = 199) := of_decide_eq_false c_31
        exact J_34  (Or.inr (Or.inr (Decidable.not_not.mp c_31)))
  refine ml_if2 (S1 := (20, [(0, .ref m0), (1, .int x1), (2, .int (f1 f (ca + x1)))], [], M)) (S2 := (13, [(2, .int (f1 f (ca + x1))), (0, .ref m0), (1, .int x1)], [], M)) rfl rfl rfl (fun c_10 => ?_) (fun c_10 => ?_)
  · have c_10 : (f1 f (ca + x1)) < 153 := of_decide_eq_true c_10
    exact J_20  (fun h => by have := i_lt c_10; have : (153 : Int32).toInt = 153 := rfl; omega)
  · have c_10 : ¬ ((f1 f (ca + x1)) < 153) := of_decide_eq_false c_10
    refine ml_blk 2 (S' := (17, [(2, .int (f1 f (ca + x1))), (0, .ref m0), (1, .int x1)], [.int 168, .int (f1 f (ca + x1))], M)) rfl ?_
    refine ml_if2 (S1 := (34, [(0, .ref m0), (1, .int x1)], [], M)) (S2 := (20, [(0, .ref m0), (1, .int x1), (2, .int (f1 f (ca + x1)))], [], M)) rfl rfl rfl (fun c_17 => ?_) (fun c_17 => ?_)
    · have c_17 : (f1 f (ca + x1)) ≤ 168 := of_decide_eq_true c_17
      exact J_34  (Or.inl ⟨by have := i_nlt c_10; have : (153 : Int32).toInt = 153 := rfl; omega, by have := i_le c_17; have : (168 : Int32).toInt = 168 := rfl; omega⟩)
    · have c_17 : ¬ ((f1 f (ca + x1)) ≤ 168) := of_decide_eq_false c_17
      exact J_20  (fun h => by have := i_nle c_17; have : (168 : Int32).toInt = 168 := rfl; omega)
end
section
/-! the reference: forms (laid by wip/p2/c76.py) -/
set_option maxHeartbeats 2000000 in
theorem rm_formed {g : xe_G}  {m0 : Nat} {q : Nat → Nat} {z : Nat × Nat} {I : rI} {R : rR} {M : mi_H} {x1 x2 : Int32} {n : Nat} {f : Nat → Int32} {ca cl : Int32}  (hR : RS g m0 q z I R M) (hF : FK n f I R) (hC : CK n ca cl I R) (h0 : 0 ≤ x1.toInt) (h1 : x1.toInt < cl.toInt) (hop : f1 f (ca + x1) = x2) (hop2 : (x2 = 170 ∨ x2 = 171) ∨ x2 = 196) {d : Nat} (hd : 5 ≤ d) : mt (mT g) d 210 [.ref m0, .int x1, .int x2] M (fun v M' => (∃ x : Int32, v = some (.int x) ∧ (x < 0 ∨ FRM f ca cl x1 x)) ∧ M' = M) := by
  obtain ⟨d, rfl⟩ : ∃ e, d = e + 1 := ⟨d - 1, by omega⟩
  refine mt_in (b := mb_210 g) rfl rfl ?_
  show ml (mT g) d (mb_210 g).2 (0, [(0, .ref m0), (1, .int x1), (2, .int x2)], [], M) _
  have hn := hF.1
  obtain ⟨hca, hcl, hcn⟩ := hC.2.2
  have d1 : (x1 + 1).toInt = x1.toInt + 1 := by have e9 : (1 : Int32).toInt = 1 := rfl; rw [i_add (by omega) (by omega), e9]
  have hp := pd_b h0 (by omega)
  have d4 : ((pd x1) + 4).toInt = (pd x1).toInt + 4 := by have e9 : (4 : Int32).toInt = 4 := rfl; rw [i_add (by omega) (by omega), e9]
  have d8 : ((pd x1) + 8).toInt = (pd x1).toInt + 8 := by have e9 : (8 : Int32).toInt = 8 := rfl; rw [i_add (by omega) (by omega), e9]
  have d12 : ((pd x1) + 12).toInt = (pd x1).toInt + 12 := by have e9 : (12 : Int32).toInt = 12 := rfl; rw [i_add (by omega) (by omega), e9]
  refine ml_blk 2 (S' := (4, [(0, .ref m0), (1, .int x1), (2, .int x2)], [.int 196, .int x2], M)) rfl ?_
  refine ml_if2 (S1 := (76, [(0, .ref m0), (1, .int x1), (2, .int x2)], [], M)) (S2 := (7, [(0, .ref m0), (1, .int x1), (2, .int x2)], [], M)) rfl rfl rfl (fun c_4 => ?_) (fun c_4 => ?_)
  · have c_4 : ¬ x2 = 196 := of_decide_eq_true c_4
    have ho := hop2.resolve_right c_4
    refine ml_st (S' := (77, [(0, .ref m0), (1, .int x1), (2, .int x2)], [.int x1], M)) rfl rfl rfl ?_
    refine ml_call (a := [.int x1]) (rest := []) rfl (rfl) rfl rfl (rm_pad hR (by omega)) (fun v11 M12 h13 => ?_)
    obtain ⟨rfl, h13⟩ := h13
    rw [h13]
    show ml _ _ _ (80, [(0, .ref m0), (1, .int x1), (2, .int x2)], [.int (pd x1)], M) _
    refine ml_st (S' := (81, [(3, .int (pd x1)), (0, .ref m0), (1, .int x1), (2, .int x2)], [], M)) rfl rfl rfl ?_
    refine ml_blk 3 (S' := (86, [(3, .int (pd x1)), (0, .ref m0), (1, .int x1), (2, .int x2)], [.int 170, .int x2, .int (pd x1)], M)) rfl ?_
    have J_96 : ∀ (s96_0 : Int32), ((x2 = 170 → s96_0 = 12) ∧ (¬ x2 = 170 → s96_0 = 8)) → ml (mT g) d (mb_210 g).2 (96, [(0, .ref m0), (1, .int x1), (2, .int x2), (3, .int (pd x1))], [.int s96_0, .int (pd x1)], M) (fun v M' => (∃ x : Int32, v = some (.int x) ∧ (x < 0 ∨ FRM f ca cl x1 x)) ∧ M' = M) := by
      intro s96_0 hj_96
      refine ml_blk 2 (S' := (98, [(0, .ref m0), (1, .int x1), (2, .int x2), (3, .int (pd x1))], [.ref m0, .int ((pd x1) + s96_0)], M)) rfl ?_
      refine rg_int (S' := (101, [(0, .ref m0), (1, .int x1), (2, .int x2), (3, .int (pd x1))], [.int cl, .int ((pd x1) + s96_0)], M)) rfl hR rfl (hC.2.1) rfl ?_
      refine ml_if2 (S1 := (106, [(0, .ref m0), (1, .int x1), (2, .int x2), (3, .int (pd x1))], [], M)) (S2 := (104, [(0, .ref m0), (1, .int x1), (2, .int x2), (3, .int (pd x1))], [], M)) rfl rfl rfl (fun c_101 => ?_) (fun c_101 => ?_)
      · have c_101 : ((pd x1) + s96_0) ≤ cl := of_decide_eq_true c_101
        have h106 : (x2 = 170 → (pd x1).toInt + 12 ≤ cl.toInt) ∧ (¬ x2 = 170 → (pd x1).toInt + 8 ≤ cl.toInt) := ⟨fun e => by have q := i_le c_101; rw [hj_96.1 e, d12] at q; exact q, fun e => by have q := i_le c_101; rw [hj_96.2 e, d8] at q; exact q⟩
        have h8 : (pd x1).toInt + 8 ≤ cl.toInt := by rcases Decidable.em (x2 = 170) with e | e; (have := h106.1 e; omega); exact h106.2 e
        refine ml_blk 3 (S' := (109, [(0, .ref m0), (1, .int x1), (2, .int x2), (3, .int (pd x1))], [.int (x1 + 1)], M)) rfl ?_
        refine ml_st (S' := (111, [(0, .ref m0), (1, .int x1), (2, .int x2), (3, .int (pd x1)), (4, .int (x1 + 1))], [], M)) rfl rfl rfl ?_
        have L_111 : ∀ (n_111 : Nat) (i111_4 : Int32), (2147483648 - i111_4.toInt).toNat ≤ n_111 → 0 ≤ i111_4.toInt → ml (mT g) d (mb_210 g).2 (111, [(0, .ref m0), (1, .int x1), (2, .int x2), (3, .int (pd x1)), (4, .int i111_4)], [], M) (fun v M' => (∃ x : Int32, v = some (.int x) ∧ (x < 0 ∨ FRM f ca cl x1 x)) ∧ M' = M) := by
          intro n_111
          induction n_111 with
          | zero => intro i111_4 hn; exact (loop_zero hn).elim
          | succ n_111 ih_111 =>
            intro i111_4 hn_111 hi_111
            refine ml_blk 2 (S' := (114, [(0, .ref m0), (1, .int x1), (2, .int x2), (3, .int (pd x1)), (4, .int i111_4)], [.int (pd x1), .int i111_4], M)) rfl ?_
            refine ml_if2 (S1 := (134, [(0, .ref m0), (1, .int x1), (2, .int x2), (3, .int (pd x1)), (4, .int i111_4)], [], M)) (S2 := (117, [(0, .ref m0), (1, .int x1), (2, .int x2), (3, .int (pd x1)), (4, .int i111_4)], [], M)) rfl rfl rfl (fun c_114 => ?_) (fun c_114 => ?_)
            · have c_114 : (pd x1) ≤ i111_4 := of_decide_eq_true c_114
              refine ml_blk 2 (S' := (138, [(0, .ref m0), (1, .int x1), (2, .int x2), (3, .int (pd x1)), (4, .int i111_4)], [.int 170, .int x2], M)) rfl ?_
              have J_174 : ((x2 = 170 → (B4 f ca (pd x1 + 4)).toInt ≤ (B4 f ca (pd x1 + 8)).toInt) ∧ (¬ x2 = 170 → 0 ≤ (B4 f ca (pd x1 + 4)).toInt)) → ml (mT g) d (mb_210 g).2 (174, [(0, .ref m0), (1, .int x1), (2, .int x2), (3, .int (pd x1))], [], M) (fun v M' => (∃ x : Int32, v = some (.int x) ∧ (x < 0 ∨ FRM f ca cl x1 x)) ∧ M' = M) := by
                intro hj_174
                refine ml_blk 2 (S' := (178, [(0, .ref m0), (1, .int x1), (2, .int x2), (3, .int (pd x1))], [.int 170, .int x2], M)) rfl ?_
                have J_228 : ∀ (s228_0 : Int64), ((x2 = 170 → s228_0.toInt = 4 * ((B4 f ca (pd x1 + 8)).toInt - (B4 f ca (pd x1 + 4)).toInt + 1) + 12) ∧ (¬ x2 = 170 → s228_0.toInt = 8 * (B4 f ca (pd x1 + 4)).toInt + 8)) → ml (mT g) d (mb_210 g).2 (228, [(0, .ref m0), (1, .int x1), (2, .int x2), (3, .int (pd x1))], [.long s228_0], M) (fun v M' => (∃ x : Int32, v = some (.int x) ∧ (x < 0 ∨ FRM f ca cl x1 x)) ∧ M' = M) := by
                  intro s228_0 hj_228
                  refine ml_st (S' := (230, [(4, .long s228_0), (0, .ref m0), (1, .int x1), (2, .int x2), (3, .int (pd x1))], [], M)) rfl rfl rfl ?_
                  refine ml_blk 3 (S' := (234, [(4, .long s228_0), (0, .ref m0), (1, .int x1), (2, .int x2), (3, .int (pd x1))], [.long s228_0, .long (Int32.toInt64 (pd x1))], M)) rfl ?_
                  refine ml_blk 2 (S' := (236, [(4, .long s228_0), (0, .ref m0), (1, .int x1), (2, .int x2), (3, .int (pd x1))], [.ref m0, .long ((Int32.toInt64 (pd x1)) + s228_0)], M)) rfl ?_
                  refine rg_int (S' := (239, [(4, .long s228_0), (0, .ref m0), (1, .int x1), (2, .int x2), (3, .int (pd x1))], [.int cl, .long ((Int32.toInt64 (pd x1)) + s228_0)], M)) rfl hR rfl (hC.2.1) rfl ?_
                  refine ml_blk 2 (S' := (241, [(4, .long s228_0), (0, .ref m0), (1, .int x1), (2, .int x2), (3, .int (pd x1))], [.int (lg_cmp ((Int32.toInt64 (pd x1)) + s228_0) (Int32.toInt64 cl))], M)) rfl ?_
                  refine ml_if (S1 := (246, [(4, .long s228_0), (0, .ref m0), (1, .int x1), (2, .int x2), (3, .int (pd x1))], [], M)) (S2 := (244, [(4, .long s228_0), (0, .ref m0), (1, .int x1), (2, .int x2), (3, .int (pd x1))], [], M)) rfl rfl rfl (fun c_241 => ?_) (fun c_241 => ?_)
                  · have c_241 : (lg_cmp ((Int32.toInt64 (pd x1)) + s228_0) (Int32.toInt64 cl)) ≤ 0 := of_decide_eq_true c_241
                    have hsz : (pd x1).toInt + s228_0.toInt ≤ cl.toInt := by have hb : s228_0.toInt ≤ 40000000000 := (by have a1 := Int32.le_toInt (B4 f ca (pd x1 + 4)); have a2 := Int32.toInt_lt (B4 f ca (pd x1 + 8)); have a3 := Int32.toInt_lt (B4 f ca (pd x1 + 4)); rcases Decidable.em (x2 = 170) with e | e; (rw [hj_228.1 e]; omega); (rw [hj_228.2 e]; omega)); have hb2 : 0 ≤ s228_0.toInt := (by rcases Decidable.em (x2 = 170) with e | e; (rw [hj_228.1 e]; have := hj_174.1 e; omega); (rw [hj_228.2 e]; have := hj_174.2 e; omega)); have q := lc_le c_241; rw [l_add (by rw [l_of]; omega) (by rw [l_of]; omega), l_of, l_of] at q; exact q
                    have h88 : 8 ≤ s228_0.toInt := by rcases Decidable.em (x2 = 170) with e | e; (rw [hj_228.1 e]; have := hj_174.1 e; omega); (rw [hj_228.2 e]; have := hj_174.2 e; omega)
                    have hS : SWF f ca cl x1 := ⟨fun e => by have e2 : x2 = 170 := hop.symm.trans e; have a := h106.1 e2; have b := hj_174.1 e2; have c := hj_228.1 e2; exact ⟨a, b, by omega⟩, fun e => by have e2 : ¬ x2 = 170 := (fun q => absurd ((hop.trans q).symm.trans e) (by decide)); have a := h106.2 e2; have b := hj_174.2 e2; have c := hj_228.2 e2; exact ⟨a, b, by omega⟩⟩
                    refine ml_blk 2 (S' := (250, [(4, .long s228_0), (0, .ref m0), (1, .int x1), (2, .int x2), (3, .int (pd x1))], [.int 171, .int x2], M)) rfl ?_
                    refine ml_if2 (S1 := (304, [(1, .int x1), (3, .int (pd x1)), (4, .long s228_0)], [], M)) (S2 := (253, [(4, .long s228_0), (0, .ref m0), (1, .int x1), (2, .int x2), (3, .int (pd x1))], [], M)) rfl rfl rfl (fun c_250 => ?_) (fun c_250 => ?_)
                    · have c_250 : ¬ x2 = 171 := of_decide_eq_true c_250
                      refine ml_blk 3 (S' := (308, [(1, .int x1), (3, .int (pd x1)), (4, .long s228_0)], [.long s228_0, .long (Int32.toInt64 (pd x1))], M)) rfl ?_
                      refine ml_blk 3 (S' := (311, [(1, .int x1), (3, .int (pd x1)), (4, .long s228_0)], [.long (Int32.toInt64 x1), .long ((Int32.toInt64 (pd x1)) + s228_0)], M)) rfl ?_
                      refine ml_blk 2 (S' := (313, [(1, .int x1), (3, .int (pd x1)), (4, .long s228_0)], [.int (Int64.toInt32 (((Int32.toInt64 (pd x1)) + s228_0) - (Int32.toInt64 x1)))], M)) rfl ?_
                      exact ml_ret rfl (rfl) (⟨⟨_, rfl, Or.inr ⟨fun e => absurd (hop.symm.trans e) c_4, fun _ => ⟨hS, (sw_l3 h0 hp.1 (by omega) h88).1⟩, (sw_l3 h0 hp.1 (by omega) h88).2⟩⟩, rfl⟩)
                    · have c_250 : ¬ (¬ x2 = 171) := of_decide_eq_false c_250
                      refine ml_st (S' := (254, [(4, .long s228_0), (0, .ref m0), (1, .int x1), (2, .int x2), (3, .int (pd x1))], [.int 1], M)) rfl rfl rfl ?_
                      refine ml_st (S' := (256, [(0, .ref m0), (1, .int x1), (3, .int (pd x1)), (4, .long s228_0), (6, .int 1)], [], M)) rfl rfl rfl ?_
                      have L_256 : ∀ (n_256 : Nat) (i256_6 : Int32), (2147483648 - i256_6.toInt).toNat ≤ n_256 → 1 ≤ i256_6.toInt → ml (mT g) d (mb_210 g).2 (256, [(0, .ref m0), (1, .int x1), (3, .int (pd x1)), (4, .long s228_0), (6, .int i256_6)], [], M) (fun v M' => (∃ x : Int32, v = some (.int x) ∧ (x < 0 ∨ FRM f ca cl x1 x)) ∧ M' = M) := by
                        intro n_256
                        induction n_256 with
                        | zero => intro i256_6 hn; exact (loop_zero hn).elim
                        | succ n_256 ih_256 =>
                          intro i256_6 hn_256 hi_256
                          refine ml_blk 3 (S' := (260, [(0, .ref m0), (1, .int x1), (3, .int (pd x1)), (4, .long s228_0), (6, .int i256_6)], [.int (pd x1), .ref m0, .int i256_6], M)) rfl ?_
                          refine ml_blk 2 (S' := (262, [(0, .ref m0), (1, .int x1), (3, .int (pd x1)), (4, .long s228_0), (6, .int i256_6)], [.int ((pd x1) + 4), .ref m0, .int i256_6], M)) rfl ?_
                          refine ml_call (a := [.ref m0, .int ((pd x1) + 4)]) (rest := [.int i256_6]) rfl (hR.okc rfl rfl rfl) rfl rfl (rm_b4 hR hF hC (by omega) (by omega) (by omega)) (fun v14 M15 h16 => ?_)
                          obtain ⟨rfl, h16⟩ := h16
                          rw [h16]
                          show ml _ _ _ (265, [(0, .ref m0), (1, .int x1), (3, .int (pd x1)), (4, .long s228_0), (6, .int i256_6)], [.int (B4 f ca ((pd x1) + 4)), .int i256_6], M) _
                          refine ml_if2 (S1 := (304, [(1, .int x1), (3, .int (pd x1)), (4, .long s228_0)], [], M)) (S2 := (268, [(0, .ref m0), (1, .int x1), (3, .int (pd x1)), (4, .long s228_0), (6, .int i256_6)], [], M)) rfl rfl rfl (fun c_265 => ?_) (fun c_265 => ?_)
                          · have c_265 : (B4 f ca ((pd x1) + 4)) ≤ i256_6 := of_decide_eq_true c_265
                            refine ml_blk 3 (S' := (308, [(1, .int x1), (3, .int (pd x1)), (4, .long s228_0)], [.long s228_0, .long (Int32.toInt64 (pd x1))], M)) rfl ?_
                            refine ml_blk 3 (S' := (311, [(1, .int x1), (3, .int (pd x1)), (4, .long s228_0)], [.long (Int32.toInt64 x1), .long ((Int32.toInt64 (pd x1)) + s228_0)], M)) rfl ?_
                            refine ml_blk 2 (S' := (313, [(1, .int x1), (3, .int (pd x1)), (4, .long s228_0)], [.int (Int64.toInt32 (((Int32.toInt64 (pd x1)) + s228_0) - (Int32.toInt64 x1)))], M)) rfl ?_
                            exact ml_ret rfl (rfl) (⟨⟨_, rfl, Or.inr ⟨fun e => absurd (hop.symm.trans e) c_4, fun _ => ⟨hS, (sw_l3 h0 hp.1 (by omega) h88).1⟩, (sw_l3 h0 hp.1 (by omega) h88).2⟩⟩, rfl⟩)
                          · have c_265 : ¬ ((B4 f ca ((pd x1) + 4)) ≤ i256_6) := of_decide_eq_false c_265
                            have hlt := i_nle c_265
                            have e71 : ¬ x2 = 170 := by rw [show x2 = 171 from Decidable.not_not.mp c_250]; decide
                            have hc9 := hj_228.2 e71
                            have m8 := mul_k (k := 8) (x := i256_6) (a := 8) rfl (by omega) (by omega) (by omega) (by omega)
                            have a1 : (pd x1 + 8 + 8 * i256_6).toInt = (pd x1).toInt + 8 + 8 * i256_6.toInt := by rw [i_add (by omega) (by omega), d8, m8]
                            have a2 : (pd x1 + 8 * i256_6).toInt = (pd x1).toInt + 8 * i256_6.toInt := by rw [i_add (by omega) (by omega), m8]
                            refine ml_blk 3 (S' := (272, [(0, .ref m0), (1, .int x1), (3, .int (pd x1)), (4, .long s228_0), (6, .int i256_6)], [.int 8, .int (pd x1), .ref m0], M)) rfl ?_
                            refine ml_blk 3 (S' := (277, [(0, .ref m0), (1, .int x1), (3, .int (pd x1)), (4, .long s228_0), (6, .int i256_6)], [.int i256_6, .int 8, .int ((pd x1) + 8), .ref m0], M)) rfl ?_
                            refine ml_blk 2 (S' := (279, [(0, .ref m0), (1, .int x1), (3, .int (pd x1)), (4, .long s228_0), (6, .int i256_6)], [.int (((pd x1) + 8) + (8 * i256_6)), .ref m0], M)) rfl ?_
                            refine ml_call (a := [.ref m0, .int (((pd x1) + 8) + (8 * i256_6))]) (rest := []) rfl (hR.okc rfl rfl rfl) rfl rfl (rm_b4 hR hF hC (by omega) (by omega) (by omega)) (fun v17 M18 h19 => ?_)
                            obtain ⟨rfl, h19⟩ := h19
                            rw [h19]
                            show ml _ _ _ (282, [(0, .ref m0), (1, .int x1), (3, .int (pd x1)), (4, .long s228_0), (6, .int i256_6)], [.int (B4 f ca (((pd x1) + 8) + (8 * i256_6)))], M) _
                            refine ml_blk 3 (S' := (286, [(0, .ref m0), (1, .int x1), (3, .int (pd x1)), (4, .long s228_0), (6, .int i256_6)], [.int 8, .int (pd x1), .ref m0, .int (B4 f ca (((pd x1) + 8) + (8 * i256_6)))], M)) rfl ?_
                            refine ml_blk 3 (S' := (290, [(0, .ref m0), (1, .int x1), (3, .int (pd x1)), (4, .long s228_0), (6, .int i256_6)], [.int ((pd x1) + (8 * i256_6)), .ref m0, .int (B4 f ca (((pd x1) + 8) + (8 * i256_6)))], M)) rfl ?_
                            refine ml_call (a := [.ref m0, .int ((pd x1) + (8 * i256_6))]) (rest := [.int (B4 f ca (((pd x1) + 8) + (8 * i256_6)))]) rfl (hR.okc rfl rfl rfl) rfl rfl (rm_b4 hR hF hC (by omega) (by omega) (by omega)) (fun v20 M21 h22 => ?_)
                            obtain ⟨rfl, h22⟩ := h22
                            rw [h22]
                            show ml _ _ _ (293, [(0, .ref m0), (1, .int x1), (3, .int (pd x1)), (4, .long s228_0), (6, .int i256_6)], [.int (B4 f ca ((pd x1) + (8 * i256_6))), .int (B4 f ca (((pd x1) + 8) + (8 * i256_6)))], M) _
                            refine ml_if2 (S1 := (298, [(0, .ref m0), (1, .int x1), (3, .int (pd x1)), (4, .long s228_0), (6, .int i256_6)], [], M)) (S2 := (296, [(0, .ref m0), (1, .int x1), (3, .int (pd x1)), (4, .long s228_0), (6, .int i256_6)], [], M)) rfl rfl rfl (fun c_293 => ?_) (fun c_293 => ?_)
                            · have c_293 : (B4 f ca ((pd x1) + (8 * i256_6))) < (B4 f ca (((pd x1) + 8) + (8 * i256_6))) := of_decide_eq_true c_293
                              refine ml_st (S' := (301, [(6, .int (i256_6 + 1)), (0, .ref m0), (1, .int x1), (3, .int (pd x1)), (4, .long s228_0)], [], M)) rfl rfl rfl ?_
                              refine ml_st (S' := (256, [(0, .ref m0), (1, .int x1), (3, .int (pd x1)), (4, .long s228_0), (6, .int (i256_6 + 1))], [], M)) rfl rfl rfl ?_
                              exact ih_256 (i256_6 + 1) (loop_inc (Int32.not_le.mp c_265) hn_256) (by rw [inc_lt (Int32.not_le.mp c_265)]; omega)
                            · have c_293 : ¬ ((B4 f ca ((pd x1) + (8 * i256_6))) < (B4 f ca (((pd x1) + 8) + (8 * i256_6)))) := of_decide_eq_false c_293
                              refine ml_st (S' := (297, [(0, .ref m0), (1, .int x1), (3, .int (pd x1)), (4, .long s228_0), (6, .int i256_6)], [.int (-1)], M)) rfl rfl rfl ?_
                              exact ml_ret rfl (rfl) (⟨⟨_, rfl, Or.inl (by decide)⟩, rfl⟩)
                      exact L_256 _ 1 (Nat.le_refl _) (by decide)
                  · have c_241 : ¬ ((lg_cmp ((Int32.toInt64 (pd x1)) + s228_0) (Int32.toInt64 cl)) ≤ 0) := of_decide_eq_false c_241
                    refine ml_st (S' := (245, [(4, .long s228_0), (0, .ref m0), (1, .int x1), (2, .int x2), (3, .int (pd x1))], [.int (-1)], M)) rfl rfl rfl ?_
                    exact ml_ret rfl (rfl) (⟨⟨_, rfl, Or.inl (by decide)⟩, rfl⟩)
                refine ml_if2 (S1 := (212, [(0, .ref m0), (1, .int x1), (2, .int x2), (3, .int (pd x1))], [], M)) (S2 := (181, [(0, .ref m0), (1, .int x1), (2, .int x2), (3, .int (pd x1))], [], M)) rfl rfl rfl (fun c_178 => ?_) (fun c_178 => ?_)
                · have c_178 : ¬ x2 = 170 := of_decide_eq_true c_178
                  refine ml_blk 3 (S' := (217, [(0, .ref m0), (1, .int x1), (2, .int x2), (3, .int (pd x1))], [.int (pd x1), .ref m0, .long 8], M)) rfl ?_
                  refine ml_blk 2 (S' := (219, [(0, .ref m0), (1, .int x1), (2, .int x2), (3, .int (pd x1))], [.int ((pd x1) + 4), .ref m0, .long 8], M)) rfl ?_
                  refine ml_call (a := [.ref m0, .int ((pd x1) + 4)]) (rest := [.long 8]) rfl (hR.okc rfl rfl rfl) rfl rfl (rm_b4 hR hF hC (by omega) (by omega) (by omega)) (fun v23 M24 h25 => ?_)
                  obtain ⟨rfl, h25⟩ := h25
                  rw [h25]
                  show ml _ _ _ (222, [(0, .ref m0), (1, .int x1), (2, .int x2), (3, .int (pd x1))], [.int (B4 f ca ((pd x1) + 4)), .long 8], M) _
                  refine ml_blk 3 (S' := (227, [(0, .ref m0), (1, .int x1), (2, .int x2), (3, .int (pd x1))], [.long 8, .long (8 * (Int32.toInt64 (B4 f ca ((pd x1) + 4))))], M)) rfl ?_
                  refine ml_st (S' := (228, [(0, .ref m0), (1, .int x1), (2, .int x2), (3, .int (pd x1))], [.long ((8 * (Int32.toInt64 (B4 f ca ((pd x1) + 4)))) + 8)], M)) rfl rfl rfl ?_
                  exact J_228 ((8 * (Int32.toInt64 (B4 f ca ((pd x1) + 4)))) + 8) (⟨fun e => absurd e c_178, fun _ => sw_l2⟩)
                · have c_178 : ¬ (¬ x2 = 170) := of_decide_eq_false c_178
                  refine ml_blk 3 (S' := (186, [(0, .ref m0), (1, .int x1), (2, .int x2), (3, .int (pd x1))], [.int (pd x1), .ref m0, .long 4], M)) rfl ?_
                  refine ml_blk 2 (S' := (189, [(0, .ref m0), (1, .int x1), (2, .int x2), (3, .int (pd x1))], [.int ((pd x1) + 8), .ref m0, .long 4], M)) rfl ?_
                  refine ml_call (a := [.ref m0, .int ((pd x1) + 8)]) (rest := [.long 4]) rfl (hR.okc rfl rfl rfl) rfl rfl (rm_b4 hR hF hC (by omega) (by have := h106.1 (Decidable.not_not.mp c_178); omega) (by omega)) (fun v26 M27 h28 => ?_)
                  obtain ⟨rfl, h28⟩ := h28
                  rw [h28]
                  show ml _ _ _ (192, [(0, .ref m0), (1, .int x1), (2, .int x2), (3, .int (pd x1))], [.int (B4 f ca ((pd x1) + 8)), .long 4], M) _
                  refine ml_blk 3 (S' := (195, [(0, .ref m0), (1, .int x1), (2, .int x2), (3, .int (pd x1))], [.int (pd x1), .ref m0, .long (Int32.toInt64 (B4 f ca ((pd x1) + 8))), .long 4], M)) rfl ?_
                  refine ml_blk 2 (S' := (197, [(0, .ref m0), (1, .int x1), (2, .int x2), (3, .int (pd x1))], [.int ((pd x1) + 4), .ref m0, .long (Int32.toInt64 (B4 f ca ((pd x1) + 8))), .long 4], M)) rfl ?_
                  refine ml_call (a := [.ref m0, .int ((pd x1) + 4)]) (rest := [.long (Int32.toInt64 (B4 f ca ((pd x1) + 8))), .long 4]) rfl (hR.okc rfl rfl rfl) rfl rfl (rm_b4 hR hF hC (by omega) (by have := h106.1 (Decidable.not_not.mp c_178); omega) (by omega)) (fun v29 M30 h31 => ?_)
                  obtain ⟨rfl, h31⟩ := h31
                  rw [h31]
                  show ml _ _ _ (200, [(0, .ref m0), (1, .int x1), (2, .int x2), (3, .int (pd x1))], [.int (B4 f ca ((pd x1) + 4)), .long (Int32.toInt64 (B4 f ca ((pd x1) + 8))), .long 4], M) _
                  refine ml_blk 3 (S' := (203, [(0, .ref m0), (1, .int x1), (2, .int x2), (3, .int (pd x1))], [.long 1, .long ((Int32.toInt64 (B4 f ca ((pd x1) + 8))) - (Int32.toInt64 (B4 f ca ((pd x1) + 4)))), .long 4], M)) rfl ?_
                  refine ml_blk 3 (S' := (208, [(0, .ref m0), (1, .int x1), (2, .int x2), (3, .int (pd x1))], [.long 12, .long (4 * (((Int32.toInt64 (B4 f ca ((pd x1) + 8))) - (Int32.toInt64 (B4 f ca ((pd x1) + 4)))) + 1))], M)) rfl ?_
                  refine ml_st (S' := (209, [(0, .ref m0), (1, .int x1), (2, .int x2), (3, .int (pd x1))], [.long ((4 * (((Int32.toInt64 (B4 f ca ((pd x1) + 8))) - (Int32.toInt64 (B4 f ca ((pd x1) + 4)))) + 1)) + 12)], M)) rfl rfl rfl ?_
                  refine ml_st (S' := (228, [(0, .ref m0), (1, .int x1), (2, .int x2), (3, .int (pd x1))], [.long ((4 * (((Int32.toInt64 (B4 f ca ((pd x1) + 8))) - (Int32.toInt64 (B4 f ca ((pd x1) + 4)))) + 1)) + 12)], M)) rfl rfl rfl ?_
                  exact J_228 ((4 * (((Int32.toInt64 (B4 f ca ((pd x1) + 8))) - (Int32.toInt64 (B4 f ca ((pd x1) + 4)))) + 1)) + 12) (⟨fun _ => sw_l1, fun e => absurd (Decidable.not_not.mp c_178) e⟩)
              refine ml_if2 (S1 := (162, [(0, .ref m0), (1, .int x1), (2, .int x2), (3, .int (pd x1)), (4, .int i111_4)], [], M)) (S2 := (141, [(0, .ref m0), (1, .int x1), (2, .int x2), (3, .int (pd x1)), (4, .int i111_4)], [], M)) rfl rfl rfl (fun c_138 => ?_) (fun c_138 => ?_)
              · have c_138 : ¬ x2 = 170 := of_decide_eq_true c_138
                refine ml_blk 3 (S' := (165, [(0, .ref m0), (1, .int x1), (2, .int x2), (3, .int (pd x1)), (4, .int i111_4)], [.int 4, .int (pd x1), .ref m0], M)) rfl ?_
                refine ml_st (S' := (166, [(0, .ref m0), (1, .int x1), (2, .int x2), (3, .int (pd x1)), (4, .int i111_4)], [.int ((pd x1) + 4), .ref m0], M)) rfl rfl rfl ?_
                refine ml_call (a := [.ref m0, .int ((pd x1) + 4)]) (rest := []) rfl (hR.okc rfl rfl rfl) rfl rfl (rm_b4 hR hF hC (by omega) (by omega) (by omega)) (fun v32 M33 h34 => ?_)
                obtain ⟨rfl, h34⟩ := h34
                rw [h34]
                show ml _ _ _ (169, [(0, .ref m0), (1, .int x1), (2, .int x2), (3, .int (pd x1)), (4, .int i111_4)], [.int (B4 f ca ((pd x1) + 4))], M) _
                refine ml_if (S1 := (174, [(0, .ref m0), (1, .int x1), (2, .int x2), (3, .int (pd x1))], [], M)) (S2 := (172, [], [], M)) rfl rfl rfl (fun c_169 => ?_) (fun c_169 => ?_)
                · have c_169 : 0 ≤ (B4 f ca ((pd x1) + 4)) := of_decide_eq_true c_169
                  exact J_174  (⟨fun e => absurd e c_138, fun _ => i_le c_169⟩)
                · have c_169 : ¬ (0 ≤ (B4 f ca ((pd x1) + 4))) := of_decide_eq_false c_169
                  refine ml_st (S' := (173, [], [.int (-1)], M)) rfl rfl rfl ?_
                  exact ml_ret rfl (rfl) (⟨⟨_, rfl, Or.inl (by decide)⟩, rfl⟩)
              · have c_138 : ¬ (¬ x2 = 170) := of_decide_eq_false c_138
                refine ml_blk 3 (S' := (144, [(0, .ref m0), (1, .int x1), (2, .int x2), (3, .int (pd x1)), (4, .int i111_4)], [.int 4, .int (pd x1), .ref m0], M)) rfl ?_
                refine ml_st (S' := (145, [(0, .ref m0), (1, .int x1), (2, .int x2), (3, .int (pd x1)), (4, .int i111_4)], [.int ((pd x1) + 4), .ref m0], M)) rfl rfl rfl ?_
                refine ml_call (a := [.ref m0, .int ((pd x1) + 4)]) (rest := []) rfl (hR.okc rfl rfl rfl) rfl rfl (rm_b4 hR hF hC (by omega) (by have := h106.1 (Decidable.not_not.mp c_138); omega) (by omega)) (fun v35 M36 h37 => ?_)
                obtain ⟨rfl, h37⟩ := h37
                rw [h37]
                show ml _ _ _ (148, [(0, .ref m0), (1, .int x1), (2, .int x2), (3, .int (pd x1)), (4, .int i111_4)], [.int (B4 f ca ((pd x1) + 4))], M) _
                refine ml_blk 3 (S' := (152, [(0, .ref m0), (1, .int x1), (2, .int x2), (3, .int (pd x1)), (4, .int i111_4)], [.int 8, .int (pd x1), .ref m0, .int (B4 f ca ((pd x1) + 4))], M)) rfl ?_
                refine ml_st (S' := (153, [(0, .ref m0), (1, .int x1), (2, .int x2), (3, .int (pd x1)), (4, .int i111_4)], [.int ((pd x1) + 8), .ref m0, .int (B4 f ca ((pd x1) + 4))], M)) rfl rfl rfl ?_
                refine ml_call (a := [.ref m0, .int ((pd x1) + 8)]) (rest := [.int (B4 f ca ((pd x1) + 4))]) rfl (hR.okc rfl rfl rfl) rfl rfl (rm_b4 hR hF hC (by omega) (by have := h106.1 (Decidable.not_not.mp c_138); omega) (by omega)) (fun v38 M39 h40 => ?_)
                obtain ⟨rfl, h40⟩ := h40
                rw [h40]
                show ml _ _ _ (156, [(0, .ref m0), (1, .int x1), (2, .int x2), (3, .int (pd x1)), (4, .int i111_4)], [.int (B4 f ca ((pd x1) + 8)), .int (B4 f ca ((pd x1) + 4))], M) _
                refine ml_if2 (S1 := (174, [(0, .ref m0), (1, .int x1), (2, .int x2), (3, .int (pd x1))], [], M)) (S2 := (159, [(0, .ref m0), (1, .int x1), (2, .int x2), (3, .int (pd x1)), (4, .int i111_4)], [], M)) rfl rfl rfl (fun c_156 => ?_) (fun c_156 => ?_)
                · have c_156 : (B4 f ca ((pd x1) + 4)) ≤ (B4 f ca ((pd x1) + 8)) := of_decide_eq_true c_156
                  exact J_174  (⟨fun _ => i_le c_156, fun e => absurd (Decidable.not_not.mp c_138) e⟩)
                · have c_156 : ¬ ((B4 f ca ((pd x1) + 4)) ≤ (B4 f ca ((pd x1) + 8))) := of_decide_eq_false c_156
                  refine ml_st (S' := (172, [], [], M)) rfl rfl rfl ?_
                  refine ml_st (S' := (173, [], [.int (-1)], M)) rfl rfl rfl ?_
                  exact ml_ret rfl (rfl) (⟨⟨_, rfl, Or.inl (by decide)⟩, rfl⟩)
            · have c_114 : ¬ ((pd x1) ≤ i111_4) := of_decide_eq_false c_114
              refine ml_blk 2 (S' := (120, [(0, .ref m0), (1, .int x1), (2, .int x2), (3, .int (pd x1)), (4, .int i111_4)], [.int i111_4, .ref m0], M)) rfl ?_
              refine ml_call (a := [.ref m0, .int i111_4]) (rest := []) rfl (hR.okc rfl rfl rfl) rfl rfl (rm_b1 hR hF hC (by omega) (by have q := i_nle c_114; omega) (by omega)) (fun v41 M42 h43 => ?_)
              obtain ⟨rfl, h43⟩ := h43
              rw [h43]
              show ml _ _ _ (123, [(0, .ref m0), (1, .int x1), (2, .int x2), (3, .int (pd x1)), (4, .int i111_4)], [.int (f1 f (ca + i111_4))], M) _
              refine ml_if (S1 := (128, [(0, .ref m0), (1, .int x1), (2, .int x2), (3, .int (pd x1)), (4, .int i111_4)], [], M)) (S2 := (126, [(0, .ref m0), (1, .int x1), (2, .int x2), (3, .int (pd x1)), (4, .int i111_4)], [], M)) rfl rfl rfl (fun c_123 => ?_) (fun c_123 => ?_)
              · have c_123 : (f1 f (ca + i111_4)) = 0 := of_decide_eq_true c_123
                refine ml_st (S' := (131, [(4, .int (i111_4 + 1)), (0, .ref m0), (1, .int x1), (2, .int x2), (3, .int (pd x1))], [], M)) rfl rfl rfl ?_
                refine ml_st (S' := (111, [(0, .ref m0), (1, .int x1), (2, .int x2), (3, .int (pd x1)), (4, .int (i111_4 + 1))], [], M)) rfl rfl rfl ?_
                exact ih_111 (i111_4 + 1) (loop_inc (Int32.not_le.mp c_114) hn_111) (by rw [inc_lt (Int32.not_le.mp c_114)]; omega)
              · have c_123 : ¬ ((f1 f (ca + i111_4)) = 0) := of_decide_eq_false c_123
                refine ml_st (S' := (127, [(0, .ref m0), (1, .int x1), (2, .int x2), (3, .int (pd x1)), (4, .int i111_4)], [.int (-1)], M)) rfl rfl rfl ?_
                exact ml_ret rfl (rfl) (⟨⟨_, rfl, Or.inl (by decide)⟩, rfl⟩)
        exact L_111 _ (x1 + 1) (Nat.le_refl _) (by omega)
      · have c_101 : ¬ (((pd x1) + s96_0) ≤ cl) := of_decide_eq_false c_101
        refine ml_st (S' := (105, [(0, .ref m0), (1, .int x1), (2, .int x2), (3, .int (pd x1))], [.int (-1)], M)) rfl rfl rfl ?_
        exact ml_ret rfl (rfl) (⟨⟨_, rfl, Or.inl (by decide)⟩, rfl⟩)
    refine ml_if2 (S1 := (94, [(3, .int (pd x1)), (0, .ref m0), (1, .int x1), (2, .int x2)], [.int (pd x1)], M)) (S2 := (89, [(3, .int (pd x1)), (0, .ref m0), (1, .int x1), (2, .int x2)], [.int (pd x1)], M)) rfl rfl rfl (fun c_86 => ?_) (fun c_86 => ?_)
    · have c_86 : ¬ x2 = 170 := of_decide_eq_true c_86
      refine ml_st (S' := (96, [(0, .ref m0), (1, .int x1), (2, .int x2), (3, .int (pd x1))], [.int 8, .int (pd x1)], M)) rfl rfl rfl ?_
      exact J_96 8 (⟨fun e => absurd e c_86, fun _ => rfl⟩)
    · have c_86 : ¬ (¬ x2 = 170) := of_decide_eq_false c_86
      refine ml_st (S' := (91, [(3, .int (pd x1)), (0, .ref m0), (1, .int x1), (2, .int x2)], [.int 12, .int (pd x1)], M)) rfl rfl rfl ?_
      refine ml_st (S' := (96, [(0, .ref m0), (1, .int x1), (2, .int x2), (3, .int (pd x1))], [.int 12, .int (pd x1)], M)) rfl rfl rfl ?_
      exact J_96 12 (⟨fun _ => rfl, fun e => absurd (Decidable.not_not.mp c_86) e⟩)
  · have c_4 : ¬ (¬ x2 = 196) := of_decide_eq_false c_4
    refine ml_blk 3 (S' := (10, [(0, .ref m0), (1, .int x1), (2, .int x2)], [.int (x1 + 1)], M)) rfl ?_
    refine ml_st (S' := (11, [(0, .ref m0), (1, .int x1), (2, .int x2)], [.ref m0, .int (x1 + 1)], M)) rfl rfl rfl ?_
    refine rg_int (S' := (14, [(0, .ref m0), (1, .int x1), (2, .int x2)], [.int cl, .int (x1 + 1)], M)) rfl hR rfl (hC.2.1) rfl ?_
    refine ml_if2 (S1 := (19, [(0, .ref m0), (1, .int x1), (2, .int x2)], [], M)) (S2 := (17, [(0, .ref m0), (1, .int x1), (2, .int x2)], [], M)) rfl rfl rfl (fun c_14 => ?_) (fun c_14 => ?_)
    · have c_14 : (x1 + 1) < cl := of_decide_eq_true c_14
      refine ml_blk 3 (S' := (22, [(0, .ref m0), (1, .int x1), (2, .int x2)], [.int 1, .int x1, .ref m0], M)) rfl ?_
      refine ml_st (S' := (23, [(0, .ref m0), (1, .int x1), (2, .int x2)], [.int (x1 + 1), .ref m0], M)) rfl rfl rfl ?_
      refine ml_call (a := [.ref m0, .int (x1 + 1)]) (rest := []) rfl (hR.okc rfl rfl rfl) rfl rfl (rm_b1 hR hF hC (by omega) (by have q := i_lt c_14; omega) (by omega)) (fun v44 M45 h46 => ?_)
      obtain ⟨rfl, h46⟩ := h46
      rw [h46]
      show ml _ _ _ (26, [(0, .ref m0), (1, .int x1), (2, .int x2)], [.int (f1 f (ca + (x1 + 1)))], M) _
      refine ml_st (S' := (27, [(3, .int (f1 f (ca + (x1 + 1)))), (0, .ref m0), (1, .int x1), (2, .int x2)], [], M)) rfl rfl rfl ?_
      refine ml_blk 2 (S' := (31, [(3, .int (f1 f (ca + (x1 + 1)))), (0, .ref m0), (1, .int x1), (2, .int x2)], [.int 132, .int (f1 f (ca + (x1 + 1)))], M)) rfl ?_
      refine ml_if2 (S1 := (39, [(3, .int (f1 f (ca + (x1 + 1)))), (0, .ref m0), (1, .int x1), (2, .int x2)], [], M)) (S2 := (34, [(3, .int (f1 f (ca + (x1 + 1)))), (0, .ref m0), (1, .int x1), (2, .int x2)], [], M)) rfl rfl rfl (fun c_31 => ?_) (fun c_31 => ?_)
      · have c_31 : ¬ (f1 f (ca + (x1 + 1))) = 132 := of_decide_eq_true c_31
        refine ml_blk 2 (S' := (42, [(3, .int (f1 f (ca + (x1 + 1)))), (0, .ref m0), (1, .int x1), (2, .int x2)], [.int 21, .int (f1 f (ca + (x1 + 1)))], M)) rfl ?_
        refine ml_if2 (S1 := (51, [(3, .int (f1 f (ca + (x1 + 1))))], [], M)) (S2 := (45, [(3, .int (f1 f (ca + (x1 + 1)))), (0, .ref m0), (1, .int x1), (2, .int x2)], [], M)) rfl rfl rfl (fun c_42 => ?_) (fun c_42 => ?_)
        · have c_42 : (f1 f (ca + (x1 + 1))) < 21 := of_decide_eq_true c_42
          refine ml_blk 2 (S' := (54, [(3, .int (f1 f (ca + (x1 + 1))))], [.int 54, .int (f1 f (ca + (x1 + 1)))], M)) rfl ?_
          refine ml_if2 (S1 := (63, [(3, .int (f1 f (ca + (x1 + 1))))], [], M)) (S2 := (57, [(3, .int (f1 f (ca + (x1 + 1))))], [], M)) rfl rfl rfl (fun c_54 => ?_) (fun c_54 => ?_)
          · have c_54 : (f1 f (ca + (x1 + 1))) < 54 := of_decide_eq_true c_54
            refine ml_blk 2 (S' := (67, [(3, .int (f1 f (ca + (x1 + 1))))], [.int 169, .int (f1 f (ca + (x1 + 1)))], M)) rfl ?_
            refine ml_if2 (S1 := (74, [(3, .int (f1 f (ca + (x1 + 1))))], [], M)) (S2 := (70, [], [], M)) rfl rfl rfl (fun c_67 => ?_) (fun c_67 => ?_)
            · have c_67 : ¬ (f1 f (ca + (x1 + 1))) = 169 := of_decide_eq_true c_67
              refine ml_st (S' := (75, [], [.int (-1)], M)) rfl rfl rfl ?_
              exact ml_ret rfl (rfl) (⟨⟨_, rfl, Or.inl (by decide)⟩, rfl⟩)
            · have c_67 : ¬ (¬ (f1 f (ca + (x1 + 1))) = 169) := of_decide_eq_false c_67
              refine ml_st (S' := (71, [], [.int 4], M)) rfl rfl rfl ?_
              refine ml_st (S' := (75, [], [.int 4], M)) rfl rfl rfl ?_
              exact ml_ret rfl (rfl) (⟨⟨_, rfl, Or.inr ⟨fun _ => ⟨by decide, fun e => absurd e c_31⟩, fun e => by rw [hop, show x2 = 196 from Decidable.not_not.mp c_4] at e; exact absurd e (by decide), by decide⟩⟩, rfl⟩)
          · have c_54 : ¬ ((f1 f (ca + (x1 + 1))) < 54) := of_decide_eq_false c_54
            refine ml_blk 2 (S' := (60, [(3, .int (f1 f (ca + (x1 + 1))))], [.int 58, .int (f1 f (ca + (x1 + 1)))], M)) rfl ?_
            refine ml_if2 (S1 := (70, [], [], M)) (S2 := (63, [(3, .int (f1 f (ca + (x1 + 1))))], [], M)) rfl rfl rfl (fun c_60 => ?_) (fun c_60 => ?_)
            · have c_60 : (f1 f (ca + (x1 + 1))) ≤ 58 := of_decide_eq_true c_60
              refine ml_st (S' := (71, [], [.int 4], M)) rfl rfl rfl ?_
              refine ml_st (S' := (75, [], [.int 4], M)) rfl rfl rfl ?_
              exact ml_ret rfl (rfl) (⟨⟨_, rfl, Or.inr ⟨fun _ => ⟨by decide, fun e => absurd e c_31⟩, fun e => by rw [hop, show x2 = 196 from Decidable.not_not.mp c_4] at e; exact absurd e (by decide), by decide⟩⟩, rfl⟩)
            · have c_60 : ¬ ((f1 f (ca + (x1 + 1))) ≤ 58) := of_decide_eq_false c_60
              refine ml_blk 2 (S' := (67, [(3, .int (f1 f (ca + (x1 + 1))))], [.int 169, .int (f1 f (ca + (x1 + 1)))], M)) rfl ?_
              refine ml_if2 (S1 := (74, [(3, .int (f1 f (ca + (x1 + 1))))], [], M)) (S2 := (70, [], [], M)) rfl rfl rfl (fun c_67 => ?_) (fun c_67 => ?_)
              · have c_67 : ¬ (f1 f (ca + (x1 + 1))) = 169 := of_decide_eq_true c_67
                refine ml_st (S' := (75, [], [.int (-1)], M)) rfl rfl rfl ?_
                exact ml_ret rfl (rfl) (⟨⟨_, rfl, Or.inl (by decide)⟩, rfl⟩)
              · have c_67 : ¬ (¬ (f1 f (ca + (x1 + 1))) = 169) := of_decide_eq_false c_67
                refine ml_st (S' := (71, [], [.int 4], M)) rfl rfl rfl ?_
                refine ml_st (S' := (75, [], [.int 4], M)) rfl rfl rfl ?_
                exact ml_ret rfl (rfl) (⟨⟨_, rfl, Or.inr ⟨fun _ => ⟨by decide, fun e => absurd e c_31⟩, fun e => by rw [hop, show x2 = 196 from Decidable.not_not.mp c_4] at e; exact absurd e (by decide), by decide⟩⟩, rfl⟩)
        · have c_42 : ¬ ((f1 f (ca + (x1 + 1))) < 21) := of_decide_eq_false c_42
          refine ml_blk 2 (S' := (48, [(3, .int (f1 f (ca + (x1 + 1)))), (0, .ref m0), (1, .int x1), (2, .int x2)], [.int 25, .int (f1 f (ca + (x1 + 1)))], M)) rfl ?_
          refine ml_if2 (S1 := (70, [], [], M)) (S2 := (51, [(3, .int (f1 f (ca + (x1 + 1))))], [], M)) rfl rfl rfl (fun c_48 => ?_) (fun c_48 => ?_)
          · have c_48 : (f1 f (ca + (x1 + 1))) ≤ 25 := of_decide_eq_true c_48
            refine ml_st (S' := (71, [], [.int 4], M)) rfl rfl rfl ?_
            refine ml_st (S' := (75, [], [.int 4], M)) rfl rfl rfl ?_
            exact ml_ret rfl (rfl) (⟨⟨_, rfl, Or.inr ⟨fun _ => ⟨by decide, fun e => absurd e c_31⟩, fun e => by rw [hop, show x2 = 196 from Decidable.not_not.mp c_4] at e; exact absurd e (by decide), by decide⟩⟩, rfl⟩)
          · have c_48 : ¬ ((f1 f (ca + (x1 + 1))) ≤ 25) := of_decide_eq_false c_48
            refine ml_blk 2 (S' := (54, [(3, .int (f1 f (ca + (x1 + 1))))], [.int 54, .int (f1 f (ca + (x1 + 1)))], M)) rfl ?_
            refine ml_if2 (S1 := (63, [(3, .int (f1 f (ca + (x1 + 1))))], [], M)) (S2 := (57, [(3, .int (f1 f (ca + (x1 + 1))))], [], M)) rfl rfl rfl (fun c_54 => ?_) (fun c_54 => ?_)
            · have c_54 : (f1 f (ca + (x1 + 1))) < 54 := of_decide_eq_true c_54
              refine ml_blk 2 (S' := (67, [(3, .int (f1 f (ca + (x1 + 1))))], [.int 169, .int (f1 f (ca + (x1 + 1)))], M)) rfl ?_
              refine ml_if2 (S1 := (74, [(3, .int (f1 f (ca + (x1 + 1))))], [], M)) (S2 := (70, [], [], M)) rfl rfl rfl (fun c_67 => ?_) (fun c_67 => ?_)
              · have c_67 : ¬ (f1 f (ca + (x1 + 1))) = 169 := of_decide_eq_true c_67
                refine ml_st (S' := (75, [], [.int (-1)], M)) rfl rfl rfl ?_
                exact ml_ret rfl (rfl) (⟨⟨_, rfl, Or.inl (by decide)⟩, rfl⟩)
              · have c_67 : ¬ (¬ (f1 f (ca + (x1 + 1))) = 169) := of_decide_eq_false c_67
                refine ml_st (S' := (71, [], [.int 4], M)) rfl rfl rfl ?_
                refine ml_st (S' := (75, [], [.int 4], M)) rfl rfl rfl ?_
                exact ml_ret rfl (rfl) (⟨⟨_, rfl, Or.inr ⟨fun _ => ⟨by decide, fun e => absurd e c_31⟩, fun e => by rw [hop, show x2 = 196 from Decidable.not_not.mp c_4] at e; exact absurd e (by decide), by decide⟩⟩, rfl⟩)
            · have c_54 : ¬ ((f1 f (ca + (x1 + 1))) < 54) := of_decide_eq_false c_54
              refine ml_blk 2 (S' := (60, [(3, .int (f1 f (ca + (x1 + 1))))], [.int 58, .int (f1 f (ca + (x1 + 1)))], M)) rfl ?_
              refine ml_if2 (S1 := (70, [], [], M)) (S2 := (63, [(3, .int (f1 f (ca + (x1 + 1))))], [], M)) rfl rfl rfl (fun c_60 => ?_) (fun c_60 => ?_)
              · have c_60 : (f1 f (ca + (x1 + 1))) ≤ 58 := of_decide_eq_true c_60
                refine ml_st (S' := (71, [], [.int 4], M)) rfl rfl rfl ?_
                refine ml_st (S' := (75, [], [.int 4], M)) rfl rfl rfl ?_
                exact ml_ret rfl (rfl) (⟨⟨_, rfl, Or.inr ⟨fun _ => ⟨by decide, fun e => absurd e c_31⟩, fun e => by rw [hop, show x2 = 196 from Decidable.not_not.mp c_4] at e; exact absurd e (by decide), by decide⟩⟩, rfl⟩)
              · have c_60 : ¬ ((f1 f (ca + (x1 + 1))) ≤ 58) := of_decide_eq_false c_60
                refine ml_blk 2 (S' := (67, [(3, .int (f1 f (ca + (x1 + 1))))], [.int 169, .int (f1 f (ca + (x1 + 1)))], M)) rfl ?_
                refine ml_if2 (S1 := (74, [(3, .int (f1 f (ca + (x1 + 1))))], [], M)) (S2 := (70, [], [], M)) rfl rfl rfl (fun c_67 => ?_) (fun c_67 => ?_)
                · have c_67 : ¬ (f1 f (ca + (x1 + 1))) = 169 := of_decide_eq_true c_67
                  refine ml_st (S' := (75, [], [.int (-1)], M)) rfl rfl rfl ?_
                  exact ml_ret rfl (rfl) (⟨⟨_, rfl, Or.inl (by decide)⟩, rfl⟩)
                · have c_67 : ¬ (¬ (f1 f (ca + (x1 + 1))) = 169) := of_decide_eq_false c_67
                  refine ml_st (S' := (71, [], [.int 4], M)) rfl rfl rfl ?_
                  refine ml_st (S' := (75, [], [.int 4], M)) rfl rfl rfl ?_
                  exact ml_ret rfl (rfl) (⟨⟨_, rfl, Or.inr ⟨fun _ => ⟨by decide, fun e => absurd e c_31⟩, fun e => by rw [hop, show x2 = 196 from Decidable.not_not.mp c_4] at e; exact absurd e (by decide), by decide⟩⟩, rfl⟩)
      · have c_31 : ¬ (¬ (f1 f (ca + (x1 + 1))) = 132) := of_decide_eq_false c_31
        refine ml_st (S' := (36, [(3, .int (f1 f (ca + (x1 + 1)))), (0, .ref m0), (1, .int x1), (2, .int x2)], [.int 6], M)) rfl rfl rfl ?_
        refine ml_st (S' := (75, [], [.int 6], M)) rfl rfl rfl ?_
        exact ml_ret rfl (rfl) (⟨⟨_, rfl, Or.inr ⟨fun _ => ⟨by decide, fun _ => by decide⟩, fun e => by rw [hop, show x2 = 196 from Decidable.not_not.mp c_4] at e; exact absurd e (by decide), by decide⟩⟩, rfl⟩)
    · have c_14 : ¬ ((x1 + 1) < cl) := of_decide_eq_false c_14
      refine ml_st (S' := (18, [(0, .ref m0), (1, .int x1), (2, .int x2)], [.int (-1)], M)) rfl rfl rfl ?_
      exact ml_ret rfl (rfl) (⟨⟨_, rfl, Or.inl (by decide)⟩, rfl⟩)
end
