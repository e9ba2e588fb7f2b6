/-! a run from less knowledge is a run from more (my own text) -/
section MIZ
def cle (c c' : mi_C) : Prop := match c, c' with
  | .inl a, .inl b => a.1 = b.1 ∧ a.2.1 = b.2.1 ∧ ∀ i v, a.2.2 i = some v → b.2.2 i = some v
  | .inr a, .inr b => a.1 = b.1 ∧ ∀ k v, a.2 k = some v → b.2 k = some v
  | _, _ => False
def hle (M M' : mi_H) : Prop := ∀ a c, M.1 a = some c → ∃ c', M'.1 a = some c' ∧ cle c c'
/-- what was known of an object's fields stays known -/
def hkp (M M' : mi_H) : Prop := ∀ (a ci : Nat) (f : Nat → Option Value) (k : Nat) (v : Value), M.1 a = some (.inr (ci, f)) → f k = some v → ∃ (f' : Nat → Option Value) (v' : Value), M'.1 a = some (.inr (ci, f')) ∧ f' k = some v'
theorem hkp.rf {M : mi_H} : hkp M M := fun _ _ f _ v h1 h2 => ⟨f, v, h1, h2⟩
theorem hkp.tr {M M1 M2 : mi_H} (h : hkp M M1) (h' : hkp M1 M2) : hkp M M2 := fun a ci f k v h1 h2 => by
  obtain ⟨f', v', h3, h4⟩ := h a ci f k v h1 h2
  exact h' a ci f' k v' h3 h4
def mnk (o : mi_O) : Prop := (∀ pc lv st M S' M2, o (pc, lv, st, M) = some S' → hle M M2 → ∃ M2', o (pc, lv, st, M2) = some (S'.1, S'.2.1, S'.2.2.1, M2') ∧ hle S'.2.2.2 M2' ∧ M2'.2 = M2.2) ∧ ∀ pc lv st M S', o (pc, lv, st, M) = some S' → hkp M S'.2.2.2 ∧ S'.2.2.2.2 = M.2

theorem mn_push {v : Value} {n : Nat} : mnk (o_push v n) := by
  refine ⟨fun pc lv st M S' M2 h hl => ?_, fun pc lv st M S' h => ?_⟩
  · unfold o_push at h ⊢
    dsimp only at h ⊢
    repeat' split at h
    all_goals first | (cases h; done) | (cases h; exact ⟨M2, rfl, hl, rfl⟩) | (cases h; refine ⟨M2, ?_, hl, rfl⟩; first | (rw [if_pos (by assumption)]; done) | (rw [if_neg (by assumption)]; done) | (simp only [*]; done))
  · unfold o_push at h
    dsimp only at h
    repeat' split at h
    all_goals first | (cases h; done) | (cases h; exact ⟨hkp.rf, rfl⟩)
theorem mn_iload {i n : Nat} : mnk (o_iload i n) := by
  refine ⟨fun pc lv st M S' M2 h hl => ?_, fun pc lv st M S' h => ?_⟩
  · unfold o_iload at h ⊢
    dsimp only at h ⊢
    repeat' split at h
    all_goals first | (cases h; done) | (cases h; exact ⟨M2, rfl, hl, rfl⟩) | (cases h; refine ⟨M2, ?_, hl, rfl⟩; first | (rw [if_pos (by assumption)]; done) | (rw [if_neg (by assumption)]; done) | (simp only [*]; done))
  · unfold o_iload at h
    dsimp only at h
    repeat' split at h
    all_goals first | (cases h; done) | (cases h; exact ⟨hkp.rf, rfl⟩)
theorem mn_lload {i n : Nat} : mnk (o_lload i n) := by
  refine ⟨fun pc lv st M S' M2 h hl => ?_, fun pc lv st M S' h => ?_⟩
  · unfold o_lload at h ⊢
    dsimp only at h ⊢
    repeat' split at h
    all_goals first | (cases h; done) | (cases h; exact ⟨M2, rfl, hl, rfl⟩) | (cases h; refine ⟨M2, ?_, hl, rfl⟩; first | (rw [if_pos (by assumption)]; done) | (rw [if_neg (by assumption)]; done) | (simp only [*]; done))
  · unfold o_lload at h
    dsimp only at h
    repeat' split at h
    all_goals first | (cases h; done) | (cases h; exact ⟨hkp.rf, rfl⟩)
theorem mn_aload {i n : Nat} : mnk (o_aload i n) := by
  refine ⟨fun pc lv st M S' M2 h hl => ?_, fun pc lv st M S' h => ?_⟩
  · unfold o_aload at h ⊢
    dsimp only at h ⊢
    repeat' split at h
    all_goals first | (cases h; done) | (cases h; exact ⟨M2, rfl, hl, rfl⟩) | (cases h; refine ⟨M2, ?_, hl, rfl⟩; first | (rw [if_pos (by assumption)]; done) | (rw [if_neg (by assumption)]; done) | (simp only [*]; done))
  · unfold o_aload at h
    dsimp only at h
    repeat' split at h
    all_goals first | (cases h; done) | (cases h; exact ⟨hkp.rf, rfl⟩)
theorem mn_bin {f : Int32 → Int32 → Int32} {n : Nat} : mnk (o_bin f n) := by
  refine ⟨fun pc lv st M S' M2 h hl => ?_, fun pc lv st M S' h => ?_⟩
  · unfold o_bin at h ⊢
    dsimp only at h ⊢
    repeat' split at h
    all_goals first | (cases h; done) | (cases h; exact ⟨M2, rfl, hl, rfl⟩) | (cases h; refine ⟨M2, ?_, hl, rfl⟩; first | (rw [if_pos (by assumption)]; done) | (rw [if_neg (by assumption)]; done) | (simp only [*]; done))
  · unfold o_bin at h
    dsimp only at h
    repeat' split at h
    all_goals first | (cases h; done) | (cases h; exact ⟨hkp.rf, rfl⟩)
theorem mn_div {f : Int32 → Int32 → Int32} : mnk (o_div f) := by
  refine ⟨fun pc lv st M S' M2 h hl => ?_, fun pc lv st M S' h => ?_⟩
  · unfold o_div at h ⊢
    dsimp only at h ⊢
    repeat' split at h
    all_goals first | (cases h; done) | (cases h; exact ⟨M2, rfl, hl, rfl⟩) | (cases h; refine ⟨M2, ?_, hl, rfl⟩; first | (rw [if_pos (by assumption)]; done) | (rw [if_neg (by assumption)]; done) | (simp only [*]; done))
  · unfold o_div at h
    dsimp only at h
    repeat' split at h
    all_goals first | (cases h; done) | (cases h; exact ⟨hkp.rf, rfl⟩)
theorem mn_binL {f : Int64 → Int64 → Int64} : mnk (o_binL f) := by
  refine ⟨fun pc lv st M S' M2 h hl => ?_, fun pc lv st M S' h => ?_⟩
  · unfold o_binL at h ⊢
    dsimp only at h ⊢
    repeat' split at h
    all_goals first | (cases h; done) | (cases h; exact ⟨M2, rfl, hl, rfl⟩) | (cases h; refine ⟨M2, ?_, hl, rfl⟩; first | (rw [if_pos (by assumption)]; done) | (rw [if_neg (by assumption)]; done) | (simp only [*]; done))
  · unfold o_binL at h
    dsimp only at h
    repeat' split at h
    all_goals first | (cases h; done) | (cases h; exact ⟨hkp.rf, rfl⟩)
theorem mn_un {f : Int32 → Int32} : mnk (o_un f) := by
  refine ⟨fun pc lv st M S' M2 h hl => ?_, fun pc lv st M S' h => ?_⟩
  · unfold o_un at h ⊢
    dsimp only at h ⊢
    repeat' split at h
    all_goals first | (cases h; done) | (cases h; exact ⟨M2, rfl, hl, rfl⟩) | (cases h; refine ⟨M2, ?_, hl, rfl⟩; first | (rw [if_pos (by assumption)]; done) | (rw [if_neg (by assumption)]; done) | (simp only [*]; done))
  · unfold o_un at h
    dsimp only at h
    repeat' split at h
    all_goals first | (cases h; done) | (cases h; exact ⟨hkp.rf, rfl⟩)
theorem mn_lshl  : mnk (o_lshl ) := by
  refine ⟨fun pc lv st M S' M2 h hl => ?_, fun pc lv st M S' h => ?_⟩
  · unfold o_lshl at h ⊢
    dsimp only at h ⊢
    repeat' split at h
    all_goals first | (cases h; done) | (cases h; exact ⟨M2, rfl, hl, rfl⟩) | (cases h; refine ⟨M2, ?_, hl, rfl⟩; first | (rw [if_pos (by assumption)]; done) | (rw [if_neg (by assumption)]; done) | (simp only [*]; done))
  · unfold o_lshl at h
    dsimp only at h
    repeat' split at h
    all_goals first | (cases h; done) | (cases h; exact ⟨hkp.rf, rfl⟩)
theorem mn_lcmp  : mnk (o_lcmp ) := by
  refine ⟨fun pc lv st M S' M2 h hl => ?_, fun pc lv st M S' h => ?_⟩
  · unfold o_lcmp at h ⊢
    dsimp only at h ⊢
    repeat' split at h
    all_goals first | (cases h; done) | (cases h; exact ⟨M2, rfl, hl, rfl⟩) | (cases h; refine ⟨M2, ?_, hl, rfl⟩; first | (rw [if_pos (by assumption)]; done) | (rw [if_neg (by assumption)]; done) | (simp only [*]; done))
  · unfold o_lcmp at h
    dsimp only at h
    repeat' split at h
    all_goals first | (cases h; done) | (cases h; exact ⟨hkp.rf, rfl⟩)
theorem mn_i2l  : mnk (o_i2l ) := by
  refine ⟨fun pc lv st M S' M2 h hl => ?_, fun pc lv st M S' h => ?_⟩
  · unfold o_i2l at h ⊢
    dsimp only at h ⊢
    repeat' split at h
    all_goals first | (cases h; done) | (cases h; exact ⟨M2, rfl, hl, rfl⟩) | (cases h; refine ⟨M2, ?_, hl, rfl⟩; first | (rw [if_pos (by assumption)]; done) | (rw [if_neg (by assumption)]; done) | (simp only [*]; done))
  · unfold o_i2l at h
    dsimp only at h
    repeat' split at h
    all_goals first | (cases h; done) | (cases h; exact ⟨hkp.rf, rfl⟩)
theorem mn_l2i  : mnk (o_l2i ) := by
  refine ⟨fun pc lv st M S' M2 h hl => ?_, fun pc lv st M S' h => ?_⟩
  · unfold o_l2i at h ⊢
    dsimp only at h ⊢
    repeat' split at h
    all_goals first | (cases h; done) | (cases h; exact ⟨M2, rfl, hl, rfl⟩) | (cases h; refine ⟨M2, ?_, hl, rfl⟩; first | (rw [if_pos (by assumption)]; done) | (rw [if_neg (by assumption)]; done) | (simp only [*]; done))
  · unfold o_l2i at h
    dsimp only at h
    repeat' split at h
    all_goals first | (cases h; done) | (cases h; exact ⟨hkp.rf, rfl⟩)
theorem mn_dup  : mnk (o_dup ) := by
  refine ⟨fun pc lv st M S' M2 h hl => ?_, fun pc lv st M S' h => ?_⟩
  · unfold o_dup at h ⊢
    dsimp only at h ⊢
    repeat' split at h
    all_goals first | (cases h; done) | (cases h; exact ⟨M2, rfl, hl, rfl⟩) | (cases h; refine ⟨M2, ?_, hl, rfl⟩; first | (rw [if_pos (by assumption)]; done) | (rw [if_neg (by assumption)]; done) | (simp only [*]; done))
  · unfold o_dup at h
    dsimp only at h
    repeat' split at h
    all_goals first | (cases h; done) | (cases h; exact ⟨hkp.rf, rfl⟩)
theorem mn_pop  : mnk (o_pop ) := by
  refine ⟨fun pc lv st M S' M2 h hl => ?_, fun pc lv st M S' h => ?_⟩
  · unfold o_pop at h ⊢
    dsimp only at h ⊢
    repeat' split at h
    all_goals first | (cases h; done) | (cases h; exact ⟨M2, rfl, hl, rfl⟩) | (cases h; refine ⟨M2, ?_, hl, rfl⟩; first | (rw [if_pos (by assumption)]; done) | (rw [if_neg (by assumption)]; done) | (simp only [*]; done))
  · unfold o_pop at h
    dsimp only at h
    repeat' split at h
    all_goals first | (cases h; done) | (cases h; exact ⟨hkp.rf, rfl⟩)
theorem mn_dup_x1  : mnk (o_dup_x1 ) := by
  refine ⟨fun pc lv st M S' M2 h hl => ?_, fun pc lv st M S' h => ?_⟩
  · unfold o_dup_x1 at h ⊢
    dsimp only at h ⊢
    repeat' split at h
    all_goals first | (cases h; done) | (cases h; exact ⟨M2, rfl, hl, rfl⟩) | (cases h; refine ⟨M2, ?_, hl, rfl⟩; first | (rw [if_pos (by assumption)]; done) | (rw [if_neg (by assumption)]; done) | (simp only [*]; done))
  · unfold o_dup_x1 at h
    dsimp only at h
    repeat' split at h
    all_goals first | (cases h; done) | (cases h; exact ⟨hkp.rf, rfl⟩)
theorem mn_dup2  : mnk (o_dup2 ) := by
  refine ⟨fun pc lv st M S' M2 h hl => ?_, fun pc lv st M S' h => ?_⟩
  · unfold o_dup2 at h ⊢
    dsimp only at h ⊢
    repeat' split at h
    all_goals first | (cases h; done) | (cases h; exact ⟨M2, rfl, hl, rfl⟩) | (cases h; refine ⟨M2, ?_, hl, rfl⟩; first | (rw [if_pos (by assumption)]; done) | (rw [if_neg (by assumption)]; done) | (simp only [*]; done))
  · unfold o_dup2 at h
    dsimp only at h
    repeat' split at h
    all_goals first | (cases h; done) | (cases h; exact ⟨hkp.rf, rfl⟩)
theorem mn_if {f : Int32 → Bool} {t : Nat} : mnk (o_if f t) := by
  refine ⟨fun pc lv st M S' M2 h hl => ?_, fun pc lv st M S' h => ?_⟩
  · unfold o_if at h ⊢
    dsimp only at h ⊢
    repeat' split at h
    all_goals first | (cases h; done) | (cases h; exact ⟨M2, rfl, hl, rfl⟩) | (cases h; refine ⟨M2, ?_, hl, rfl⟩; first | (rw [if_pos (by assumption)]; done) | (rw [if_neg (by assumption)]; done) | (simp only [*]; done))
  · unfold o_if at h
    dsimp only at h
    repeat' split at h
    all_goals first | (cases h; done) | (cases h; exact ⟨hkp.rf, rfl⟩)
theorem mn_if2 {f : Int32 → Int32 → Bool} {t : Nat} : mnk (o_if2 f t) := by
  refine ⟨fun pc lv st M S' M2 h hl => ?_, fun pc lv st M S' h => ?_⟩
  · unfold o_if2 at h ⊢
    dsimp only at h ⊢
    repeat' split at h
    all_goals first | (cases h; done) | (cases h; exact ⟨M2, rfl, hl, rfl⟩) | (cases h; refine ⟨M2, ?_, hl, rfl⟩; first | (rw [if_pos (by assumption)]; done) | (rw [if_neg (by assumption)]; done) | (simp only [*]; done))
  · unfold o_if2 at h
    dsimp only at h
    repeat' split at h
    all_goals first | (cases h; done) | (cases h; exact ⟨hkp.rf, rfl⟩)
theorem mn_goto {t : Nat} : mnk (o_goto t) := by
  refine ⟨fun pc lv st M S' M2 h hl => ?_, fun pc lv st M S' h => ?_⟩
  · unfold o_goto at h ⊢
    dsimp only at h ⊢
    repeat' split at h
    all_goals first | (cases h; done) | (cases h; exact ⟨M2, rfl, hl, rfl⟩) | (cases h; refine ⟨M2, ?_, hl, rfl⟩; first | (rw [if_pos (by assumption)]; done) | (rw [if_neg (by assumption)]; done) | (simp only [*]; done))
  · unfold o_goto at h
    dsimp only at h
    repeat' split at h
    all_goals first | (cases h; done) | (cases h; exact ⟨hkp.rf, rfl⟩)
theorem mn_null {a b : Nat} : mnk (o_null a b) := by
  refine ⟨fun pc lv st M S' M2 h hl => ?_, fun pc lv st M S' h => ?_⟩
  · unfold o_null at h ⊢
    dsimp only at h ⊢
    repeat' split at h
    all_goals first | (cases h; done) | (cases h; exact ⟨M2, rfl, hl, rfl⟩) | (cases h; refine ⟨M2, ?_, hl, rfl⟩; first | (rw [if_pos (by assumption)]; done) | (rw [if_neg (by assumption)]; done) | (simp only [*]; done))
  · unfold o_null at h
    dsimp only at h
    repeat' split at h
    all_goals first | (cases h; done) | (cases h; exact ⟨hkp.rf, rfl⟩)
theorem mn_sw {ps : List (Int × Nat)} {dt : Nat} : mnk (o_sw ps dt) := by
  refine ⟨fun pc lv st M S' M2 h hl => ?_, fun pc lv st M S' h => ?_⟩
  · unfold o_sw at h ⊢
    dsimp only at h ⊢
    repeat' split at h
    all_goals first | (cases h; done) | (cases h; exact ⟨M2, rfl, hl, rfl⟩) | (cases h; refine ⟨M2, ?_, hl, rfl⟩; first | (rw [if_pos (by assumption)]; done) | (rw [if_neg (by assumption)]; done) | (simp only [*]; done))
  · unfold o_sw at h
    dsimp only at h
    repeat' split at h
    all_goals first | (cases h; done) | (cases h; exact ⟨hkp.rf, rfl⟩)
theorem mn_isto {i n : Nat} : mnk (o_isto i n) := by
  refine ⟨fun pc lv st M S' M2 h hl => ?_, fun pc lv st M S' h => ?_⟩
  · unfold o_isto at h ⊢
    dsimp only at h ⊢
    repeat' split at h
    all_goals first | (cases h; done) | (cases h; exact ⟨M2, rfl, hl, rfl⟩) | (cases h; refine ⟨M2, ?_, hl, rfl⟩; first | (rw [if_pos (by assumption)]; done) | (rw [if_neg (by assumption)]; done) | (simp only [*]; done))
  · unfold o_isto at h
    dsimp only at h
    repeat' split at h
    all_goals first | (cases h; done) | (cases h; exact ⟨hkp.rf, rfl⟩)
theorem mn_lsto {i n : Nat} : mnk (o_lsto i n) := by
  refine ⟨fun pc lv st M S' M2 h hl => ?_, fun pc lv st M S' h => ?_⟩
  · unfold o_lsto at h ⊢
    dsimp only at h ⊢
    repeat' split at h
    all_goals first | (cases h; done) | (cases h; exact ⟨M2, rfl, hl, rfl⟩) | (cases h; refine ⟨M2, ?_, hl, rfl⟩; first | (rw [if_pos (by assumption)]; done) | (rw [if_neg (by assumption)]; done) | (simp only [*]; done))
  · unfold o_lsto at h
    dsimp only at h
    repeat' split at h
    all_goals first | (cases h; done) | (cases h; exact ⟨hkp.rf, rfl⟩)
theorem mn_asto {i n : Nat} : mnk (o_asto i n) := by
  refine ⟨fun pc lv st M S' M2 h hl => ?_, fun pc lv st M S' h => ?_⟩
  · unfold o_asto at h ⊢
    dsimp only at h ⊢
    repeat' split at h
    all_goals first | (cases h; done) | (cases h; exact ⟨M2, rfl, hl, rfl⟩) | (cases h; refine ⟨M2, ?_, hl, rfl⟩; first | (rw [if_pos (by assumption)]; done) | (rw [if_neg (by assumption)]; done) | (simp only [*]; done))
  · unfold o_asto at h
    dsimp only at h
    repeat' split at h
    all_goals first | (cases h; done) | (cases h; exact ⟨hkp.rf, rfl⟩)
theorem mn_iinc {i : Nat} {n : Int32} : mnk (o_iinc i n) := by
  refine ⟨fun pc lv st M S' M2 h hl => ?_, fun pc lv st M S' h => ?_⟩
  · unfold o_iinc at h ⊢
    dsimp only at h ⊢
    repeat' split at h
    all_goals first | (cases h; done) | (cases h; exact ⟨M2, rfl, hl, rfl⟩) | (cases h; refine ⟨M2, ?_, hl, rfl⟩; first | (rw [if_pos (by assumption)]; done) | (rw [if_neg (by assumption)]; done) | (simp only [*]; done))
  · unfold o_iinc at h
    dsimp only at h
    repeat' split at h
    all_goals first | (cases h; done) | (cases h; exact ⟨hkp.rf, rfl⟩)
theorem mn_mm {f : Int32 → Int32 → Int32} : mnk (o_mm f) := by
  refine ⟨fun pc lv st M S' M2 h hl => ?_, fun pc lv st M S' h => ?_⟩
  · unfold o_mm at h ⊢
    dsimp only at h ⊢
    repeat' split at h
    all_goals first | (cases h; done) | (cases h; exact ⟨M2, rfl, hl, rfl⟩) | (cases h; refine ⟨M2, ?_, hl, rfl⟩; first | (rw [if_pos (by assumption)]; done) | (rw [if_neg (by assumption)]; done) | (simp only [*]; done))
  · unfold o_mm at h
    dsimp only at h
    repeat' split at h
    all_goals first | (cases h; done) | (cases h; exact ⟨hkp.rf, rfl⟩)
variable {M M2 : mi_H}
theorem gf_le {a ci k : Nat} {v : Value} (h : mi_gf M a ci k = some v) (hl : hle M M2) : mi_gf M2 a ci k = some v := by
  unfold mi_gf at h ⊢
  split at h
  · rename_i o hM
    obtain ⟨c', h1, h2⟩ := hl a _ hM
    rw [h1]
    cases c' with
    | inl b => exact h2.elim
    | inr b =>
      obtain ⟨e, h3⟩ := h2
      split at h
      · rename_i ho
        show (if b.1 = ci then b.2 k else none) = some v
        rw [if_pos (e.symm.trans ho)]
        exact h3 k v h
      · cases h
  · cases h
theorem ga_le {a : Nat} {ty : FieldType} {r : Nat × (Nat → Option Value)} (h : mi_ga M a ty = some r) (hl : hle M M2) : ∃ f', mi_ga M2 a ty = some (r.1, f') ∧ ∀ i v, r.2 i = some v → f' i = some v := by
  unfold mi_ga at h ⊢
  split at h
  · rename_i o hM
    obtain ⟨c', h1, h2⟩ := hl a _ hM
    rw [h1]
    cases c' with
    | inr b => exact h2.elim
    | inl b =>
      obtain ⟨e1, e2, h3⟩ := h2
      split at h
      · rename_i ho
        cases h
        refine ⟨b.2.2, ?_, h3⟩
        show (if b.1 = ty then some b.2 else none) = _
        rw [if_pos (e1.symm.trans ho), e2]
      · cases h
  · cases h
theorem ga_cell {a : Nat} {ty : FieldType} {r : Nat × (Nat → Option Value)} (h : mi_ga M a ty = some r) : M.1 a = some (.inl (ty, r)) := by
  unfold mi_ga at h
  split at h
  · rename_i o hM
    split at h
    · rename_i ho
      cases h
      rw [hM, ← ho]
    · cases h
  · cases h
theorem hle.up {a : Nat} {c c' : mi_C} (hl : hle M M2) (hc : cle c c') : hle (va_up M.1 a (some c), M.2) (va_up M2.1 a (some c'), M2.2) := by
  intro b d hd
  by_cases e : b = a
  · subst e
    have : some c = some d := by simpa [va_up] using hd
    cases this
    exact ⟨c', by simp [va_up], hc⟩
  · have : M.1 b = some d := by simpa [va_up, e] using hd
    obtain ⟨d', h1, h2⟩ := hl b d this
    exact ⟨d', by simpa [va_up, e] using h1, h2⟩
theorem va_le {f f' : Nat → Option Value} {k : Nat} {v : Value} (h : ∀ i w, f i = some w → f' i = some w) : ∀ i w, va_up f k (some v) i = some w → va_up f' k (some v) i = some w := by
  intro i w hw
  by_cases e : i = k
  · subst e
    simpa [va_up] using hw
  · simp only [va_up, if_neg e] at hw ⊢
    exact h i w hw
theorem mn_get {ci k : Nat} : mnk (o_get ci k) := by
  refine ⟨fun pc lv st M S' M2 h hl => ?_, fun pc lv st M S' h => ?_⟩
  · unfold o_get at h ⊢
    dsimp only at h ⊢
    split at h
    · split at h
      · rename_i v hv
        cases h
        refine ⟨M2, ?_, hl, rfl⟩
        simp only [gf_le hv hl]
      · cases h
    · cases h
  · unfold o_get at h
    dsimp only at h
    split at h
    · split at h
      · cases h
        exact ⟨hkp.rf, rfl⟩
      · cases h
    · cases h
theorem mn_ald {ty : FieldType} : mnk (o_ald ty) := by
  refine ⟨fun pc lv st M S' M2 h hl => ?_, fun pc lv st M S' h => ?_⟩
  · unfold o_ald at h ⊢
    dsimp only at h ⊢
    split at h
    · split at h
      · rename_i r hr
        obtain ⟨f', h1, h2⟩ := ga_le hr hl
        split at h
        · cases h
        · rename_i hin
          split at h
          · rename_i v hv
            cases h
            refine ⟨M2, ?_, hl, rfl⟩
            simp only [h1]
            rw [if_neg hin]
            simp only [h2 _ _ hv]
          · cases h
      · cases h
    · cases h
  · unfold o_ald at h
    dsimp only at h
    repeat' split at h
    all_goals first | (cases h; done) | (cases h; exact ⟨hkp.rf, rfl⟩)
theorem mn_alen {ty : FieldType} : mnk (o_alen ty) := by
  refine ⟨fun pc lv st M S' M2 h hl => ?_, fun pc lv st M S' h => ?_⟩
  · unfold o_alen at h ⊢
    dsimp only at h ⊢
    split at h
    · split at h
      · rename_i r hr
        obtain ⟨f', h1, h2⟩ := ga_le hr hl
        cases h
        refine ⟨M2, ?_, hl, rfl⟩
        simp only [h1]
      · cases h
    · cases h
  · unfold o_alen at h
    dsimp only at h
    repeat' split at h
    all_goals first | (cases h; done) | (cases h; exact ⟨hkp.rf, rfl⟩)
theorem mn_ast {ty : FieldType} {nar : Int32 → Int32} : mnk (o_ast ty nar) := by
  refine ⟨fun pc lv st M S' M2 h hl => ?_, fun pc lv st M S' h => ?_⟩
  · unfold o_ast at h ⊢
    dsimp only at h ⊢
    split at h
    · rename_i x i a st
      split at h
      · rename_i r hr
        obtain ⟨f', h1, h2⟩ := ga_le hr hl
        split at h
        · cases h
        · rename_i hin
          cases h
          refine ⟨(va_up M2.1 a (some (.inl (ty, r.1, va_up f' i.toNatClampNeg (some (.int (nar x)))))), M2.2), ?_, hl.up ⟨rfl, rfl, va_le h2⟩, rfl⟩
          simp only [h1]
          rw [if_neg hin]
      · cases h
    · cases h
  · unfold o_ast at h
    dsimp only at h
    split at h
    · rename_i x i a st
      split at h
      · rename_i r hr
        split at h
        · cases h
        · cases h
          refine ⟨fun b ci f k v h1 h2 => ⟨f, v, ?_, h2⟩, rfl⟩
          have hne : b ≠ a := by
            intro e
            rw [e, ga_cell hr] at h1
            cases h1
          simpa [va_up, hne] using h1
      · cases h
    · cases h
theorem mn_put {ci k : Nat} {ty : FieldType} : mnk (o_put ci k ty) := by
  refine ⟨fun pc lv st M S' M2 h hl => ?_, fun pc lv st M S' h => ?_⟩
  · unfold o_put at h ⊢
    dsimp only at h ⊢
    split at h
    · rename_i v a st
      split at h
      · rename_i o hM
        obtain ⟨c', h1, h2⟩ := hl a _ hM
        cases c' with
        | inl b => exact h2.elim
        | inr b =>
          obtain ⟨e, h3⟩ := h2
          split at h
          · rename_i hc
            cases h
            refine ⟨(va_up M2.1 a (some (.inr (ci, va_up b.2 k (some v)))), M2.2), ?_, hl.up ⟨rfl, va_le h3⟩, rfl⟩
            simp only [h1]
            rw [if_pos ⟨e.symm.trans hc.1, hc.2⟩]
          · cases h
      · cases h
    · cases h
  · unfold o_put at h
    dsimp only at h
    split at h
    · rename_i v a st
      split at h
      · rename_i o hM
        split at h
        · rename_i hc
          cases h
          refine ⟨fun b c1 f j w h1 h2 => ?_, rfl⟩
          by_cases e : b = a
          · subst e
            rw [hM] at h1
            cases h1
            refine ⟨va_up f k (some v), if j = k then v else w, by simp [va_up, ← hc.1], ?_⟩
            by_cases e2 : j = k
            · simp [va_up, e2]
            · simp [va_up, e2, h2]
          · exact ⟨f, w, by simpa [va_up, e] using h1, h2⟩
        · cases h
      · cases h
    · cases h
theorem mn_slength : mnk o_slength := by
  refine ⟨fun pc lv st M S' M2 h hl => ?_, fun pc lv st M S' h => ?_⟩
  · unfold o_slength at h ⊢
    dsimp only at h ⊢
    split at h
    · split at h
      · rename_i o hM
        obtain ⟨c', h1, h2⟩ := hl _ _ hM
        cases c' with
        | inl b => exact h2.elim
        | inr b =>
          obtain ⟨e, h3⟩ := h2
          split at h
          · rename_i hc
            cases h
            refine ⟨M2, ?_, hl, rfl⟩
            simp only [h1, ← e]
            rw [if_pos hc]
          · cases h
      · cases h
    · cases h
  · unfold o_slength at h
    dsimp only at h
    repeat' split at h
    all_goals first | (cases h; done) | (cases h; exact ⟨hkp.rf, rfl⟩)
theorem mn_scharAt : mnk o_scharAt := by
  refine ⟨fun pc lv st M S' M2 h hl => ?_, fun pc lv st M S' h => ?_⟩
  · unfold o_scharAt at h ⊢
    dsimp only at h ⊢
    split at h
    · split at h
      · rename_i o hM
        obtain ⟨c', h1, h2⟩ := hl _ _ hM
        cases c' with
        | inl b => exact h2.elim
        | inr b =>
          obtain ⟨e, h3⟩ := h2
          split at h
          · rename_i hc
            cases h
            refine ⟨M2, ?_, hl, rfl⟩
            simp only [h1, ← e]
            rw [if_pos hc]
          · cases h
      · cases h
    · cases h
  · unfold o_scharAt at h
    dsimp only at h
    repeat' split at h
    all_goals first | (cases h; done) | (cases h; exact ⟨hkp.rf, rfl⟩)
def mnP (L : List Nat) (_ : Nat) (e : mi_N) : Prop := match e with
  | .inl o => mnk o
  | .inr (.inl c) => L.elem c.1 = true
  | .inr (.inr _) => True
def mnT (T : Nat → Option (Nat × mi_B)) (L : List Nat) : Prop := ∀ y b, y ∈ L → T y = some b → mt_all (mnP L) b.2.1
theorem okc_le {k : Option Nat} {na pc : Nat} {lv : List (Nat × Value)} {st : List Value} (h : mi_okc k na (pc, lv, st, M) = true) (hl : hle M M2) : mi_okc k na (pc, lv, st, M2) = true := by
  unfold mi_okc at h ⊢
  simp only [Bool.and_eq_true] at h ⊢
  refine ⟨h.1, ?_⟩
  have h2 := h.2
  cases k with
  | none => rfl
  | some ci =>
    dsimp only at h2 ⊢
    split at h2
    · rename_i b _ hst
      split at h2
      · rename_i c f hM
        obtain ⟨c', h3, h4⟩ := hl b _ hM
        simp only [h3]
        cases c' with
        | inl x => exact h4.elim
        | inr x =>
          obtain ⟨e, -⟩ := h4
          dsimp only at e ⊢
          rw [← e]
          exact h2
      · cases h2
    · cases h2
theorem nk_le {kl : Nat → Option (List Nat)} {S : mi_S} {M2 : mi_H} : mi_nk kl (S.1, S.2.1, S.2.2.1, M2) = ((mi_nk kl S).1, (mi_nk kl S).2.1, (mi_nk kl S).2.2.1, M2) := by
  unfold mi_nk
  dsimp only
  split <;> rfl
theorem nk_h {kl : Nat → Option (List Nat)} {S : mi_S} : (mi_nk kl S).2.2.2 = S.2.2.2 := by
  unfold mi_nk
  split <;> rfl
theorem loop_mn {L : List Nat} {tb : mi_B} {call : Nat → List Value → mi_H → Option mi_R} (ht : mt_all (mnP L) tb.1)
    (hc : ∀ y a M r, y ∈ L → call y a M = some r → (hkp M r.2 ∧ r.2.2 = M.2) ∧ ∀ M2, hle M M2 → ∃ M2', call y a M2 = some (r.1, M2') ∧ hle r.2 M2' ∧ M2'.2 = M2.2) :
    ∀ (n : Nat) (S : mi_S) (r : mi_R), mi_loop tb call n S = some r → (hkp S.2.2.2 r.2 ∧ r.2.2 = S.2.2.2.2) ∧ ∀ M2, hle S.2.2.2 M2 → ∃ M2', mi_loop tb call n (S.1, S.2.1, S.2.2.1, M2) = some (r.1, M2') ∧ hle r.2 M2' ∧ M2'.2 = M2.2 := by
  intro n
  induction n with
  | zero => intro S r h; cases h
  | succ n ih =>
    intro S r h
    rw [mi_loop] at h
    split at h
    · rename_i o ho
      split at h
      · rename_i S1 hS1
        have hm : mnk o := ht S.1 _ ho
        obtain ⟨k1, k2⟩ := ih _ r h
        rw [nk_h] at k1 k2
        obtain ⟨a1, a2⟩ := hm.2 S.1 S.2.1 S.2.2.1 S.2.2.2 S1 hS1
        refine ⟨⟨a1.tr k1.1, k1.2.trans a2⟩, fun M2 hl => ?_⟩
        obtain ⟨M3, b1, b2, b3⟩ := hm.1 S.1 S.2.1 S.2.2.1 S.2.2.2 S1 M2 hS1 hl
        obtain ⟨M4, c1, c2, c3⟩ := k2 M3 b2
        refine ⟨M4, ?_, c2, c3.trans b3⟩
        rw [mi_loop]
        simp only [ho, b1]
        rw [nk_le]
        exact c1
      · cases h
    · rename_i c ho
      split at h
      · rename_i hok
        split at h
        · rename_i r1 hr1
          have hL : L.elem c.1 = true := ht S.1 _ ho
          have hL2 : c.1 ∈ L := List.elem_iff.mp hL
          obtain ⟨d1, d2⟩ := hc _ _ _ _ hL2 hr1
          obtain ⟨k1, k2⟩ := ih _ r h
          rw [nk_h] at k1 k2
          refine ⟨⟨d1.1.tr k1.1, k1.2.trans d1.2⟩, fun M2 hl => ?_⟩
          obtain ⟨M3, b1, b2, b3⟩ := d2 M2 hl
          obtain ⟨M4, c1, c2, c3⟩ := k2 M3 b2
          refine ⟨M4, ?_, c2, c3.trans b3⟩
          rw [mi_loop]
          simp only [ho, okc_le hok hl, b1]
          have e := nk_le (kl := tb.2) (S := (S.1 + 3, S.2.1, r1.1.toList ++ S.2.2.1.drop c.2.1, r1.2)) (M2 := M3)
          dsimp only at e
          rw [e]
          exact c1
        · cases h
      · cases h
    · rename_i f ho
      obtain ⟨v, hv, e⟩ := Option.map_eq_some_iff.mp h
      subst e
      refine ⟨⟨hkp.rf, rfl⟩, fun M2 hl => ⟨M2, ?_, hl, rfl⟩⟩
      rw [mi_loop]
      simp only [ho, hv, Option.map_some]
    · cases h
theorem run_mn {L : List Nat} {T : Nat → Option (Nat × mi_B)} (hT : mnT T L) {n : Nat} : ∀ (d y : Nat) (a : List Value) (M : mi_H) (r : mi_R), y ∈ L → mi_run T n d y a M = some r → (hkp M r.2 ∧ r.2.2 = M.2) ∧ ∀ M2, hle M M2 → ∃ M2', mi_run T n d y a M2 = some (r.1, M2') ∧ hle r.2 M2' ∧ M2'.2 = M2.2 := by
  intro d
  induction d with
  | zero => intro y a M r _ h; cases h
  | succ d ih =>
    intro y a M r hy h
    rw [mi_run] at h
    split at h
    · cases h
    · rename_i b hb
      split at h
      · rename_i hd
        obtain ⟨k1, k2⟩ := loop_mn (hT y b hy hb) (fun y a M r => ih y a M r) n _ r h
        refine ⟨k1, fun M2 hl => ?_⟩
        obtain ⟨M3, c1, c2, c3⟩ := k2 M2 hl
        refine ⟨M3, ?_, c2, c3⟩
        rw [mi_run]
        simp only [hb, hd]
        exact c1
      · cases h
/-- a run that ends from less knowledge and one from more: the answers agree -/
theorem mt.more {L : List Nat} {T : Nat → Option (Nat × mi_B)} (hT : mnT T L) {d d' y : Nat} {a : List Value} {Q Q' : Option Value → mi_H → Prop} (hy : y ∈ L) (h : mt T d y a M Q) (h' : mt T d' y a M2 Q') (hl : hle M M2) : mt T d' y a M2 (fun v M' => Q' v M' ∧ hkp M2 M' ∧ ∃ M0, Q v M0 ∧ hle M0 M') := by
  obtain ⟨r, ⟨n0, h1⟩, h2⟩ := h.deeper d'
  obtain ⟨r', ⟨n1, h3⟩, h4⟩ := h'
  obtain ⟨r9, ⟨n2, h5⟩, h6⟩ := (show mt T d' y a M2 (fun v M' => v = r'.1 ∧ M' = r'.2) from ⟨r', ⟨n1, h3⟩, rfl, rfl⟩).deeper d
  obtain ⟨a1, a2⟩ := run_mn hT (d + d') y a M r hy (h1 (max (max n0 n1) n2) (by omega))
  obtain ⟨M3, b1, b2, b3⟩ := a2 M2 hl
  have e := h5 (max (max n0 n1) n2) (by omega)
  rw [Nat.add_comm d' d] at e
  have e2 : r9 = (r.1, M3) := Option.some.inj (e.symm.trans b1)
  have e3 : r' = (r.1, M3) := by
    obtain ⟨h7, h8⟩ := h6
    rw [e2] at h7 h8
    exact Prod.ext h7.symm h8.symm
  have e4 := h3 (max (max n0 n1) n2) (by omega)
  have k := (run_mn hT d' y a M2 r' hy e4).1.1
  refine ⟨r', ⟨n1, h3⟩, h4, k, r.2, ?_, ?_⟩
  · rw [e3]
    exact h2
  · rw [e3]
    exact b2
end MIZ

