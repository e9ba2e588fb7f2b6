/-! what a run leaves as it was (laid by wip/p4/fr.py) -/
section FRA
/-- cells stay, but for objects of the classes W -/
def frC (W : List Nat) (M M' : mi_H) : Prop := (∀ z, z < M.2.1 → (∀ o, M.1 z = some (.inr o) → o.1 ∉ W) → M'.1 z = M.1 z) ∧ M.2.1 ≤ M'.2.1
theorem frC.rf {W : List Nat} {M : mi_H} : frC W M M := ⟨fun _ _ _ => rfl, Nat.le_refl _⟩
theorem frC.tr {W : List Nat} {M M1 M2 : mi_H} (h : frC W M M1) (h' : frC W M1 M2) : frC W M M2 :=
  ⟨fun z hz ho => by
    have e := h.1 z hz ho
    exact (h'.1 z (Nat.lt_of_lt_of_le hz h.2) (fun o h9 => ho o (by rw [← e]; exact h9))).trans e, Nat.le_trans h.2 h'.2⟩
theorem frC.wide {W W' : List Nat} {M M' : mi_H} (h : frC W M M') (hs : ∀ k, k ∈ W → k ∈ W') : frC W' M M' := ⟨fun z hz ho => h.1 z hz (fun o h9 q => ho o h9 (hs _ q)), h.2⟩
theorem frC.obj {W : List Nat} {M M' : mi_H} {a ci : Nat} {l : List Value} (h : frC W M M') (hl : a < M.2.1) (ha : M.1 a = some (ob ci l)) (hc : ci ∉ W) : M'.1 a = some (ob ci l) :=
  (h.1 a hl (fun o h9 => by rw [ha] at h9; cases h9; exact hc)).trans ha
theorem frC.row {W : List Nat} {M M' : mi_H} {a : Nat} {r : FieldType × Nat × (Nat → Option Value)} (h : frC W M M') (hl : a < M.2.1) (ha : M.1 a = some (.inl r)) : M'.1 a = some (.inl r) :=
  (h.1 a hl (fun o h9 => by rw [ha] at h9; cases h9)).trans ha
def frO (W : List Nat) (o : mi_O) : Prop := ∀ pc lv st M S', o (pc, lv, st, M) = some S' → frC W M S'.2.2.2
def frP (W L : List Nat) : Nat → mi_N → Prop := fun _ e => match e with
  | .inl o => frO W o
  | .inr (.inl c) => L.elem c.1 = true
  | .inr (.inr _) => True
variable {W L : List Nat}
theorem nk_heap {kl : Nat → Option (List Nat)} {S : mi_S} : (mi_nk kl S).2.2.2 = S.2.2.2 := by
  unfold mi_nk
  split <;> rfl
theorem fr_loop {tb : mi_B} {call : Nat → List Value → mi_H → Option mi_R} (hb : mt_all (frP W L) tb.1) (hc : ∀ y a M r, L.elem y = true → call y a M = some r → frC W M r.2) : ∀ n S r, mi_loop tb call n S = some r → frC W S.2.2.2 r.2 := by
  intro n
  induction n with
  | zero => intro S r h; cases h
  | succ n ih =>
    intro S r h
    unfold mi_loop at h
    cases he : tb.1 S.1 with
    | none => rw [he] at h; cases h
    | some e =>
      rw [he] at h
      have hp := hb S.1 e he
      rcases e with o | c | f
      · dsimp only at h
        obtain ⟨pc, lv, st, M⟩ := S
        cases ho : o (pc, lv, st, M) with
        | none => rw [ho] at h; cases h
        | some S' =>
          rw [ho] at h
          have h1 := hp pc lv st M S' ho
          have h2 := ih _ _ h
          rw [nk_heap] at h2
          exact h1.tr h2
      · dsimp only at h
        split at h
        · cases hr : call c.1 (S.2.2.1.take c.2.1).reverse S.2.2.2 with
          | none => rw [hr] at h; cases h
          | some r1 =>
            rw [hr] at h
            have h1 := hc _ _ _ _ hp hr
            have h2 := ih _ _ h
            rw [nk_heap] at h2
            exact h1.tr h2
        · cases h
      · dsimp only at h
        cases hf : f S.2.2.1 with
        | none => rw [hf] at h; cases h
        | some v => rw [hf] at h; cases h; exact frC.rf
theorem fr_run {T : Nat → Option (Nat × mi_B)} {X : Nat → Prop} (hT : ∀ y b, L.elem y = true → ¬ X y → T y = some b → mt_all (frP W L) b.2.1) (hX : ∀ n d y a M r, X y → mi_run T n d y a M = some r → frC W M r.2) (n : Nat) : ∀ d y a M r, L.elem y = true → mi_run T n d y a M = some r → frC W M r.2 := by
  intro d
  induction d with
  | zero => intro y a M r _ h; cases h
  | succ d ih =>
    intro y a M r hy h
    by_cases hx : X y
    · exact hX _ _ _ _ _ _ hx h
    · unfold mi_run at h
      cases hb : T y with
      | none => rw [hb] at h; cases h
      | some b =>
        rw [hb] at h
        dsimp only at h
        split at h
        · exact fr_loop (hT y b hy hx hb) (fun y a M r hy hr => ih y a M r hy hr) n _ r h
        · cases h

theorem fr_ald {ty : FieldType} : frO W (o_ald ty) := by
  intro pc lv st M S' h
  unfold o_ald at h
  dsimp only at h
  repeat' split at h
  all_goals first | (cases h; done) | (cases h; exact frC.rf)
theorem fr_alen {ty : FieldType} : frO W (o_alen ty) := by
  intro pc lv st M S' h
  unfold o_alen at h
  dsimp only at h
  repeat' split at h
  all_goals first | (cases h; done) | (cases h; exact frC.rf)
theorem fr_aload {i n : Nat} : frO W (o_aload i n) := by
  intro pc lv st M S' h
  unfold o_aload at h
  dsimp only at h
  repeat' split at h
  all_goals first | (cases h; done) | (cases h; exact frC.rf)
theorem fr_asto {i n : Nat} : frO W (o_asto i n) := by
  intro pc lv st M S' h
  unfold o_asto at h
  dsimp only at h
  repeat' split at h
  all_goals first | (cases h; done) | (cases h; exact frC.rf)
theorem fr_bin {f : Int32 → Int32 → Int32} {n : Nat} : frO W (o_bin f n) := by
  intro pc lv st M S' h
  unfold o_bin at h
  dsimp only at h
  repeat' split at h
  all_goals first | (cases h; done) | (cases h; exact frC.rf)
theorem fr_binL {f : Int64 → Int64 → Int64} : frO W (o_binL f) := by
  intro pc lv st M S' h
  unfold o_binL at h
  dsimp only at h
  repeat' split at h
  all_goals first | (cases h; done) | (cases h; exact frC.rf)
theorem fr_div {f : Int32 → Int32 → Int32} : frO W (o_div f) := by
  intro pc lv st M S' h
  unfold o_div at h
  dsimp only at h
  repeat' split at h
  all_goals first | (cases h; done) | (cases h; exact frC.rf)
theorem fr_get {ci k : Nat} : frO W (o_get ci k) := by
  intro pc lv st M S' h
  unfold o_get at h
  dsimp only at h
  repeat' split at h
  all_goals first | (cases h; done) | (cases h; exact frC.rf)
theorem fr_goto {t : Nat} : frO W (o_goto t) := by
  intro pc lv st M S' h
  unfold o_goto at h
  dsimp only at h
  repeat' split at h
  all_goals first | (cases h; done) | (cases h; exact frC.rf)
theorem fr_i2l  : frO W (o_i2l ) := by
  intro pc lv st M S' h
  unfold o_i2l at h
  dsimp only at h
  repeat' split at h
  all_goals first | (cases h; done) | (cases h; exact frC.rf)
theorem fr_if {f : Int32 → Bool} {t : Nat} : frO W (o_if f t) := by
  intro pc lv st M S' h
  unfold o_if at h
  dsimp only at h
  repeat' split at h
  all_goals first | (cases h; done) | (cases h; exact frC.rf)
theorem fr_if2 {f : Int32 → Int32 → Bool} {t : Nat} : frO W (o_if2 f t) := by
  intro pc lv st M S' h
  unfold o_if2 at h
  dsimp only at h
  repeat' split at h
  all_goals first | (cases h; done) | (cases h; exact frC.rf)
theorem fr_iinc {i : Nat} {n : Int32} : frO W (o_iinc i n) := by
  intro pc lv st M S' h
  unfold o_iinc at h
  dsimp only at h
  repeat' split at h
  all_goals first | (cases h; done) | (cases h; exact frC.rf)
theorem fr_iload {i n : Nat} : frO W (o_iload i n) := by
  intro pc lv st M S' h
  unfold o_iload at h
  dsimp only at h
  repeat' split at h
  all_goals first | (cases h; done) | (cases h; exact frC.rf)
theorem fr_isto {i n : Nat} : frO W (o_isto i n) := by
  intro pc lv st M S' h
  unfold o_isto at h
  dsimp only at h
  repeat' split at h
  all_goals first | (cases h; done) | (cases h; exact frC.rf)
theorem fr_l2i  : frO W (o_l2i ) := by
  intro pc lv st M S' h
  unfold o_l2i at h
  dsimp only at h
  repeat' split at h
  all_goals first | (cases h; done) | (cases h; exact frC.rf)
theorem fr_lcmp  : frO W (o_lcmp ) := by
  intro pc lv st M S' h
  unfold o_lcmp at h
  dsimp only at h
  repeat' split at h
  all_goals first | (cases h; done) | (cases h; exact frC.rf)
theorem fr_lload {i n : Nat} : frO W (o_lload i n) := by
  intro pc lv st M S' h
  unfold o_lload at h
  dsimp only at h
  repeat' split at h
  all_goals first | (cases h; done) | (cases h; exact frC.rf)
theorem fr_lsto {i n : Nat} : frO W (o_lsto i n) := by
  intro pc lv st M S' h
  unfold o_lsto at h
  dsimp only at h
  repeat' split at h
  all_goals first | (cases h; done) | (cases h; exact frC.rf)
theorem fr_null {a b : Nat} : frO W (o_null a b) := by
  intro pc lv st M S' h
  unfold o_null at h
  dsimp only at h
  repeat' split at h
  all_goals first | (cases h; done) | (cases h; exact frC.rf)
theorem fr_push {v : Value} {n : Nat} : frO W (o_push v n) := by
  intro pc lv st M S' h
  unfold o_push at h
  dsimp only at h
  repeat' split at h
  all_goals first | (cases h; done) | (cases h; exact frC.rf)
theorem fr_put {ci k : Nat} {ty : FieldType} (hw : ci ∈ W) : frO W (o_put ci k ty) := by
  intro pc lv st M S' h
  unfold o_put at h
  dsimp only at h
  split at h
  · rename_i v a st'
    cases hc : M.1 a with
    | none => rw [hc] at h; cases h
    | some c =>
      rw [hc] at h
      cases c with
      | inl r => cases h
      | inr o =>
        dsimp only at h
        split at h
        · rename_i hq
          cases h
          refine ⟨fun z hz hn => ?_, Nat.le_refl _⟩
          show va_up M.1 a _ z = M.1 z
          rw [va_up, if_neg]
          intro e
          subst e
          exact hn _ hc (by rw [hq.1]; exact hw)
        · cases h
  · cases h
theorem fr_scharAt  : frO W (o_scharAt ) := by
  intro pc lv st M S' h
  unfold o_scharAt at h
  dsimp only at h
  repeat' split at h
  all_goals first | (cases h; done) | (cases h; exact frC.rf)
theorem fr_slength  : frO W (o_slength ) := by
  intro pc lv st M S' h
  unfold o_slength at h
  dsimp only at h
  repeat' split at h
  all_goals first | (cases h; done) | (cases h; exact frC.rf)
theorem fr_sw {ps : List (Int × Nat)} {dt : Nat} : frO W (o_sw ps dt) := by
  intro pc lv st M S' h
  unfold o_sw at h
  dsimp only at h
  repeat' split at h
  all_goals first | (cases h; done) | (cases h; exact frC.rf)
theorem fr_un {f : Int32 → Int32} : frO W (o_un f) := by
  intro pc lv st M S' h
  unfold o_un at h
  dsimp only at h
  repeat' split at h
  all_goals first | (cases h; done) | (cases h; exact frC.rf)
def fzS : List Nat := [48, 49, 50, 75, 77, 78, 79, 81, 82, 85, 87, 88, 90, 91, 92, 93, 94, 95, 96, 97, 98, 99, 100, 101, 102, 103, 104, 105, 112, 113, 115, 116, 117, 122, 123, 128, 129, 131, 134, 138, 140, 141]
theorem fz_48_0 {g : xe_G} : mt_all (frP [5] fzS) (mb_48_0 g) := mt_node_ok (mt_node_ok (mt_node_ok (mt_node_ok (mt_leaf_ok (fr_iload)) (mt_leaf_ok (fr_if))) (mt_node_ok (mt_leaf_ok (fr_iload)) (mt_leaf_ok (fr_aload)))) (mt_node_ok (mt_node_ok (mt_leaf_ok (fr_get)) (mt_leaf_ok (fr_alen))) (mt_node_ok (mt_leaf_ok (fr_if2)) (mt_leaf_ok (fr_push))))) (mt_node_ok (mt_node_ok (mt_node_ok (mt_leaf_ok (fr_goto)) (mt_leaf_ok (fr_aload))) (mt_node_ok (mt_leaf_ok (fr_get)) (mt_leaf_ok (fr_iload)))) (mt_node_ok (mt_node_ok (mt_leaf_ok (fr_ald)) (mt_leaf_ok (fr_push))) (mt_node_ok (mt_leaf_ok (fr_bin)) (mt_leaf_ok (trivial)))))
theorem fz_48 {g : xe_G} : mt_all (frP [5] fzS) (mb_48 g).2.1 := (fz_48_0 (g := g))
theorem fz_49_0 {g : xe_G} : mt_all (frP [5] fzS) (mb_49_0 g) := mt_node_ok (mt_node_ok (mt_node_ok (mt_node_ok (mt_leaf_ok (fr_iload)) (mt_node_ok (mt_leaf_ok (fr_if)) (mt_leaf_ok (fr_iload)))) (mt_node_ok (mt_node_ok (mt_leaf_ok (fr_aload)) (mt_leaf_ok (fr_get))) (mt_node_ok (mt_leaf_ok (fr_alen)) (mt_leaf_ok (fr_push))))) (mt_node_ok (mt_node_ok (mt_leaf_ok (fr_bin)) (mt_node_ok (mt_leaf_ok (fr_if2)) (mt_leaf_ok (fr_push)))) (mt_node_ok (mt_node_ok (mt_leaf_ok (trivial)) (mt_leaf_ok (fr_aload))) (mt_node_ok (mt_leaf_ok (fr_get)) (mt_leaf_ok (fr_iload)))))) (mt_node_ok (mt_node_ok (mt_node_ok (mt_leaf_ok (fr_ald)) (mt_node_ok (mt_leaf_ok (fr_push)) (mt_leaf_ok (fr_bin)))) (mt_node_ok (mt_node_ok (mt_leaf_ok (fr_push)) (mt_leaf_ok (fr_bin))) (mt_node_ok (mt_leaf_ok (fr_aload)) (mt_leaf_ok (fr_get))))) (mt_node_ok (mt_node_ok (mt_node_ok (mt_leaf_ok (fr_iload)) (mt_leaf_ok (fr_push))) (mt_node_ok (mt_leaf_ok (fr_bin)) (mt_leaf_ok (fr_ald)))) (mt_node_ok (mt_node_ok (mt_leaf_ok (fr_push)) (mt_leaf_ok (fr_bin))) (mt_node_ok (mt_leaf_ok (fr_bin)) (mt_leaf_ok (trivial))))))
theorem fz_49 {g : xe_G} : mt_all (frP [5] fzS) (mb_49 g).2.1 := (fz_49_0 (g := g))
theorem fz_50_0 {g : xe_G} : mt_all (frP [5] fzS) (mb_50_0 g) := mt_node_ok (mt_node_ok (mt_node_ok (mt_node_ok (mt_node_ok (mt_leaf_ok (fr_iload)) (mt_node_ok (mt_leaf_ok (fr_if)) (mt_leaf_ok (fr_iload)))) (mt_node_ok (mt_leaf_ok (fr_aload)) (mt_node_ok (mt_leaf_ok (fr_get)) (mt_leaf_ok (fr_alen))))) (mt_node_ok (mt_node_ok (mt_leaf_ok (fr_push)) (mt_node_ok (mt_leaf_ok (fr_bin)) (mt_leaf_ok (fr_if2)))) (mt_node_ok (mt_leaf_ok (fr_push)) (mt_node_ok (mt_leaf_ok (trivial)) (mt_leaf_ok (fr_aload)))))) (mt_node_ok (mt_node_ok (mt_node_ok (mt_leaf_ok (fr_get)) (mt_node_ok (mt_leaf_ok (fr_iload)) (mt_leaf_ok (fr_ald)))) (mt_node_ok (mt_leaf_ok (fr_push)) (mt_node_ok (mt_leaf_ok (fr_bin)) (mt_leaf_ok (fr_aload))))) (mt_node_ok (mt_node_ok (mt_leaf_ok (fr_get)) (mt_node_ok (mt_leaf_ok (fr_iload)) (mt_leaf_ok (fr_push)))) (mt_node_ok (mt_leaf_ok (fr_bin)) (mt_node_ok (mt_leaf_ok (fr_ald)) (mt_leaf_ok (fr_push))))))) (mt_node_ok (mt_node_ok (mt_node_ok (mt_node_ok (mt_leaf_ok (fr_bin)) (mt_node_ok (mt_leaf_ok (fr_push)) (mt_leaf_ok (fr_bin)))) (mt_node_ok (mt_leaf_ok (fr_bin)) (mt_node_ok (mt_leaf_ok (fr_aload)) (mt_leaf_ok (fr_get))))) (mt_node_ok (mt_node_ok (mt_leaf_ok (fr_iload)) (mt_node_ok (mt_leaf_ok (fr_push)) (mt_leaf_ok (fr_bin)))) (mt_node_ok (mt_leaf_ok (fr_ald)) (mt_node_ok (mt_leaf_ok (fr_push)) (mt_leaf_ok (fr_bin)))))) (mt_node_ok (mt_node_ok (mt_node_ok (mt_leaf_ok (fr_push)) (mt_node_ok (mt_leaf_ok (fr_bin)) (mt_leaf_ok (fr_bin)))) (mt_node_ok (mt_leaf_ok (fr_aload)) (mt_node_ok (mt_leaf_ok (fr_get)) (mt_leaf_ok (fr_iload))))) (mt_node_ok (mt_node_ok (mt_leaf_ok (fr_push)) (mt_node_ok (mt_leaf_ok (fr_bin)) (mt_leaf_ok (fr_ald)))) (mt_node_ok (mt_leaf_ok (fr_push)) (mt_node_ok (mt_leaf_ok (fr_bin)) (mt_leaf_ok (fr_bin)))))))
theorem fz_50_1 {g : xe_G} : mt_all (frP [5] fzS) (mb_50_1 g) := mt_leaf_ok (trivial)
theorem fz_50 {g : xe_G} : mt_all (frP [5] fzS) (mb_50 g).2.1 := mt_node_ok ((fz_50_0 (g := g))) ((fz_50_1 (g := g)))
theorem fz_75_0 {g : xe_G} : mt_all (frP [5] fzS) (mb_75_0 g) := mt_node_ok (mt_node_ok (mt_node_ok (mt_node_ok (mt_node_ok (mt_leaf_ok (fr_aload)) (mt_node_ok (mt_leaf_ok (fr_get)) (mt_leaf_ok (fr_get)))) (mt_node_ok (mt_leaf_ok (fr_sw)) (mt_node_ok (mt_leaf_ok (fr_iload)) (mt_leaf_ok (fr_push))))) (mt_node_ok (mt_node_ok (mt_leaf_ok (fr_if2)) (mt_node_ok (mt_leaf_ok (fr_aload)) (mt_leaf_ok (fr_get)))) (mt_node_ok (mt_leaf_ok (fr_aload)) (mt_node_ok (mt_leaf_ok (fr_get)) (mt_leaf_ok (fr_get)))))) (mt_node_ok (mt_node_ok (mt_node_ok (mt_leaf_ok (rfl)) (mt_node_ok (mt_leaf_ok (fr_if)) (mt_leaf_ok (fr_push)))) (mt_node_ok (mt_leaf_ok (fr_goto)) (mt_node_ok (mt_leaf_ok (fr_push)) (mt_leaf_ok (trivial))))) (mt_node_ok (mt_node_ok (mt_leaf_ok (fr_aload)) (mt_node_ok (mt_leaf_ok (fr_iload)) (mt_leaf_ok (rfl)))) (mt_node_ok (mt_leaf_ok (trivial)) (mt_node_ok (mt_leaf_ok (fr_aload)) (mt_leaf_ok (fr_iload))))))) (mt_node_ok (mt_node_ok (mt_node_ok (mt_node_ok (mt_leaf_ok (rfl)) (mt_node_ok (mt_leaf_ok (fr_if)) (mt_leaf_ok (fr_aload)))) (mt_node_ok (mt_leaf_ok (fr_get)) (mt_node_ok (mt_leaf_ok (fr_aload)) (mt_leaf_ok (fr_get))))) (mt_node_ok (mt_node_ok (mt_leaf_ok (fr_get)) (mt_node_ok (mt_leaf_ok (rfl)) (mt_leaf_ok (fr_if)))) (mt_node_ok (mt_leaf_ok (fr_push)) (mt_node_ok (mt_leaf_ok (fr_goto)) (mt_leaf_ok (fr_push)))))) (mt_node_ok (mt_node_ok (mt_node_ok (mt_leaf_ok (trivial)) (mt_node_ok (mt_leaf_ok (fr_iload)) (mt_leaf_ok (fr_push)))) (mt_node_ok (mt_leaf_ok (fr_if2)) (mt_node_ok (mt_leaf_ok (fr_aload)) (mt_leaf_ok (fr_get))))) (mt_node_ok (mt_node_ok (mt_leaf_ok (fr_get)) (mt_node_ok (mt_leaf_ok (fr_aload)) (mt_leaf_ok (fr_get)))) (mt_node_ok (mt_leaf_ok (fr_aload)) (mt_node_ok (mt_leaf_ok (fr_get)) (mt_leaf_ok (fr_aload)))))))
theorem fz_75_1 {g : xe_G} : mt_all (frP [5] fzS) (mb_75_1 g) := mt_node_ok (mt_node_ok (mt_node_ok (mt_node_ok (mt_leaf_ok (fr_get)) (mt_leaf_ok (fr_get))) (mt_node_ok (mt_leaf_ok (rfl)) (mt_node_ok (mt_leaf_ok (rfl)) (mt_leaf_ok (fr_push))))) (mt_node_ok (mt_node_ok (mt_leaf_ok (fr_bin)) (mt_leaf_ok (fr_if2))) (mt_node_ok (mt_leaf_ok (fr_push)) (mt_node_ok (mt_leaf_ok (fr_goto)) (mt_leaf_ok (fr_push)))))) (mt_node_ok (mt_node_ok (mt_node_ok (mt_leaf_ok (trivial)) (mt_leaf_ok (fr_iload))) (mt_node_ok (mt_leaf_ok (fr_push)) (mt_node_ok (mt_leaf_ok (fr_if2)) (mt_leaf_ok (fr_push))))) (mt_node_ok (mt_node_ok (mt_leaf_ok (fr_goto)) (mt_leaf_ok (fr_push))) (mt_node_ok (mt_leaf_ok (trivial)) (mt_node_ok (mt_leaf_ok (fr_push)) (mt_leaf_ok (trivial))))))
theorem fz_75 {g : xe_G} : mt_all (frP [5] fzS) (mb_75 g).2.1 := mt_node_ok ((fz_75_0 (g := g))) ((fz_75_1 (g := g)))
theorem fz_77_0 {g : xe_G} : mt_all (frP [5] fzS) (mb_77_0 g) := mt_node_ok (mt_node_ok (mt_node_ok (mt_node_ok (mt_node_ok (mt_leaf_ok (fr_iload)) (mt_leaf_ok (fr_sw))) (mt_node_ok (mt_leaf_ok (fr_push)) (mt_node_ok (mt_leaf_ok (trivial)) (mt_leaf_ok (fr_aload))))) (mt_node_ok (mt_node_ok (mt_leaf_ok (fr_get)) (mt_leaf_ok (fr_push))) (mt_node_ok (mt_leaf_ok (fr_if2)) (mt_node_ok (mt_leaf_ok (fr_push)) (mt_leaf_ok (fr_goto)))))) (mt_node_ok (mt_node_ok (mt_node_ok (mt_leaf_ok (fr_push)) (mt_leaf_ok (trivial))) (mt_node_ok (mt_leaf_ok (fr_aload)) (mt_node_ok (mt_leaf_ok (fr_get)) (mt_leaf_ok (fr_push))))) (mt_node_ok (mt_node_ok (mt_leaf_ok (fr_if2)) (mt_leaf_ok (fr_push))) (mt_node_ok (mt_leaf_ok (fr_goto)) (mt_node_ok (mt_leaf_ok (fr_push)) (mt_leaf_ok (trivial))))))) (mt_node_ok (mt_node_ok (mt_node_ok (mt_node_ok (mt_leaf_ok (fr_aload)) (mt_leaf_ok (fr_get))) (mt_node_ok (mt_leaf_ok (fr_push)) (mt_node_ok (mt_leaf_ok (fr_if2)) (mt_leaf_ok (fr_aload))))) (mt_node_ok (mt_node_ok (mt_leaf_ok (fr_get)) (mt_leaf_ok (fr_aload))) (mt_node_ok (mt_leaf_ok (fr_get)) (mt_node_ok (mt_leaf_ok (fr_aload)) (mt_leaf_ok (fr_get)))))) (mt_node_ok (mt_node_ok (mt_node_ok (mt_leaf_ok (fr_get)) (mt_leaf_ok (rfl))) (mt_node_ok (mt_leaf_ok (rfl)) (mt_node_ok (mt_leaf_ok (fr_push)) (mt_leaf_ok (fr_if2))))) (mt_node_ok (mt_node_ok (mt_leaf_ok (fr_push)) (mt_node_ok (mt_leaf_ok (fr_goto)) (mt_leaf_ok (fr_push)))) (mt_node_ok (mt_leaf_ok (trivial)) (mt_node_ok (mt_leaf_ok (fr_push)) (mt_leaf_ok (trivial)))))))
theorem fz_77 {g : xe_G} : mt_all (frP [5] fzS) (mb_77 g).2.1 := (fz_77_0 (g := g))
theorem fz_78_0 {g : xe_G} : mt_all (frP [5] fzS) (mb_78_0 g) := mt_node_ok (mt_node_ok (mt_node_ok (mt_leaf_ok (fr_iload)) (mt_node_ok (mt_leaf_ok (fr_push)) (mt_leaf_ok (fr_if2)))) (mt_node_ok (mt_node_ok (mt_leaf_ok (fr_iload)) (mt_leaf_ok (fr_push))) (mt_node_ok (mt_leaf_ok (fr_if2)) (mt_leaf_ok (fr_aload))))) (mt_node_ok (mt_node_ok (mt_leaf_ok (fr_get)) (mt_node_ok (mt_leaf_ok (fr_push)) (mt_leaf_ok (fr_if2)))) (mt_node_ok (mt_node_ok (mt_leaf_ok (fr_push)) (mt_leaf_ok (fr_goto))) (mt_node_ok (mt_leaf_ok (fr_push)) (mt_leaf_ok (trivial)))))
theorem fz_78 {g : xe_G} : mt_all (frP [5] fzS) (mb_78 g).2.1 := (fz_78_0 (g := g))
theorem fz_79_0 {g : xe_G} : mt_all (frP [5] fzS) (mb_79_0 g) := mt_node_ok (mt_node_ok (mt_node_ok (mt_node_ok (mt_leaf_ok (fr_iload)) (mt_node_ok (mt_leaf_ok (fr_push)) (mt_leaf_ok (fr_if2)))) (mt_node_ok (mt_leaf_ok (fr_iload)) (mt_node_ok (mt_leaf_ok (fr_push)) (mt_leaf_ok (fr_if2))))) (mt_node_ok (mt_node_ok (mt_leaf_ok (fr_iload)) (mt_node_ok (mt_leaf_ok (fr_push)) (mt_leaf_ok (fr_if2)))) (mt_node_ok (mt_leaf_ok (fr_aload)) (mt_node_ok (mt_leaf_ok (fr_get)) (mt_leaf_ok (fr_aload)))))) (mt_node_ok (mt_node_ok (mt_node_ok (mt_leaf_ok (fr_get)) (mt_node_ok (mt_leaf_ok (fr_aload)) (mt_leaf_ok (fr_get)))) (mt_node_ok (mt_leaf_ok (fr_get)) (mt_node_ok (mt_leaf_ok (rfl)) (mt_leaf_ok (rfl))))) (mt_node_ok (mt_node_ok (mt_leaf_ok (fr_push)) (mt_node_ok (mt_leaf_ok (fr_if2)) (mt_leaf_ok (fr_push)))) (mt_node_ok (mt_leaf_ok (fr_goto)) (mt_node_ok (mt_leaf_ok (fr_push)) (mt_leaf_ok (trivial))))))
theorem fz_79 {g : xe_G} : mt_all (frP [5] fzS) (mb_79 g).2.1 := (fz_79_0 (g := g))
theorem fz_81_0 {g : xe_G} : mt_all (frP [5] fzS) (mb_81_0 g) := mt_node_ok (mt_node_ok (mt_node_ok (mt_node_ok (mt_leaf_ok (fr_aload)) (mt_node_ok (mt_leaf_ok (fr_get)) (mt_leaf_ok (fr_null)))) (mt_node_ok (mt_leaf_ok (fr_lload)) (mt_node_ok (mt_leaf_ok (fr_push)) (mt_leaf_ok (fr_lcmp))))) (mt_node_ok (mt_node_ok (mt_leaf_ok (fr_if)) (mt_node_ok (mt_leaf_ok (fr_lload)) (mt_leaf_ok (fr_aload)))) (mt_node_ok (mt_leaf_ok (fr_get)) (mt_node_ok (mt_leaf_ok (fr_alen)) (mt_leaf_ok (fr_i2l)))))) (mt_node_ok (mt_node_ok (mt_node_ok (mt_leaf_ok (fr_lcmp)) (mt_node_ok (mt_leaf_ok (fr_if)) (mt_leaf_ok (fr_push)))) (mt_node_ok (mt_leaf_ok (fr_goto)) (mt_node_ok (mt_leaf_ok (fr_aload)) (mt_leaf_ok (fr_get))))) (mt_node_ok (mt_node_ok (mt_leaf_ok (fr_lload)) (mt_node_ok (mt_leaf_ok (fr_l2i)) (mt_leaf_ok (fr_ald)))) (mt_node_ok (mt_leaf_ok (fr_push)) (mt_node_ok (mt_leaf_ok (fr_bin)) (mt_leaf_ok (trivial))))))
theorem fz_81 {g : xe_G} : mt_all (frP [5] fzS) (mb_81 g).2.1 := (fz_81_0 (g := g))
theorem fz_82_0 {g : xe_G} : mt_all (frP [5] fzS) (mb_82_0 g) := mt_node_ok (mt_node_ok (mt_node_ok (mt_node_ok (mt_node_ok (mt_leaf_ok (fr_aload)) (mt_node_ok (mt_leaf_ok (fr_get)) (mt_leaf_ok (fr_get)))) (mt_node_ok (mt_leaf_ok (fr_if)) (mt_node_ok (mt_leaf_ok (fr_aload)) (mt_leaf_ok (fr_get))))) (mt_node_ok (mt_node_ok (mt_leaf_ok (fr_get)) (mt_node_ok (mt_leaf_ok (fr_push)) (mt_leaf_ok (fr_if2)))) (mt_node_ok (mt_leaf_ok (fr_aload)) (mt_node_ok (mt_leaf_ok (fr_get)) (mt_leaf_ok (fr_push)))))) (mt_node_ok (mt_node_ok (mt_node_ok (mt_leaf_ok (fr_if2)) (mt_node_ok (mt_leaf_ok (fr_push)) (mt_leaf_ok (fr_goto)))) (mt_node_ok (mt_leaf_ok (fr_push)) (mt_node_ok (mt_leaf_ok (fr_isto)) (mt_leaf_ok (fr_iload))))) (mt_node_ok (mt_node_ok (mt_leaf_ok (fr_if)) (mt_node_ok (mt_leaf_ok (fr_aload)) (mt_leaf_ok (fr_get)))) (mt_node_ok (mt_leaf_ok (fr_get)) (mt_node_ok (mt_leaf_ok (fr_aload)) (mt_leaf_ok (fr_get))))))) (mt_node_ok (mt_node_ok (mt_node_ok (mt_node_ok (mt_leaf_ok (fr_get)) (mt_node_ok (mt_leaf_ok (fr_bin)) (mt_leaf_ok (fr_aload)))) (mt_node_ok (mt_leaf_ok (fr_get)) (mt_node_ok (mt_leaf_ok (fr_if2)) (mt_leaf_ok (fr_push))))) (mt_node_ok (mt_node_ok (mt_leaf_ok (fr_goto)) (mt_node_ok (mt_leaf_ok (fr_push)) (mt_leaf_ok (trivial)))) (mt_node_ok (mt_leaf_ok (fr_aload)) (mt_node_ok (mt_leaf_ok (fr_get)) (mt_leaf_ok (fr_get)))))) (mt_node_ok (mt_node_ok (mt_node_ok (mt_leaf_ok (fr_sw)) (mt_node_ok (mt_leaf_ok (fr_aload)) (mt_leaf_ok (fr_get)))) (mt_node_ok (mt_leaf_ok (fr_push)) (mt_node_ok (mt_leaf_ok (fr_if2)) (mt_leaf_ok (fr_push))))) (mt_node_ok (mt_node_ok (mt_leaf_ok (fr_goto)) (mt_node_ok (mt_leaf_ok (fr_push)) (mt_leaf_ok (trivial)))) (mt_node_ok (mt_leaf_ok (fr_aload)) (mt_node_ok (mt_leaf_ok (fr_get)) (mt_leaf_ok (fr_get)))))))
theorem fz_82_1 {g : xe_G} : mt_all (frP [5] fzS) (mb_82_1 g) := mt_node_ok (mt_node_ok (mt_node_ok (mt_node_ok (mt_node_ok (mt_leaf_ok (fr_push)) (mt_node_ok (mt_leaf_ok (fr_if2)) (mt_leaf_ok (fr_aload)))) (mt_node_ok (mt_leaf_ok (fr_get)) (mt_node_ok (mt_leaf_ok (fr_get)) (mt_leaf_ok (fr_push))))) (mt_node_ok (mt_node_ok (mt_leaf_ok (fr_if2)) (mt_node_ok (mt_leaf_ok (fr_push)) (mt_leaf_ok (fr_goto)))) (mt_node_ok (mt_leaf_ok (fr_push)) (mt_node_ok (mt_leaf_ok (trivial)) (mt_leaf_ok (fr_aload)))))) (mt_node_ok (mt_node_ok (mt_node_ok (mt_leaf_ok (fr_aload)) (mt_node_ok (mt_leaf_ok (fr_get)) (mt_leaf_ok (fr_aload)))) (mt_node_ok (mt_leaf_ok (fr_get)) (mt_node_ok (mt_leaf_ok (fr_get)) (mt_leaf_ok (rfl))))) (mt_node_ok (mt_node_ok (mt_leaf_ok (rfl)) (mt_node_ok (mt_leaf_ok (trivial)) (mt_leaf_ok (fr_aload)))) (mt_node_ok (mt_leaf_ok (fr_aload)) (mt_node_ok (mt_leaf_ok (fr_get)) (mt_leaf_ok (fr_aload))))))) (mt_node_ok (mt_node_ok (mt_node_ok (mt_node_ok (mt_leaf_ok (fr_get)) (mt_node_ok (mt_leaf_ok (fr_get)) (mt_leaf_ok (rfl)))) (mt_node_ok (mt_leaf_ok (rfl)) (mt_node_ok (mt_leaf_ok (trivial)) (mt_leaf_ok (fr_aload))))) (mt_node_ok (mt_node_ok (mt_leaf_ok (fr_get)) (mt_node_ok (mt_leaf_ok (fr_aload)) (mt_leaf_ok (fr_get)))) (mt_node_ok (mt_leaf_ok (fr_get)) (mt_node_ok (mt_leaf_ok (rfl)) (mt_leaf_ok (fr_push)))))) (mt_node_ok (mt_node_ok (mt_node_ok (mt_leaf_ok (fr_if2)) (mt_node_ok (mt_leaf_ok (fr_push)) (mt_leaf_ok (fr_goto)))) (mt_node_ok (mt_leaf_ok (fr_push)) (mt_node_ok (mt_leaf_ok (trivial)) (mt_leaf_ok (fr_aload))))) (mt_node_ok (mt_node_ok (mt_leaf_ok (fr_get)) (mt_node_ok (mt_leaf_ok (fr_aload)) (mt_leaf_ok (fr_get)))) (mt_node_ok (mt_leaf_ok (fr_get)) (mt_node_ok (mt_leaf_ok (rfl)) (mt_leaf_ok (trivial)))))))
theorem fz_82_2 {g : xe_G} : mt_all (frP [5] fzS) (mb_82_2 g) := mt_node_ok (mt_node_ok (mt_node_ok (mt_node_ok (mt_node_ok (mt_leaf_ok (fr_aload)) (mt_node_ok (mt_leaf_ok (fr_get)) (mt_leaf_ok (fr_aload)))) (mt_node_ok (mt_leaf_ok (fr_get)) (mt_node_ok (mt_leaf_ok (fr_get)) (mt_leaf_ok (rfl))))) (mt_node_ok (mt_node_ok (mt_leaf_ok (fr_push)) (mt_node_ok (mt_leaf_ok (fr_if2)) (mt_leaf_ok (fr_aload)))) (mt_node_ok (mt_leaf_ok (fr_get)) (mt_node_ok (mt_leaf_ok (fr_aload)) (mt_leaf_ok (fr_get)))))) (mt_node_ok (mt_node_ok (mt_node_ok (mt_leaf_ok (fr_get)) (mt_node_ok (mt_leaf_ok (rfl)) (mt_leaf_ok (fr_push)))) (mt_node_ok (mt_leaf_ok (fr_if2)) (mt_node_ok (mt_leaf_ok (fr_push)) (mt_leaf_ok (fr_goto))))) (mt_node_ok (mt_node_ok (mt_leaf_ok (fr_push)) (mt_node_ok (mt_leaf_ok (trivial)) (mt_leaf_ok (fr_aload)))) (mt_node_ok (mt_leaf_ok (fr_get)) (mt_node_ok (mt_leaf_ok (fr_aload)) (mt_leaf_ok (fr_get))))))) (mt_node_ok (mt_node_ok (mt_node_ok (mt_node_ok (mt_leaf_ok (fr_get)) (mt_node_ok (mt_leaf_ok (rfl)) (mt_leaf_ok (fr_push)))) (mt_node_ok (mt_leaf_ok (fr_if2)) (mt_node_ok (mt_leaf_ok (fr_push)) (mt_leaf_ok (fr_goto))))) (mt_node_ok (mt_node_ok (mt_leaf_ok (fr_push)) (mt_node_ok (mt_leaf_ok (trivial)) (mt_leaf_ok (fr_aload)))) (mt_node_ok (mt_leaf_ok (fr_get)) (mt_node_ok (mt_leaf_ok (fr_aload)) (mt_leaf_ok (fr_get)))))) (mt_node_ok (mt_node_ok (mt_node_ok (mt_leaf_ok (fr_get)) (mt_node_ok (mt_leaf_ok (rfl)) (mt_leaf_ok (fr_push)))) (mt_node_ok (mt_leaf_ok (fr_if2)) (mt_node_ok (mt_leaf_ok (fr_aload)) (mt_leaf_ok (fr_get))))) (mt_node_ok (mt_node_ok (mt_leaf_ok (fr_get)) (mt_node_ok (mt_leaf_ok (fr_push)) (mt_leaf_ok (fr_if2)))) (mt_node_ok (mt_leaf_ok (fr_aload)) (mt_node_ok (mt_leaf_ok (fr_get)) (mt_leaf_ok (fr_get)))))))
theorem fz_82_3 {g : xe_G} : mt_all (frP [5] fzS) (mb_82_3 g) := mt_node_ok (mt_node_ok (mt_node_ok (mt_node_ok (mt_leaf_ok (fr_aload)) (mt_leaf_ok (fr_get))) (mt_node_ok (mt_leaf_ok (fr_aload)) (mt_node_ok (mt_leaf_ok (fr_get)) (mt_leaf_ok (fr_get))))) (mt_node_ok (mt_node_ok (mt_leaf_ok (rfl)) (mt_leaf_ok (fr_if2))) (mt_node_ok (mt_leaf_ok (fr_push)) (mt_node_ok (mt_leaf_ok (fr_goto)) (mt_leaf_ok (fr_push)))))) (mt_node_ok (mt_node_ok (mt_node_ok (mt_leaf_ok (trivial)) (mt_leaf_ok (fr_aload))) (mt_node_ok (mt_leaf_ok (fr_aload)) (mt_node_ok (mt_leaf_ok (fr_get)) (mt_leaf_ok (fr_aload))))) (mt_node_ok (mt_node_ok (mt_leaf_ok (fr_get)) (mt_leaf_ok (fr_get))) (mt_node_ok (mt_leaf_ok (rfl)) (mt_node_ok (mt_leaf_ok (rfl)) (mt_leaf_ok (trivial))))))
theorem fz_82 {g : xe_G} : mt_all (frP [5] fzS) (mb_82 g).2.1 := mt_node_ok (mt_node_ok ((fz_82_0 (g := g))) ((fz_82_1 (g := g)))) (mt_node_ok ((fz_82_2 (g := g))) ((fz_82_3 (g := g))))
theorem fz_85_0 {g : xe_G} : mt_all (frP [5] fzS) (mb_85_0 g) := mt_node_ok (mt_node_ok (mt_node_ok (mt_node_ok (mt_leaf_ok (fr_push)) (mt_leaf_ok (fr_isto))) (mt_node_ok (mt_leaf_ok (fr_iload)) (mt_node_ok (mt_leaf_ok (fr_aload)) (mt_leaf_ok (fr_get))))) (mt_node_ok (mt_node_ok (mt_leaf_ok (fr_get)) (mt_leaf_ok (fr_if2))) (mt_node_ok (mt_leaf_ok (fr_aload)) (mt_node_ok (mt_leaf_ok (fr_aload)) (mt_leaf_ok (fr_get)))))) (mt_node_ok (mt_node_ok (mt_node_ok (mt_leaf_ok (fr_iload)) (mt_leaf_ok (rfl))) (mt_node_ok (mt_leaf_ok (rfl)) (mt_node_ok (mt_leaf_ok (fr_if)) (mt_leaf_ok (fr_push))))) (mt_node_ok (mt_node_ok (mt_leaf_ok (trivial)) (mt_leaf_ok (fr_iinc))) (mt_node_ok (mt_leaf_ok (fr_goto)) (mt_node_ok (mt_leaf_ok (fr_push)) (mt_leaf_ok (trivial))))))
theorem fz_85 {g : xe_G} : mt_all (frP [5] fzS) (mb_85 g).2.1 := (fz_85_0 (g := g))
theorem fz_87_0 {g : xe_G} : mt_all (frP [5] fzS) (mb_87_0 g) := mt_node_ok (mt_node_ok (mt_node_ok (mt_node_ok (mt_node_ok (mt_leaf_ok (fr_aload)) (mt_node_ok (mt_leaf_ok (fr_get)) (mt_leaf_ok (fr_push)))) (mt_node_ok (mt_leaf_ok (fr_if2)) (mt_node_ok (mt_leaf_ok (fr_aload)) (mt_leaf_ok (fr_get))))) (mt_node_ok (mt_node_ok (mt_leaf_ok (fr_push)) (mt_node_ok (mt_leaf_ok (fr_if2)) (mt_leaf_ok (fr_aload)))) (mt_node_ok (mt_leaf_ok (fr_aload)) (mt_node_ok (mt_leaf_ok (fr_get)) (mt_leaf_ok (fr_push)))))) (mt_node_ok (mt_node_ok (mt_node_ok (mt_leaf_ok (fr_bin)) (mt_node_ok (mt_leaf_ok (fr_push)) (mt_leaf_ok (rfl)))) (mt_node_ok (mt_leaf_ok (trivial)) (mt_node_ok (mt_leaf_ok (fr_aload)) (mt_leaf_ok (fr_get))))) (mt_node_ok (mt_node_ok (mt_leaf_ok (fr_push)) (mt_node_ok (mt_leaf_ok (fr_if2)) (mt_leaf_ok (fr_aload)))) (mt_node_ok (mt_leaf_ok (fr_get)) (mt_node_ok (mt_leaf_ok (fr_push)) (mt_leaf_ok (fr_if2))))))) (mt_node_ok (mt_node_ok (mt_node_ok (mt_node_ok (mt_leaf_ok (fr_aload)) (mt_node_ok (mt_leaf_ok (fr_aload)) (mt_leaf_ok (fr_get)))) (mt_node_ok (mt_leaf_ok (fr_push)) (mt_node_ok (mt_leaf_ok (fr_bin)) (mt_leaf_ok (fr_push))))) (mt_node_ok (mt_node_ok (mt_leaf_ok (rfl)) (mt_node_ok (mt_leaf_ok (trivial)) (mt_leaf_ok (fr_aload)))) (mt_node_ok (mt_leaf_ok (fr_get)) (mt_node_ok (mt_leaf_ok (rfl)) (mt_leaf_ok (fr_if)))))) (mt_node_ok (mt_node_ok (mt_node_ok (mt_leaf_ok (fr_aload)) (mt_node_ok (mt_leaf_ok (fr_aload)) (mt_leaf_ok (fr_aload)))) (mt_node_ok (mt_leaf_ok (fr_get)) (mt_node_ok (mt_leaf_ok (fr_push)) (mt_leaf_ok (fr_bin))))) (mt_node_ok (mt_node_ok (mt_leaf_ok (rfl)) (mt_node_ok (mt_leaf_ok (rfl)) (mt_leaf_ok (trivial)))) (mt_node_ok (mt_leaf_ok (fr_aload)) (mt_node_ok (mt_leaf_ok (fr_get)) (mt_leaf_ok (fr_push)))))))
theorem fz_87_1 {g : xe_G} : mt_all (frP [5] fzS) (mb_87_1 g) := mt_node_ok (mt_node_ok (mt_node_ok (mt_node_ok (mt_node_ok (mt_leaf_ok (fr_if2)) (mt_node_ok (mt_leaf_ok (fr_aload)) (mt_leaf_ok (fr_get)))) (mt_node_ok (mt_leaf_ok (fr_push)) (mt_node_ok (mt_leaf_ok (fr_if2)) (mt_leaf_ok (fr_aload))))) (mt_node_ok (mt_node_ok (mt_leaf_ok (fr_get)) (mt_node_ok (mt_leaf_ok (fr_push)) (mt_leaf_ok (fr_if2)))) (mt_node_ok (mt_leaf_ok (fr_aload)) (mt_node_ok (mt_leaf_ok (fr_get)) (mt_leaf_ok (fr_push)))))) (mt_node_ok (mt_node_ok (mt_node_ok (mt_leaf_ok (fr_if2)) (mt_node_ok (mt_leaf_ok (fr_aload)) (mt_leaf_ok (fr_aload)))) (mt_node_ok (mt_leaf_ok (fr_aload)) (mt_node_ok (mt_leaf_ok (fr_get)) (mt_leaf_ok (fr_push))))) (mt_node_ok (mt_node_ok (mt_leaf_ok (fr_bin)) (mt_node_ok (mt_leaf_ok (rfl)) (mt_leaf_ok (fr_un)))) (mt_node_ok (mt_leaf_ok (fr_aload)) (mt_node_ok (mt_leaf_ok (fr_get)) (mt_leaf_ok (rfl))))))) (mt_node_ok (mt_node_ok (mt_node_ok (mt_node_ok (mt_leaf_ok (trivial)) (mt_node_ok (mt_leaf_ok (fr_aload)) (mt_leaf_ok (fr_get)))) (mt_node_ok (mt_leaf_ok (fr_sw)) (mt_node_ok (mt_leaf_ok (fr_aload)) (mt_leaf_ok (fr_aload))))) (mt_node_ok (mt_node_ok (mt_leaf_ok (fr_aload)) (mt_node_ok (mt_leaf_ok (fr_get)) (mt_leaf_ok (fr_push)))) (mt_node_ok (mt_leaf_ok (fr_bin)) (mt_node_ok (mt_leaf_ok (rfl)) (mt_leaf_ok (fr_un)))))) (mt_node_ok (mt_node_ok (mt_node_ok (mt_leaf_ok ((fr_put (by decide)))) (mt_node_ok (mt_leaf_ok (fr_push)) (mt_leaf_ok (trivial)))) (mt_node_ok (mt_leaf_ok (fr_aload)) (mt_node_ok (mt_leaf_ok (fr_aload)) (mt_leaf_ok (fr_aload))))) (mt_node_ok (mt_node_ok (mt_leaf_ok (fr_get)) (mt_node_ok (mt_leaf_ok (fr_push)) (mt_leaf_ok (fr_bin)))) (mt_node_ok (mt_leaf_ok (rfl)) (mt_node_ok (mt_leaf_ok (fr_un)) (mt_leaf_ok ((fr_put (by decide)))))))))
theorem fz_87_2 {g : xe_G} : mt_all (frP [5] fzS) (mb_87_2 g) := mt_node_ok (mt_node_ok (mt_node_ok (mt_node_ok (mt_node_ok (mt_leaf_ok (fr_push)) (mt_node_ok (mt_leaf_ok (trivial)) (mt_leaf_ok (fr_aload)))) (mt_node_ok (mt_leaf_ok (fr_aload)) (mt_node_ok (mt_leaf_ok (fr_aload)) (mt_leaf_ok (fr_get))))) (mt_node_ok (mt_node_ok (mt_leaf_ok (fr_push)) (mt_node_ok (mt_leaf_ok (fr_bin)) (mt_leaf_ok (rfl)))) (mt_node_ok (mt_leaf_ok ((fr_put (by decide)))) (mt_node_ok (mt_leaf_ok (fr_push)) (mt_leaf_ok (trivial)))))) (mt_node_ok (mt_node_ok (mt_node_ok (mt_leaf_ok (fr_aload)) (mt_node_ok (mt_leaf_ok (fr_push)) (mt_leaf_ok ((fr_put (by decide)))))) (mt_node_ok (mt_leaf_ok (fr_aload)) (mt_node_ok (mt_leaf_ok (fr_aload)) (mt_leaf_ok (fr_aload))))) (mt_node_ok (mt_node_ok (mt_leaf_ok (fr_get)) (mt_node_ok (mt_leaf_ok (fr_push)) (mt_leaf_ok (fr_bin)))) (mt_node_ok (mt_leaf_ok (rfl)) (mt_node_ok (mt_leaf_ok ((fr_put (by decide)))) (mt_leaf_ok (fr_push))))))) (mt_node_ok (mt_node_ok (mt_node_ok (mt_node_ok (mt_leaf_ok (trivial)) (mt_node_ok (mt_leaf_ok (fr_aload)) (mt_leaf_ok (fr_aload)))) (mt_node_ok (mt_leaf_ok (fr_aload)) (mt_node_ok (mt_leaf_ok (fr_get)) (mt_leaf_ok (fr_push))))) (mt_node_ok (mt_node_ok (mt_leaf_ok (fr_bin)) (mt_node_ok (mt_leaf_ok (rfl)) (mt_leaf_ok (fr_un)))) (mt_node_ok (mt_leaf_ok ((fr_put (by decide)))) (mt_node_ok (mt_leaf_ok (fr_aload)) (mt_leaf_ok (fr_aload)))))) (mt_node_ok (mt_node_ok (mt_node_ok (mt_leaf_ok (fr_aload)) (mt_node_ok (mt_leaf_ok (fr_get)) (mt_leaf_ok (fr_push)))) (mt_node_ok (mt_leaf_ok (fr_bin)) (mt_node_ok (mt_leaf_ok (rfl)) (mt_leaf_ok (rfl))))) (mt_node_ok (mt_node_ok (mt_leaf_ok (trivial)) (mt_node_ok (mt_leaf_ok (fr_aload)) (mt_leaf_ok (fr_aload)))) (mt_node_ok (mt_leaf_ok (fr_aload)) (mt_node_ok (mt_leaf_ok (fr_get)) (mt_leaf_ok (fr_push)))))))
theorem fz_87_3 {g : xe_G} : mt_all (frP [5] fzS) (mb_87_3 g) := mt_node_ok (mt_node_ok (mt_node_ok (mt_node_ok (mt_leaf_ok (fr_bin)) (mt_leaf_ok (rfl))) (mt_node_ok (mt_leaf_ok (fr_push)) (mt_leaf_ok (rfl)))) (mt_node_ok (mt_node_ok (mt_leaf_ok (trivial)) (mt_leaf_ok (fr_aload))) (mt_node_ok (mt_leaf_ok (fr_aload)) (mt_node_ok (mt_leaf_ok (fr_aload)) (mt_leaf_ok (fr_get)))))) (mt_node_ok (mt_node_ok (mt_node_ok (mt_leaf_ok (fr_push)) (mt_leaf_ok (fr_bin))) (mt_node_ok (mt_leaf_ok (rfl)) (mt_leaf_ok (fr_push)))) (mt_node_ok (mt_node_ok (mt_leaf_ok (rfl)) (mt_leaf_ok (trivial))) (mt_node_ok (mt_leaf_ok (fr_aload)) (mt_node_ok (mt_leaf_ok (rfl)) (mt_leaf_ok (trivial))))))
theorem fz_87 {g : xe_G} : mt_all (frP [5] fzS) (mb_87 g).2.1 := mt_node_ok (mt_node_ok ((fz_87_0 (g := g))) ((fz_87_1 (g := g)))) (mt_node_ok ((fz_87_2 (g := g))) ((fz_87_3 (g := g))))
theorem fz_88_0 {g : xe_G} : mt_all (frP [5] fzS) (mb_88_0 g) := mt_node_ok (mt_node_ok (mt_node_ok (mt_node_ok (mt_node_ok (mt_leaf_ok (fr_aload)) (mt_node_ok (mt_leaf_ok (fr_get)) (mt_leaf_ok (fr_push)))) (mt_node_ok (mt_leaf_ok (fr_if2)) (mt_node_ok (mt_leaf_ok (fr_push)) (mt_leaf_ok (trivial))))) (mt_node_ok (mt_node_ok (mt_leaf_ok (fr_aload)) (mt_node_ok (mt_leaf_ok (fr_aload)) (mt_leaf_ok (fr_aload)))) (mt_node_ok (mt_leaf_ok (fr_get)) (mt_node_ok (mt_leaf_ok (fr_push)) (mt_leaf_ok (fr_bin)))))) (mt_node_ok (mt_node_ok (mt_node_ok (mt_leaf_ok (rfl)) (mt_node_ok (mt_leaf_ok ((fr_put (by decide)))) (mt_leaf_ok (fr_aload)))) (mt_node_ok (mt_leaf_ok (fr_get)) (mt_node_ok (mt_leaf_ok (fr_sw)) (mt_leaf_ok (fr_aload))))) (mt_node_ok (mt_node_ok (mt_leaf_ok (fr_aload)) (mt_node_ok (mt_leaf_ok (fr_aload)) (mt_leaf_ok (fr_get)))) (mt_node_ok (mt_leaf_ok (fr_push)) (mt_node_ok (mt_leaf_ok (fr_bin)) (mt_leaf_ok (rfl))))))) (mt_node_ok (mt_node_ok (mt_node_ok (mt_node_ok (mt_leaf_ok ((fr_put (by decide)))) (mt_node_ok (mt_leaf_ok (fr_push)) (mt_leaf_ok (trivial)))) (mt_node_ok (mt_leaf_ok (fr_aload)) (mt_node_ok (mt_leaf_ok (fr_aload)) (mt_leaf_ok (fr_aload))))) (mt_node_ok (mt_node_ok (mt_leaf_ok (fr_get)) (mt_node_ok (mt_leaf_ok (fr_push)) (mt_leaf_ok (fr_bin)))) (mt_node_ok (mt_leaf_ok (rfl)) (mt_node_ok (mt_leaf_ok ((fr_put (by decide)))) (mt_leaf_ok (fr_aload)))))) (mt_node_ok (mt_node_ok (mt_node_ok (mt_leaf_ok (fr_aload)) (mt_node_ok (mt_leaf_ok (fr_get)) (mt_leaf_ok (fr_push)))) (mt_node_ok (mt_leaf_ok (fr_bin)) (mt_node_ok (mt_leaf_ok (rfl)) (mt_leaf_ok (fr_if))))) (mt_node_ok (mt_node_ok (mt_leaf_ok (fr_push)) (mt_node_ok (mt_leaf_ok (fr_goto)) (mt_leaf_ok (fr_push)))) (mt_node_ok (mt_leaf_ok (trivial)) (mt_node_ok (mt_leaf_ok (fr_aload)) (mt_leaf_ok (fr_aload)))))))
theorem fz_88_1 {g : xe_G} : mt_all (frP [5] fzS) (mb_88_1 g) := mt_node_ok (mt_node_ok (mt_node_ok (mt_leaf_ok (fr_get)) (mt_leaf_ok (fr_push))) (mt_node_ok (mt_leaf_ok (fr_bin)) (mt_node_ok (mt_leaf_ok (rfl)) (mt_leaf_ok (fr_if))))) (mt_node_ok (mt_node_ok (mt_leaf_ok (fr_push)) (mt_node_ok (mt_leaf_ok (fr_goto)) (mt_leaf_ok (fr_push)))) (mt_node_ok (mt_leaf_ok (trivial)) (mt_node_ok (mt_leaf_ok (fr_push)) (mt_leaf_ok (trivial)))))
theorem fz_88 {g : xe_G} : mt_all (frP [5] fzS) (mb_88 g).2.1 := mt_node_ok ((fz_88_0 (g := g))) ((fz_88_1 (g := g)))
theorem fz_90_0 {g : xe_G} : mt_all (frP [5] fzS) (mb_90_0 g) := mt_node_ok (mt_node_ok (mt_node_ok (mt_leaf_ok (fr_aload)) (mt_leaf_ok (fr_iload))) (mt_node_ok (mt_leaf_ok ((fr_put (by decide)))) (mt_node_ok (mt_leaf_ok (fr_aload)) (mt_leaf_ok (fr_iload))))) (mt_node_ok (mt_node_ok (mt_leaf_ok ((fr_put (by decide)))) (mt_node_ok (mt_leaf_ok (fr_aload)) (mt_leaf_ok (fr_push)))) (mt_node_ok (mt_leaf_ok ((fr_put (by decide)))) (mt_node_ok (mt_leaf_ok (fr_push)) (mt_leaf_ok (trivial)))))
theorem fz_90 {g : xe_G} : mt_all (frP [5] fzS) (mb_90 g).2.1 := (fz_90_0 (g := g))
theorem fz_91_0 {g : xe_G} : mt_all (frP [5] fzS) (mb_91_0 g) := mt_node_ok (mt_node_ok (mt_node_ok (mt_node_ok (mt_leaf_ok (fr_iload)) (mt_leaf_ok (fr_push))) (mt_node_ok (mt_leaf_ok (fr_if2)) (mt_leaf_ok (fr_iload)))) (mt_node_ok (mt_node_ok (mt_leaf_ok (fr_push)) (mt_leaf_ok (fr_if2))) (mt_node_ok (mt_leaf_ok (fr_iload)) (mt_node_ok (mt_leaf_ok (fr_push)) (mt_leaf_ok (fr_if2)))))) (mt_node_ok (mt_node_ok (mt_node_ok (mt_leaf_ok (fr_iload)) (mt_leaf_ok (fr_push))) (mt_node_ok (mt_leaf_ok (fr_if2)) (mt_node_ok (mt_leaf_ok (fr_iload)) (mt_leaf_ok (fr_push))))) (mt_node_ok (mt_node_ok (mt_leaf_ok (fr_if2)) (mt_leaf_ok (fr_push))) (mt_node_ok (mt_leaf_ok (fr_goto)) (mt_node_ok (mt_leaf_ok (fr_push)) (mt_leaf_ok (trivial))))))
theorem fz_91 {g : xe_G} : mt_all (frP [5] fzS) (mb_91 g).2.1 := (fz_91_0 (g := g))
theorem fz_92_0 {g : xe_G} : mt_all (frP [5] fzS) (mb_92_0 g) := mt_node_ok (mt_node_ok (mt_node_ok (mt_node_ok (mt_node_ok (mt_leaf_ok (fr_aload)) (mt_leaf_ok (fr_get))) (mt_node_ok (mt_leaf_ok (fr_push)) (mt_leaf_ok (fr_if2)))) (mt_node_ok (mt_node_ok (mt_leaf_ok (fr_aload)) (mt_leaf_ok (fr_get))) (mt_node_ok (mt_leaf_ok (fr_push)) (mt_leaf_ok (fr_if2))))) (mt_node_ok (mt_node_ok (mt_node_ok (mt_leaf_ok (fr_aload)) (mt_leaf_ok (fr_get))) (mt_node_ok (mt_leaf_ok (fr_push)) (mt_leaf_ok (fr_if2)))) (mt_node_ok (mt_node_ok (mt_leaf_ok (fr_aload)) (mt_leaf_ok (fr_get))) (mt_node_ok (mt_leaf_ok (fr_push)) (mt_leaf_ok (fr_if2)))))) (mt_node_ok (mt_node_ok (mt_node_ok (mt_node_ok (mt_leaf_ok (fr_push)) (mt_leaf_ok (fr_goto))) (mt_node_ok (mt_leaf_ok (fr_push)) (mt_leaf_ok (fr_isto)))) (mt_node_ok (mt_node_ok (mt_leaf_ok (fr_aload)) (mt_leaf_ok (fr_iload))) (mt_node_ok (mt_leaf_ok (fr_if)) (mt_leaf_ok (fr_push))))) (mt_node_ok (mt_node_ok (mt_node_ok (mt_leaf_ok (fr_goto)) (mt_leaf_ok (fr_push))) (mt_node_ok (mt_leaf_ok ((fr_put (by decide)))) (mt_leaf_ok (fr_aload)))) (mt_node_ok (mt_node_ok (mt_leaf_ok (fr_iload)) (mt_leaf_ok ((fr_put (by decide))))) (mt_node_ok (mt_leaf_ok (fr_push)) (mt_leaf_ok (trivial))))))
theorem fz_92 {g : xe_G} : mt_all (frP [5] fzS) (mb_92 g).2.1 := (fz_92_0 (g := g))
theorem fz_93_0 {g : xe_G} : mt_all (frP [5] fzS) (mb_93_0 g) := mt_node_ok (mt_node_ok (mt_node_ok (mt_node_ok (mt_node_ok (mt_leaf_ok (fr_aload)) (mt_node_ok (mt_leaf_ok (fr_get)) (mt_leaf_ok (fr_aload)))) (mt_node_ok (mt_leaf_ok (fr_get)) (mt_node_ok (mt_leaf_ok (fr_bin)) (mt_leaf_ok (fr_push))))) (mt_node_ok (mt_node_ok (mt_leaf_ok (fr_if2)) (mt_node_ok (mt_leaf_ok (fr_push)) (mt_leaf_ok (trivial)))) (mt_node_ok (mt_leaf_ok (fr_aload)) (mt_node_ok (mt_leaf_ok (fr_aload)) (mt_leaf_ok (fr_aload)))))) (mt_node_ok (mt_node_ok (mt_node_ok (mt_leaf_ok (fr_get)) (mt_node_ok (mt_leaf_ok (fr_push)) (mt_leaf_ok (fr_bin)))) (mt_node_ok (mt_leaf_ok (rfl)) (mt_node_ok (mt_leaf_ok ((fr_put (by decide)))) (mt_leaf_ok (fr_aload))))) (mt_node_ok (mt_node_ok (mt_leaf_ok (fr_get)) (mt_node_ok (mt_leaf_ok (fr_if)) (mt_leaf_ok (fr_aload)))) (mt_node_ok (mt_leaf_ok (fr_get)) (mt_node_ok (mt_leaf_ok (fr_aload)) (mt_leaf_ok (fr_get))))))) (mt_node_ok (mt_node_ok (mt_node_ok (mt_node_ok (mt_leaf_ok (fr_aload)) (mt_node_ok (mt_leaf_ok (fr_get)) (mt_leaf_ok (fr_bin)))) (mt_node_ok (mt_leaf_ok (fr_push)) (mt_node_ok (mt_leaf_ok (fr_bin)) (mt_leaf_ok (fr_push))))) (mt_node_ok (mt_node_ok (mt_leaf_ok (fr_div)) (mt_node_ok (mt_leaf_ok (fr_if2)) (mt_leaf_ok (fr_push)))) (mt_node_ok (mt_leaf_ok (trivial)) (mt_node_ok (mt_leaf_ok (fr_aload)) (mt_leaf_ok (fr_aload)))))) (mt_node_ok (mt_node_ok (mt_node_ok (mt_leaf_ok (fr_get)) (mt_node_ok (mt_leaf_ok (fr_push)) (mt_leaf_ok (fr_bin)))) (mt_node_ok (mt_leaf_ok ((fr_put (by decide)))) (mt_node_ok (mt_leaf_ok (fr_aload)) (mt_leaf_ok (fr_aload))))) (mt_node_ok (mt_node_ok (mt_leaf_ok (fr_get)) (mt_node_ok (mt_leaf_ok (fr_push)) (mt_leaf_ok (fr_bin)))) (mt_node_ok (mt_leaf_ok (fr_push)) (mt_node_ok (mt_leaf_ok (fr_aload)) (mt_leaf_ok (fr_get)))))))
theorem fz_93_1 {g : xe_G} : mt_all (frP [5] fzS) (mb_93_1 g) := mt_node_ok (mt_node_ok (mt_node_ok (mt_node_ok (mt_leaf_ok (fr_bin)) (mt_node_ok (mt_leaf_ok (fr_bin)) (mt_leaf_ok (fr_aload)))) (mt_node_ok (mt_leaf_ok (fr_get)) (mt_node_ok (mt_leaf_ok (fr_bin)) (mt_leaf_ok ((fr_put (by decide))))))) (mt_node_ok (mt_node_ok (mt_leaf_ok (fr_push)) (mt_node_ok (mt_leaf_ok (fr_isto)) (mt_leaf_ok (fr_iload)))) (mt_node_ok (mt_node_ok (mt_leaf_ok (fr_aload)) (mt_leaf_ok (fr_get))) (mt_node_ok (mt_leaf_ok (fr_if2)) (mt_leaf_ok (fr_aload)))))) (mt_node_ok (mt_node_ok (mt_node_ok (mt_leaf_ok (fr_iload)) (mt_node_ok (mt_leaf_ok (fr_push)) (mt_leaf_ok (fr_bin)))) (mt_node_ok (mt_node_ok (mt_leaf_ok (rfl)) (mt_leaf_ok (fr_aload))) (mt_node_ok (mt_leaf_ok (fr_iload)) (mt_leaf_ok (rfl))))) (mt_node_ok (mt_node_ok (mt_leaf_ok (fr_if2)) (mt_node_ok (mt_leaf_ok (fr_push)) (mt_leaf_ok (trivial)))) (mt_node_ok (mt_node_ok (mt_leaf_ok (fr_iinc)) (mt_leaf_ok (fr_goto))) (mt_node_ok (mt_leaf_ok (fr_push)) (mt_leaf_ok (trivial))))))
theorem fz_93 {g : xe_G} : mt_all (frP [5] fzS) (mb_93 g).2.1 := mt_node_ok ((fz_93_0 (g := g))) ((fz_93_1 (g := g)))
theorem fz_94_0 {g : xe_G} : mt_all (frP [5] fzS) (mb_94_0 g) := mt_node_ok (mt_node_ok (mt_node_ok (mt_leaf_ok (fr_aload)) (mt_node_ok (mt_leaf_ok (fr_iload)) (mt_leaf_ok (fr_iload)))) (mt_node_ok (mt_leaf_ok (fr_push)) (mt_node_ok (mt_leaf_ok (fr_div)) (mt_leaf_ok (fr_bin))))) (mt_node_ok (mt_node_ok (mt_leaf_ok ((fr_put (by decide)))) (mt_node_ok (mt_leaf_ok (fr_aload)) (mt_leaf_ok (fr_iload)))) (mt_node_ok (mt_node_ok (mt_leaf_ok (fr_push)) (mt_leaf_ok (fr_div))) (mt_node_ok (mt_leaf_ok (rfl)) (mt_leaf_ok (trivial)))))
theorem fz_94 {g : xe_G} : mt_all (frP [5] fzS) (mb_94 g).2.1 := (fz_94_0 (g := g))
theorem fz_95_0 {g : xe_G} : mt_all (frP [5] fzS) (mb_95_0 g) := mt_node_ok (mt_node_ok (mt_node_ok (mt_leaf_ok (fr_aload)) (mt_node_ok (mt_leaf_ok (fr_get)) (mt_leaf_ok (fr_push)))) (mt_node_ok (mt_leaf_ok (fr_if2)) (mt_node_ok (mt_leaf_ok (fr_aload)) (mt_leaf_ok (fr_get))))) (mt_node_ok (mt_node_ok (mt_leaf_ok (fr_push)) (mt_node_ok (mt_leaf_ok (fr_if2)) (mt_leaf_ok (fr_push)))) (mt_node_ok (mt_leaf_ok (fr_goto)) (mt_node_ok (mt_leaf_ok (fr_push)) (mt_leaf_ok (trivial)))))
theorem fz_95 {g : xe_G} : mt_all (frP [5] fzS) (mb_95 g).2.1 := (fz_95_0 (g := g))
theorem fz_96_0 {g : xe_G} : mt_all (frP [5] fzS) (mb_96_0 g) := mt_node_ok (mt_node_ok (mt_node_ok (mt_node_ok (mt_node_ok (mt_leaf_ok (fr_aload)) (mt_leaf_ok (fr_aload))) (mt_node_ok (mt_leaf_ok (fr_get)) (mt_leaf_ok (fr_push)))) (mt_node_ok (mt_node_ok (mt_leaf_ok (fr_bin)) (mt_leaf_ok (fr_push))) (mt_node_ok (mt_leaf_ok (fr_bin)) (mt_leaf_ok ((fr_put (by decide))))))) (mt_node_ok (mt_node_ok (mt_node_ok (mt_leaf_ok (fr_aload)) (mt_leaf_ok (fr_get))) (mt_node_ok (mt_leaf_ok (fr_push)) (mt_leaf_ok (fr_bin)))) (mt_node_ok (mt_node_ok (mt_leaf_ok (fr_isto)) (mt_leaf_ok (fr_iload))) (mt_node_ok (mt_leaf_ok (fr_aload)) (mt_node_ok (mt_leaf_ok (fr_get)) (mt_leaf_ok (fr_if2))))))) (mt_node_ok (mt_node_ok (mt_node_ok (mt_node_ok (mt_leaf_ok (fr_aload)) (mt_leaf_ok (fr_iload))) (mt_node_ok (mt_leaf_ok (rfl)) (mt_leaf_ok (fr_if)))) (mt_node_ok (mt_node_ok (mt_leaf_ok (fr_push)) (mt_leaf_ok (trivial))) (mt_node_ok (mt_leaf_ok (fr_iinc)) (mt_node_ok (mt_leaf_ok (fr_goto)) (mt_leaf_ok (fr_aload)))))) (mt_node_ok (mt_node_ok (mt_node_ok (mt_leaf_ok (fr_get)) (mt_leaf_ok (fr_push))) (mt_node_ok (mt_leaf_ok (fr_if2)) (mt_leaf_ok (fr_aload)))) (mt_node_ok (mt_node_ok (mt_leaf_ok (rfl)) (mt_leaf_ok (fr_goto))) (mt_node_ok (mt_leaf_ok (fr_aload)) (mt_node_ok (mt_leaf_ok (rfl)) (mt_leaf_ok (trivial)))))))
theorem fz_96 {g : xe_G} : mt_all (frP [5] fzS) (mb_96 g).2.1 := (fz_96_0 (g := g))
theorem fz_97_0 {g : xe_G} : mt_all (frP [5] fzS) (mb_97_0 g) := mt_node_ok (mt_node_ok (mt_node_ok (mt_node_ok (mt_node_ok (mt_leaf_ok (fr_aload)) (mt_node_ok (mt_leaf_ok (fr_get)) (mt_leaf_ok (fr_aload)))) (mt_node_ok (mt_leaf_ok (fr_get)) (mt_node_ok (mt_leaf_ok (fr_bin)) (mt_leaf_ok (fr_push))))) (mt_node_ok (mt_node_ok (mt_leaf_ok (fr_if2)) (mt_node_ok (mt_leaf_ok (fr_push)) (mt_leaf_ok (trivial)))) (mt_node_ok (mt_leaf_ok (fr_aload)) (mt_node_ok (mt_leaf_ok (fr_aload)) (mt_leaf_ok (fr_aload)))))) (mt_node_ok (mt_node_ok (mt_node_ok (mt_leaf_ok (fr_get)) (mt_node_ok (mt_leaf_ok (fr_push)) (mt_leaf_ok (fr_bin)))) (mt_node_ok (mt_leaf_ok (rfl)) (mt_node_ok (mt_leaf_ok ((fr_put (by decide)))) (mt_leaf_ok (fr_aload))))) (mt_node_ok (mt_node_ok (mt_leaf_ok (fr_aload)) (mt_node_ok (mt_leaf_ok (fr_aload)) (mt_leaf_ok (fr_get)))) (mt_node_ok (mt_leaf_ok (fr_push)) (mt_node_ok (mt_leaf_ok (fr_bin)) (mt_leaf_ok (rfl))))))) (mt_node_ok (mt_node_ok (mt_node_ok (mt_node_ok (mt_leaf_ok ((fr_put (by decide)))) (mt_node_ok (mt_leaf_ok (fr_aload)) (mt_leaf_ok (fr_get)))) (mt_node_ok (mt_leaf_ok (fr_i2l)) (mt_node_ok (mt_leaf_ok (fr_aload)) (mt_leaf_ok (fr_get))))) (mt_node_ok (mt_node_ok (mt_leaf_ok (fr_i2l)) (mt_node_ok (mt_leaf_ok (fr_binL)) (mt_leaf_ok (fr_push)))) (mt_node_ok (mt_leaf_ok (fr_binL)) (mt_node_ok (mt_leaf_ok (fr_lsto)) (mt_leaf_ok (fr_lload)))))) (mt_node_ok (mt_node_ok (mt_node_ok (mt_leaf_ok (fr_push)) (mt_node_ok (mt_leaf_ok (fr_lcmp)) (mt_leaf_ok (fr_if)))) (mt_node_ok (mt_leaf_ok (fr_lload)) (mt_node_ok (mt_leaf_ok (fr_push)) (mt_leaf_ok (fr_binL))))) (mt_node_ok (mt_node_ok (mt_leaf_ok (fr_aload)) (mt_node_ok (mt_leaf_ok (fr_get)) (mt_leaf_ok (fr_aload)))) (mt_node_ok (mt_leaf_ok (fr_get)) (mt_node_ok (mt_leaf_ok (fr_bin)) (mt_leaf_ok (fr_push)))))))
theorem fz_97_1 {g : xe_G} : mt_all (frP [5] fzS) (mb_97_1 g) := mt_node_ok (mt_node_ok (mt_node_ok (mt_node_ok (mt_leaf_ok (fr_bin)) (mt_node_ok (mt_leaf_ok (fr_i2l)) (mt_leaf_ok (fr_lcmp)))) (mt_node_ok (mt_node_ok (mt_leaf_ok (fr_if)) (mt_leaf_ok (fr_push))) (mt_node_ok (mt_leaf_ok (trivial)) (mt_leaf_ok (fr_aload))))) (mt_node_ok (mt_node_ok (mt_leaf_ok (fr_lload)) (mt_node_ok (mt_leaf_ok (fr_l2i)) (mt_leaf_ok (fr_push)))) (mt_node_ok (mt_node_ok (mt_leaf_ok (fr_bin)) (mt_leaf_ok ((fr_put (by decide))))) (mt_node_ok (mt_leaf_ok (fr_aload)) (mt_leaf_ok (fr_aload)))))) (mt_node_ok (mt_node_ok (mt_node_ok (mt_leaf_ok (fr_get)) (mt_node_ok (mt_leaf_ok (fr_push)) (mt_leaf_ok (fr_bin)))) (mt_node_ok (mt_node_ok (mt_leaf_ok (fr_push)) (mt_leaf_ok (fr_lload))) (mt_node_ok (mt_leaf_ok (fr_l2i)) (mt_leaf_ok (fr_bin))))) (mt_node_ok (mt_node_ok (mt_leaf_ok (fr_bin)) (mt_node_ok (mt_leaf_ok (fr_aload)) (mt_leaf_ok (fr_get)))) (mt_node_ok (mt_node_ok (mt_leaf_ok (fr_bin)) (mt_leaf_ok ((fr_put (by decide))))) (mt_node_ok (mt_leaf_ok (fr_push)) (mt_leaf_ok (trivial))))))
theorem fz_97 {g : xe_G} : mt_all (frP [5] fzS) (mb_97 g).2.1 := mt_node_ok ((fz_97_0 (g := g))) ((fz_97_1 (g := g)))
theorem fz_98_0 {g : xe_G} : mt_all (frP [5] fzS) (mb_98_0 g) := mt_node_ok (mt_node_ok (mt_node_ok (mt_node_ok (mt_node_ok (mt_leaf_ok (fr_aload)) (mt_node_ok (mt_leaf_ok (fr_iload)) (mt_leaf_ok ((fr_put (by decide)))))) (mt_node_ok (mt_leaf_ok (fr_aload)) (mt_node_ok (mt_leaf_ok (fr_aload)) (mt_leaf_ok (fr_iload))))) (mt_node_ok (mt_node_ok (mt_leaf_ok (rfl)) (mt_node_ok (mt_leaf_ok ((fr_put (by decide)))) (mt_leaf_ok (fr_aload)))) (mt_node_ok (mt_leaf_ok (fr_push)) (mt_node_ok (mt_leaf_ok ((fr_put (by decide)))) (mt_leaf_ok (fr_aload)))))) (mt_node_ok (mt_node_ok (mt_node_ok (mt_leaf_ok (fr_push)) (mt_node_ok (mt_leaf_ok ((fr_put (by decide)))) (mt_leaf_ok (fr_aload)))) (mt_node_ok (mt_leaf_ok (fr_push)) (mt_node_ok (mt_leaf_ok ((fr_put (by decide)))) (mt_leaf_ok (fr_aload))))) (mt_node_ok (mt_node_ok (mt_leaf_ok (fr_push)) (mt_node_ok (mt_leaf_ok ((fr_put (by decide)))) (mt_leaf_ok (fr_aload)))) (mt_node_ok (mt_leaf_ok (fr_push)) (mt_node_ok (mt_leaf_ok ((fr_put (by decide)))) (mt_leaf_ok (fr_iload))))))) (mt_node_ok (mt_node_ok (mt_node_ok (mt_node_ok (mt_leaf_ok (fr_if)) (mt_node_ok (mt_leaf_ok (fr_iload)) (mt_leaf_ok (fr_aload)))) (mt_node_ok (mt_leaf_ok (fr_get)) (mt_node_ok (mt_leaf_ok (fr_if2)) (mt_leaf_ok (fr_aload))))) (mt_node_ok (mt_node_ok (mt_leaf_ok (fr_get)) (mt_node_ok (mt_leaf_ok (fr_push)) (mt_leaf_ok (fr_if2)))) (mt_node_ok (mt_leaf_ok (fr_push)) (mt_node_ok (mt_leaf_ok (trivial)) (mt_leaf_ok (fr_aload)))))) (mt_node_ok (mt_node_ok (mt_node_ok (mt_leaf_ok (rfl)) (mt_node_ok (mt_leaf_ok (fr_if)) (mt_leaf_ok (fr_aload)))) (mt_node_ok (mt_leaf_ok (rfl)) (mt_node_ok (mt_leaf_ok (trivial)) (mt_leaf_ok (fr_aload))))) (mt_node_ok (mt_node_ok (mt_leaf_ok (fr_get)) (mt_node_ok (mt_leaf_ok (fr_push)) (mt_leaf_ok (fr_if2)))) (mt_node_ok (mt_leaf_ok (fr_aload)) (mt_node_ok (mt_leaf_ok (rfl)) (mt_leaf_ok (trivial)))))))
theorem fz_98_1 {g : xe_G} : mt_all (frP [5] fzS) (mb_98_1 g) := mt_node_ok (mt_node_ok (mt_node_ok (mt_node_ok (mt_leaf_ok (fr_aload)) (mt_leaf_ok (fr_aload))) (mt_node_ok (mt_leaf_ok (fr_get)) (mt_node_ok (mt_leaf_ok (rfl)) (mt_leaf_ok ((fr_put (by decide))))))) (mt_node_ok (mt_node_ok (mt_leaf_ok (fr_aload)) (mt_leaf_ok (fr_get))) (mt_node_ok (mt_leaf_ok (fr_aload)) (mt_node_ok (mt_leaf_ok (fr_get)) (mt_leaf_ok (fr_aload)))))) (mt_node_ok (mt_node_ok (mt_node_ok (mt_leaf_ok (fr_get)) (mt_leaf_ok (fr_bin))) (mt_node_ok (mt_leaf_ok (fr_if2)) (mt_node_ok (mt_leaf_ok (fr_aload)) (mt_leaf_ok (rfl))))) (mt_node_ok (mt_node_ok (mt_leaf_ok (fr_if)) (mt_leaf_ok (fr_push))) (mt_node_ok (mt_leaf_ok (fr_goto)) (mt_node_ok (mt_leaf_ok (fr_push)) (mt_leaf_ok (trivial))))))
theorem fz_98 {g : xe_G} : mt_all (frP [5] fzS) (mb_98 g).2.1 := mt_node_ok ((fz_98_0 (g := g))) ((fz_98_1 (g := g)))
theorem fz_99_0 {g : xe_G} : mt_all (frP [5] fzS) (mb_99_0 g) := mt_node_ok (mt_node_ok (mt_node_ok (mt_node_ok (mt_node_ok (mt_leaf_ok (fr_aload)) (mt_node_ok (mt_leaf_ok (fr_get)) (mt_leaf_ok (fr_aload)))) (mt_node_ok (mt_leaf_ok (fr_get)) (mt_node_ok (mt_leaf_ok (fr_bin)) (mt_leaf_ok (fr_push))))) (mt_node_ok (mt_node_ok (mt_leaf_ok (fr_if2)) (mt_node_ok (mt_leaf_ok (fr_push)) (mt_leaf_ok (trivial)))) (mt_node_ok (mt_leaf_ok (fr_aload)) (mt_node_ok (mt_leaf_ok (fr_aload)) (mt_leaf_ok (fr_aload)))))) (mt_node_ok (mt_node_ok (mt_node_ok (mt_leaf_ok (fr_get)) (mt_node_ok (mt_leaf_ok (fr_push)) (mt_leaf_ok (fr_bin)))) (mt_node_ok (mt_leaf_ok (rfl)) (mt_node_ok (mt_leaf_ok ((fr_put (by decide)))) (mt_leaf_ok (fr_aload))))) (mt_node_ok (mt_node_ok (mt_leaf_ok (fr_get)) (mt_node_ok (mt_leaf_ok (fr_push)) (mt_leaf_ok (fr_if2)))) (mt_node_ok (mt_leaf_ok (fr_aload)) (mt_node_ok (mt_leaf_ok (fr_push)) (mt_leaf_ok ((fr_put (by decide))))))))) (mt_node_ok (mt_node_ok (mt_node_ok (mt_node_ok (mt_leaf_ok (fr_aload)) (mt_node_ok (mt_leaf_ok (fr_aload)) (mt_leaf_ok (fr_aload)))) (mt_node_ok (mt_leaf_ok (fr_get)) (mt_node_ok (mt_leaf_ok (fr_push)) (mt_leaf_ok (fr_bin))))) (mt_node_ok (mt_node_ok (mt_leaf_ok (rfl)) (mt_node_ok (mt_leaf_ok (fr_un)) (mt_leaf_ok ((fr_put (by decide)))))) (mt_node_ok (mt_leaf_ok (fr_goto)) (mt_node_ok (mt_leaf_ok (fr_aload)) (mt_leaf_ok (fr_push)))))) (mt_node_ok (mt_node_ok (mt_node_ok (mt_leaf_ok ((fr_put (by decide)))) (mt_node_ok (mt_leaf_ok (fr_aload)) (mt_leaf_ok (fr_get)))) (mt_node_ok (mt_leaf_ok (fr_aload)) (mt_node_ok (mt_leaf_ok (fr_get)) (mt_leaf_ok (fr_aload))))) (mt_node_ok (mt_node_ok (mt_leaf_ok (fr_get)) (mt_node_ok (mt_leaf_ok (fr_bin)) (mt_leaf_ok (fr_if2)))) (mt_node_ok (mt_leaf_ok (fr_aload)) (mt_node_ok (mt_leaf_ok (fr_get)) (mt_leaf_ok (fr_push)))))))
theorem fz_99_1 {g : xe_G} : mt_all (frP [5] fzS) (mb_99_1 g) := mt_node_ok (mt_node_ok (mt_node_ok (mt_node_ok (mt_leaf_ok (fr_if2)) (mt_leaf_ok (fr_aload))) (mt_node_ok (mt_leaf_ok (fr_get)) (mt_leaf_ok (rfl)))) (mt_node_ok (mt_node_ok (mt_leaf_ok (fr_if)) (mt_leaf_ok (fr_push))) (mt_node_ok (mt_leaf_ok (trivial)) (mt_leaf_ok (fr_aload))))) (mt_node_ok (mt_node_ok (mt_node_ok (mt_leaf_ok (fr_aload)) (mt_leaf_ok (fr_aload))) (mt_node_ok (mt_leaf_ok (fr_get)) (mt_leaf_ok (fr_push)))) (mt_node_ok (mt_node_ok (mt_leaf_ok (fr_bin)) (mt_leaf_ok (rfl))) (mt_node_ok (mt_leaf_ok (rfl)) (mt_leaf_ok (trivial)))))
theorem fz_99 {g : xe_G} : mt_all (frP [5] fzS) (mb_99 g).2.1 := mt_node_ok ((fz_99_0 (g := g))) ((fz_99_1 (g := g)))
theorem fz_100_0 {g : xe_G} : mt_all (frP [5] fzS) (mb_100_0 g) := mt_node_ok (mt_node_ok (mt_node_ok (mt_node_ok (mt_leaf_ok (fr_iload)) (mt_node_ok (mt_leaf_ok (fr_if)) (mt_leaf_ok (fr_push)))) (mt_node_ok (mt_leaf_ok (trivial)) (mt_node_ok (mt_leaf_ok (fr_aload)) (mt_leaf_ok (fr_get))))) (mt_node_ok (mt_node_ok (mt_leaf_ok (fr_push)) (mt_node_ok (mt_leaf_ok (fr_if2)) (mt_leaf_ok (fr_aload)))) (mt_node_ok (mt_leaf_ok (fr_get)) (mt_node_ok (mt_leaf_ok (fr_iload)) (mt_leaf_ok (fr_bin)))))) (mt_node_ok (mt_node_ok (mt_node_ok (mt_leaf_ok (fr_push)) (mt_node_ok (mt_leaf_ok (fr_bin)) (mt_leaf_ok (fr_goto)))) (mt_node_ok (mt_leaf_ok (fr_aload)) (mt_node_ok (mt_leaf_ok (fr_aload)) (mt_leaf_ok (fr_get))))) (mt_node_ok (mt_node_ok (mt_leaf_ok (fr_push)) (mt_node_ok (mt_leaf_ok (fr_iload)) (mt_leaf_ok (fr_bin)))) (mt_node_ok (mt_leaf_ok (fr_bin)) (mt_node_ok (mt_leaf_ok (rfl)) (mt_leaf_ok (trivial))))))
theorem fz_100 {g : xe_G} : mt_all (frP [5] fzS) (mb_100 g).2.1 := (fz_100_0 (g := g))
theorem fz_101_0 {g : xe_G} : mt_all (frP [5] fzS) (mb_101_0 g) := mt_node_ok (mt_node_ok (mt_node_ok (mt_leaf_ok (fr_aload)) (mt_leaf_ok (fr_get))) (mt_node_ok (mt_leaf_ok (fr_aload)) (mt_leaf_ok (fr_get)))) (mt_node_ok (mt_node_ok (mt_leaf_ok (fr_iload)) (mt_leaf_ok (fr_bin))) (mt_node_ok (mt_leaf_ok (rfl)) (mt_leaf_ok (trivial))))
theorem fz_101 {g : xe_G} : mt_all (frP [5] fzS) (mb_101 g).2.1 := (fz_101_0 (g := g))
theorem fz_102_0 {g : xe_G} : mt_all (frP [5] fzS) (mb_102_0 g) := mt_node_ok (mt_node_ok (mt_node_ok (mt_node_ok (mt_leaf_ok (fr_iload)) (mt_node_ok (mt_leaf_ok (fr_push)) (mt_leaf_ok (fr_if2)))) (mt_node_ok (mt_node_ok (mt_leaf_ok (fr_iload)) (mt_leaf_ok (fr_push))) (mt_node_ok (mt_leaf_ok (fr_if2)) (mt_leaf_ok (fr_iload))))) (mt_node_ok (mt_node_ok (mt_node_ok (mt_leaf_ok (fr_push)) (mt_leaf_ok (fr_if2))) (mt_node_ok (mt_leaf_ok (fr_iload)) (mt_leaf_ok (fr_push)))) (mt_node_ok (mt_node_ok (mt_leaf_ok (fr_if2)) (mt_leaf_ok (fr_push))) (mt_node_ok (mt_leaf_ok (trivial)) (mt_leaf_ok (fr_iload)))))) (mt_node_ok (mt_node_ok (mt_node_ok (mt_node_ok (mt_leaf_ok (rfl)) (mt_leaf_ok (fr_if))) (mt_node_ok (mt_leaf_ok (fr_push)) (mt_leaf_ok (trivial)))) (mt_node_ok (mt_node_ok (mt_leaf_ok (fr_iload)) (mt_leaf_ok (fr_sw))) (mt_node_ok (mt_leaf_ok (fr_push)) (mt_leaf_ok (trivial))))) (mt_node_ok (mt_node_ok (mt_node_ok (mt_leaf_ok (fr_push)) (mt_leaf_ok (trivial))) (mt_node_ok (mt_leaf_ok (fr_push)) (mt_leaf_ok (trivial)))) (mt_node_ok (mt_node_ok (mt_leaf_ok (fr_push)) (mt_leaf_ok (trivial))) (mt_node_ok (mt_leaf_ok (fr_push)) (mt_leaf_ok (trivial))))))
theorem fz_102 {g : xe_G} : mt_all (frP [5] fzS) (mb_102 g).2.1 := (fz_102_0 (g := g))
theorem fz_103_0 {g : xe_G} : mt_all (frP [5] fzS) (mb_103_0 g) := mt_node_ok (mt_node_ok (mt_node_ok (mt_node_ok (mt_node_ok (mt_leaf_ok (fr_aload)) (mt_node_ok (mt_leaf_ok (rfl)) (mt_leaf_ok (fr_if)))) (mt_node_ok (mt_leaf_ok (fr_aload)) (mt_node_ok (mt_leaf_ok (fr_get)) (mt_leaf_ok (fr_i2l))))) (mt_node_ok (mt_node_ok (mt_leaf_ok (fr_aload)) (mt_node_ok (mt_leaf_ok (fr_get)) (mt_leaf_ok (fr_i2l)))) (mt_node_ok (mt_leaf_ok (fr_binL)) (mt_node_ok (mt_leaf_ok (trivial)) (mt_leaf_ok (fr_iload)))))) (mt_node_ok (mt_node_ok (mt_node_ok (mt_leaf_ok (fr_if)) (mt_node_ok (mt_leaf_ok (fr_aload)) (mt_leaf_ok (fr_get)))) (mt_node_ok (mt_leaf_ok (fr_i2l)) (mt_node_ok (mt_leaf_ok (fr_aload)) (mt_leaf_ok (fr_aload))))) (mt_node_ok (mt_node_ok (mt_leaf_ok (fr_get)) (mt_node_ok (mt_leaf_ok (rfl)) (mt_leaf_ok (fr_i2l)))) (mt_node_ok (mt_leaf_ok (fr_binL)) (mt_node_ok (mt_leaf_ok (trivial)) (mt_leaf_ok (fr_aload))))))) (mt_node_ok (mt_node_ok (mt_node_ok (mt_node_ok (mt_leaf_ok (fr_get)) (mt_node_ok (mt_leaf_ok (fr_i2l)) (mt_leaf_ok (fr_aload)))) (mt_node_ok (mt_leaf_ok (fr_aload)) (mt_node_ok (mt_leaf_ok (fr_get)) (mt_leaf_ok (fr_push))))) (mt_node_ok (mt_node_ok (mt_leaf_ok (fr_if2)) (mt_node_ok (mt_leaf_ok (fr_aload)) (mt_leaf_ok (fr_get)))) (mt_node_ok (mt_leaf_ok (fr_push)) (mt_node_ok (mt_leaf_ok (fr_bin)) (mt_leaf_ok (fr_push)))))) (mt_node_ok (mt_node_ok (mt_node_ok (mt_leaf_ok (fr_iload)) (mt_node_ok (mt_leaf_ok (fr_bin)) (mt_leaf_ok (fr_bin)))) (mt_node_ok (mt_leaf_ok (fr_goto)) (mt_node_ok (mt_leaf_ok (fr_aload)) (mt_leaf_ok (fr_get))))) (mt_node_ok (mt_node_ok (mt_leaf_ok (fr_push)) (mt_node_ok (mt_leaf_ok (fr_bin)) (mt_leaf_ok (fr_push)))) (mt_node_ok (mt_leaf_ok (fr_iload)) (mt_node_ok (mt_leaf_ok (fr_bin)) (mt_leaf_ok (fr_bin)))))))
theorem fz_103_1 {g : xe_G} : mt_all (frP [5] fzS) (mb_103_1 g) := mt_node_ok (mt_node_ok (mt_leaf_ok (rfl)) (mt_leaf_ok (fr_i2l))) (mt_node_ok (mt_leaf_ok (fr_binL)) (mt_leaf_ok (trivial)))
theorem fz_103 {g : xe_G} : mt_all (frP [5] fzS) (mb_103 g).2.1 := mt_node_ok ((fz_103_0 (g := g))) ((fz_103_1 (g := g)))
theorem fz_104_0 {g : xe_G} : mt_all (frP [5] fzS) (mb_104_0 g) := mt_node_ok (mt_node_ok (mt_node_ok (mt_leaf_ok (fr_aload)) (mt_leaf_ok (fr_get))) (mt_node_ok (mt_leaf_ok (fr_aload)) (mt_leaf_ok (fr_get)))) (mt_node_ok (mt_node_ok (mt_leaf_ok (fr_iload)) (mt_leaf_ok (fr_bin))) (mt_node_ok (mt_leaf_ok (rfl)) (mt_leaf_ok (trivial))))
theorem fz_104 {g : xe_G} : mt_all (frP [5] fzS) (mb_104 g).2.1 := (fz_104_0 (g := g))
theorem fz_105_0 {g : xe_G} : mt_all (frP [5] fzS) (mb_105_0 g) := mt_node_ok (mt_node_ok (mt_node_ok (mt_leaf_ok (fr_aload)) (mt_leaf_ok (fr_get))) (mt_node_ok (mt_leaf_ok (fr_aload)) (mt_leaf_ok (fr_get)))) (mt_node_ok (mt_node_ok (mt_leaf_ok (fr_iload)) (mt_leaf_ok (fr_bin))) (mt_node_ok (mt_leaf_ok (rfl)) (mt_leaf_ok (trivial))))
theorem fz_105 {g : xe_G} : mt_all (frP [5] fzS) (mb_105 g).2.1 := (fz_105_0 (g := g))
theorem fz_112_0 {g : xe_G} : mt_all (frP [5] fzS) (mb_112_0 g) := mt_node_ok (mt_node_ok (mt_node_ok (mt_leaf_ok (fr_aload)) (mt_node_ok (mt_leaf_ok (fr_iload)) (mt_leaf_ok (rfl)))) (mt_node_ok (mt_leaf_ok (fr_if)) (mt_node_ok (mt_leaf_ok (fr_aload)) (mt_leaf_ok (fr_get))))) (mt_node_ok (mt_node_ok (mt_leaf_ok (fr_iload)) (mt_node_ok (mt_leaf_ok (fr_ald)) (mt_leaf_ok (fr_push)))) (mt_node_ok (mt_node_ok (mt_leaf_ok (fr_div)) (mt_leaf_ok (fr_goto))) (mt_node_ok (mt_leaf_ok (fr_push)) (mt_leaf_ok (trivial)))))
theorem fz_112 {g : xe_G} : mt_all (frP [5] fzS) (mb_112 g).2.1 := (fz_112_0 (g := g))
theorem fz_113_0 {g : xe_G} : mt_all (frP [5] fzS) (mb_113_0 g) := mt_node_ok (mt_node_ok (mt_node_ok (mt_node_ok (mt_leaf_ok (fr_aload)) (mt_node_ok (mt_leaf_ok (fr_iload)) (mt_leaf_ok (rfl)))) (mt_node_ok (mt_leaf_ok (fr_push)) (mt_node_ok (mt_leaf_ok (fr_if2)) (mt_leaf_ok (fr_iload))))) (mt_node_ok (mt_node_ok (mt_leaf_ok (fr_if)) (mt_node_ok (mt_leaf_ok (fr_iload)) (mt_leaf_ok (fr_aload)))) (mt_node_ok (mt_leaf_ok (fr_get)) (mt_node_ok (mt_leaf_ok (fr_iload)) (mt_leaf_ok (fr_ald)))))) (mt_node_ok (mt_node_ok (mt_node_ok (mt_leaf_ok (fr_if2)) (mt_node_ok (mt_leaf_ok (fr_push)) (mt_leaf_ok (fr_goto)))) (mt_node_ok (mt_leaf_ok (fr_aload)) (mt_node_ok (mt_leaf_ok (fr_get)) (mt_leaf_ok (fr_aload))))) (mt_node_ok (mt_node_ok (mt_leaf_ok (fr_get)) (mt_node_ok (mt_leaf_ok (fr_iload)) (mt_leaf_ok (fr_ald)))) (mt_node_ok (mt_node_ok (mt_leaf_ok (fr_iload)) (mt_leaf_ok (fr_bin))) (mt_node_ok (mt_leaf_ok (fr_ald)) (mt_leaf_ok (trivial))))))
theorem fz_113 {g : xe_G} : mt_all (frP [5] fzS) (mb_113 g).2.1 := (fz_113_0 (g := g))
theorem fz_115_0 {g : xe_G} : mt_all (frP [5] fzS) (mb_115_0 g) := mt_node_ok (mt_node_ok (mt_leaf_ok (fr_aload)) (mt_node_ok (mt_leaf_ok (fr_aload)) (mt_leaf_ok (fr_iload)))) (mt_node_ok (mt_leaf_ok (rfl)) (mt_node_ok (mt_leaf_ok (rfl)) (mt_leaf_ok (trivial))))
theorem fz_115 {g : xe_G} : mt_all (frP [5] fzS) (mb_115 g).2.1 := (fz_115_0 (g := g))
theorem fz_116_0 {g : xe_G} : mt_all (frP [5] fzS) (mb_116_0 g) := mt_node_ok (mt_node_ok (mt_node_ok (mt_node_ok (mt_leaf_ok (fr_aload)) (mt_node_ok (mt_leaf_ok (fr_iload)) (mt_leaf_ok (rfl)))) (mt_node_ok (mt_leaf_ok (fr_isto)) (mt_node_ok (mt_leaf_ok (fr_push)) (mt_leaf_ok (fr_isto))))) (mt_node_ok (mt_node_ok (mt_leaf_ok (fr_iload)) (mt_node_ok (mt_leaf_ok (fr_aload)) (mt_leaf_ok (fr_iload)))) (mt_node_ok (mt_node_ok (mt_leaf_ok (rfl)) (mt_leaf_ok (fr_if2))) (mt_node_ok (mt_leaf_ok (fr_aload)) (mt_leaf_ok (fr_get)))))) (mt_node_ok (mt_node_ok (mt_node_ok (mt_leaf_ok (fr_aload)) (mt_node_ok (mt_leaf_ok (fr_get)) (mt_leaf_ok (fr_iload)))) (mt_node_ok (mt_leaf_ok (fr_ald)) (mt_node_ok (mt_leaf_ok (fr_iload)) (mt_leaf_ok (fr_bin))))) (mt_node_ok (mt_node_ok (mt_leaf_ok (fr_ald)) (mt_node_ok (mt_leaf_ok (fr_push)) (mt_leaf_ok (fr_if2)))) (mt_node_ok (mt_node_ok (mt_leaf_ok (fr_iinc)) (mt_leaf_ok (fr_goto))) (mt_node_ok (mt_leaf_ok (fr_iload)) (mt_leaf_ok (trivial))))))
theorem fz_116 {g : xe_G} : mt_all (frP [5] fzS) (mb_116 g).2.1 := (fz_116_0 (g := g))
theorem fz_117_0 {g : xe_G} : mt_all (frP [5] fzS) (mb_117_0 g) := mt_node_ok (mt_node_ok (mt_node_ok (mt_node_ok (mt_leaf_ok (fr_iload)) (mt_leaf_ok (fr_if))) (mt_node_ok (mt_leaf_ok (fr_iload)) (mt_node_ok (mt_leaf_ok (fr_aload)) (mt_leaf_ok (fr_get))))) (mt_node_ok (mt_node_ok (mt_leaf_ok (fr_alen)) (mt_leaf_ok (fr_if2))) (mt_node_ok (mt_leaf_ok (fr_aload)) (mt_node_ok (mt_leaf_ok (fr_get)) (mt_leaf_ok (fr_iload)))))) (mt_node_ok (mt_node_ok (mt_node_ok (mt_leaf_ok (fr_ald)) (mt_leaf_ok (fr_push))) (mt_node_ok (mt_leaf_ok (fr_if2)) (mt_node_ok (mt_leaf_ok (fr_push)) (mt_leaf_ok (fr_goto))))) (mt_node_ok (mt_node_ok (mt_leaf_ok (fr_aload)) (mt_leaf_ok (fr_get))) (mt_node_ok (mt_leaf_ok (fr_iload)) (mt_node_ok (mt_leaf_ok (fr_ald)) (mt_leaf_ok (trivial))))))
theorem fz_117 {g : xe_G} : mt_all (frP [5] fzS) (mb_117 g).2.1 := (fz_117_0 (g := g))
theorem fz_122_0 {g : xe_G} : mt_all (frP [5] fzS) (mb_122_0 g) := mt_node_ok (mt_node_ok (mt_node_ok (mt_leaf_ok (fr_aload)) (mt_node_ok (mt_leaf_ok (fr_iload)) (mt_leaf_ok (rfl)))) (mt_node_ok (mt_node_ok (mt_leaf_ok (fr_push)) (mt_leaf_ok (fr_if2))) (mt_node_ok (mt_leaf_ok (fr_aload)) (mt_leaf_ok (fr_get))))) (mt_node_ok (mt_node_ok (mt_node_ok (mt_leaf_ok (fr_iload)) (mt_leaf_ok (fr_ald))) (mt_node_ok (mt_leaf_ok (fr_push)) (mt_leaf_ok (fr_if2)))) (mt_node_ok (mt_node_ok (mt_leaf_ok (fr_push)) (mt_leaf_ok (fr_goto))) (mt_node_ok (mt_leaf_ok (fr_push)) (mt_leaf_ok (trivial)))))
theorem fz_122 {g : xe_G} : mt_all (frP [5] fzS) (mb_122 g).2.1 := (fz_122_0 (g := g))
theorem fz_123_0 {g : xe_G} : mt_all (frP [5] fzS) (mb_123_0 g) := mt_node_ok (mt_node_ok (mt_node_ok (mt_node_ok (mt_leaf_ok (fr_aload)) (mt_leaf_ok (fr_iload))) (mt_node_ok (mt_leaf_ok (rfl)) (mt_leaf_ok (fr_push)))) (mt_node_ok (mt_node_ok (mt_leaf_ok (fr_if2)) (mt_leaf_ok (fr_aload))) (mt_node_ok (mt_leaf_ok (fr_aload)) (mt_node_ok (mt_leaf_ok (fr_get)) (mt_leaf_ok (fr_iload)))))) (mt_node_ok (mt_node_ok (mt_node_ok (mt_leaf_ok (fr_ald)) (mt_leaf_ok (fr_push))) (mt_node_ok (mt_leaf_ok (rfl)) (mt_leaf_ok (fr_push)))) (mt_node_ok (mt_node_ok (mt_leaf_ok (fr_if2)) (mt_leaf_ok (fr_push))) (mt_node_ok (mt_leaf_ok (fr_goto)) (mt_node_ok (mt_leaf_ok (fr_push)) (mt_leaf_ok (trivial))))))
theorem fz_123 {g : xe_G} : mt_all (frP [5] fzS) (mb_123 g).2.1 := (fz_123_0 (g := g))
theorem fz_128_0 {g : xe_G} : mt_all (frP [5] fzS) (mb_128_0 g) := mt_node_ok (mt_node_ok (mt_leaf_ok (fr_aload)) (mt_node_ok (mt_leaf_ok (fr_aload)) (mt_leaf_ok (fr_iload)))) (mt_node_ok (mt_leaf_ok (rfl)) (mt_node_ok (mt_leaf_ok (rfl)) (mt_leaf_ok (trivial))))
theorem fz_128 {g : xe_G} : mt_all (frP [5] fzS) (mb_128 g).2.1 := (fz_128_0 (g := g))
theorem fz_129_0 {g : xe_G} : mt_all (frP [5] fzS) (mb_129_0 g) := mt_node_ok (mt_node_ok (mt_leaf_ok (fr_aload)) (mt_node_ok (mt_leaf_ok (fr_aload)) (mt_leaf_ok (fr_iload)))) (mt_node_ok (mt_node_ok (mt_leaf_ok (rfl)) (mt_leaf_ok (fr_push))) (mt_node_ok (mt_leaf_ok (rfl)) (mt_leaf_ok (trivial))))
theorem fz_129 {g : xe_G} : mt_all (frP [5] fzS) (mb_129 g).2.1 := (fz_129_0 (g := g))
theorem fz_131_0 {g : xe_G} : mt_all (frP [5] fzS) (mb_131_0 g) := mt_node_ok (mt_node_ok (mt_node_ok (mt_node_ok (mt_leaf_ok (fr_aload)) (mt_leaf_ok (fr_iload))) (mt_node_ok (mt_leaf_ok (rfl)) (mt_node_ok (mt_leaf_ok (fr_push)) (mt_leaf_ok (fr_if2))))) (mt_node_ok (mt_node_ok (mt_leaf_ok (fr_aload)) (mt_leaf_ok (fr_get))) (mt_node_ok (mt_leaf_ok (fr_iload)) (mt_node_ok (mt_leaf_ok (fr_ald)) (mt_leaf_ok (fr_push)))))) (mt_node_ok (mt_node_ok (mt_node_ok (mt_leaf_ok (fr_if2)) (mt_leaf_ok (fr_push))) (mt_node_ok (mt_leaf_ok (trivial)) (mt_node_ok (mt_leaf_ok (fr_aload)) (mt_leaf_ok (fr_get))))) (mt_node_ok (mt_node_ok (mt_leaf_ok (fr_iload)) (mt_leaf_ok (fr_ald))) (mt_node_ok (mt_leaf_ok (fr_push)) (mt_node_ok (mt_leaf_ok (fr_div)) (mt_leaf_ok (trivial))))))
theorem fz_131 {g : xe_G} : mt_all (frP [5] fzS) (mb_131 g).2.1 := (fz_131_0 (g := g))
theorem fz_134_0 {g : xe_G} : mt_all (frP [5] fzS) (mb_134_0 g) := mt_node_ok (mt_node_ok (mt_node_ok (mt_node_ok (mt_leaf_ok (fr_iload)) (mt_leaf_ok (fr_if))) (mt_node_ok (mt_leaf_ok (fr_iload)) (mt_node_ok (mt_leaf_ok (fr_aload)) (mt_leaf_ok (fr_get))))) (mt_node_ok (mt_node_ok (mt_leaf_ok (fr_alen)) (mt_leaf_ok (fr_if2))) (mt_node_ok (mt_leaf_ok (fr_aload)) (mt_node_ok (mt_leaf_ok (fr_get)) (mt_leaf_ok (fr_iload)))))) (mt_node_ok (mt_node_ok (mt_node_ok (mt_leaf_ok (fr_ald)) (mt_leaf_ok (fr_push))) (mt_node_ok (mt_leaf_ok (fr_if2)) (mt_node_ok (mt_leaf_ok (fr_push)) (mt_leaf_ok (fr_goto))))) (mt_node_ok (mt_node_ok (mt_leaf_ok (fr_aload)) (mt_leaf_ok (fr_get))) (mt_node_ok (mt_leaf_ok (fr_iload)) (mt_node_ok (mt_leaf_ok (fr_ald)) (mt_leaf_ok (trivial))))))
theorem fz_134 {g : xe_G} : mt_all (frP [5] fzS) (mb_134 g).2.1 := (fz_134_0 (g := g))
theorem fz_138_0 {g : xe_G} : mt_all (frP [5] fzS) (mb_138_0 g) := mt_node_ok (mt_node_ok (mt_node_ok (mt_leaf_ok (fr_iload)) (mt_node_ok (mt_leaf_ok (fr_if)) (mt_leaf_ok (fr_iload)))) (mt_node_ok (mt_node_ok (mt_leaf_ok (fr_aload)) (mt_leaf_ok (fr_get))) (mt_node_ok (mt_leaf_ok (fr_alen)) (mt_leaf_ok (fr_if2))))) (mt_node_ok (mt_node_ok (mt_leaf_ok (fr_push)) (mt_node_ok (mt_leaf_ok (fr_goto)) (mt_leaf_ok (fr_aload)))) (mt_node_ok (mt_node_ok (mt_leaf_ok (fr_get)) (mt_leaf_ok (fr_iload))) (mt_node_ok (mt_leaf_ok (fr_ald)) (mt_leaf_ok (trivial)))))
theorem fz_138 {g : xe_G} : mt_all (frP [5] fzS) (mb_138 g).2.1 := (fz_138_0 (g := g))
theorem fz_140_0 {g : xe_G} : mt_all (frP [5] fzS) (mb_140_0 g) := mt_node_ok (mt_node_ok (mt_node_ok (mt_node_ok (mt_node_ok (mt_leaf_ok (fr_aload)) (mt_leaf_ok (fr_iload))) (mt_node_ok (mt_leaf_ok (rfl)) (mt_leaf_ok (fr_push)))) (mt_node_ok (mt_node_ok (mt_leaf_ok (fr_if2)) (mt_leaf_ok (fr_aload))) (mt_node_ok (mt_leaf_ok (fr_get)) (mt_node_ok (mt_leaf_ok (fr_iload)) (mt_leaf_ok (fr_ald)))))) (mt_node_ok (mt_node_ok (mt_node_ok (mt_leaf_ok (fr_aload)) (mt_leaf_ok (fr_slength))) (mt_node_ok (mt_leaf_ok (fr_if2)) (mt_node_ok (mt_leaf_ok (fr_push)) (mt_leaf_ok (trivial))))) (mt_node_ok (mt_node_ok (mt_leaf_ok (fr_push)) (mt_leaf_ok (fr_isto))) (mt_node_ok (mt_leaf_ok (fr_iload)) (mt_node_ok (mt_leaf_ok (fr_aload)) (mt_leaf_ok (fr_slength))))))) (mt_node_ok (mt_node_ok (mt_node_ok (mt_node_ok (mt_leaf_ok (fr_if2)) (mt_leaf_ok (fr_aload))) (mt_node_ok (mt_leaf_ok (fr_get)) (mt_node_ok (mt_leaf_ok (fr_aload)) (mt_leaf_ok (fr_get))))) (mt_node_ok (mt_node_ok (mt_leaf_ok (fr_iload)) (mt_leaf_ok (fr_ald))) (mt_node_ok (mt_leaf_ok (fr_iload)) (mt_node_ok (mt_leaf_ok (fr_bin)) (mt_leaf_ok (fr_ald)))))) (mt_node_ok (mt_node_ok (mt_node_ok (mt_leaf_ok (fr_aload)) (mt_leaf_ok (fr_iload))) (mt_node_ok (mt_leaf_ok (fr_scharAt)) (mt_node_ok (mt_leaf_ok (fr_if2)) (mt_leaf_ok (fr_push))))) (mt_node_ok (mt_node_ok (mt_leaf_ok (trivial)) (mt_leaf_ok (fr_iinc))) (mt_node_ok (mt_leaf_ok (fr_goto)) (mt_node_ok (mt_leaf_ok (fr_push)) (mt_leaf_ok (trivial)))))))
theorem fz_140 {g : xe_G} : mt_all (frP [5] fzS) (mb_140 g).2.1 := (fz_140_0 (g := g))
theorem fz_141_0 {g : xe_G} : mt_all (frP [5] fzS) (mb_141_0 g) := mt_node_ok (mt_node_ok (mt_node_ok (mt_leaf_ok (fr_aload)) (mt_node_ok (mt_leaf_ok (fr_iload)) (mt_leaf_ok (rfl)))) (mt_node_ok (mt_leaf_ok (fr_push)) (mt_node_ok (mt_leaf_ok (fr_if2)) (mt_leaf_ok (fr_aload))))) (mt_node_ok (mt_node_ok (mt_leaf_ok (fr_get)) (mt_node_ok (mt_leaf_ok (fr_iload)) (mt_leaf_ok (fr_ald)))) (mt_node_ok (mt_leaf_ok (fr_goto)) (mt_node_ok (mt_leaf_ok (fr_push)) (mt_leaf_ok (trivial)))))
theorem fz_141 {g : xe_G} : mt_all (frP [5] fzS) (mb_141 g).2.1 := (fz_141_0 (g := g))
theorem fz_all {g : xe_G} : ∀ y b, fzS.elem y = true → ¬ False → mT g y = some b → mt_all (frP [5] fzS) b.2.1 := by
  intro y b hy hx hb
  have hy : y ∈ fzS := by simpa using hy
  simp only [fzS, List.mem_cons, List.not_mem_nil, or_false] at hy
  rcases hy with rfl | rfl | rfl | rfl | rfl | rfl | rfl | rfl | rfl | rfl | rfl | rfl | rfl | rfl | rfl | rfl | rfl | rfl | rfl | rfl | rfl | rfl | rfl | rfl | rfl | rfl | rfl | rfl | rfl | rfl | rfl | rfl | rfl | rfl | rfl | rfl | rfl | rfl | rfl | rfl | rfl | rfl
  · cases (show some (mb_48 g) = some b from hb)
    exact fz_48 (g := g)
  · cases (show some (mb_49 g) = some b from hb)
    exact fz_49 (g := g)
  · cases (show some (mb_50 g) = some b from hb)
    exact fz_50 (g := g)
  · cases (show some (mb_75 g) = some b from hb)
    exact fz_75 (g := g)
  · cases (show some (mb_77 g) = some b from hb)
    exact fz_77 (g := g)
  · cases (show some (mb_78 g) = some b from hb)
    exact fz_78 (g := g)
  · cases (show some (mb_79 g) = some b from hb)
    exact fz_79 (g := g)
  · cases (show some (mb_81 g) = some b from hb)
    exact fz_81 (g := g)
  · cases (show some (mb_82 g) = some b from hb)
    exact fz_82 (g := g)
  · cases (show some (mb_85 g) = some b from hb)
    exact fz_85 (g := g)
  · cases (show some (mb_87 g) = some b from hb)
    exact fz_87 (g := g)
  · cases (show some (mb_88 g) = some b from hb)
    exact fz_88 (g := g)
  · cases (show some (mb_90 g) = some b from hb)
    exact fz_90 (g := g)
  · cases (show some (mb_91 g) = some b from hb)
    exact fz_91 (g := g)
  · cases (show some (mb_92 g) = some b from hb)
    exact fz_92 (g := g)
  · cases (show some (mb_93 g) = some b from hb)
    exact fz_93 (g := g)
  · cases (show some (mb_94 g) = some b from hb)
    exact fz_94 (g := g)
  · cases (show some (mb_95 g) = some b from hb)
    exact fz_95 (g := g)
  · cases (show some (mb_96 g) = some b from hb)
    exact fz_96 (g := g)
  · cases (show some (mb_97 g) = some b from hb)
    exact fz_97 (g := g)
  · cases (show some (mb_98 g) = some b from hb)
    exact fz_98 (g := g)
  · cases (show some (mb_99 g) = some b from hb)
    exact fz_99 (g := g)
  · cases (show some (mb_100 g) = some b from hb)
    exact fz_100 (g := g)
  · cases (show some (mb_101 g) = some b from hb)
    exact fz_101 (g := g)
  · cases (show some (mb_102 g) = some b from hb)
    exact fz_102 (g := g)
  · cases (show some (mb_103 g) = some b from hb)
    exact fz_103 (g := g)
  · cases (show some (mb_104 g) = some b from hb)
    exact fz_104 (g := g)
  · cases (show some (mb_105 g) = some b from hb)
    exact fz_105 (g := g)
  · cases (show some (mb_112 g) = some b from hb)
    exact fz_112 (g := g)
  · cases (show some (mb_113 g) = some b from hb)
    exact fz_113 (g := g)
  · cases (show some (mb_115 g) = some b from hb)
    exact fz_115 (g := g)
  · cases (show some (mb_116 g) = some b from hb)
    exact fz_116 (g := g)
  · cases (show some (mb_117 g) = some b from hb)
    exact fz_117 (g := g)
  · cases (show some (mb_122 g) = some b from hb)
    exact fz_122 (g := g)
  · cases (show some (mb_123 g) = some b from hb)
    exact fz_123 (g := g)
  · cases (show some (mb_128 g) = some b from hb)
    exact fz_128 (g := g)
  · cases (show some (mb_129 g) = some b from hb)
    exact fz_129 (g := g)
  · cases (show some (mb_131 g) = some b from hb)
    exact fz_131 (g := g)
  · cases (show some (mb_134 g) = some b from hb)
    exact fz_134 (g := g)
  · cases (show some (mb_138 g) = some b from hb)
    exact fz_138 (g := g)
  · cases (show some (mb_140 g) = some b from hb)
    exact fz_140 (g := g)
  · cases (show some (mb_141 g) = some b from hb)
    exact fz_141 (g := g)
theorem fz_run {g : xe_G} {y : Nat} {a : List Value} {M : mi_H} (hy : fzS.elem y = true) : pt (mT g) y a M (fun _ M' => frC [5] M M') := fun n d r h => fr_run (X := fun _ => False) (fun y b h1 _ h2 => fz_all y b h1 id h2) (fun _ _ _ _ _ _ h => h.elim) n d y a M r hy h
end FRA
