section
/-! what cut, instruction and jump leave as it was (laid by wip/p4/fr2.py) -/
section FRB
variable {g : xe_G} {M M1 M2 : mi_H} {Y : yT}
def rvP : Nat → mi_N → Prop := fun _ e => match e with
  | .inr (.inr f) => ∀ st v, f st = some v → ∃ y : Int32, v = some (.int y)
  | _ => True
theorem rv_loop {tb : mi_B} {call : Nat → List Value → mi_H → Option mi_R} (hb : mt_all rvP tb.1) : ∀ n S r, mi_loop tb call n S = some r → ∃ y : Int32, r.1 = some (.int y) := by
  intro n
  induction n with
  | zero => intro S r h; cases h
  | succ n ih =>
    intro S r h
    unfold mi_loop at h
    cases he : tb.1 S.1 with
    | none => rw [he] at h; cases h
    | some e =>
      rw [he] at h
      have hp := hb S.1 e he
      rcases e with o | c | f
      · dsimp only at h
        cases ho : o S with
        | none => rw [ho] at h; cases h
        | some S' => rw [ho] at h; exact ih _ _ h
      · dsimp only at h
        split at h
        · cases hr : call c.1 (S.2.2.1.take c.2.1).reverse S.2.2.2 with
          | none => rw [hr] at h; cases h
          | some r1 => rw [hr] at h; exact ih _ _ h
        · cases h
      · dsimp only at h
        cases hf : f S.2.2.1 with
        | none => rw [hf] at h; cases h
        | some v => rw [hf] at h; cases h; exact hp _ _ hf
theorem rv_run {T : Nat → Option (Nat × mi_B)} {y : Nat} {b : Nat × mi_B} {a : List Value} (hT : T y = some b) (hb : mt_all rvP b.2.1) : pt T y a M (fun v _ => ∃ x : Int32, v = some (.int x)) := by
  intro n d r h
  cases d with
  | zero => cases h
  | succ d =>
    unfold mi_run at h
    rw [hT] at h
    dsimp only at h
    split at h
    · exact rv_loop hb _ _ _ h
    · cases h
theorem rv_i {chk : Int32 → Bool} : ∀ st v, r_int chk st = some v → ∃ y : Int32, v = some (.int y) := by
  intro st v h
  unfold r_int at h
  split at h
  · split at h
    · cases h
      exact ⟨_, rfl⟩
    · cases h
  · cases h
/-- cells stay, but for instructions, and for what a code's later fields say -/
def frD (M M' : mi_H) : Prop := frC [4, 5] M M' ∧ ∀ z l, z < M.2.1 → M.1 z = some (ob 4 l) → l.length = 11 → ∃ l', M'.1 z = some (ob 4 l') ∧ l'.length = 11 ∧ l'.take 8 = l.take 8
theorem frD.rf : frD M M := ⟨frC.rf, fun z l _ h hl => ⟨l, h, hl, rfl⟩⟩
theorem frD.tr (h : frD M M1) (h' : frD M1 M2) : frD M M2 := ⟨h.1.tr h'.1, fun z l hz hc hl => by
  obtain ⟨l1, a1, a2, a3⟩ := h.2 z l hz hc hl
  obtain ⟨l2, b1, b2, b3⟩ := h'.2 z l1 (Nat.lt_of_lt_of_le hz h.1.2) a1 a2
  exact ⟨l2, b1, b2, b3.trans a3⟩⟩
theorem frD.of5 (h : frC [5] M M1) : frD M M1 := ⟨h.wide (by decide), fun z l hz hc hl => ⟨l, h.obj hz hc (by decide), hl, rfl⟩⟩
theorem ob_list {ci : Nat} {l l' : List Value} (h : ob ci l = ob ci l') : l = l' := by
  simp only [ob, Sum.inr.injEq, Prod.mk.injEq, true_and] at h
  exact List.ext_getElem? (fun i => congrFun h i)
theorem t8 {a0 a1 a2 a3 a4 a5 a6 a7 x y z x' y' z' : Value} : ([a0, a1, a2, a3, a4, a5, a6, a7, x, y, z] : List Value).take 8 = [a0, a1, a2, a3, a4, a5, a6, a7, x', y', z'].take 8 := rfl
theorem frD.put4 {o : Nat} {l l2 : List Value} (h : frD M M1) (ho : M1.1 o = some (ob 4 l)) (hn : M2.1 o = some (ob 4 l2)) (hl : l2.length = 11 ∧ l2.take 8 = l.take 8) (hf : ∀ z, z ≠ o → M2.1 z = M1.1 z) (hz : M2.2 = M1.2) : frD M M2 :=
  h.tr ⟨⟨fun z _ hw => hf z (fun e => by
    subst e
    exact hw _ ho (by show 4 ∈ [4, 5]; decide)), by rw [hz]; exact Nat.le_refl _⟩, fun z l3 hz3 hc hl3 => by
    by_cases e : z = o
    · subst e
      rw [ho] at hc
      have e2 := ob_list (Option.some.inj hc)
      subst e2
      exact ⟨l2, hn, hl.1, hl.2⟩
    · exact ⟨l3, (hf z e).trans hc, hl3, rfl⟩⟩
theorem frD.nw {a : Nat} (h : frD M M1) (ht : M1.2.1 = a) (hf : ∀ z, z ≠ a → M2.1 z = M1.1 z) (hz : M2.2.1 = a + 1) : frD M M2 :=
  h.tr ⟨⟨fun z hl _ => hf z (by omega), by omega⟩, fun z l hl hc h9 => ⟨l, (hf z (by omega)).trans hc, h9, rfl⟩⟩
theorem frD.st {a : Nat} (h : frD M M1) (ha : M.2.1 ≤ a) (hf : ∀ z, z ≠ a → M2.1 z = M1.1 z) (hz : M2.2 = M1.2) : frD M M2 :=
  ⟨⟨fun z hl hn => (hf z (by omega)).trans (h.1.1 z hl hn), by rw [hz]; exact h.1.2⟩, fun z l hl hc h9 => by
    obtain ⟨l1, b1, b2, b3⟩ := h.2 z l hl hc h9
    exact ⟨l1, (hf z (by omega)).trans b1, b2, b3⟩⟩
variable {T : Nat → Option (Nat × mi_B)} {k pc : Nat} {tb : mi_B} {lv : List (Nat × Value)} {st : List Value} {Q : Option Value → mi_H → Prop}
theorem ps_getU {a ci j : Nat} (h1 : tb.1 pc = some (.inl (o_get ci j))) (kk : ∀ v, pl T k tb (mi_nk tb.2 (pc + 3, lv, v :: st, M)) Q) : pl T k tb (pc, lv, .ref a :: st, M) Q := by
  refine pl_st h1 (fun S1 hS => ?_)
  unfold o_get at hS
  dsimp only at hS
  cases hv : mi_gf M a ci j with
  | none => rw [hv] at hS; cases hS
  | some v => rw [hv] at hS; cases hS; exact kk v
theorem ps_binV {f : Int32 → Int32 → Int32} {n : Nat} {v : Value} {x : Int32} (h1 : tb.1 pc = some (.inl (o_bin f n))) (kk : ∀ y, pl T k tb (mi_nk tb.2 (pc + n, lv, .int (f x y) :: st, M)) Q) : pl T k tb (pc, lv, v :: .int x :: st, M) Q := by
  refine pl_st h1 (fun S1 hS => ?_)
  unfold o_bin at hS
  cases v with
  | int y => dsimp only at hS; cases hS; exact kk y
  | _ => cases hS
theorem WF.code4 {c p o k : Nat} (hW : WF g Y M) (hy : Y.1 c = some (4, [p, o, k])) : c < M.2.1 ∧ ∃ (a0 a1 a2 a3 a4 a6 a8 : Int32) (v9 v10 : Value), M.1 c = some (ob 4 [.int a0, .int a1, .int a2, .int a3, .int a4, .ref p, .int a6, .ref o, .int a8, v9, v10]) := by
  refine ⟨hW.2.1 _ _ hy, ?_⟩
  obtain ⟨l, h1, -, ⟨h2, h3⟩, -⟩ := (hW.1 c 4 _ hy).obj (by decide)
  have hl : l.length = 11 := h2
  match l, hl with
  | [l0, l1, l2, l3, l4, l5, l6, l7, l8, l9, l10], _ =>
    obtain ⟨a0, rfl⟩ := h3 0 l0 vi rfl rfl
    obtain ⟨a1, rfl⟩ := h3 1 l1 vi rfl rfl
    obtain ⟨a2, rfl⟩ := h3 2 l2 vi rfl rfl
    obtain ⟨a3, rfl⟩ := h3 3 l3 vi rfl rfl
    obtain ⟨a4, rfl⟩ := h3 4 l4 vi rfl rfl
    have e5 : l5 = .ref p := h3 5 l5 (vr p) rfl rfl
    obtain ⟨a6, rfl⟩ := h3 6 l6 vi rfl rfl
    have e7 : l7 = .ref o := h3 7 l7 (vr o) rfl rfl
    obtain ⟨a8, rfl⟩ := h3 8 l8 vi rfl rfl
    subst e5 e7
    exact ⟨a0, a1, a2, a3, a4, a6, a8, l9, l10, h1⟩
theorem rv_98_0 {g : xe_G} : mt_all rvP (mb_98_0 g) := mt_node_ok (mt_node_ok (mt_node_ok (mt_node_ok (mt_node_ok (mt_leaf_ok (trivial)) (mt_node_ok (mt_leaf_ok (trivial)) (mt_leaf_ok (trivial)))) (mt_node_ok (mt_leaf_ok (trivial)) (mt_node_ok (mt_leaf_ok (trivial)) (mt_leaf_ok (trivial))))) (mt_node_ok (mt_node_ok (mt_leaf_ok (trivial)) (mt_node_ok (mt_leaf_ok (trivial)) (mt_leaf_ok (trivial)))) (mt_node_ok (mt_leaf_ok (trivial)) (mt_node_ok (mt_leaf_ok (trivial)) (mt_leaf_ok (trivial)))))) (mt_node_ok (mt_node_ok (mt_node_ok (mt_leaf_ok (trivial)) (mt_node_ok (mt_leaf_ok (trivial)) (mt_leaf_ok (trivial)))) (mt_node_ok (mt_leaf_ok (trivial)) (mt_node_ok (mt_leaf_ok (trivial)) (mt_leaf_ok (trivial))))) (mt_node_ok (mt_node_ok (mt_leaf_ok (trivial)) (mt_node_ok (mt_leaf_ok (trivial)) (mt_leaf_ok (trivial)))) (mt_node_ok (mt_leaf_ok (trivial)) (mt_node_ok (mt_leaf_ok (trivial)) (mt_leaf_ok (trivial))))))) (mt_node_ok (mt_node_ok (mt_node_ok (mt_node_ok (mt_leaf_ok (trivial)) (mt_node_ok (mt_leaf_ok (trivial)) (mt_leaf_ok (trivial)))) (mt_node_ok (mt_leaf_ok (trivial)) (mt_node_ok (mt_leaf_ok (trivial)) (mt_leaf_ok (trivial))))) (mt_node_ok (mt_node_ok (mt_leaf_ok (trivial)) (mt_node_ok (mt_leaf_ok (trivial)) (mt_leaf_ok (trivial)))) (mt_node_ok (mt_leaf_ok (trivial)) (mt_node_ok (mt_leaf_ok (rv_i)) (mt_leaf_ok (trivial)))))) (mt_node_ok (mt_node_ok (mt_node_ok (mt_leaf_ok (trivial)) (mt_node_ok (mt_leaf_ok (trivial)) (mt_leaf_ok (trivial)))) (mt_node_ok (mt_leaf_ok (trivial)) (mt_node_ok (mt_leaf_ok (rv_i)) (mt_leaf_ok (trivial))))) (mt_node_ok (mt_node_ok (mt_leaf_ok (trivial)) (mt_node_ok (mt_leaf_ok (trivial)) (mt_leaf_ok (trivial)))) (mt_node_ok (mt_leaf_ok (trivial)) (mt_node_ok (mt_leaf_ok (trivial)) (mt_leaf_ok (rv_i)))))))
theorem rv_98_1 {g : xe_G} : mt_all rvP (mb_98_1 g) := mt_node_ok (mt_node_ok (mt_node_ok (mt_node_ok (mt_leaf_ok (trivial)) (mt_leaf_ok (trivial))) (mt_node_ok (mt_leaf_ok (trivial)) (mt_node_ok (mt_leaf_ok (trivial)) (mt_leaf_ok (trivial))))) (mt_node_ok (mt_node_ok (mt_leaf_ok (trivial)) (mt_leaf_ok (trivial))) (mt_node_ok (mt_leaf_ok (trivial)) (mt_node_ok (mt_leaf_ok (trivial)) (mt_leaf_ok (trivial)))))) (mt_node_ok (mt_node_ok (mt_node_ok (mt_leaf_ok (trivial)) (mt_leaf_ok (trivial))) (mt_node_ok (mt_leaf_ok (trivial)) (mt_node_ok (mt_leaf_ok (trivial)) (mt_leaf_ok (trivial))))) (mt_node_ok (mt_node_ok (mt_leaf_ok (trivial)) (mt_leaf_ok (trivial))) (mt_node_ok (mt_leaf_ok (trivial)) (mt_node_ok (mt_leaf_ok (trivial)) (mt_leaf_ok (rv_i))))))
theorem rv_98 {g : xe_G} {a : List Value} {M : mi_H} : pt (mT g) 98 a M (fun v _ => ∃ x : Int32, v = some (.int x)) := rv_run (b := mb_98 g) rfl (mt_node_ok ((rv_98_0 (g := g))) ((rv_98_1 (g := g))))
theorem rv_82_0 {g : xe_G} : mt_all rvP (mb_82_0 g) := mt_node_ok (mt_node_ok (mt_node_ok (mt_node_ok (mt_node_ok (mt_leaf_ok (trivial)) (mt_node_ok (mt_leaf_ok (trivial)) (mt_leaf_ok (trivial)))) (mt_node_ok (mt_leaf_ok (trivial)) (mt_node_ok (mt_leaf_ok (trivial)) (mt_leaf_ok (trivial))))) (mt_node_ok (mt_node_ok (mt_leaf_ok (trivial)) (mt_node_ok (mt_leaf_ok (trivial)) (mt_leaf_ok (trivial)))) (mt_node_ok (mt_leaf_ok (trivial)) (mt_node_ok (mt_leaf_ok (trivial)) (mt_leaf_ok (trivial)))))) (mt_node_ok (mt_node_ok (mt_node_ok (mt_leaf_ok (trivial)) (mt_node_ok (mt_leaf_ok (trivial)) (mt_leaf_ok (trivial)))) (mt_node_ok (mt_leaf_ok (trivial)) (mt_node_ok (mt_leaf_ok (trivial)) (mt_leaf_ok (trivial))))) (mt_node_ok (mt_node_ok (mt_leaf_ok (trivial)) (mt_node_ok (mt_leaf_ok (trivial)) (mt_leaf_ok (trivial)))) (mt_node_ok (mt_leaf_ok (trivial)) (mt_node_ok (mt_leaf_ok (trivial)) (mt_leaf_ok (trivial))))))) (mt_node_ok (mt_node_ok (mt_node_ok (mt_node_ok (mt_leaf_ok (trivial)) (mt_node_ok (mt_leaf_ok (trivial)) (mt_leaf_ok (trivial)))) (mt_node_ok (mt_leaf_ok (trivial)) (mt_node_ok (mt_leaf_ok (trivial)) (mt_leaf_ok (trivial))))) (mt_node_ok (mt_node_ok (mt_leaf_ok (trivial)) (mt_node_ok (mt_leaf_ok (trivial)) (mt_leaf_ok (rv_i)))) (mt_node_ok (mt_leaf_ok (trivial)) (mt_node_ok (mt_leaf_ok (trivial)) (mt_leaf_ok (trivial)))))) (mt_node_ok (mt_node_ok (mt_node_ok (mt_leaf_ok (trivial)) (mt_node_ok (mt_leaf_ok (trivial)) (mt_leaf_ok (trivial)))) (mt_node_ok (mt_leaf_ok (trivial)) (mt_node_ok (mt_leaf_ok (trivial)) (mt_leaf_ok (trivial))))) (mt_node_ok (mt_node_ok (mt_leaf_ok (trivial)) (mt_node_ok (mt_leaf_ok (trivial)) (mt_leaf_ok (rv_i)))) (mt_node_ok (mt_leaf_ok (trivial)) (mt_node_ok (mt_leaf_ok (trivial)) (mt_leaf_ok (trivial)))))))
theorem rv_82_1 {g : xe_G} : mt_all rvP (mb_82_1 g) := mt_node_ok (mt_node_ok (mt_node_ok (mt_node_ok (mt_node_ok (mt_leaf_ok (trivial)) (mt_node_ok (mt_leaf_ok (trivial)) (mt_leaf_ok (trivial)))) (mt_node_ok (mt_leaf_ok (trivial)) (mt_node_ok (mt_leaf_ok (trivial)) (mt_leaf_ok (trivial))))) (mt_node_ok (mt_node_ok (mt_leaf_ok (trivial)) (mt_node_ok (mt_leaf_ok (trivial)) (mt_leaf_ok (trivial)))) (mt_node_ok (mt_leaf_ok (trivial)) (mt_node_ok (mt_leaf_ok (rv_i)) (mt_leaf_ok (trivial)))))) (mt_node_ok (mt_node_ok (mt_node_ok (mt_leaf_ok (trivial)) (mt_node_ok (mt_leaf_ok (trivial)) (mt_leaf_ok (trivial)))) (mt_node_ok (mt_leaf_ok (trivial)) (mt_node_ok (mt_leaf_ok (trivial)) (mt_leaf_ok (trivial))))) (mt_node_ok (mt_node_ok (mt_leaf_ok (trivial)) (mt_node_ok (mt_leaf_ok (rv_i)) (mt_leaf_ok (trivial)))) (mt_node_ok (mt_leaf_ok (trivial)) (mt_node_ok (mt_leaf_ok (trivial)) (mt_leaf_ok (trivial))))))) (mt_node_ok (mt_node_ok (mt_node_ok (mt_node_ok (mt_leaf_ok (trivial)) (mt_node_ok (mt_leaf_ok (trivial)) (mt_leaf_ok (trivial)))) (mt_node_ok (mt_leaf_ok (trivial)) (mt_node_ok (mt_leaf_ok (rv_i)) (mt_leaf_ok (trivial))))) (mt_node_ok (mt_node_ok (mt_leaf_ok (trivial)) (mt_node_ok (mt_leaf_ok (trivial)) (mt_leaf_ok (trivial)))) (mt_node_ok (mt_leaf_ok (trivial)) (mt_node_ok (mt_leaf_ok (trivial)) (mt_leaf_ok (trivial)))))) (mt_node_ok (mt_node_ok (mt_node_ok (mt_leaf_ok (trivial)) (mt_node_ok (mt_leaf_ok (trivial)) (mt_leaf_ok (trivial)))) (mt_node_ok (mt_leaf_ok (trivial)) (mt_node_ok (mt_leaf_ok (rv_i)) (mt_leaf_ok (trivial))))) (mt_node_ok (mt_node_ok (mt_leaf_ok (trivial)) (mt_node_ok (mt_leaf_ok (trivial)) (mt_leaf_ok (trivial)))) (mt_node_ok (mt_leaf_ok (trivial)) (mt_node_ok (mt_leaf_ok (trivial)) (mt_leaf_ok (rv_i)))))))
theorem rv_82_2 {g : xe_G} : mt_all rvP (mb_82_2 g) := mt_node_ok (mt_node_ok (mt_node_ok (mt_node_ok (mt_node_ok (mt_leaf_ok (trivial)) (mt_node_ok (mt_leaf_ok (trivial)) (mt_leaf_ok (trivial)))) (mt_node_ok (mt_leaf_ok (trivial)) (mt_node_ok (mt_leaf_ok (trivial)) (mt_leaf_ok (trivial))))) (mt_node_ok (mt_node_ok (mt_leaf_ok (trivial)) (mt_node_ok (mt_leaf_ok (trivial)) (mt_leaf_ok (trivial)))) (mt_node_ok (mt_leaf_ok (trivial)) (mt_node_ok (mt_leaf_ok (trivial)) (mt_leaf_ok (trivial)))))) (mt_node_ok (mt_node_ok (mt_node_ok (mt_leaf_ok (trivial)) (mt_node_ok (mt_leaf_ok (trivial)) (mt_leaf_ok (trivial)))) (mt_node_ok (mt_leaf_ok (trivial)) (mt_node_ok (mt_leaf_ok (trivial)) (mt_leaf_ok (trivial))))) (mt_node_ok (mt_node_ok (mt_leaf_ok (trivial)) (mt_node_ok (mt_leaf_ok (rv_i)) (mt_leaf_ok (trivial)))) (mt_node_ok (mt_leaf_ok (trivial)) (mt_node_ok (mt_leaf_ok (trivial)) (mt_leaf_ok (trivial))))))) (mt_node_ok (mt_node_ok (mt_node_ok (mt_node_ok (mt_leaf_ok (trivial)) (mt_node_ok (mt_leaf_ok (trivial)) (mt_leaf_ok (trivial)))) (mt_node_ok (mt_leaf_ok (trivial)) (mt_node_ok (mt_leaf_ok (trivial)) (mt_leaf_ok (trivial))))) (mt_node_ok (mt_node_ok (mt_leaf_ok (trivial)) (mt_node_ok (mt_leaf_ok (rv_i)) (mt_leaf_ok (trivial)))) (mt_node_ok (mt_leaf_ok (trivial)) (mt_node_ok (mt_leaf_ok (trivial)) (mt_leaf_ok (trivial)))))) (mt_node_ok (mt_node_ok (mt_node_ok (mt_leaf_ok (trivial)) (mt_node_ok (mt_leaf_ok (trivial)) (mt_leaf_ok (trivial)))) (mt_node_ok (mt_leaf_ok (trivial)) (mt_node_ok (mt_leaf_ok (trivial)) (mt_leaf_ok (trivial))))) (mt_node_ok (mt_node_ok (mt_leaf_ok (trivial)) (mt_node_ok (mt_leaf_ok (trivial)) (mt_leaf_ok (trivial)))) (mt_node_ok (mt_leaf_ok (trivial)) (mt_node_ok (mt_leaf_ok (trivial)) (mt_leaf_ok (trivial)))))))
theorem rv_82_3 {g : xe_G} : mt_all rvP (mb_82_3 g) := mt_node_ok (mt_node_ok (mt_node_ok (mt_node_ok (mt_leaf_ok (trivial)) (mt_leaf_ok (trivial))) (mt_node_ok (mt_leaf_ok (trivial)) (mt_node_ok (mt_leaf_ok (trivial)) (mt_leaf_ok (trivial))))) (mt_node_ok (mt_node_ok (mt_leaf_ok (trivial)) (mt_leaf_ok (trivial))) (mt_node_ok (mt_leaf_ok (trivial)) (mt_node_ok (mt_leaf_ok (trivial)) (mt_leaf_ok (trivial)))))) (mt_node_ok (mt_node_ok (mt_node_ok (mt_leaf_ok (rv_i)) (mt_leaf_ok (trivial))) (mt_node_ok (mt_leaf_ok (trivial)) (mt_node_ok (mt_leaf_ok (trivial)) (mt_leaf_ok (trivial))))) (mt_node_ok (mt_node_ok (mt_leaf_ok (trivial)) (mt_leaf_ok (trivial))) (mt_node_ok (mt_leaf_ok (trivial)) (mt_node_ok (mt_leaf_ok (trivial)) (mt_leaf_ok (rv_i))))))
theorem rv_82 {g : xe_G} {a : List Value} {M : mi_H} : pt (mT g) 82 a M (fun v _ => ∃ x : Int32, v = some (.int x)) := rv_run (b := mb_82 g) rfl (mt_node_ok (mt_node_ok ((rv_82_0 (g := g))) ((rv_82_1 (g := g)))) (mt_node_ok ((rv_82_2 (g := g))) ((rv_82_3 (g := g)))))
theorem rv_85_0 {g : xe_G} : mt_all rvP (mb_85_0 g) := mt_node_ok (mt_node_ok (mt_node_ok (mt_node_ok (mt_leaf_ok (trivial)) (mt_leaf_ok (trivial))) (mt_node_ok (mt_leaf_ok (trivial)) (mt_node_ok (mt_leaf_ok (trivial)) (mt_leaf_ok (trivial))))) (mt_node_ok (mt_node_ok (mt_leaf_ok (trivial)) (mt_leaf_ok (trivial))) (mt_node_ok (mt_leaf_ok (trivial)) (mt_node_ok (mt_leaf_ok (trivial)) (mt_leaf_ok (trivial)))))) (mt_node_ok (mt_node_ok (mt_node_ok (mt_leaf_ok (trivial)) (mt_leaf_ok (trivial))) (mt_node_ok (mt_leaf_ok (trivial)) (mt_node_ok (mt_leaf_ok (trivial)) (mt_leaf_ok (trivial))))) (mt_node_ok (mt_node_ok (mt_leaf_ok (rv_i)) (mt_leaf_ok (trivial))) (mt_node_ok (mt_leaf_ok (trivial)) (mt_node_ok (mt_leaf_ok (trivial)) (mt_leaf_ok (rv_i))))))
theorem rv_85 {g : xe_G} {a : List Value} {M : mi_H} : pt (mT g) 85 a M (fun v _ => ∃ x : Int32, v = some (.int x)) := rv_run (b := mb_85 g) rfl ((rv_85_0 (g := g)))
theorem rv_80_0 {g : xe_G} : mt_all rvP (mb_80_0 g) := mt_node_ok (mt_node_ok (mt_node_ok (mt_node_ok (mt_node_ok (mt_leaf_ok (trivial)) (mt_node_ok (mt_leaf_ok (trivial)) (mt_leaf_ok (trivial)))) (mt_node_ok (mt_leaf_ok (trivial)) (mt_node_ok (mt_leaf_ok (trivial)) (mt_leaf_ok (trivial))))) (mt_node_ok (mt_node_ok (mt_leaf_ok (trivial)) (mt_node_ok (mt_leaf_ok (trivial)) (mt_leaf_ok (trivial)))) (mt_node_ok (mt_leaf_ok (trivial)) (mt_node_ok (mt_leaf_ok (rv_i)) (mt_leaf_ok (trivial)))))) (mt_node_ok (mt_node_ok (mt_node_ok (mt_leaf_ok (trivial)) (mt_node_ok (mt_leaf_ok (trivial)) (mt_leaf_ok (trivial)))) (mt_node_ok (mt_leaf_ok (trivial)) (mt_node_ok (mt_leaf_ok (rv_i)) (mt_leaf_ok (trivial))))) (mt_node_ok (mt_node_ok (mt_leaf_ok (rv_i)) (mt_node_ok (mt_leaf_ok (trivial)) (mt_leaf_ok (trivial)))) (mt_node_ok (mt_leaf_ok (trivial)) (mt_node_ok (mt_leaf_ok (trivial)) (mt_leaf_ok (trivial))))))) (mt_node_ok (mt_node_ok (mt_node_ok (mt_node_ok (mt_leaf_ok (trivial)) (mt_node_ok (mt_leaf_ok (trivial)) (mt_leaf_ok (trivial)))) (mt_node_ok (mt_leaf_ok (trivial)) (mt_node_ok (mt_leaf_ok (trivial)) (mt_leaf_ok (trivial))))) (mt_node_ok (mt_node_ok (mt_leaf_ok (trivial)) (mt_node_ok (mt_leaf_ok (trivial)) (mt_leaf_ok (trivial)))) (mt_node_ok (mt_leaf_ok (rv_i)) (mt_node_ok (mt_leaf_ok (trivial)) (mt_leaf_ok (trivial)))))) (mt_node_ok (mt_node_ok (mt_node_ok (mt_leaf_ok (trivial)) (mt_node_ok (mt_leaf_ok (rv_i)) (mt_leaf_ok (trivial)))) (mt_node_ok (mt_leaf_ok (trivial)) (mt_node_ok (mt_leaf_ok (trivial)) (mt_leaf_ok (trivial))))) (mt_node_ok (mt_node_ok (mt_leaf_ok (trivial)) (mt_node_ok (mt_leaf_ok (trivial)) (mt_leaf_ok (trivial)))) (mt_node_ok (mt_leaf_ok (trivial)) (mt_node_ok (mt_leaf_ok (trivial)) (mt_leaf_ok (rv_i)))))))
theorem rv_80 {g : xe_G} {a : List Value} {M : mi_H} : pt (mT g) 80 a M (fun v _ => ∃ x : Int32, v = some (.int x)) := rv_run (b := mb_80 g) rfl ((rv_80_0 (g := g)))
theorem rv_84_0 {g : xe_G} : mt_all rvP (mb_84_0 g) := mt_node_ok (mt_node_ok (mt_node_ok (mt_node_ok (mt_node_ok (mt_leaf_ok (trivial)) (mt_leaf_ok (trivial))) (mt_node_ok (mt_leaf_ok (trivial)) (mt_leaf_ok (trivial)))) (mt_node_ok (mt_node_ok (mt_leaf_ok (trivial)) (mt_leaf_ok (trivial))) (mt_node_ok (mt_leaf_ok (trivial)) (mt_leaf_ok (trivial))))) (mt_node_ok (mt_node_ok (mt_node_ok (mt_leaf_ok (trivial)) (mt_leaf_ok (trivial))) (mt_node_ok (mt_leaf_ok (trivial)) (mt_leaf_ok (trivial)))) (mt_node_ok (mt_node_ok (mt_leaf_ok (trivial)) (mt_leaf_ok (trivial))) (mt_node_ok (mt_leaf_ok (trivial)) (mt_node_ok (mt_leaf_ok (trivial)) (mt_leaf_ok (trivial))))))) (mt_node_ok (mt_node_ok (mt_node_ok (mt_node_ok (mt_leaf_ok (trivial)) (mt_leaf_ok (trivial))) (mt_node_ok (mt_leaf_ok (rv_i)) (mt_leaf_ok (trivial)))) (mt_node_ok (mt_node_ok (mt_leaf_ok (trivial)) (mt_leaf_ok (trivial))) (mt_node_ok (mt_leaf_ok (trivial)) (mt_leaf_ok (trivial))))) (mt_node_ok (mt_node_ok (mt_node_ok (mt_leaf_ok (trivial)) (mt_leaf_ok (trivial))) (mt_node_ok (mt_leaf_ok (trivial)) (mt_leaf_ok (trivial)))) (mt_node_ok (mt_node_ok (mt_leaf_ok (trivial)) (mt_leaf_ok (trivial))) (mt_node_ok (mt_leaf_ok (trivial)) (mt_node_ok (mt_leaf_ok (trivial)) (mt_leaf_ok (rv_i)))))))
theorem rv_84 {g : xe_G} {a : List Value} {M : mi_H} : pt (mT g) 84 a M (fun v _ => ∃ x : Int32, v = some (.int x)) := rv_run (b := mb_84 g) rfl ((rv_84_0 (g := g)))
def fwS : List Nat := [48, 49, 50, 80, 81, 83, 84, 87, 88, 89, 90, 91, 92, 93, 94, 95, 96, 97, 98, 99, 100, 101, 102, 103, 104, 105]
theorem fw_48_0 {g : xe_G} : mt_all (frP [5] fwS) (mb_48_0 g) := mt_node_ok (mt_node_ok (mt_node_ok (mt_node_ok (mt_leaf_ok (fr_iload)) (mt_leaf_ok (fr_if))) (mt_node_ok (mt_leaf_ok (fr_iload)) (mt_leaf_ok (fr_aload)))) (mt_node_ok (mt_node_ok (mt_leaf_ok (fr_get)) (mt_leaf_ok (fr_alen))) (mt_node_ok (mt_leaf_ok (fr_if2)) (mt_leaf_ok (fr_push))))) (mt_node_ok (mt_node_ok (mt_node_ok (mt_leaf_ok (fr_goto)) (mt_leaf_ok (fr_aload))) (mt_node_ok (mt_leaf_ok (fr_get)) (mt_leaf_ok (fr_iload)))) (mt_node_ok (mt_node_ok (mt_leaf_ok (fr_ald)) (mt_leaf_ok (fr_push))) (mt_node_ok (mt_leaf_ok (fr_bin)) (mt_leaf_ok (trivial)))))
theorem fw_48 {g : xe_G} : mt_all (frP [5] fwS) (mb_48 g).2.1 := (fw_48_0 (g := g))
theorem fw_49_0 {g : xe_G} : mt_all (frP [5] fwS) (mb_49_0 g) := mt_node_ok (mt_node_ok (mt_node_ok (mt_node_ok (mt_leaf_ok (fr_iload)) (mt_node_ok (mt_leaf_ok (fr_if)) (mt_leaf_ok (fr_iload)))) (mt_node_ok (mt_node_ok (mt_leaf_ok (fr_aload)) (mt_leaf_ok (fr_get))) (mt_node_ok (mt_leaf_ok (fr_alen)) (mt_leaf_ok (fr_push))))) (mt_node_ok (mt_node_ok (mt_leaf_ok (fr_bin)) (mt_node_ok (mt_leaf_ok (fr_if2)) (mt_leaf_ok (fr_push)))) (mt_node_ok (mt_node_ok (mt_leaf_ok (trivial)) (mt_leaf_ok (fr_aload))) (mt_node_ok (mt_leaf_ok (fr_get)) (mt_leaf_ok (fr_iload)))))) (mt_node_ok (mt_node_ok (mt_node_ok (mt_leaf_ok (fr_ald)) (mt_node_ok (mt_leaf_ok (fr_push)) (mt_leaf_ok (fr_bin)))) (mt_node_ok (mt_node_ok (mt_leaf_ok (fr_push)) (mt_leaf_ok (fr_bin))) (mt_node_ok (mt_leaf_ok (fr_aload)) (mt_leaf_ok (fr_get))))) (mt_node_ok (mt_node_ok (mt_node_ok (mt_leaf_ok (fr_iload)) (mt_leaf_ok (fr_push))) (mt_node_ok (mt_leaf_ok (fr_bin)) (mt_leaf_ok (fr_ald)))) (mt_node_ok (mt_node_ok (mt_leaf_ok (fr_push)) (mt_leaf_ok (fr_bin))) (mt_node_ok (mt_leaf_ok (fr_bin)) (mt_leaf_ok (trivial))))))
theorem fw_49 {g : xe_G} : mt_all (frP [5] fwS) (mb_49 g).2.1 := (fw_49_0 (g := g))
theorem fw_50_0 {g : xe_G} : mt_all (frP [5] fwS) (mb_50_0 g) := mt_node_ok (mt_node_ok (mt_node_ok (mt_node_ok (mt_node_ok (mt_leaf_ok (fr_iload)) (mt_node_ok (mt_leaf_ok (fr_if)) (mt_leaf_ok (fr_iload)))) (mt_node_ok (mt_leaf_ok (fr_aload)) (mt_node_ok (mt_leaf_ok (fr_get)) (mt_leaf_ok (fr_alen))))) (mt_node_ok (mt_node_ok (mt_leaf_ok (fr_push)) (mt_node_ok (mt_leaf_ok (fr_bin)) (mt_leaf_ok (fr_if2)))) (mt_node_ok (mt_leaf_ok (fr_push)) (mt_node_ok (mt_leaf_ok (trivial)) (mt_leaf_ok (fr_aload)))))) (mt_node_ok (mt_node_ok (mt_node_ok (mt_leaf_ok (fr_get)) (mt_node_ok (mt_leaf_ok (fr_iload)) (mt_leaf_ok (fr_ald)))) (mt_node_ok (mt_leaf_ok (fr_push)) (mt_node_ok (mt_leaf_ok (fr_bin)) (mt_leaf_ok (fr_aload))))) (mt_node_ok (mt_node_ok (mt_leaf_ok (fr_get)) (mt_node_ok (mt_leaf_ok (fr_iload)) (mt_leaf_ok (fr_push)))) (mt_node_ok (mt_leaf_ok (fr_bin)) (mt_node_ok (mt_leaf_ok (fr_ald)) (mt_leaf_ok (fr_push))))))) (mt_node_ok (mt_node_ok (mt_node_ok (mt_node_ok (mt_leaf_ok (fr_bin)) (mt_node_ok (mt_leaf_ok (fr_push)) (mt_leaf_ok (fr_bin)))) (mt_node_ok (mt_leaf_ok (fr_bin)) (mt_node_ok (mt_leaf_ok (fr_aload)) (mt_leaf_ok (fr_get))))) (mt_node_ok (mt_node_ok (mt_leaf_ok (fr_iload)) (mt_node_ok (mt_leaf_ok (fr_push)) (mt_leaf_ok (fr_bin)))) (mt_node_ok (mt_leaf_ok (fr_ald)) (mt_node_ok (mt_leaf_ok (fr_push)) (mt_leaf_ok (fr_bin)))))) (mt_node_ok (mt_node_ok (mt_node_ok (mt_leaf_ok (fr_push)) (mt_node_ok (mt_leaf_ok (fr_bin)) (mt_leaf_ok (fr_bin)))) (mt_node_ok (mt_leaf_ok (fr_aload)) (mt_node_ok (mt_leaf_ok (fr_get)) (mt_leaf_ok (fr_iload))))) (mt_node_ok (mt_node_ok (mt_leaf_ok (fr_push)) (mt_node_ok (mt_leaf_ok (fr_bin)) (mt_leaf_ok (fr_ald)))) (mt_node_ok (mt_leaf_ok (fr_push)) (mt_node_ok (mt_leaf_ok (fr_bin)) (mt_leaf_ok (fr_bin)))))))
theorem fw_50_1 {g : xe_G} : mt_all (frP [5] fwS) (mb_50_1 g) := mt_leaf_ok (trivial)
theorem fw_50 {g : xe_G} : mt_all (frP [5] fwS) (mb_50 g).2.1 := mt_node_ok ((fw_50_0 (g := g))) ((fw_50_1 (g := g)))
theorem fw_80_0 {g : xe_G} : mt_all (frP [5] fwS) (mb_80_0 g) := mt_node_ok (mt_node_ok (mt_node_ok (mt_node_ok (mt_node_ok (mt_leaf_ok (fr_aload)) (mt_node_ok (mt_leaf_ok (fr_iload)) (mt_leaf_ok (rfl)))) (mt_node_ok (mt_leaf_ok (fr_isto)) (mt_node_ok (mt_leaf_ok (fr_aload)) (mt_leaf_ok (fr_get))))) (mt_node_ok (mt_node_ok (mt_leaf_ok (fr_iload)) (mt_node_ok (mt_leaf_ok (rfl)) (mt_leaf_ok (fr_if)))) (mt_node_ok (mt_leaf_ok (fr_push)) (mt_node_ok (mt_leaf_ok (trivial)) (mt_leaf_ok (fr_iload)))))) (mt_node_ok (mt_node_ok (mt_node_ok (mt_leaf_ok (fr_sw)) (mt_node_ok (mt_leaf_ok (fr_aload)) (mt_leaf_ok (fr_get)))) (mt_node_ok (mt_leaf_ok (fr_get)) (mt_node_ok (mt_leaf_ok (trivial)) (mt_leaf_ok (fr_iload))))) (mt_node_ok (mt_node_ok (mt_leaf_ok (trivial)) (mt_node_ok (mt_leaf_ok (fr_aload)) (mt_leaf_ok (fr_get)))) (mt_node_ok (mt_leaf_ok (rfl)) (mt_node_ok (mt_leaf_ok (fr_if)) (mt_leaf_ok (fr_aload))))))) (mt_node_ok (mt_node_ok (mt_node_ok (mt_node_ok (mt_leaf_ok (fr_aload)) (mt_node_ok (mt_leaf_ok (fr_get)) (mt_leaf_ok (fr_push)))) (mt_node_ok (mt_leaf_ok (rfl)) (mt_node_ok (mt_leaf_ok (rfl)) (mt_leaf_ok (fr_goto))))) (mt_node_ok (mt_node_ok (mt_leaf_ok (fr_aload)) (mt_node_ok (mt_leaf_ok (fr_get)) (mt_leaf_ok (fr_get)))) (mt_node_ok (mt_leaf_ok (trivial)) (mt_node_ok (mt_leaf_ok (fr_aload)) (mt_leaf_ok (fr_get)))))) (mt_node_ok (mt_node_ok (mt_node_ok (mt_leaf_ok (fr_get)) (mt_node_ok (mt_leaf_ok (trivial)) (mt_leaf_ok (fr_aload)))) (mt_node_ok (mt_leaf_ok (fr_get)) (mt_node_ok (mt_leaf_ok (rfl)) (mt_leaf_ok (fr_if))))) (mt_node_ok (mt_node_ok (mt_leaf_ok (fr_aload)) (mt_node_ok (mt_leaf_ok (fr_get)) (mt_leaf_ok (fr_get)))) (mt_node_ok (mt_leaf_ok (fr_goto)) (mt_node_ok (mt_leaf_ok (fr_push)) (mt_leaf_ok (trivial)))))))
theorem fw_80 {g : xe_G} : mt_all (frP [5] fwS) (mb_80 g).2.1 := (fw_80_0 (g := g))
theorem fw_81_0 {g : xe_G} : mt_all (frP [5] fwS) (mb_81_0 g) := mt_node_ok (mt_node_ok (mt_node_ok (mt_node_ok (mt_leaf_ok (fr_aload)) (mt_node_ok (mt_leaf_ok (fr_get)) (mt_leaf_ok (fr_null)))) (mt_node_ok (mt_leaf_ok (fr_lload)) (mt_node_ok (mt_leaf_ok (fr_push)) (mt_leaf_ok (fr_lcmp))))) (mt_node_ok (mt_node_ok (mt_leaf_ok (fr_if)) (mt_node_ok (mt_leaf_ok (fr_lload)) (mt_leaf_ok (fr_aload)))) (mt_node_ok (mt_leaf_ok (fr_get)) (mt_node_ok (mt_leaf_ok (fr_alen)) (mt_leaf_ok (fr_i2l)))))) (mt_node_ok (mt_node_ok (mt_node_ok (mt_leaf_ok (fr_lcmp)) (mt_node_ok (mt_leaf_ok (fr_if)) (mt_leaf_ok (fr_push)))) (mt_node_ok (mt_leaf_ok (fr_goto)) (mt_node_ok (mt_leaf_ok (fr_aload)) (mt_leaf_ok (fr_get))))) (mt_node_ok (mt_node_ok (mt_leaf_ok (fr_lload)) (mt_node_ok (mt_leaf_ok (fr_l2i)) (mt_leaf_ok (fr_ald)))) (mt_node_ok (mt_leaf_ok (fr_push)) (mt_node_ok (mt_leaf_ok (fr_bin)) (mt_leaf_ok (trivial))))))
theorem fw_81 {g : xe_G} : mt_all (frP [5] fwS) (mb_81 g).2.1 := (fw_81_0 (g := g))
theorem fw_83_0 {g : xe_G} : mt_all (frP [5] fwS) (mb_83_0 g) := mt_node_ok (mt_node_ok (mt_node_ok (mt_node_ok (mt_leaf_ok (fr_aload)) (mt_leaf_ok (fr_get))) (mt_node_ok (mt_leaf_ok (fr_null)) (mt_leaf_ok (fr_iload)))) (mt_node_ok (mt_node_ok (mt_leaf_ok (fr_if)) (mt_leaf_ok (fr_iload))) (mt_node_ok (mt_leaf_ok (fr_aload)) (mt_leaf_ok (fr_get))))) (mt_node_ok (mt_node_ok (mt_node_ok (mt_leaf_ok (fr_alen)) (mt_leaf_ok (fr_if2))) (mt_node_ok (mt_leaf_ok (fr_push)) (mt_leaf_ok (fr_goto)))) (mt_node_ok (mt_node_ok (mt_leaf_ok (fr_aload)) (mt_leaf_ok (fr_get))) (mt_node_ok (mt_leaf_ok (fr_iload)) (mt_node_ok (mt_leaf_ok (fr_ald)) (mt_leaf_ok (trivial))))))
theorem fw_83 {g : xe_G} : mt_all (frP [5] fwS) (mb_83 g).2.1 := (fw_83_0 (g := g))
theorem fw_84_0 {g : xe_G} : mt_all (frP [5] fwS) (mb_84_0 g) := mt_node_ok (mt_node_ok (mt_node_ok (mt_node_ok (mt_node_ok (mt_leaf_ok (fr_aload)) (mt_leaf_ok (fr_get))) (mt_node_ok (mt_leaf_ok (fr_aload)) (mt_leaf_ok (fr_iload)))) (mt_node_ok (mt_node_ok (mt_leaf_ok (rfl)) (mt_leaf_ok (rfl))) (mt_node_ok (mt_leaf_ok (fr_if)) (mt_leaf_ok (fr_aload))))) (mt_node_ok (mt_node_ok (mt_node_ok (mt_leaf_ok (fr_get)) (mt_leaf_ok (rfl))) (mt_node_ok (mt_leaf_ok (fr_if)) (mt_leaf_ok (fr_iload)))) (mt_node_ok (mt_node_ok (mt_leaf_ok (fr_if)) (mt_leaf_ok (fr_iload))) (mt_node_ok (mt_leaf_ok (fr_aload)) (mt_node_ok (mt_leaf_ok (fr_get)) (mt_leaf_ok (fr_get))))))) (mt_node_ok (mt_node_ok (mt_node_ok (mt_node_ok (mt_leaf_ok (fr_if2)) (mt_leaf_ok (fr_push))) (mt_node_ok (mt_leaf_ok (trivial)) (mt_leaf_ok (fr_iload)))) (mt_node_ok (mt_node_ok (mt_leaf_ok (fr_if)) (mt_leaf_ok (fr_aload))) (mt_node_ok (mt_leaf_ok (fr_get)) (mt_leaf_ok (fr_iload))))) (mt_node_ok (mt_node_ok (mt_node_ok (mt_leaf_ok (rfl)) (mt_leaf_ok (fr_goto))) (mt_node_ok (mt_leaf_ok (fr_aload)) (mt_leaf_ok (fr_aload)))) (mt_node_ok (mt_node_ok (mt_leaf_ok (fr_get)) (mt_leaf_ok (fr_iload))) (mt_node_ok (mt_leaf_ok (rfl)) (mt_node_ok (mt_leaf_ok (rfl)) (mt_leaf_ok (trivial)))))))
theorem fw_84 {g : xe_G} : mt_all (frP [5] fwS) (mb_84 g).2.1 := (fw_84_0 (g := g))
theorem fw_87_0 {g : xe_G} : mt_all (frP [5] fwS) (mb_87_0 g) := mt_node_ok (mt_node_ok (mt_node_ok (mt_node_ok (mt_node_ok (mt_leaf_ok (fr_aload)) (mt_node_ok (mt_leaf_ok (fr_get)) (mt_leaf_ok (fr_push)))) (mt_node_ok (mt_leaf_ok (fr_if2)) (mt_node_ok (mt_leaf_ok (fr_aload)) (mt_leaf_ok (fr_get))))) (mt_node_ok (mt_node_ok (mt_leaf_ok (fr_push)) (mt_node_ok (mt_leaf_ok (fr_if2)) (mt_leaf_ok (fr_aload)))) (mt_node_ok (mt_leaf_ok (fr_aload)) (mt_node_ok (mt_leaf_ok (fr_get)) (mt_leaf_ok (fr_push)))))) (mt_node_ok (mt_node_ok (mt_node_ok (mt_leaf_ok (fr_bin)) (mt_node_ok (mt_leaf_ok (fr_push)) (mt_leaf_ok (rfl)))) (mt_node_ok (mt_leaf_ok (trivial)) (mt_node_ok (mt_leaf_ok (fr_aload)) (mt_leaf_ok (fr_get))))) (mt_node_ok (mt_node_ok (mt_leaf_ok (fr_push)) (mt_node_ok (mt_leaf_ok (fr_if2)) (mt_leaf_ok (fr_aload)))) (mt_node_ok (mt_leaf_ok (fr_get)) (mt_node_ok (mt_leaf_ok (fr_push)) (mt_leaf_ok (fr_if2))))))) (mt_node_ok (mt_node_ok (mt_node_ok (mt_node_ok (mt_leaf_ok (fr_aload)) (mt_node_ok (mt_leaf_ok (fr_aload)) (mt_leaf_ok (fr_get)))) (mt_node_ok (mt_leaf_ok (fr_push)) (mt_node_ok (mt_leaf_ok (fr_bin)) (mt_leaf_ok (fr_push))))) (mt_node_ok (mt_node_ok (mt_leaf_ok (rfl)) (mt_node_ok (mt_leaf_ok (trivial)) (mt_leaf_ok (fr_aload)))) (mt_node_ok (mt_leaf_ok (fr_get)) (mt_node_ok (mt_leaf_ok (rfl)) (mt_leaf_ok (fr_if)))))) (mt_node_ok (mt_node_ok (mt_node_ok (mt_leaf_ok (fr_aload)) (mt_node_ok (mt_leaf_ok (fr_aload)) (mt_leaf_ok (fr_aload)))) (mt_node_ok (mt_leaf_ok (fr_get)) (mt_node_ok (mt_leaf_ok (fr_push)) (mt_leaf_ok (fr_bin))))) (mt_node_ok (mt_node_ok (mt_leaf_ok (rfl)) (mt_node_ok (mt_leaf_ok (rfl)) (mt_leaf_ok (trivial)))) (mt_node_ok (mt_leaf_ok (fr_aload)) (mt_node_ok (mt_leaf_ok (fr_get)) (mt_leaf_ok (fr_push)))))))
theorem fw_87_1 {g : xe_G} : mt_all (frP [5] fwS) (mb_87_1 g) := mt_node_ok (mt_node_ok (mt_node_ok (mt_node_ok (mt_node_ok (mt_leaf_ok (fr_if2)) (mt_node_ok (mt_leaf_ok (fr_aload)) (mt_leaf_ok (fr_get)))) (mt_node_ok (mt_leaf_ok (fr_push)) (mt_node_ok (mt_leaf_ok (fr_if2)) (mt_leaf_ok (fr_aload))))) (mt_node_ok (mt_node_ok (mt_leaf_ok (fr_get)) (mt_node_ok (mt_leaf_ok (fr_push)) (mt_leaf_ok (fr_if2)))) (mt_node_ok (mt_leaf_ok (fr_aload)) (mt_node_ok (mt_leaf_ok (fr_get)) (mt_leaf_ok (fr_push)))))) (mt_node_ok (mt_node_ok (mt_node_ok (mt_leaf_ok (fr_if2)) (mt_node_ok (mt_leaf_ok (fr_aload)) (mt_leaf_ok (fr_aload)))) (mt_node_ok (mt_leaf_ok (fr_aload)) (mt_node_ok (mt_leaf_ok (fr_get)) (mt_leaf_ok (fr_push))))) (mt_node_ok (mt_node_ok (mt_leaf_ok (fr_bin)) (mt_node_ok (mt_leaf_ok (rfl)) (mt_leaf_ok (fr_un)))) (mt_node_ok (mt_leaf_ok (fr_aload)) (mt_node_ok (mt_leaf_ok (fr_get)) (mt_leaf_ok (rfl))))))) (mt_node_ok (mt_node_ok (mt_node_ok (mt_node_ok (mt_leaf_ok (trivial)) (mt_node_ok (mt_leaf_ok (fr_aload)) (mt_leaf_ok (fr_get)))) (mt_node_ok (mt_leaf_ok (fr_sw)) (mt_node_ok (mt_leaf_ok (fr_aload)) (mt_leaf_ok (fr_aload))))) (mt_node_ok (mt_node_ok (mt_leaf_ok (fr_aload)) (mt_node_ok (mt_leaf_ok (fr_get)) (mt_leaf_ok (fr_push)))) (mt_node_ok (mt_leaf_ok (fr_bin)) (mt_node_ok (mt_leaf_ok (rfl)) (mt_leaf_ok (fr_un)))))) (mt_node_ok (mt_node_ok (mt_node_ok (mt_leaf_ok ((fr_put (by decide)))) (mt_node_ok (mt_leaf_ok (fr_push)) (mt_leaf_ok (trivial)))) (mt_node_ok (mt_leaf_ok (fr_aload)) (mt_node_ok (mt_leaf_ok (fr_aload)) (mt_leaf_ok (fr_aload))))) (mt_node_ok (mt_node_ok (mt_leaf_ok (fr_get)) (mt_node_ok (mt_leaf_ok (fr_push)) (mt_leaf_ok (fr_bin)))) (mt_node_ok (mt_leaf_ok (rfl)) (mt_node_ok (mt_leaf_ok (fr_un)) (mt_leaf_ok ((fr_put (by decide)))))))))
theorem fw_87_2 {g : xe_G} : mt_all (frP [5] fwS) (mb_87_2 g) := mt_node_ok (mt_node_ok (mt_node_ok (mt_node_ok (mt_node_ok (mt_leaf_ok (fr_push)) (mt_node_ok (mt_leaf_ok (trivial)) (mt_leaf_ok (fr_aload)))) (mt_node_ok (mt_leaf_ok (fr_aload)) (mt_node_ok (mt_leaf_ok (fr_aload)) (mt_leaf_ok (fr_get))))) (mt_node_ok (mt_node_ok (mt_leaf_ok (fr_push)) (mt_node_ok (mt_leaf_ok (fr_bin)) (mt_leaf_ok (rfl)))) (mt_node_ok (mt_leaf_ok ((fr_put (by decide)))) (mt_node_ok (mt_leaf_ok (fr_push)) (mt_leaf_ok (trivial)))))) (mt_node_ok (mt_node_ok (mt_node_ok (mt_leaf_ok (fr_aload)) (mt_node_ok (mt_leaf_ok (fr_push)) (mt_leaf_ok ((fr_put (by decide)))))) (mt_node_ok (mt_leaf_ok (fr_aload)) (mt_node_ok (mt_leaf_ok (fr_aload)) (mt_leaf_ok (fr_aload))))) (mt_node_ok (mt_node_ok (mt_leaf_ok (fr_get)) (mt_node_ok (mt_leaf_ok (fr_push)) (mt_leaf_ok (fr_bin)))) (mt_node_ok (mt_leaf_ok (rfl)) (mt_node_ok (mt_leaf_ok ((fr_put (by decide)))) (mt_leaf_ok (fr_push))))))) (mt_node_ok (mt_node_ok (mt_node_ok (mt_node_ok (mt_leaf_ok (trivial)) (mt_node_ok (mt_leaf_ok (fr_aload)) (mt_leaf_ok (fr_aload)))) (mt_node_ok (mt_leaf_ok (fr_aload)) (mt_node_ok (mt_leaf_ok (fr_get)) (mt_leaf_ok (fr_push))))) (mt_node_ok (mt_node_ok (mt_leaf_ok (fr_bin)) (mt_node_ok (mt_leaf_ok (rfl)) (mt_leaf_ok (fr_un)))) (mt_node_ok (mt_leaf_ok ((fr_put (by decide)))) (mt_node_ok (mt_leaf_ok (fr_aload)) (mt_leaf_ok (fr_aload)))))) (mt_node_ok (mt_node_ok (mt_node_ok (mt_leaf_ok (fr_aload)) (mt_node_ok (mt_leaf_ok (fr_get)) (mt_leaf_ok (fr_push)))) (mt_node_ok (mt_leaf_ok (fr_bin)) (mt_node_ok (mt_leaf_ok (rfl)) (mt_leaf_ok (rfl))))) (mt_node_ok (mt_node_ok (mt_leaf_ok (trivial)) (mt_node_ok (mt_leaf_ok (fr_aload)) (mt_leaf_ok (fr_aload)))) (mt_node_ok (mt_leaf_ok (fr_aload)) (mt_node_ok (mt_leaf_ok (fr_get)) (mt_leaf_ok (fr_push)))))))
theorem fw_87_3 {g : xe_G} : mt_all (frP [5] fwS) (mb_87_3 g) := mt_node_ok (mt_node_ok (mt_node_ok (mt_node_ok (mt_leaf_ok (fr_bin)) (mt_leaf_ok (rfl))) (mt_node_ok (mt_leaf_ok (fr_push)) (mt_leaf_ok (rfl)))) (mt_node_ok (mt_node_ok (mt_leaf_ok (trivial)) (mt_leaf_ok (fr_aload))) (mt_node_ok (mt_leaf_ok (fr_aload)) (mt_node_ok (mt_leaf_ok (fr_aload)) (mt_leaf_ok (fr_get)))))) (mt_node_ok (mt_node_ok (mt_node_ok (mt_leaf_ok (fr_push)) (mt_leaf_ok (fr_bin))) (mt_node_ok (mt_leaf_ok (rfl)) (mt_leaf_ok (fr_push)))) (mt_node_ok (mt_node_ok (mt_leaf_ok (rfl)) (mt_leaf_ok (trivial))) (mt_node_ok (mt_leaf_ok (fr_aload)) (mt_node_ok (mt_leaf_ok (rfl)) (mt_leaf_ok (trivial))))))
theorem fw_87 {g : xe_G} : mt_all (frP [5] fwS) (mb_87 g).2.1 := mt_node_ok (mt_node_ok ((fw_87_0 (g := g))) ((fw_87_1 (g := g)))) (mt_node_ok ((fw_87_2 (g := g))) ((fw_87_3 (g := g))))
theorem fw_88_0 {g : xe_G} : mt_all (frP [5] fwS) (mb_88_0 g) := mt_node_ok (mt_node_ok (mt_node_ok (mt_node_ok (mt_node_ok (mt_leaf_ok (fr_aload)) (mt_node_ok (mt_leaf_ok (fr_get)) (mt_leaf_ok (fr_push)))) (mt_node_ok (mt_leaf_ok (fr_if2)) (mt_node_ok (mt_leaf_ok (fr_push)) (mt_leaf_ok (trivial))))) (mt_node_ok (mt_node_ok (mt_leaf_ok (fr_aload)) (mt_node_ok (mt_leaf_ok (fr_aload)) (mt_leaf_ok (fr_aload)))) (mt_node_ok (mt_leaf_ok (fr_get)) (mt_node_ok (mt_leaf_ok (fr_push)) (mt_leaf_ok (fr_bin)))))) (mt_node_ok (mt_node_ok (mt_node_ok (mt_leaf_ok (rfl)) (mt_node_ok (mt_leaf_ok ((fr_put (by decide)))) (mt_leaf_ok (fr_aload)))) (mt_node_ok (mt_leaf_ok (fr_get)) (mt_node_ok (mt_leaf_ok (fr_sw)) (mt_leaf_ok (fr_aload))))) (mt_node_ok (mt_node_ok (mt_leaf_ok (fr_aload)) (mt_node_ok (mt_leaf_ok (fr_aload)) (mt_leaf_ok (fr_get)))) (mt_node_ok (mt_leaf_ok (fr_push)) (mt_node_ok (mt_leaf_ok (fr_bin)) (mt_leaf_ok (rfl))))))) (mt_node_ok (mt_node_ok (mt_node_ok (mt_node_ok (mt_leaf_ok ((fr_put (by decide)))) (mt_node_ok (mt_leaf_ok (fr_push)) (mt_leaf_ok (trivial)))) (mt_node_ok (mt_leaf_ok (fr_aload)) (mt_node_ok (mt_leaf_ok (fr_aload)) (mt_leaf_ok (fr_aload))))) (mt_node_ok (mt_node_ok (mt_leaf_ok (fr_get)) (mt_node_ok (mt_leaf_ok (fr_push)) (mt_leaf_ok (fr_bin)))) (mt_node_ok (mt_leaf_ok (rfl)) (mt_node_ok (mt_leaf_ok ((fr_put (by decide)))) (mt_leaf_ok (fr_aload)))))) (mt_node_ok (mt_node_ok (mt_node_ok (mt_leaf_ok (fr_aload)) (mt_node_ok (mt_leaf_ok (fr_get)) (mt_leaf_ok (fr_push)))) (mt_node_ok (mt_leaf_ok (fr_bin)) (mt_node_ok (mt_leaf_ok (rfl)) (mt_leaf_ok (fr_if))))) (mt_node_ok (mt_node_ok (mt_leaf_ok (fr_push)) (mt_node_ok (mt_leaf_ok (fr_goto)) (mt_leaf_ok (fr_push)))) (mt_node_ok (mt_leaf_ok (trivial)) (mt_node_ok (mt_leaf_ok (fr_aload)) (mt_leaf_ok (fr_aload)))))))
theorem fw_88_1 {g : xe_G} : mt_all (frP [5] fwS) (mb_88_1 g) := mt_node_ok (mt_node_ok (mt_node_ok (mt_leaf_ok (fr_get)) (mt_leaf_ok (fr_push))) (mt_node_ok (mt_leaf_ok (fr_bin)) (mt_node_ok (mt_leaf_ok (rfl)) (mt_leaf_ok (fr_if))))) (mt_node_ok (mt_node_ok (mt_leaf_ok (fr_push)) (mt_node_ok (mt_leaf_ok (fr_goto)) (mt_leaf_ok (fr_push)))) (mt_node_ok (mt_leaf_ok (trivial)) (mt_node_ok (mt_leaf_ok (fr_push)) (mt_leaf_ok (trivial)))))
theorem fw_88 {g : xe_G} : mt_all (frP [5] fwS) (mb_88 g).2.1 := mt_node_ok ((fw_88_0 (g := g))) ((fw_88_1 (g := g)))
theorem fw_89_0 {g : xe_G} : mt_all (frP [5] fwS) (mb_89_0 g) := mt_node_ok (mt_node_ok (mt_node_ok (mt_leaf_ok (fr_aload)) (mt_leaf_ok (fr_get))) (mt_node_ok (mt_leaf_ok (fr_if)) (mt_node_ok (mt_leaf_ok (fr_aload)) (mt_leaf_ok (rfl))))) (mt_node_ok (mt_node_ok (mt_leaf_ok (fr_if)) (mt_leaf_ok (fr_push))) (mt_node_ok (mt_leaf_ok (fr_goto)) (mt_node_ok (mt_leaf_ok (fr_push)) (mt_leaf_ok (trivial)))))
theorem fw_89 {g : xe_G} : mt_all (frP [5] fwS) (mb_89 g).2.1 := (fw_89_0 (g := g))
theorem fw_90_0 {g : xe_G} : mt_all (frP [5] fwS) (mb_90_0 g) := mt_node_ok (mt_node_ok (mt_node_ok (mt_leaf_ok (fr_aload)) (mt_leaf_ok (fr_iload))) (mt_node_ok (mt_leaf_ok ((fr_put (by decide)))) (mt_node_ok (mt_leaf_ok (fr_aload)) (mt_leaf_ok (fr_iload))))) (mt_node_ok (mt_node_ok (mt_leaf_ok ((fr_put (by decide)))) (mt_node_ok (mt_leaf_ok (fr_aload)) (mt_leaf_ok (fr_push)))) (mt_node_ok (mt_leaf_ok ((fr_put (by decide)))) (mt_node_ok (mt_leaf_ok (fr_push)) (mt_leaf_ok (trivial)))))
theorem fw_90 {g : xe_G} : mt_all (frP [5] fwS) (mb_90 g).2.1 := (fw_90_0 (g := g))
theorem fw_91_0 {g : xe_G} : mt_all (frP [5] fwS) (mb_91_0 g) := mt_node_ok (mt_node_ok (mt_node_ok (mt_node_ok (mt_leaf_ok (fr_iload)) (mt_leaf_ok (fr_push))) (mt_node_ok (mt_leaf_ok (fr_if2)) (mt_leaf_ok (fr_iload)))) (mt_node_ok (mt_node_ok (mt_leaf_ok (fr_push)) (mt_leaf_ok (fr_if2))) (mt_node_ok (mt_leaf_ok (fr_iload)) (mt_node_ok (mt_leaf_ok (fr_push)) (mt_leaf_ok (fr_if2)))))) (mt_node_ok (mt_node_ok (mt_node_ok (mt_leaf_ok (fr_iload)) (mt_leaf_ok (fr_push))) (mt_node_ok (mt_leaf_ok (fr_if2)) (mt_node_ok (mt_leaf_ok (fr_iload)) (mt_leaf_ok (fr_push))))) (mt_node_ok (mt_node_ok (mt_leaf_ok (fr_if2)) (mt_leaf_ok (fr_push))) (mt_node_ok (mt_leaf_ok (fr_goto)) (mt_node_ok (mt_leaf_ok (fr_push)) (mt_leaf_ok (trivial))))))
theorem fw_91 {g : xe_G} : mt_all (frP [5] fwS) (mb_91 g).2.1 := (fw_91_0 (g := g))
theorem fw_92_0 {g : xe_G} : mt_all (frP [5] fwS) (mb_92_0 g) := mt_node_ok (mt_node_ok (mt_node_ok (mt_node_ok (mt_node_ok (mt_leaf_ok (fr_aload)) (mt_leaf_ok (fr_get))) (mt_node_ok (mt_leaf_ok (fr_push)) (mt_leaf_ok (fr_if2)))) (mt_node_ok (mt_node_ok (mt_leaf_ok (fr_aload)) (mt_leaf_ok (fr_get))) (mt_node_ok (mt_leaf_ok (fr_push)) (mt_leaf_ok (fr_if2))))) (mt_node_ok (mt_node_ok (mt_node_ok (mt_leaf_ok (fr_aload)) (mt_leaf_ok (fr_get))) (mt_node_ok (mt_leaf_ok (fr_push)) (mt_leaf_ok (fr_if2)))) (mt_node_ok (mt_node_ok (mt_leaf_ok (fr_aload)) (mt_leaf_ok (fr_get))) (mt_node_ok (mt_leaf_ok (fr_push)) (mt_leaf_ok (fr_if2)))))) (mt_node_ok (mt_node_ok (mt_node_ok (mt_node_ok (mt_leaf_ok (fr_push)) (mt_leaf_ok (fr_goto))) (mt_node_ok (mt_leaf_ok (fr_push)) (mt_leaf_ok (fr_isto)))) (mt_node_ok (mt_node_ok (mt_leaf_ok (fr_aload)) (mt_leaf_ok (fr_iload))) (mt_node_ok (mt_leaf_ok (fr_if)) (mt_leaf_ok (fr_push))))) (mt_node_ok (mt_node_ok (mt_node_ok (mt_leaf_ok (fr_goto)) (mt_leaf_ok (fr_push))) (mt_node_ok (mt_leaf_ok ((fr_put (by decide)))) (mt_leaf_ok (fr_aload)))) (mt_node_ok (mt_node_ok (mt_leaf_ok (fr_iload)) (mt_leaf_ok ((fr_put (by decide))))) (mt_node_ok (mt_leaf_ok (fr_push)) (mt_leaf_ok (trivial))))))
theorem fw_92 {g : xe_G} : mt_all (frP [5] fwS) (mb_92 g).2.1 := (fw_92_0 (g := g))
theorem fw_93_0 {g : xe_G} : mt_all (frP [5] fwS) (mb_93_0 g) := mt_node_ok (mt_node_ok (mt_node_ok (mt_node_ok (mt_node_ok (mt_leaf_ok (fr_aload)) (mt_node_ok (mt_leaf_ok (fr_get)) (mt_leaf_ok (fr_aload)))) (mt_node_ok (mt_leaf_ok (fr_get)) (mt_node_ok (mt_leaf_ok (fr_bin)) (mt_leaf_ok (fr_push))))) (mt_node_ok (mt_node_ok (mt_leaf_ok (fr_if2)) (mt_node_ok (mt_leaf_ok (fr_push)) (mt_leaf_ok (trivial)))) (mt_node_ok (mt_leaf_ok (fr_aload)) (mt_node_ok (mt_leaf_ok (fr_aload)) (mt_leaf_ok (fr_aload)))))) (mt_node_ok (mt_node_ok (mt_node_ok (mt_leaf_ok (fr_get)) (mt_node_ok (mt_leaf_ok (fr_push)) (mt_leaf_ok (fr_bin)))) (mt_node_ok (mt_leaf_ok (rfl)) (mt_node_ok (mt_leaf_ok ((fr_put (by decide)))) (mt_leaf_ok (fr_aload))))) (mt_node_ok (mt_node_ok (mt_leaf_ok (fr_get)) (mt_node_ok (mt_leaf_ok (fr_if)) (mt_leaf_ok (fr_aload)))) (mt_node_ok (mt_leaf_ok (fr_get)) (mt_node_ok (mt_leaf_ok (fr_aload)) (mt_leaf_ok (fr_get))))))) (mt_node_ok (mt_node_ok (mt_node_ok (mt_node_ok (mt_leaf_ok (fr_aload)) (mt_node_ok (mt_leaf_ok (fr_get)) (mt_leaf_ok (fr_bin)))) (mt_node_ok (mt_leaf_ok (fr_push)) (mt_node_ok (mt_leaf_ok (fr_bin)) (mt_leaf_ok (fr_push))))) (mt_node_ok (mt_node_ok (mt_leaf_ok (fr_div)) (mt_node_ok (mt_leaf_ok (fr_if2)) (mt_leaf_ok (fr_push)))) (mt_node_ok (mt_leaf_ok (trivial)) (mt_node_ok (mt_leaf_ok (fr_aload)) (mt_leaf_ok (fr_aload)))))) (mt_node_ok (mt_node_ok (mt_node_ok (mt_leaf_ok (fr_get)) (mt_node_ok (mt_leaf_ok (fr_push)) (mt_leaf_ok (fr_bin)))) (mt_node_ok (mt_leaf_ok ((fr_put (by decide)))) (mt_node_ok (mt_leaf_ok (fr_aload)) (mt_leaf_ok (fr_aload))))) (mt_node_ok (mt_node_ok (mt_leaf_ok (fr_get)) (mt_node_ok (mt_leaf_ok (fr_push)) (mt_leaf_ok (fr_bin)))) (mt_node_ok (mt_leaf_ok (fr_push)) (mt_node_ok (mt_leaf_ok (fr_aload)) (mt_leaf_ok (fr_get)))))))
theorem fw_93_1 {g : xe_G} : mt_all (frP [5] fwS) (mb_93_1 g) := mt_node_ok (mt_node_ok (mt_node_ok (mt_node_ok (mt_leaf_ok (fr_bin)) (mt_node_ok (mt_leaf_ok (fr_bin)) (mt_leaf_ok (fr_aload)))) (mt_node_ok (mt_leaf_ok (fr_get)) (mt_node_ok (mt_leaf_ok (fr_bin)) (mt_leaf_ok ((fr_put (by decide))))))) (mt_node_ok (mt_node_ok (mt_leaf_ok (fr_push)) (mt_node_ok (mt_leaf_ok (fr_isto)) (mt_leaf_ok (fr_iload)))) (mt_node_ok (mt_node_ok (mt_leaf_ok (fr_aload)) (mt_leaf_ok (fr_get))) (mt_node_ok (mt_leaf_ok (fr_if2)) (mt_leaf_ok (fr_aload)))))) (mt_node_ok (mt_node_ok (mt_node_ok (mt_leaf_ok (fr_iload)) (mt_node_ok (mt_leaf_ok (fr_push)) (mt_leaf_ok (fr_bin)))) (mt_node_ok (mt_node_ok (mt_leaf_ok (rfl)) (mt_leaf_ok (fr_aload))) (mt_node_ok (mt_leaf_ok (fr_iload)) (mt_leaf_ok (rfl))))) (mt_node_ok (mt_node_ok (mt_leaf_ok (fr_if2)) (mt_node_ok (mt_leaf_ok (fr_push)) (mt_leaf_ok (trivial)))) (mt_node_ok (mt_node_ok (mt_leaf_ok (fr_iinc)) (mt_leaf_ok (fr_goto))) (mt_node_ok (mt_leaf_ok (fr_push)) (mt_leaf_ok (trivial))))))
theorem fw_93 {g : xe_G} : mt_all (frP [5] fwS) (mb_93 g).2.1 := mt_node_ok ((fw_93_0 (g := g))) ((fw_93_1 (g := g)))
theorem fw_94_0 {g : xe_G} : mt_all (frP [5] fwS) (mb_94_0 g) := mt_node_ok (mt_node_ok (mt_node_ok (mt_leaf_ok (fr_aload)) (mt_node_ok (mt_leaf_ok (fr_iload)) (mt_leaf_ok (fr_iload)))) (mt_node_ok (mt_leaf_ok (fr_push)) (mt_node_ok (mt_leaf_ok (fr_div)) (mt_leaf_ok (fr_bin))))) (mt_node_ok (mt_node_ok (mt_leaf_ok ((fr_put (by decide)))) (mt_node_ok (mt_leaf_ok (fr_aload)) (mt_leaf_ok (fr_iload)))) (mt_node_ok (mt_node_ok (mt_leaf_ok (fr_push)) (mt_leaf_ok (fr_div))) (mt_node_ok (mt_leaf_ok (rfl)) (mt_leaf_ok (trivial)))))
theorem fw_94 {g : xe_G} : mt_all (frP [5] fwS) (mb_94 g).2.1 := (fw_94_0 (g := g))
theorem fw_95_0 {g : xe_G} : mt_all (frP [5] fwS) (mb_95_0 g) := mt_node_ok (mt_node_ok (mt_node_ok (mt_leaf_ok (fr_aload)) (mt_node_ok (mt_leaf_ok (fr_get)) (mt_leaf_ok (fr_push)))) (mt_node_ok (mt_leaf_ok (fr_if2)) (mt_node_ok (mt_leaf_ok (fr_aload)) (mt_leaf_ok (fr_get))))) (mt_node_ok (mt_node_ok (mt_leaf_ok (fr_push)) (mt_node_ok (mt_leaf_ok (fr_if2)) (mt_leaf_ok (fr_push)))) (mt_node_ok (mt_leaf_ok (fr_goto)) (mt_node_ok (mt_leaf_ok (fr_push)) (mt_leaf_ok (trivial)))))
theorem fw_95 {g : xe_G} : mt_all (frP [5] fwS) (mb_95 g).2.1 := (fw_95_0 (g := g))
theorem fw_96_0 {g : xe_G} : mt_all (frP [5] fwS) (mb_96_0 g) := mt_node_ok (mt_node_ok (mt_node_ok (mt_node_ok (mt_node_ok (mt_leaf_ok (fr_aload)) (mt_leaf_ok (fr_aload))) (mt_node_ok (mt_leaf_ok (fr_get)) (mt_leaf_ok (fr_push)))) (mt_node_ok (mt_node_ok (mt_leaf_ok (fr_bin)) (mt_leaf_ok (fr_push))) (mt_node_ok (mt_leaf_ok (fr_bin)) (mt_leaf_ok ((fr_put (by decide))))))) (mt_node_ok (mt_node_ok (mt_node_ok (mt_leaf_ok (fr_aload)) (mt_leaf_ok (fr_get))) (mt_node_ok (mt_leaf_ok (fr_push)) (mt_leaf_ok (fr_bin)))) (mt_node_ok (mt_node_ok (mt_leaf_ok (fr_isto)) (mt_leaf_ok (fr_iload))) (mt_node_ok (mt_leaf_ok (fr_aload)) (mt_node_ok (mt_leaf_ok (fr_get)) (mt_leaf_ok (fr_if2))))))) (mt_node_ok (mt_node_ok (mt_node_ok (mt_node_ok (mt_leaf_ok (fr_aload)) (mt_leaf_ok (fr_iload))) (mt_node_ok (mt_leaf_ok (rfl)) (mt_leaf_ok (fr_if)))) (mt_node_ok (mt_node_ok (mt_leaf_ok (fr_push)) (mt_leaf_ok (trivial))) (mt_node_ok (mt_leaf_ok (fr_iinc)) (mt_node_ok (mt_leaf_ok (fr_goto)) (mt_leaf_ok (fr_aload)))))) (mt_node_ok (mt_node_ok (mt_node_ok (mt_leaf_ok (fr_get)) (mt_leaf_ok (fr_push))) (mt_node_ok (mt_leaf_ok (fr_if2)) (mt_leaf_ok (fr_aload)))) (mt_node_ok (mt_node_ok (mt_leaf_ok (rfl)) (mt_leaf_ok (fr_goto))) (mt_node_ok (mt_leaf_ok (fr_aload)) (mt_node_ok (mt_leaf_ok (rfl)) (mt_leaf_ok (trivial)))))))
theorem fw_96 {g : xe_G} : mt_all (frP [5] fwS) (mb_96 g).2.1 := (fw_96_0 (g := g))
theorem fw_97_0 {g : xe_G} : mt_all (frP [5] fwS) (mb_97_0 g) := mt_node_ok (mt_node_ok (mt_node_ok (mt_node_ok (mt_node_ok (mt_leaf_ok (fr_aload)) (mt_node_ok (mt_leaf_ok (fr_get)) (mt_leaf_ok (fr_aload)))) (mt_node_ok (mt_leaf_ok (fr_get)) (mt_node_ok (mt_leaf_ok (fr_bin)) (mt_leaf_ok (fr_push))))) (mt_node_ok (mt_node_ok (mt_leaf_ok (fr_if2)) (mt_node_ok (mt_leaf_ok (fr_push)) (mt_leaf_ok (trivial)))) (mt_node_ok (mt_leaf_ok (fr_aload)) (mt_node_ok (mt_leaf_ok (fr_aload)) (mt_leaf_ok (fr_aload)))))) (mt_node_ok (mt_node_ok (mt_node_ok (mt_leaf_ok (fr_get)) (mt_node_ok (mt_leaf_ok (fr_push)) (mt_leaf_ok (fr_bin)))) (mt_node_ok (mt_leaf_ok (rfl)) (mt_node_ok (mt_leaf_ok ((fr_put (by decide)))) (mt_leaf_ok (fr_aload))))) (mt_node_ok (mt_node_ok (mt_leaf_ok (fr_aload)) (mt_node_ok (mt_leaf_ok (fr_aload)) (mt_leaf_ok (fr_get)))) (mt_node_ok (mt_leaf_ok (fr_push)) (mt_node_ok (mt_leaf_ok (fr_bin)) (mt_leaf_ok (rfl))))))) (mt_node_ok (mt_node_ok (mt_node_ok (mt_node_ok (mt_leaf_ok ((fr_put (by decide)))) (mt_node_ok (mt_leaf_ok (fr_aload)) (mt_leaf_ok (fr_get)))) (mt_node_ok (mt_leaf_ok (fr_i2l)) (mt_node_ok (mt_leaf_ok (fr_aload)) (mt_leaf_ok (fr_get))))) (mt_node_ok (mt_node_ok (mt_leaf_ok (fr_i2l)) (mt_node_ok (mt_leaf_ok (fr_binL)) (mt_leaf_ok (fr_push)))) (mt_node_ok (mt_leaf_ok (fr_binL)) (mt_node_ok (mt_leaf_ok (fr_lsto)) (mt_leaf_ok (fr_lload)))))) (mt_node_ok (mt_node_ok (mt_node_ok (mt_leaf_ok (fr_push)) (mt_node_ok (mt_leaf_ok (fr_lcmp)) (mt_leaf_ok (fr_if)))) (mt_node_ok (mt_leaf_ok (fr_lload)) (mt_node_ok (mt_leaf_ok (fr_push)) (mt_leaf_ok (fr_binL))))) (mt_node_ok (mt_node_ok (mt_leaf_ok (fr_aload)) (mt_node_ok (mt_leaf_ok (fr_get)) (mt_leaf_ok (fr_aload)))) (mt_node_ok (mt_leaf_ok (fr_get)) (mt_node_ok (mt_leaf_ok (fr_bin)) (mt_leaf_ok (fr_push)))))))
theorem fw_97_1 {g : xe_G} : mt_all (frP [5] fwS) (mb_97_1 g) := mt_node_ok (mt_node_ok (mt_node_ok (mt_node_ok (mt_leaf_ok (fr_bin)) (mt_node_ok (mt_leaf_ok (fr_i2l)) (mt_leaf_ok (fr_lcmp)))) (mt_node_ok (mt_node_ok (mt_leaf_ok (fr_if)) (mt_leaf_ok (fr_push))) (mt_node_ok (mt_leaf_ok (trivial)) (mt_leaf_ok (fr_aload))))) (mt_node_ok (mt_node_ok (mt_leaf_ok (fr_lload)) (mt_node_ok (mt_leaf_ok (fr_l2i)) (mt_leaf_ok (fr_push)))) (mt_node_ok (mt_node_ok (mt_leaf_ok (fr_bin)) (mt_leaf_ok ((fr_put (by decide))))) (mt_node_ok (mt_leaf_ok (fr_aload)) (mt_leaf_ok (fr_aload)))))) (mt_node_ok (mt_node_ok (mt_node_ok (mt_leaf_ok (fr_get)) (mt_node_ok (mt_leaf_ok (fr_push)) (mt_leaf_ok (fr_bin)))) (mt_node_ok (mt_node_ok (mt_leaf_ok (fr_push)) (mt_leaf_ok (fr_lload))) (mt_node_ok (mt_leaf_ok (fr_l2i)) (mt_leaf_ok (fr_bin))))) (mt_node_ok (mt_node_ok (mt_leaf_ok (fr_bin)) (mt_node_ok (mt_leaf_ok (fr_aload)) (mt_leaf_ok (fr_get)))) (mt_node_ok (mt_node_ok (mt_leaf_ok (fr_bin)) (mt_leaf_ok ((fr_put (by decide))))) (mt_node_ok (mt_leaf_ok (fr_push)) (mt_leaf_ok (trivial))))))
theorem fw_97 {g : xe_G} : mt_all (frP [5] fwS) (mb_97 g).2.1 := mt_node_ok ((fw_97_0 (g := g))) ((fw_97_1 (g := g)))
theorem fw_98_0 {g : xe_G} : mt_all (frP [5] fwS) (mb_98_0 g) := mt_node_ok (mt_node_ok (mt_node_ok (mt_node_ok (mt_node_ok (mt_leaf_ok (fr_aload)) (mt_node_ok (mt_leaf_ok (fr_iload)) (mt_leaf_ok ((fr_put (by decide)))))) (mt_node_ok (mt_leaf_ok (fr_aload)) (mt_node_ok (mt_leaf_ok (fr_aload)) (mt_leaf_ok (fr_iload))))) (mt_node_ok (mt_node_ok (mt_leaf_ok (rfl)) (mt_node_ok (mt_leaf_ok ((fr_put (by decide)))) (mt_leaf_ok (fr_aload)))) (mt_node_ok (mt_leaf_ok (fr_push)) (mt_node_ok (mt_leaf_ok ((fr_put (by decide)))) (mt_leaf_ok (fr_aload)))))) (mt_node_ok (mt_node_ok (mt_node_ok (mt_leaf_ok (fr_push)) (mt_node_ok (mt_leaf_ok ((fr_put (by decide)))) (mt_leaf_ok (fr_aload)))) (mt_node_ok (mt_leaf_ok (fr_push)) (mt_node_ok (mt_leaf_ok ((fr_put (by decide)))) (mt_leaf_ok (fr_aload))))) (mt_node_ok (mt_node_ok (mt_leaf_ok (fr_push)) (mt_node_ok (mt_leaf_ok ((fr_put (by decide)))) (mt_leaf_ok (fr_aload)))) (mt_node_ok (mt_leaf_ok (fr_push)) (mt_node_ok (mt_leaf_ok ((fr_put (by decide)))) (mt_leaf_ok (fr_iload))))))) (mt_node_ok (mt_node_ok (mt_node_ok (mt_node_ok (mt_leaf_ok (fr_if)) (mt_node_ok (mt_leaf_ok (fr_iload)) (mt_leaf_ok (fr_aload)))) (mt_node_ok (mt_leaf_ok (fr_get)) (mt_node_ok (mt_leaf_ok (fr_if2)) (mt_leaf_ok (fr_aload))))) (mt_node_ok (mt_node_ok (mt_leaf_ok (fr_get)) (mt_node_ok (mt_leaf_ok (fr_push)) (mt_leaf_ok (fr_if2)))) (mt_node_ok (mt_leaf_ok (fr_push)) (mt_node_ok (mt_leaf_ok (trivial)) (mt_leaf_ok (fr_aload)))))) (mt_node_ok (mt_node_ok (mt_node_ok (mt_leaf_ok (rfl)) (mt_node_ok (mt_leaf_ok (fr_if)) (mt_leaf_ok (fr_aload)))) (mt_node_ok (mt_leaf_ok (rfl)) (mt_node_ok (mt_leaf_ok (trivial)) (mt_leaf_ok (fr_aload))))) (mt_node_ok (mt_node_ok (mt_leaf_ok (fr_get)) (mt_node_ok (mt_leaf_ok (fr_push)) (mt_leaf_ok (fr_if2)))) (mt_node_ok (mt_leaf_ok (fr_aload)) (mt_node_ok (mt_leaf_ok (rfl)) (mt_leaf_ok (trivial)))))))
theorem fw_98_1 {g : xe_G} : mt_all (frP [5] fwS) (mb_98_1 g) := mt_node_ok (mt_node_ok (mt_node_ok (mt_node_ok (mt_leaf_ok (fr_aload)) (mt_leaf_ok (fr_aload))) (mt_node_ok (mt_leaf_ok (fr_get)) (mt_node_ok (mt_leaf_ok (rfl)) (mt_leaf_ok ((fr_put (by decide))))))) (mt_node_ok (mt_node_ok (mt_leaf_ok (fr_aload)) (mt_leaf_ok (fr_get))) (mt_node_ok (mt_leaf_ok (fr_aload)) (mt_node_ok (mt_leaf_ok (fr_get)) (mt_leaf_ok (fr_aload)))))) (mt_node_ok (mt_node_ok (mt_node_ok (mt_leaf_ok (fr_get)) (mt_leaf_ok (fr_bin))) (mt_node_ok (mt_leaf_ok (fr_if2)) (mt_node_ok (mt_leaf_ok (fr_aload)) (mt_leaf_ok (rfl))))) (mt_node_ok (mt_node_ok (mt_leaf_ok (fr_if)) (mt_leaf_ok (fr_push))) (mt_node_ok (mt_leaf_ok (fr_goto)) (mt_node_ok (mt_leaf_ok (fr_push)) (mt_leaf_ok (trivial))))))
theorem fw_98 {g : xe_G} : mt_all (frP [5] fwS) (mb_98 g).2.1 := mt_node_ok ((fw_98_0 (g := g))) ((fw_98_1 (g := g)))
theorem fw_99_0 {g : xe_G} : mt_all (frP [5] fwS) (mb_99_0 g) := mt_node_ok (mt_node_ok (mt_node_ok (mt_node_ok (mt_node_ok (mt_leaf_ok (fr_aload)) (mt_node_ok (mt_leaf_ok (fr_get)) (mt_leaf_ok (fr_aload)))) (mt_node_ok (mt_leaf_ok (fr_get)) (mt_node_ok (mt_leaf_ok (fr_bin)) (mt_leaf_ok (fr_push))))) (mt_node_ok (mt_node_ok (mt_leaf_ok (fr_if2)) (mt_node_ok (mt_leaf_ok (fr_push)) (mt_leaf_ok (trivial)))) (mt_node_ok (mt_leaf_ok (fr_aload)) (mt_node_ok (mt_leaf_ok (fr_aload)) (mt_leaf_ok (fr_aload)))))) (mt_node_ok (mt_node_ok (mt_node_ok (mt_leaf_ok (fr_get)) (mt_node_ok (mt_leaf_ok (fr_push)) (mt_leaf_ok (fr_bin)))) (mt_node_ok (mt_leaf_ok (rfl)) (mt_node_ok (mt_leaf_ok ((fr_put (by decide)))) (mt_leaf_ok (fr_aload))))) (mt_node_ok (mt_node_ok (mt_leaf_ok (fr_get)) (mt_node_ok (mt_leaf_ok (fr_push)) (mt_leaf_ok (fr_if2)))) (mt_node_ok (mt_leaf_ok (fr_aload)) (mt_node_ok (mt_leaf_ok (fr_push)) (mt_leaf_ok ((fr_put (by decide))))))))) (mt_node_ok (mt_node_ok (mt_node_ok (mt_node_ok (mt_leaf_ok (fr_aload)) (mt_node_ok (mt_leaf_ok (fr_aload)) (mt_leaf_ok (fr_aload)))) (mt_node_ok (mt_leaf_ok (fr_get)) (mt_node_ok (mt_leaf_ok (fr_push)) (mt_leaf_ok (fr_bin))))) (mt_node_ok (mt_node_ok (mt_leaf_ok (rfl)) (mt_node_ok (mt_leaf_ok (fr_un)) (mt_leaf_ok ((fr_put (by decide)))))) (mt_node_ok (mt_leaf_ok (fr_goto)) (mt_node_ok (mt_leaf_ok (fr_aload)) (mt_leaf_ok (fr_push)))))) (mt_node_ok (mt_node_ok (mt_node_ok (mt_leaf_ok ((fr_put (by decide)))) (mt_node_ok (mt_leaf_ok (fr_aload)) (mt_leaf_ok (fr_get)))) (mt_node_ok (mt_leaf_ok (fr_aload)) (mt_node_ok (mt_leaf_ok (fr_get)) (mt_leaf_ok (fr_aload))))) (mt_node_ok (mt_node_ok (mt_leaf_ok (fr_get)) (mt_node_ok (mt_leaf_ok (fr_bin)) (mt_leaf_ok (fr_if2)))) (mt_node_ok (mt_leaf_ok (fr_aload)) (mt_node_ok (mt_leaf_ok (fr_get)) (mt_leaf_ok (fr_push)))))))
theorem fw_99_1 {g : xe_G} : mt_all (frP [5] fwS) (mb_99_1 g) := mt_node_ok (mt_node_ok (mt_node_ok (mt_node_ok (mt_leaf_ok (fr_if2)) (mt_leaf_ok (fr_aload))) (mt_node_ok (mt_leaf_ok (fr_get)) (mt_leaf_ok (rfl)))) (mt_node_ok (mt_node_ok (mt_leaf_ok (fr_if)) (mt_leaf_ok (fr_push))) (mt_node_ok (mt_leaf_ok (trivial)) (mt_leaf_ok (fr_aload))))) (mt_node_ok (mt_node_ok (mt_node_ok (mt_leaf_ok (fr_aload)) (mt_leaf_ok (fr_aload))) (mt_node_ok (mt_leaf_ok (fr_get)) (mt_leaf_ok (fr_push)))) (mt_node_ok (mt_node_ok (mt_leaf_ok (fr_bin)) (mt_leaf_ok (rfl))) (mt_node_ok (mt_leaf_ok (rfl)) (mt_leaf_ok (trivial)))))
theorem fw_99 {g : xe_G} : mt_all (frP [5] fwS) (mb_99 g).2.1 := mt_node_ok ((fw_99_0 (g := g))) ((fw_99_1 (g := g)))
theorem fw_100_0 {g : xe_G} : mt_all (frP [5] fwS) (mb_100_0 g) := mt_node_ok (mt_node_ok (mt_node_ok (mt_node_ok (mt_leaf_ok (fr_iload)) (mt_node_ok (mt_leaf_ok (fr_if)) (mt_leaf_ok (fr_push)))) (mt_node_ok (mt_leaf_ok (trivial)) (mt_node_ok (mt_leaf_ok (fr_aload)) (mt_leaf_ok (fr_get))))) (mt_node_ok (mt_node_ok (mt_leaf_ok (fr_push)) (mt_node_ok (mt_leaf_ok (fr_if2)) (mt_leaf_ok (fr_aload)))) (mt_node_ok (mt_leaf_ok (fr_get)) (mt_node_ok (mt_leaf_ok (fr_iload)) (mt_leaf_ok (fr_bin)))))) (mt_node_ok (mt_node_ok (mt_node_ok (mt_leaf_ok (fr_push)) (mt_node_ok (mt_leaf_ok (fr_bin)) (mt_leaf_ok (fr_goto)))) (mt_node_ok (mt_leaf_ok (fr_aload)) (mt_node_ok (mt_leaf_ok (fr_aload)) (mt_leaf_ok (fr_get))))) (mt_node_ok (mt_node_ok (mt_leaf_ok (fr_push)) (mt_node_ok (mt_leaf_ok (fr_iload)) (mt_leaf_ok (fr_bin)))) (mt_node_ok (mt_leaf_ok (fr_bin)) (mt_node_ok (mt_leaf_ok (rfl)) (mt_leaf_ok (trivial))))))
theorem fw_100 {g : xe_G} : mt_all (frP [5] fwS) (mb_100 g).2.1 := (fw_100_0 (g := g))
theorem fw_101_0 {g : xe_G} : mt_all (frP [5] fwS) (mb_101_0 g) := mt_node_ok (mt_node_ok (mt_node_ok (mt_leaf_ok (fr_aload)) (mt_leaf_ok (fr_get))) (mt_node_ok (mt_leaf_ok (fr_aload)) (mt_leaf_ok (fr_get)))) (mt_node_ok (mt_node_ok (mt_leaf_ok (fr_iload)) (mt_leaf_ok (fr_bin))) (mt_node_ok (mt_leaf_ok (rfl)) (mt_leaf_ok (trivial))))
theorem fw_101 {g : xe_G} : mt_all (frP [5] fwS) (mb_101 g).2.1 := (fw_101_0 (g := g))
theorem fw_102_0 {g : xe_G} : mt_all (frP [5] fwS) (mb_102_0 g) := mt_node_ok (mt_node_ok (mt_node_ok (mt_node_ok (mt_leaf_ok (fr_iload)) (mt_node_ok (mt_leaf_ok (fr_push)) (mt_leaf_ok (fr_if2)))) (mt_node_ok (mt_node_ok (mt_leaf_ok (fr_iload)) (mt_leaf_ok (fr_push))) (mt_node_ok (mt_leaf_ok (fr_if2)) (mt_leaf_ok (fr_iload))))) (mt_node_ok (mt_node_ok (mt_node_ok (mt_leaf_ok (fr_push)) (mt_leaf_ok (fr_if2))) (mt_node_ok (mt_leaf_ok (fr_iload)) (mt_leaf_ok (fr_push)))) (mt_node_ok (mt_node_ok (mt_leaf_ok (fr_if2)) (mt_leaf_ok (fr_push))) (mt_node_ok (mt_leaf_ok (trivial)) (mt_leaf_ok (fr_iload)))))) (mt_node_ok (mt_node_ok (mt_node_ok (mt_node_ok (mt_leaf_ok (rfl)) (mt_leaf_ok (fr_if))) (mt_node_ok (mt_leaf_ok (fr_push)) (mt_leaf_ok (trivial)))) (mt_node_ok (mt_node_ok (mt_leaf_ok (fr_iload)) (mt_leaf_ok (fr_sw))) (mt_node_ok (mt_leaf_ok (fr_push)) (mt_leaf_ok (trivial))))) (mt_node_ok (mt_node_ok (mt_node_ok (mt_leaf_ok (fr_push)) (mt_leaf_ok (trivial))) (mt_node_ok (mt_leaf_ok (fr_push)) (mt_leaf_ok (trivial)))) (mt_node_ok (mt_node_ok (mt_leaf_ok (fr_push)) (mt_leaf_ok (trivial))) (mt_node_ok (mt_leaf_ok (fr_push)) (mt_leaf_ok (trivial))))))
theorem fw_102 {g : xe_G} : mt_all (frP [5] fwS) (mb_102 g).2.1 := (fw_102_0 (g := g))
theorem fw_103_0 {g : xe_G} : mt_all (frP [5] fwS) (mb_103_0 g) := mt_node_ok (mt_node_ok (mt_node_ok (mt_node_ok (mt_node_ok (mt_leaf_ok (fr_aload)) (mt_node_ok (mt_leaf_ok (rfl)) (mt_leaf_ok (fr_if)))) (mt_node_ok (mt_leaf_ok (fr_aload)) (mt_node_ok (mt_leaf_ok (fr_get)) (mt_leaf_ok (fr_i2l))))) (mt_node_ok (mt_node_ok (mt_leaf_ok (fr_aload)) (mt_node_ok (mt_leaf_ok (fr_get)) (mt_leaf_ok (fr_i2l)))) (mt_node_ok (mt_leaf_ok (fr_binL)) (mt_node_ok (mt_leaf_ok (trivial)) (mt_leaf_ok (fr_iload)))))) (mt_node_ok (mt_node_ok (mt_node_ok (mt_leaf_ok (fr_if)) (mt_node_ok (mt_leaf_ok (fr_aload)) (mt_leaf_ok (fr_get)))) (mt_node_ok (mt_leaf_ok (fr_i2l)) (mt_node_ok (mt_leaf_ok (fr_aload)) (mt_leaf_ok (fr_aload))))) (mt_node_ok (mt_node_ok (mt_leaf_ok (fr_get)) (mt_node_ok (mt_leaf_ok (rfl)) (mt_leaf_ok (fr_i2l)))) (mt_node_ok (mt_leaf_ok (fr_binL)) (mt_node_ok (mt_leaf_ok (trivial)) (mt_leaf_ok (fr_aload))))))) (mt_node_ok (mt_node_ok (mt_node_ok (mt_node_ok (mt_leaf_ok (fr_get)) (mt_node_ok (mt_leaf_ok (fr_i2l)) (mt_leaf_ok (fr_aload)))) (mt_node_ok (mt_leaf_ok (fr_aload)) (mt_node_ok (mt_leaf_ok (fr_get)) (mt_leaf_ok (fr_push))))) (mt_node_ok (mt_node_ok (mt_leaf_ok (fr_if2)) (mt_node_ok (mt_leaf_ok (fr_aload)) (mt_leaf_ok (fr_get)))) (mt_node_ok (mt_leaf_ok (fr_push)) (mt_node_ok (mt_leaf_ok (fr_bin)) (mt_leaf_ok (fr_push)))))) (mt_node_ok (mt_node_ok (mt_node_ok (mt_leaf_ok (fr_iload)) (mt_node_ok (mt_leaf_ok (fr_bin)) (mt_leaf_ok (fr_bin)))) (mt_node_ok (mt_leaf_ok (fr_goto)) (mt_node_ok (mt_leaf_ok (fr_aload)) (mt_leaf_ok (fr_get))))) (mt_node_ok (mt_node_ok (mt_leaf_ok (fr_push)) (mt_node_ok (mt_leaf_ok (fr_bin)) (mt_leaf_ok (fr_push)))) (mt_node_ok (mt_leaf_ok (fr_iload)) (mt_node_ok (mt_leaf_ok (fr_bin)) (mt_leaf_ok (fr_bin)))))))
theorem fw_103_1 {g : xe_G} : mt_all (frP [5] fwS) (mb_103_1 g) := mt_node_ok (mt_node_ok (mt_leaf_ok (rfl)) (mt_leaf_ok (fr_i2l))) (mt_node_ok (mt_leaf_ok (fr_binL)) (mt_leaf_ok (trivial)))
theorem fw_103 {g : xe_G} : mt_all (frP [5] fwS) (mb_103 g).2.1 := mt_node_ok ((fw_103_0 (g := g))) ((fw_103_1 (g := g)))
theorem fw_104_0 {g : xe_G} : mt_all (frP [5] fwS) (mb_104_0 g) := mt_node_ok (mt_node_ok (mt_node_ok (mt_leaf_ok (fr_aload)) (mt_leaf_ok (fr_get))) (mt_node_ok (mt_leaf_ok (fr_aload)) (mt_leaf_ok (fr_get)))) (mt_node_ok (mt_node_ok (mt_leaf_ok (fr_iload)) (mt_leaf_ok (fr_bin))) (mt_node_ok (mt_leaf_ok (rfl)) (mt_leaf_ok (trivial))))
theorem fw_104 {g : xe_G} : mt_all (frP [5] fwS) (mb_104 g).2.1 := (fw_104_0 (g := g))
theorem fw_105_0 {g : xe_G} : mt_all (frP [5] fwS) (mb_105_0 g) := mt_node_ok (mt_node_ok (mt_node_ok (mt_leaf_ok (fr_aload)) (mt_leaf_ok (fr_get))) (mt_node_ok (mt_leaf_ok (fr_aload)) (mt_leaf_ok (fr_get)))) (mt_node_ok (mt_node_ok (mt_leaf_ok (fr_iload)) (mt_leaf_ok (fr_bin))) (mt_node_ok (mt_leaf_ok (rfl)) (mt_leaf_ok (trivial))))
theorem fw_105 {g : xe_G} : mt_all (frP [5] fwS) (mb_105 g).2.1 := (fw_105_0 (g := g))
theorem fw_all {g : xe_G} : ∀ y b, fwS.elem y = true → ¬ False → mT g y = some b → mt_all (frP [5] fwS) b.2.1 := by
  intro y b hy hx hb
  have hy : y ∈ fwS := by simpa using hy
  simp only [fwS, List.mem_cons, List.not_mem_nil, or_false] at hy
  rcases hy with rfl | rfl | rfl | rfl | rfl | rfl | rfl | rfl | rfl | rfl | rfl | rfl | rfl | rfl | rfl | rfl | rfl | rfl | rfl | rfl | rfl | rfl | rfl | rfl | rfl | rfl
  · cases (show some (mb_48 g) = some b from hb)
    exact fw_48 (g := g)
  · cases (show some (mb_49 g) = some b from hb)
    exact fw_49 (g := g)
  · cases (show some (mb_50 g) = some b from hb)
    exact fw_50 (g := g)
  · cases (show some (mb_80 g) = some b from hb)
    exact fw_80 (g := g)
  · cases (show some (mb_81 g) = some b from hb)
    exact fw_81 (g := g)
  · cases (show some (mb_83 g) = some b from hb)
    exact fw_83 (g := g)
  · cases (show some (mb_84 g) = some b from hb)
    exact fw_84 (g := g)
  · cases (show some (mb_87 g) = some b from hb)
    exact fw_87 (g := g)
  · cases (show some (mb_88 g) = some b from hb)
    exact fw_88 (g := g)
  · cases (show some (mb_89 g) = some b from hb)
    exact fw_89 (g := g)
  · cases (show some (mb_90 g) = some b from hb)
    exact fw_90 (g := g)
  · cases (show some (mb_91 g) = some b from hb)
    exact fw_91 (g := g)
  · cases (show some (mb_92 g) = some b from hb)
    exact fw_92 (g := g)
  · cases (show some (mb_93 g) = some b from hb)
    exact fw_93 (g := g)
  · cases (show some (mb_94 g) = some b from hb)
    exact fw_94 (g := g)
  · cases (show some (mb_95 g) = some b from hb)
    exact fw_95 (g := g)
  · cases (show some (mb_96 g) = some b from hb)
    exact fw_96 (g := g)
  · cases (show some (mb_97 g) = some b from hb)
    exact fw_97 (g := g)
  · cases (show some (mb_98 g) = some b from hb)
    exact fw_98 (g := g)
  · cases (show some (mb_99 g) = some b from hb)
    exact fw_99 (g := g)
  · cases (show some (mb_100 g) = some b from hb)
    exact fw_100 (g := g)
  · cases (show some (mb_101 g) = some b from hb)
    exact fw_101 (g := g)
  · cases (show some (mb_102 g) = some b from hb)
    exact fw_102 (g := g)
  · cases (show some (mb_103 g) = some b from hb)
    exact fw_103 (g := g)
  · cases (show some (mb_104 g) = some b from hb)
    exact fw_104 (g := g)
  · cases (show some (mb_105 g) = some b from hb)
    exact fw_105 (g := g)
theorem fw_run {g : xe_G} {y : Nat} {a : List Value} {M : mi_H} (hy : fwS.elem y = true) : pt (mT g) y a M (fun _ M' => frC [5] M M') := fun n d r h => fr_run (X := fun _ => False) (fun y b h1 _ h2 => fw_all y b h1 id h2) (fun _ _ _ _ _ _ h => h.elim) n d y a M r hy h
set_option maxHeartbeats 2000000 in
theorem dk_cutUp {g : xe_G} {M : mi_H} {o p9 on : Nat} {a0 a1 a2 a3 a4 a6 a8 : Int32} {v9 v10 : Value} (h_o : M.1 o = some (ob 4 [.int a0, .int a1, .int a2, .int a3, .int a4, .ref p9, .int a6, .ref on, .int a8, v9, v10])) (lo : o < M.2.1) : pt (mT g) 76 [.ref o] M (fun v M' => (∃ y : Int32, v = some (.int y)) ∧ frD M M') := by
  refine pt_in (b := mb_76 g) rfl (fun kf => ?_)
  show pl (mT g) kf (mb_76 g).2 (0, [(0, .ref o)], [], M) _
  have hK : frD M M := frD.rf
  obtain ⟨z0, tp0⟩ : ∃ z0, M.2.1 = z0 := ⟨_, rfl⟩
  have LL : ∀ (kf : Nat), (∀ (r1 r2 r3 b8 : Int32) (s9 t9 ms mt : Nat) (F9 F10 : Nat → Int32) (t1 : Nat) (M1 : mi_H), (M1.1 o = some (ob 4 [.int a0, .int a1, .int a2, .int a3, .int a4, .ref p9, .int a6, .ref on, .int b8, .ref s9, .ref t9])) → (M1.1 s9 = some (ar .int ms F9)) → (M1.1 t9 = some (ar .int mt F10)) → (frD M M1) → (M1.2.1 = t1) → (z0 ≤ s9 ∧ z0 ≤ t9 ∧ s9 < t1 ∧ t9 < t1 ∧ z0 ≤ t1 ∧ ¬ s9 = t9) →  pl (mT g) kf (mb_76 g).2 (39, [(0, .ref o), (1, .int r1), (2, .int r2), (3, .int r3)], [], M1) (fun v M' => (∃ y : Int32, v = some (.int y)) ∧ frD M M')) ∧ (∀ (r1 r2 r3 b8 : Int32) (s9 t9 ms mt : Nat) (F9 F10 : Nat → Int32) (t1 : Nat) (M1 : mi_H), (M1.1 o = some (ob 4 [.int a0, .int a1, .int a2, .int a3, .int a4, .ref p9, .int a6, .ref on, .int b8, .ref s9, .ref t9])) → (M1.1 s9 = some (ar .int ms F9)) → (M1.1 t9 = some (ar .int mt F10)) → (frD M M1) → (M1.2.1 = t1) → (z0 ≤ s9 ∧ z0 ≤ t9 ∧ s9 < t1 ∧ t9 < t1 ∧ z0 ≤ t1 ∧ ¬ s9 = t9) →  pl (mT g) kf (mb_76 g).2 (117, [(0, .ref o), (2, .int r2), (3, .int r3)], [], M1) (fun v M' => (∃ y : Int32, v = some (.int y)) ∧ frD M M')) := by
    intro kf
    induction kf with
    | zero => exact ⟨by intros; exact pl_0, by intros; exact pl_0⟩
    | succ kf ih =>
      refine ⟨?_, ?_⟩
      · skip
        intro r1 r2 r3 b8 s9 t9 ms mt F9 F10 t1 M1 g_o g_s9 g_t9 hK1 tp1 hz
        refine ps_st1 (S' := (40, [(0, .ref o), (1, .int r1), (2, .int r2), (3, .int r3)], [.int r3], M1)) rfl rfl rfl ?_
        refine ps_st (S' := (41, [(0, .ref o), (1, .int r1), (2, .int r2), (3, .int r3)], [.int r1, .int r3], M1)) rfl rfl rfl ?_
        refine ps_if2 (S1 := (110, [(0, .ref o), (2, .int r2)], [], M1)) (S2 := (44, [(0, .ref o), (1, .int r1), (2, .int r2), (3, .int r3)], [], M1)) rfl rfl rfl (fun c_41 => ?_) (fun c_41 => ?_)
        · have c_41 : r1 ≤ r3 := of_decide_eq_true c_41
          refine ps_st (S' := (111, [(0, .ref o), (2, .int r2)], [.ref o], M1)) rfl rfl rfl ?_
          refine ps_st (S' := (112, [(0, .ref o), (2, .int r2)], [.int r2, .ref o], M1)) rfl rfl rfl ?_
          refine ps_put (l' := [.int a0, .int a1, .int a2, .int a3, .int a4, .ref p9, .int a6, .ref on, .int r2, .ref s9, .ref t9]) rfl g_o rfl rfl (fun M1 h2 f3 z4 => ?_)
          have h6 := (f3 s9 (Ne.symm (ob_ar g_o g_s9))).trans g_s9
          have h7 := (f3 t9 (show t9 ≠ o by omega)).trans g_t9
          have tp9 : M1.2.1 = t1 := by rw [z4]; exact tp1
          have hK5 := hK1.put4 g_o h2 ⟨rfl, t8⟩ f3 z4
          have tp10 : M1.2.1 = t1 := by rw [z4]; exact tp1
          show pl _ _ _ (115, [(0, .ref o), (2, .int r2)], [], M1) _
          refine ps_st (S' := (116, [(0, .ref o), (2, .int r2)], [.int 0], M1)) rfl rfl rfl ?_
          refine ps_st (S' := (117, [(0, .ref o), (2, .int r2), (3, .int 0)], [], M1)) rfl rfl rfl ?_
          exact ih.2 (0) (r2) (0) (r2) (s9) (t9) (_) (_) (_) (_) t1 M1 h2 h6 h7 hK5 tp10 (by omega)
        · have c_41 : ¬ (r1 ≤ r3) := of_decide_eq_false c_41
          refine ps_st (S' := (45, [(0, .ref o), (1, .int r1), (2, .int r2), (3, .int r3)], [.int r2], M1)) rfl rfl rfl ?_
          refine ps_st (S' := (46, [(0, .ref o), (1, .int r1), (2, .int r2), (3, .int r3)], [.int r1, .int r2], M1)) rfl rfl rfl ?_
          refine ps_if2 (S1 := (110, [(0, .ref o), (2, .int r2)], [], M1)) (S2 := (49, [(0, .ref o), (1, .int r1), (2, .int r2), (3, .int r3)], [], M1)) rfl rfl rfl (fun c_46 => ?_) (fun c_46 => ?_)
          · have c_46 : r1 ≤ r2 := of_decide_eq_true c_46
            refine ps_st (S' := (111, [(0, .ref o), (2, .int r2)], [.ref o], M1)) rfl rfl rfl ?_
            refine ps_st (S' := (112, [(0, .ref o), (2, .int r2)], [.int r2, .ref o], M1)) rfl rfl rfl ?_
            refine ps_put (l' := [.int a0, .int a1, .int a2, .int a3, .int a4, .ref p9, .int a6, .ref on, .int r2, .ref s9, .ref t9]) rfl g_o rfl rfl (fun M11 h12 f13 z14 => ?_)
            have h16 := (f13 s9 (Ne.symm (ob_ar g_o g_s9))).trans g_s9
            have h17 := (f13 t9 (show t9 ≠ o by omega)).trans g_t9
            have tp19 : M11.2.1 = t1 := by rw [z14]; exact tp1
            have hK15 := hK1.put4 g_o h12 ⟨rfl, t8⟩ f13 z14
            have tp20 : M11.2.1 = t1 := by rw [z14]; exact tp1
            show pl _ _ _ (115, [(0, .ref o), (2, .int r2)], [], M11) _
            refine ps_st (S' := (116, [(0, .ref o), (2, .int r2)], [.int 0], M11)) rfl rfl rfl ?_
            refine ps_st (S' := (117, [(0, .ref o), (2, .int r2), (3, .int 0)], [], M11)) rfl rfl rfl ?_
            exact ih.2 (0) (r2) (0) (r2) (s9) (t9) (_) (_) (_) (_) t1 M11 h12 h16 h17 hK15 tp20 (by omega)
          · have c_46 : ¬ (r1 ≤ r2) := of_decide_eq_false c_46
            refine ps_st (S' := (50, [(0, .ref o), (1, .int r1), (2, .int r2), (3, .int r3)], [.ref o], M1)) rfl rfl rfl ?_
            refine ps_get (S' := (53, [(0, .ref o), (1, .int r1), (2, .int r2), (3, .int r3)], [.ref on], M1)) rfl g_o rfl rfl ?_
            refine ps_st (S' := (54, [(0, .ref o), (1, .int r1), (2, .int r2), (3, .int r3)], [.int r3, .ref on], M1)) rfl rfl rfl ?_
            refine pl_call (a := [.ref on, .int r3]) (rest := []) rfl rfl rfl ((rv_98).and (fz_run rfl)) (fun v21 M22 q23 => ?_)
            obtain ⟨⟨y24, rfl⟩, hf25⟩ := q23
            have h26 := hf25.obj (by omega) g_o (by decide)
            have h27 := hf25.row (by omega) g_s9
            have h28 := hf25.row (by omega) g_t9
            have hK29 := hK1.tr (frD.of5 hf25)
            obtain ⟨t30, tp31⟩ : ∃ t9, M22.2.1 = t9 := ⟨_, rfl⟩
            have nw32 := hf25.2
            rw [tp1, tp31] at nw32
            show pl _ _ _ (57, [(0, .ref o), (1, .int r1), (2, .int r2), (3, .int r3)], [.int y24], M22) _
            refine ps_if (S1 := (67, [(0, .ref o), (3, .int r3)], [], M22)) (S2 := (60, [(0, .ref o), (1, .int r1), (2, .int r2), (3, .int r3)], [], M22)) rfl rfl rfl (fun c_57 => ?_) (fun c_57 => ?_)
            · have c_57 : y24 = 0 := of_decide_eq_true c_57
              refine ps_st (S' := (68, [(0, .ref o), (3, .int r3)], [.ref o], M22)) rfl rfl rfl ?_
              refine ps_st (S' := (70, [(0, .ref o), (3, .int r3)], [.int (-2), .ref o], M22)) rfl rfl rfl ?_
              refine ps_st (S' := (71, [(0, .ref o), (3, .int r3)], [.int r3, .int (-2), .ref o], M22)) rfl rfl rfl ?_
              refine ps_st (S' := (72, [(0, .ref o), (3, .int r3)], [.int ((-2) - r3), .ref o], M22)) rfl rfl rfl ?_
              refine ps_put (l' := [.int a0, .int a1, .int a2, .int a3, .int a4, .ref p9, .int a6, .ref on, .int ((-2) - r3), .ref s9, .ref t9]) rfl h26 rfl rfl (fun M33 h34 f35 z36 => ?_)
              have h38 := (f35 s9 (Ne.symm (ob_ar h26 h27))).trans h27
              have h39 := (f35 t9 (show t9 ≠ o by omega)).trans h28
              have tp41 : M33.2.1 = t30 := by rw [z36]; exact tp31
              have hK37 := hK29.put4 h26 h34 ⟨rfl, t8⟩ f35 z36
              have tp42 : M33.2.1 = t30 := by rw [z36]; exact tp31
              show pl _ _ _ (75, [(0, .ref o), (3, .int r3)], [], M33) _
              refine ps_st (S' := (76, [(0, .ref o), (3, .int r3)], [.ref o], M33)) rfl rfl rfl ?_
              refine ps_get (S' := (79, [(0, .ref o), (3, .int r3)], [.int ((-2) - r3)], M33)) rfl h34 rfl rfl ?_
              exact ps_reti rfl (⟨⟨_, rfl⟩, hK37⟩)
            · have c_57 : ¬ (y24 = 0) := of_decide_eq_false c_57
              refine ps_st (S' := (61, [(0, .ref o), (1, .int r1), (2, .int r2), (3, .int r3)], [.ref o], M22)) rfl rfl rfl ?_
              refine pl_call (a := [.ref o]) (rest := []) rfl rfl rfl ((rv_82).and (fz_run rfl)) (fun v43 M44 q45 => ?_)
              obtain ⟨⟨y46, rfl⟩, hf47⟩ := q45
              have h48 := hf47.obj (by omega) h26 (by decide)
              have h49 := hf47.row (by omega) h27
              have h50 := hf47.row (by omega) h28
              have hK51 := hK29.tr (frD.of5 hf47)
              obtain ⟨t52, tp53⟩ : ∃ t9, M44.2.1 = t9 := ⟨_, rfl⟩
              have nw54 := hf47.2
              rw [tp31, tp53] at nw54
              show pl _ _ _ (64, [(0, .ref o), (1, .int r1), (2, .int r2), (3, .int r3)], [.int y46], M44) _
              refine ps_if (S1 := (80, [(0, .ref o), (1, .int r1), (2, .int r2), (3, .int r3)], [], M44)) (S2 := (67, [(0, .ref o), (3, .int r3)], [], M44)) rfl rfl rfl (fun c_64 => ?_) (fun c_64 => ?_)
              · have c_64 : ¬ y46 = 0 := of_decide_eq_true c_64
                refine ps_st (S' := (81, [(0, .ref o), (1, .int r1), (2, .int r2), (3, .int r3)], [.ref o], M44)) rfl rfl rfl ?_
                refine ps_get (S' := (84, [(0, .ref o), (1, .int r1), (2, .int r2), (3, .int r3)], [.ref s9], M44)) rfl h48 rfl rfl ?_
                refine ps_st (S' := (85, [(0, .ref o), (1, .int r1), (2, .int r2), (3, .int r3)], [.int r2, .ref s9], M44)) rfl rfl rfl ?_
                refine ps_st (S' := (86, [(0, .ref o), (1, .int r1), (2, .int r2), (3, .int r3)], [.int r3, .int r2, .ref s9], M44)) rfl rfl rfl ?_
                refine ps_ast rfl h49 (fun M55 i0_86 i1_86 h56 f57 z58 => ?_)
                have h60 := (f57 o (ob_ar h48 h49)).trans h48
                have h61 := (f57 t9 (show t9 ≠ s9 by omega)).trans h50
                have tp63 : M55.2.1 = t52 := by rw [z58]; exact tp53
                have hK59 := hK51.st (by omega) f57 z58
                have tp64 : M55.2.1 = t52 := by rw [z58]; exact tp53
                show pl _ _ _ (87, [(0, .ref o), (1, .int r1), (2, .int r2), (3, .int r3)], [], M55) _
                refine ps_st (S' := (90, [(2, .int (r2 + 1)), (0, .ref o), (1, .int r1), (3, .int r3)], [], M55)) rfl rfl rfl ?_
                refine ps_st (S' := (91, [(2, .int (r2 + 1)), (0, .ref o), (1, .int r1), (3, .int r3)], [.ref o], M55)) rfl rfl rfl ?_
                refine ps_get (S' := (94, [(2, .int (r2 + 1)), (0, .ref o), (1, .int r1), (3, .int r3)], [.ref t9], M55)) rfl h60 rfl rfl ?_
                refine ps_st (S' := (95, [(2, .int (r2 + 1)), (0, .ref o), (1, .int r1), (3, .int r3)], [.int r3, .ref t9], M55)) rfl rfl rfl ?_
                refine ps_st (S' := (96, [(2, .int (r2 + 1)), (0, .ref o), (1, .int r1), (3, .int r3)], [.int (r2 + 1), .int r3, .ref t9], M55)) rfl rfl rfl ?_
                refine ps_ast rfl h61 (fun M65 i0_96 i1_96 h66 f67 z68 => ?_)
                have h70 := (f67 o (show o ≠ t9 by omega)).trans h60
                have h71 := (f67 s9 (show s9 ≠ t9 by omega)).trans h56
                have tp73 : M65.2.1 = t52 := by rw [z68]; exact tp64
                have hK69 := hK59.st (by omega) f67 z68
                have tp74 : M65.2.1 = t52 := by rw [z68]; exact tp64
                show pl _ _ _ (97, [(2, .int (r2 + 1)), (0, .ref o), (1, .int r1), (3, .int r3)], [], M65) _
                refine ps_st (S' := (98, [(2, .int (r2 + 1)), (0, .ref o), (1, .int r1), (3, .int r3)], [.int r3], M65)) rfl rfl rfl ?_
                refine ps_st (S' := (99, [(2, .int (r2 + 1)), (0, .ref o), (1, .int r1), (3, .int r3)], [.ref o, .int r3], M65)) rfl rfl rfl ?_
                refine ps_get (S' := (102, [(2, .int (r2 + 1)), (0, .ref o), (1, .int r1), (3, .int r3)], [.ref on, .int r3], M65)) rfl h70 rfl rfl ?_
                refine ps_getU rfl (fun v75 => ?_)
                show pl _ _ _ (105, [(2, .int (r2 + 1)), (0, .ref o), (1, .int r1), (3, .int r3)], [v75, .int r3], M65) _
                refine ps_binV rfl (fun y76 => ?_)
                show pl _ _ _ (106, [(2, .int (r2 + 1)), (0, .ref o), (1, .int r1), (3, .int r3)], [.int (r3 + y76)], M65) _
                refine ps_st (S' := (107, [(3, .int (r3 + y76)), (2, .int (r2 + 1)), (0, .ref o), (1, .int r1)], [], M65)) rfl rfl rfl ?_
                refine ps_st (S' := (39, [(0, .ref o), (1, .int r1), (2, .int (r2 + 1)), (3, .int (r3 + y76))], [], M65)) rfl rfl rfl ?_
                exact ih.1 (r1) ((r2 + 1)) ((r3 + y76)) (b8) (s9) (t9) (_) (_) (_) (_) t52 M65 h70 h71 h66 hK69 tp74 (by omega)
              · have c_64 : ¬ (¬ y46 = 0) := of_decide_eq_false c_64
                refine ps_st (S' := (68, [(0, .ref o), (3, .int r3)], [.ref o], M44)) rfl rfl rfl ?_
                refine ps_st (S' := (70, [(0, .ref o), (3, .int r3)], [.int (-2), .ref o], M44)) rfl rfl rfl ?_
                refine ps_st (S' := (71, [(0, .ref o), (3, .int r3)], [.int r3, .int (-2), .ref o], M44)) rfl rfl rfl ?_
                refine ps_st (S' := (72, [(0, .ref o), (3, .int r3)], [.int ((-2) - r3), .ref o], M44)) rfl rfl rfl ?_
                refine ps_put (l' := [.int a0, .int a1, .int a2, .int a3, .int a4, .ref p9, .int a6, .ref on, .int ((-2) - r3), .ref s9, .ref t9]) rfl h48 rfl rfl (fun M77 h78 f79 z80 => ?_)
                have h82 := (f79 s9 (Ne.symm (ob_ar h48 h49))).trans h49
                have h83 := (f79 t9 (show t9 ≠ o by omega)).trans h50
                have tp85 : M77.2.1 = t52 := by rw [z80]; exact tp53
                have hK81 := hK51.put4 h48 h78 ⟨rfl, t8⟩ f79 z80
                have tp86 : M77.2.1 = t52 := by rw [z80]; exact tp53
                show pl _ _ _ (75, [(0, .ref o), (3, .int r3)], [], M77) _
                refine ps_st (S' := (76, [(0, .ref o), (3, .int r3)], [.ref o], M77)) rfl rfl rfl ?_
                refine ps_get (S' := (79, [(0, .ref o), (3, .int r3)], [.int ((-2) - r3)], M77)) rfl h78 rfl rfl ?_
                exact ps_reti rfl (⟨⟨_, rfl⟩, hK81⟩)
      · skip
        intro r1 r2 r3 b8 s9 t9 ms mt F9 F10 t1 M1 g_o g_s9 g_t9 hK1 tp1 hz
        refine ps_st1 (S' := (118, [(0, .ref o), (2, .int r2), (3, .int r3)], [.int r3], M1)) rfl rfl rfl ?_
        refine ps_st (S' := (119, [(0, .ref o), (2, .int r2), (3, .int r3)], [.int r2, .int r3], M1)) rfl rfl rfl ?_
        refine ps_if2 (S1 := (172, [(0, .ref o)], [], M1)) (S2 := (122, [(0, .ref o), (2, .int r2), (3, .int r3)], [], M1)) rfl rfl rfl (fun c_119 => ?_) (fun c_119 => ?_)
        · have c_119 : r2 ≤ r3 := of_decide_eq_true c_119
          refine ps_st (S' := (173, [(0, .ref o)], [.ref o], M1)) rfl rfl rfl ?_
          refine ps_get (S' := (176, [(0, .ref o)], [.int b8], M1)) rfl g_o rfl rfl ?_
          exact ps_reti rfl (⟨⟨_, rfl⟩, hK1⟩)
        · have c_119 : ¬ (r2 ≤ r3) := of_decide_eq_false c_119
          refine ps_st (S' := (123, [(0, .ref o), (2, .int r2), (3, .int r3)], [.ref o], M1)) rfl rfl rfl ?_
          refine ps_get (S' := (126, [(0, .ref o), (2, .int r2), (3, .int r3)], [.int b8], M1)) rfl g_o rfl rfl ?_
          refine ps_st (S' := (127, [(0, .ref o), (2, .int r2), (3, .int r3)], [.int r2, .int b8], M1)) rfl rfl rfl ?_
          refine ps_if2 (S1 := (172, [(0, .ref o)], [], M1)) (S2 := (130, [(0, .ref o), (2, .int r2), (3, .int r3)], [], M1)) rfl rfl rfl (fun c_127 => ?_) (fun c_127 => ?_)
          · have c_127 : ¬ b8 = r2 := of_decide_eq_true c_127
            refine ps_st (S' := (173, [(0, .ref o)], [.ref o], M1)) rfl rfl rfl ?_
            refine ps_get (S' := (176, [(0, .ref o)], [.int b8], M1)) rfl g_o rfl rfl ?_
            exact ps_reti rfl (⟨⟨_, rfl⟩, hK1⟩)
          · have c_127 : ¬ (¬ b8 = r2) := of_decide_eq_false c_127
            refine ps_st (S' := (131, [(0, .ref o), (2, .int r2), (3, .int r3)], [.ref o], M1)) rfl rfl rfl ?_
            refine ps_get (S' := (134, [(0, .ref o), (2, .int r2), (3, .int r3)], [.ref on], M1)) rfl g_o rfl rfl ?_
            refine ps_st (S' := (135, [(0, .ref o), (2, .int r2), (3, .int r3)], [.ref o, .ref on], M1)) rfl rfl rfl ?_
            refine ps_get (S' := (138, [(0, .ref o), (2, .int r2), (3, .int r3)], [.ref s9, .ref on], M1)) rfl g_o rfl rfl ?_
            refine ps_st (S' := (139, [(0, .ref o), (2, .int r2), (3, .int r3)], [.int r3, .ref s9, .ref on], M1)) rfl rfl rfl ?_
            refine ps_ald (S' := (140, [(0, .ref o), (2, .int r2), (3, .int r3)], [.int (F9 (Int32.toNatClampNeg r3)), .ref on], M1)) rfl g_s9 rfl (fun i0_139 i1_139 => ?_)
            refine pl_call (a := [.ref on, .int (F9 (Int32.toNatClampNeg r3))]) (rest := []) rfl rfl rfl ((rv_98).and (fz_run rfl)) (fun v87 M88 q89 => ?_)
            obtain ⟨⟨y90, rfl⟩, hf91⟩ := q89
            have h92 := hf91.obj (by omega) g_o (by decide)
            have h93 := hf91.row (by omega) g_s9
            have h94 := hf91.row (by omega) g_t9
            have hK95 := hK1.tr (frD.of5 hf91)
            obtain ⟨t96, tp97⟩ : ∃ t9, M88.2.1 = t9 := ⟨_, rfl⟩
            have nw98 := hf91.2
            rw [tp1, tp97] at nw98
            show pl _ _ _ (143, [(0, .ref o), (2, .int r2), (3, .int r3)], [.int y90], M88) _
            refine ps_if (S1 := (166, [(0, .ref o), (2, .int r2), (3, .int r3)], [], M88)) (S2 := (146, [(0, .ref o), (2, .int r2), (3, .int r3)], [], M88)) rfl rfl rfl (fun c_143 => ?_) (fun c_143 => ?_)
            · have c_143 : y90 = 0 := of_decide_eq_true c_143
              refine ps_st (S' := (169, [(3, .int (r3 + 1)), (0, .ref o), (2, .int r2)], [], M88)) rfl rfl rfl ?_
              refine ps_st (S' := (117, [(0, .ref o), (2, .int r2), (3, .int (r3 + 1))], [], M88)) rfl rfl rfl ?_
              exact ih.2 (0) (r2) ((r3 + 1)) (b8) (s9) (t9) (_) (_) (_) (_) t96 M88 h92 h93 h94 hK95 tp97 (by omega)
            · have c_143 : ¬ (y90 = 0) := of_decide_eq_false c_143
              refine ps_st (S' := (147, [(0, .ref o), (2, .int r2), (3, .int r3)], [.ref o], M88)) rfl rfl rfl ?_
              refine pl_call (a := [.ref o]) (rest := []) rfl rfl rfl ((rv_85).and (fz_run rfl)) (fun v99 M100 q101 => ?_)
              obtain ⟨⟨y102, rfl⟩, hf103⟩ := q101
              have h104 := hf103.obj (by omega) h92 (by decide)
              have h105 := hf103.row (by omega) h93
              have h106 := hf103.row (by omega) h94
              have hK107 := hK95.tr (frD.of5 hf103)
              obtain ⟨t108, tp109⟩ : ∃ t9, M100.2.1 = t9 := ⟨_, rfl⟩
              have nw110 := hf103.2
              rw [tp97, tp109] at nw110
              show pl _ _ _ (150, [(0, .ref o), (2, .int r2), (3, .int r3)], [.int y102], M100) _
              refine ps_if (S1 := (166, [(0, .ref o), (2, .int r2), (3, .int r3)], [], M100)) (S2 := (153, [(0, .ref o), (2, .int r2), (3, .int r3)], [], M100)) rfl rfl rfl (fun c_150 => ?_) (fun c_150 => ?_)
              · have c_150 : ¬ y102 = 0 := of_decide_eq_true c_150
                refine ps_st (S' := (169, [(3, .int (r3 + 1)), (0, .ref o), (2, .int r2)], [], M100)) rfl rfl rfl ?_
                refine ps_st (S' := (117, [(0, .ref o), (2, .int r2), (3, .int (r3 + 1))], [], M100)) rfl rfl rfl ?_
                exact ih.2 (0) (r2) ((r3 + 1)) (b8) (s9) (t9) (_) (_) (_) (_) t108 M100 h104 h105 h106 hK107 tp109 (by omega)
              · have c_150 : ¬ (¬ y102 = 0) := of_decide_eq_false c_150
                refine ps_st (S' := (154, [(0, .ref o), (2, .int r2), (3, .int r3)], [.ref o], M100)) rfl rfl rfl ?_
                refine ps_st (S' := (156, [(0, .ref o), (2, .int r2), (3, .int r3)], [.int (-2), .ref o], M100)) rfl rfl rfl ?_
                refine ps_st (S' := (157, [(0, .ref o), (2, .int r2), (3, .int r3)], [.ref o, .int (-2), .ref o], M100)) rfl rfl rfl ?_
                refine ps_get (S' := (160, [(0, .ref o), (2, .int r2), (3, .int r3)], [.ref s9, .int (-2), .ref o], M100)) rfl h104 rfl rfl ?_
                refine ps_st (S' := (161, [(0, .ref o), (2, .int r2), (3, .int r3)], [.int r3, .ref s9, .int (-2), .ref o], M100)) rfl rfl rfl ?_
                refine ps_ald (S' := (162, [(0, .ref o), (2, .int r2), (3, .int r3)], [.int (F9 (Int32.toNatClampNeg r3)), .int (-2), .ref o], M100)) rfl h105 rfl (fun i0_161 i1_161 => ?_)
                refine ps_st (S' := (163, [(0, .ref o), (2, .int r2), (3, .int r3)], [.int ((-2) - (F9 (Int32.toNatClampNeg r3))), .ref o], M100)) rfl rfl rfl ?_
                refine ps_put (l' := [.int a0, .int a1, .int a2, .int a3, .int a4, .ref p9, .int a6, .ref on, .int ((-2) - (F9 (Int32.toNatClampNeg r3))), .ref s9, .ref t9]) rfl h104 rfl rfl (fun M111 h112 f113 z114 => ?_)
                have h116 := (f113 s9 (Ne.symm (ob_ar h104 h105))).trans h105
                have h117 := (f113 t9 (show t9 ≠ o by omega)).trans h106
                have tp119 : M111.2.1 = t108 := by rw [z114]; exact tp109
                have hK115 := hK107.put4 h104 h112 ⟨rfl, t8⟩ f113 z114
                have tp120 : M111.2.1 = t108 := by rw [z114]; exact tp109
                show pl _ _ _ (166, [(0, .ref o), (2, .int r2), (3, .int r3)], [], M111) _
                refine ps_st (S' := (169, [(3, .int (r3 + 1)), (0, .ref o), (2, .int r2)], [], M111)) rfl rfl rfl ?_
                refine ps_st (S' := (117, [(0, .ref o), (2, .int r2), (3, .int (r3 + 1))], [], M111)) rfl rfl rfl ?_
                exact ih.2 (0) (r2) ((r3 + 1)) (((-2) - (F9 (Int32.toNatClampNeg r3)))) (s9) (t9) (_) (_) (_) (_) t108 M111 h112 h116 h117 hK115 tp120 (by omega)
  refine ps_st (S' := (1, [(0, .ref o)], [.ref o], M)) rfl rfl rfl ?_
  refine ps_get (S' := (4, [(0, .ref o)], [.int a8], M)) rfl h_o rfl rfl ?_
  refine ps_if (S1 := (12, [(0, .ref o)], [], M)) (S2 := (7, [(0, .ref o)], [], M)) rfl rfl rfl (fun c_4 => ?_) (fun c_4 => ?_)
  · have c_4 : a8 = 0 := of_decide_eq_true c_4
    refine ps_st (S' := (13, [(0, .ref o)], [.int 0], M)) rfl rfl rfl ?_
    refine ps_st (S' := (14, [(0, .ref o)], [.ref o, .int 0], M)) rfl rfl rfl ?_
    refine ps_get (S' := (17, [(0, .ref o)], [.int a2, .int 0], M)) rfl h_o rfl rfl ?_
    refine ps_st (S' := (20, [(0, .ref o)], [.int (if (0 : Int32) < a2 then a2 else 0)], M)) rfl rfl rfl ?_
    refine ps_st (S' := (21, [(1, .int (if (0 : Int32) < a2 then a2 else 0)), (0, .ref o)], [], M)) rfl rfl rfl ?_
    refine ps_st (S' := (22, [(1, .int (if (0 : Int32) < a2 then a2 else 0)), (0, .ref o)], [.ref o], M)) rfl rfl rfl ?_
    refine ps_st (S' := (23, [(1, .int (if (0 : Int32) < a2 then a2 else 0)), (0, .ref o)], [.int (if (0 : Int32) < a2 then a2 else 0), .ref o], M)) rfl rfl rfl ?_
    refine ps_newa rfl tp0 (fun M121 i0_23 h122 f123 tp124 => ?_)
    have h126 := (f123 o (show o ≠ z0 by omega)).trans h_o
    have hK125 := hK.nw tp0 f123 tp124
    show pl _ _ _ (25, [(1, .int (if (0 : Int32) < a2 then a2 else 0)), (0, .ref o)], [.ref z0, .ref o], M121) _
    refine ps_put (l' := [.int a0, .int a1, .int a2, .int a3, .int a4, .ref p9, .int a6, .ref on, .int a8, .ref z0, v10]) rfl h126 rfl rfl (fun M128 h129 f130 z131 => ?_)
    have h133 := (f130 z0 (show z0 ≠ o by omega)).trans h122
    have tp135 : M128.2.1 = z0 + 1 := by rw [z131]; exact tp124
    have hK132 := hK125.put4 h126 h129 ⟨rfl, t8⟩ f130 z131
    have tp136 : M128.2.1 = z0 + 1 := by rw [z131]; exact tp124
    show pl _ _ _ (28, [(1, .int (if (0 : Int32) < a2 then a2 else 0)), (0, .ref o)], [], M128) _
    refine ps_st (S' := (29, [(1, .int (if (0 : Int32) < a2 then a2 else 0)), (0, .ref o)], [.ref o], M128)) rfl rfl rfl ?_
    refine ps_st (S' := (30, [(1, .int (if (0 : Int32) < a2 then a2 else 0)), (0, .ref o)], [.int (if (0 : Int32) < a2 then a2 else 0), .ref o], M128)) rfl rfl rfl ?_
    refine ps_newa rfl tp136 (fun M137 i0_30 h138 f139 tp140 => ?_)
    have h142 := (f139 o (show o ≠ (z0 + 1) by omega)).trans h129
    have h143 := (f139 z0 (show z0 ≠ (z0 + 1) by omega)).trans h133
    have hK141 := hK132.nw tp136 f139 tp140
    show pl _ _ _ (32, [(1, .int (if (0 : Int32) < a2 then a2 else 0)), (0, .ref o)], [.ref (z0 + 1), .ref o], M137) _
    refine ps_put (l' := [.int a0, .int a1, .int a2, .int a3, .int a4, .ref p9, .int a6, .ref on, .int a8, .ref z0, .ref (z0 + 1)]) rfl h142 rfl rfl (fun M145 h146 f147 z148 => ?_)
    have h150 := (f147 z0 (show z0 ≠ o by omega)).trans h143
    have h151 := (f147 (z0 + 1) (show (z0 + 1) ≠ o by omega)).trans h138
    have tp153 : M145.2.1 = z0 + 2 := by rw [z148]; exact tp140
    have hK149 := hK141.put4 h142 h146 ⟨rfl, t8⟩ f147 z148
    have tp154 : M145.2.1 = z0 + 2 := by rw [z148]; exact tp140
    show pl _ _ _ (35, [(1, .int (if (0 : Int32) < a2 then a2 else 0)), (0, .ref o)], [], M145) _
    refine ps_st (S' := (36, [(1, .int (if (0 : Int32) < a2 then a2 else 0)), (0, .ref o)], [.int 0], M145)) rfl rfl rfl ?_
    refine ps_st (S' := (37, [(2, .int 0), (1, .int (if (0 : Int32) < a2 then a2 else 0)), (0, .ref o)], [], M145)) rfl rfl rfl ?_
    refine ps_st (S' := (38, [(2, .int 0), (1, .int (if (0 : Int32) < a2 then a2 else 0)), (0, .ref o)], [.int 0], M145)) rfl rfl rfl ?_
    refine ps_st (S' := (39, [(0, .ref o), (1, .int (if (0 : Int32) < a2 then a2 else 0)), (2, .int 0), (3, .int 0)], [], M145)) rfl rfl rfl ?_
    exact (LL kf).1 ((if (0 : Int32) < a2 then a2 else 0)) (0) (0) (a8) (z0) ((z0 + 1)) (_) (_) (_) (_) (z0 + 2) M145 h146 h150 h151 hK149 tp154 (by omega)
  · have c_4 : ¬ (a8 = 0) := of_decide_eq_false c_4
    refine ps_st (S' := (8, [(0, .ref o)], [.ref o], M)) rfl rfl rfl ?_
    refine ps_get (S' := (11, [(0, .ref o)], [.int a8], M)) rfl h_o rfl rfl ?_
    exact ps_reti rfl (⟨⟨_, rfl⟩, hK⟩)
set_option maxHeartbeats 2000000 in
theorem fc_cut {g : xe_G} {M : mi_H} {Y : yT} {x cm fl B : Nat} {nc wp : Int32} {kv : Value} {x1 : Int32}  (hW : WF g Y M) (hx : M.1 x = some (ob 11 [.ref cm, .int nc, .ref fl, kv, .int wp])) (hxn : Y.1 x = none) (hxl : x < M.2.1) (hkv : kvOk Y kv B) : pt (mT g) 6 [.ref x, .int x1] M (fun v M' => frD M M') := by
  refine pt_in (b := mb_6 g) rfl (fun kf => ?_)
  show pl (mT g) kf (mb_6 g).2 (0, [(0, .ref x), (1, .int x1)], [], M) _
  have hK : frD M M := frD.rf
  obtain ⟨z0, tp0⟩ : ∃ z0, M.2.1 = z0 := ⟨_, rfl⟩
  refine ps_st (S' := (1, [(0, .ref x), (1, .int x1)], [.ref x], M)) rfl rfl rfl ?_
  refine ps_st (S' := (2, [(0, .ref x), (1, .int x1)], [.int x1, .ref x], M)) rfl rfl rfl ?_
  refine pl_call (a := [.ref x, .int x1]) (rest := []) rfl rfl rfl ((tq_codeOf hW hx hxn hxl hkv (d := 4) (Nat.le_refl _)).pt) (fun v1 M2 q3 => ?_)
  obtain ⟨q3, eM⟩ := q3
  have eM := eM.symm
  subst eM
  rcases q3 with rfl | ⟨-, c, p9, on, k9, rfl, hy, -⟩
  · skip
    show pl _ _ _ (5, [(0, .ref x), (1, .int x1)], [.null], M) _
    refine ps_st (S' := (6, [(2, .null), (0, .ref x), (1, .int x1)], [], M)) rfl rfl rfl ?_
    refine ps_st (S' := (7, [(2, .null), (0, .ref x), (1, .int x1)], [.null], M)) rfl rfl rfl ?_
    refine ps_st (S' := (10, [(2, .null), (0, .ref x), (1, .int x1)], [], M)) rfl rfl rfl ?_
    refine ps_st (S' := (11, [(2, .null), (0, .ref x), (1, .int x1)], [.int (-1)], M)) rfl rfl rfl ?_
    refine ps_st (S' := (18, [], [.int (-1)], M)) rfl rfl rfl ?_
    exact ps_ret rfl rfl (hK)
  · skip
    obtain ⟨lc, a0, a1, a2, a3, a4, a6, a8, v9, v10, hc4⟩ := hW.code4 hy
    show pl _ _ _ (5, [(0, .ref x), (1, .int x1)], [.ref c], M) _
    refine ps_st (S' := (6, [(2, .ref c), (0, .ref x), (1, .int x1)], [], M)) rfl rfl rfl ?_
    refine ps_st (S' := (7, [(2, .ref c), (0, .ref x), (1, .int x1)], [.ref c], M)) rfl rfl rfl ?_
    refine ps_st (S' := (14, [(2, .ref c), (0, .ref x), (1, .int x1)], [], M)) rfl rfl rfl ?_
    refine ps_st (S' := (15, [(2, .ref c), (0, .ref x), (1, .int x1)], [.ref c], M)) rfl rfl rfl ?_
    refine pl_call (a := [.ref c]) (rest := []) rfl rfl rfl (dk_cutUp hc4 (by omega)) (fun v6 M7 q8 => ?_)
    obtain ⟨⟨y9, rfl⟩, hf10⟩ := q8
    have hK11 := hK.tr hf10
    obtain ⟨t12, tp13⟩ : ∃ t9, M7.2.1 = t9 := ⟨_, rfl⟩
    have nw14 := hf10.1.2
    rw [tp0, tp13] at nw14
    show pl _ _ _ (18, [], [.int y9], M7) _
    exact ps_reti rfl (hK11)
set_option maxHeartbeats 2000000 in
theorem fc_instruction {g : xe_G} {M : mi_H} {Y : yT} {x cm fl B : Nat} {nc wp : Int32} {kv : Value} {x1 x2 x3 : Int32}  (hW : WF g Y M) (hx : M.1 x = some (ob 11 [.ref cm, .int nc, .ref fl, kv, .int wp])) (hxn : Y.1 x = none) (hxl : x < M.2.1) (hkv : kvOk Y kv B) (hq0 : ¬ x3 < 0) (hq1 : x3 ≤ 4) : pt (mT g) 12 [.ref x, .int x1, .int x2, .int x3] M (fun v M' => frD M M') := by
  refine pt_in (b := mb_12 g) rfl (fun kf => ?_)
  show pl (mT g) kf (mb_12 g).2 (0, [(0, .ref x), (1, .int x1), (2, .int x2), (3, .int x3)], [], M) _
  have hK : frD M M := frD.rf
  obtain ⟨z0, tp0⟩ : ∃ z0, M.2.1 = z0 := ⟨_, rfl⟩
  refine ps_st (S' := (1, [(0, .ref x), (1, .int x1), (2, .int x2), (3, .int x3)], [.int x3], M)) rfl rfl rfl ?_
  refine ps_if (S1 := (9, [(0, .ref x), (1, .int x1), (2, .int x2), (3, .int x3)], [], M)) (S2 := (4, [(0, .ref x), (1, .int x1), (2, .int x2), (3, .int x3)], [], M)) rfl rfl rfl (fun c_1 => ?_) (fun c_1 => ?_)
  · exact absurd (of_decide_eq_true c_1) (hq0)
  refine ps_st (S' := (5, [(0, .ref x), (1, .int x1), (2, .int x2), (3, .int x3)], [.int x3], M)) rfl rfl rfl ?_
  refine ps_st (S' := (6, [(0, .ref x), (1, .int x1), (2, .int x2), (3, .int x3)], [.int 4, .int x3], M)) rfl rfl rfl ?_
  refine ps_if2 (S1 := (19, [(0, .ref x), (1, .int x1), (2, .int x2), (3, .int x3)], [], M)) (S2 := (9, [(0, .ref x), (1, .int x1), (2, .int x2), (3, .int x3)], [], M)) rfl rfl rfl (fun c_6 => ?_) (fun c_6 => ?_)
  rotate_left
  · exact absurd (hq1) (of_decide_eq_false c_6)
  refine ps_st (S' := (20, [(0, .ref x), (1, .int x1), (2, .int x2), (3, .int x3)], [.ref x], M)) rfl rfl rfl ?_
  refine ps_st (S' := (21, [(0, .ref x), (1, .int x1), (2, .int x2), (3, .int x3)], [.int x1, .ref x], M)) rfl rfl rfl ?_
  refine pl_call (a := [.ref x, .int x1]) (rest := []) rfl rfl rfl ((tq_codeOf hW hx hxn hxl hkv (d := 4) (Nat.le_refl _)).pt) (fun v1 M2 q3 => ?_)
  obtain ⟨q3, eM⟩ := q3
  have eM := eM.symm
  subst eM
  rcases q3 with rfl | ⟨-, c, p9, on, k9, rfl, hy, -⟩
  · skip
    show pl _ _ _ (24, [(0, .ref x), (1, .int x1), (2, .int x2), (3, .int x3)], [.null], M) _
    refine ps_st (S' := (26, [(4, .null), (0, .ref x), (1, .int x1), (2, .int x2), (3, .int x3)], [], M)) rfl rfl rfl ?_
    refine ps_st (S' := (28, [(4, .null), (0, .ref x), (1, .int x1), (2, .int x2), (3, .int x3)], [.null], M)) rfl rfl rfl ?_
    refine ps_st (S' := (44, [], [], M)) rfl rfl rfl ?_
    refine ps_st (S' := (45, [], [.int (-1)], M)) rfl rfl rfl ?_
    refine ps_st (S' := (55, [], [.int (-1)], M)) rfl rfl rfl ?_
    exact ps_ret rfl rfl (hK)
  · skip
    obtain ⟨lc, a0, a1, a2, a3, a4, a6, a8, v9, v10, hc4⟩ := hW.code4 hy
    show pl _ _ _ (24, [(0, .ref x), (1, .int x1), (2, .int x2), (3, .int x3)], [.ref c], M) _
    refine ps_st (S' := (26, [(4, .ref c), (0, .ref x), (1, .int x1), (2, .int x2), (3, .int x3)], [], M)) rfl rfl rfl ?_
    refine ps_st (S' := (28, [(4, .ref c), (0, .ref x), (1, .int x1), (2, .int x2), (3, .int x3)], [.ref c], M)) rfl rfl rfl ?_
    refine ps_st (S' := (31, [(4, .ref c), (0, .ref x), (1, .int x1), (2, .int x2), (3, .int x3)], [], M)) rfl rfl rfl ?_
    refine ps_st (S' := (32, [(4, .ref c), (0, .ref x), (1, .int x1), (2, .int x2), (3, .int x3)], [.int x2], M)) rfl rfl rfl ?_
    refine ps_if (S1 := (44, [], [], M)) (S2 := (35, [(4, .ref c), (0, .ref x), (1, .int x1), (2, .int x2), (3, .int x3)], [], M)) rfl rfl rfl (fun c_32 => ?_) (fun c_32 => ?_)
    · have c_32 : x2 < 0 := of_decide_eq_true c_32
      refine ps_st (S' := (45, [], [.int (-1)], M)) rfl rfl rfl ?_
      refine ps_st (S' := (55, [], [.int (-1)], M)) rfl rfl rfl ?_
      exact ps_ret rfl rfl (hK)
    · have c_32 : ¬ (x2 < 0) := of_decide_eq_false c_32
      refine ps_st (S' := (36, [(4, .ref c), (0, .ref x), (1, .int x1), (2, .int x2), (3, .int x3)], [.int x2], M)) rfl rfl rfl ?_
      refine ps_st (S' := (38, [(4, .ref c), (0, .ref x), (1, .int x1), (2, .int x2), (3, .int x3)], [.ref c, .int x2], M)) rfl rfl rfl ?_
      refine pl_call (a := [.ref c]) (rest := [.int x2]) rfl rfl rfl (dk_cutUp hc4 (by omega)) (fun v6 M7 q8 => ?_)
      obtain ⟨⟨y9, rfl⟩, hf10⟩ := q8
      have hK11 := hK.tr hf10
      obtain ⟨t12, tp13⟩ : ∃ t9, M7.2.1 = t9 := ⟨_, rfl⟩
      have nw14 := hf10.1.2
      rw [tp0, tp13] at nw14
      show pl _ _ _ (41, [(4, .ref c), (0, .ref x), (1, .int x1), (2, .int x2), (3, .int x3)], [.int y9, .int x2], M7) _
      refine ps_if2 (S1 := (48, [(4, .ref c), (0, .ref x), (1, .int x1), (2, .int x2), (3, .int x3)], [], M7)) (S2 := (44, [], [], M7)) rfl rfl rfl (fun c_41 => ?_) (fun c_41 => ?_)
      · have c_41 : x2 < y9 := of_decide_eq_true c_41
        refine ps_st (S' := (50, [(4, .ref c), (0, .ref x), (1, .int x1), (2, .int x2), (3, .int x3)], [.ref c], M7)) rfl rfl rfl ?_
        refine ps_st (S' := (51, [(4, .ref c), (0, .ref x), (1, .int x1), (2, .int x2), (3, .int x3)], [.int x2, .ref c], M7)) rfl rfl rfl ?_
        refine ps_st (S' := (52, [(4, .ref c), (0, .ref x), (1, .int x1), (2, .int x2), (3, .int x3)], [.int x3, .int x2, .ref c], M7)) rfl rfl rfl ?_
        refine pl_call (a := [.ref c, .int x2, .int x3]) (rest := []) rfl rfl rfl ((rv_80).and (fw_run rfl)) (fun v15 M16 q17 => ?_)
        obtain ⟨⟨y18, rfl⟩, hf19⟩ := q17
        have hK20 := hK11.tr (frD.of5 hf19)
        obtain ⟨t21, tp22⟩ : ∃ t9, M16.2.1 = t9 := ⟨_, rfl⟩
        have nw23 := hf19.2
        rw [tp13, tp22] at nw23
        show pl _ _ _ (55, [], [.int y18], M16) _
        exact ps_reti rfl (hK20)
      · have c_41 : ¬ (x2 < y9) := of_decide_eq_false c_41
        refine ps_st (S' := (45, [], [.int (-1)], M7)) rfl rfl rfl ?_
        refine ps_st (S' := (55, [], [.int (-1)], M7)) rfl rfl rfl ?_
        exact ps_ret rfl rfl (hK11)
set_option maxHeartbeats 2000000 in
theorem fc_jump {g : xe_G} {M : mi_H} {Y : yT} {x cm fl B : Nat} {nc wp : Int32} {kv : Value} {x1 x2 x3 x4 : Int32}  (hW : WF g Y M) (hx : M.1 x = some (ob 11 [.ref cm, .int nc, .ref fl, kv, .int wp])) (hxn : Y.1 x = none) (hxl : x < M.2.1) (hkv : kvOk Y kv B) : pt (mT g) 14 [.ref x, .int x1, .int x2, .int x3, .int x4] M (fun v M' => frD M M') := by
  refine pt_in (b := mb_14 g) rfl (fun kf => ?_)
  show pl (mT g) kf (mb_14 g).2 (0, [(0, .ref x), (1, .int x1), (2, .int x2), (3, .int x3), (4, .int x4)], [], M) _
  have hK : frD M M := frD.rf
  obtain ⟨z0, tp0⟩ : ∃ z0, M.2.1 = z0 := ⟨_, rfl⟩
  refine ps_st (S' := (1, [(0, .ref x), (1, .int x1), (2, .int x2), (3, .int x3), (4, .int x4)], [.ref x], M)) rfl rfl rfl ?_
  refine ps_st (S' := (2, [(0, .ref x), (1, .int x1), (2, .int x2), (3, .int x3), (4, .int x4)], [.int x1, .ref x], M)) rfl rfl rfl ?_
  refine pl_call (a := [.ref x, .int x1]) (rest := []) rfl rfl rfl ((tq_codeOf hW hx hxn hxl hkv (d := 4) (Nat.le_refl _)).pt) (fun v1 M2 q3 => ?_)
  obtain ⟨q3, eM⟩ := q3
  have eM := eM.symm
  subst eM
  rcases q3 with rfl | ⟨-, c, p9, on, k9, rfl, hy, -⟩
  · skip
    show pl _ _ _ (5, [(0, .ref x), (1, .int x1), (2, .int x2), (3, .int x3), (4, .int x4)], [.null], M) _
    refine ps_st (S' := (7, [(5, .null), (0, .ref x), (1, .int x1), (2, .int x2), (3, .int x3), (4, .int x4)], [], M)) rfl rfl rfl ?_
    refine ps_st (S' := (9, [(5, .null), (0, .ref x), (1, .int x1), (2, .int x2), (3, .int x3), (4, .int x4)], [.null], M)) rfl rfl rfl ?_
    refine ps_st (S' := (25, [], [], M)) rfl rfl rfl ?_
    refine ps_st (S' := (26, [], [.int (-1)], M)) rfl rfl rfl ?_
    refine ps_st (S' := (38, [], [.int (-1)], M)) rfl rfl rfl ?_
    exact ps_ret rfl rfl (hK)
  · skip
    obtain ⟨lc, a0, a1, a2, a3, a4, a6, a8, v9, v10, hc4⟩ := hW.code4 hy
    show pl _ _ _ (5, [(0, .ref x), (1, .int x1), (2, .int x2), (3, .int x3), (4, .int x4)], [.ref c], M) _
    refine ps_st (S' := (7, [(5, .ref c), (0, .ref x), (1, .int x1), (2, .int x2), (3, .int x3), (4, .int x4)], [], M)) rfl rfl rfl ?_
    refine ps_st (S' := (9, [(5, .ref c), (0, .ref x), (1, .int x1), (2, .int x2), (3, .int x3), (4, .int x4)], [.ref c], M)) rfl rfl rfl ?_
    refine ps_st (S' := (12, [(5, .ref c), (0, .ref x), (1, .int x1), (2, .int x2), (3, .int x3), (4, .int x4)], [], M)) rfl rfl rfl ?_
    refine ps_st (S' := (13, [(5, .ref c), (0, .ref x), (1, .int x1), (2, .int x2), (3, .int x3), (4, .int x4)], [.int x2], M)) rfl rfl rfl ?_
    refine ps_if (S1 := (25, [], [], M)) (S2 := (16, [(5, .ref c), (0, .ref x), (1, .int x1), (2, .int x2), (3, .int x3), (4, .int x4)], [], M)) rfl rfl rfl (fun c_13 => ?_) (fun c_13 => ?_)
    · have c_13 : x2 < 0 := of_decide_eq_true c_13
      refine ps_st (S' := (26, [], [.int (-1)], M)) rfl rfl rfl ?_
      refine ps_st (S' := (38, [], [.int (-1)], M)) rfl rfl rfl ?_
      exact ps_ret rfl rfl (hK)
    · have c_13 : ¬ (x2 < 0) := of_decide_eq_false c_13
      refine ps_st (S' := (17, [(5, .ref c), (0, .ref x), (1, .int x1), (2, .int x2), (3, .int x3), (4, .int x4)], [.int x2], M)) rfl rfl rfl ?_
      refine ps_st (S' := (19, [(5, .ref c), (0, .ref x), (1, .int x1), (2, .int x2), (3, .int x3), (4, .int x4)], [.ref c, .int x2], M)) rfl rfl rfl ?_
      refine pl_call (a := [.ref c]) (rest := [.int x2]) rfl rfl rfl (dk_cutUp hc4 (by omega)) (fun v6 M7 q8 => ?_)
      obtain ⟨⟨y9, rfl⟩, hf10⟩ := q8
      have hK11 := hK.tr hf10
      obtain ⟨t12, tp13⟩ : ∃ t9, M7.2.1 = t9 := ⟨_, rfl⟩
      have nw14 := hf10.1.2
      rw [tp0, tp13] at nw14
      show pl _ _ _ (22, [(5, .ref c), (0, .ref x), (1, .int x1), (2, .int x2), (3, .int x3), (4, .int x4)], [.int y9, .int x2], M7) _
      refine ps_if2 (S1 := (29, [(5, .ref c), (0, .ref x), (1, .int x1), (2, .int x2), (3, .int x3), (4, .int x4)], [], M7)) (S2 := (25, [], [], M7)) rfl rfl rfl (fun c_22 => ?_) (fun c_22 => ?_)
      · have c_22 : x2 < y9 := of_decide_eq_true c_22
        refine ps_st (S' := (31, [(5, .ref c), (0, .ref x), (1, .int x1), (2, .int x2), (3, .int x3), (4, .int x4)], [.ref c], M7)) rfl rfl rfl ?_
        refine ps_st (S' := (32, [(5, .ref c), (0, .ref x), (1, .int x1), (2, .int x2), (3, .int x3), (4, .int x4)], [.int x2, .ref c], M7)) rfl rfl rfl ?_
        refine ps_st (S' := (33, [(5, .ref c), (0, .ref x), (1, .int x1), (2, .int x2), (3, .int x3), (4, .int x4)], [.int x3, .int x2, .ref c], M7)) rfl rfl rfl ?_
        refine ps_st (S' := (35, [(5, .ref c), (0, .ref x), (1, .int x1), (2, .int x2), (3, .int x3), (4, .int x4)], [.int x4, .int x3, .int x2, .ref c], M7)) rfl rfl rfl ?_
        refine pl_call (a := [.ref c, .int x2, .int x3, .int x4]) (rest := []) rfl rfl rfl ((rv_84).and (fw_run rfl)) (fun v15 M16 q17 => ?_)
        obtain ⟨⟨y18, rfl⟩, hf19⟩ := q17
        have hK20 := hK11.tr (frD.of5 hf19)
        obtain ⟨t21, tp22⟩ : ∃ t9, M16.2.1 = t9 := ⟨_, rfl⟩
        have nw23 := hf19.2
        rw [tp13, tp22] at nw23
        show pl _ _ _ (38, [], [.int y18], M16) _
        exact ps_reti rfl (hK20)
      · have c_22 : ¬ (x2 < y9) := of_decide_eq_false c_22
        refine ps_st (S' := (26, [], [.int (-1)], M7)) rfl rfl rfl ?_
        refine ps_st (S' := (38, [], [.int (-1)], M7)) rfl rfl rfl ?_
        exact ps_ret rfl rfl (hK11)
end FRB
end
section
/-! read, whatever is kept (laid by wip/p2/c58r.py) -/
set_option maxHeartbeats 2000000 in
theorem tq_read0 {g : xe_G} {M : mi_H} {Y : yT} {x cm fl B m n : Nat} {cc wp : Int32} {kv : Value} (hW : WF g Y M) (hx : M.1 x = some (ob 11 [.ref cm, .int cc, .ref fl, kv, .int wp])) (hxn : Y.1 x = none) (hxl : x < M.2.1) (hlit : ∀ i, i < 15 → g.2.1 i ≠ x) (hst : Y.1 g.1 = some (24, [0])) (hfl : Y.1 fl = some (24, [n])) (hnB : n ≤ B) (hB : B ≤ 65540) {d : Nat} (hd : 16 ≤ d) : mt (mT g) d 18 [.ref x] M (fun v M' => ∃ Y' kv' wp', (∃ y : Int32, v = some (.int y)) ∧ sg g Y M Y' M' (3 * n + 25) (10 * n + 64) ∧ M'.1 x = some (ob 11 [.ref cm, .int cc, .ref g.1, kv', .int wp']) ∧ (kv' = kv ∨ kvOk Y' kv' B)) := by
  obtain ⟨d, rfl⟩ : ∃ e, d = e + 1 := ⟨d - 1, by omega⟩
  refine mt_in (b := mb_18 g) rfl rfl ?_
  show ml (mT g) d (mb_18 g).2 (0, [(0, .ref x)], [], M) _
  have hS : st g Y M M := st.rf hW
  have hA := sa.rf hW
  have hW_hM2 := hS.1
  refine mm_newf (c := 0) (k := 3) (N := 17) (ds := [.null, .null, .int 0, .int 0, .int 0, .int 0, .null, .null, .int 0, .int 0, .int 0, .int 0, .int 0, .int 0, .int 0, .int 0, .int 0]) rfl hW_hM2 (fun M1 hM2 f3 => ?_)
  show ml _ _ _ (3, [(0, .ref x)], [.ref M.2.1], M1) _
  refine ml_st (S' := (4, [(0, .ref x)], [.ref M.2.1, .ref M.2.1], M1)) rfl rfl rfl ?_
  have hW_hM5 := hM2.1.1
  refine mm_newf (c := 0) (k := 1) (N := 1) (ds := [.null]) rfl hW_hM5 (fun M4 hM5 f6 => ?_)
  show ml _ _ _ (7, [(0, .ref x)], [.ref M1.2.1, .ref M.2.1, .ref M.2.1], M4) _
  refine ml_blk 2 (S' := (9, [(0, .ref x)], [.ref x, .ref M1.2.1, .ref M1.2.1, .ref M.2.1, .ref M.2.1], M4)) rfl ?_
  refine mo_get (S' := (12, [(0, .ref x)], [.ref fl, .ref M1.2.1, .ref M1.2.1, .ref M.2.1, .ref M.2.1], M4)) rfl ((hM5.1.2.2.2.2 x (Nat.lt_of_lt_of_le hxl hM2.1.2.2.2.1.1)).trans ((hM2.1.2.2.2.2 x hxl).trans hx)) rfl rfl ?_
  refine ml_call (a := [.ref M1.2.1, .ref fl]) (rest := [.ref M1.2.1, .ref M.2.1, .ref M.2.1]) rfl (okc_v rfl rfl rfl hM5.2.1) rfl rfl (tk_Bytes hW_hM5 hM5  (by omega)) (fun v7 M8 h9 => ?_)
  obtain ⟨rfl, Y10, hM11, h12⟩ := h9
  have h13 := (h12 _ _ hst).1
  have h14 := (h12 _ _ hfl).1
  refine mm_done (k := 1) (ps := [fl, n]) hM11 (okY_new (by decide) hM11.2.1 (by simp [sch]) ⟨rfl, trivial⟩ ((yadd_le hM11.2.2.1 _ _ h14).1) (show n ≤ 65540 by omega)) (fun Y15 h16 h17 h18 => ?_)
  have h19 := (h17 _ _ h13).1
  have h20 := (h17 _ _ h14).1
  have hM21 := hM2.tr h16
  show ml _ _ _ (15, [(0, .ref x)], [.ref M1.2.1, .ref M.2.1, .ref M.2.1], M8) _
  refine ml_call (a := [.ref M.2.1, .ref M1.2.1]) (rest := [.ref M.2.1]) rfl (okc_v rfl rfl rfl hM21.2.1) rfl rfl (tk_ClassFile hW_hM2 hM21 h18 (by omega)) (fun v22 M23 h24 => ?_)
  obtain ⟨rfl, Y25, h26, h27, h28⟩ := h24
  have hA29 := (hA.st hS).tr h26.sa
  have hS30 := st.rf hA29.1
  have h31 := (h27 _ _ h19).1
  have h32 := (h27 _ _ h20).1
  have h33 := (h27 _ _ h18).1
  show ml _ _ _ (18, [(0, .ref x)], [.ref M.2.1], M23) _
  refine ml_st (S' := (19, [(1, .ref M.2.1), (0, .ref x)], [], M23)) rfl rfl rfl ?_
  have hW_hM35 := hS30.1
  refine mm_newf (c := 0) (k := 10) (N := 2) (ds := [.int 0, .int 0]) rfl hW_hM35 (fun M34 hM35 f36 => ?_)
  show ml _ _ _ (22, [(1, .ref M.2.1), (0, .ref x)], [.ref M23.2.1], M34) _
  refine ml_st (S' := (23, [(1, .ref M.2.1), (0, .ref x)], [.ref M23.2.1, .ref M23.2.1], M34)) rfl rfl rfl ?_
  refine ml_call (a := [.ref M23.2.1]) (rest := [.ref M23.2.1]) rfl (okc_v rfl rfl rfl hM35.2.1) rfl rfl (tk_Verdict hW_hM35 hM35  (by omega)) (fun v37 M38 h39 => ?_)
  obtain ⟨rfl, Y40, hM41, h42⟩ := h39
  have h43 := (h42 _ _ h31).1
  have h44 := (h42 _ _ h32).1
  have h45 := (h42 _ _ h33).1
  have h46 := (h42 _ _ h28).1
  refine mm_done (k := 10) (ps := []) hM41 (okY_new (by decide) hM41.2.1 (by simp [sch]) ⟨⟨_, rfl⟩, ⟨_, rfl⟩, trivial⟩ trivial trivial) (fun Y47 h48 h49 h50 => ?_)
  have h51 := (h49 _ _ h43).1
  have h52 := (h49 _ _ h44).1
  have h53 := (h49 _ _ h45).1
  have h54 := (h49 _ _ h46).1
  have hA55 := (hA29.st hS30).tr h48.sa
  have hS56 := st.rf hA55.1
  show ml _ _ _ (26, [(1, .ref M.2.1), (0, .ref x)], [.ref M23.2.1], M38) _
  refine ml_st (S' := (27, [(2, .ref M23.2.1), (1, .ref M.2.1), (0, .ref x)], [], M38)) rfl rfl rfl ?_
  refine ml_blk 2 (S' := (31, [(2, .ref M23.2.1), (1, .ref M.2.1), (0, .ref x)], [.ref g.1, .ref x], M38)) rfl ?_
  refine gx_put (l' := [.ref cm, .int cc, .ref g.1, kv, .int wp]) rfl ((hS56.2.2 x ((hA55.2.2.1 x hxl).trans hxn)).trans ((hA55.2.2.2.2 x hxn hxl).trans hx)) rfl rfl rfl hS56.1 ((hA55.2.2.1 x hxl).trans hxn) hlit (fun M57 hs58 hc59 hm60 hf61 => ?_)
  have hG62 := ((hA55.st hS56).sg).tr hs58
  have hxn63 := (hG62.2.2.1 x hxl).trans hxn
  have hxl64 := Nat.lt_of_lt_of_le hxl hG62.2.2.2.1
  have hA65 := sa.rf hG62.1
  have hS66 := st.rf hG62.1
  show ml _ _ _ (34, [(2, .ref M23.2.1), (1, .ref M.2.1), (0, .ref x)], [], M57) _
  refine ml_blk 2 (S' := (36, [(2, .ref M23.2.1), (1, .ref M.2.1), (0, .ref x)], [.ref M23.2.1, .ref M.2.1], M57)) rfl ?_
  refine ml_call (a := [.ref M.2.1, .ref M23.2.1]) (rest := []) rfl (rfl) rfl rfl (tg_isWhole hS66.1 h54 h53 h50 (by omega)) (fun v67 M68 h69 => ?_)
  obtain ⟨Y71, ⟨u70, rfl, z73⟩, hv72⟩ := h69
  have hA74 := (hA65.st hS66).tr hv72
  have hS75 := st.rf hA74.1
  have h76 := (hv72.2.1 _ _ h51).1
  have h77 := (hv72.2.1 _ _ h52).1
  have h78 := (hv72.2.1 _ _ h53).1
  have h79 := (hv72.2.1 _ _ h54).1
  have h80 := (hv72.2.1 _ _ h50).1
  show ml _ _ _ (39, [(2, .ref M23.2.1), (1, .ref M.2.1), (0, .ref x)], [.int u70], M68) _
  refine ml_if (S1 := (55, [(0, .ref x), (2, .ref M23.2.1)], [], M68)) (S2 := (42, [(2, .ref M23.2.1), (1, .ref M.2.1), (0, .ref x)], [], M68)) rfl rfl rfl (fun c_39 => ?_) (fun c_39 => ?_)
  · have c_39 : u70 = 0 := of_decide_eq_true c_39
    refine ml_blk 2 (S' := (57, [(0, .ref x), (2, .ref M23.2.1)], [.ref M23.2.1, .ref x], M68)) rfl ?_
    refine tg_int rfl hS75.1 h80 (by decide) rfl (fun u81 g82 => ?_)
    show ml _ _ _ (60, [(0, .ref x), (2, .ref M23.2.1)], [.int u81, .ref x], M68) _
    refine gx_put (l' := [.ref cm, .int cc, .ref g.1, kv, .int u81]) rfl ((hS75.2.2 x ((hA74.2.2.1 x hxl64).trans hxn63)).trans ((hA74.2.2.2.2 x hxn63 hxl64).trans hc59)) rfl rfl rfl hS75.1 ((hA74.2.2.1 x hxl64).trans hxn63) hlit (fun M83 hs84 hc85 hm86 hf87 => ?_)
    have hG88 := (hG62.tr (hA74.st hS75).sg).tr hs84
    have hxn89 := (hG88.2.2.1 x hxl).trans hxn
    have hxl90 := Nat.lt_of_lt_of_le hxl hG88.2.2.2.1
    have hA91 := sa.rf hG88.1
    have hS92 := st.rf hG88.1
    show ml _ _ _ (63, [(0, .ref x), (2, .ref M23.2.1)], [], M83) _
    refine ml_st (S' := (64, [(0, .ref x), (2, .ref M23.2.1)], [.ref M23.2.1], M83)) rfl rfl rfl ?_
    refine tg_int rfl hS92.1 h80 (by decide) rfl (fun u93 g94 => ?_)
    show ml _ _ _ (67, [(0, .ref x), (2, .ref M23.2.1)], [.int u93], M83) _
    exact ml_ret rfl (rfl) (⟨Y71, _, _, ⟨_, rfl⟩, (hG88.tr (hA91.st hS92).sg).le (by omega) (by omega), ((hS92.2.2 x ((hA91.2.2.1 x hxl90).trans hxn89)).trans ((hA91.2.2.2.2 x hxn89 hxl90).trans hc85)), Or.inl rfl⟩)
  · have c_39 : ¬ (u70 = 0) := of_decide_eq_false c_39
    refine ml_blk 2 (S' := (44, [(2, .ref M23.2.1), (1, .ref M.2.1), (0, .ref x)], [.ref M23.2.1, .ref M.2.1], M68)) rfl ?_
    refine ml_call (a := [.ref M.2.1, .ref M23.2.1]) (rest := []) rfl (rfl) rfl rfl (tg_holds hS75.1 h79 h78 h80 (by omega)) (fun v95 M96 h97 => ?_)
    obtain ⟨Y99, ⟨u98, rfl, z101⟩, hv100⟩ := h97
    have hA102 := (hA74.st hS75).tr hv100
    have hS103 := st.rf hA102.1
    have h104 := (hv100.2.1 _ _ h76).1
    have h105 := (hv100.2.1 _ _ h77).1
    have h106 := (hv100.2.1 _ _ h78).1
    have h107 := (hv100.2.1 _ _ h79).1
    have h108 := (hv100.2.1 _ _ h80).1
    show ml _ _ _ (47, [(2, .ref M23.2.1), (1, .ref M.2.1), (0, .ref x)], [.int u98], M96) _
    refine ml_if (S1 := (55, [(0, .ref x), (2, .ref M23.2.1)], [], M96)) (S2 := (50, [(2, .ref M23.2.1), (1, .ref M.2.1), (0, .ref x)], [], M96)) rfl rfl rfl (fun c_47 => ?_) (fun c_47 => ?_)
    · have c_47 : u98 = 0 := of_decide_eq_true c_47
      refine ml_blk 2 (S' := (57, [(0, .ref x), (2, .ref M23.2.1)], [.ref M23.2.1, .ref x], M96)) rfl ?_
      refine tg_int rfl hS103.1 h108 (by decide) rfl (fun u109 g110 => ?_)
      show ml _ _ _ (60, [(0, .ref x), (2, .ref M23.2.1)], [.int u109, .ref x], M96) _
      refine gx_put (l' := [.ref cm, .int cc, .ref g.1, kv, .int u109]) rfl ((hS103.2.2 x ((hA102.2.2.1 x hxl64).trans hxn63)).trans ((hA102.2.2.2.2 x hxn63 hxl64).trans hc59)) rfl rfl rfl hS103.1 ((hA102.2.2.1 x hxl64).trans hxn63) hlit (fun M111 hs112 hc113 hm114 hf115 => ?_)
      have hG116 := (hG62.tr (hA102.st hS103).sg).tr hs112
      have hxn117 := (hG116.2.2.1 x hxl).trans hxn
      have hxl118 := Nat.lt_of_lt_of_le hxl hG116.2.2.2.1
      have hA119 := sa.rf hG116.1
      have hS120 := st.rf hG116.1
      show ml _ _ _ (63, [(0, .ref x), (2, .ref M23.2.1)], [], M111) _
      refine ml_st (S' := (64, [(0, .ref x), (2, .ref M23.2.1)], [.ref M23.2.1], M111)) rfl rfl rfl ?_
      refine tg_int rfl hS120.1 h108 (by decide) rfl (fun u121 g122 => ?_)
      show ml _ _ _ (67, [(0, .ref x), (2, .ref M23.2.1)], [.int u121], M111) _
      exact ml_ret rfl (rfl) (⟨Y99, _, _, ⟨_, rfl⟩, (hG116.tr (hA119.st hS120).sg).le (by omega) (by omega), ((hS120.2.2 x ((hA119.2.2.1 x hxl118).trans hxn117)).trans ((hA119.2.2.2.2 x hxn117 hxl118).trans hc113)), Or.inl rfl⟩)
    · have c_47 : ¬ (u98 = 0) := of_decide_eq_false c_47
      refine ml_blk 2 (S' := (52, [(2, .ref M23.2.1), (1, .ref M.2.1), (0, .ref x)], [.ref M.2.1, .ref x], M96)) rfl ?_
      refine gx_put (l' := [.ref cm, .int cc, .ref g.1, .ref M.2.1, .int wp]) rfl ((hS103.2.2 x ((hA102.2.2.1 x hxl64).trans hxn63)).trans ((hA102.2.2.2.2 x hxn63 hxl64).trans hc59)) rfl rfl rfl hS103.1 ((hA102.2.2.1 x hxl64).trans hxn63) hlit (fun M123 hs124 hc125 hm126 hf127 => ?_)
      have hG128 := (hG62.tr (hA102.st hS103).sg).tr hs124
      have hxn129 := (hG128.2.2.1 x hxl).trans hxn
      have hxl130 := Nat.lt_of_lt_of_le hxl hG128.2.2.2.1
      have hA131 := sa.rf hG128.1
      have hS132 := st.rf hG128.1
      show ml _ _ _ (55, [(0, .ref x), (2, .ref M23.2.1)], [], M123) _
      refine ml_blk 2 (S' := (57, [(0, .ref x), (2, .ref M23.2.1)], [.ref M23.2.1, .ref x], M123)) rfl ?_
      refine tg_int rfl hS132.1 h108 (by decide) rfl (fun u133 g134 => ?_)
      show ml _ _ _ (60, [(0, .ref x), (2, .ref M23.2.1)], [.int u133, .ref x], M123) _
      refine gx_put (l' := [.ref cm, .int cc, .ref g.1, .ref M.2.1, .int u133]) rfl ((hS132.2.2 x ((hA131.2.2.1 x hxl130).trans hxn129)).trans ((hA131.2.2.2.2 x hxn129 hxl130).trans hc125)) rfl rfl rfl hS132.1 ((hA131.2.2.1 x hxl130).trans hxn129) hlit (fun M135 hs136 hc137 hm138 hf139 => ?_)
      have hG140 := (hG128.tr (hA131.st hS132).sg).tr hs136
      have hxn141 := (hG140.2.2.1 x hxl).trans hxn
      have hxl142 := Nat.lt_of_lt_of_le hxl hG140.2.2.2.1
      have hA143 := sa.rf hG140.1
      have hS144 := st.rf hG140.1
      show ml _ _ _ (63, [(0, .ref x), (2, .ref M23.2.1)], [], M135) _
      refine ml_st (S' := (64, [(0, .ref x), (2, .ref M23.2.1)], [.ref M23.2.1], M135)) rfl rfl rfl ?_
      refine tg_int rfl hS144.1 h108 (by decide) rfl (fun u145 g146 => ?_)
      show ml _ _ _ (67, [(0, .ref x), (2, .ref M23.2.1)], [.int u145], M135) _
      exact ml_ret rfl (rfl) (⟨Y99, _, _, ⟨_, rfl⟩, (hG140.tr (hA143.st hS144).sg).le (by omega) (by omega), ((hS144.2.2 x ((hA143.2.2.1 x hxl142).trans hxn141)).trans ((hA143.2.2.2.2 x hxn141 hxl142).trans hc137)), Or.inr (Or.inr ⟨_, _, _, _, rfl, h107, hnB⟩)⟩)
end
section
/-! all fields, all methods; their rows stay (laid by wip/p4/d27.py) -/
set_option maxHeartbeats 1000000 in
theorem dk_fieldsHold2 {g : xe_G} {M : mi_H} {f : Nat → Int32} {n N q : Nat} {E : List (Nat × Nat)} {o c b da vd ac mr fa ic mj na pa : Nat} {mi ru wa k1 k2 k3 k4 k5 k6 k7 : Int32} {ox : Nat} {og ga gf : Nat} {gn gw : Int32} {gk : Value} {s1 : Int32} {B : List Nat} {G : Nat → Nat} {mm : Nat} {B2 : List Nat} {G2 : Nat → Nat} {m2 kk2 : Nat} (h_ox : M.1 ox = some (ob 8 [.ref q, .int (nI mj), .ref vd])) (h_og : M.1 og = some (ob 11 [.ref ga, .int gn, .ref gf, gk, .int gw])) (h_o : M.1 o = some (ob 2 [.ref c, .ref b, .ref q, .ref vd, .ref ac])) (h_c : M.1 c = some (ob 3 [.ref b, .ref q, .int mi, .int (nI mj), .int (nI fa), .int (nI ic), .ref mm, .ref mr, .int (nI na), .int (nI pa), .int k1, .int k2, .int k3, .int k4, .int k5, .int k6, .int k7])) (h_b : M.1 b = some (ob 1 [.ref da])) (h_da : M.1 da = some (ar .byte n f)) (h_vd : M.1 vd = some (ob 10 [.int ru, .int wa])) (h_ac : M.1 ac = some (ob 0 [.ref c, .ref b, .ref q, .ref vd, .int s1])) (hn : n ≤ 65540) (hmj : mj < 65536) (hfa : fa + 8 ≤ n) (hB9 : B.length < 65536) (hB : ∀ i, i < B.length → B.getD i 0 + 8 ≤ n ∧ ∃ e0, s_atts f n (by2 f (B.getD i 0 + 6)) (B.getD i 0 + 8) = .inr e0) (hD : ∀ i j, i < B.length → j < B2.length → ¬ G i = G2 j) (l_o : o < M.2.1) (l_c : c < M.2.1) (l_b : b < M.2.1) (l_da : da < M.2.1) (l_vd : vd < M.2.1) (l_ac : ac < M.2.1) (l_q : q < M.2.1) (l_ox : ox < M.2.1) (l_og : og < M.2.1) (hV : PV g f n N E q M) (hM : MV f B mm G 0 M) (hM2 : MV f B2 m2 G2 kk2 M) : pt (mT g) 57 [.ref o] M (fun v M' => (∃ (s2 : Int32), (flS f n E (by2 f fa) B B.length 0 = none) ∧ (PV g f n N E q M') ∧ (MV f B2 m2 G2 kk2 M') ∧ (MV f B mm G B.length M') ∧ v = some (.int 1) ∧ M'.1 ox = some (ob 8 [.ref q, .int (nI mj), .ref vd]) ∧ M'.1 og = some (ob 11 [.ref ga, .int gn, .ref gf, gk, .int gw]) ∧ M'.1 o = some (ob 2 [.ref c, .ref b, .ref q, .ref vd, .ref ac]) ∧ M'.1 c = some (ob 3 [.ref b, .ref q, .int mi, .int (nI mj), .int (nI fa), .int (nI ic), .ref mm, .ref mr, .int (nI na), .int (nI pa), .int k1, .int k2, .int k3, .int k4, .int k5, .int k6, .int k7]) ∧ M'.1 b = some (ob 1 [.ref da]) ∧ M'.1 da = some (ar .byte n f) ∧ M'.1 vd = some (ob 10 [.int ru, .int wa]) ∧ M'.1 ac = some (ob 0 [.ref c, .ref b, .ref q, .ref vd, .int s2]) ∧ M.2.1 ≤ M'.2.1) ∨ (∃ (e9 : Nat × Nat), (flS f n E (by2 f fa) B B.length 0 = some e9) ∧ v = some (.int 0) ∧ M'.1 vd = some (ob 10 [.int (nI e9.1), .int (nI e9.2)]) ∧ M'.1 og = some (ob 11 [.ref ga, .int gn, .ref gf, gk, .int gw]) ∧ M.2.1 ≤ M'.2.1)) := by
  refine pt_in (b := mb_57 g) rfl (fun kf => ?_)
  show pl (mT g) kf (mb_57 g).2 (0, [(0, .ref o)], [], M) _
  obtain ⟨z0, tp0⟩ : ∃ z0, M.2.1 = z0 := ⟨_, rfl⟩
  have LL : ∀ (kf : Nat), (∀ (i t1 : Nat) (s2 : Int32) (M1 : mi_H), (M1.1 ox = some (ob 8 [.ref q, .int (nI mj), .ref vd])) → (M1.1 og = some (ob 11 [.ref ga, .int gn, .ref gf, gk, .int gw])) → (M1.1 o = some (ob 2 [.ref c, .ref b, .ref q, .ref vd, .ref ac])) → (M1.1 c = some (ob 3 [.ref b, .ref q, .int mi, .int (nI mj), .int (nI fa), .int (nI ic), .ref mm, .ref mr, .int (nI na), .int (nI pa), .int k1, .int k2, .int k3, .int k4, .int k5, .int k6, .int k7])) → (M1.1 b = some (ob 1 [.ref da])) → (M1.1 da = some (ar .byte n f)) → (M1.1 vd = some (ob 10 [.int ru, .int wa])) → (M1.1 ac = some (ob 0 [.ref c, .ref b, .ref q, .ref vd, .int s2])) → (PV g f n N E q M1) → (MV f B mm G i M1) → (MV f B2 m2 G2 kk2 M1) → (M1.2.1 = t1) → (z0 ≤ t1) → (i ≤ B.length) → (flS f n E (by2 f fa) B (B.length - i) i = flS f n E (by2 f fa) B B.length 0) →  pl (mT g) kf (mb_57 g).2 (2, [(0, .ref o), (1, .int (nI i))], [], M1) (fun v M' => (∃ (s2 : Int32), (flS f n E (by2 f fa) B B.length 0 = none) ∧ (PV g f n N E q M') ∧ (MV f B2 m2 G2 kk2 M') ∧ (MV f B mm G B.length M') ∧ v = some (.int 1) ∧ M'.1 ox = some (ob 8 [.ref q, .int (nI mj), .ref vd]) ∧ M'.1 og = some (ob 11 [.ref ga, .int gn, .ref gf, gk, .int gw]) ∧ M'.1 o = some (ob 2 [.ref c, .ref b, .ref q, .ref vd, .ref ac]) ∧ M'.1 c = some (ob 3 [.ref b, .ref q, .int mi, .int (nI mj), .int (nI fa), .int (nI ic), .ref mm, .ref mr, .int (nI na), .int (nI pa), .int k1, .int k2, .int k3, .int k4, .int k5, .int k6, .int k7]) ∧ M'.1 b = some (ob 1 [.ref da]) ∧ M'.1 da = some (ar .byte n f) ∧ M'.1 vd = some (ob 10 [.int ru, .int wa]) ∧ M'.1 ac = some (ob 0 [.ref c, .ref b, .ref q, .ref vd, .int s2]) ∧ M.2.1 ≤ M'.2.1) ∨ (∃ (e9 : Nat × Nat), (flS f n E (by2 f fa) B B.length 0 = some e9) ∧ v = some (.int 0) ∧ M'.1 vd = some (ob 10 [.int (nI e9.1), .int (nI e9.2)]) ∧ M'.1 og = some (ob 11 [.ref ga, .int gn, .ref gf, gk, .int gw]) ∧ M.2.1 ≤ M'.2.1))) := by
    intro kf
    induction kf with
    | zero => exact (by intros; exact pl_0)
    | succ kf ih =>
      intro i t1 s2 M1 hl_ox hl_og hl_o hl_c hl_b hl_da hl_vd hl_ac hV1 hM1 hM21 tp1 ht hi hs
      refine ps_st1 (S' := (3, [(0, .ref o), (1, .int (nI i))], [.int (nI i)], M1)) rfl rfl rfl ?_
      obtain ⟨R, h_mm, hR⟩ := hM1.2.1
      have l_mm := hM1.1
      refine ps_st (S' := (4, [(0, .ref o), (1, .int (nI i))], [.ref o, .int (nI i)], M1)) rfl rfl rfl ?_
      refine ps_get (S' := (7, [(0, .ref o), (1, .int (nI i))], [.ref c, .int (nI i)], M1)) rfl hl_o rfl rfl ?_
      refine ps_get (S' := (10, [(0, .ref o), (1, .int (nI i))], [.ref mm, .int (nI i)], M1)) rfl hl_c rfl rfl ?_
      refine ps_aalen (S' := (11, [(0, .ref o), (1, .int (nI i))], [.int (nI B.length), .int (nI i)], M1)) rfl h_mm rfl ?_
      refine ps_if2 (S1 := (59, [(0, .ref o), (1, .int (nI i))], [], M1)) (S2 := (14, [(0, .ref o), (1, .int (nI i))], [], M1)) rfl rfl rfl (fun c_11 => ?_) (fun c_11 => ?_)
      · have c_11 : (nI B.length) ≤ (nI i) := of_decide_eq_true c_11
        have n_11 : B.length ≤ i := (le_nI (p := B.length) (n := i) (by omega) (by omega)).mp c_11
        refine ps_st (S' := (60, [(0, .ref o), (1, .int (nI i))], [.int 1], M1)) rfl rfl rfl ?_
        exact ps_ret rfl rfl (Or.inl ⟨s2, by rw [← hs, show B.length - i = 0 by omega]; rfl, hV1, hM21, hM1.le (by omega), rfl, hl_ox, hl_og, hl_o, hl_c, hl_b, hl_da, hl_vd, hl_ac, by omega⟩)
      · have c_11 : ¬ ((nI B.length) ≤ (nI i)) := of_decide_eq_false c_11
        have n_11 : ¬ (B.length ≤ i) := fun h9 => c_11 ((le_nI (p := B.length) (n := i) (by omega) (by omega)).mpr h9)
        refine ps_st (S' := (15, [(0, .ref o), (1, .int (nI i))], [.ref o], M1)) rfl rfl rfl ?_
        refine ps_get (S' := (18, [(0, .ref o), (1, .int (nI i))], [.ref c], M1)) rfl hl_o rfl rfl ?_
        refine ps_get (S' := (21, [(0, .ref o), (1, .int (nI i))], [.ref mm], M1)) rfl hl_c rfl rfl ?_
        refine ps_st (S' := (22, [(0, .ref o), (1, .int (nI i))], [.int (nI i), .ref mm], M1)) rfl rfl rfl ?_
        obtain ⟨hl8, y1, y2, y3, y4, yv, hc8, hv8⟩ := hM1.2.2.2 i (by omega)
        obtain ⟨a, ha⟩ : ∃ a, G i = a := ⟨_, rfl⟩
        rw [ha] at hc8 hl8
        have hA : G i = a ∧ i < B.length ∧ i < i + 1 := ⟨ha, by omega, by omega⟩
        have hM9 := hM1.le (Nat.le_succ i)
        have hb0 : B.getD i 0 = B.getD i 0 := rfl
        have hDa : ∀ j, j < B2.length → ¬ G2 j = a := fun j hj e9 => hD i j (by omega) hj (ha.trans e9.symm)
        obtain ⟨hb1, e0, hat⟩ := hB i (by omega)
        refine ps_aald (S' := (23, [(0, .ref o), (1, .int (nI i))], [.ref a], M1)) rfl h_mm (⟨by omega, by rw [hR i (by omega), ha]⟩) rfl ?_
        refine ps_st (S' := (24, [(2, .ref a), (0, .ref o), (1, .int (nI i))], [], M1)) rfl rfl rfl ?_
        refine ps_st (S' := (25, [(2, .ref a), (0, .ref o), (1, .int (nI i))], [.ref a], M1)) rfl rfl rfl ?_
        refine ps_st (S' := (31, [(2, .ref a), (0, .ref o), (1, .int (nI i))], [], M1)) rfl rfl rfl ?_
        refine ps_st (S' := (32, [(2, .ref a), (0, .ref o), (1, .int (nI i))], [.ref o], M1)) rfl rfl rfl ?_
        refine ps_st (S' := (33, [(2, .ref a), (0, .ref o), (1, .int (nI i))], [.ref a, .ref o], M1)) rfl rfl rfl ?_
        refine ps_st (S' := (34, [(2, .ref a), (0, .ref o), (1, .int (nI i))], [.int (nI i), .ref a, .ref o], M1)) rfl rfl rfl ?_
        refine pl_call (a := [.ref o, .ref a, .int (nI i)]) (rest := []) rfl rfl rfl (dk_fieldHolds (f := f) (n := n) (N := N) (q := q) (E := E) (o := o) (c := c) (b := b) (da := da) (vd := vd) (ac := ac) (mr := mr) (fa := fa) (ic := ic) (mj := mj) (na := na) (pa := pa) (mi := mi) (ru := ru) (wa := wa) (k1 := k1) (k2 := k2) (k3 := k3) (k4 := k4) (k5 := k5) (k6 := k6) (k7 := k7) (a := a) (b0 := (B.getD i 0)) (kn := y1) (co := y2) (ap := y3) (ex := y4) (cd := yv) (B := B) (G := G) (mm := mm) (kk := (i + 1)) (i0 := i) hl_o hl_c hl_b hl_da hl_vd hc8 (hn) (hmj) (hfa) (hA) (rfl) (hB9) (hb1) (hV1) (hM9)) (fun v1 M2 q3 => ?_)
        rcases q3 with q3 | q3
        · skip
          obtain ⟨q34_s, rfl, h4, f5⟩ := q3
          have h7 := (f5.1 ox (nin1 (ob_ne hl_ox hl_vd (by decide)))).trans hl_ox
          have h8 := (f5.1 og (nin1 (ob_ne hl_og hl_vd (by decide)))).trans hl_og
          have h9 := (f5.1 o (nin1 (ob_ne hl_o hl_vd (by decide)))).trans hl_o
          have h10 := (f5.1 c (nin1 (ob_ne hl_c hl_vd (by decide)))).trans hl_c
          have h11 := (f5.1 b (nin1 (ob_ne hl_b hl_vd (by decide)))).trans hl_b
          have h12 := (f5.1 da (nin1 (Ne.symm (ob_ar hl_vd hl_da)))).trans hl_da
          have h13 := (f5.1 ac (nin1 (ob_ne hl_ac hl_vd (by decide)))).trans hl_ac
          have h14 := (f5.1 mm (nin1 (Ne.symm (ob_ro hl_vd h_mm)))).trans h_mm
          have h15 := (f5.1 a (nin1 (ob_ne hc8 hl_vd (by decide)))).trans hc8
          have tp17 : M2.2.1 = t1 := by rw [f5.2]; exact tp1
          have hV18 := hV1.keep f5.gm (n7c hl_vd (by decide) (n7nil))
          have hV19 := hM9.keep f5.gm (n6o hl_vd (by decide) (n6on))
          have hV20 := hM21.keep f5.gm (n6o hl_vd (by decide) (n6on))
          show pl _ _ _ (37, [(2, .ref a), (0, .ref o), (1, .int (nI i))], [.int 1], M2) _
          refine ps_if (S1 := (51, [], [], M2)) (S2 := (40, [(2, .ref a), (0, .ref o), (1, .int (nI i))], [], M2)) rfl rfl rfl (fun c_37 => ?_) (fun c_37 => ?_)
          · exact absurd (of_decide_eq_true c_37) (by decide)
          refine ps_st (S' := (41, [(2, .ref a), (0, .ref o), (1, .int (nI i))], [.ref o], M2)) rfl rfl rfl ?_
          refine ps_get (S' := (44, [(2, .ref a), (0, .ref o), (1, .int (nI i))], [.ref ac], M2)) rfl h9 rfl rfl ?_
          refine ps_st (S' := (45, [(2, .ref a), (0, .ref o), (1, .int (nI i))], [.ref a, .ref ac], M2)) rfl rfl rfl ?_
          refine pl_call (a := [.ref ac, .ref a]) (rest := []) rfl rfl rfl (dk_ofField (f := f) (n := n) (N := N) (q := q) (E := E) (ac := ac) (c := c) (b := b) (da := da) (vd := vd) (fr := mm) (mr := mr) (fa := fa) (ic := ic) (mj := mj) (na := na) (pa := pa) (mi := mi) (ru := ru) (wa := wa) (s1 := s2) (k1 := k1) (k2 := k2) (k3 := k3) (k4 := k4) (k5 := k5) (k6 := k6) (k7 := k7) (a := a) (b0 := (B.getD i 0)) (e0 := e0) (kn := y1) (co := y2) (ap := y3) (ex := y4) (cd := yv) h13 h11 h12 h10 h4 h15 (hn) (hmj) (hb1) (hat) (hV18)) (fun v21 M22 q23 => ?_)
          rcases q23 with q23 | q23
          · skip
            obtain ⟨s224, kn225, co226, q45_s, rfl, h27, h28, h29, f30⟩ := q23
            have h32 := (f30.1 ox (nin3 (ob_ne h7 h13 (by decide)) (ob_ne h7 h4 (by decide)) (ob_ne h7 h15 (by decide)))).trans h7
            have h33 := (f30.1 og (nin3 (ob_ne h8 h13 (by decide)) (ob_ne h8 h4 (by decide)) (ob_ne h8 h15 (by decide)))).trans h8
            have h34 := (f30.1 o (nin3 (ob_ne h9 h13 (by decide)) (ob_ne h9 h4 (by decide)) (ob_ne h9 h15 (by decide)))).trans h9
            have h35 := (f30.1 c (nin3 (ob_ne h10 h13 (by decide)) (ob_ne h10 h4 (by decide)) (ob_ne h10 h15 (by decide)))).trans h10
            have h36 := (f30.1 b (nin3 (ob_ne h11 h13 (by decide)) (ob_ne h11 h4 (by decide)) (ob_ne h11 h15 (by decide)))).trans h11
            have h37 := (f30.1 da (nin3 (Ne.symm (ob_ar h13 h12)) (Ne.symm (ob_ar h4 h12)) (Ne.symm (ob_ar h15 h12)))).trans h12
            have h38 := (f30.1 mm (nin3 (Ne.symm (ob_ro h13 h14)) (Ne.symm (ob_ro h4 h14)) (Ne.symm (ob_ro h15 h14)))).trans h14
            have tp40 : M22.2.1 = t1 := by rw [f30.2]; exact tp17
            have hV41 := hV18.keep f30.gm (n7c h13 (by decide) (n7c h4 (by decide) (n7c h15 (by decide) (n7nil))))
            have hV42 := hV19.keepA f30.gm (n6c h13 (by decide) (n6c h4 (by decide) (n6a (n6nil)))) hA h29 hb0
            have hV43 := hV20.keepB f30.gm (n6c h13 (by decide) (n6c h4 (by decide) (n6a (n6nil)))) h15 hDa
            show pl _ _ _ (48, [(2, .ref a), (0, .ref o), (1, .int (nI i))], [.int 1], M22) _
            refine ps_if (S1 := (53, [(0, .ref o), (1, .int (nI i))], [], M22)) (S2 := (51, [], [], M22)) rfl rfl rfl (fun c_48 => ?_) (fun c_48 => ?_)
            rotate_left
            · exact absurd (by decide) (of_decide_eq_false c_48)
            refine ps_st (S' := (56, [(1, .int ((nI i) + 1)), (0, .ref o)], [], M22)) rfl rfl rfl ?_
            rw [nI_add1 (p := i) (k := 1) (x := 1) rfl (by omega)]
            show pl _ _ _ (_, [(1, .int (nI (i + 1))), (0, .ref o)], [], M22) _
            refine ps_st (S' := (2, [(0, .ref o), (1, .int (nI (i + 1)))], [], M22)) rfl rfl rfl ?_
            exact ih (i + 1) (t1) (s224) M22 h32 h33 h34 h35 h36 h37 h27 h28 hV41 hV42 hV43  (tp40) (by omega) (by omega) (by
                rw [← hs, flS_st (i := i) (by omega)]
                rw [q34_s]
                try dsimp only
                rw [q45_s]
                try dsimp only
                first | done | rfl)
          · skip
            obtain ⟨e944, q45_s, rfl, h45, f46⟩ := q23
            have h48 := (f46.1 ox (nin3 (ob_ne h7 h13 (by decide)) (ob_ne h7 h4 (by decide)) (ob_ne h7 h15 (by decide)))).trans h7
            have h49 := (f46.1 og (nin3 (ob_ne h8 h13 (by decide)) (ob_ne h8 h4 (by decide)) (ob_ne h8 h15 (by decide)))).trans h8
            have h50 := (f46.1 o (nin3 (ob_ne h9 h13 (by decide)) (ob_ne h9 h4 (by decide)) (ob_ne h9 h15 (by decide)))).trans h9
            have h51 := (f46.1 c (nin3 (ob_ne h10 h13 (by decide)) (ob_ne h10 h4 (by decide)) (ob_ne h10 h15 (by decide)))).trans h10
            have h52 := (f46.1 b (nin3 (ob_ne h11 h13 (by decide)) (ob_ne h11 h4 (by decide)) (ob_ne h11 h15 (by decide)))).trans h11
            have h53 := (f46.1 da (nin3 (Ne.symm (ob_ar h13 h12)) (Ne.symm (ob_ar h4 h12)) (Ne.symm (ob_ar h15 h12)))).trans h12
            have h54 := (f46.1 mm (nin3 (Ne.symm (ob_ro h13 h14)) (Ne.symm (ob_ro h4 h14)) (Ne.symm (ob_ro h15 h14)))).trans h14
            have tp56 : M22.2.1 = t1 := by rw [f46.2]; exact tp17
            have hV57 := hV18.keep f46.gm (n7c h13 (by decide) (n7c h4 (by decide) (n7c h15 (by decide) (n7nil))))
            have hV58 := hV20.keepB f46.gm (n6c h13 (by decide) (n6c h4 (by decide) (n6a (n6nil)))) h15 hDa
            show pl _ _ _ (48, [(2, .ref a), (0, .ref o), (1, .int (nI i))], [.int 0], M22) _
            refine ps_if (S1 := (53, [(0, .ref o), (1, .int (nI i))], [], M22)) (S2 := (51, [], [], M22)) rfl rfl rfl (fun c_48 => ?_) (fun c_48 => ?_)
            · exact absurd (of_decide_eq_true c_48) (by decide)
            refine ps_st (S' := (52, [], [.int 0], M22)) rfl rfl rfl ?_
            exact ps_ret rfl rfl (Or.inr ⟨e944, by
                rw [← hs, flS_st (i := i) (by omega)]
                rw [q34_s]
                try dsimp only
                rw [q45_s]
                try dsimp only
                first | done | rfl, rfl, h45, h49, by omega⟩)
        · skip
          obtain ⟨e59, q34_s, rfl, h60, f61⟩ := q3
          have h63 := (f61.1 ox (nin1 (ob_ne hl_ox hl_vd (by decide)))).trans hl_ox
          have h64 := (f61.1 og (nin1 (ob_ne hl_og hl_vd (by decide)))).trans hl_og
          have h65 := (f61.1 o (nin1 (ob_ne hl_o hl_vd (by decide)))).trans hl_o
          have h66 := (f61.1 c (nin1 (ob_ne hl_c hl_vd (by decide)))).trans hl_c
          have h67 := (f61.1 b (nin1 (ob_ne hl_b hl_vd (by decide)))).trans hl_b
          have h68 := (f61.1 da (nin1 (Ne.symm (ob_ar hl_vd hl_da)))).trans hl_da
          have h69 := (f61.1 ac (nin1 (ob_ne hl_ac hl_vd (by decide)))).trans hl_ac
          have h70 := (f61.1 mm (nin1 (Ne.symm (ob_ro hl_vd h_mm)))).trans h_mm
          have h71 := (f61.1 a (nin1 (ob_ne hc8 hl_vd (by decide)))).trans hc8
          have tp73 : M2.2.1 = t1 := by rw [f61.2]; exact tp1
          have hV74 := hV1.keep f61.gm (n7c hl_vd (by decide) (n7nil))
          have hV75 := hM9.keep f61.gm (n6o hl_vd (by decide) (n6on))
          have hV76 := hM21.keep f61.gm (n6o hl_vd (by decide) (n6on))
          show pl _ _ _ (37, [(2, .ref a), (0, .ref o), (1, .int (nI i))], [.int 0], M2) _
          refine ps_if (S1 := (51, [], [], M2)) (S2 := (40, [(2, .ref a), (0, .ref o), (1, .int (nI i))], [], M2)) rfl rfl rfl (fun c_37 => ?_) (fun c_37 => ?_)
          rotate_left
          · exact absurd (by decide) (of_decide_eq_false c_37)
          refine ps_st (S' := (52, [], [.int 0], M2)) rfl rfl rfl ?_
          exact ps_ret rfl rfl (Or.inr ⟨e59, by
              rw [← hs, flS_st (i := i) (by omega)]
              rw [q34_s]
              try dsimp only
              first | done | rfl, rfl, h60, h64, by omega⟩)
  refine ps_st (S' := (1, [(0, .ref o)], [.int 0], M)) rfl rfl rfl ?_
  refine ps_st (S' := (2, [(0, .ref o), (1, .int 0)], [], M)) rfl rfl rfl ?_
  exact (LL kf) (0) (z0) (s1) M h_ox h_og h_o h_c h_b h_da h_vd h_ac hV hM hM2  (tp0) (Nat.le_refl _) (by omega) (rfl)
set_option maxHeartbeats 1000000 in
theorem dk_methodsHold2 {g : xe_G} {M : mi_H} {f : Nat → Int32} {n N q : Nat} {E : List (Nat × Nat)} {o c b da vd ac fr fa ic mj na pa : Nat} {mi ru wa k1 k2 k3 k4 k5 k6 k7 : Int32} {ox : Nat} {og ga gf : Nat} {gn gw : Int32} {gk : Value} {s1 : Int32} {B : List Nat} {G : Nat → Nat} {mm : Nat} {B2 : List Nat} {G2 : Nat → Nat} {m2 kk2 : Nat} (h_ox : M.1 ox = some (ob 8 [.ref q, .int (nI mj), .ref vd])) (h_og : M.1 og = some (ob 11 [.ref ga, .int gn, .ref gf, gk, .int gw])) (h_o : M.1 o = some (ob 2 [.ref c, .ref b, .ref q, .ref vd, .ref ac])) (h_c : M.1 c = some (ob 3 [.ref b, .ref q, .int mi, .int (nI mj), .int (nI fa), .int (nI ic), .ref fr, .ref mm, .int (nI na), .int (nI pa), .int k1, .int k2, .int k3, .int k4, .int k5, .int k6, .int k7])) (h_b : M.1 b = some (ob 1 [.ref da])) (h_da : M.1 da = some (ar .byte n f)) (h_vd : M.1 vd = some (ob 10 [.int ru, .int wa])) (h_ac : M.1 ac = some (ob 0 [.ref c, .ref b, .ref q, .ref vd, .int s1])) (hn : n ≤ 65540) (hmj : mj < 65536) (hfa : fa + 8 ≤ n) (hB9 : B.length < 65536) (hB : ∀ i, i < B.length → B.getD i 0 + 8 ≤ n ∧ ∃ e0, s_atts f n (by2 f (B.getD i 0 + 6)) (B.getD i 0 + 8) = .inr e0) (hD : ∀ i j, i < B.length → j < B2.length → ¬ G i = G2 j) (l_o : o < M.2.1) (l_c : c < M.2.1) (l_b : b < M.2.1) (l_da : da < M.2.1) (l_vd : vd < M.2.1) (l_ac : ac < M.2.1) (l_q : q < M.2.1) (l_ox : ox < M.2.1) (l_og : og < M.2.1) (hV : PV g f n N E q M) (hM : MV f B mm G 0 M) (hM2 : MV f B2 m2 G2 kk2 M) : pt (mT g) 67 [.ref o] M (fun v M' => (∃ (s2 : Int32), (mtS f n E (by2 f fa) mj B B.length 0 = none) ∧ (PV g f n N E q M') ∧ (MV f B2 m2 G2 kk2 M') ∧ (MV f B mm G B.length M') ∧ v = some (.int 1) ∧ M'.1 ox = some (ob 8 [.ref q, .int (nI mj), .ref vd]) ∧ M'.1 og = some (ob 11 [.ref ga, .int gn, .ref gf, gk, .int gw]) ∧ M'.1 o = some (ob 2 [.ref c, .ref b, .ref q, .ref vd, .ref ac]) ∧ M'.1 c = some (ob 3 [.ref b, .ref q, .int mi, .int (nI mj), .int (nI fa), .int (nI ic), .ref fr, .ref mm, .int (nI na), .int (nI pa), .int k1, .int k2, .int k3, .int k4, .int k5, .int k6, .int k7]) ∧ M'.1 b = some (ob 1 [.ref da]) ∧ M'.1 da = some (ar .byte n f) ∧ M'.1 vd = some (ob 10 [.int ru, .int wa]) ∧ M'.1 ac = some (ob 0 [.ref c, .ref b, .ref q, .ref vd, .int s2]) ∧ M.2.1 ≤ M'.2.1) ∨ (∃ (e9 : Nat × Nat), (mtS f n E (by2 f fa) mj B B.length 0 = some e9) ∧ v = some (.int 0) ∧ M'.1 vd = some (ob 10 [.int (nI e9.1), .int (nI e9.2)]) ∧ M'.1 og = some (ob 11 [.ref ga, .int gn, .ref gf, gk, .int gw]) ∧ M.2.1 ≤ M'.2.1)) := by
  refine pt_in (b := mb_67 g) rfl (fun kf => ?_)
  show pl (mT g) kf (mb_67 g).2 (0, [(0, .ref o)], [], M) _
  obtain ⟨z0, tp0⟩ : ∃ z0, M.2.1 = z0 := ⟨_, rfl⟩
  have LL : ∀ (kf : Nat), (∀ (i t1 : Nat) (s2 : Int32) (M1 : mi_H), (M1.1 ox = some (ob 8 [.ref q, .int (nI mj), .ref vd])) → (M1.1 og = some (ob 11 [.ref ga, .int gn, .ref gf, gk, .int gw])) → (M1.1 o = some (ob 2 [.ref c, .ref b, .ref q, .ref vd, .ref ac])) → (M1.1 c = some (ob 3 [.ref b, .ref q, .int mi, .int (nI mj), .int (nI fa), .int (nI ic), .ref fr, .ref mm, .int (nI na), .int (nI pa), .int k1, .int k2, .int k3, .int k4, .int k5, .int k6, .int k7])) → (M1.1 b = some (ob 1 [.ref da])) → (M1.1 da = some (ar .byte n f)) → (M1.1 vd = some (ob 10 [.int ru, .int wa])) → (M1.1 ac = some (ob 0 [.ref c, .ref b, .ref q, .ref vd, .int s2])) → (PV g f n N E q M1) → (MV f B mm G i M1) → (MV f B2 m2 G2 kk2 M1) → (M1.2.1 = t1) → (z0 ≤ t1) → (i ≤ B.length) → (mtS f n E (by2 f fa) mj B (B.length - i) i = mtS f n E (by2 f fa) mj B B.length 0) →  pl (mT g) kf (mb_67 g).2 (2, [(0, .ref o), (1, .int (nI i))], [], M1) (fun v M' => (∃ (s2 : Int32), (mtS f n E (by2 f fa) mj B B.length 0 = none) ∧ (PV g f n N E q M') ∧ (MV f B2 m2 G2 kk2 M') ∧ (MV f B mm G B.length M') ∧ v = some (.int 1) ∧ M'.1 ox = some (ob 8 [.ref q, .int (nI mj), .ref vd]) ∧ M'.1 og = some (ob 11 [.ref ga, .int gn, .ref gf, gk, .int gw]) ∧ M'.1 o = some (ob 2 [.ref c, .ref b, .ref q, .ref vd, .ref ac]) ∧ M'.1 c = some (ob 3 [.ref b, .ref q, .int mi, .int (nI mj), .int (nI fa), .int (nI ic), .ref fr, .ref mm, .int (nI na), .int (nI pa), .int k1, .int k2, .int k3, .int k4, .int k5, .int k6, .int k7]) ∧ M'.1 b = some (ob 1 [.ref da]) ∧ M'.1 da = some (ar .byte n f) ∧ M'.1 vd = some (ob 10 [.int ru, .int wa]) ∧ M'.1 ac = some (ob 0 [.ref c, .ref b, .ref q, .ref vd, .int s2]) ∧ M.2.1 ≤ M'.2.1) ∨ (∃ (e9 : Nat × Nat), (mtS f n E (by2 f fa) mj B B.length 0 = some e9) ∧ v = some (.int 0) ∧ M'.1 vd = some (ob 10 [.int (nI e9.1), .int (nI e9.2)]) ∧ M'.1 og = some (ob 11 [.ref ga, .int gn, .ref gf, gk, .int gw]) ∧ M.2.1 ≤ M'.2.1))) := by
    intro kf
    induction kf with
    | zero => exact (by intros; exact pl_0)
    | succ kf ih =>
      intro i t1 s2 M1 hl_ox hl_og hl_o hl_c hl_b hl_da hl_vd hl_ac hV1 hM1 hM21 tp1 ht hi hs
      refine ps_st1 (S' := (3, [(0, .ref o), (1, .int (nI i))], [.int (nI i)], M1)) rfl rfl rfl ?_
      obtain ⟨R, h_mm, hR⟩ := hM1.2.1
      have l_mm := hM1.1
      refine ps_st (S' := (4, [(0, .ref o), (1, .int (nI i))], [.ref o, .int (nI i)], M1)) rfl rfl rfl ?_
      refine ps_get (S' := (7, [(0, .ref o), (1, .int (nI i))], [.ref c, .int (nI i)], M1)) rfl hl_o rfl rfl ?_
      refine ps_get (S' := (10, [(0, .ref o), (1, .int (nI i))], [.ref mm, .int (nI i)], M1)) rfl hl_c rfl rfl ?_
      refine ps_aalen (S' := (11, [(0, .ref o), (1, .int (nI i))], [.int (nI B.length), .int (nI i)], M1)) rfl h_mm rfl ?_
      refine ps_if2 (S1 := (67, [(0, .ref o), (1, .int (nI i))], [], M1)) (S2 := (14, [(0, .ref o), (1, .int (nI i))], [], M1)) rfl rfl rfl (fun c_11 => ?_) (fun c_11 => ?_)
      · have c_11 : (nI B.length) ≤ (nI i) := of_decide_eq_true c_11
        have n_11 : B.length ≤ i := (le_nI (p := B.length) (n := i) (by omega) (by omega)).mp c_11
        refine ps_st (S' := (68, [(0, .ref o), (1, .int (nI i))], [.int 1], M1)) rfl rfl rfl ?_
        exact ps_ret rfl rfl (Or.inl ⟨s2, by rw [← hs, show B.length - i = 0 by omega]; rfl, hV1, hM21, hM1.le (by omega), rfl, hl_ox, hl_og, hl_o, hl_c, hl_b, hl_da, hl_vd, hl_ac, by omega⟩)
      · have c_11 : ¬ ((nI B.length) ≤ (nI i)) := of_decide_eq_false c_11
        have n_11 : ¬ (B.length ≤ i) := fun h9 => c_11 ((le_nI (p := B.length) (n := i) (by omega) (by omega)).mpr h9)
        refine ps_st (S' := (15, [(0, .ref o), (1, .int (nI i))], [.ref o], M1)) rfl rfl rfl ?_
        refine ps_get (S' := (18, [(0, .ref o), (1, .int (nI i))], [.ref c], M1)) rfl hl_o rfl rfl ?_
        refine ps_get (S' := (21, [(0, .ref o), (1, .int (nI i))], [.ref mm], M1)) rfl hl_c rfl rfl ?_
        refine ps_st (S' := (22, [(0, .ref o), (1, .int (nI i))], [.int (nI i), .ref mm], M1)) rfl rfl rfl ?_
        obtain ⟨hl8, y1, y2, y3, y4, yv, hc8, hv8⟩ := hM1.2.2.2 i (by omega)
        obtain ⟨a, ha⟩ : ∃ a, G i = a := ⟨_, rfl⟩
        rw [ha] at hc8 hl8
        have hA : G i = a ∧ i < B.length ∧ i < i + 1 := ⟨ha, by omega, by omega⟩
        have hM9 := hM1.le (Nat.le_succ i)
        have hb0 : B.getD i 0 = B.getD i 0 := rfl
        have hv9 := (hv8 (Nat.le_refl _)).2.2.2.2
        subst hv9
        have hDa : ∀ j, j < B2.length → ¬ G2 j = a := fun j hj e9 => hD i j (by omega) hj (ha.trans e9.symm)
        obtain ⟨hb1, e0, hat⟩ := hB i (by omega)
        refine ps_aald (S' := (23, [(0, .ref o), (1, .int (nI i))], [.ref a], M1)) rfl h_mm (⟨by omega, by rw [hR i (by omega), ha]⟩) rfl ?_
        refine ps_st (S' := (24, [(2, .ref a), (0, .ref o), (1, .int (nI i))], [], M1)) rfl rfl rfl ?_
        refine ps_st (S' := (25, [(2, .ref a), (0, .ref o), (1, .int (nI i))], [.ref a], M1)) rfl rfl rfl ?_
        refine ps_st (S' := (31, [(2, .ref a), (0, .ref o), (1, .int (nI i))], [], M1)) rfl rfl rfl ?_
        refine ps_st (S' := (32, [(2, .ref a), (0, .ref o), (1, .int (nI i))], [.ref o], M1)) rfl rfl rfl ?_
        refine ps_st (S' := (33, [(2, .ref a), (0, .ref o), (1, .int (nI i))], [.ref a, .ref o], M1)) rfl rfl rfl ?_
        refine ps_st (S' := (34, [(2, .ref a), (0, .ref o), (1, .int (nI i))], [.int (nI i), .ref a, .ref o], M1)) rfl rfl rfl ?_
        refine pl_call (a := [.ref o, .ref a, .int (nI i)]) (rest := []) rfl rfl rfl (dk_methodHolds (f := f) (n := n) (N := N) (q := q) (E := E) (o := o) (c := c) (b := b) (da := da) (vd := vd) (ac := ac) (fr := fr) (fa := fa) (ic := ic) (mj := mj) (na := na) (pa := pa) (mi := mi) (ru := ru) (wa := wa) (k1 := k1) (k2 := k2) (k3 := k3) (k4 := k4) (k5 := k5) (k6 := k6) (k7 := k7) (a := a) (b0 := (B.getD i 0)) (kn := y1) (co := y2) (ap := y3) (ex := y4) (cd := .null) (B := B) (G := G) (mm := mm) (kk := (i + 1)) (i0 := i) hl_o hl_c hl_b hl_da hl_vd hc8 (hn) (hmj) (hfa) (hA) (rfl) (hB9) (hb1) (hV1) (hM9)) (fun v1 M2 q3 => ?_)
        rcases q3 with q3 | q3
        · skip
          obtain ⟨q34_s, rfl, h4, h5, f6⟩ := q3
          have h8 := (f6.1 ox (nin2 (ob_ne hl_ox hl_vd (by decide)) (ob_ne hl_ox hc8 (by decide)))).trans hl_ox
          have h9 := (f6.1 og (nin2 (ob_ne hl_og hl_vd (by decide)) (ob_ne hl_og hc8 (by decide)))).trans hl_og
          have h10 := (f6.1 o (nin2 (ob_ne hl_o hl_vd (by decide)) (ob_ne hl_o hc8 (by decide)))).trans hl_o
          have h11 := (f6.1 c (nin2 (ob_ne hl_c hl_vd (by decide)) (ob_ne hl_c hc8 (by decide)))).trans hl_c
          have h12 := (f6.1 b (nin2 (ob_ne hl_b hl_vd (by decide)) (ob_ne hl_b hc8 (by decide)))).trans hl_b
          have h13 := (f6.1 da (nin2 (Ne.symm (ob_ar hl_vd hl_da)) (Ne.symm (ob_ar hc8 hl_da)))).trans hl_da
          have h14 := (f6.1 ac (nin2 (ob_ne hl_ac hl_vd (by decide)) (ob_ne hl_ac hc8 (by decide)))).trans hl_ac
          have h15 := (f6.1 mm (nin2 (Ne.symm (ob_ro hl_vd h_mm)) (Ne.symm (ob_ro hc8 h_mm)))).trans h_mm
          have tp17 : M2.2.1 = t1 := by rw [f6.2]; exact tp1
          have hV18 := hV1.keep f6.gm (n7c hl_vd (by decide) (n7c hc8 (by decide) (n7nil)))
          have hV19 := hM9.keepA f6.gm (n6c hl_vd (by decide) (n6a (n6nil))) hA h5 hb0
          have hV20 := hM21.keepB f6.gm (n6c hl_vd (by decide) (n6a (n6nil))) hc8 hDa
          show pl _ _ _ (37, [(2, .ref a), (0, .ref o), (1, .int (nI i))], [.int 1], M2) _
          refine ps_if (S1 := (59, [], [], M2)) (S2 := (40, [(2, .ref a), (0, .ref o), (1, .int (nI i))], [], M2)) rfl rfl rfl (fun c_37 => ?_) (fun c_37 => ?_)
          · exact absurd (of_decide_eq_true c_37) (by decide)
          refine ps_st (S' := (41, [(2, .ref a), (0, .ref o), (1, .int (nI i))], [.ref o], M2)) rfl rfl rfl ?_
          refine ps_get (S' := (44, [(2, .ref a), (0, .ref o), (1, .int (nI i))], [.ref ac], M2)) rfl h10 rfl rfl ?_
          refine ps_st (S' := (45, [(2, .ref a), (0, .ref o), (1, .int (nI i))], [.ref a, .ref ac], M2)) rfl rfl rfl ?_
          refine pl_call (a := [.ref ac, .ref a]) (rest := []) rfl rfl rfl (dk_ofMethod (f := f) (n := n) (N := N) (q := q) (E := E) (ac := ac) (c := c) (b := b) (da := da) (vd := vd) (fr := fr) (mr := mm) (fa := fa) (ic := ic) (mj := mj) (na := na) (pa := pa) (mi := mi) (ru := ru) (wa := wa) (s1 := s2) (k1 := k1) (k2 := k2) (k3 := k3) (k4 := k4) (k5 := k5) (k6 := k6) (k7 := k7) (a := a) (b0 := (B.getD i 0)) (e0 := e0) (w := (apN f n E (B.getD i 0))) (kn := y1) (co := y2) (ex := y4) h14 h12 h13 h11 h4 h5 (hn) (hmj) (hb1) (hat) (Nat.lt_trans (apN_lt _ _ _ _) (by decide)) (hV18) (by omega) (by omega) (by omega) (by omega) (by omega) (by omega) (by omega)) (fun v21 M22 q23 => ?_)
          rcases q23 with q23 | q23
          · skip
            obtain ⟨h24, s225, kn226, ex227, cd228, q45_s, q45_h, rfl, h29, h30, h31, f32, tp33⟩ := q23
            have h34 := (f32.1 ox (by omega) (nin3 (ob_ne h8 h14 (by decide)) (ob_ne h8 h4 (by decide)) (ob_ne h8 h5 (by decide)))).trans h8
            have h35 := (f32.1 og (by omega) (nin3 (ob_ne h9 h14 (by decide)) (ob_ne h9 h4 (by decide)) (ob_ne h9 h5 (by decide)))).trans h9
            have h36 := (f32.1 o (by omega) (nin3 (ob_ne h10 h14 (by decide)) (ob_ne h10 h4 (by decide)) (ob_ne h10 h5 (by decide)))).trans h10
            have h37 := (f32.1 c (by omega) (nin3 (ob_ne h11 h14 (by decide)) (ob_ne h11 h4 (by decide)) (ob_ne h11 h5 (by decide)))).trans h11
            have h38 := (f32.1 b (by omega) (nin3 (ob_ne h12 h14 (by decide)) (ob_ne h12 h4 (by decide)) (ob_ne h12 h5 (by decide)))).trans h12
            have h39 := (f32.1 da (by omega) (nin3 (Ne.symm (ob_ar h14 h13)) (Ne.symm (ob_ar h4 h13)) (Ne.symm (ob_ar h5 h13)))).trans h13
            have h40 := (f32.1 mm (by omega) (nin3 (Ne.symm (ob_ro h14 h15)) (Ne.symm (ob_ro h4 h15)) (Ne.symm (ob_ro h5 h15)))).trans h15
            obtain ⟨t42, tp43⟩ : ∃ t9, M22.2.1 = t9 := ⟨_, rfl⟩
            rw [tp17, tp43] at tp33
            have hV44 := hV18.keep f32 (n7c h14 (by decide) (n7c h4 (by decide) (n7c h5 (by decide) (n7nil))))
            have hV45 := hV19.keepA f32 (n6c h14 (by decide) (n6c h4 (by decide) (n6a (n6nil)))) hA h31 hb0
            have hV46 := hV20.keepB f32 (n6c h14 (by decide) (n6c h4 (by decide) (n6a (n6nil)))) h5 hDa
            show pl _ _ _ (48, [(2, .ref a), (0, .ref o), (1, .int (nI i))], [.int 1], M22) _
            refine ps_if (S1 := (59, [], [], M22)) (S2 := (51, [(2, .ref a), (0, .ref o), (1, .int (nI i))], [], M22)) rfl rfl rfl (fun c_48 => ?_) (fun c_48 => ?_)
            · exact absurd (of_decide_eq_true c_48) (by decide)
            refine ps_st (S' := (52, [(2, .ref a), (0, .ref o), (1, .int (nI i))], [.ref o], M22)) rfl rfl rfl ?_
            refine ps_st (S' := (53, [(2, .ref a), (0, .ref o), (1, .int (nI i))], [.ref a, .ref o], M22)) rfl rfl rfl ?_
            refine pl_call (a := [.ref o, .ref a]) (rest := []) rfl rfl rfl (dk_codeIsDue (f := f) (n := n) (N := N) (q := q) (E := E) (o := o) (c := c) (b := b) (da := da) (vd := vd) (ac := ac) (fr := fr) (mr := mm) (fa := fa) (ic := ic) (mj := mj) (na := na) (pa := pa) (mi := mi) (ru := ru) (wa := wa) (k1 := k1) (k2 := k2) (k3 := k3) (k4 := k4) (k5 := k5) (k6 := k6) (k7 := k7) (a := a) (b0 := (B.getD i 0)) (kn := kn226) (co := y2) (ap := (nI (apN f n E (B.getD i 0)))) (ex := ex227) (cd := cd228) (h := h24) h36 h37 h38 h39 h29 h31 (hn) (hmj) (hfa) (q45_h) (hV44)) (fun v47 M48 q49 => ?_)
            rcases q49 with q49 | q49
            · skip
              obtain ⟨q53_s, rfl, h50, f51⟩ := q49
              have h53 := (f51.1 ox (nin1 (ob_ne h34 h29 (by decide)))).trans h34
              have h54 := (f51.1 og (nin1 (ob_ne h35 h29 (by decide)))).trans h35
              have h55 := (f51.1 o (nin1 (ob_ne h36 h29 (by decide)))).trans h36
              have h56 := (f51.1 c (nin1 (ob_ne h37 h29 (by decide)))).trans h37
              have h57 := (f51.1 b (nin1 (ob_ne h38 h29 (by decide)))).trans h38
              have h58 := (f51.1 da (nin1 (Ne.symm (ob_ar h29 h39)))).trans h39
              have h59 := (f51.1 ac (nin1 (ob_ne h30 h29 (by decide)))).trans h30
              have h60 := (f51.1 mm (nin1 (Ne.symm (ob_ro h29 h40)))).trans h40
              have h61 := (f51.1 a (nin1 (ob_ne h31 h29 (by decide)))).trans h31
              have tp63 : M48.2.1 = t42 := by rw [f51.2]; exact tp43
              have hV64 := hV44.keep f51.gm (n7c h29 (by decide) (n7nil))
              have hV65 := hV45.keep f51.gm (n6o h29 (by decide) (n6on))
              have hV66 := hV46.keep f51.gm (n6o h29 (by decide) (n6on))
              show pl _ _ _ (56, [(2, .ref a), (0, .ref o), (1, .int (nI i))], [.int 1], M48) _
              refine ps_if (S1 := (61, [(0, .ref o), (1, .int (nI i))], [], M48)) (S2 := (59, [], [], M48)) rfl rfl rfl (fun c_56 => ?_) (fun c_56 => ?_)
              rotate_left
              · exact absurd (by decide) (of_decide_eq_false c_56)
              refine ps_st (S' := (64, [(1, .int ((nI i) + 1)), (0, .ref o)], [], M48)) rfl rfl rfl ?_
              rw [nI_add1 (p := i) (k := 1) (x := 1) rfl (by omega)]
              show pl _ _ _ (_, [(1, .int (nI (i + 1))), (0, .ref o)], [], M48) _
              refine ps_st (S' := (2, [(0, .ref o), (1, .int (nI (i + 1)))], [], M48)) rfl rfl rfl ?_
              exact ih (i + 1) (t42) (s225) M48 h53 h54 h55 h56 h57 h58 h50 h59 hV64 hV65 hV66  (tp63) (by omega) (by omega) (by
                  rw [← hs, mtS_st (i := i) (by omega)]
                  rw [q34_s]
                  try dsimp only
                  rw [q45_s]
                  try dsimp only
                  rw [q53_s]
                  try dsimp only
                  first | done | rfl)
            · skip
              obtain ⟨e67, q53_s, rfl, h68, f69⟩ := q49
              have h71 := (f69.1 ox (nin1 (ob_ne h34 h29 (by decide)))).trans h34
              have h72 := (f69.1 og (nin1 (ob_ne h35 h29 (by decide)))).trans h35
              have h73 := (f69.1 o (nin1 (ob_ne h36 h29 (by decide)))).trans h36
              have h74 := (f69.1 c (nin1 (ob_ne h37 h29 (by decide)))).trans h37
              have h75 := (f69.1 b (nin1 (ob_ne h38 h29 (by decide)))).trans h38
              have h76 := (f69.1 da (nin1 (Ne.symm (ob_ar h29 h39)))).trans h39
              have h77 := (f69.1 ac (nin1 (ob_ne h30 h29 (by decide)))).trans h30
              have h78 := (f69.1 mm (nin1 (Ne.symm (ob_ro h29 h40)))).trans h40
              have h79 := (f69.1 a (nin1 (ob_ne h31 h29 (by decide)))).trans h31
              have tp81 : M48.2.1 = t42 := by rw [f69.2]; exact tp43
              have hV82 := hV44.keep f69.gm (n7c h29 (by decide) (n7nil))
              have hV83 := hV45.keep f69.gm (n6o h29 (by decide) (n6on))
              have hV84 := hV46.keep f69.gm (n6o h29 (by decide) (n6on))
              show pl _ _ _ (56, [(2, .ref a), (0, .ref o), (1, .int (nI i))], [.int 0], M48) _
              refine ps_if (S1 := (61, [(0, .ref o), (1, .int (nI i))], [], M48)) (S2 := (59, [], [], M48)) rfl rfl rfl (fun c_56 => ?_) (fun c_56 => ?_)
              · exact absurd (of_decide_eq_true c_56) (by decide)
              refine ps_st (S' := (60, [], [.int 0], M48)) rfl rfl rfl ?_
              exact ps_ret rfl rfl (Or.inr ⟨e67, by
                  rw [← hs, mtS_st (i := i) (by omega)]
                  rw [q34_s]
                  try dsimp only
                  rw [q45_s]
                  try dsimp only
                  rw [q53_s]
                  try dsimp only
                  first | done | rfl, rfl, h68, h72, by omega⟩)
          · skip
            obtain ⟨e985, q45_s, rfl, h86, f87, tp88⟩ := q23
            have h89 := (f87.1 ox (by omega) (nin3 (ob_ne h8 h14 (by decide)) (ob_ne h8 h4 (by decide)) (ob_ne h8 h5 (by decide)))).trans h8
            have h90 := (f87.1 og (by omega) (nin3 (ob_ne h9 h14 (by decide)) (ob_ne h9 h4 (by decide)) (ob_ne h9 h5 (by decide)))).trans h9
            have h91 := (f87.1 o (by omega) (nin3 (ob_ne h10 h14 (by decide)) (ob_ne h10 h4 (by decide)) (ob_ne h10 h5 (by decide)))).trans h10
            have h92 := (f87.1 c (by omega) (nin3 (ob_ne h11 h14 (by decide)) (ob_ne h11 h4 (by decide)) (ob_ne h11 h5 (by decide)))).trans h11
            have h93 := (f87.1 b (by omega) (nin3 (ob_ne h12 h14 (by decide)) (ob_ne h12 h4 (by decide)) (ob_ne h12 h5 (by decide)))).trans h12
            have h94 := (f87.1 da (by omega) (nin3 (Ne.symm (ob_ar h14 h13)) (Ne.symm (ob_ar h4 h13)) (Ne.symm (ob_ar h5 h13)))).trans h13
            have h95 := (f87.1 mm (by omega) (nin3 (Ne.symm (ob_ro h14 h15)) (Ne.symm (ob_ro h4 h15)) (Ne.symm (ob_ro h5 h15)))).trans h15
            obtain ⟨t97, tp98⟩ : ∃ t9, M22.2.1 = t9 := ⟨_, rfl⟩
            rw [tp17, tp98] at tp88
            have hV99 := hV18.keep f87 (n7c h14 (by decide) (n7c h4 (by decide) (n7c h5 (by decide) (n7nil))))
            have hV100 := hV20.keepB f87 (n6c h14 (by decide) (n6c h4 (by decide) (n6a (n6nil)))) h5 hDa
            show pl _ _ _ (48, [(2, .ref a), (0, .ref o), (1, .int (nI i))], [.int 0], M22) _
            refine ps_if (S1 := (59, [], [], M22)) (S2 := (51, [(2, .ref a), (0, .ref o), (1, .int (nI i))], [], M22)) rfl rfl rfl (fun c_48 => ?_) (fun c_48 => ?_)
            rotate_left
            · exact absurd (by decide) (of_decide_eq_false c_48)
            refine ps_st (S' := (60, [], [.int 0], M22)) rfl rfl rfl ?_
            exact ps_ret rfl rfl (Or.inr ⟨e985, by
                rw [← hs, mtS_st (i := i) (by omega)]
                rw [q34_s]
                try dsimp only
                rw [q45_s]
                try dsimp only
                first | done | rfl, rfl, h86, h90, by omega⟩)
        · skip
          obtain ⟨e101, q34_s, rfl, h102, f103⟩ := q3
          have h105 := (f103.1 ox (nin2 (ob_ne hl_ox hl_vd (by decide)) (ob_ne hl_ox hc8 (by decide)))).trans hl_ox
          have h106 := (f103.1 og (nin2 (ob_ne hl_og hl_vd (by decide)) (ob_ne hl_og hc8 (by decide)))).trans hl_og
          have h107 := (f103.1 o (nin2 (ob_ne hl_o hl_vd (by decide)) (ob_ne hl_o hc8 (by decide)))).trans hl_o
          have h108 := (f103.1 c (nin2 (ob_ne hl_c hl_vd (by decide)) (ob_ne hl_c hc8 (by decide)))).trans hl_c
          have h109 := (f103.1 b (nin2 (ob_ne hl_b hl_vd (by decide)) (ob_ne hl_b hc8 (by decide)))).trans hl_b
          have h110 := (f103.1 da (nin2 (Ne.symm (ob_ar hl_vd hl_da)) (Ne.symm (ob_ar hc8 hl_da)))).trans hl_da
          have h111 := (f103.1 ac (nin2 (ob_ne hl_ac hl_vd (by decide)) (ob_ne hl_ac hc8 (by decide)))).trans hl_ac
          have h112 := (f103.1 mm (nin2 (Ne.symm (ob_ro hl_vd h_mm)) (Ne.symm (ob_ro hc8 h_mm)))).trans h_mm
          have tp114 : M2.2.1 = t1 := by rw [f103.2]; exact tp1
          have hV115 := hV1.keep f103.gm (n7c hl_vd (by decide) (n7c hc8 (by decide) (n7nil)))
          have hV116 := hM21.keepB f103.gm (n6c hl_vd (by decide) (n6a (n6nil))) hc8 hDa
          show pl _ _ _ (37, [(2, .ref a), (0, .ref o), (1, .int (nI i))], [.int 0], M2) _
          refine ps_if (S1 := (59, [], [], M2)) (S2 := (40, [(2, .ref a), (0, .ref o), (1, .int (nI i))], [], M2)) rfl rfl rfl (fun c_37 => ?_) (fun c_37 => ?_)
          rotate_left
          · exact absurd (by decide) (of_decide_eq_false c_37)
          refine ps_st (S' := (60, [], [.int 0], M2)) rfl rfl rfl ?_
          exact ps_ret rfl rfl (Or.inr ⟨e101, by
              rw [← hs, mtS_st (i := i) (by omega)]
              rw [q34_s]
              try dsimp only
              first | done | rfl, rfl, h102, h106, by omega⟩)
  refine ps_st (S' := (1, [(0, .ref o)], [.int 0], M)) rfl rfl rfl ?_
  refine ps_st (S' := (2, [(0, .ref o), (1, .int 0)], [], M)) rfl rfl rfl ?_
  exact (LL kf) (0) (z0) (s1) M h_ox h_og h_o h_c h_b h_da h_vd h_ac hV hM hM2  (tp0) (Nat.le_refl _) (by omega) (rfl)
end
