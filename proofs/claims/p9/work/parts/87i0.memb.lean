/-! fields and methods, but for their attributes (laid by wip/p4/d10.py) -/
/-! the class's members in their rows (my own text) -/
section MVA
variable {M M' : mi_H}
abbrev mcell (f : Nat → Int32) (b : Nat) (x1 x2 x3 x4 : Int32) (v : Value) : mi_C := ob 6 [.int (nI b), .int (nI (by2 f b)), .int (nI (by2 f (b + 2))), .int (nI (by2 f (b + 4))), .int (nI (by2 f (b + 6))), .int (nI (b + 8)), .int x1, .int x2, .int x3, .int x4, v]
abbrev z5 (x1 x2 x3 x4 : Int32) (v : Value) : Prop := x1 = 0 ∧ x2 = 0 ∧ x3 = 0 ∧ x4 = 0 ∧ v = .null
/-- members that begin at B, in the row mm, at the addresses G; from number k on no code is known -/
def MV (f : Nat → Int32) (B : List Nat) (mm : Nat) (G : Nat → Nat) (k : Nat) (M : mi_H) : Prop :=
  mm < M.2.1 ∧ (∃ R, M.1 mm = some (ro "ClassGate$Member" B.length R) ∧ ∀ i, i < B.length → R i = .ref (G i)) ∧ (∀ i j, i < B.length → j < B.length → G i = G j → i = j) ∧
  ∀ i, i < B.length → G i < M.2.1 ∧ ∃ (x1 x2 x3 x4 : Int32) (v : Value), M.1 (G i) = some (mcell f (B.getD i 0) x1 x2 x3 x4 v) ∧ (k ≤ i → z5 x1 x2 x3 x4 v)
theorem MV.le {f : Nat → Int32} {B : List Nat} {mm k k' : Nat} {G : Nat → Nat} (h : MV f B mm G k M) (hk : k ≤ k') : MV f B mm G k' M :=
  ⟨h.1, h.2.1, h.2.2.1, fun i hi => ⟨(h.2.2.2 i hi).1, by
    obtain ⟨x1, x2, x3, x4, v, e, hv⟩ := (h.2.2.2 i hi).2
    exact ⟨x1, x2, x3, x4, v, e, fun h9 => hv (by omega)⟩⟩⟩
/-- what may be written: objects of other classes; the member a, whose first six fields stay -/
def n6 (a : Nat) (S : List Nat) (M : mi_H) : Prop := ∀ z ∈ S, z = a ∨ ∃ ci l, M.1 z = some (ob ci l) ∧ ¬ ci = 6
theorem n6nil {a : Nat} : n6 a [] M := fun a ha => by cases ha
theorem n6c {S : List Nat} {a z ci : Nat} {l : List Value} (h : M.1 z = some (ob ci l)) (hc : ¬ ci = 6) (hs : n6 a S M) : n6 a (z :: S) M := fun b hb => by
  rcases List.mem_cons.mp hb with rfl | hb
  · exact Or.inr ⟨ci, l, h, hc⟩
  · exact hs b hb
theorem n6a {S : List Nat} {a : Nat} (hs : n6 a S M) : n6 a (a :: S) M := fun b hb => by
  rcases List.mem_cons.mp hb with rfl | hb
  · exact Or.inl rfl
  · exact hs b hb
theorem MV.move {f : Nat → Int32} {B : List Nat} {mm k : Nat} {G : Nat → Nat} (h : MV f B mm G k M) (hz : M.2.1 ≤ M'.2.1) (hr : ∀ C n R, M.1 mm = some (ro C n R) → M'.1 mm = M.1 mm)
    (hm : ∀ i, i < B.length → ∀ x1 x2 x3 x4 v, M.1 (G i) = some (mcell f (B.getD i 0) x1 x2 x3 x4 v) → ∃ y1 y2 y3 y4 w, M'.1 (G i) = some (mcell f (B.getD i 0) y1 y2 y3 y4 w) ∧ (k ≤ i → y1 = x1 ∧ y2 = x2 ∧ y3 = x3 ∧ y4 = x4 ∧ w = v)) : MV f B mm G k M' := by
  obtain ⟨a0, ⟨R, a1, a2⟩, a3, a4⟩ := h
  refine ⟨by omega, ⟨R, (hr _ _ _ a1).trans a1, a2⟩, a3, fun i hi => ?_⟩
  obtain ⟨b1, x1, x2, x3, x4, v, e, hv⟩ := a4 i hi
  obtain ⟨y1, y2, y3, y4, w, e2, hw⟩ := hm i hi x1 x2 x3 x4 v e
  exact ⟨by omega, y1, y2, y3, y4, w, e2, fun h9 => by obtain ⟨r1, r2, r3, r4, r5⟩ := hw h9; rw [r1, r2, r3, r4, r5]; exact hv h9⟩
theorem ro_ob {C : String} {n ci : Nat} {R : Nat → Value} {l : List Value} : ¬ (ro C n R = ob ci l) := fun h => by cases h
/-- a frame in which the member a = G i0 may change -/
theorem MV.keepA {f : Nat → Int32} {B : List Nat} {mm k a i0 b0 : Nat} {G : Nat → Nat} {S : List Nat} {y1 y2 y3 y4 : Int32} {w : Value} (h : MV f B mm G k M) (hf : gm S M M') (hs : n6 a S M) (ha : G i0 = a ∧ i0 < B.length ∧ i0 < k) (hn : M'.1 a = some (mcell f b0 y1 y2 y3 y4 w)) (hb : b0 = B.getD i0 0) : MV f B mm G k M' := by
  subst hb
  refine h.move hf.2 (fun C n R e => hf.1 mm h.1 (fun hz => ?_)) (fun i hi x1 x2 x3 x4 v e => ?_)
  · rcases hs mm hz with h1 | ⟨ci, l, e1, -⟩
    · obtain ⟨-, x1, x2, x3, x4, v, e2, -⟩ := h.2.2.2 i0 ha.2.1
      rw [ha.1, ← h1, e] at e2
      cases e2
    · rw [e] at e1
      cases e1
  · by_cases h1 : G i = a
    · have : i = i0 := h.2.2.1 i i0 hi ha.2.1 (h1.trans ha.1.symm)
      subst this
      rw [h1]
      exact ⟨y1, y2, y3, y4, w, hn, fun h9 => by omega⟩
    · refine ⟨x1, x2, x3, x4, v, (hf.1 _ (h.2.2.2 i hi).1 (fun hz => ?_)).trans e, fun _ => ⟨rfl, rfl, rfl, rfl, rfl⟩⟩
      rcases hs _ hz with h2 | ⟨ci, l, e1, hc⟩
      · exact h1 h2
      · rw [e] at e1
        simp only [mcell, ob, Option.some.injEq, Sum.inr.injEq, Prod.mk.injEq] at e1
        exact hc e1.1.symm
theorem MV.keep {f : Nat → Int32} {B : List Nat} {mm k : Nat} {G : Nat → Nat} {S : List Nat} (h : MV f B mm G k M) (hf : gm S M M') (hs : ∀ z ∈ S, ∃ ci l, M.1 z = some (ob ci l) ∧ ¬ ci = 6) : MV f B mm G k M' := by
  refine h.move hf.2 (fun C n R e => hf.1 mm h.1 (fun hz => ?_)) (fun i hi x1 x2 x3 x4 v e => ⟨x1, x2, x3, x4, v, (hf.1 _ (h.2.2.2 i hi).1 (fun hz => ?_)).trans e, fun _ => ⟨rfl, rfl, rfl, rfl, rfl⟩⟩)
  · obtain ⟨ci, l, e1, -⟩ := hs mm hz
    rw [e] at e1
    cases e1
  · obtain ⟨ci, l, e1, hc⟩ := hs _ hz
    rw [e] at e1
    simp only [mcell, ob, Option.some.injEq, Sum.inr.injEq, Prod.mk.injEq] at e1
    exact hc e1.1.symm
theorem n6o {S : List Nat} {z ci : Nat} {l : List Value} (h : M.1 z = some (ob ci l)) (hc : ¬ ci = 6) (hs : ∀ z ∈ S, ∃ ci l, M.1 z = some (ob ci l) ∧ ¬ ci = 6) : ∀ y ∈ z :: S, ∃ ci l, M.1 y = some (ob ci l) ∧ ¬ ci = 6 := fun b hb => by
  rcases List.mem_cons.mp hb with rfl | hb
  · exact ⟨ci, l, h, hc⟩
  · exact hs b hb
theorem n6on : ∀ y ∈ ([] : List Nat), ∃ ci l, M.1 y = some (ob ci l) ∧ ¬ ci = 6 := fun b hb => by cases hb
theorem MV.putA {f : Nat → Int32} {B : List Nat} {mm k a i0 b0 : Nat} {G : Nat → Nat} {y1 y2 y3 y4 : Int32} {w : Value} (h : MV f B mm G k M) (ha : G i0 = a ∧ i0 < B.length ∧ i0 < k) (hn : M'.1 a = some (mcell f b0 y1 y2 y3 y4 w)) (hf : ∀ z, z ≠ a → M'.1 z = M.1 z) (hz : M'.2 = M.2) (hb : b0 = B.getD i0 0) : MV f B mm G k M' :=
  h.keepA (S := [a]) ⟨fun z _ h9 => hf z (fun e => h9 (by rw [e]; exact List.mem_cons_self)), by rw [hz]; exact Nat.le_refl _⟩ (n6a n6nil) ha hn hb
theorem MV.put {f : Nat → Int32} {B : List Nat} {mm k a ci : Nat} {l : List Value} {G : Nat → Nat} (h : MV f B mm G k M) (ha : M.1 a = some (ob ci l)) (hc : ¬ ci = 6) (hf : ∀ z, z ≠ a → M'.1 z = M.1 z) (hz : M'.2 = M.2) : MV f B mm G k M' :=
  h.keep (S := [a]) ⟨fun z _ h9 => hf z (fun e => h9 (by rw [e]; exact List.mem_cons_self)), by rw [hz]; exact Nat.le_refl _⟩ (n6o ha hc n6on)
theorem MV.new {f : Nat → Int32} {B : List Nat} {mm k a : Nat} {G : Nat → Nat} (h : MV f B mm G k M) (ht : M.2.1 = a) (hf : ∀ z, z ≠ a → M'.1 z = M.1 z) (hz : M'.2.1 = a + 1) : MV f B mm G k M' :=
  h.keep (S := []) ⟨fun z hl _ => hf z (by omega), by omega⟩ n6on
/-- the first of members i, i + 1 .. (r of them) with this name and this descriptor -/
def smeS (f : Nat → Int32) (n : Nat) (E : List (Nat × Nat)) (B : List Nat) (x y : Nat) : Nat → Nat → Option Nat
  | 0, _ => none
  | r + 1, i => if ¬ smN f n E (by2 f (B.getD i 0 + 2)) x = 0 ∧ ¬ smN f n E (by2 f (B.getD i 0 + 4)) y = 0 then some i else smeS f n E B x y r (i + 1)
theorem smeS_st {f : Nat → Int32} {n : Nat} {E : List (Nat × Nat)} {B : List Nat} {x y c i : Nat} (h : i < c) : smeS f n E B x y (c - i) i = if ¬ smN f n E (by2 f (B.getD i 0 + 2)) x = 0 ∧ ¬ smN f n E (by2 f (B.getD i 0 + 4)) y = 0 then some i else smeS f n E B x y (c - (i + 1)) (i + 1) := by
  rw [show c - i = (c - (i + 1)) + 1 by omega]
  rfl
end MVA
section MVB
variable {M M' : mi_H}
theorem ob_ro {a b ci n : Nat} {C : String} {l : List Value} {R : Nat → Value} (h1 : M.1 a = some (ob ci l)) (h2 : M.1 b = some (ro C n R)) : a ≠ b := by
  intro e
  rw [e, h2] at h1
  cases h1
theorem ar_ro {a b m n : Nat} {C : String} {ty : FieldType} {F : Nat → Int32} {R : Nat → Value} (h1 : M.1 a = some (ar ty m F)) (h2 : M.1 b = some (ro C n R)) (hc : ¬ ty = .object C) : a ≠ b := by
  intro e
  rw [e, h2] at h1
  simp only [ar, ro, Option.some.injEq, Sum.inl.injEq, Prod.mk.injEq] at h1
  exact hc h1.1.symm
section
variable (f : Nat → Int32) (n : Nat) (E : List (Nat × Nat))
def mnmN (c x : Nat) : Nat := if ¬ eqN (tX f n E x) (ltx 12) = 0 then (if hasN c 512 = 0 then 1 else 0) else if ¬ eqN (tX f n E x) (ltx 13) = 0 ∨ (¬ unqN (tX f n E x) = 0 ∧ angN (tX f n E x) = 0) then 1 else 0
def absN (mj x : Nat) : Nat := if ¬ hasN x 314 = 0 then 0 else if mj < 46 ∨ 60 < mj ∨ hasN x 2048 = 0 then 1 else 0
def imhN (mj x : Nat) : Nat := if ¬ hasN x 308 = 0 then 0 else if mj < 52 then (if ¬ hallN x 1025 = 0 ∧ hasN x 8 = 0 then 1 else 0) else if hasN x 1 = hasN x 2 then 0 else 1
def mflN (c mj x y : Nat) : Nat := if ¬ eqN (tX f n E y) (ltx 13) = 0 then 1 else if ¬ eqN (tX f n E y) (ltx 12) = 0 then (if ¬ oneN x = 0 ∧ hasN x 1400 = 0 then 1 else 0) else
  if ¬ hasN x 1024 = 0 ∧ absN mj x = 0 then 0 else if ¬ hasN c 512 = 0 then imhN mj x else oneN x
def mdsN (x d w : Nat) : Nat := if mthN (tX f n E d) = 0 ∨ 255 < w then 0 else if eqN (tX f n E x) (ltx 12) = 0 ∨ ¬ nresN (tX f n E d) = 0 then 1 else 0
/-- places of a method's arguments, its object's among them -/
def apN (b : Nat) : Nat := argN (tX f n E (by2 f (b + 4))) + (if hasN (by2 f b) 8 = 0 then 1 else 0)
def fhS (c : Nat) (B : List Nat) (i b : Nat) : Option (Nat × Nat) :=
  if fflN c (by2 f b) = 0 then some (19, b) else if unqN (tX f n E (by2 f (b + 2))) = 0 then some (20, b + 2) else if fldN (tX f n E (by2 f (b + 4))) = 0 then some (21, b + 4) else
  if smeS f n E B (by2 f (b + 2)) (by2 f (b + 4)) i 0 = none then none else some (22, b)
def mhS (c mj : Nat) (B : List Nat) (i b : Nat) : Option (Nat × Nat) :=
  if mnmN f n E c (by2 f (b + 2)) = 0 then some (24, b + 2) else if mflN f n E c mj (by2 f b) (by2 f (b + 2)) = 0 then some (23, b) else if mdsN f n E (by2 f (b + 2)) (by2 f (b + 4)) (apN f n E b) = 0 then some (25, b + 4) else
  if smeS f n E B (by2 f (b + 2)) (by2 f (b + 4)) i 0 = none then none else some (26, b)
def cduS (b h : Nat) : Option (Nat × Nat) := if ¬ eqN (tX f n E (by2 f (b + 2))) (ltx 13) = 0 ∨ hasN (by2 f b) 1280 = 0 then (if h = 1 then none else some (27, b)) else (if h = 0 then none else some (27, b))
end
theorem le1_mnm (f : Nat → Int32) (n : Nat) (E : List (Nat × Nat)) (c x : Nat) : mnmN f n E c x < 2 := by
  unfold mnmN
  repeat' split
  all_goals decide
theorem le1_abs (mj x : Nat) : absN mj x < 2 := by
  unfold absN
  repeat' split
  all_goals decide
theorem le1_imh (mj x : Nat) : imhN mj x < 2 := by
  unfold imhN
  repeat' split
  all_goals decide
theorem le1_mfl (f : Nat → Int32) (n : Nat) (E : List (Nat × Nat)) (c mj x y : Nat) : mflN f n E c mj x y < 2 := by
  have h1 := le1_imh mj x
  have h2 := le1_one x
  unfold mflN
  repeat' split
  all_goals omega
theorem le1_mds (f : Nat → Int32) (n : Nat) (E : List (Nat × Nat)) (x d w : Nat) : mdsN f n E x d w < 2 := by
  unfold mdsN
  repeat' split
  all_goals decide
theorem apN_lt (f : Nat → Int32) (n : Nat) (E : List (Nat × Nat)) (b : Nat) : apN f n E b < 2000 := by
  have := argN_lt (tX f n E (by2 f (b + 4)))
  unfold apN
  split <;> omega
end MVB
set_option maxHeartbeats 1000000 in
theorem dk_sameMember {g : xe_G} {M : mi_H} {f : Nat → Int32} {n N q : Nat} {E : List (Nat × Nat)} {B : List Nat} {G : Nat → Nat} {mm kk c0 x y : Nat}  (hV : PV g f n N E q M) (hM : MV f B mm G kk M) (hc0 : c0 ≤ B.length ∧ B.length < 65536) (hx : x < 65536) (hy : y < 65536) : pt (mT g) 132 [.ref q, .ref mm, .int (nI c0), .int (nI x), .int (nI y)] M (fun v M' => ((smeS f n E B x y c0 0 = none) ∧ v = some (.int (-1)) ∧ M = M') ∨ (∃ (k : Nat), (smeS f n E B x y c0 0 = some k) ∧ (k < c0) ∧ v = some (.int (nI k)) ∧ M = M')) := by
  refine pt_in (b := mb_132 g) rfl (fun kf => ?_)
  show pl (mT g) kf (mb_132 g).2 (0, [(0, .ref q), (1, .ref mm), (2, .int (nI c0)), (3, .int (nI x)), (4, .int (nI y))], [], M) _
  obtain ⟨R, h_mm, hR⟩ := hM.2.1
  have LL : ∀ (kf : Nat), (∀ (i : Nat), (i ≤ c0) → (smeS f n E B x y (c0 - i) i = smeS f n E B x y c0 0) →  pl (mT g) kf (mb_132 g).2 (3, [(0, .ref q), (1, .ref mm), (2, .int (nI c0)), (3, .int (nI x)), (4, .int (nI y)), (5, .int (nI i))], [], M) (fun v M' => ((smeS f n E B x y c0 0 = none) ∧ v = some (.int (-1)) ∧ M = M') ∨ (∃ (k : Nat), (smeS f n E B x y c0 0 = some k) ∧ (k < c0) ∧ v = some (.int (nI k)) ∧ M = M'))) := by
    intro kf
    induction kf with
    | zero => exact (by intros; exact pl_0)
    | succ kf ih =>
      intro i hi hs
      refine ps_st1 (S' := (5, [(0, .ref q), (1, .ref mm), (2, .int (nI c0)), (3, .int (nI x)), (4, .int (nI y)), (5, .int (nI i))], [.int (nI i)], M)) rfl rfl rfl ?_
      refine ps_st (S' := (6, [(0, .ref q), (1, .ref mm), (2, .int (nI c0)), (3, .int (nI x)), (4, .int (nI y)), (5, .int (nI i))], [.int (nI c0), .int (nI i)], M)) rfl rfl rfl ?_
      refine ps_if2 (S1 := (63, [], [], M)) (S2 := (9, [(0, .ref q), (1, .ref mm), (2, .int (nI c0)), (3, .int (nI x)), (4, .int (nI y)), (5, .int (nI i))], [], M)) rfl rfl rfl (fun c_6 => ?_) (fun c_6 => ?_)
      · have c_6 : (nI c0) ≤ (nI i) := of_decide_eq_true c_6
        have n_6 : c0 ≤ i := (le_nI (p := c0) (n := i) (by omega) (by omega)).mp c_6
        refine ps_st (S' := (64, [], [.int (-1)], M)) rfl rfl rfl ?_
        exact ps_ret rfl rfl (Or.inl ⟨by rw [← hs, show c0 - i = 0 by omega]; rfl, rfl, rfl⟩)
      · have c_6 : ¬ ((nI c0) ≤ (nI i)) := of_decide_eq_false c_6
        have n_6 : ¬ (c0 ≤ i) := fun h9 => c_6 ((le_nI (p := c0) (n := i) (by omega) (by omega)).mpr h9)
        refine ps_st (S' := (11, [(0, .ref q), (1, .ref mm), (2, .int (nI c0)), (3, .int (nI x)), (4, .int (nI y)), (5, .int (nI i))], [.int (nI i)], M)) rfl rfl rfl ?_
        refine ps_st (S' := (12, [(0, .ref q), (1, .ref mm), (2, .int (nI c0)), (3, .int (nI x)), (4, .int (nI y)), (5, .int (nI i))], [.ref mm, .int (nI i)], M)) rfl rfl rfl ?_
        refine ps_aalen (S' := (13, [(0, .ref q), (1, .ref mm), (2, .int (nI c0)), (3, .int (nI x)), (4, .int (nI y)), (5, .int (nI i))], [.int (nI B.length), .int (nI i)], M)) rfl h_mm rfl ?_
        refine ps_if2 (S1 := (63, [], [], M)) (S2 := (16, [(0, .ref q), (1, .ref mm), (2, .int (nI c0)), (3, .int (nI x)), (4, .int (nI y)), (5, .int (nI i))], [], M)) rfl rfl rfl (fun c_13 => ?_) (fun c_13 => ?_)
        · have c_13 : (nI B.length) ≤ (nI i) := of_decide_eq_true c_13
          have n_13 : B.length ≤ i := (le_nI (p := B.length) (n := i) (by omega) (by omega)).mp c_13
          refine ps_st (S' := (64, [], [.int (-1)], M)) rfl rfl rfl ?_
          exact ps_ret rfl rfl (Or.inl ⟨by rw [← hs, show c0 - i = 0 by omega]; rfl, rfl, rfl⟩)
        · have c_13 : ¬ ((nI B.length) ≤ (nI i)) := of_decide_eq_false c_13
          have n_13 : ¬ (B.length ≤ i) := fun h9 => c_13 ((le_nI (p := B.length) (n := i) (by omega) (by omega)).mpr h9)
          refine ps_st (S' := (17, [(0, .ref q), (1, .ref mm), (2, .int (nI c0)), (3, .int (nI x)), (4, .int (nI y)), (5, .int (nI i))], [.ref mm], M)) rfl rfl rfl ?_
          refine ps_st (S' := (19, [(0, .ref q), (1, .ref mm), (2, .int (nI c0)), (3, .int (nI x)), (4, .int (nI y)), (5, .int (nI i))], [.int (nI i), .ref mm], M)) rfl rfl rfl ?_
          obtain ⟨y1, y2, y3, y4, yv, hc9, -⟩ := (hM.2.2.2 i (by omega)).2
          refine ps_aald (S' := (20, [(0, .ref q), (1, .ref mm), (2, .int (nI c0)), (3, .int (nI x)), (4, .int (nI y)), (5, .int (nI i))], [.ref (G i)], M)) rfl h_mm (⟨by omega, hR i (by omega)⟩) rfl ?_
          refine ps_st (S' := (22, [(6, .ref (G i)), (0, .ref q), (1, .ref mm), (2, .int (nI c0)), (3, .int (nI x)), (4, .int (nI y)), (5, .int (nI i))], [], M)) rfl rfl rfl ?_
          refine ps_st (S' := (24, [(6, .ref (G i)), (0, .ref q), (1, .ref mm), (2, .int (nI c0)), (3, .int (nI x)), (4, .int (nI y)), (5, .int (nI i))], [.ref (G i)], M)) rfl rfl rfl ?_
          refine ps_st (S' := (27, [(6, .ref (G i)), (0, .ref q), (1, .ref mm), (2, .int (nI c0)), (3, .int (nI x)), (4, .int (nI y)), (5, .int (nI i))], [], M)) rfl rfl rfl ?_
          refine ps_st (S' := (28, [(6, .ref (G i)), (0, .ref q), (1, .ref mm), (2, .int (nI c0)), (3, .int (nI x)), (4, .int (nI y)), (5, .int (nI i))], [.ref q], M)) rfl rfl rfl ?_
          refine ps_st (S' := (30, [(6, .ref (G i)), (0, .ref q), (1, .ref mm), (2, .int (nI c0)), (3, .int (nI x)), (4, .int (nI y)), (5, .int (nI i))], [.ref (G i), .ref q], M)) rfl rfl rfl ?_
          refine ps_get (S' := (33, [(6, .ref (G i)), (0, .ref q), (1, .ref mm), (2, .int (nI c0)), (3, .int (nI x)), (4, .int (nI y)), (5, .int (nI i))], [.int (nI (by2 f (B.getD i 0 + 2))), .ref q], M)) rfl hc9 rfl rfl ?_
          refine ps_st (S' := (34, [(6, .ref (G i)), (0, .ref q), (1, .ref mm), (2, .int (nI c0)), (3, .int (nI x)), (4, .int (nI y)), (5, .int (nI i))], [.int (nI x), .int (nI (by2 f (B.getD i 0 + 2))), .ref q], M)) rfl rfl rfl ?_
          refine pl_call (a := [.ref q, .int (nI (by2 f (B.getD i 0 + 2))), .int (nI x)]) (rest := []) rfl rfl rfl (dy_sameText (f := f) (n := n) (N := N) (q := q) (E := E) (j := (by2 f (B.getD i 0 + 2))) (k := x) (hV) (by2_lt _ _) (by omega)) (fun v1 M2 q3 => ?_)
          obtain ⟨rfl, rfl⟩ := q3
          show pl _ _ _ (37, [(6, .ref (G i)), (0, .ref q), (1, .ref mm), (2, .int (nI c0)), (3, .int (nI x)), (4, .int (nI y)), (5, .int (nI i))], [.int (nI (smN f n E (by2 f (B.getD i 0 + 2)) x))], M) _
          refine ps_if (S1 := (57, [(0, .ref q), (1, .ref mm), (2, .int (nI c0)), (3, .int (nI x)), (4, .int (nI y)), (5, .int (nI i))], [], M)) (S2 := (40, [(6, .ref (G i)), (0, .ref q), (1, .ref mm), (2, .int (nI c0)), (3, .int (nI x)), (4, .int (nI y)), (5, .int (nI i))], [], M)) rfl rfl rfl (fun c_37 => ?_) (fun c_37 => ?_)
          · have c_37 : (nI (smN f n E (by2 f (B.getD i 0 + 2)) x)) = 0 := of_decide_eq_true c_37
            have n_37 : smN f n E (by2 f (B.getD i 0 + 2)) x = 0 := (eq_nI (p := smN f n E (by2 f (B.getD i 0 + 2)) x) (n := 0) (Nat.lt_trans (le1_sm _ _ _ _ _) (by decide)) (by decide)).mp c_37
            refine ps_st (S' := (60, [(5, .int ((nI i) + 1)), (0, .ref q), (1, .ref mm), (2, .int (nI c0)), (3, .int (nI x)), (4, .int (nI y))], [], M)) rfl rfl rfl ?_
            rw [nI_add1 (p := i) (k := 1) (x := 1) rfl (by omega)]
            show pl _ _ _ (_, [(5, .int (nI (i + 1))), (0, .ref q), (1, .ref mm), (2, .int (nI c0)), (3, .int (nI x)), (4, .int (nI y))], [], M) _
            refine ps_st (S' := (3, [(0, .ref q), (1, .ref mm), (2, .int (nI c0)), (3, .int (nI x)), (4, .int (nI y)), (5, .int (nI (i + 1)))], [], M)) rfl rfl rfl ?_
            exact ih (i + 1)  (by omega) (by
                rw [← hs, smeS_st (i := i) (by omega), if_neg (by omega)])
          · have c_37 : ¬ ((nI (smN f n E (by2 f (B.getD i 0 + 2)) x)) = 0) := of_decide_eq_false c_37
            have n_37 : ¬ (smN f n E (by2 f (B.getD i 0 + 2)) x = 0) := fun h9 => c_37 ((eq_nI (p := smN f n E (by2 f (B.getD i 0 + 2)) x) (n := 0) (Nat.lt_trans (le1_sm _ _ _ _ _) (by decide)) (by decide)).mpr h9)
            refine ps_st (S' := (41, [(6, .ref (G i)), (0, .ref q), (1, .ref mm), (2, .int (nI c0)), (3, .int (nI x)), (4, .int (nI y)), (5, .int (nI i))], [.ref q], M)) rfl rfl rfl ?_
            refine ps_st (S' := (43, [(6, .ref (G i)), (0, .ref q), (1, .ref mm), (2, .int (nI c0)), (3, .int (nI x)), (4, .int (nI y)), (5, .int (nI i))], [.ref (G i), .ref q], M)) rfl rfl rfl ?_
            refine ps_get (S' := (46, [(6, .ref (G i)), (0, .ref q), (1, .ref mm), (2, .int (nI c0)), (3, .int (nI x)), (4, .int (nI y)), (5, .int (nI i))], [.int (nI (by2 f (B.getD i 0 + 4))), .ref q], M)) rfl hc9 rfl rfl ?_
            refine ps_st (S' := (48, [(6, .ref (G i)), (0, .ref q), (1, .ref mm), (2, .int (nI c0)), (3, .int (nI x)), (4, .int (nI y)), (5, .int (nI i))], [.int (nI y), .int (nI (by2 f (B.getD i 0 + 4))), .ref q], M)) rfl rfl rfl ?_
            refine pl_call (a := [.ref q, .int (nI (by2 f (B.getD i 0 + 4))), .int (nI y)]) (rest := []) rfl rfl rfl (dy_sameText (f := f) (n := n) (N := N) (q := q) (E := E) (j := (by2 f (B.getD i 0 + 4))) (k := y) (hV) (by2_lt _ _) (by omega)) (fun v4 M5 q6 => ?_)
            obtain ⟨rfl, rfl⟩ := q6
            show pl _ _ _ (51, [(6, .ref (G i)), (0, .ref q), (1, .ref mm), (2, .int (nI c0)), (3, .int (nI x)), (4, .int (nI y)), (5, .int (nI i))], [.int (nI (smN f n E (by2 f (B.getD i 0 + 4)) y))], M) _
            refine ps_if (S1 := (57, [(0, .ref q), (1, .ref mm), (2, .int (nI c0)), (3, .int (nI x)), (4, .int (nI y)), (5, .int (nI i))], [], M)) (S2 := (54, [(6, .ref (G i)), (0, .ref q), (1, .ref mm), (2, .int (nI c0)), (3, .int (nI x)), (4, .int (nI y)), (5, .int (nI i))], [], M)) rfl rfl rfl (fun c_51 => ?_) (fun c_51 => ?_)
            · have c_51 : (nI (smN f n E (by2 f (B.getD i 0 + 4)) y)) = 0 := of_decide_eq_true c_51
              have n_51 : smN f n E (by2 f (B.getD i 0 + 4)) y = 0 := (eq_nI (p := smN f n E (by2 f (B.getD i 0 + 4)) y) (n := 0) (Nat.lt_trans (le1_sm _ _ _ _ _) (by decide)) (by decide)).mp c_51
              refine ps_st (S' := (60, [(5, .int ((nI i) + 1)), (0, .ref q), (1, .ref mm), (2, .int (nI c0)), (3, .int (nI x)), (4, .int (nI y))], [], M)) rfl rfl rfl ?_
              rw [nI_add1 (p := i) (k := 1) (x := 1) rfl (by omega)]
              show pl _ _ _ (_, [(5, .int (nI (i + 1))), (0, .ref q), (1, .ref mm), (2, .int (nI c0)), (3, .int (nI x)), (4, .int (nI y))], [], M) _
              refine ps_st (S' := (3, [(0, .ref q), (1, .ref mm), (2, .int (nI c0)), (3, .int (nI x)), (4, .int (nI y)), (5, .int (nI (i + 1)))], [], M)) rfl rfl rfl ?_
              exact ih (i + 1)  (by omega) (by
                  rw [← hs, smeS_st (i := i) (by omega), if_neg (by omega)])
            · have c_51 : ¬ ((nI (smN f n E (by2 f (B.getD i 0 + 4)) y)) = 0) := of_decide_eq_false c_51
              have n_51 : ¬ (smN f n E (by2 f (B.getD i 0 + 4)) y = 0) := fun h9 => c_51 ((eq_nI (p := smN f n E (by2 f (B.getD i 0 + 4)) y) (n := 0) (Nat.lt_trans (le1_sm _ _ _ _ _) (by decide)) (by decide)).mpr h9)
              refine ps_st (S' := (56, [(6, .ref (G i)), (0, .ref q), (1, .ref mm), (2, .int (nI c0)), (3, .int (nI x)), (4, .int (nI y)), (5, .int (nI i))], [.int (nI i)], M)) rfl rfl rfl ?_
              exact ps_reti rfl (Or.inr ⟨i, by rw [← hs, smeS_st (i := i) (by omega), if_pos (by omega)], by omega, rfl, rfl⟩)
  refine ps_st (S' := (1, [(0, .ref q), (1, .ref mm), (2, .int (nI c0)), (3, .int (nI x)), (4, .int (nI y))], [.int 0], M)) rfl rfl rfl ?_
  refine ps_st (S' := (3, [(0, .ref q), (1, .ref mm), (2, .int (nI c0)), (3, .int (nI x)), (4, .int (nI y)), (5, .int 0)], [], M)) rfl rfl rfl ?_
  exact (LL kf) (0)  (by omega) (rfl)
set_option maxHeartbeats 1000000 in
theorem dk_methodNameHolds {g : xe_G} {M : mi_H} {f : Nat → Int32} {n N q : Nat} {E : List (Nat × Nat)} {o c b da vd ac fr mr fa ic mj na pa : Nat} {mi ru wa k1 k2 k3 k4 k5 k6 k7 : Int32} {x : Nat} (h_o : M.1 o = some (ob 2 [.ref c, .ref b, .ref q, .ref vd, .ref ac])) (h_c : M.1 c = some (ob 3 [.ref b, .ref q, .int mi, .int (nI mj), .int (nI fa), .int (nI ic), .ref fr, .ref mr, .int (nI na), .int (nI pa), .int k1, .int k2, .int k3, .int k4, .int k5, .int k6, .int k7])) (h_b : M.1 b = some (ob 1 [.ref da])) (h_da : M.1 da = some (ar .byte n f)) (hn : n ≤ 65540) (hmj : mj < 65536) (hfa : fa + 8 ≤ n) (hx : x < 65536) (hV : PV g f n N E q M) : pt (mT g) 66 [.ref o, .int (nI x)] M (fun v M' => (v = some (.int (nI (mnmN f n E (by2 f fa) x))) ∧ M = M')) := by
  refine pt_in (b := mb_66 g) rfl (fun kf => ?_)
  show pl (mT g) kf (mb_66 g).2 (0, [(0, .ref o), (1, .int (nI x))], [], M) _
  refine ps_st (S' := (1, [(0, .ref o), (1, .int (nI x))], [.ref o], M)) rfl rfl rfl ?_
  refine ps_get (S' := (4, [(0, .ref o), (1, .int (nI x))], [.ref q], M)) rfl h_o rfl rfl ?_
  refine ps_st (S' := (5, [(0, .ref o), (1, .int (nI x))], [.int (nI x), .ref q], M)) rfl rfl rfl ?_
  refine ps_st (S' := (7, [(0, .ref o), (1, .int (nI x))], [.ref (g.2.1 12), .int (nI x), .ref q], M)) rfl rfl rfl ?_
  refine pl_call (a := [.ref q, .int (nI x), .ref (g.2.1 12)]) (rest := []) rfl rfl rfl (dy_textIs (f := f) (n := n) (N := N) (q := q) (E := E) (j := x) (k := 12) (hV) (by omega) (by decide)) (fun v1 M2 q3 => ?_)
  obtain ⟨rfl, rfl⟩ := q3
  show pl _ _ _ (10, [(0, .ref o), (1, .int (nI x))], [.int (nI (eqN (tX f n E x) (ltx 12)))], M) _
  refine ps_if (S1 := (32, [(0, .ref o), (1, .int (nI x))], [], M)) (S2 := (13, [(0, .ref o), (1, .int (nI x))], [], M)) rfl rfl rfl (fun c_10 => ?_) (fun c_10 => ?_)
  · have c_10 : (nI (eqN (tX f n E x) (ltx 12))) = 0 := of_decide_eq_true c_10
    have n_10 : eqN (tX f n E x) (ltx 12) = 0 := (eq_nI (p := eqN (tX f n E x) (ltx 12)) (n := 0) (Nat.lt_trans (le1_eq _ _) (by decide)) (by decide)).mp c_10
    refine ps_st (S' := (33, [(0, .ref o), (1, .int (nI x))], [.ref o], M)) rfl rfl rfl ?_
    refine ps_get (S' := (36, [(0, .ref o), (1, .int (nI x))], [.ref q], M)) rfl h_o rfl rfl ?_
    refine ps_st (S' := (37, [(0, .ref o), (1, .int (nI x))], [.int (nI x), .ref q], M)) rfl rfl rfl ?_
    refine ps_st (S' := (39, [(0, .ref o), (1, .int (nI x))], [.ref (g.2.1 13), .int (nI x), .ref q], M)) rfl rfl rfl ?_
    refine pl_call (a := [.ref q, .int (nI x), .ref (g.2.1 13)]) (rest := []) rfl rfl rfl (dy_textIs (f := f) (n := n) (N := N) (q := q) (E := E) (j := x) (k := 13) (hV) (by omega) (by decide)) (fun v4 M5 q6 => ?_)
    obtain ⟨rfl, rfl⟩ := q6
    show pl _ _ _ (42, [(0, .ref o), (1, .int (nI x))], [.int (nI (eqN (tX f n E x) (ltx 13)))], M) _
    refine ps_if (S1 := (67, [], [], M)) (S2 := (45, [(0, .ref o), (1, .int (nI x))], [], M)) rfl rfl rfl (fun c_42 => ?_) (fun c_42 => ?_)
    · have c_42 : ¬ (nI (eqN (tX f n E x) (ltx 13))) = 0 := of_decide_eq_true c_42
      have n_42 : ¬ (eqN (tX f n E x) (ltx 13) = 0) := fun h9 => c_42 ((eq_nI (p := eqN (tX f n E x) (ltx 13)) (n := 0) (Nat.lt_trans (le1_eq _ _) (by decide)) (by decide)).mpr h9)
      refine ps_st (S' := (68, [], [.int 1], M)) rfl rfl rfl ?_
      refine ps_st (S' := (72, [], [.int 1], M)) rfl rfl rfl ?_
      exact ps_ret rfl rfl (⟨congrArg (fun x => some (Value.int (nI x))) (show 1 = mnmN f n E (by2 f fa) x from by
          unfold mnmN
          first | ((repeat first | rw [if_pos (by omega)] | rw [if_neg (by omega)]) <;> first | rfl | omega) | ((repeat' split) <;> first | rfl | (exfalso; omega) | omega)), rfl⟩)
    · have c_42 : ¬ (¬ (nI (eqN (tX f n E x) (ltx 13))) = 0) := of_decide_eq_false c_42
      have n_42 : eqN (tX f n E x) (ltx 13) = 0 := (eq_nI (p := eqN (tX f n E x) (ltx 13)) (n := 0) (Nat.lt_trans (le1_eq _ _) (by decide)) (by decide)).mp (Decidable.not_not.mp c_42)
      refine ps_st (S' := (46, [(0, .ref o), (1, .int (nI x))], [.ref o], M)) rfl rfl rfl ?_
      refine ps_get (S' := (49, [(0, .ref o), (1, .int (nI x))], [.ref q], M)) rfl h_o rfl rfl ?_
      refine ps_st (S' := (50, [(0, .ref o), (1, .int (nI x))], [.int (nI x), .ref q], M)) rfl rfl rfl ?_
      refine pl_call (a := [.ref q, .int (nI x)]) (rest := []) rfl rfl rfl (dy_isUnqualifiedName (f := f) (n := n) (N := N) (q := q) (E := E) (j := x) (hV) (by omega)) (fun v7 M8 q9 => ?_)
      obtain ⟨rfl, rfl⟩ := q9
      show pl _ _ _ (53, [(0, .ref o), (1, .int (nI x))], [.int (nI (unqN (tX f n E x)))], M) _
      refine ps_if (S1 := (71, [], [], M)) (S2 := (56, [(0, .ref o), (1, .int (nI x))], [], M)) rfl rfl rfl (fun c_53 => ?_) (fun c_53 => ?_)
      · have c_53 : (nI (unqN (tX f n E x))) = 0 := of_decide_eq_true c_53
        have n_53 : unqN (tX f n E x) = 0 := (eq_nI (p := unqN (tX f n E x)) (n := 0) (Nat.lt_trans (le1_unq _) (by decide)) (by decide)).mp c_53
        refine ps_st (S' := (72, [], [.int 0], M)) rfl rfl rfl ?_
        exact ps_ret rfl rfl (⟨congrArg (fun x => some (Value.int (nI x))) (show 0 = mnmN f n E (by2 f fa) x from by
            unfold mnmN
            first | ((repeat first | rw [if_pos (by omega)] | rw [if_neg (by omega)]) <;> first | rfl | omega) | ((repeat' split) <;> first | rfl | (exfalso; omega) | omega)), rfl⟩)
      · have c_53 : ¬ ((nI (unqN (tX f n E x))) = 0) := of_decide_eq_false c_53
        have n_53 : ¬ (unqN (tX f n E x) = 0) := fun h9 => c_53 ((eq_nI (p := unqN (tX f n E x)) (n := 0) (Nat.lt_trans (le1_unq _) (by decide)) (by decide)).mpr h9)
        refine ps_st (S' := (57, [(0, .ref o), (1, .int (nI x))], [.ref o], M)) rfl rfl rfl ?_
        refine ps_get (S' := (60, [(0, .ref o), (1, .int (nI x))], [.ref q], M)) rfl h_o rfl rfl ?_
        refine ps_st (S' := (61, [(0, .ref o), (1, .int (nI x))], [.int (nI x), .ref q], M)) rfl rfl rfl ?_
        refine pl_call (a := [.ref q, .int (nI x)]) (rest := []) rfl rfl rfl (dy_hasAngle (f := f) (n := n) (N := N) (q := q) (E := E) (j := x) (hV) (by omega)) (fun v10 M11 q12 => ?_)
        obtain ⟨rfl, rfl⟩ := q12
        show pl _ _ _ (64, [(0, .ref o), (1, .int (nI x))], [.int (nI (angN (tX f n E x)))], M) _
        refine ps_if (S1 := (71, [], [], M)) (S2 := (67, [], [], M)) rfl rfl rfl (fun c_64 => ?_) (fun c_64 => ?_)
        · have c_64 : ¬ (nI (angN (tX f n E x))) = 0 := of_decide_eq_true c_64
          have n_64 : ¬ (angN (tX f n E x) = 0) := fun h9 => c_64 ((eq_nI (p := angN (tX f n E x)) (n := 0) (Nat.lt_trans (le1_ang _) (by decide)) (by decide)).mpr h9)
          refine ps_st (S' := (72, [], [.int 0], M)) rfl rfl rfl ?_
          exact ps_ret rfl rfl (⟨congrArg (fun x => some (Value.int (nI x))) (show 0 = mnmN f n E (by2 f fa) x from by
              unfold mnmN
              first | ((repeat first | rw [if_pos (by omega)] | rw [if_neg (by omega)]) <;> first | rfl | omega) | ((repeat' split) <;> first | rfl | (exfalso; omega) | omega)), rfl⟩)
        · have c_64 : ¬ (¬ (nI (angN (tX f n E x))) = 0) := of_decide_eq_false c_64
          have n_64 : angN (tX f n E x) = 0 := (eq_nI (p := angN (tX f n E x)) (n := 0) (Nat.lt_trans (le1_ang _) (by decide)) (by decide)).mp (Decidable.not_not.mp c_64)
          refine ps_st (S' := (68, [], [.int 1], M)) rfl rfl rfl ?_
          refine ps_st (S' := (72, [], [.int 1], M)) rfl rfl rfl ?_
          exact ps_ret rfl rfl (⟨congrArg (fun x => some (Value.int (nI x))) (show 1 = mnmN f n E (by2 f fa) x from by
              unfold mnmN
              first | ((repeat first | rw [if_pos (by omega)] | rw [if_neg (by omega)]) <;> first | rfl | omega) | ((repeat' split) <;> first | rfl | (exfalso; omega) | omega)), rfl⟩)
  · have c_10 : ¬ ((nI (eqN (tX f n E x) (ltx 12))) = 0) := of_decide_eq_false c_10
    have n_10 : ¬ (eqN (tX f n E x) (ltx 12) = 0) := fun h9 => c_10 ((eq_nI (p := eqN (tX f n E x) (ltx 12)) (n := 0) (Nat.lt_trans (le1_eq _ _) (by decide)) (by decide)).mpr h9)
    refine ps_st (S' := (14, [(0, .ref o), (1, .int (nI x))], [.ref o], M)) rfl rfl rfl ?_
    refine ps_get (S' := (17, [(0, .ref o), (1, .int (nI x))], [.ref c], M)) rfl h_o rfl rfl ?_
    refine ps_st (S' := (20, [(0, .ref o), (1, .int (nI x))], [.int 512, .ref c], M)) rfl rfl rfl ?_
    refine pl_call (a := [.ref c, .int 512]) (rest := []) rfl rfl rfl (dk_fhas (f := f) (n := n) (q := q) (c := c) (b := b) (da := da) (fr := fr) (mr := mr) (fa := fa) (ic := ic) (mj := mj) (na := na) (pa := pa) (mi := mi) (k1 := k1) (k2 := k2) (k3 := k3) (k4 := k4) (k5 := k5) (k6 := k6) (k7 := k7) (x := 512) h_c h_b h_da (hn) (hfa)) (fun v13 M14 q15 => ?_)
    obtain ⟨rfl, rfl⟩ := q15
    show pl _ _ _ (23, [(0, .ref o), (1, .int (nI x))], [.int (nI (hasN (by2 f fa) 512))], M) _
    refine ps_if (S1 := (30, [(0, .ref o), (1, .int (nI x))], [], M)) (S2 := (26, [(0, .ref o), (1, .int (nI x))], [], M)) rfl rfl rfl (fun c_23 => ?_) (fun c_23 => ?_)
    · have c_23 : ¬ (nI (hasN (by2 f fa) 512)) = 0 := of_decide_eq_true c_23
      have n_23 : ¬ (hasN (by2 f fa) 512 = 0) := fun h9 => c_23 ((eq_nI (p := hasN (by2 f fa) 512) (n := 0) (Nat.lt_trans (le1_has _ _) (by decide)) (by decide)).mpr h9)
      refine ps_st (S' := (31, [], [.int 0], M)) rfl rfl rfl ?_
      exact ps_ret rfl rfl (⟨congrArg (fun x => some (Value.int (nI x))) (show 0 = mnmN f n E (by2 f fa) x from by
          unfold mnmN
          first | ((repeat first | rw [if_pos (by omega)] | rw [if_neg (by omega)]) <;> first | rfl | omega) | ((repeat' split) <;> first | rfl | (exfalso; omega) | omega)), rfl⟩)
    · have c_23 : ¬ (¬ (nI (hasN (by2 f fa) 512)) = 0) := of_decide_eq_false c_23
      have n_23 : hasN (by2 f fa) 512 = 0 := (eq_nI (p := hasN (by2 f fa) 512) (n := 0) (Nat.lt_trans (le1_has _ _) (by decide)) (by decide)).mp (Decidable.not_not.mp c_23)
      refine ps_st (S' := (27, [(0, .ref o), (1, .int (nI x))], [.int 1], M)) rfl rfl rfl ?_
      refine ps_st (S' := (31, [], [.int 1], M)) rfl rfl rfl ?_
      exact ps_ret rfl rfl (⟨congrArg (fun x => some (Value.int (nI x))) (show 1 = mnmN f n E (by2 f fa) x from by
          unfold mnmN
          first | ((repeat first | rw [if_pos (by omega)] | rw [if_neg (by omega)]) <;> first | rfl | omega) | ((repeat' split) <;> first | rfl | (exfalso; omega) | omega)), rfl⟩)
set_option maxHeartbeats 1000000 in
theorem dk_abstractHolds {g : xe_G} {M : mi_H} {f : Nat → Int32} {n N q : Nat} {E : List (Nat × Nat)} {o c b da vd ac fr mr fa ic mj na pa : Nat} {mi ru wa k1 k2 k3 k4 k5 k6 k7 : Int32} {a b0 : Nat} {kn co ap ex : Int32} {cd : Value} (h_o : M.1 o = some (ob 2 [.ref c, .ref b, .ref q, .ref vd, .ref ac])) (h_c : M.1 c = some (ob 3 [.ref b, .ref q, .int mi, .int (nI mj), .int (nI fa), .int (nI ic), .ref fr, .ref mr, .int (nI na), .int (nI pa), .int k1, .int k2, .int k3, .int k4, .int k5, .int k6, .int k7])) (h_b : M.1 b = some (ob 1 [.ref da])) (h_da : M.1 da = some (ar .byte n f)) (h_a : M.1 a = some (ob 6 [.int (nI b0), .int (nI (by2 f b0)), .int (nI (by2 f (b0 + 2))), .int (nI (by2 f (b0 + 4))), .int (nI (by2 f (b0 + 6))), .int (nI (b0 + 8)), .int kn, .int co, .int ap, .int ex, cd])) (hn : n ≤ 65540) (hmj : mj < 65536) (hfa : fa + 8 ≤ n) (hV : PV g f n N E q M) : pt (mT g) 52 [.ref o, .ref a] M (fun v M' => (v = some (.int (nI (absN mj (by2 f b0)))) ∧ M = M')) := by
  refine pt_in (b := mb_52 g) rfl (fun kf => ?_)
  show pl (mT g) kf (mb_52 g).2 (0, [(0, .ref o), (1, .ref a)], [], M) _
  have hu9 := by2_lt f b0
  have ha_x : ∀ m, aN (by2 f b0) m < 65536 := fun m => Nat.lt_of_le_of_lt Nat.and_le_left hu9
  refine ps_st (S' := (1, [(0, .ref o), (1, .ref a)], [.ref a], M)) rfl rfl rfl ?_
  refine ps_st (S' := (4, [(0, .ref o), (1, .ref a)], [.int 314, .ref a], M)) rfl rfl rfl ?_
  refine pl_call (a := [.ref a, .int 314]) (rest := []) rfl rfl rfl (dk_mhas (f := f) (a := a) (b0 := b0) (kn := kn) (co := co) (ap := ap) (ex := ex) (cd := cd) (x := 314) h_a) (fun v1 M2 q3 => ?_)
  obtain ⟨rfl, rfl⟩ := q3
  show pl _ _ _ (7, [(0, .ref o), (1, .ref a)], [.int (nI (hasN (by2 f b0) 314))], M) _
  refine ps_if (S1 := (12, [(0, .ref o), (1, .ref a)], [], M)) (S2 := (10, [(0, .ref o), (1, .ref a)], [], M)) rfl rfl rfl (fun c_7 => ?_) (fun c_7 => ?_)
  · have c_7 : (nI (hasN (by2 f b0) 314)) = 0 := of_decide_eq_true c_7
    have n_7 : hasN (by2 f b0) 314 = 0 := (eq_nI (p := hasN (by2 f b0) 314) (n := 0) (Nat.lt_trans (le1_has _ _) (by decide)) (by decide)).mp c_7
    refine ps_st (S' := (13, [(0, .ref o), (1, .ref a)], [.ref o], M)) rfl rfl rfl ?_
    refine ps_get (S' := (16, [(0, .ref o), (1, .ref a)], [.ref c], M)) rfl h_o rfl rfl ?_
    refine ps_get (S' := (19, [(0, .ref o), (1, .ref a)], [.int (nI mj)], M)) rfl h_c rfl rfl ?_
    refine ps_st (S' := (21, [(0, .ref o), (1, .ref a)], [.int 46, .int (nI mj)], M)) rfl rfl rfl ?_
    refine ps_if2 (S1 := (46, [], [], M)) (S2 := (24, [(0, .ref o), (1, .ref a)], [], M)) rfl rfl rfl (fun c_21 => ?_) (fun c_21 => ?_)
    · have c_21 : (nI mj) < 46 := of_decide_eq_true c_21
      have n_21 : mj < 46 := (lt_nI (p := mj) (n := 46) (by omega) (by decide)).mp c_21
      refine ps_st (S' := (47, [], [.int 1], M)) rfl rfl rfl ?_
      refine ps_st (S' := (51, [], [.int 1], M)) rfl rfl rfl ?_
      exact ps_ret rfl rfl (⟨congrArg (fun x => some (Value.int (nI x))) (show 1 = absN mj (by2 f b0) from by
          unfold absN
          first | ((repeat first | rw [if_pos (by omega)] | rw [if_neg (by omega)]) <;> first | rfl | omega) | ((repeat' split) <;> first | rfl | (exfalso; omega) | omega)), rfl⟩)
    · have c_21 : ¬ ((nI mj) < 46) := of_decide_eq_false c_21
      have n_21 : ¬ (mj < 46) := fun h9 => c_21 ((lt_nI (p := mj) (n := 46) (by omega) (by decide)).mpr h9)
      refine ps_st (S' := (25, [(0, .ref o), (1, .ref a)], [.ref o], M)) rfl rfl rfl ?_
      refine ps_get (S' := (28, [(0, .ref o), (1, .ref a)], [.ref c], M)) rfl h_o rfl rfl ?_
      refine ps_get (S' := (31, [(0, .ref o), (1, .ref a)], [.int (nI mj)], M)) rfl h_c rfl rfl ?_
      refine ps_st (S' := (33, [(0, .ref o), (1, .ref a)], [.int 60, .int (nI mj)], M)) rfl rfl rfl ?_
      refine ps_if2 (S1 := (46, [], [], M)) (S2 := (36, [(0, .ref o), (1, .ref a)], [], M)) rfl rfl rfl (fun c_33 => ?_) (fun c_33 => ?_)
      · have c_33 : 60 < (nI mj) := of_decide_eq_true c_33
        have n_33 : 60 < mj := (lt_nI (p := 60) (n := mj) (by decide) (by omega)).mp c_33
        refine ps_st (S' := (47, [], [.int 1], M)) rfl rfl rfl ?_
        refine ps_st (S' := (51, [], [.int 1], M)) rfl rfl rfl ?_
        exact ps_ret rfl rfl (⟨congrArg (fun x => some (Value.int (nI x))) (show 1 = absN mj (by2 f b0) from by
            unfold absN
            first | ((repeat first | rw [if_pos (by omega)] | rw [if_neg (by omega)]) <;> first | rfl | omega) | ((repeat' split) <;> first | rfl | (exfalso; omega) | omega)), rfl⟩)
      · have c_33 : ¬ (60 < (nI mj)) := of_decide_eq_false c_33
        have n_33 : ¬ (60 < mj) := fun h9 => c_33 ((lt_nI (p := 60) (n := mj) (by decide) (by omega)).mpr h9)
        refine ps_st (S' := (37, [(0, .ref o), (1, .ref a)], [.ref a], M)) rfl rfl rfl ?_
        refine ps_st (S' := (40, [(0, .ref o), (1, .ref a)], [.int 2048, .ref a], M)) rfl rfl rfl ?_
        refine pl_call (a := [.ref a, .int 2048]) (rest := []) rfl rfl rfl (dk_mhas (f := f) (a := a) (b0 := b0) (kn := kn) (co := co) (ap := ap) (ex := ex) (cd := cd) (x := 2048) h_a) (fun v4 M5 q6 => ?_)
        obtain ⟨rfl, rfl⟩ := q6
        show pl _ _ _ (43, [(0, .ref o), (1, .ref a)], [.int (nI (hasN (by2 f b0) 2048))], M) _
        refine ps_if (S1 := (50, [(0, .ref o), (1, .ref a)], [], M)) (S2 := (46, [], [], M)) rfl rfl rfl (fun c_43 => ?_) (fun c_43 => ?_)
        · have c_43 : ¬ (nI (hasN (by2 f b0) 2048)) = 0 := of_decide_eq_true c_43
          have n_43 : ¬ (hasN (by2 f b0) 2048 = 0) := fun h9 => c_43 ((eq_nI (p := hasN (by2 f b0) 2048) (n := 0) (Nat.lt_trans (le1_has _ _) (by decide)) (by decide)).mpr h9)
          refine ps_st (S' := (51, [], [.int 0], M)) rfl rfl rfl ?_
          exact ps_ret rfl rfl (⟨congrArg (fun x => some (Value.int (nI x))) (show 0 = absN mj (by2 f b0) from by
              unfold absN
              first | ((repeat first | rw [if_pos (by omega)] | rw [if_neg (by omega)]) <;> first | rfl | omega) | ((repeat' split) <;> first | rfl | (exfalso; omega) | omega)), rfl⟩)
        · have c_43 : ¬ (¬ (nI (hasN (by2 f b0) 2048)) = 0) := of_decide_eq_false c_43
          have n_43 : hasN (by2 f b0) 2048 = 0 := (eq_nI (p := hasN (by2 f b0) 2048) (n := 0) (Nat.lt_trans (le1_has _ _) (by decide)) (by decide)).mp (Decidable.not_not.mp c_43)
          refine ps_st (S' := (47, [], [.int 1], M)) rfl rfl rfl ?_
          refine ps_st (S' := (51, [], [.int 1], M)) rfl rfl rfl ?_
          exact ps_ret rfl rfl (⟨congrArg (fun x => some (Value.int (nI x))) (show 1 = absN mj (by2 f b0) from by
              unfold absN
              first | ((repeat first | rw [if_pos (by omega)] | rw [if_neg (by omega)]) <;> first | rfl | omega) | ((repeat' split) <;> first | rfl | (exfalso; omega) | omega)), rfl⟩)
  · have c_7 : ¬ ((nI (hasN (by2 f b0) 314)) = 0) := of_decide_eq_false c_7
    have n_7 : ¬ (hasN (by2 f b0) 314 = 0) := fun h9 => c_7 ((eq_nI (p := hasN (by2 f b0) 314) (n := 0) (Nat.lt_trans (le1_has _ _) (by decide)) (by decide)).mpr h9)
    refine ps_st (S' := (11, [(0, .ref o), (1, .ref a)], [.int 0], M)) rfl rfl rfl ?_
    exact ps_ret rfl rfl (⟨congrArg (fun x => some (Value.int (nI x))) (show 0 = absN mj (by2 f b0) from by
        unfold absN
        first | ((repeat first | rw [if_pos (by omega)] | rw [if_neg (by omega)]) <;> first | rfl | omega) | ((repeat' split) <;> first | rfl | (exfalso; omega) | omega)), rfl⟩)
set_option maxHeartbeats 1000000 in
theorem dk_interfaceMethodHolds {g : xe_G} {M : mi_H} {f : Nat → Int32} {n N q : Nat} {E : List (Nat × Nat)} {o c b da vd ac fr mr fa ic mj na pa : Nat} {mi ru wa k1 k2 k3 k4 k5 k6 k7 : Int32} {a b0 : Nat} {kn co ap ex : Int32} {cd : Value} (h_o : M.1 o = some (ob 2 [.ref c, .ref b, .ref q, .ref vd, .ref ac])) (h_c : M.1 c = some (ob 3 [.ref b, .ref q, .int mi, .int (nI mj), .int (nI fa), .int (nI ic), .ref fr, .ref mr, .int (nI na), .int (nI pa), .int k1, .int k2, .int k3, .int k4, .int k5, .int k6, .int k7])) (h_b : M.1 b = some (ob 1 [.ref da])) (h_da : M.1 da = some (ar .byte n f)) (h_a : M.1 a = some (ob 6 [.int (nI b0), .int (nI (by2 f b0)), .int (nI (by2 f (b0 + 2))), .int (nI (by2 f (b0 + 4))), .int (nI (by2 f (b0 + 6))), .int (nI (b0 + 8)), .int kn, .int co, .int ap, .int ex, cd])) (hn : n ≤ 65540) (hmj : mj < 65536) (hfa : fa + 8 ≤ n) (hV : PV g f n N E q M) : pt (mT g) 61 [.ref o, .ref a] M (fun v M' => (v = some (.int (nI (imhN mj (by2 f b0)))) ∧ M = M')) := by
  refine pt_in (b := mb_61 g) rfl (fun kf => ?_)
  show pl (mT g) kf (mb_61 g).2 (0, [(0, .ref o), (1, .ref a)], [], M) _
  have hu9 := by2_lt f b0
  have ha_x : ∀ m, aN (by2 f b0) m < 65536 := fun m => Nat.lt_of_le_of_lt Nat.and_le_left hu9
  refine ps_st (S' := (1, [(0, .ref o), (1, .ref a)], [.ref a], M)) rfl rfl rfl ?_
  refine ps_st (S' := (4, [(0, .ref o), (1, .ref a)], [.int 308, .ref a], M)) rfl rfl rfl ?_
  refine pl_call (a := [.ref a, .int 308]) (rest := []) rfl rfl rfl (dk_mhas (f := f) (a := a) (b0 := b0) (kn := kn) (co := co) (ap := ap) (ex := ex) (cd := cd) (x := 308) h_a) (fun v1 M2 q3 => ?_)
  obtain ⟨rfl, rfl⟩ := q3
  show pl _ _ _ (7, [(0, .ref o), (1, .ref a)], [.int (nI (hasN (by2 f b0) 308))], M) _
  refine ps_if (S1 := (12, [(0, .ref o), (1, .ref a)], [], M)) (S2 := (10, [(0, .ref o), (1, .ref a)], [], M)) rfl rfl rfl (fun c_7 => ?_) (fun c_7 => ?_)
  · have c_7 : (nI (hasN (by2 f b0) 308)) = 0 := of_decide_eq_true c_7
    have n_7 : hasN (by2 f b0) 308 = 0 := (eq_nI (p := hasN (by2 f b0) 308) (n := 0) (Nat.lt_trans (le1_has _ _) (by decide)) (by decide)).mp c_7
    refine ps_st (S' := (13, [(0, .ref o), (1, .ref a)], [.ref o], M)) rfl rfl rfl ?_
    refine ps_get (S' := (16, [(0, .ref o), (1, .ref a)], [.ref c], M)) rfl h_o rfl rfl ?_
    refine ps_get (S' := (19, [(0, .ref o), (1, .ref a)], [.int (nI mj)], M)) rfl h_c rfl rfl ?_
    refine ps_st (S' := (21, [(0, .ref o), (1, .ref a)], [.int 52, .int (nI mj)], M)) rfl rfl rfl ?_
    refine ps_if2 (S1 := (52, [(0, .ref o), (1, .ref a)], [], M)) (S2 := (24, [(0, .ref o), (1, .ref a)], [], M)) rfl rfl rfl (fun c_21 => ?_) (fun c_21 => ?_)
    · have c_21 : 52 ≤ (nI mj) := of_decide_eq_true c_21
      have n_21 : 52 ≤ mj := (le_nI (p := 52) (n := mj) (by decide) (by omega)).mp c_21
      refine ps_st (S' := (53, [(0, .ref o), (1, .ref a)], [.ref a], M)) rfl rfl rfl ?_
      refine ps_st (S' := (54, [(0, .ref o), (1, .ref a)], [.int 1, .ref a], M)) rfl rfl rfl ?_
      refine pl_call (a := [.ref a, .int 1]) (rest := []) rfl rfl rfl (dk_mhas (f := f) (a := a) (b0 := b0) (kn := kn) (co := co) (ap := ap) (ex := ex) (cd := cd) (x := 1) h_a) (fun v4 M5 q6 => ?_)
      obtain ⟨rfl, rfl⟩ := q6
      show pl _ _ _ (57, [(0, .ref o), (1, .ref a)], [.int (nI (hasN (by2 f b0) 1))], M) _
      refine ps_st (S' := (58, [(0, .ref o), (1, .ref a)], [.ref a, .int (nI (hasN (by2 f b0) 1))], M)) rfl rfl rfl ?_
      refine ps_st (S' := (59, [(0, .ref o), (1, .ref a)], [.int 2, .ref a, .int (nI (hasN (by2 f b0) 1))], M)) rfl rfl rfl ?_
      refine pl_call (a := [.ref a, .int 2]) (rest := [.int (nI (hasN (by2 f b0) 1))]) rfl rfl rfl (dk_mhas (f := f) (a := a) (b0 := b0) (kn := kn) (co := co) (ap := ap) (ex := ex) (cd := cd) (x := 2) h_a) (fun v7 M8 q9 => ?_)
      obtain ⟨rfl, rfl⟩ := q9
      show pl _ _ _ (62, [(0, .ref o), (1, .ref a)], [.int (nI (hasN (by2 f b0) 2)), .int (nI (hasN (by2 f b0) 1))], M) _
      refine ps_if2 (S1 := (69, [(0, .ref o), (1, .ref a)], [], M)) (S2 := (65, [(0, .ref o), (1, .ref a)], [], M)) rfl rfl rfl (fun c_62 => ?_) (fun c_62 => ?_)
      · have c_62 : (nI (hasN (by2 f b0) 1)) = (nI (hasN (by2 f b0) 2)) := of_decide_eq_true c_62
        have n_62 : hasN (by2 f b0) 1 = hasN (by2 f b0) 2 := (eq_nI (p := hasN (by2 f b0) 1) (n := hasN (by2 f b0) 2) (Nat.lt_trans (le1_has _ _) (by decide)) (Nat.lt_trans (le1_has _ _) (by decide))).mp c_62
        refine ps_st (S' := (70, [], [.int 0], M)) rfl rfl rfl ?_
        exact ps_ret rfl rfl (⟨congrArg (fun x => some (Value.int (nI x))) (show 0 = imhN mj (by2 f b0) from by
            unfold imhN
            first | ((repeat first | rw [if_pos (by omega)] | rw [if_neg (by omega)]) <;> first | rfl | omega) | ((repeat' split) <;> first | rfl | (exfalso; omega) | omega)), rfl⟩)
      · have c_62 : ¬ ((nI (hasN (by2 f b0) 1)) = (nI (hasN (by2 f b0) 2))) := of_decide_eq_false c_62
        have n_62 : ¬ (hasN (by2 f b0) 1 = hasN (by2 f b0) 2) := fun h9 => c_62 ((eq_nI (p := hasN (by2 f b0) 1) (n := hasN (by2 f b0) 2) (Nat.lt_trans (le1_has _ _) (by decide)) (Nat.lt_trans (le1_has _ _) (by decide))).mpr h9)
        refine ps_st (S' := (66, [(0, .ref o), (1, .ref a)], [.int 1], M)) rfl rfl rfl ?_
        refine ps_st (S' := (70, [], [.int 1], M)) rfl rfl rfl ?_
        exact ps_ret rfl rfl (⟨congrArg (fun x => some (Value.int (nI x))) (show 1 = imhN mj (by2 f b0) from by
            unfold imhN
            first | ((repeat first | rw [if_pos (by omega)] | rw [if_neg (by omega)]) <;> first | rfl | omega) | ((repeat' split) <;> first | rfl | (exfalso; omega) | omega)), rfl⟩)
    · have c_21 : ¬ (52 ≤ (nI mj)) := of_decide_eq_false c_21
      have n_21 : ¬ (52 ≤ mj) := fun h9 => c_21 ((le_nI (p := 52) (n := mj) (by decide) (by omega)).mpr h9)
      refine ps_st (S' := (25, [(0, .ref o), (1, .ref a)], [.ref a], M)) rfl rfl rfl ?_
      refine ps_get (S' := (28, [(0, .ref o), (1, .ref a)], [.int (nI (by2 f b0))], M)) rfl h_a rfl rfl ?_
      refine ps_st (S' := (31, [(0, .ref o), (1, .ref a)], [.int 1025, .int (nI (by2 f b0))], M)) rfl rfl rfl ?_
      refine pl_call (a := [.int (nI (by2 f b0)), .int 1025]) (rest := []) rfl rfl rfl (dk_hasAll (x := (by2 f b0)) (w := 1025) (by2_lt _ _) (by decide)) (fun v10 M11 q12 => ?_)
      obtain ⟨rfl, rfl⟩ := q12
      show pl _ _ _ (34, [(0, .ref o), (1, .ref a)], [.int (nI (hallN (by2 f b0) 1025))], M) _
      refine ps_if (S1 := (50, [], [], M)) (S2 := (37, [(0, .ref o), (1, .ref a)], [], M)) rfl rfl rfl (fun c_34 => ?_) (fun c_34 => ?_)
      · have c_34 : (nI (hallN (by2 f b0) 1025)) = 0 := of_decide_eq_true c_34
        have n_34 : hallN (by2 f b0) 1025 = 0 := (eq_nI (p := hallN (by2 f b0) 1025) (n := 0) (Nat.lt_trans (le1_hall _ _) (by decide)) (by decide)).mp c_34
        refine ps_st (S' := (51, [], [.int 0], M)) rfl rfl rfl ?_
        exact ps_ret rfl rfl (⟨congrArg (fun x => some (Value.int (nI x))) (show 0 = imhN mj (by2 f b0) from by
            unfold imhN
            first | ((repeat first | rw [if_pos (by omega)] | rw [if_neg (by omega)]) <;> first | rfl | omega) | ((repeat' split) <;> first | rfl | (exfalso; omega) | omega)), rfl⟩)
      · have c_34 : ¬ ((nI (hallN (by2 f b0) 1025)) = 0) := of_decide_eq_false c_34
        have n_34 : ¬ (hallN (by2 f b0) 1025 = 0) := fun h9 => c_34 ((eq_nI (p := hallN (by2 f b0) 1025) (n := 0) (Nat.lt_trans (le1_hall _ _) (by decide)) (by decide)).mpr h9)
        refine ps_st (S' := (38, [(0, .ref o), (1, .ref a)], [.ref a], M)) rfl rfl rfl ?_
        refine ps_st (S' := (40, [(0, .ref o), (1, .ref a)], [.int 8, .ref a], M)) rfl rfl rfl ?_
        refine pl_call (a := [.ref a, .int 8]) (rest := []) rfl rfl rfl (dk_mhas (f := f) (a := a) (b0 := b0) (kn := kn) (co := co) (ap := ap) (ex := ex) (cd := cd) (x := 8) h_a) (fun v13 M14 q15 => ?_)
        obtain ⟨rfl, rfl⟩ := q15
        show pl _ _ _ (43, [(0, .ref o), (1, .ref a)], [.int (nI (hasN (by2 f b0) 8))], M) _
        refine ps_if (S1 := (50, [], [], M)) (S2 := (46, [(0, .ref o), (1, .ref a)], [], M)) rfl rfl rfl (fun c_43 => ?_) (fun c_43 => ?_)
        · have c_43 : ¬ (nI (hasN (by2 f b0) 8)) = 0 := of_decide_eq_true c_43
          have n_43 : ¬ (hasN (by2 f b0) 8 = 0) := fun h9 => c_43 ((eq_nI (p := hasN (by2 f b0) 8) (n := 0) (Nat.lt_trans (le1_has _ _) (by decide)) (by decide)).mpr h9)
          refine ps_st (S' := (51, [], [.int 0], M)) rfl rfl rfl ?_
          exact ps_ret rfl rfl (⟨congrArg (fun x => some (Value.int (nI x))) (show 0 = imhN mj (by2 f b0) from by
              unfold imhN
              first | ((repeat first | rw [if_pos (by omega)] | rw [if_neg (by omega)]) <;> first | rfl | omega) | ((repeat' split) <;> first | rfl | (exfalso; omega) | omega)), rfl⟩)
        · have c_43 : ¬ (¬ (nI (hasN (by2 f b0) 8)) = 0) := of_decide_eq_false c_43
          have n_43 : hasN (by2 f b0) 8 = 0 := (eq_nI (p := hasN (by2 f b0) 8) (n := 0) (Nat.lt_trans (le1_has _ _) (by decide)) (by decide)).mp (Decidable.not_not.mp c_43)
          refine ps_st (S' := (47, [(0, .ref o), (1, .ref a)], [.int 1], M)) rfl rfl rfl ?_
          refine ps_st (S' := (51, [], [.int 1], M)) rfl rfl rfl ?_
          exact ps_ret rfl rfl (⟨congrArg (fun x => some (Value.int (nI x))) (show 1 = imhN mj (by2 f b0) from by
              unfold imhN
              first | ((repeat first | rw [if_pos (by omega)] | rw [if_neg (by omega)]) <;> first | rfl | omega) | ((repeat' split) <;> first | rfl | (exfalso; omega) | omega)), rfl⟩)
  · have c_7 : ¬ ((nI (hasN (by2 f b0) 308)) = 0) := of_decide_eq_false c_7
    have n_7 : ¬ (hasN (by2 f b0) 308 = 0) := fun h9 => c_7 ((eq_nI (p := hasN (by2 f b0) 308) (n := 0) (Nat.lt_trans (le1_has _ _) (by decide)) (by decide)).mpr h9)
    refine ps_st (S' := (11, [(0, .ref o), (1, .ref a)], [.int 0], M)) rfl rfl rfl ?_
    exact ps_ret rfl rfl (⟨congrArg (fun x => some (Value.int (nI x))) (show 0 = imhN mj (by2 f b0) from by
        unfold imhN
        first | ((repeat first | rw [if_pos (by omega)] | rw [if_neg (by omega)]) <;> first | rfl | omega) | ((repeat' split) <;> first | rfl | (exfalso; omega) | omega)), rfl⟩)
set_option maxHeartbeats 1000000 in
theorem dk_methodFlagsHold {g : xe_G} {M : mi_H} {f : Nat → Int32} {n N q : Nat} {E : List (Nat × Nat)} {o c b da vd ac fr mr fa ic mj na pa : Nat} {mi ru wa k1 k2 k3 k4 k5 k6 k7 : Int32} {a b0 : Nat} {kn co ap ex : Int32} {cd : Value} (h_o : M.1 o = some (ob 2 [.ref c, .ref b, .ref q, .ref vd, .ref ac])) (h_c : M.1 c = some (ob 3 [.ref b, .ref q, .int mi, .int (nI mj), .int (nI fa), .int (nI ic), .ref fr, .ref mr, .int (nI na), .int (nI pa), .int k1, .int k2, .int k3, .int k4, .int k5, .int k6, .int k7])) (h_b : M.1 b = some (ob 1 [.ref da])) (h_da : M.1 da = some (ar .byte n f)) (h_a : M.1 a = some (ob 6 [.int (nI b0), .int (nI (by2 f b0)), .int (nI (by2 f (b0 + 2))), .int (nI (by2 f (b0 + 4))), .int (nI (by2 f (b0 + 6))), .int (nI (b0 + 8)), .int kn, .int co, .int ap, .int ex, cd])) (hn : n ≤ 65540) (hmj : mj < 65536) (hfa : fa + 8 ≤ n) (hV : PV g f n N E q M) : pt (mT g) 64 [.ref o, .ref a] M (fun v M' => (v = some (.int (nI (mflN f n E (by2 f fa) mj (by2 f b0) (by2 f (b0 + 2))))) ∧ M = M')) := by
  refine pt_in (b := mb_64 g) rfl (fun kf => ?_)
  show pl (mT g) kf (mb_64 g).2 (0, [(0, .ref o), (1, .ref a)], [], M) _
  have hu9 := by2_lt f b0
  have ha_x : ∀ m, aN (by2 f b0) m < 65536 := fun m => Nat.lt_of_le_of_lt Nat.and_le_left hu9
  refine ps_st (S' := (1, [(0, .ref o), (1, .ref a)], [.ref o], M)) rfl rfl rfl ?_
  refine ps_get (S' := (4, [(0, .ref o), (1, .ref a)], [.ref q], M)) rfl h_o rfl rfl ?_
  refine ps_st (S' := (5, [(0, .ref o), (1, .ref a)], [.ref a, .ref q], M)) rfl rfl rfl ?_
  refine ps_get (S' := (8, [(0, .ref o), (1, .ref a)], [.int (nI (by2 f (b0 + 2))), .ref q], M)) rfl h_a rfl rfl ?_
  refine ps_st (S' := (10, [(0, .ref o), (1, .ref a)], [.ref (g.2.1 13), .int (nI (by2 f (b0 + 2))), .ref q], M)) rfl rfl rfl ?_
  refine pl_call (a := [.ref q, .int (nI (by2 f (b0 + 2))), .ref (g.2.1 13)]) (rest := []) rfl rfl rfl (dy_textIs (f := f) (n := n) (N := N) (q := q) (E := E) (j := (by2 f (b0 + 2))) (k := 13) (hV) (by2_lt _ _) (by decide)) (fun v1 M2 q3 => ?_)
  obtain ⟨rfl, rfl⟩ := q3
  show pl _ _ _ (13, [(0, .ref o), (1, .ref a)], [.int (nI (eqN (tX f n E (by2 f (b0 + 2))) (ltx 13)))], M) _
  refine ps_if (S1 := (18, [(0, .ref o), (1, .ref a)], [], M)) (S2 := (16, [(0, .ref o), (1, .ref a)], [], M)) rfl rfl rfl (fun c_13 => ?_) (fun c_13 => ?_)
  · have c_13 : (nI (eqN (tX f n E (by2 f (b0 + 2))) (ltx 13))) = 0 := of_decide_eq_true c_13
    have n_13 : eqN (tX f n E (by2 f (b0 + 2))) (ltx 13) = 0 := (eq_nI (p := eqN (tX f n E (by2 f (b0 + 2))) (ltx 13)) (n := 0) (Nat.lt_trans (le1_eq _ _) (by decide)) (by decide)).mp c_13
    refine ps_st (S' := (19, [(0, .ref o), (1, .ref a)], [.ref o], M)) rfl rfl rfl ?_
    refine ps_get (S' := (22, [(0, .ref o), (1, .ref a)], [.ref q], M)) rfl h_o rfl rfl ?_
    refine ps_st (S' := (23, [(0, .ref o), (1, .ref a)], [.ref a, .ref q], M)) rfl rfl rfl ?_
    refine ps_get (S' := (26, [(0, .ref o), (1, .ref a)], [.int (nI (by2 f (b0 + 2))), .ref q], M)) rfl h_a rfl rfl ?_
    refine ps_st (S' := (28, [(0, .ref o), (1, .ref a)], [.ref (g.2.1 12), .int (nI (by2 f (b0 + 2))), .ref q], M)) rfl rfl rfl ?_
    refine pl_call (a := [.ref q, .int (nI (by2 f (b0 + 2))), .ref (g.2.1 12)]) (rest := []) rfl rfl rfl (dy_textIs (f := f) (n := n) (N := N) (q := q) (E := E) (j := (by2 f (b0 + 2))) (k := 12) (hV) (by2_lt _ _) (by decide)) (fun v4 M5 q6 => ?_)
    obtain ⟨rfl, rfl⟩ := q6
    show pl _ _ _ (31, [(0, .ref o), (1, .ref a)], [.int (nI (eqN (tX f n E (by2 f (b0 + 2))) (ltx 12)))], M) _
    refine ps_if (S1 := (62, [(0, .ref o), (1, .ref a)], [], M)) (S2 := (34, [(0, .ref o), (1, .ref a)], [], M)) rfl rfl rfl (fun c_31 => ?_) (fun c_31 => ?_)
    · have c_31 : (nI (eqN (tX f n E (by2 f (b0 + 2))) (ltx 12))) = 0 := of_decide_eq_true c_31
      have n_31 : eqN (tX f n E (by2 f (b0 + 2))) (ltx 12) = 0 := (eq_nI (p := eqN (tX f n E (by2 f (b0 + 2))) (ltx 12)) (n := 0) (Nat.lt_trans (le1_eq _ _) (by decide)) (by decide)).mp c_31
      refine ps_st (S' := (63, [(0, .ref o), (1, .ref a)], [.ref a], M)) rfl rfl rfl ?_
      refine ps_st (S' := (66, [(0, .ref o), (1, .ref a)], [.int 1024, .ref a], M)) rfl rfl rfl ?_
      refine pl_call (a := [.ref a, .int 1024]) (rest := []) rfl rfl rfl (dk_mhas (f := f) (a := a) (b0 := b0) (kn := kn) (co := co) (ap := ap) (ex := ex) (cd := cd) (x := 1024) h_a) (fun v7 M8 q9 => ?_)
      obtain ⟨rfl, rfl⟩ := q9
      show pl _ _ _ (69, [(0, .ref o), (1, .ref a)], [.int (nI (hasN (by2 f b0) 1024))], M) _
      refine ps_if (S1 := (82, [(0, .ref o), (1, .ref a)], [], M)) (S2 := (72, [(0, .ref o), (1, .ref a)], [], M)) rfl rfl rfl (fun c_69 => ?_) (fun c_69 => ?_)
      · have c_69 : (nI (hasN (by2 f b0) 1024)) = 0 := of_decide_eq_true c_69
        have n_69 : hasN (by2 f b0) 1024 = 0 := (eq_nI (p := hasN (by2 f b0) 1024) (n := 0) (Nat.lt_trans (le1_has _ _) (by decide)) (by decide)).mp c_69
        refine ps_st (S' := (83, [(0, .ref o), (1, .ref a)], [.ref o], M)) rfl rfl rfl ?_
        refine ps_get (S' := (86, [(0, .ref o), (1, .ref a)], [.ref c], M)) rfl h_o rfl rfl ?_
        refine ps_st (S' := (89, [(0, .ref o), (1, .ref a)], [.int 512, .ref c], M)) rfl rfl rfl ?_
        refine pl_call (a := [.ref c, .int 512]) (rest := []) rfl rfl rfl (dk_fhas (f := f) (n := n) (q := q) (c := c) (b := b) (da := da) (fr := fr) (mr := mr) (fa := fa) (ic := ic) (mj := mj) (na := na) (pa := pa) (mi := mi) (k1 := k1) (k2 := k2) (k3 := k3) (k4 := k4) (k5 := k5) (k6 := k6) (k7 := k7) (x := 512) h_c h_b h_da (hn) (hfa)) (fun v10 M11 q12 => ?_)
        obtain ⟨rfl, rfl⟩ := q12
        show pl _ _ _ (92, [(0, .ref o), (1, .ref a)], [.int (nI (hasN (by2 f fa) 512))], M) _
        refine ps_if (S1 := (103, [(0, .ref o), (1, .ref a)], [], M)) (S2 := (95, [(0, .ref o), (1, .ref a)], [], M)) rfl rfl rfl (fun c_92 => ?_) (fun c_92 => ?_)
        · have c_92 : (nI (hasN (by2 f fa) 512)) = 0 := of_decide_eq_true c_92
          have n_92 : hasN (by2 f fa) 512 = 0 := (eq_nI (p := hasN (by2 f fa) 512) (n := 0) (Nat.lt_trans (le1_has _ _) (by decide)) (by decide)).mp c_92
          refine ps_st (S' := (104, [(0, .ref o), (1, .ref a)], [.ref a], M)) rfl rfl rfl ?_
          refine ps_get (S' := (107, [(0, .ref o), (1, .ref a)], [.int (nI (by2 f b0))], M)) rfl h_a rfl rfl ?_
          refine pl_call (a := [.int (nI (by2 f b0))]) (rest := []) rfl rfl rfl (dk_hasOneAccessAtMost (x := (by2 f b0)) (by2_lt _ _)) (fun v13 M14 q15 => ?_)
          obtain ⟨rfl, rfl⟩ := q15
          show pl _ _ _ (110, [], [.int (nI (oneN (by2 f b0)))], M) _
          exact ps_reti rfl (⟨congrArg (fun x => some (Value.int (nI x))) (show oneN (by2 f b0) = mflN f n E (by2 f fa) mj (by2 f b0) (by2 f (b0 + 2)) from by
              unfold mflN
              first | ((repeat first | rw [if_pos (by omega)] | rw [if_neg (by omega)]) <;> first | rfl | omega) | ((repeat' split) <;> first | rfl | (exfalso; omega) | omega)), rfl⟩)
        · have c_92 : ¬ ((nI (hasN (by2 f fa) 512)) = 0) := of_decide_eq_false c_92
          have n_92 : ¬ (hasN (by2 f fa) 512 = 0) := fun h9 => c_92 ((eq_nI (p := hasN (by2 f fa) 512) (n := 0) (Nat.lt_trans (le1_has _ _) (by decide)) (by decide)).mpr h9)
          refine ps_st (S' := (96, [(0, .ref o), (1, .ref a)], [.ref o], M)) rfl rfl rfl ?_
          refine ps_st (S' := (97, [(0, .ref o), (1, .ref a)], [.ref a, .ref o], M)) rfl rfl rfl ?_
          refine pl_call (a := [.ref o, .ref a]) (rest := []) rfl rfl rfl (dk_interfaceMethodHolds (f := f) (n := n) (N := N) (q := q) (E := E) (o := o) (c := c) (b := b) (da := da) (vd := vd) (ac := ac) (fr := fr) (mr := mr) (fa := fa) (ic := ic) (mj := mj) (na := na) (pa := pa) (mi := mi) (ru := ru) (wa := wa) (k1 := k1) (k2 := k2) (k3 := k3) (k4 := k4) (k5 := k5) (k6 := k6) (k7 := k7) (a := a) (b0 := b0) (kn := kn) (co := co) (ap := ap) (ex := ex) (cd := cd) h_o h_c h_b h_da h_a (hn) (hmj) (hfa) (hV)) (fun v16 M17 q18 => ?_)
          obtain ⟨rfl, rfl⟩ := q18
          show pl _ _ _ (100, [(0, .ref o), (1, .ref a)], [.int (nI (imhN mj (by2 f b0)))], M) _
          refine ps_st (S' := (110, [], [.int (nI (imhN mj (by2 f b0)))], M)) rfl rfl rfl ?_
          exact ps_reti rfl (⟨congrArg (fun x => some (Value.int (nI x))) (show imhN mj (by2 f b0) = mflN f n E (by2 f fa) mj (by2 f b0) (by2 f (b0 + 2)) from by
              unfold mflN
              first | ((repeat first | rw [if_pos (by omega)] | rw [if_neg (by omega)]) <;> first | rfl | omega) | ((repeat' split) <;> first | rfl | (exfalso; omega) | omega)), rfl⟩)
      · have c_69 : ¬ ((nI (hasN (by2 f b0) 1024)) = 0) := of_decide_eq_false c_69
        have n_69 : ¬ (hasN (by2 f b0) 1024 = 0) := fun h9 => c_69 ((eq_nI (p := hasN (by2 f b0) 1024) (n := 0) (Nat.lt_trans (le1_has _ _) (by decide)) (by decide)).mpr h9)
        refine ps_st (S' := (73, [(0, .ref o), (1, .ref a)], [.ref o], M)) rfl rfl rfl ?_
        refine ps_st (S' := (74, [(0, .ref o), (1, .ref a)], [.ref a, .ref o], M)) rfl rfl rfl ?_
        refine pl_call (a := [.ref o, .ref a]) (rest := []) rfl rfl rfl (dk_abstractHolds (f := f) (n := n) (N := N) (q := q) (E := E) (o := o) (c := c) (b := b) (da := da) (vd := vd) (ac := ac) (fr := fr) (mr := mr) (fa := fa) (ic := ic) (mj := mj) (na := na) (pa := pa) (mi := mi) (ru := ru) (wa := wa) (k1 := k1) (k2 := k2) (k3 := k3) (k4 := k4) (k5 := k5) (k6 := k6) (k7 := k7) (a := a) (b0 := b0) (kn := kn) (co := co) (ap := ap) (ex := ex) (cd := cd) h_o h_c h_b h_da h_a (hn) (hmj) (hfa) (hV)) (fun v19 M20 q21 => ?_)
        obtain ⟨rfl, rfl⟩ := q21
        show pl _ _ _ (77, [(0, .ref o), (1, .ref a)], [.int (nI (absN mj (by2 f b0)))], M) _
        refine ps_if (S1 := (82, [(0, .ref o), (1, .ref a)], [], M)) (S2 := (80, [(0, .ref o), (1, .ref a)], [], M)) rfl rfl rfl (fun c_77 => ?_) (fun c_77 => ?_)
        · have c_77 : ¬ (nI (absN mj (by2 f b0))) = 0 := of_decide_eq_true c_77
          have n_77 : ¬ (absN mj (by2 f b0) = 0) := fun h9 => c_77 ((eq_nI (p := absN mj (by2 f b0)) (n := 0) (Nat.lt_trans (le1_abs _ _) (by decide)) (by decide)).mpr h9)
          refine ps_st (S' := (83, [(0, .ref o), (1, .ref a)], [.ref o], M)) rfl rfl rfl ?_
          refine ps_get (S' := (86, [(0, .ref o), (1, .ref a)], [.ref c], M)) rfl h_o rfl rfl ?_
          refine ps_st (S' := (89, [(0, .ref o), (1, .ref a)], [.int 512, .ref c], M)) rfl rfl rfl ?_
          refine pl_call (a := [.ref c, .int 512]) (rest := []) rfl rfl rfl (dk_fhas (f := f) (n := n) (q := q) (c := c) (b := b) (da := da) (fr := fr) (mr := mr) (fa := fa) (ic := ic) (mj := mj) (na := na) (pa := pa) (mi := mi) (k1 := k1) (k2 := k2) (k3 := k3) (k4 := k4) (k5 := k5) (k6 := k6) (k7 := k7) (x := 512) h_c h_b h_da (hn) (hfa)) (fun v22 M23 q24 => ?_)
          obtain ⟨rfl, rfl⟩ := q24
          show pl _ _ _ (92, [(0, .ref o), (1, .ref a)], [.int (nI (hasN (by2 f fa) 512))], M) _
          refine ps_if (S1 := (103, [(0, .ref o), (1, .ref a)], [], M)) (S2 := (95, [(0, .ref o), (1, .ref a)], [], M)) rfl rfl rfl (fun c_92 => ?_) (fun c_92 => ?_)
          · have c_92 : (nI (hasN (by2 f fa) 512)) = 0 := of_decide_eq_true c_92
            have n_92 : hasN (by2 f fa) 512 = 0 := (eq_nI (p := hasN (by2 f fa) 512) (n := 0) (Nat.lt_trans (le1_has _ _) (by decide)) (by decide)).mp c_92
            refine ps_st (S' := (104, [(0, .ref o), (1, .ref a)], [.ref a], M)) rfl rfl rfl ?_
            refine ps_get (S' := (107, [(0, .ref o), (1, .ref a)], [.int (nI (by2 f b0))], M)) rfl h_a rfl rfl ?_
            refine pl_call (a := [.int (nI (by2 f b0))]) (rest := []) rfl rfl rfl (dk_hasOneAccessAtMost (x := (by2 f b0)) (by2_lt _ _)) (fun v25 M26 q27 => ?_)
            obtain ⟨rfl, rfl⟩ := q27
            show pl _ _ _ (110, [], [.int (nI (oneN (by2 f b0)))], M) _
            exact ps_reti rfl (⟨congrArg (fun x => some (Value.int (nI x))) (show oneN (by2 f b0) = mflN f n E (by2 f fa) mj (by2 f b0) (by2 f (b0 + 2)) from by
                unfold mflN
                first | ((repeat first | rw [if_pos (by omega)] | rw [if_neg (by omega)]) <;> first | rfl | omega) | ((repeat' split) <;> first | rfl | (exfalso; omega) | omega)), rfl⟩)
          · have c_92 : ¬ ((nI (hasN (by2 f fa) 512)) = 0) := of_decide_eq_false c_92
            have n_92 : ¬ (hasN (by2 f fa) 512 = 0) := fun h9 => c_92 ((eq_nI (p := hasN (by2 f fa) 512) (n := 0) (Nat.lt_trans (le1_has _ _) (by decide)) (by decide)).mpr h9)
            refine ps_st (S' := (96, [(0, .ref o), (1, .ref a)], [.ref o], M)) rfl rfl rfl ?_
            refine ps_st (S' := (97, [(0, .ref o), (1, .ref a)], [.ref a, .ref o], M)) rfl rfl rfl ?_
            refine pl_call (a := [.ref o, .ref a]) (rest := []) rfl rfl rfl (dk_interfaceMethodHolds (f := f) (n := n) (N := N) (q := q) (E := E) (o := o) (c := c) (b := b) (da := da) (vd := vd) (ac := ac) (fr := fr) (mr := mr) (fa := fa) (ic := ic) (mj := mj) (na := na) (pa := pa) (mi := mi) (ru := ru) (wa := wa) (k1 := k1) (k2 := k2) (k3 := k3) (k4 := k4) (k5 := k5) (k6 := k6) (k7 := k7) (a := a) (b0 := b0) (kn := kn) (co := co) (ap := ap) (ex := ex) (cd := cd) h_o h_c h_b h_da h_a (hn) (hmj) (hfa) (hV)) (fun v28 M29 q30 => ?_)
            obtain ⟨rfl, rfl⟩ := q30
            show pl _ _ _ (100, [(0, .ref o), (1, .ref a)], [.int (nI (imhN mj (by2 f b0)))], M) _
            refine ps_st (S' := (110, [], [.int (nI (imhN mj (by2 f b0)))], M)) rfl rfl rfl ?_
            exact ps_reti rfl (⟨congrArg (fun x => some (Value.int (nI x))) (show imhN mj (by2 f b0) = mflN f n E (by2 f fa) mj (by2 f b0) (by2 f (b0 + 2)) from by
                unfold mflN
                first | ((repeat first | rw [if_pos (by omega)] | rw [if_neg (by omega)]) <;> first | rfl | omega) | ((repeat' split) <;> first | rfl | (exfalso; omega) | omega)), rfl⟩)
        · have c_77 : ¬ (¬ (nI (absN mj (by2 f b0))) = 0) := of_decide_eq_false c_77
          have n_77 : absN mj (by2 f b0) = 0 := (eq_nI (p := absN mj (by2 f b0)) (n := 0) (Nat.lt_trans (le1_abs _ _) (by decide)) (by decide)).mp (Decidable.not_not.mp c_77)
          refine ps_st (S' := (81, [(0, .ref o), (1, .ref a)], [.int 0], M)) rfl rfl rfl ?_
          exact ps_ret rfl rfl (⟨congrArg (fun x => some (Value.int (nI x))) (show 0 = mflN f n E (by2 f fa) mj (by2 f b0) (by2 f (b0 + 2)) from by
              unfold mflN
              first | ((repeat first | rw [if_pos (by omega)] | rw [if_neg (by omega)]) <;> first | rfl | omega) | ((repeat' split) <;> first | rfl | (exfalso; omega) | omega)), rfl⟩)
    · have c_31 : ¬ ((nI (eqN (tX f n E (by2 f (b0 + 2))) (ltx 12))) = 0) := of_decide_eq_false c_31
      have n_31 : ¬ (eqN (tX f n E (by2 f (b0 + 2))) (ltx 12) = 0) := fun h9 => c_31 ((eq_nI (p := eqN (tX f n E (by2 f (b0 + 2))) (ltx 12)) (n := 0) (Nat.lt_trans (le1_eq _ _) (by decide)) (by decide)).mpr h9)
      refine ps_st (S' := (37, [(0, .ref o), (1, .ref a)], [.int 1400], M)) rfl rfl rfl ?_
      refine ps_st (S' := (38, [(2, .int 1400), (0, .ref o), (1, .ref a)], [], M)) rfl rfl rfl ?_
      refine ps_st (S' := (39, [(2, .int 1400), (0, .ref o), (1, .ref a)], [.ref a], M)) rfl rfl rfl ?_
      refine ps_get (S' := (42, [(2, .int 1400), (0, .ref o), (1, .ref a)], [.int (nI (by2 f b0))], M)) rfl h_a rfl rfl ?_
      refine pl_call (a := [.int (nI (by2 f b0))]) (rest := []) rfl rfl rfl (dk_hasOneAccessAtMost (x := (by2 f b0)) (by2_lt _ _)) (fun v31 M32 q33 => ?_)
      obtain ⟨rfl, rfl⟩ := q33
      show pl _ _ _ (45, [(2, .int 1400), (0, .ref o), (1, .ref a)], [.int (nI (oneN (by2 f b0)))], M) _
      refine ps_if (S1 := (60, [], [], M)) (S2 := (48, [(2, .int 1400), (0, .ref o), (1, .ref a)], [], M)) rfl rfl rfl (fun c_45 => ?_) (fun c_45 => ?_)
      · have c_45 : (nI (oneN (by2 f b0))) = 0 := of_decide_eq_true c_45
        have n_45 : oneN (by2 f b0) = 0 := (eq_nI (p := oneN (by2 f b0)) (n := 0) (Nat.lt_trans (le1_one _) (by decide)) (by decide)).mp c_45
        refine ps_st (S' := (61, [], [.int 0], M)) rfl rfl rfl ?_
        exact ps_ret rfl rfl (⟨congrArg (fun x => some (Value.int (nI x))) (show 0 = mflN f n E (by2 f fa) mj (by2 f b0) (by2 f (b0 + 2)) from by
            unfold mflN
            first | ((repeat first | rw [if_pos (by omega)] | rw [if_neg (by omega)]) <;> first | rfl | omega) | ((repeat' split) <;> first | rfl | (exfalso; omega) | omega)), rfl⟩)
      · have c_45 : ¬ ((nI (oneN (by2 f b0))) = 0) := of_decide_eq_false c_45
        have n_45 : ¬ (oneN (by2 f b0) = 0) := fun h9 => c_45 ((eq_nI (p := oneN (by2 f b0)) (n := 0) (Nat.lt_trans (le1_one _) (by decide)) (by decide)).mpr h9)
        refine ps_st (S' := (49, [(2, .int 1400), (0, .ref o), (1, .ref a)], [.ref a], M)) rfl rfl rfl ?_
        refine ps_st (S' := (50, [(2, .int 1400), (0, .ref o), (1, .ref a)], [.int 1400, .ref a], M)) rfl rfl rfl ?_
        refine pl_call (a := [.ref a, .int 1400]) (rest := []) rfl rfl rfl (dk_mhas (f := f) (a := a) (b0 := b0) (kn := kn) (co := co) (ap := ap) (ex := ex) (cd := cd) (x := 1400) h_a) (fun v34 M35 q36 => ?_)
        obtain ⟨rfl, rfl⟩ := q36
        show pl _ _ _ (53, [(2, .int 1400), (0, .ref o), (1, .ref a)], [.int (nI (hasN (by2 f b0) 1400))], M) _
        refine ps_if (S1 := (60, [], [], M)) (S2 := (56, [(2, .int 1400), (0, .ref o), (1, .ref a)], [], M)) rfl rfl rfl (fun c_53 => ?_) (fun c_53 => ?_)
        · have c_53 : ¬ (nI (hasN (by2 f b0) 1400)) = 0 := of_decide_eq_true c_53
          have n_53 : ¬ (hasN (by2 f b0) 1400 = 0) := fun h9 => c_53 ((eq_nI (p := hasN (by2 f b0) 1400) (n := 0) (Nat.lt_trans (le1_has _ _) (by decide)) (by decide)).mpr h9)
          refine ps_st (S' := (61, [], [.int 0], M)) rfl rfl rfl ?_
          exact ps_ret rfl rfl (⟨congrArg (fun x => some (Value.int (nI x))) (show 0 = mflN f n E (by2 f fa) mj (by2 f b0) (by2 f (b0 + 2)) from by
              unfold mflN
              first | ((repeat first | rw [if_pos (by omega)] | rw [if_neg (by omega)]) <;> first | rfl | omega) | ((repeat' split) <;> first | rfl | (exfalso; omega) | omega)), rfl⟩)
        · have c_53 : ¬ (¬ (nI (hasN (by2 f b0) 1400)) = 0) := of_decide_eq_false c_53
          have n_53 : hasN (by2 f b0) 1400 = 0 := (eq_nI (p := hasN (by2 f b0) 1400) (n := 0) (Nat.lt_trans (le1_has _ _) (by decide)) (by decide)).mp (Decidable.not_not.mp c_53)
          refine ps_st (S' := (57, [(2, .int 1400), (0, .ref o), (1, .ref a)], [.int 1], M)) rfl rfl rfl ?_
          refine ps_st (S' := (61, [], [.int 1], M)) rfl rfl rfl ?_
          exact ps_ret rfl rfl (⟨congrArg (fun x => some (Value.int (nI x))) (show 1 = mflN f n E (by2 f fa) mj (by2 f b0) (by2 f (b0 + 2)) from by
              unfold mflN
              first | ((repeat first | rw [if_pos (by omega)] | rw [if_neg (by omega)]) <;> first | rfl | omega) | ((repeat' split) <;> first | rfl | (exfalso; omega) | omega)), rfl⟩)
  · have c_13 : ¬ ((nI (eqN (tX f n E (by2 f (b0 + 2))) (ltx 13))) = 0) := of_decide_eq_false c_13
    have n_13 : ¬ (eqN (tX f n E (by2 f (b0 + 2))) (ltx 13) = 0) := fun h9 => c_13 ((eq_nI (p := eqN (tX f n E (by2 f (b0 + 2))) (ltx 13)) (n := 0) (Nat.lt_trans (le1_eq _ _) (by decide)) (by decide)).mpr h9)
    refine ps_st (S' := (17, [(0, .ref o), (1, .ref a)], [.int 1], M)) rfl rfl rfl ?_
    exact ps_ret rfl rfl (⟨congrArg (fun x => some (Value.int (nI x))) (show 1 = mflN f n E (by2 f fa) mj (by2 f b0) (by2 f (b0 + 2)) from by
        unfold mflN
        first | ((repeat first | rw [if_pos (by omega)] | rw [if_neg (by omega)]) <;> first | rfl | omega) | ((repeat' split) <;> first | rfl | (exfalso; omega) | omega)), rfl⟩)
set_option maxHeartbeats 1000000 in
theorem dk_methodDescriptorHolds {g : xe_G} {M : mi_H} {f : Nat → Int32} {n N q : Nat} {E : List (Nat × Nat)} {o c b da vd ac fr mr fa ic mj na pa : Nat} {mi ru wa k1 k2 k3 k4 k5 k6 k7 : Int32} {a b0 : Nat} {kn co ap ex : Int32} {cd : Value} {w : Nat} (h_o : M.1 o = some (ob 2 [.ref c, .ref b, .ref q, .ref vd, .ref ac])) (h_c : M.1 c = some (ob 3 [.ref b, .ref q, .int mi, .int (nI mj), .int (nI fa), .int (nI ic), .ref fr, .ref mr, .int (nI na), .int (nI pa), .int k1, .int k2, .int k3, .int k4, .int k5, .int k6, .int k7])) (h_b : M.1 b = some (ob 1 [.ref da])) (h_da : M.1 da = some (ar .byte n f)) (h_a : M.1 a = some (ob 6 [.int (nI b0), .int (nI (by2 f b0)), .int (nI (by2 f (b0 + 2))), .int (nI (by2 f (b0 + 4))), .int (nI (by2 f (b0 + 6))), .int (nI (b0 + 8)), .int kn, .int co, .int (nI w), .int ex, cd])) (hn : n ≤ 65540) (hmj : mj < 65536) (hfa : fa + 8 ≤ n) (hw : w < 100000) (hV : PV g f n N E q M) : pt (mT g) 63 [.ref o, .ref a] M (fun v M' => (v = some (.int (nI (mdsN f n E (by2 f (b0 + 2)) (by2 f (b0 + 4)) w))) ∧ M = M')) := by
  refine pt_in (b := mb_63 g) rfl (fun kf => ?_)
  show pl (mT g) kf (mb_63 g).2 (0, [(0, .ref o), (1, .ref a)], [], M) _
  have hu9 := by2_lt f b0
  have ha_x : ∀ m, aN (by2 f b0) m < 65536 := fun m => Nat.lt_of_le_of_lt Nat.and_le_left hu9
  refine ps_st (S' := (1, [(0, .ref o), (1, .ref a)], [.ref o], M)) rfl rfl rfl ?_
  refine ps_get (S' := (4, [(0, .ref o), (1, .ref a)], [.ref q], M)) rfl h_o rfl rfl ?_
  refine ps_st (S' := (5, [(0, .ref o), (1, .ref a)], [.ref a, .ref q], M)) rfl rfl rfl ?_
  refine ps_get (S' := (8, [(0, .ref o), (1, .ref a)], [.int (nI (by2 f (b0 + 4))), .ref q], M)) rfl h_a rfl rfl ?_
  refine pl_call (a := [.ref q, .int (nI (by2 f (b0 + 4)))]) (rest := []) rfl rfl rfl (dy_isMethodDescriptor (f := f) (n := n) (N := N) (q := q) (E := E) (j := (by2 f (b0 + 4))) (hV) (by2_lt _ _)) (fun v1 M2 q3 => ?_)
  obtain ⟨rfl, rfl⟩ := q3
  show pl _ _ _ (11, [(0, .ref o), (1, .ref a)], [.int (nI (mthN (tX f n E (by2 f (b0 + 4)))))], M) _
  refine ps_if (S1 := (24, [], [], M)) (S2 := (14, [(0, .ref o), (1, .ref a)], [], M)) rfl rfl rfl (fun c_11 => ?_) (fun c_11 => ?_)
  · have c_11 : (nI (mthN (tX f n E (by2 f (b0 + 4))))) = 0 := of_decide_eq_true c_11
    have n_11 : mthN (tX f n E (by2 f (b0 + 4))) = 0 := (eq_nI (p := mthN (tX f n E (by2 f (b0 + 4)))) (n := 0) (Nat.lt_trans (le1_mth _) (by decide)) (by decide)).mp c_11
    refine ps_st (S' := (25, [], [.int 0], M)) rfl rfl rfl ?_
    exact ps_ret rfl rfl (⟨congrArg (fun x => some (Value.int (nI x))) (show 0 = mdsN f n E (by2 f (b0 + 2)) (by2 f (b0 + 4)) w from by
        unfold mdsN
        first | ((repeat first | rw [if_pos (by omega)] | rw [if_neg (by omega)]) <;> first | rfl | omega) | ((repeat' split) <;> first | rfl | (exfalso; omega) | omega)), rfl⟩)
  · have c_11 : ¬ ((nI (mthN (tX f n E (by2 f (b0 + 4))))) = 0) := of_decide_eq_false c_11
    have n_11 : ¬ (mthN (tX f n E (by2 f (b0 + 4))) = 0) := fun h9 => c_11 ((eq_nI (p := mthN (tX f n E (by2 f (b0 + 4)))) (n := 0) (Nat.lt_trans (le1_mth _) (by decide)) (by decide)).mpr h9)
    refine ps_st (S' := (15, [(0, .ref o), (1, .ref a)], [.ref a], M)) rfl rfl rfl ?_
    refine ps_get (S' := (18, [(0, .ref o), (1, .ref a)], [.int (nI w)], M)) rfl h_a rfl rfl ?_
    refine ps_st (S' := (21, [(0, .ref o), (1, .ref a)], [.int 255, .int (nI w)], M)) rfl rfl rfl ?_
    refine ps_if2 (S1 := (26, [(0, .ref o), (1, .ref a)], [], M)) (S2 := (24, [], [], M)) rfl rfl rfl (fun c_21 => ?_) (fun c_21 => ?_)
    · have c_21 : (nI w) ≤ 255 := of_decide_eq_true c_21
      have n_21 : w ≤ 255 := (le_nI (p := w) (n := 255) (by omega) (by decide)).mp c_21
      refine ps_st (S' := (27, [(0, .ref o), (1, .ref a)], [.ref o], M)) rfl rfl rfl ?_
      refine ps_get (S' := (30, [(0, .ref o), (1, .ref a)], [.ref q], M)) rfl h_o rfl rfl ?_
      refine ps_st (S' := (31, [(0, .ref o), (1, .ref a)], [.ref a, .ref q], M)) rfl rfl rfl ?_
      refine ps_get (S' := (34, [(0, .ref o), (1, .ref a)], [.int (nI (by2 f (b0 + 2))), .ref q], M)) rfl h_a rfl rfl ?_
      refine ps_st (S' := (36, [(0, .ref o), (1, .ref a)], [.ref (g.2.1 12), .int (nI (by2 f (b0 + 2))), .ref q], M)) rfl rfl rfl ?_
      refine pl_call (a := [.ref q, .int (nI (by2 f (b0 + 2))), .ref (g.2.1 12)]) (rest := []) rfl rfl rfl (dy_textIs (f := f) (n := n) (N := N) (q := q) (E := E) (j := (by2 f (b0 + 2))) (k := 12) (hV) (by2_lt _ _) (by decide)) (fun v4 M5 q6 => ?_)
      obtain ⟨rfl, rfl⟩ := q6
      show pl _ _ _ (39, [(0, .ref o), (1, .ref a)], [.int (nI (eqN (tX f n E (by2 f (b0 + 2))) (ltx 12)))], M) _
      refine ps_if (S1 := (56, [], [], M)) (S2 := (42, [(0, .ref o), (1, .ref a)], [], M)) rfl rfl rfl (fun c_39 => ?_) (fun c_39 => ?_)
      · have c_39 : (nI (eqN (tX f n E (by2 f (b0 + 2))) (ltx 12))) = 0 := of_decide_eq_true c_39
        have n_39 : eqN (tX f n E (by2 f (b0 + 2))) (ltx 12) = 0 := (eq_nI (p := eqN (tX f n E (by2 f (b0 + 2))) (ltx 12)) (n := 0) (Nat.lt_trans (le1_eq _ _) (by decide)) (by decide)).mp c_39
        refine ps_st (S' := (57, [], [.int 1], M)) rfl rfl rfl ?_
        refine ps_st (S' := (61, [], [.int 1], M)) rfl rfl rfl ?_
        exact ps_ret rfl rfl (⟨congrArg (fun x => some (Value.int (nI x))) (show 1 = mdsN f n E (by2 f (b0 + 2)) (by2 f (b0 + 4)) w from by
            unfold mdsN
            first | ((repeat first | rw [if_pos (by omega)] | rw [if_neg (by omega)]) <;> first | rfl | omega) | ((repeat' split) <;> first | rfl | (exfalso; omega) | omega)), rfl⟩)
      · have c_39 : ¬ ((nI (eqN (tX f n E (by2 f (b0 + 2))) (ltx 12))) = 0) := of_decide_eq_false c_39
        have n_39 : ¬ (eqN (tX f n E (by2 f (b0 + 2))) (ltx 12) = 0) := fun h9 => c_39 ((eq_nI (p := eqN (tX f n E (by2 f (b0 + 2))) (ltx 12)) (n := 0) (Nat.lt_trans (le1_eq _ _) (by decide)) (by decide)).mpr h9)
        refine ps_st (S' := (43, [(0, .ref o), (1, .ref a)], [.ref o], M)) rfl rfl rfl ?_
        refine ps_get (S' := (46, [(0, .ref o), (1, .ref a)], [.ref q], M)) rfl h_o rfl rfl ?_
        refine ps_st (S' := (47, [(0, .ref o), (1, .ref a)], [.ref a, .ref q], M)) rfl rfl rfl ?_
        refine ps_get (S' := (50, [(0, .ref o), (1, .ref a)], [.int (nI (by2 f (b0 + 4))), .ref q], M)) rfl h_a rfl rfl ?_
        refine pl_call (a := [.ref q, .int (nI (by2 f (b0 + 4)))]) (rest := []) rfl rfl rfl (dy_hasNoResult (f := f) (n := n) (N := N) (q := q) (E := E) (j := (by2 f (b0 + 4))) (hV) (by2_lt _ _)) (fun v7 M8 q9 => ?_)
        obtain ⟨rfl, rfl⟩ := q9
        show pl _ _ _ (53, [(0, .ref o), (1, .ref a)], [.int (nI (nresN (tX f n E (by2 f (b0 + 4)))))], M) _
        refine ps_if (S1 := (60, [(0, .ref o), (1, .ref a)], [], M)) (S2 := (56, [], [], M)) rfl rfl rfl (fun c_53 => ?_) (fun c_53 => ?_)
        · have c_53 : (nI (nresN (tX f n E (by2 f (b0 + 4))))) = 0 := of_decide_eq_true c_53
          have n_53 : nresN (tX f n E (by2 f (b0 + 4))) = 0 := (eq_nI (p := nresN (tX f n E (by2 f (b0 + 4)))) (n := 0) (Nat.lt_trans (le1_nres _) (by decide)) (by decide)).mp c_53
          refine ps_st (S' := (61, [], [.int 0], M)) rfl rfl rfl ?_
          exact ps_ret rfl rfl (⟨congrArg (fun x => some (Value.int (nI x))) (show 0 = mdsN f n E (by2 f (b0 + 2)) (by2 f (b0 + 4)) w from by
              unfold mdsN
              first | ((repeat first | rw [if_pos (by omega)] | rw [if_neg (by omega)]) <;> first | rfl | omega) | ((repeat' split) <;> first | rfl | (exfalso; omega) | omega)), rfl⟩)
        · have c_53 : ¬ ((nI (nresN (tX f n E (by2 f (b0 + 4))))) = 0) := of_decide_eq_false c_53
          have n_53 : ¬ (nresN (tX f n E (by2 f (b0 + 4))) = 0) := fun h9 => c_53 ((eq_nI (p := nresN (tX f n E (by2 f (b0 + 4)))) (n := 0) (Nat.lt_trans (le1_nres _) (by decide)) (by decide)).mpr h9)
          refine ps_st (S' := (57, [], [.int 1], M)) rfl rfl rfl ?_
          refine ps_st (S' := (61, [], [.int 1], M)) rfl rfl rfl ?_
          exact ps_ret rfl rfl (⟨congrArg (fun x => some (Value.int (nI x))) (show 1 = mdsN f n E (by2 f (b0 + 2)) (by2 f (b0 + 4)) w from by
              unfold mdsN
              first | ((repeat first | rw [if_pos (by omega)] | rw [if_neg (by omega)]) <;> first | rfl | omega) | ((repeat' split) <;> first | rfl | (exfalso; omega) | omega)), rfl⟩)
    · have c_21 : ¬ ((nI w) ≤ 255) := of_decide_eq_false c_21
      have n_21 : ¬ (w ≤ 255) := fun h9 => c_21 ((le_nI (p := w) (n := 255) (by omega) (by decide)).mpr h9)
      refine ps_st (S' := (25, [], [.int 0], M)) rfl rfl rfl ?_
      exact ps_ret rfl rfl (⟨congrArg (fun x => some (Value.int (nI x))) (show 0 = mdsN f n E (by2 f (b0 + 2)) (by2 f (b0 + 4)) w from by
          unfold mdsN
          first | ((repeat first | rw [if_pos (by omega)] | rw [if_neg (by omega)]) <;> first | rfl | omega) | ((repeat' split) <;> first | rfl | (exfalso; omega) | omega)), rfl⟩)
set_option maxHeartbeats 1000000 in
theorem dk_fieldHolds {g : xe_G} {M : mi_H} {f : Nat → Int32} {n N q : Nat} {E : List (Nat × Nat)} {o c b da vd ac mr fa ic mj na pa : Nat} {mi ru wa k1 k2 k3 k4 k5 k6 k7 : Int32} {a b0 : Nat} {kn co ap ex : Int32} {cd : Value} {B : List Nat} {G : Nat → Nat} {mm kk i0 : Nat} (h_o : M.1 o = some (ob 2 [.ref c, .ref b, .ref q, .ref vd, .ref ac])) (h_c : M.1 c = some (ob 3 [.ref b, .ref q, .int mi, .int (nI mj), .int (nI fa), .int (nI ic), .ref mm, .ref mr, .int (nI na), .int (nI pa), .int k1, .int k2, .int k3, .int k4, .int k5, .int k6, .int k7])) (h_b : M.1 b = some (ob 1 [.ref da])) (h_da : M.1 da = some (ar .byte n f)) (h_vd : M.1 vd = some (ob 10 [.int ru, .int wa])) (h_a : M.1 a = some (ob 6 [.int (nI b0), .int (nI (by2 f b0)), .int (nI (by2 f (b0 + 2))), .int (nI (by2 f (b0 + 4))), .int (nI (by2 f (b0 + 6))), .int (nI (b0 + 8)), .int kn, .int co, .int ap, .int ex, cd])) (hn : n ≤ 65540) (hmj : mj < 65536) (hfa : fa + 8 ≤ n) (hA : G i0 = a ∧ i0 < B.length ∧ i0 < kk) (hb0 : b0 = B.getD i0 0) (hB9 : B.length < 65536) (hb1 : b0 + 8 ≤ n) (hV : PV g f n N E q M) (hM : MV f B mm G kk M) : pt (mT g) 56 [.ref o, .ref a, .int (nI i0)] M (fun v M' => ((fhS f n E (by2 f fa) B i0 b0 = none) ∧ v = some (.int 1) ∧ M'.1 vd = some (ob 10 [.int ru, .int wa]) ∧ fm [vd] M M') ∨ (∃ (e : Nat × Nat), (fhS f n E (by2 f fa) B i0 b0 = some e) ∧ v = some (.int 0) ∧ M'.1 vd = some (ob 10 [.int (nI e.1), .int (nI e.2)]) ∧ fm [vd] M M')) := by
  refine pt_in (b := mb_56 g) rfl (fun kf => ?_)
  show pl (mT g) kf (mb_56 g).2 (0, [(0, .ref o), (1, .ref a), (2, .int (nI i0))], [], M) _
  have hF : fm [vd] M M := fm.rf
  have hu9 := by2_lt f b0
  refine ps_st (S' := (1, [(0, .ref o), (1, .ref a), (2, .int (nI i0))], [.ref o], M)) rfl rfl rfl ?_
  refine ps_st (S' := (2, [(0, .ref o), (1, .ref a), (2, .int (nI i0))], [.ref a, .ref o], M)) rfl rfl rfl ?_
  refine ps_get (S' := (5, [(0, .ref o), (1, .ref a), (2, .int (nI i0))], [.int (nI (by2 f b0)), .ref o], M)) rfl h_a rfl rfl ?_
  refine pl_call (a := [.ref o, .int (nI (by2 f b0))]) (rest := []) rfl rfl rfl (dk_fieldFlagsHold (f := f) (n := n) (N := N) (q := q) (E := E) (o := o) (c := c) (b := b) (da := da) (vd := vd) (ac := ac) (fr := mm) (mr := mr) (fa := fa) (ic := ic) (mj := mj) (na := na) (pa := pa) (mi := mi) (ru := ru) (wa := wa) (k1 := k1) (k2 := k2) (k3 := k3) (k4 := k4) (k5 := k5) (k6 := k6) (k7 := k7) (x := (by2 f b0)) h_o h_c h_b h_da (hn) (hmj) (hfa) (by2_lt _ _)) (fun v1 M2 q3 => ?_)
  obtain ⟨rfl, rfl⟩ := q3
  show pl _ _ _ (8, [(0, .ref o), (1, .ref a), (2, .int (nI i0))], [.int (nI (fflN (by2 f fa) (by2 f b0)))], M) _
  refine ps_if (S1 := (25, [(0, .ref o), (1, .ref a), (2, .int (nI i0))], [], M)) (S2 := (11, [(0, .ref o), (1, .ref a), (2, .int (nI i0))], [], M)) rfl rfl rfl (fun c_8 => ?_) (fun c_8 => ?_)
  · have c_8 : ¬ (nI (fflN (by2 f fa) (by2 f b0))) = 0 := of_decide_eq_true c_8
    have n_8 : ¬ (fflN (by2 f fa) (by2 f b0) = 0) := fun h9 => c_8 ((eq_nI (p := fflN (by2 f fa) (by2 f b0)) (n := 0) (Nat.lt_trans (le1_ffl _ _) (by decide)) (by decide)).mpr h9)
    refine ps_st (S' := (26, [(0, .ref o), (1, .ref a), (2, .int (nI i0))], [.ref o], M)) rfl rfl rfl ?_
    refine ps_get (S' := (29, [(0, .ref o), (1, .ref a), (2, .int (nI i0))], [.ref q], M)) rfl h_o rfl rfl ?_
    refine ps_st (S' := (30, [(0, .ref o), (1, .ref a), (2, .int (nI i0))], [.ref a, .ref q], M)) rfl rfl rfl ?_
    refine ps_get (S' := (33, [(0, .ref o), (1, .ref a), (2, .int (nI i0))], [.int (nI (by2 f (b0 + 2))), .ref q], M)) rfl h_a rfl rfl ?_
    refine pl_call (a := [.ref q, .int (nI (by2 f (b0 + 2)))]) (rest := []) rfl rfl rfl (dy_isUnqualifiedName (f := f) (n := n) (N := N) (q := q) (E := E) (j := (by2 f (b0 + 2))) (hV) (by2_lt _ _)) (fun v4 M5 q6 => ?_)
    obtain ⟨rfl, rfl⟩ := q6
    show pl _ _ _ (36, [(0, .ref o), (1, .ref a), (2, .int (nI i0))], [.int (nI (unqN (tX f n E (by2 f (b0 + 2)))))], M) _
    refine ps_if (S1 := (55, [(0, .ref o), (1, .ref a), (2, .int (nI i0))], [], M)) (S2 := (39, [(0, .ref o), (1, .ref a), (2, .int (nI i0))], [], M)) rfl rfl rfl (fun c_36 => ?_) (fun c_36 => ?_)
    · have c_36 : ¬ (nI (unqN (tX f n E (by2 f (b0 + 2))))) = 0 := of_decide_eq_true c_36
      have n_36 : ¬ (unqN (tX f n E (by2 f (b0 + 2))) = 0) := fun h9 => c_36 ((eq_nI (p := unqN (tX f n E (by2 f (b0 + 2)))) (n := 0) (Nat.lt_trans (le1_unq _) (by decide)) (by decide)).mpr h9)
      refine ps_st (S' := (56, [(0, .ref o), (1, .ref a), (2, .int (nI i0))], [.ref o], M)) rfl rfl rfl ?_
      refine ps_get (S' := (59, [(0, .ref o), (1, .ref a), (2, .int (nI i0))], [.ref q], M)) rfl h_o rfl rfl ?_
      refine ps_st (S' := (60, [(0, .ref o), (1, .ref a), (2, .int (nI i0))], [.ref a, .ref q], M)) rfl rfl rfl ?_
      refine ps_get (S' := (63, [(0, .ref o), (1, .ref a), (2, .int (nI i0))], [.int (nI (by2 f (b0 + 4))), .ref q], M)) rfl h_a rfl rfl ?_
      refine pl_call (a := [.ref q, .int (nI (by2 f (b0 + 4)))]) (rest := []) rfl rfl rfl (dy_isFieldDescriptor (f := f) (n := n) (N := N) (q := q) (E := E) (j := (by2 f (b0 + 4))) (hV) (by2_lt _ _)) (fun v7 M8 q9 => ?_)
      obtain ⟨rfl, rfl⟩ := q9
      show pl _ _ _ (66, [(0, .ref o), (1, .ref a), (2, .int (nI i0))], [.int (nI (fldN (tX f n E (by2 f (b0 + 4)))))], M) _
      refine ps_if (S1 := (85, [(0, .ref o), (1, .ref a), (2, .int (nI i0))], [], M)) (S2 := (69, [(0, .ref o), (1, .ref a), (2, .int (nI i0))], [], M)) rfl rfl rfl (fun c_66 => ?_) (fun c_66 => ?_)
      · have c_66 : ¬ (nI (fldN (tX f n E (by2 f (b0 + 4))))) = 0 := of_decide_eq_true c_66
        have n_66 : ¬ (fldN (tX f n E (by2 f (b0 + 4))) = 0) := fun h9 => c_66 ((eq_nI (p := fldN (tX f n E (by2 f (b0 + 4)))) (n := 0) (Nat.lt_trans (le1_fld _) (by decide)) (by decide)).mpr h9)
        refine ps_st (S' := (86, [(0, .ref o), (1, .ref a), (2, .int (nI i0))], [.ref o], M)) rfl rfl rfl ?_
        refine ps_get (S' := (89, [(0, .ref o), (1, .ref a), (2, .int (nI i0))], [.ref q], M)) rfl h_o rfl rfl ?_
        refine ps_st (S' := (90, [(0, .ref o), (1, .ref a), (2, .int (nI i0))], [.ref o, .ref q], M)) rfl rfl rfl ?_
        refine ps_get (S' := (93, [(0, .ref o), (1, .ref a), (2, .int (nI i0))], [.ref c, .ref q], M)) rfl h_o rfl rfl ?_
        refine ps_get (S' := (96, [(0, .ref o), (1, .ref a), (2, .int (nI i0))], [.ref mm, .ref q], M)) rfl h_c rfl rfl ?_
        refine ps_st (S' := (97, [(0, .ref o), (1, .ref a), (2, .int (nI i0))], [.int (nI i0), .ref mm, .ref q], M)) rfl rfl rfl ?_
        refine ps_st (S' := (98, [(0, .ref o), (1, .ref a), (2, .int (nI i0))], [.ref a, .int (nI i0), .ref mm, .ref q], M)) rfl rfl rfl ?_
        refine ps_get (S' := (101, [(0, .ref o), (1, .ref a), (2, .int (nI i0))], [.int (nI (by2 f (b0 + 2))), .int (nI i0), .ref mm, .ref q], M)) rfl h_a rfl rfl ?_
        refine ps_st (S' := (102, [(0, .ref o), (1, .ref a), (2, .int (nI i0))], [.ref a, .int (nI (by2 f (b0 + 2))), .int (nI i0), .ref mm, .ref q], M)) rfl rfl rfl ?_
        refine ps_get (S' := (105, [(0, .ref o), (1, .ref a), (2, .int (nI i0))], [.int (nI (by2 f (b0 + 4))), .int (nI (by2 f (b0 + 2))), .int (nI i0), .ref mm, .ref q], M)) rfl h_a rfl rfl ?_
        refine pl_call (a := [.ref q, .ref mm, .int (nI i0), .int (nI (by2 f (b0 + 2))), .int (nI (by2 f (b0 + 4)))]) (rest := []) rfl rfl rfl (dk_sameMember (f := f) (n := n) (N := N) (q := q) (E := E) (B := B) (G := G) (mm := mm) (kk := kk) (c0 := i0) (x := (by2 f (b0 + 2))) (y := (by2 f (b0 + 4))) (hV) (hM) (by omega) (by2_lt _ _) (by2_lt _ _)) (fun v10 M11 q12 => ?_)
        rcases q12 with q12 | q12
        · skip
          obtain ⟨q105_s, rfl, rfl⟩ := q12
          show pl _ _ _ (108, [(0, .ref o), (1, .ref a), (2, .int (nI i0))], [.int (-1)], M) _
          refine ps_if (S1 := (125, [(0, .ref o), (1, .ref a), (2, .int (nI i0))], [], M)) (S2 := (111, [(0, .ref o), (1, .ref a), (2, .int (nI i0))], [], M)) rfl rfl rfl (fun c_108 => ?_) (fun c_108 => ?_)
          rotate_left
          · exact absurd (by decide) (of_decide_eq_false c_108)
          refine ps_st (S' := (126, [(0, .ref o), (1, .ref a), (2, .int (nI i0))], [.int 1], M)) rfl rfl rfl ?_
          exact ps_ret rfl rfl (Or.inl ⟨by
              unfold fhS
              rw [q105_s]
              repeat' split
              all_goals first | rfl | (exfalso; omega) | (exfalso; simp_all; done), rfl, h_vd, hF⟩)
        · skip
          obtain ⟨k13, q105_s, q105_k, rfl, rfl⟩ := q12
          show pl _ _ _ (108, [(0, .ref o), (1, .ref a), (2, .int (nI i0))], [.int (nI k13)], M) _
          refine ps_if (S1 := (125, [(0, .ref o), (1, .ref a), (2, .int (nI i0))], [], M)) (S2 := (111, [(0, .ref o), (1, .ref a), (2, .int (nI i0))], [], M)) rfl rfl rfl (fun c_108 => ?_) (fun c_108 => ?_)
          · exact absurd (of_decide_eq_true c_108) (nI_n0 (by omega))
          refine ps_st (S' := (112, [(0, .ref o), (1, .ref a), (2, .int (nI i0))], [.ref o], M)) rfl rfl rfl ?_
          refine ps_get (S' := (115, [(0, .ref o), (1, .ref a), (2, .int (nI i0))], [.ref vd], M)) rfl h_o rfl rfl ?_
          refine ps_st (S' := (117, [(0, .ref o), (1, .ref a), (2, .int (nI i0))], [.int 22, .ref vd], M)) rfl rfl rfl ?_
          refine ps_st (S' := (118, [(0, .ref o), (1, .ref a), (2, .int (nI i0))], [.ref a, .int 22, .ref vd], M)) rfl rfl rfl ?_
          refine ps_get (S' := (121, [(0, .ref o), (1, .ref a), (2, .int (nI i0))], [.int (nI b0), .int 22, .ref vd], M)) rfl h_a rfl rfl ?_
          refine pl_call (a := [.ref vd, .int 22, .int (nI b0)]) (rest := []) rfl rfl rfl (dk_wrong (vd := vd) (ru := ru) (wa := wa) (x1 := 22) (x2 := (nI b0)) h_vd) (fun v14 M15 q16 => ?_)
          obtain ⟨rfl, h17, f18⟩ := q16
          have h20 := (f18.1 o (nin1 (ob_ne h_o h_vd (by decide)))).trans h_o
          have h21 := (f18.1 c (nin1 (ob_ne h_c h_vd (by decide)))).trans h_c
          have h22 := (f18.1 b (nin1 (ob_ne h_b h_vd (by decide)))).trans h_b
          have h23 := (f18.1 da (nin1 (Ne.symm (ob_ar h_vd h_da)))).trans h_da
          have h24 := (f18.1 a (nin1 (ob_ne h_a h_vd (by decide)))).trans h_a
          have hF25 := hF.tr f18 (by simp)
          have hV26 := hV.keep f18.gm (n7c h_vd (by decide) (n7nil))
          have hV27 := hM.keep f18.gm (n6o h_vd (by decide) (n6on))
          show pl _ _ _ (124, [(0, .ref o), (1, .ref a), (2, .int (nI i0))], [.int 0], M15) _
          exact ps_ret rfl rfl (Or.inr ⟨(22, b0), by
              unfold fhS
              rw [q105_s]
              repeat' split
              all_goals first | rfl | (exfalso; omega) | (exfalso; simp_all; done), rfl, h17, hF25⟩)
      · have c_66 : ¬ (¬ (nI (fldN (tX f n E (by2 f (b0 + 4))))) = 0) := of_decide_eq_false c_66
        have n_66 : fldN (tX f n E (by2 f (b0 + 4))) = 0 := (eq_nI (p := fldN (tX f n E (by2 f (b0 + 4)))) (n := 0) (Nat.lt_trans (le1_fld _) (by decide)) (by decide)).mp (Decidable.not_not.mp c_66)
        refine ps_st (S' := (70, [(0, .ref o), (1, .ref a), (2, .int (nI i0))], [.ref o], M)) rfl rfl rfl ?_
        refine ps_get (S' := (73, [(0, .ref o), (1, .ref a), (2, .int (nI i0))], [.ref vd], M)) rfl h_o rfl rfl ?_
        refine ps_st (S' := (75, [(0, .ref o), (1, .ref a), (2, .int (nI i0))], [.int 21, .ref vd], M)) rfl rfl rfl ?_
        refine ps_st (S' := (76, [(0, .ref o), (1, .ref a), (2, .int (nI i0))], [.ref a, .int 21, .ref vd], M)) rfl rfl rfl ?_
        refine ps_get (S' := (79, [(0, .ref o), (1, .ref a), (2, .int (nI i0))], [.int (nI b0), .int 21, .ref vd], M)) rfl h_a rfl rfl ?_
        refine ps_st (S' := (80, [(0, .ref o), (1, .ref a), (2, .int (nI i0))], [.int 4, .int (nI b0), .int 21, .ref vd], M)) rfl rfl rfl ?_
        refine ps_st (S' := (81, [(0, .ref o), (1, .ref a), (2, .int (nI i0))], [.int ((nI b0) + 4), .int 21, .ref vd], M)) rfl rfl rfl ?_
        rw [nI_add1 (p := b0) (k := 4) (x := 4) rfl (by omega)]
        show pl _ _ _ (_, [(0, .ref o), (1, .ref a), (2, .int (nI i0))], [.int (nI (b0 + 4)), .int 21, .ref vd], M) _
        refine pl_call (a := [.ref vd, .int 21, .int (nI (b0 + 4))]) (rest := []) rfl rfl rfl (dk_wrong (vd := vd) (ru := ru) (wa := wa) (x1 := 21) (x2 := (nI (b0 + 4))) h_vd) (fun v28 M29 q30 => ?_)
        obtain ⟨rfl, h31, f32⟩ := q30
        have h34 := (f32.1 o (nin1 (ob_ne h_o h_vd (by decide)))).trans h_o
        have h35 := (f32.1 c (nin1 (ob_ne h_c h_vd (by decide)))).trans h_c
        have h36 := (f32.1 b (nin1 (ob_ne h_b h_vd (by decide)))).trans h_b
        have h37 := (f32.1 da (nin1 (Ne.symm (ob_ar h_vd h_da)))).trans h_da
        have h38 := (f32.1 a (nin1 (ob_ne h_a h_vd (by decide)))).trans h_a
        have hF39 := hF.tr f32 (by simp)
        have hV40 := hV.keep f32.gm (n7c h_vd (by decide) (n7nil))
        have hV41 := hM.keep f32.gm (n6o h_vd (by decide) (n6on))
        show pl _ _ _ (84, [(0, .ref o), (1, .ref a), (2, .int (nI i0))], [.int 0], M29) _
        exact ps_ret rfl rfl (Or.inr ⟨(21, b0 + 4), by
            unfold fhS
            repeat' split
            all_goals first | rfl | (exfalso; omega) | (exfalso; simp_all; done), rfl, h31, hF39⟩)
    · have c_36 : ¬ (¬ (nI (unqN (tX f n E (by2 f (b0 + 2))))) = 0) := of_decide_eq_false c_36
      have n_36 : unqN (tX f n E (by2 f (b0 + 2))) = 0 := (eq_nI (p := unqN (tX f n E (by2 f (b0 + 2)))) (n := 0) (Nat.lt_trans (le1_unq _) (by decide)) (by decide)).mp (Decidable.not_not.mp c_36)
      refine ps_st (S' := (40, [(0, .ref o), (1, .ref a), (2, .int (nI i0))], [.ref o], M)) rfl rfl rfl ?_
      refine ps_get (S' := (43, [(0, .ref o), (1, .ref a), (2, .int (nI i0))], [.ref vd], M)) rfl h_o rfl rfl ?_
      refine ps_st (S' := (45, [(0, .ref o), (1, .ref a), (2, .int (nI i0))], [.int 20, .ref vd], M)) rfl rfl rfl ?_
      refine ps_st (S' := (46, [(0, .ref o), (1, .ref a), (2, .int (nI i0))], [.ref a, .int 20, .ref vd], M)) rfl rfl rfl ?_
      refine ps_get (S' := (49, [(0, .ref o), (1, .ref a), (2, .int (nI i0))], [.int (nI b0), .int 20, .ref vd], M)) rfl h_a rfl rfl ?_
      refine ps_st (S' := (50, [(0, .ref o), (1, .ref a), (2, .int (nI i0))], [.int 2, .int (nI b0), .int 20, .ref vd], M)) rfl rfl rfl ?_
      refine ps_st (S' := (51, [(0, .ref o), (1, .ref a), (2, .int (nI i0))], [.int ((nI b0) + 2), .int 20, .ref vd], M)) rfl rfl rfl ?_
      rw [nI_add1 (p := b0) (k := 2) (x := 2) rfl (by omega)]
      show pl _ _ _ (_, [(0, .ref o), (1, .ref a), (2, .int (nI i0))], [.int (nI (b0 + 2)), .int 20, .ref vd], M) _
      refine pl_call (a := [.ref vd, .int 20, .int (nI (b0 + 2))]) (rest := []) rfl rfl rfl (dk_wrong (vd := vd) (ru := ru) (wa := wa) (x1 := 20) (x2 := (nI (b0 + 2))) h_vd) (fun v42 M43 q44 => ?_)
      obtain ⟨rfl, h45, f46⟩ := q44
      have h48 := (f46.1 o (nin1 (ob_ne h_o h_vd (by decide)))).trans h_o
      have h49 := (f46.1 c (nin1 (ob_ne h_c h_vd (by decide)))).trans h_c
      have h50 := (f46.1 b (nin1 (ob_ne h_b h_vd (by decide)))).trans h_b
      have h51 := (f46.1 da (nin1 (Ne.symm (ob_ar h_vd h_da)))).trans h_da
      have h52 := (f46.1 a (nin1 (ob_ne h_a h_vd (by decide)))).trans h_a
      have hF53 := hF.tr f46 (by simp)
      have hV54 := hV.keep f46.gm (n7c h_vd (by decide) (n7nil))
      have hV55 := hM.keep f46.gm (n6o h_vd (by decide) (n6on))
      show pl _ _ _ (54, [(0, .ref o), (1, .ref a), (2, .int (nI i0))], [.int 0], M43) _
      exact ps_ret rfl rfl (Or.inr ⟨(20, b0 + 2), by
          unfold fhS
          repeat' split
          all_goals first | rfl | (exfalso; omega) | (exfalso; simp_all; done), rfl, h45, hF53⟩)
  · have c_8 : ¬ (¬ (nI (fflN (by2 f fa) (by2 f b0))) = 0) := of_decide_eq_false c_8
    have n_8 : fflN (by2 f fa) (by2 f b0) = 0 := (eq_nI (p := fflN (by2 f fa) (by2 f b0)) (n := 0) (Nat.lt_trans (le1_ffl _ _) (by decide)) (by decide)).mp (Decidable.not_not.mp c_8)
    refine ps_st (S' := (12, [(0, .ref o), (1, .ref a), (2, .int (nI i0))], [.ref o], M)) rfl rfl rfl ?_
    refine ps_get (S' := (15, [(0, .ref o), (1, .ref a), (2, .int (nI i0))], [.ref vd], M)) rfl h_o rfl rfl ?_
    refine ps_st (S' := (17, [(0, .ref o), (1, .ref a), (2, .int (nI i0))], [.int 19, .ref vd], M)) rfl rfl rfl ?_
    refine ps_st (S' := (18, [(0, .ref o), (1, .ref a), (2, .int (nI i0))], [.ref a, .int 19, .ref vd], M)) rfl rfl rfl ?_
    refine ps_get (S' := (21, [(0, .ref o), (1, .ref a), (2, .int (nI i0))], [.int (nI b0), .int 19, .ref vd], M)) rfl h_a rfl rfl ?_
    refine pl_call (a := [.ref vd, .int 19, .int (nI b0)]) (rest := []) rfl rfl rfl (dk_wrong (vd := vd) (ru := ru) (wa := wa) (x1 := 19) (x2 := (nI b0)) h_vd) (fun v56 M57 q58 => ?_)
    obtain ⟨rfl, h59, f60⟩ := q58
    have h62 := (f60.1 o (nin1 (ob_ne h_o h_vd (by decide)))).trans h_o
    have h63 := (f60.1 c (nin1 (ob_ne h_c h_vd (by decide)))).trans h_c
    have h64 := (f60.1 b (nin1 (ob_ne h_b h_vd (by decide)))).trans h_b
    have h65 := (f60.1 da (nin1 (Ne.symm (ob_ar h_vd h_da)))).trans h_da
    have h66 := (f60.1 a (nin1 (ob_ne h_a h_vd (by decide)))).trans h_a
    have hF67 := hF.tr f60 (by simp)
    have hV68 := hV.keep f60.gm (n7c h_vd (by decide) (n7nil))
    have hV69 := hM.keep f60.gm (n6o h_vd (by decide) (n6on))
    show pl _ _ _ (24, [(0, .ref o), (1, .ref a), (2, .int (nI i0))], [.int 0], M57) _
    exact ps_ret rfl rfl (Or.inr ⟨(19, b0), by
        unfold fhS
        repeat' split
        all_goals first | rfl | (exfalso; omega) | (exfalso; simp_all; done), rfl, h59, hF67⟩)
set_option maxHeartbeats 1000000 in
theorem dk_methodHolds {g : xe_G} {M : mi_H} {f : Nat → Int32} {n N q : Nat} {E : List (Nat × Nat)} {o c b da vd ac fr fa ic mj na pa : Nat} {mi ru wa k1 k2 k3 k4 k5 k6 k7 : Int32} {a b0 : Nat} {kn co ap ex : Int32} {cd : Value} {B : List Nat} {G : Nat → Nat} {mm kk i0 : Nat} (h_o : M.1 o = some (ob 2 [.ref c, .ref b, .ref q, .ref vd, .ref ac])) (h_c : M.1 c = some (ob 3 [.ref b, .ref q, .int mi, .int (nI mj), .int (nI fa), .int (nI ic), .ref fr, .ref mm, .int (nI na), .int (nI pa), .int k1, .int k2, .int k3, .int k4, .int k5, .int k6, .int k7])) (h_b : M.1 b = some (ob 1 [.ref da])) (h_da : M.1 da = some (ar .byte n f)) (h_vd : M.1 vd = some (ob 10 [.int ru, .int wa])) (h_a : M.1 a = some (ob 6 [.int (nI b0), .int (nI (by2 f b0)), .int (nI (by2 f (b0 + 2))), .int (nI (by2 f (b0 + 4))), .int (nI (by2 f (b0 + 6))), .int (nI (b0 + 8)), .int kn, .int co, .int ap, .int ex, cd])) (hn : n ≤ 65540) (hmj : mj < 65536) (hfa : fa + 8 ≤ n) (hA : G i0 = a ∧ i0 < B.length ∧ i0 < kk) (hb0 : b0 = B.getD i0 0) (hB9 : B.length < 65536) (hb1 : b0 + 8 ≤ n) (hV : PV g f n N E q M) (hM : MV f B mm G kk M) : pt (mT g) 65 [.ref o, .ref a, .int (nI i0)] M (fun v M' => ((mhS f n E (by2 f fa) mj B i0 b0 = none) ∧ v = some (.int 1) ∧ M'.1 vd = some (ob 10 [.int ru, .int wa]) ∧ M'.1 a = some (ob 6 [.int (nI b0), .int (nI (by2 f b0)), .int (nI (by2 f (b0 + 2))), .int (nI (by2 f (b0 + 4))), .int (nI (by2 f (b0 + 6))), .int (nI (b0 + 8)), .int kn, .int co, .int (nI (apN f n E b0)), .int ex, cd]) ∧ fm [vd, a] M M') ∨ (∃ (e : Nat × Nat), (mhS f n E (by2 f fa) mj B i0 b0 = some e) ∧ v = some (.int 0) ∧ M'.1 vd = some (ob 10 [.int (nI e.1), .int (nI e.2)]) ∧ fm [vd, a] M M')) := by
  refine pt_in (b := mb_65 g) rfl (fun kf => ?_)
  show pl (mT g) kf (mb_65 g).2 (0, [(0, .ref o), (1, .ref a), (2, .int (nI i0))], [], M) _
  have hF : fm [vd, a] M M := fm.rf
  have hu9 := by2_lt f b0
  have hap := argN_lt (tX f n E (by2 f (b0 + 4)))
  have hap2 := apN_lt f n E b0
  refine ps_st (S' := (1, [(0, .ref o), (1, .ref a), (2, .int (nI i0))], [.ref o], M)) rfl rfl rfl ?_
  refine ps_st (S' := (2, [(0, .ref o), (1, .ref a), (2, .int (nI i0))], [.ref a, .ref o], M)) rfl rfl rfl ?_
  refine ps_get (S' := (5, [(0, .ref o), (1, .ref a), (2, .int (nI i0))], [.int (nI (by2 f (b0 + 2))), .ref o], M)) rfl h_a rfl rfl ?_
  refine pl_call (a := [.ref o, .int (nI (by2 f (b0 + 2)))]) (rest := []) rfl rfl rfl (dk_methodNameHolds (f := f) (n := n) (N := N) (q := q) (E := E) (o := o) (c := c) (b := b) (da := da) (vd := vd) (ac := ac) (fr := fr) (mr := mm) (fa := fa) (ic := ic) (mj := mj) (na := na) (pa := pa) (mi := mi) (ru := ru) (wa := wa) (k1 := k1) (k2 := k2) (k3 := k3) (k4 := k4) (k5 := k5) (k6 := k6) (k7 := k7) (x := (by2 f (b0 + 2))) h_o h_c h_b h_da (hn) (hmj) (hfa) (by2_lt _ _) (hV)) (fun v1 M2 q3 => ?_)
  obtain ⟨rfl, rfl⟩ := q3
  show pl _ _ _ (8, [(0, .ref o), (1, .ref a), (2, .int (nI i0))], [.int (nI (mnmN f n E (by2 f fa) (by2 f (b0 + 2))))], M) _
  refine ps_if (S1 := (27, [(0, .ref o), (1, .ref a), (2, .int (nI i0))], [], M)) (S2 := (11, [(0, .ref o), (1, .ref a), (2, .int (nI i0))], [], M)) rfl rfl rfl (fun c_8 => ?_) (fun c_8 => ?_)
  · have c_8 : ¬ (nI (mnmN f n E (by2 f fa) (by2 f (b0 + 2)))) = 0 := of_decide_eq_true c_8
    have n_8 : ¬ (mnmN f n E (by2 f fa) (by2 f (b0 + 2)) = 0) := fun h9 => c_8 ((eq_nI (p := mnmN f n E (by2 f fa) (by2 f (b0 + 2))) (n := 0) (Nat.lt_trans (le1_mnm _ _ _ _ _) (by decide)) (by decide)).mpr h9)
    refine ps_st (S' := (28, [(0, .ref o), (1, .ref a), (2, .int (nI i0))], [.ref o], M)) rfl rfl rfl ?_
    refine ps_st (S' := (29, [(0, .ref o), (1, .ref a), (2, .int (nI i0))], [.ref a, .ref o], M)) rfl rfl rfl ?_
    refine pl_call (a := [.ref o, .ref a]) (rest := []) rfl rfl rfl (dk_methodFlagsHold (f := f) (n := n) (N := N) (q := q) (E := E) (o := o) (c := c) (b := b) (da := da) (vd := vd) (ac := ac) (fr := fr) (mr := mm) (fa := fa) (ic := ic) (mj := mj) (na := na) (pa := pa) (mi := mi) (ru := ru) (wa := wa) (k1 := k1) (k2 := k2) (k3 := k3) (k4 := k4) (k5 := k5) (k6 := k6) (k7 := k7) (a := a) (b0 := b0) (kn := kn) (co := co) (ap := ap) (ex := ex) (cd := cd) h_o h_c h_b h_da h_a (hn) (hmj) (hfa) (hV)) (fun v4 M5 q6 => ?_)
    obtain ⟨rfl, rfl⟩ := q6
    show pl _ _ _ (32, [(0, .ref o), (1, .ref a), (2, .int (nI i0))], [.int (nI (mflN f n E (by2 f fa) mj (by2 f b0) (by2 f (b0 + 2))))], M) _
    refine ps_if (S1 := (49, [(0, .ref o), (1, .ref a), (2, .int (nI i0))], [], M)) (S2 := (35, [(0, .ref o), (1, .ref a), (2, .int (nI i0))], [], M)) rfl rfl rfl (fun c_32 => ?_) (fun c_32 => ?_)
    · have c_32 : ¬ (nI (mflN f n E (by2 f fa) mj (by2 f b0) (by2 f (b0 + 2)))) = 0 := of_decide_eq_true c_32
      have n_32 : ¬ (mflN f n E (by2 f fa) mj (by2 f b0) (by2 f (b0 + 2)) = 0) := fun h9 => c_32 ((eq_nI (p := mflN f n E (by2 f fa) mj (by2 f b0) (by2 f (b0 + 2))) (n := 0) (Nat.lt_trans (le1_mfl _ _ _ _ _ _ _) (by decide)) (by decide)).mpr h9)
      refine ps_st (S' := (50, [(0, .ref o), (1, .ref a), (2, .int (nI i0))], [.ref a], M)) rfl rfl rfl ?_
      refine ps_st (S' := (51, [(0, .ref o), (1, .ref a), (2, .int (nI i0))], [.ref o, .ref a], M)) rfl rfl rfl ?_
      refine ps_get (S' := (54, [(0, .ref o), (1, .ref a), (2, .int (nI i0))], [.ref q, .ref a], M)) rfl h_o rfl rfl ?_
      refine ps_st (S' := (55, [(0, .ref o), (1, .ref a), (2, .int (nI i0))], [.ref a, .ref q, .ref a], M)) rfl rfl rfl ?_
      refine ps_get (S' := (58, [(0, .ref o), (1, .ref a), (2, .int (nI i0))], [.int (nI (by2 f (b0 + 4))), .ref q, .ref a], M)) rfl h_a rfl rfl ?_
      refine pl_call (a := [.ref q, .int (nI (by2 f (b0 + 4)))]) (rest := [.ref a]) rfl rfl rfl (dy_argumentPlaces (f := f) (n := n) (N := N) (q := q) (E := E) (j := (by2 f (b0 + 4))) (hV) (by2_lt _ _)) (fun v7 M8 q9 => ?_)
      obtain ⟨rfl, rfl⟩ := q9
      show pl _ _ _ (61, [(0, .ref o), (1, .ref a), (2, .int (nI i0))], [.int (nI (argN (tX f n E (by2 f (b0 + 4))))), .ref a], M) _
      refine ps_st (S' := (62, [(0, .ref o), (1, .ref a), (2, .int (nI i0))], [.ref a, .int (nI (argN (tX f n E (by2 f (b0 + 4))))), .ref a], M)) rfl rfl rfl ?_
      refine ps_st (S' := (64, [(0, .ref o), (1, .ref a), (2, .int (nI i0))], [.int 8, .ref a, .int (nI (argN (tX f n E (by2 f (b0 + 4))))), .ref a], M)) rfl rfl rfl ?_
      refine pl_call (a := [.ref a, .int 8]) (rest := [.int (nI (argN (tX f n E (by2 f (b0 + 4))))), .ref a]) rfl rfl rfl (dk_mhas (f := f) (a := a) (b0 := b0) (kn := kn) (co := co) (ap := ap) (ex := ex) (cd := cd) (x := 8) h_a) (fun v10 M11 q12 => ?_)
      obtain ⟨rfl, rfl⟩ := q12
      show pl _ _ _ (67, [(0, .ref o), (1, .ref a), (2, .int (nI i0))], [.int (nI (hasN (by2 f b0) 8)), .int (nI (argN (tX f n E (by2 f (b0 + 4))))), .ref a], M) _
      refine ps_if (S1 := (74, [(0, .ref o), (1, .ref a), (2, .int (nI i0))], [.int (nI (argN (tX f n E (by2 f (b0 + 4))))), .ref a], M)) (S2 := (70, [(0, .ref o), (1, .ref a), (2, .int (nI i0))], [.int (nI (argN (tX f n E (by2 f (b0 + 4))))), .ref a], M)) rfl rfl rfl (fun c_67 => ?_) (fun c_67 => ?_)
      · have c_67 : (nI (hasN (by2 f b0) 8)) = 0 := of_decide_eq_true c_67
        have n_67 : hasN (by2 f b0) 8 = 0 := (eq_nI (p := hasN (by2 f b0) 8) (n := 0) (Nat.lt_trans (le1_has _ _) (by decide)) (by decide)).mp c_67
        refine ps_st (S' := (75, [(0, .ref o), (1, .ref a), (2, .int (nI i0))], [.int 1, .int (nI (argN (tX f n E (by2 f (b0 + 4))))), .ref a], M)) rfl rfl rfl ?_
        refine ps_st (S' := (76, [(0, .ref o), (1, .ref a), (2, .int (nI i0))], [.int ((nI (argN (tX f n E (by2 f (b0 + 4))))) + 1), .ref a], M)) rfl rfl rfl ?_
        rw [nI_add1 (p := argN (tX f n E (by2 f (b0 + 4)))) (k := 1) (x := 1) rfl (by omega)]
        show pl _ _ _ (_, [(0, .ref o), (1, .ref a), (2, .int (nI i0))], [.int (nI (argN (tX f n E (by2 f (b0 + 4))) + 1)), .ref a], M) _
        rw [show nI (argN (tX f n E (by2 f (b0 + 4))) + 1) = nI (apN f n E b0) from congrArg nI (by unfold apN; first | rw [if_pos (by omega)] | rw [if_neg (by omega)])]
        refine ps_put (l' := [.int (nI b0), .int (nI (by2 f b0)), .int (nI (by2 f (b0 + 2))), .int (nI (by2 f (b0 + 4))), .int (nI (by2 f (b0 + 6))), .int (nI (b0 + 8)), .int kn, .int co, .int (nI (apN f n E b0)), .int ex, cd]) rfl h_a rfl rfl (fun M13 h14 f15 z16 => ?_)
        have h17 := (f15 o (ob_ne h_o h_a (by decide))).trans h_o
        have h18 := (f15 c (ob_ne h_c h_a (by decide))).trans h_c
        have h19 := (f15 b (ob_ne h_b h_a (by decide))).trans h_b
        have h20 := (f15 da (Ne.symm (ob_ar h_a h_da))).trans h_da
        have h21 := (f15 vd (ob_ne h_vd h_a (by decide))).trans h_vd
        have hV22 := hV.put h_a (by decide) f15 z16
        have hV23 := hM.putA hA h14 f15 z16 hb0
        have hF24 := hF.up (by simp) f15 z16
        show pl _ _ _ (79, [(0, .ref o), (1, .ref a), (2, .int (nI i0))], [], M13) _
        refine ps_st (S' := (80, [(0, .ref o), (1, .ref a), (2, .int (nI i0))], [.ref o], M13)) rfl rfl rfl ?_
        refine ps_st (S' := (81, [(0, .ref o), (1, .ref a), (2, .int (nI i0))], [.ref a, .ref o], M13)) rfl rfl rfl ?_
        refine pl_call (a := [.ref o, .ref a]) (rest := []) rfl rfl rfl (dk_methodDescriptorHolds (f := f) (n := n) (N := N) (q := q) (E := E) (o := o) (c := c) (b := b) (da := da) (vd := vd) (ac := ac) (fr := fr) (mr := mm) (fa := fa) (ic := ic) (mj := mj) (na := na) (pa := pa) (mi := mi) (ru := ru) (wa := wa) (k1 := k1) (k2 := k2) (k3 := k3) (k4 := k4) (k5 := k5) (k6 := k6) (k7 := k7) (a := a) (b0 := b0) (kn := kn) (co := co) (ap := (nI (apN f n E b0))) (ex := ex) (cd := cd) (w := (apN f n E b0)) h17 h18 h19 h20 h14 (hn) (hmj) (hfa) (by omega) (hV22)) (fun v25 M26 q27 => ?_)
        obtain ⟨rfl, rfl⟩ := q27
        show pl _ _ _ (84, [(0, .ref o), (1, .ref a), (2, .int (nI i0))], [.int (nI (mdsN f n E (by2 f (b0 + 2)) (by2 f (b0 + 4)) (apN f n E b0)))], M13) _
        refine ps_if (S1 := (103, [(0, .ref o), (1, .ref a), (2, .int (nI i0))], [], M13)) (S2 := (87, [(0, .ref o), (1, .ref a), (2, .int (nI i0))], [], M13)) rfl rfl rfl (fun c_84 => ?_) (fun c_84 => ?_)
        · have c_84 : ¬ (nI (mdsN f n E (by2 f (b0 + 2)) (by2 f (b0 + 4)) (apN f n E b0))) = 0 := of_decide_eq_true c_84
          have n_84 : ¬ (mdsN f n E (by2 f (b0 + 2)) (by2 f (b0 + 4)) (apN f n E b0) = 0) := fun h9 => c_84 ((eq_nI (p := mdsN f n E (by2 f (b0 + 2)) (by2 f (b0 + 4)) (apN f n E b0)) (n := 0) (Nat.lt_trans (le1_mds _ _ _ _ _ _) (by decide)) (by decide)).mpr h9)
          refine ps_st (S' := (104, [(0, .ref o), (1, .ref a), (2, .int (nI i0))], [.ref o], M13)) rfl rfl rfl ?_
          refine ps_get (S' := (107, [(0, .ref o), (1, .ref a), (2, .int (nI i0))], [.ref q], M13)) rfl h17 rfl rfl ?_
          refine ps_st (S' := (108, [(0, .ref o), (1, .ref a), (2, .int (nI i0))], [.ref o, .ref q], M13)) rfl rfl rfl ?_
          refine ps_get (S' := (111, [(0, .ref o), (1, .ref a), (2, .int (nI i0))], [.ref c, .ref q], M13)) rfl h17 rfl rfl ?_
          refine ps_get (S' := (114, [(0, .ref o), (1, .ref a), (2, .int (nI i0))], [.ref mm, .ref q], M13)) rfl h18 rfl rfl ?_
          refine ps_st (S' := (115, [(0, .ref o), (1, .ref a), (2, .int (nI i0))], [.int (nI i0), .ref mm, .ref q], M13)) rfl rfl rfl ?_
          refine ps_st (S' := (116, [(0, .ref o), (1, .ref a), (2, .int (nI i0))], [.ref a, .int (nI i0), .ref mm, .ref q], M13)) rfl rfl rfl ?_
          refine ps_get (S' := (119, [(0, .ref o), (1, .ref a), (2, .int (nI i0))], [.int (nI (by2 f (b0 + 2))), .int (nI i0), .ref mm, .ref q], M13)) rfl h14 rfl rfl ?_
          refine ps_st (S' := (120, [(0, .ref o), (1, .ref a), (2, .int (nI i0))], [.ref a, .int (nI (by2 f (b0 + 2))), .int (nI i0), .ref mm, .ref q], M13)) rfl rfl rfl ?_
          refine ps_get (S' := (123, [(0, .ref o), (1, .ref a), (2, .int (nI i0))], [.int (nI (by2 f (b0 + 4))), .int (nI (by2 f (b0 + 2))), .int (nI i0), .ref mm, .ref q], M13)) rfl h14 rfl rfl ?_
          refine pl_call (a := [.ref q, .ref mm, .int (nI i0), .int (nI (by2 f (b0 + 2))), .int (nI (by2 f (b0 + 4)))]) (rest := []) rfl rfl rfl (dk_sameMember (f := f) (n := n) (N := N) (q := q) (E := E) (B := B) (G := G) (mm := mm) (kk := kk) (c0 := i0) (x := (by2 f (b0 + 2))) (y := (by2 f (b0 + 4))) (hV22) (hV23) (by omega) (by2_lt _ _) (by2_lt _ _)) (fun v28 M29 q30 => ?_)
          rcases q30 with q30 | q30
          · skip
            obtain ⟨q123_s, rfl, rfl⟩ := q30
            show pl _ _ _ (126, [(0, .ref o), (1, .ref a), (2, .int (nI i0))], [.int (-1)], M13) _
            refine ps_if (S1 := (143, [(0, .ref o), (1, .ref a), (2, .int (nI i0))], [], M13)) (S2 := (129, [(0, .ref o), (1, .ref a), (2, .int (nI i0))], [], M13)) rfl rfl rfl (fun c_126 => ?_) (fun c_126 => ?_)
            rotate_left
            · exact absurd (by decide) (of_decide_eq_false c_126)
            refine ps_st (S' := (144, [(0, .ref o), (1, .ref a), (2, .int (nI i0))], [.int 1], M13)) rfl rfl rfl ?_
            exact ps_ret rfl rfl (Or.inl ⟨by
                unfold mhS
                rw [q123_s]
                repeat' split
                all_goals first | rfl | (exfalso; omega) | (exfalso; simp_all; done), rfl, h21, h14, hF24⟩)
          · skip
            obtain ⟨k31, q123_s, q123_k, rfl, rfl⟩ := q30
            show pl _ _ _ (126, [(0, .ref o), (1, .ref a), (2, .int (nI i0))], [.int (nI k31)], M13) _
            refine ps_if (S1 := (143, [(0, .ref o), (1, .ref a), (2, .int (nI i0))], [], M13)) (S2 := (129, [(0, .ref o), (1, .ref a), (2, .int (nI i0))], [], M13)) rfl rfl rfl (fun c_126 => ?_) (fun c_126 => ?_)
            · exact absurd (of_decide_eq_true c_126) (nI_n0 (by omega))
            refine ps_st (S' := (130, [(0, .ref o), (1, .ref a), (2, .int (nI i0))], [.ref o], M13)) rfl rfl rfl ?_
            refine ps_get (S' := (133, [(0, .ref o), (1, .ref a), (2, .int (nI i0))], [.ref vd], M13)) rfl h17 rfl rfl ?_
            refine ps_st (S' := (135, [(0, .ref o), (1, .ref a), (2, .int (nI i0))], [.int 26, .ref vd], M13)) rfl rfl rfl ?_
            refine ps_st (S' := (136, [(0, .ref o), (1, .ref a), (2, .int (nI i0))], [.ref a, .int 26, .ref vd], M13)) rfl rfl rfl ?_
            refine ps_get (S' := (139, [(0, .ref o), (1, .ref a), (2, .int (nI i0))], [.int (nI b0), .int 26, .ref vd], M13)) rfl h14 rfl rfl ?_
            refine pl_call (a := [.ref vd, .int 26, .int (nI b0)]) (rest := []) rfl rfl rfl (dk_wrong (vd := vd) (ru := ru) (wa := wa) (x1 := 26) (x2 := (nI b0)) h21) (fun v32 M33 q34 => ?_)
            obtain ⟨rfl, h35, f36⟩ := q34
            have h38 := (f36.1 o (nin1 (ob_ne h17 h21 (by decide)))).trans h17
            have h39 := (f36.1 c (nin1 (ob_ne h18 h21 (by decide)))).trans h18
            have h40 := (f36.1 b (nin1 (ob_ne h19 h21 (by decide)))).trans h19
            have h41 := (f36.1 da (nin1 (Ne.symm (ob_ar h21 h20)))).trans h20
            have h42 := (f36.1 a (nin1 (ob_ne h14 h21 (by decide)))).trans h14
            have hF43 := hF24.tr f36 (by simp)
            have hV44 := hV22.keep f36.gm (n7c h21 (by decide) (n7nil))
            have hV45 := hV23.keep f36.gm (n6o h21 (by decide) (n6on))
            show pl _ _ _ (142, [(0, .ref o), (1, .ref a), (2, .int (nI i0))], [.int 0], M33) _
            exact ps_ret rfl rfl (Or.inr ⟨(26, b0), by
                unfold mhS
                rw [q123_s]
                repeat' split
                all_goals first | rfl | (exfalso; omega) | (exfalso; simp_all; done), rfl, h35, hF43⟩)
        · have c_84 : ¬ (¬ (nI (mdsN f n E (by2 f (b0 + 2)) (by2 f (b0 + 4)) (apN f n E b0))) = 0) := of_decide_eq_false c_84
          have n_84 : mdsN f n E (by2 f (b0 + 2)) (by2 f (b0 + 4)) (apN f n E b0) = 0 := (eq_nI (p := mdsN f n E (by2 f (b0 + 2)) (by2 f (b0 + 4)) (apN f n E b0)) (n := 0) (Nat.lt_trans (le1_mds _ _ _ _ _ _) (by decide)) (by decide)).mp (Decidable.not_not.mp c_84)
          refine ps_st (S' := (88, [(0, .ref o), (1, .ref a), (2, .int (nI i0))], [.ref o], M13)) rfl rfl rfl ?_
          refine ps_get (S' := (91, [(0, .ref o), (1, .ref a), (2, .int (nI i0))], [.ref vd], M13)) rfl h17 rfl rfl ?_
          refine ps_st (S' := (93, [(0, .ref o), (1, .ref a), (2, .int (nI i0))], [.int 25, .ref vd], M13)) rfl rfl rfl ?_
          refine ps_st (S' := (94, [(0, .ref o), (1, .ref a), (2, .int (nI i0))], [.ref a, .int 25, .ref vd], M13)) rfl rfl rfl ?_
          refine ps_get (S' := (97, [(0, .ref o), (1, .ref a), (2, .int (nI i0))], [.int (nI b0), .int 25, .ref vd], M13)) rfl h14 rfl rfl ?_
          refine ps_st (S' := (98, [(0, .ref o), (1, .ref a), (2, .int (nI i0))], [.int 4, .int (nI b0), .int 25, .ref vd], M13)) rfl rfl rfl ?_
          refine ps_st (S' := (99, [(0, .ref o), (1, .ref a), (2, .int (nI i0))], [.int ((nI b0) + 4), .int 25, .ref vd], M13)) rfl rfl rfl ?_
          rw [nI_add1 (p := b0) (k := 4) (x := 4) rfl (by omega)]
          show pl _ _ _ (_, [(0, .ref o), (1, .ref a), (2, .int (nI i0))], [.int (nI (b0 + 4)), .int 25, .ref vd], M13) _
          refine pl_call (a := [.ref vd, .int 25, .int (nI (b0 + 4))]) (rest := []) rfl rfl rfl (dk_wrong (vd := vd) (ru := ru) (wa := wa) (x1 := 25) (x2 := (nI (b0 + 4))) h21) (fun v46 M47 q48 => ?_)
          obtain ⟨rfl, h49, f50⟩ := q48
          have h52 := (f50.1 o (nin1 (ob_ne h17 h21 (by decide)))).trans h17
          have h53 := (f50.1 c (nin1 (ob_ne h18 h21 (by decide)))).trans h18
          have h54 := (f50.1 b (nin1 (ob_ne h19 h21 (by decide)))).trans h19
          have h55 := (f50.1 da (nin1 (Ne.symm (ob_ar h21 h20)))).trans h20
          have h56 := (f50.1 a (nin1 (ob_ne h14 h21 (by decide)))).trans h14
          have hF57 := hF24.tr f50 (by simp)
          have hV58 := hV22.keep f50.gm (n7c h21 (by decide) (n7nil))
          have hV59 := hV23.keep f50.gm (n6o h21 (by decide) (n6on))
          show pl _ _ _ (102, [(0, .ref o), (1, .ref a), (2, .int (nI i0))], [.int 0], M47) _
          exact ps_ret rfl rfl (Or.inr ⟨(25, b0 + 4), by
              unfold mhS
              repeat' split
              all_goals first | rfl | (exfalso; omega) | (exfalso; simp_all; done), rfl, h49, hF57⟩)
      · have c_67 : ¬ ((nI (hasN (by2 f b0) 8)) = 0) := of_decide_eq_false c_67
        have n_67 : ¬ (hasN (by2 f b0) 8 = 0) := fun h9 => c_67 ((eq_nI (p := hasN (by2 f b0) 8) (n := 0) (Nat.lt_trans (le1_has _ _) (by decide)) (by decide)).mpr h9)
        refine ps_st (S' := (71, [(0, .ref o), (1, .ref a), (2, .int (nI i0))], [.int 0, .int (nI (argN (tX f n E (by2 f (b0 + 4))))), .ref a], M)) rfl rfl rfl ?_
        refine ps_st (S' := (75, [(0, .ref o), (1, .ref a), (2, .int (nI i0))], [.int 0, .int (nI (argN (tX f n E (by2 f (b0 + 4))))), .ref a], M)) rfl rfl rfl ?_
        refine ps_st (S' := (76, [(0, .ref o), (1, .ref a), (2, .int (nI i0))], [.int ((nI (argN (tX f n E (by2 f (b0 + 4))))) + 0), .ref a], M)) rfl rfl rfl ?_
        rw [nI_add1 (p := argN (tX f n E (by2 f (b0 + 4)))) (k := 0) (x := 0) rfl (by omega)]
        show pl _ _ _ (_, [(0, .ref o), (1, .ref a), (2, .int (nI i0))], [.int (nI (argN (tX f n E (by2 f (b0 + 4))) + 0)), .ref a], M) _
        rw [show nI (argN (tX f n E (by2 f (b0 + 4))) + 0) = nI (apN f n E b0) from congrArg nI (by unfold apN; first | rw [if_pos (by omega)] | rw [if_neg (by omega)])]
        refine ps_put (l' := [.int (nI b0), .int (nI (by2 f b0)), .int (nI (by2 f (b0 + 2))), .int (nI (by2 f (b0 + 4))), .int (nI (by2 f (b0 + 6))), .int (nI (b0 + 8)), .int kn, .int co, .int (nI (apN f n E b0)), .int ex, cd]) rfl h_a rfl rfl (fun M60 h61 f62 z63 => ?_)
        have h64 := (f62 o (ob_ne h_o h_a (by decide))).trans h_o
        have h65 := (f62 c (ob_ne h_c h_a (by decide))).trans h_c
        have h66 := (f62 b (ob_ne h_b h_a (by decide))).trans h_b
        have h67 := (f62 da (Ne.symm (ob_ar h_a h_da))).trans h_da
        have h68 := (f62 vd (ob_ne h_vd h_a (by decide))).trans h_vd
        have hV69 := hV.put h_a (by decide) f62 z63
        have hV70 := hM.putA hA h61 f62 z63 hb0
        have hF71 := hF.up (by simp) f62 z63
        show pl _ _ _ (79, [(0, .ref o), (1, .ref a), (2, .int (nI i0))], [], M60) _
        refine ps_st (S' := (80, [(0, .ref o), (1, .ref a), (2, .int (nI i0))], [.ref o], M60)) rfl rfl rfl ?_
        refine ps_st (S' := (81, [(0, .ref o), (1, .ref a), (2, .int (nI i0))], [.ref a, .ref o], M60)) rfl rfl rfl ?_
        refine pl_call (a := [.ref o, .ref a]) (rest := []) rfl rfl rfl (dk_methodDescriptorHolds (f := f) (n := n) (N := N) (q := q) (E := E) (o := o) (c := c) (b := b) (da := da) (vd := vd) (ac := ac) (fr := fr) (mr := mm) (fa := fa) (ic := ic) (mj := mj) (na := na) (pa := pa) (mi := mi) (ru := ru) (wa := wa) (k1 := k1) (k2 := k2) (k3 := k3) (k4 := k4) (k5 := k5) (k6 := k6) (k7 := k7) (a := a) (b0 := b0) (kn := kn) (co := co) (ap := (nI (apN f n E b0))) (ex := ex) (cd := cd) (w := (apN f n E b0)) h64 h65 h66 h67 h61 (hn) (hmj) (hfa) (by omega) (hV69)) (fun v72 M73 q74 => ?_)
        obtain ⟨rfl, rfl⟩ := q74
        show pl _ _ _ (84, [(0, .ref o), (1, .ref a), (2, .int (nI i0))], [.int (nI (mdsN f n E (by2 f (b0 + 2)) (by2 f (b0 + 4)) (apN f n E b0)))], M60) _
        refine ps_if (S1 := (103, [(0, .ref o), (1, .ref a), (2, .int (nI i0))], [], M60)) (S2 := (87, [(0, .ref o), (1, .ref a), (2, .int (nI i0))], [], M60)) rfl rfl rfl (fun c_84 => ?_) (fun c_84 => ?_)
        · have c_84 : ¬ (nI (mdsN f n E (by2 f (b0 + 2)) (by2 f (b0 + 4)) (apN f n E b0))) = 0 := of_decide_eq_true c_84
          have n_84 : ¬ (mdsN f n E (by2 f (b0 + 2)) (by2 f (b0 + 4)) (apN f n E b0) = 0) := fun h9 => c_84 ((eq_nI (p := mdsN f n E (by2 f (b0 + 2)) (by2 f (b0 + 4)) (apN f n E b0)) (n := 0) (Nat.lt_trans (le1_mds _ _ _ _ _ _) (by decide)) (by decide)).mpr h9)
          refine ps_st (S' := (104, [(0, .ref o), (1, .ref a), (2, .int (nI i0))], [.ref o], M60)) rfl rfl rfl ?_
          refine ps_get (S' := (107, [(0, .ref o), (1, .ref a), (2, .int (nI i0))], [.ref q], M60)) rfl h64 rfl rfl ?_
          refine ps_st (S' := (108, [(0, .ref o), (1, .ref a), (2, .int (nI i0))], [.ref o, .ref q], M60)) rfl rfl rfl ?_
          refine ps_get (S' := (111, [(0, .ref o), (1, .ref a), (2, .int (nI i0))], [.ref c, .ref q], M60)) rfl h64 rfl rfl ?_
          refine ps_get (S' := (114, [(0, .ref o), (1, .ref a), (2, .int (nI i0))], [.ref mm, .ref q], M60)) rfl h65 rfl rfl ?_
          refine ps_st (S' := (115, [(0, .ref o), (1, .ref a), (2, .int (nI i0))], [.int (nI i0), .ref mm, .ref q], M60)) rfl rfl rfl ?_
          refine ps_st (S' := (116, [(0, .ref o), (1, .ref a), (2, .int (nI i0))], [.ref a, .int (nI i0), .ref mm, .ref q], M60)) rfl rfl rfl ?_
          refine ps_get (S' := (119, [(0, .ref o), (1, .ref a), (2, .int (nI i0))], [.int (nI (by2 f (b0 + 2))), .int (nI i0), .ref mm, .ref q], M60)) rfl h61 rfl rfl ?_
          refine ps_st (S' := (120, [(0, .ref o), (1, .ref a), (2, .int (nI i0))], [.ref a, .int (nI (by2 f (b0 + 2))), .int (nI i0), .ref mm, .ref q], M60)) rfl rfl rfl ?_
          refine ps_get (S' := (123, [(0, .ref o), (1, .ref a), (2, .int (nI i0))], [.int (nI (by2 f (b0 + 4))), .int (nI (by2 f (b0 + 2))), .int (nI i0), .ref mm, .ref q], M60)) rfl h61 rfl rfl ?_
          refine pl_call (a := [.ref q, .ref mm, .int (nI i0), .int (nI (by2 f (b0 + 2))), .int (nI (by2 f (b0 + 4)))]) (rest := []) rfl rfl rfl (dk_sameMember (f := f) (n := n) (N := N) (q := q) (E := E) (B := B) (G := G) (mm := mm) (kk := kk) (c0 := i0) (x := (by2 f (b0 + 2))) (y := (by2 f (b0 + 4))) (hV69) (hV70) (by omega) (by2_lt _ _) (by2_lt _ _)) (fun v75 M76 q77 => ?_)
          rcases q77 with q77 | q77
          · skip
            obtain ⟨q123_s, rfl, rfl⟩ := q77
            show pl _ _ _ (126, [(0, .ref o), (1, .ref a), (2, .int (nI i0))], [.int (-1)], M60) _
            refine ps_if (S1 := (143, [(0, .ref o), (1, .ref a), (2, .int (nI i0))], [], M60)) (S2 := (129, [(0, .ref o), (1, .ref a), (2, .int (nI i0))], [], M60)) rfl rfl rfl (fun c_126 => ?_) (fun c_126 => ?_)
            rotate_left
            · exact absurd (by decide) (of_decide_eq_false c_126)
            refine ps_st (S' := (144, [(0, .ref o), (1, .ref a), (2, .int (nI i0))], [.int 1], M60)) rfl rfl rfl ?_
            exact ps_ret rfl rfl (Or.inl ⟨by
                unfold mhS
                rw [q123_s]
                repeat' split
                all_goals first | rfl | (exfalso; omega) | (exfalso; simp_all; done), rfl, h68, h61, hF71⟩)
          · skip
            obtain ⟨k78, q123_s, q123_k, rfl, rfl⟩ := q77
            show pl _ _ _ (126, [(0, .ref o), (1, .ref a), (2, .int (nI i0))], [.int (nI k78)], M60) _
            refine ps_if (S1 := (143, [(0, .ref o), (1, .ref a), (2, .int (nI i0))], [], M60)) (S2 := (129, [(0, .ref o), (1, .ref a), (2, .int (nI i0))], [], M60)) rfl rfl rfl (fun c_126 => ?_) (fun c_126 => ?_)
            · exact absurd (of_decide_eq_true c_126) (nI_n0 (by omega))
            refine ps_st (S' := (130, [(0, .ref o), (1, .ref a), (2, .int (nI i0))], [.ref o], M60)) rfl rfl rfl ?_
            refine ps_get (S' := (133, [(0, .ref o), (1, .ref a), (2, .int (nI i0))], [.ref vd], M60)) rfl h64 rfl rfl ?_
            refine ps_st (S' := (135, [(0, .ref o), (1, .ref a), (2, .int (nI i0))], [.int 26, .ref vd], M60)) rfl rfl rfl ?_
            refine ps_st (S' := (136, [(0, .ref o), (1, .ref a), (2, .int (nI i0))], [.ref a, .int 26, .ref vd], M60)) rfl rfl rfl ?_
            refine ps_get (S' := (139, [(0, .ref o), (1, .ref a), (2, .int (nI i0))], [.int (nI b0), .int 26, .ref vd], M60)) rfl h61 rfl rfl ?_
            refine pl_call (a := [.ref vd, .int 26, .int (nI b0)]) (rest := []) rfl rfl rfl (dk_wrong (vd := vd) (ru := ru) (wa := wa) (x1 := 26) (x2 := (nI b0)) h68) (fun v79 M80 q81 => ?_)
            obtain ⟨rfl, h82, f83⟩ := q81
            have h85 := (f83.1 o (nin1 (ob_ne h64 h68 (by decide)))).trans h64
            have h86 := (f83.1 c (nin1 (ob_ne h65 h68 (by decide)))).trans h65
            have h87 := (f83.1 b (nin1 (ob_ne h66 h68 (by decide)))).trans h66
            have h88 := (f83.1 da (nin1 (Ne.symm (ob_ar h68 h67)))).trans h67
            have h89 := (f83.1 a (nin1 (ob_ne h61 h68 (by decide)))).trans h61
            have hF90 := hF71.tr f83 (by simp)
            have hV91 := hV69.keep f83.gm (n7c h68 (by decide) (n7nil))
            have hV92 := hV70.keep f83.gm (n6o h68 (by decide) (n6on))
            show pl _ _ _ (142, [(0, .ref o), (1, .ref a), (2, .int (nI i0))], [.int 0], M80) _
            exact ps_ret rfl rfl (Or.inr ⟨(26, b0), by
                unfold mhS
                rw [q123_s]
                repeat' split
                all_goals first | rfl | (exfalso; omega) | (exfalso; simp_all; done), rfl, h82, hF90⟩)
        · have c_84 : ¬ (¬ (nI (mdsN f n E (by2 f (b0 + 2)) (by2 f (b0 + 4)) (apN f n E b0))) = 0) := of_decide_eq_false c_84
          have n_84 : mdsN f n E (by2 f (b0 + 2)) (by2 f (b0 + 4)) (apN f n E b0) = 0 := (eq_nI (p := mdsN f n E (by2 f (b0 + 2)) (by2 f (b0 + 4)) (apN f n E b0)) (n := 0) (Nat.lt_trans (le1_mds _ _ _ _ _ _) (by decide)) (by decide)).mp (Decidable.not_not.mp c_84)
          refine ps_st (S' := (88, [(0, .ref o), (1, .ref a), (2, .int (nI i0))], [.ref o], M60)) rfl rfl rfl ?_
          refine ps_get (S' := (91, [(0, .ref o), (1, .ref a), (2, .int (nI i0))], [.ref vd], M60)) rfl h64 rfl rfl ?_
          refine ps_st (S' := (93, [(0, .ref o), (1, .ref a), (2, .int (nI i0))], [.int 25, .ref vd], M60)) rfl rfl rfl ?_
          refine ps_st (S' := (94, [(0, .ref o), (1, .ref a), (2, .int (nI i0))], [.ref a, .int 25, .ref vd], M60)) rfl rfl rfl ?_
          refine ps_get (S' := (97, [(0, .ref o), (1, .ref a), (2, .int (nI i0))], [.int (nI b0), .int 25, .ref vd], M60)) rfl h61 rfl rfl ?_
          refine ps_st (S' := (98, [(0, .ref o), (1, .ref a), (2, .int (nI i0))], [.int 4, .int (nI b0), .int 25, .ref vd], M60)) rfl rfl rfl ?_
          refine ps_st (S' := (99, [(0, .ref o), (1, .ref a), (2, .int (nI i0))], [.int ((nI b0) + 4), .int 25, .ref vd], M60)) rfl rfl rfl ?_
          rw [nI_add1 (p := b0) (k := 4) (x := 4) rfl (by omega)]
          show pl _ _ _ (_, [(0, .ref o), (1, .ref a), (2, .int (nI i0))], [.int (nI (b0 + 4)), .int 25, .ref vd], M60) _
          refine pl_call (a := [.ref vd, .int 25, .int (nI (b0 + 4))]) (rest := []) rfl rfl rfl (dk_wrong (vd := vd) (ru := ru) (wa := wa) (x1 := 25) (x2 := (nI (b0 + 4))) h68) (fun v93 M94 q95 => ?_)
          obtain ⟨rfl, h96, f97⟩ := q95
          have h99 := (f97.1 o (nin1 (ob_ne h64 h68 (by decide)))).trans h64
          have h100 := (f97.1 c (nin1 (ob_ne h65 h68 (by decide)))).trans h65
          have h101 := (f97.1 b (nin1 (ob_ne h66 h68 (by decide)))).trans h66
          have h102 := (f97.1 da (nin1 (Ne.symm (ob_ar h68 h67)))).trans h67
          have h103 := (f97.1 a (nin1 (ob_ne h61 h68 (by decide)))).trans h61
          have hF104 := hF71.tr f97 (by simp)
          have hV105 := hV69.keep f97.gm (n7c h68 (by decide) (n7nil))
          have hV106 := hV70.keep f97.gm (n6o h68 (by decide) (n6on))
          show pl _ _ _ (102, [(0, .ref o), (1, .ref a), (2, .int (nI i0))], [.int 0], M94) _
          exact ps_ret rfl rfl (Or.inr ⟨(25, b0 + 4), by
              unfold mhS
              repeat' split
              all_goals first | rfl | (exfalso; omega) | (exfalso; simp_all; done), rfl, h96, hF104⟩)
    · have c_32 : ¬ (¬ (nI (mflN f n E (by2 f fa) mj (by2 f b0) (by2 f (b0 + 2)))) = 0) := of_decide_eq_false c_32
      have n_32 : mflN f n E (by2 f fa) mj (by2 f b0) (by2 f (b0 + 2)) = 0 := (eq_nI (p := mflN f n E (by2 f fa) mj (by2 f b0) (by2 f (b0 + 2))) (n := 0) (Nat.lt_trans (le1_mfl _ _ _ _ _ _ _) (by decide)) (by decide)).mp (Decidable.not_not.mp c_32)
      refine ps_st (S' := (36, [(0, .ref o), (1, .ref a), (2, .int (nI i0))], [.ref o], M)) rfl rfl rfl ?_
      refine ps_get (S' := (39, [(0, .ref o), (1, .ref a), (2, .int (nI i0))], [.ref vd], M)) rfl h_o rfl rfl ?_
      refine ps_st (S' := (41, [(0, .ref o), (1, .ref a), (2, .int (nI i0))], [.int 23, .ref vd], M)) rfl rfl rfl ?_
      refine ps_st (S' := (42, [(0, .ref o), (1, .ref a), (2, .int (nI i0))], [.ref a, .int 23, .ref vd], M)) rfl rfl rfl ?_
      refine ps_get (S' := (45, [(0, .ref o), (1, .ref a), (2, .int (nI i0))], [.int (nI b0), .int 23, .ref vd], M)) rfl h_a rfl rfl ?_
      refine pl_call (a := [.ref vd, .int 23, .int (nI b0)]) (rest := []) rfl rfl rfl (dk_wrong (vd := vd) (ru := ru) (wa := wa) (x1 := 23) (x2 := (nI b0)) h_vd) (fun v107 M108 q109 => ?_)
      obtain ⟨rfl, h110, f111⟩ := q109
      have h113 := (f111.1 o (nin1 (ob_ne h_o h_vd (by decide)))).trans h_o
      have h114 := (f111.1 c (nin1 (ob_ne h_c h_vd (by decide)))).trans h_c
      have h115 := (f111.1 b (nin1 (ob_ne h_b h_vd (by decide)))).trans h_b
      have h116 := (f111.1 da (nin1 (Ne.symm (ob_ar h_vd h_da)))).trans h_da
      have h117 := (f111.1 a (nin1 (ob_ne h_a h_vd (by decide)))).trans h_a
      have hF118 := hF.tr f111 (by simp)
      have hV119 := hV.keep f111.gm (n7c h_vd (by decide) (n7nil))
      have hV120 := hM.keep f111.gm (n6o h_vd (by decide) (n6on))
      show pl _ _ _ (48, [(0, .ref o), (1, .ref a), (2, .int (nI i0))], [.int 0], M108) _
      exact ps_ret rfl rfl (Or.inr ⟨(23, b0), by
          unfold mhS
          repeat' split
          all_goals first | rfl | (exfalso; omega) | (exfalso; simp_all; done), rfl, h110, hF118⟩)
  · have c_8 : ¬ (¬ (nI (mnmN f n E (by2 f fa) (by2 f (b0 + 2)))) = 0) := of_decide_eq_false c_8
    have n_8 : mnmN f n E (by2 f fa) (by2 f (b0 + 2)) = 0 := (eq_nI (p := mnmN f n E (by2 f fa) (by2 f (b0 + 2))) (n := 0) (Nat.lt_trans (le1_mnm _ _ _ _ _) (by decide)) (by decide)).mp (Decidable.not_not.mp c_8)
    refine ps_st (S' := (12, [(0, .ref o), (1, .ref a), (2, .int (nI i0))], [.ref o], M)) rfl rfl rfl ?_
    refine ps_get (S' := (15, [(0, .ref o), (1, .ref a), (2, .int (nI i0))], [.ref vd], M)) rfl h_o rfl rfl ?_
    refine ps_st (S' := (17, [(0, .ref o), (1, .ref a), (2, .int (nI i0))], [.int 24, .ref vd], M)) rfl rfl rfl ?_
    refine ps_st (S' := (18, [(0, .ref o), (1, .ref a), (2, .int (nI i0))], [.ref a, .int 24, .ref vd], M)) rfl rfl rfl ?_
    refine ps_get (S' := (21, [(0, .ref o), (1, .ref a), (2, .int (nI i0))], [.int (nI b0), .int 24, .ref vd], M)) rfl h_a rfl rfl ?_
    refine ps_st (S' := (22, [(0, .ref o), (1, .ref a), (2, .int (nI i0))], [.int 2, .int (nI b0), .int 24, .ref vd], M)) rfl rfl rfl ?_
    refine ps_st (S' := (23, [(0, .ref o), (1, .ref a), (2, .int (nI i0))], [.int ((nI b0) + 2), .int 24, .ref vd], M)) rfl rfl rfl ?_
    rw [nI_add1 (p := b0) (k := 2) (x := 2) rfl (by omega)]
    show pl _ _ _ (_, [(0, .ref o), (1, .ref a), (2, .int (nI i0))], [.int (nI (b0 + 2)), .int 24, .ref vd], M) _
    refine pl_call (a := [.ref vd, .int 24, .int (nI (b0 + 2))]) (rest := []) rfl rfl rfl (dk_wrong (vd := vd) (ru := ru) (wa := wa) (x1 := 24) (x2 := (nI (b0 + 2))) h_vd) (fun v121 M122 q123 => ?_)
    obtain ⟨rfl, h124, f125⟩ := q123
    have h127 := (f125.1 o (nin1 (ob_ne h_o h_vd (by decide)))).trans h_o
    have h128 := (f125.1 c (nin1 (ob_ne h_c h_vd (by decide)))).trans h_c
    have h129 := (f125.1 b (nin1 (ob_ne h_b h_vd (by decide)))).trans h_b
    have h130 := (f125.1 da (nin1 (Ne.symm (ob_ar h_vd h_da)))).trans h_da
    have h131 := (f125.1 a (nin1 (ob_ne h_a h_vd (by decide)))).trans h_a
    have hF132 := hF.tr f125 (by simp)
    have hV133 := hV.keep f125.gm (n7c h_vd (by decide) (n7nil))
    have hV134 := hM.keep f125.gm (n6o h_vd (by decide) (n6on))
    show pl _ _ _ (26, [(0, .ref o), (1, .ref a), (2, .int (nI i0))], [.int 0], M122) _
    exact ps_ret rfl rfl (Or.inr ⟨(24, b0 + 2), by
        unfold mhS
        repeat' split
        all_goals first | rfl | (exfalso; omega) | (exfalso; simp_all; done), rfl, h124, hF132⟩)
set_option maxHeartbeats 1000000 in
theorem dk_codeIsDue_n {g : xe_G} {M : mi_H} {f : Nat → Int32} {n N q : Nat} {E : List (Nat × Nat)} {o c b da vd ac fr mr fa ic mj na pa : Nat} {mi ru wa k1 k2 k3 k4 k5 k6 k7 : Int32} {a b0 : Nat} {kn co ap ex : Int32} (h_o : M.1 o = some (ob 2 [.ref c, .ref b, .ref q, .ref vd, .ref ac])) (h_c : M.1 c = some (ob 3 [.ref b, .ref q, .int mi, .int (nI mj), .int (nI fa), .int (nI ic), .ref fr, .ref mr, .int (nI na), .int (nI pa), .int k1, .int k2, .int k3, .int k4, .int k5, .int k6, .int k7])) (h_b : M.1 b = some (ob 1 [.ref da])) (h_da : M.1 da = some (ar .byte n f)) (h_vd : M.1 vd = some (ob 10 [.int ru, .int wa])) (h_a : M.1 a = some (ob 6 [.int (nI b0), .int (nI (by2 f b0)), .int (nI (by2 f (b0 + 2))), .int (nI (by2 f (b0 + 4))), .int (nI (by2 f (b0 + 6))), .int (nI (b0 + 8)), .int kn, .int co, .int ap, .int ex, .null])) (hn : n ≤ 65540) (hmj : mj < 65536) (hfa : fa + 8 ≤ n) (hV : PV g f n N E q M) : pt (mT g) 54 [.ref o, .ref a] M (fun v M' => ((cduS f n E b0 0 = none) ∧ v = some (.int 1) ∧ M'.1 vd = some (ob 10 [.int ru, .int wa]) ∧ fm [vd] M M') ∨ (∃ (e : Nat × Nat), (cduS f n E b0 0 = some e) ∧ v = some (.int 0) ∧ M'.1 vd = some (ob 10 [.int (nI e.1), .int (nI e.2)]) ∧ fm [vd] M M')) := by
  refine pt_in (b := mb_54 g) rfl (fun kf => ?_)
  show pl (mT g) kf (mb_54 g).2 (0, [(0, .ref o), (1, .ref a)], [], M) _
  have hF : fm [vd] M M := fm.rf
  refine ps_st (S' := (1, [(0, .ref o), (1, .ref a)], [.ref o], M)) rfl rfl rfl ?_
  refine ps_get (S' := (4, [(0, .ref o), (1, .ref a)], [.ref q], M)) rfl h_o rfl rfl ?_
  refine ps_st (S' := (5, [(0, .ref o), (1, .ref a)], [.ref a, .ref q], M)) rfl rfl rfl ?_
  refine ps_get (S' := (8, [(0, .ref o), (1, .ref a)], [.int (nI (by2 f (b0 + 2))), .ref q], M)) rfl h_a rfl rfl ?_
  refine ps_st (S' := (10, [(0, .ref o), (1, .ref a)], [.ref (g.2.1 13), .int (nI (by2 f (b0 + 2))), .ref q], M)) rfl rfl rfl ?_
  refine pl_call (a := [.ref q, .int (nI (by2 f (b0 + 2))), .ref (g.2.1 13)]) (rest := []) rfl rfl rfl (dy_textIs (f := f) (n := n) (N := N) (q := q) (E := E) (j := (by2 f (b0 + 2))) (k := 13) (hV) (by2_lt _ _) (by decide)) (fun v1 M2 q3 => ?_)
  obtain ⟨rfl, rfl⟩ := q3
  show pl _ _ _ (13, [(0, .ref o), (1, .ref a)], [.int (nI (eqN (tX f n E (by2 f (b0 + 2))) (ltx 13)))], M) _
  refine ps_if (S1 := (26, [(0, .ref o), (1, .ref a)], [], M)) (S2 := (16, [(0, .ref o), (1, .ref a)], [], M)) rfl rfl rfl (fun c_13 => ?_) (fun c_13 => ?_)
  · have c_13 : ¬ (nI (eqN (tX f n E (by2 f (b0 + 2))) (ltx 13))) = 0 := of_decide_eq_true c_13
    have n_13 : ¬ (eqN (tX f n E (by2 f (b0 + 2))) (ltx 13) = 0) := fun h9 => c_13 ((eq_nI (p := eqN (tX f n E (by2 f (b0 + 2))) (ltx 13)) (n := 0) (Nat.lt_trans (le1_eq _ _) (by decide)) (by decide)).mpr h9)
    refine ps_st (S' := (27, [(0, .ref o), (1, .ref a)], [.int 1], M)) rfl rfl rfl ?_
    refine ps_st (S' := (31, [(0, .ref o), (1, .ref a)], [.int 1], M)) rfl rfl rfl ?_
    refine ps_st (S' := (32, [(2, .int 1), (0, .ref o), (1, .ref a)], [], M)) rfl rfl rfl ?_
    refine ps_st (S' := (33, [(2, .int 1), (0, .ref o), (1, .ref a)], [.int 1], M)) rfl rfl rfl ?_
    refine ps_st (S' := (34, [(2, .int 1), (0, .ref o), (1, .ref a)], [.ref a, .int 1], M)) rfl rfl rfl ?_
    refine ps_get (S' := (37, [(2, .int 1), (0, .ref o), (1, .ref a)], [.null, .int 1], M)) rfl h_a rfl rfl ?_
    refine ps_st (S' := (44, [(2, .int 1), (0, .ref o), (1, .ref a)], [.int 1], M)) rfl rfl rfl ?_
    refine ps_st (S' := (45, [(0, .ref o), (1, .ref a)], [.int 0, .int 1], M)) rfl rfl rfl ?_
    refine ps_if2 (S1 := (64, [], [], M)) (S2 := (48, [(0, .ref o), (1, .ref a)], [], M)) rfl rfl rfl (fun c_45 => ?_) (fun c_45 => ?_)
    · exact absurd (of_decide_eq_true c_45) (by decide)
    refine ps_st (S' := (49, [(0, .ref o), (1, .ref a)], [.ref o], M)) rfl rfl rfl ?_
    refine ps_get (S' := (52, [(0, .ref o), (1, .ref a)], [.ref vd], M)) rfl h_o rfl rfl ?_
    refine ps_st (S' := (54, [(0, .ref o), (1, .ref a)], [.int 27, .ref vd], M)) rfl rfl rfl ?_
    refine ps_st (S' := (55, [(0, .ref o), (1, .ref a)], [.ref a, .int 27, .ref vd], M)) rfl rfl rfl ?_
    refine ps_get (S' := (58, [(0, .ref o), (1, .ref a)], [.int (nI b0), .int 27, .ref vd], M)) rfl h_a rfl rfl ?_
    refine pl_call (a := [.ref vd, .int 27, .int (nI b0)]) (rest := []) rfl rfl rfl (dk_wrong (vd := vd) (ru := ru) (wa := wa) (x1 := 27) (x2 := (nI b0)) h_vd) (fun v4 M5 q6 => ?_)
    obtain ⟨rfl, h7, f8⟩ := q6
    have h10 := (f8.1 o (nin1 (ob_ne h_o h_vd (by decide)))).trans h_o
    have h11 := (f8.1 c (nin1 (ob_ne h_c h_vd (by decide)))).trans h_c
    have h12 := (f8.1 b (nin1 (ob_ne h_b h_vd (by decide)))).trans h_b
    have h13 := (f8.1 da (nin1 (Ne.symm (ob_ar h_vd h_da)))).trans h_da
    have h14 := (f8.1 a (nin1 (ob_ne h_a h_vd (by decide)))).trans h_a
    have hF15 := hF.tr f8 (by simp)
    have hV16 := hV.keep f8.gm (n7c h_vd (by decide) (n7nil))
    show pl _ _ _ (61, [(0, .ref o), (1, .ref a)], [.int 0], M5) _
    refine ps_if (S1 := (68, [(0, .ref o), (1, .ref a)], [], M5)) (S2 := (64, [], [], M5)) rfl rfl rfl (fun c_61 => ?_) (fun c_61 => ?_)
    rotate_left
    · exact absurd (by decide) (of_decide_eq_false c_61)
    refine ps_st (S' := (69, [], [.int 0], M5)) rfl rfl rfl ?_
    exact ps_ret rfl rfl (Or.inr ⟨(27, b0), by
        unfold cduS
        first | ((repeat first | rw [if_pos (by omega)] | rw [if_neg (by omega)]) <;> first | rfl | omega) | ((repeat' split) <;> first | rfl | (exfalso; omega) | omega), rfl, h7, hF15⟩)
  · have c_13 : ¬ (¬ (nI (eqN (tX f n E (by2 f (b0 + 2))) (ltx 13))) = 0) := of_decide_eq_false c_13
    have n_13 : eqN (tX f n E (by2 f (b0 + 2))) (ltx 13) = 0 := (eq_nI (p := eqN (tX f n E (by2 f (b0 + 2))) (ltx 13)) (n := 0) (Nat.lt_trans (le1_eq _ _) (by decide)) (by decide)).mp (Decidable.not_not.mp c_13)
    refine ps_st (S' := (17, [(0, .ref o), (1, .ref a)], [.ref a], M)) rfl rfl rfl ?_
    refine ps_st (S' := (20, [(0, .ref o), (1, .ref a)], [.int 1280, .ref a], M)) rfl rfl rfl ?_
    refine pl_call (a := [.ref a, .int 1280]) (rest := []) rfl rfl rfl (dk_mhas (f := f) (a := a) (b0 := b0) (kn := kn) (co := co) (ap := ap) (ex := ex) (cd := .null) (x := 1280) h_a) (fun v17 M18 q19 => ?_)
    obtain ⟨rfl, rfl⟩ := q19
    show pl _ _ _ (23, [(0, .ref o), (1, .ref a)], [.int (nI (hasN (by2 f b0) 1280))], M) _
    refine ps_if (S1 := (30, [(0, .ref o), (1, .ref a)], [], M)) (S2 := (26, [(0, .ref o), (1, .ref a)], [], M)) rfl rfl rfl (fun c_23 => ?_) (fun c_23 => ?_)
    · have c_23 : ¬ (nI (hasN (by2 f b0) 1280)) = 0 := of_decide_eq_true c_23
      have n_23 : ¬ (hasN (by2 f b0) 1280 = 0) := fun h9 => c_23 ((eq_nI (p := hasN (by2 f b0) 1280) (n := 0) (Nat.lt_trans (le1_has _ _) (by decide)) (by decide)).mpr h9)
      refine ps_st (S' := (31, [(0, .ref o), (1, .ref a)], [.int 0], M)) rfl rfl rfl ?_
      refine ps_st (S' := (32, [(2, .int 0), (0, .ref o), (1, .ref a)], [], M)) rfl rfl rfl ?_
      refine ps_st (S' := (33, [(2, .int 0), (0, .ref o), (1, .ref a)], [.int 0], M)) rfl rfl rfl ?_
      refine ps_st (S' := (34, [(2, .int 0), (0, .ref o), (1, .ref a)], [.ref a, .int 0], M)) rfl rfl rfl ?_
      refine ps_get (S' := (37, [(2, .int 0), (0, .ref o), (1, .ref a)], [.null, .int 0], M)) rfl h_a rfl rfl ?_
      refine ps_st (S' := (44, [(2, .int 0), (0, .ref o), (1, .ref a)], [.int 0], M)) rfl rfl rfl ?_
      refine ps_st (S' := (45, [(0, .ref o), (1, .ref a)], [.int 0, .int 0], M)) rfl rfl rfl ?_
      refine ps_if2 (S1 := (64, [], [], M)) (S2 := (48, [(0, .ref o), (1, .ref a)], [], M)) rfl rfl rfl (fun c_45 => ?_) (fun c_45 => ?_)
      rotate_left
      · exact absurd (by decide) (of_decide_eq_false c_45)
      refine ps_st (S' := (65, [], [.int 1], M)) rfl rfl rfl ?_
      refine ps_st (S' := (69, [], [.int 1], M)) rfl rfl rfl ?_
      exact ps_ret rfl rfl (Or.inl ⟨by
          unfold cduS
          first | ((repeat first | rw [if_pos (by omega)] | rw [if_neg (by omega)]) <;> first | rfl | omega) | ((repeat' split) <;> first | rfl | (exfalso; omega) | omega), rfl, h_vd, hF⟩)
    · have c_23 : ¬ (¬ (nI (hasN (by2 f b0) 1280)) = 0) := of_decide_eq_false c_23
      have n_23 : hasN (by2 f b0) 1280 = 0 := (eq_nI (p := hasN (by2 f b0) 1280) (n := 0) (Nat.lt_trans (le1_has _ _) (by decide)) (by decide)).mp (Decidable.not_not.mp c_23)
      refine ps_st (S' := (27, [(0, .ref o), (1, .ref a)], [.int 1], M)) rfl rfl rfl ?_
      refine ps_st (S' := (31, [(0, .ref o), (1, .ref a)], [.int 1], M)) rfl rfl rfl ?_
      refine ps_st (S' := (32, [(2, .int 1), (0, .ref o), (1, .ref a)], [], M)) rfl rfl rfl ?_
      refine ps_st (S' := (33, [(2, .int 1), (0, .ref o), (1, .ref a)], [.int 1], M)) rfl rfl rfl ?_
      refine ps_st (S' := (34, [(2, .int 1), (0, .ref o), (1, .ref a)], [.ref a, .int 1], M)) rfl rfl rfl ?_
      refine ps_get (S' := (37, [(2, .int 1), (0, .ref o), (1, .ref a)], [.null, .int 1], M)) rfl h_a rfl rfl ?_
      refine ps_st (S' := (44, [(2, .int 1), (0, .ref o), (1, .ref a)], [.int 1], M)) rfl rfl rfl ?_
      refine ps_st (S' := (45, [(0, .ref o), (1, .ref a)], [.int 0, .int 1], M)) rfl rfl rfl ?_
      refine ps_if2 (S1 := (64, [], [], M)) (S2 := (48, [(0, .ref o), (1, .ref a)], [], M)) rfl rfl rfl (fun c_45 => ?_) (fun c_45 => ?_)
      · exact absurd (of_decide_eq_true c_45) (by decide)
      refine ps_st (S' := (49, [(0, .ref o), (1, .ref a)], [.ref o], M)) rfl rfl rfl ?_
      refine ps_get (S' := (52, [(0, .ref o), (1, .ref a)], [.ref vd], M)) rfl h_o rfl rfl ?_
      refine ps_st (S' := (54, [(0, .ref o), (1, .ref a)], [.int 27, .ref vd], M)) rfl rfl rfl ?_
      refine ps_st (S' := (55, [(0, .ref o), (1, .ref a)], [.ref a, .int 27, .ref vd], M)) rfl rfl rfl ?_
      refine ps_get (S' := (58, [(0, .ref o), (1, .ref a)], [.int (nI b0), .int 27, .ref vd], M)) rfl h_a rfl rfl ?_
      refine pl_call (a := [.ref vd, .int 27, .int (nI b0)]) (rest := []) rfl rfl rfl (dk_wrong (vd := vd) (ru := ru) (wa := wa) (x1 := 27) (x2 := (nI b0)) h_vd) (fun v20 M21 q22 => ?_)
      obtain ⟨rfl, h23, f24⟩ := q22
      have h26 := (f24.1 o (nin1 (ob_ne h_o h_vd (by decide)))).trans h_o
      have h27 := (f24.1 c (nin1 (ob_ne h_c h_vd (by decide)))).trans h_c
      have h28 := (f24.1 b (nin1 (ob_ne h_b h_vd (by decide)))).trans h_b
      have h29 := (f24.1 da (nin1 (Ne.symm (ob_ar h_vd h_da)))).trans h_da
      have h30 := (f24.1 a (nin1 (ob_ne h_a h_vd (by decide)))).trans h_a
      have hF31 := hF.tr f24 (by simp)
      have hV32 := hV.keep f24.gm (n7c h_vd (by decide) (n7nil))
      show pl _ _ _ (61, [(0, .ref o), (1, .ref a)], [.int 0], M21) _
      refine ps_if (S1 := (68, [(0, .ref o), (1, .ref a)], [], M21)) (S2 := (64, [], [], M21)) rfl rfl rfl (fun c_61 => ?_) (fun c_61 => ?_)
      rotate_left
      · exact absurd (by decide) (of_decide_eq_false c_61)
      refine ps_st (S' := (69, [], [.int 0], M21)) rfl rfl rfl ?_
      exact ps_ret rfl rfl (Or.inr ⟨(27, b0), by
          unfold cduS
          first | ((repeat first | rw [if_pos (by omega)] | rw [if_neg (by omega)]) <;> first | rfl | omega) | ((repeat' split) <;> first | rfl | (exfalso; omega) | omega), rfl, h23, hF31⟩)
set_option maxHeartbeats 1000000 in
theorem dk_codeIsDue_y {g : xe_G} {M : mi_H} {f : Nat → Int32} {n N q : Nat} {E : List (Nat × Nat)} {o c b da vd ac fr mr fa ic mj na pa : Nat} {mi ru wa k1 k2 k3 k4 k5 k6 k7 : Int32} {a b0 : Nat} {kn co ap ex : Int32} {z9 : Nat} (h_o : M.1 o = some (ob 2 [.ref c, .ref b, .ref q, .ref vd, .ref ac])) (h_c : M.1 c = some (ob 3 [.ref b, .ref q, .int mi, .int (nI mj), .int (nI fa), .int (nI ic), .ref fr, .ref mr, .int (nI na), .int (nI pa), .int k1, .int k2, .int k3, .int k4, .int k5, .int k6, .int k7])) (h_b : M.1 b = some (ob 1 [.ref da])) (h_da : M.1 da = some (ar .byte n f)) (h_vd : M.1 vd = some (ob 10 [.int ru, .int wa])) (h_a : M.1 a = some (ob 6 [.int (nI b0), .int (nI (by2 f b0)), .int (nI (by2 f (b0 + 2))), .int (nI (by2 f (b0 + 4))), .int (nI (by2 f (b0 + 6))), .int (nI (b0 + 8)), .int kn, .int co, .int ap, .int ex, .ref z9])) (hn : n ≤ 65540) (hmj : mj < 65536) (hfa : fa + 8 ≤ n) (hV : PV g f n N E q M) : pt (mT g) 54 [.ref o, .ref a] M (fun v M' => ((cduS f n E b0 1 = none) ∧ v = some (.int 1) ∧ M'.1 vd = some (ob 10 [.int ru, .int wa]) ∧ fm [vd] M M') ∨ (∃ (e : Nat × Nat), (cduS f n E b0 1 = some e) ∧ v = some (.int 0) ∧ M'.1 vd = some (ob 10 [.int (nI e.1), .int (nI e.2)]) ∧ fm [vd] M M')) := by
  refine pt_in (b := mb_54 g) rfl (fun kf => ?_)
  show pl (mT g) kf (mb_54 g).2 (0, [(0, .ref o), (1, .ref a)], [], M) _
  have hF : fm [vd] M M := fm.rf
  refine ps_st (S' := (1, [(0, .ref o), (1, .ref a)], [.ref o], M)) rfl rfl rfl ?_
  refine ps_get (S' := (4, [(0, .ref o), (1, .ref a)], [.ref q], M)) rfl h_o rfl rfl ?_
  refine ps_st (S' := (5, [(0, .ref o), (1, .ref a)], [.ref a, .ref q], M)) rfl rfl rfl ?_
  refine ps_get (S' := (8, [(0, .ref o), (1, .ref a)], [.int (nI (by2 f (b0 + 2))), .ref q], M)) rfl h_a rfl rfl ?_
  refine ps_st (S' := (10, [(0, .ref o), (1, .ref a)], [.ref (g.2.1 13), .int (nI (by2 f (b0 + 2))), .ref q], M)) rfl rfl rfl ?_
  refine pl_call (a := [.ref q, .int (nI (by2 f (b0 + 2))), .ref (g.2.1 13)]) (rest := []) rfl rfl rfl (dy_textIs (f := f) (n := n) (N := N) (q := q) (E := E) (j := (by2 f (b0 + 2))) (k := 13) (hV) (by2_lt _ _) (by decide)) (fun v1 M2 q3 => ?_)
  obtain ⟨rfl, rfl⟩ := q3
  show pl _ _ _ (13, [(0, .ref o), (1, .ref a)], [.int (nI (eqN (tX f n E (by2 f (b0 + 2))) (ltx 13)))], M) _
  refine ps_if (S1 := (26, [(0, .ref o), (1, .ref a)], [], M)) (S2 := (16, [(0, .ref o), (1, .ref a)], [], M)) rfl rfl rfl (fun c_13 => ?_) (fun c_13 => ?_)
  · have c_13 : ¬ (nI (eqN (tX f n E (by2 f (b0 + 2))) (ltx 13))) = 0 := of_decide_eq_true c_13
    have n_13 : ¬ (eqN (tX f n E (by2 f (b0 + 2))) (ltx 13) = 0) := fun h9 => c_13 ((eq_nI (p := eqN (tX f n E (by2 f (b0 + 2))) (ltx 13)) (n := 0) (Nat.lt_trans (le1_eq _ _) (by decide)) (by decide)).mpr h9)
    refine ps_st (S' := (27, [(0, .ref o), (1, .ref a)], [.int 1], M)) rfl rfl rfl ?_
    refine ps_st (S' := (31, [(0, .ref o), (1, .ref a)], [.int 1], M)) rfl rfl rfl ?_
    refine ps_st (S' := (32, [(2, .int 1), (0, .ref o), (1, .ref a)], [], M)) rfl rfl rfl ?_
    refine ps_st (S' := (33, [(2, .int 1), (0, .ref o), (1, .ref a)], [.int 1], M)) rfl rfl rfl ?_
    refine ps_st (S' := (34, [(2, .int 1), (0, .ref o), (1, .ref a)], [.ref a, .int 1], M)) rfl rfl rfl ?_
    refine ps_get (S' := (37, [(2, .int 1), (0, .ref o), (1, .ref a)], [.ref z9, .int 1], M)) rfl h_a rfl rfl ?_
    refine ps_st (S' := (40, [(2, .int 1), (0, .ref o), (1, .ref a)], [.int 1], M)) rfl rfl rfl ?_
    refine ps_st (S' := (41, [(2, .int 1), (0, .ref o), (1, .ref a)], [.int 1, .int 1], M)) rfl rfl rfl ?_
    refine ps_st (S' := (45, [(0, .ref o), (1, .ref a)], [.int 1, .int 1], M)) rfl rfl rfl ?_
    refine ps_if2 (S1 := (64, [], [], M)) (S2 := (48, [(0, .ref o), (1, .ref a)], [], M)) rfl rfl rfl (fun c_45 => ?_) (fun c_45 => ?_)
    rotate_left
    · exact absurd (by decide) (of_decide_eq_false c_45)
    refine ps_st (S' := (65, [], [.int 1], M)) rfl rfl rfl ?_
    refine ps_st (S' := (69, [], [.int 1], M)) rfl rfl rfl ?_
    exact ps_ret rfl rfl (Or.inl ⟨by
        unfold cduS
        first | ((repeat first | rw [if_pos (by omega)] | rw [if_neg (by omega)]) <;> first | rfl | omega) | ((repeat' split) <;> first | rfl | (exfalso; omega) | omega), rfl, h_vd, hF⟩)
  · have c_13 : ¬ (¬ (nI (eqN (tX f n E (by2 f (b0 + 2))) (ltx 13))) = 0) := of_decide_eq_false c_13
    have n_13 : eqN (tX f n E (by2 f (b0 + 2))) (ltx 13) = 0 := (eq_nI (p := eqN (tX f n E (by2 f (b0 + 2))) (ltx 13)) (n := 0) (Nat.lt_trans (le1_eq _ _) (by decide)) (by decide)).mp (Decidable.not_not.mp c_13)
    refine ps_st (S' := (17, [(0, .ref o), (1, .ref a)], [.ref a], M)) rfl rfl rfl ?_
    refine ps_st (S' := (20, [(0, .ref o), (1, .ref a)], [.int 1280, .ref a], M)) rfl rfl rfl ?_
    refine pl_call (a := [.ref a, .int 1280]) (rest := []) rfl rfl rfl (dk_mhas (f := f) (a := a) (b0 := b0) (kn := kn) (co := co) (ap := ap) (ex := ex) (cd := .ref z9) (x := 1280) h_a) (fun v4 M5 q6 => ?_)
    obtain ⟨rfl, rfl⟩ := q6
    show pl _ _ _ (23, [(0, .ref o), (1, .ref a)], [.int (nI (hasN (by2 f b0) 1280))], M) _
    refine ps_if (S1 := (30, [(0, .ref o), (1, .ref a)], [], M)) (S2 := (26, [(0, .ref o), (1, .ref a)], [], M)) rfl rfl rfl (fun c_23 => ?_) (fun c_23 => ?_)
    · have c_23 : ¬ (nI (hasN (by2 f b0) 1280)) = 0 := of_decide_eq_true c_23
      have n_23 : ¬ (hasN (by2 f b0) 1280 = 0) := fun h9 => c_23 ((eq_nI (p := hasN (by2 f b0) 1280) (n := 0) (Nat.lt_trans (le1_has _ _) (by decide)) (by decide)).mpr h9)
      refine ps_st (S' := (31, [(0, .ref o), (1, .ref a)], [.int 0], M)) rfl rfl rfl ?_
      refine ps_st (S' := (32, [(2, .int 0), (0, .ref o), (1, .ref a)], [], M)) rfl rfl rfl ?_
      refine ps_st (S' := (33, [(2, .int 0), (0, .ref o), (1, .ref a)], [.int 0], M)) rfl rfl rfl ?_
      refine ps_st (S' := (34, [(2, .int 0), (0, .ref o), (1, .ref a)], [.ref a, .int 0], M)) rfl rfl rfl ?_
      refine ps_get (S' := (37, [(2, .int 0), (0, .ref o), (1, .ref a)], [.ref z9, .int 0], M)) rfl h_a rfl rfl ?_
      refine ps_st (S' := (40, [(2, .int 0), (0, .ref o), (1, .ref a)], [.int 0], M)) rfl rfl rfl ?_
      refine ps_st (S' := (41, [(2, .int 0), (0, .ref o), (1, .ref a)], [.int 1, .int 0], M)) rfl rfl rfl ?_
      refine ps_st (S' := (45, [(0, .ref o), (1, .ref a)], [.int 1, .int 0], M)) rfl rfl rfl ?_
      refine ps_if2 (S1 := (64, [], [], M)) (S2 := (48, [(0, .ref o), (1, .ref a)], [], M)) rfl rfl rfl (fun c_45 => ?_) (fun c_45 => ?_)
      · exact absurd (of_decide_eq_true c_45) (by decide)
      refine ps_st (S' := (49, [(0, .ref o), (1, .ref a)], [.ref o], M)) rfl rfl rfl ?_
      refine ps_get (S' := (52, [(0, .ref o), (1, .ref a)], [.ref vd], M)) rfl h_o rfl rfl ?_
      refine ps_st (S' := (54, [(0, .ref o), (1, .ref a)], [.int 27, .ref vd], M)) rfl rfl rfl ?_
      refine ps_st (S' := (55, [(0, .ref o), (1, .ref a)], [.ref a, .int 27, .ref vd], M)) rfl rfl rfl ?_
      refine ps_get (S' := (58, [(0, .ref o), (1, .ref a)], [.int (nI b0), .int 27, .ref vd], M)) rfl h_a rfl rfl ?_
      refine pl_call (a := [.ref vd, .int 27, .int (nI b0)]) (rest := []) rfl rfl rfl (dk_wrong (vd := vd) (ru := ru) (wa := wa) (x1 := 27) (x2 := (nI b0)) h_vd) (fun v7 M8 q9 => ?_)
      obtain ⟨rfl, h10, f11⟩ := q9
      have h13 := (f11.1 o (nin1 (ob_ne h_o h_vd (by decide)))).trans h_o
      have h14 := (f11.1 c (nin1 (ob_ne h_c h_vd (by decide)))).trans h_c
      have h15 := (f11.1 b (nin1 (ob_ne h_b h_vd (by decide)))).trans h_b
      have h16 := (f11.1 da (nin1 (Ne.symm (ob_ar h_vd h_da)))).trans h_da
      have h17 := (f11.1 a (nin1 (ob_ne h_a h_vd (by decide)))).trans h_a
      have hF18 := hF.tr f11 (by simp)
      have hV19 := hV.keep f11.gm (n7c h_vd (by decide) (n7nil))
      show pl _ _ _ (61, [(0, .ref o), (1, .ref a)], [.int 0], M8) _
      refine ps_if (S1 := (68, [(0, .ref o), (1, .ref a)], [], M8)) (S2 := (64, [], [], M8)) rfl rfl rfl (fun c_61 => ?_) (fun c_61 => ?_)
      rotate_left
      · exact absurd (by decide) (of_decide_eq_false c_61)
      refine ps_st (S' := (69, [], [.int 0], M8)) rfl rfl rfl ?_
      exact ps_ret rfl rfl (Or.inr ⟨(27, b0), by
          unfold cduS
          first | ((repeat first | rw [if_pos (by omega)] | rw [if_neg (by omega)]) <;> first | rfl | omega) | ((repeat' split) <;> first | rfl | (exfalso; omega) | omega), rfl, h10, hF18⟩)
    · have c_23 : ¬ (¬ (nI (hasN (by2 f b0) 1280)) = 0) := of_decide_eq_false c_23
      have n_23 : hasN (by2 f b0) 1280 = 0 := (eq_nI (p := hasN (by2 f b0) 1280) (n := 0) (Nat.lt_trans (le1_has _ _) (by decide)) (by decide)).mp (Decidable.not_not.mp c_23)
      refine ps_st (S' := (27, [(0, .ref o), (1, .ref a)], [.int 1], M)) rfl rfl rfl ?_
      refine ps_st (S' := (31, [(0, .ref o), (1, .ref a)], [.int 1], M)) rfl rfl rfl ?_
      refine ps_st (S' := (32, [(2, .int 1), (0, .ref o), (1, .ref a)], [], M)) rfl rfl rfl ?_
      refine ps_st (S' := (33, [(2, .int 1), (0, .ref o), (1, .ref a)], [.int 1], M)) rfl rfl rfl ?_
      refine ps_st (S' := (34, [(2, .int 1), (0, .ref o), (1, .ref a)], [.ref a, .int 1], M)) rfl rfl rfl ?_
      refine ps_get (S' := (37, [(2, .int 1), (0, .ref o), (1, .ref a)], [.ref z9, .int 1], M)) rfl h_a rfl rfl ?_
      refine ps_st (S' := (40, [(2, .int 1), (0, .ref o), (1, .ref a)], [.int 1], M)) rfl rfl rfl ?_
      refine ps_st (S' := (41, [(2, .int 1), (0, .ref o), (1, .ref a)], [.int 1, .int 1], M)) rfl rfl rfl ?_
      refine ps_st (S' := (45, [(0, .ref o), (1, .ref a)], [.int 1, .int 1], M)) rfl rfl rfl ?_
      refine ps_if2 (S1 := (64, [], [], M)) (S2 := (48, [(0, .ref o), (1, .ref a)], [], M)) rfl rfl rfl (fun c_45 => ?_) (fun c_45 => ?_)
      rotate_left
      · exact absurd (by decide) (of_decide_eq_false c_45)
      refine ps_st (S' := (65, [], [.int 1], M)) rfl rfl rfl ?_
      refine ps_st (S' := (69, [], [.int 1], M)) rfl rfl rfl ?_
      exact ps_ret rfl rfl (Or.inl ⟨by
          unfold cduS
          first | ((repeat first | rw [if_pos (by omega)] | rw [if_neg (by omega)]) <;> first | rfl | omega) | ((repeat' split) <;> first | rfl | (exfalso; omega) | omega), rfl, h_vd, hF⟩)
