/-! attributes (laid by wip/p4/d12.py) -/
/-! what attributes must hold (my own text) -/
section ATA
variable (f : Nat → Int32) (n : Nat) (E : List (Nat × Nat))
/-- aN attribute at p of kind k (0: not known): its name is a text; a known one is new (s: what was seen) -/
def nwS (s k p : Nat) : (Nat × Nat) ⊕ Nat := if ¬ tg f E (by2 f p) = 1 then .inl (28, p) else if k = 0 then .inr s else if ¬ sb s k = 0 then .inl (29, p) else .inr (so s k)
def ctS (l : List Nat) : Option Nat := if ¬ eqN l (ltx 9) = 0 then some 8 else if ¬ l.length = 1 then none else if l.getD 0 0 = 70 then some 4 else if l.getD 0 0 = 74 then some 5 else if l.getD 0 0 = 68 then some 6 else some 3
def fkN (x : Nat) : Nat := if eqN (tX f n E x) (ltx 0) = 0 then 0 else 1
def mkN (x : Nat) : Nat := if ¬ eqN (tX f n E x) (ltx 1) = 0 then 2 else if ¬ eqN (tX f n E x) (ltx 2) = 0 then 3 else 0
def ckN (mj x : Nat) : Nat := if ¬ eqN (tX f n E x) (ltx 3) = 0 then 5 else if 51 ≤ mj ∧ ¬ eqN (tX f n E x) (ltx 4) = 0 then 6 else if 55 ≤ mj ∧ ¬ eqN (tX f n E x) (ltx 5) = 0 then 7 else
  if 55 ≤ mj ∧ ¬ eqN (tX f n E x) (ltx 6) = 0 then 8 else if 60 ≤ mj ∧ ¬ eqN (tX f n E x) (ltx 7) = 0 then 9 else if 61 ≤ mj ∧ ¬ eqN (tX f n E x) (ltx 8) = 0 then 10 else 0
def smN4 (mj x : Nat) : Nat := if 50 ≤ mj ∧ ¬ eqN (tX f n E x) (ltx 10) = 0 then 4 else 0
/-- r indexes from number i on at s are those of Class entries -/
def clA (s : Nat) : Nat → Nat → Nat
  | 0, _ => 1
  | r + 1, i => if tg f E (by2 f (s + 2 * i)) = 7 then clA s r (i + 1) else 0
def inR (p : Nat) : Nat := if tg f E (by2 f p) = 7 ∧ (by2 f (p + 2) = 0 ∨ tg f E (by2 f (p + 2)) = 7) ∧ (by2 f (p + 4) = 0 ∨ tg f E (by2 f (p + 4)) = 1) then 1 else 0
def inA (s : Nat) : Nat → Nat → Nat
  | 0, _ => 1
  | r + 1, i => if inR f E (s + 8 * i) = 0 then 0 else inA s r (i + 1)
def ldN (t : Nat) : Nat := if (3 ≤ t ∧ t ≤ 8) ∨ (15 ≤ t ∧ t ≤ 17) then 1 else 0
def ldA : Nat → Nat → Nat
  | 0, _ => 1
  | r + 1, p => if ldN (tg f E (by2 f p)) = 0 then 0 else ldA r (p + 2)
def bsA : Nat → Nat → Nat
  | 0, _ => 1
  | r + 1, p => if ¬ tg f E (by2 f p) = 15 then 0 else if ldA f E (by2 f (p + 2)) (p + 4) = 0 then 0 else bsA r (p + 4 + 2 * by2 f (p + 2))
def rcA : Nat → Nat → (Nat × Nat) ⊕ Nat
  | 0, p => .inr p
  | r + 1, p => if ¬ tg f E (by2 f p) = 1 then .inl (28, p) else rcA r (p + 6 + by4 f (p + 2))
def rcS (t : Nat) : Nat → Nat → Option (Nat × Nat)
  | 0, _ => none
  | r + 1, p => if unqN (tX f n E (by2 f p)) = 0 ∨ fldN (tX f n E (by2 f (p + 2))) = 0 then some (37, t) else match rcA f E (by2 f (p + 4)) (p + 6) with
    | .inl e => some e
    | .inr p' => rcS t r p'
/-- a row of a code's table of handlers -/
def rwN (len p : Nat) : Nat := if by2 f p < by2 f (p + 2) ∧ by2 f (p + 2) ≤ len ∧ by2 f (p + 4) < len ∧ (by2 f (p + 6) = 0 ∨ tg f E (by2 f (p + 6)) = 7) then 1 else 0
def rwA (len s : Nat) : Nat → Nat → Nat
  | 0, _ => 1
  | r + 1, i => if rwN f E len (s + 8 * i) = 0 then 0 else rwA len s r (i + 1)
def caS (mj : Nat) : Nat → Nat → Nat → (Nat × Nat) ⊕ Nat
  | 0, _, s => .inr s
  | r + 1, p, s => match nwS f E s (smN4 f n E mj (by2 f p)) p with
    | .inl e => .inl e
    | .inr s' => caS mj r (p + 6 + by4 f (p + 2)) s'
/-- the Code attribute at p of a method with w places of arguments -/
def cdS (mj w p s : Nat) : (Nat × Nat) ⊕ Nat :=
  if by4 f (p + 10) < 1 ∨ 65535 < by4 f (p + 10) then .inl (41, p) else if by2 f (p + 8) < w then .inl (42, p) else
  if rwA f E (by4 f (p + 10)) (p + 14 + by4 f (p + 10) + 2) (by2 f (p + 14 + by4 f (p + 10))) 0 = 0 then .inl (43, p) else
  caS f n E mj (by2 f (p + 14 + by4 f (p + 10) + 2 + 8 * by2 f (p + 14 + by4 f (p + 10)))) (p + 14 + by4 f (p + 10) + 2 + 8 * by2 f (p + 14 + by4 f (p + 10)) + 2) s
/-- a field's attributes (x: its flags, d: its descriptor's text) -/
def faS (x : Nat) (d : List Nat) : Nat → Nat → Nat → Option (Nat × Nat)
  | 0, _, _ => none
  | r + 1, p, s => match nwS f E s (fkN f n E (by2 f p)) p with
    | .inl e => some e
    | .inr s' => if ¬ fkN f n E (by2 f p) = 0 ∧ ¬ s_fe f 1 (p + 6) (p + 6 + by4 f (p + 2)) = some (p + 6 + by4 f (p + 2)) then some (30, p) else
      if ¬ fkN f n E (by2 f p) = 0 ∧ ¬ hasN x 8 = 0 ∧ ¬ ctS d = some (tg f E (by2 f (p + 6))) then some (31, p) else faS x d r (p + 6 + by4 f (p + 2)) s'
/-- a method's attributes (h: whether its code was met) -/
def maS (mj w : Nat) : Nat → Nat → Nat → Nat → (Nat × Nat) ⊕ Nat
  | 0, _, _, h => .inr h
  | r + 1, p, s, h => match nwS f E s (mkN f n E (by2 f p)) p with
    | .inl e => .inl e
    | .inr s' => if ¬ mkN f n E (by2 f p) = 0 ∧ ¬ s_fe f (mkN f n E (by2 f p)) (p + 6) (p + 6 + by4 f (p + 2)) = some (p + 6 + by4 f (p + 2)) then .inl (30, p) else
      if mkN f n E (by2 f p) = 2 then (match cdS f n E mj w p s' with
        | .inl e => .inl e
        | .inr s2 => maS mj w r (p + 6 + by4 f (p + 2)) s2 1) else
      if mkN f n E (by2 f p) = 3 ∧ clA f E (p + 8) (by2 f (p + 6)) 0 = 0 then .inl (32, p) else maS mj w r (p + 6 + by4 f (p + 2)) s' h
/-- what a class's attribute of kind k at p breaks -/
def brS (x k p s : Nat) : Option (Nat ⊕ (Nat × Nat)) :=
  if k = 5 then (if inA f E (p + 8) (by2 f (p + 6)) 0 = 0 then some (.inl 33) else none) else
  if k = 7 then (if tg f E (by2 f (p + 6)) = 7 ∧ sb s 8 = 0 then none else some (.inl 34)) else
  if k = 8 then (if ¬ clA f E (p + 8) (by2 f (p + 6)) 0 = 0 ∧ sb s 7 = 0 then none else some (.inl 35)) else
  if k = 10 then (if ¬ clA f E (p + 8) (by2 f (p + 6)) 0 = 0 ∧ hasN x 16 = 0 then none else some (.inl 36)) else
  if k = 9 then (match rcS f n E p (by2 f (p + 6)) (p + 8) with
    | none => none
    | some e => some (.inr e)) else
  if k = 6 then (if bsA f E (by2 f (p + 6)) (p + 8) = 0 then some (.inl 38) else none) else none
/-- a class's attributes (bc: how many bootstraps there are so far) -/
def clS (x mj : Nat) : Nat → Nat → Nat → Nat → (Nat × Nat) ⊕ Nat
  | 0, _, _, bc => .inr bc
  | r + 1, p, s, bc => match nwS f E s (ckN f n E mj (by2 f p)) p with
    | .inl e => .inl e
    | .inr s' => if ¬ ckN f n E mj (by2 f p) = 0 ∧ ¬ s_fe f (ckN f n E mj (by2 f p)) (p + 6) (p + 6 + by4 f (p + 2)) = some (p + 6 + by4 f (p + 2)) then .inl (30, p) else
      match brS f n E x (ckN f n E mj (by2 f p)) p s' with
      | some (.inl r9) => .inl (r9, p)
      | some (.inr e) => .inl e
      | none => clS x mj r (p + 6 + by4 f (p + 2)) s' (if ckN f n E mj (by2 f p) = 6 then by2 f (p + 6) else bc)
end ATA

section ATB
variable {f : Nat → Int32} {n : Nat} {E : List (Nat × Nat)}
theorem le_fk (f : Nat → Int32) (n : Nat) (E : List (Nat × Nat)) (x : Nat) : fkN f n E x < 11 := by unfold fkN; split <;> decide
theorem le_mk (f : Nat → Int32) (n : Nat) (E : List (Nat × Nat)) (x : Nat) : mkN f n E x < 11 := by
  unfold mkN
  repeat' split
  all_goals decide
theorem le_ck (f : Nat → Int32) (n : Nat) (E : List (Nat × Nat)) (mj x : Nat) : ckN f n E mj x < 11 := by
  unfold ckN
  repeat' split
  all_goals decide
theorem le_sm4 (f : Nat → Int32) (n : Nat) (E : List (Nat × Nat)) (mj x : Nat) : smN4 f n E mj x < 11 := by unfold smN4; split <;> decide
theorem le1_ld (t : Nat) : ldN t < 2 := by unfold ldN; split <;> decide
theorem le1_inr (f : Nat → Int32) (E : List (Nat × Nat)) (p : Nat) : inR f E p < 2 := by unfold inR; split <;> decide
theorem le1_rw (f : Nat → Int32) (E : List (Nat × Nat)) (len p : Nat) : rwN f E len p < 2 := by unfold rwN; split <;> decide
theorem le1_cl (f : Nat → Int32) (E : List (Nat × Nat)) (s : Nat) : ∀ r i, clA f E s r i < 2 := by
  intro r
  induction r with
  | zero => intro i; exact Nat.lt_succ_self 1
  | succ r ih => intro i; unfold clA; split; exact ih _; decide
theorem le1_in (f : Nat → Int32) (E : List (Nat × Nat)) (s : Nat) : ∀ r i, inA f E s r i < 2 := by
  intro r
  induction r with
  | zero => intro i; exact Nat.lt_succ_self 1
  | succ r ih => intro i; unfold inA; split; decide; exact ih _
theorem le1_lda (f : Nat → Int32) (E : List (Nat × Nat)) : ∀ r p, ldA f E r p < 2 := by
  intro r
  induction r with
  | zero => intro i; exact Nat.lt_succ_self 1
  | succ r ih => intro i; unfold ldA; split; decide; exact ih _
theorem le1_bsa (f : Nat → Int32) (E : List (Nat × Nat)) : ∀ r p, bsA f E r p < 2 := by
  intro r
  induction r with
  | zero => intro i; exact Nat.lt_succ_self 1
  | succ r ih => intro i; unfold bsA; repeat' split
                 all_goals first | decide | exact ih _
theorem le1_rwa (f : Nat → Int32) (E : List (Nat × Nat)) (len s : Nat) : ∀ r i, rwA f E len s r i < 2 := by
  intro r
  induction r with
  | zero => intro i; exact Nat.lt_succ_self 1
  | succ r ih => intro i; unfold rwA; split; decide; exact ih _
theorem clA_st {s c i : Nat} (h : i < c) : clA f E s (c - i) i = if tg f E (by2 f (s + 2 * i)) = 7 then clA f E s (c - (i + 1)) (i + 1) else 0 := by
  rw [show c - i = (c - (i + 1)) + 1 by omega]
  rfl
theorem inA_st {s c i : Nat} (h : i < c) : inA f E s (c - i) i = if inR f E (s + 8 * i) = 0 then 0 else inA f E s (c - (i + 1)) (i + 1) := by
  rw [show c - i = (c - (i + 1)) + 1 by omega]
  rfl
theorem ldA_st {c i p : Nat} (h : i < c) : ldA f E (c - i) p = if ldN (tg f E (by2 f p)) = 0 then 0 else ldA f E (c - (i + 1)) (p + 2) := by
  rw [show c - i = (c - (i + 1)) + 1 by omega]
  rfl
theorem bsA_st {c i p : Nat} (h : i < c) : bsA f E (c - i) p = if ¬ tg f E (by2 f p) = 15 then 0 else if ldA f E (by2 f (p + 2)) (p + 4) = 0 then 0 else bsA f E (c - (i + 1)) (p + 4 + 2 * by2 f (p + 2)) := by
  rw [show c - i = (c - (i + 1)) + 1 by omega]
  rfl
theorem rwA_st {len s c i : Nat} (h : i < c) : rwA f E len s (c - i) i = if rwN f E len (s + 8 * i) = 0 then 0 else rwA f E len s (c - (i + 1)) (i + 1) := by
  rw [show c - i = (c - (i + 1)) + 1 by omega]
  rfl
theorem rcA_st {c i p : Nat} (h : i < c) : rcA f E (c - i) p = if ¬ tg f E (by2 f p) = 1 then .inl (28, p) else rcA f E (c - (i + 1)) (p + 6 + by4 f (p + 2)) := by
  rw [show c - i = (c - (i + 1)) + 1 by omega]
  rfl
theorem rcS_st {t c i p : Nat} (h : i < c) : rcS f n E t (c - i) p = if unqN (tX f n E (by2 f p)) = 0 ∨ fldN (tX f n E (by2 f (p + 2))) = 0 then some (37, t) else match rcA f E (by2 f (p + 4)) (p + 6) with
    | .inl e => some e
    | .inr p' => rcS f n E t (c - (i + 1)) p' := by
  rw [show c - i = (c - (i + 1)) + 1 by omega]
  rfl
theorem caS_st {mj c i p s : Nat} (h : i < c) : caS f n E mj (c - i) p s = match nwS f E s (smN4 f n E mj (by2 f p)) p with
    | .inl e => .inl e
    | .inr s' => caS f n E mj (c - (i + 1)) (p + 6 + by4 f (p + 2)) s' := by
  rw [show c - i = (c - (i + 1)) + 1 by omega]
  rfl
theorem s_bsE_le {e : Nat} : ∀ {c p x : Nat}, s_bsE f e c p = some x → p ≤ x := by
  intro c
  induction c with
  | zero => intro p x h; cases h; omega
  | succ c ih =>
    intro p x h
    unfold s_bsE at h
    split at h
    · cases h
    · have := ih h
      omega
theorem s_bsE_in {e c i p : Nat} (h : s_bsE f e (c - i) p = some e) : i < c → p + 4 ≤ e ∧ p + 4 + 2 * by2 f (p + 2) ≤ e ∧ s_bsE f e (c - (i + 1)) (p + 4 + 2 * by2 f (p + 2)) = some e := by
  intro hi
  rw [s_bsE_st hi] at h
  split at h
  · cases h
  · exact ⟨by omega, s_bsE_le h, h⟩
end ATB
theorem dy_char1 {g : xe_G} {M : mi_H} {f : Nat → Int32} {n N q : Nat} {E : List (Nat × Nat)} {j : Nat}  (hV : PV g f n N E q M) (hj : j < 65536) (hl : 0 < (tX f n E j).length) : pt (mT g) 113 [.ref q, .int (nI j), .int 0] M (fun v M' => (v = some (.int (nI ((tX f n E j).getD 0 0))) ∧ M = M')) := (dy_characterAt (i := 0) hV hj (by decide)).mono (fun v M' h => ⟨by rw [h.1, if_pos hl], h.2⟩)
set_option maxHeartbeats 1000000 in
theorem dk_constantTag {g : xe_G} {M : mi_H} {f : Nat → Int32} {n N q : Nat} {E : List (Nat × Nat)} {ac c b da vd fr mr fa ic mj na pa : Nat} {mi ru wa s1 k1 k2 k3 k4 k5 k6 k7 : Int32} {d : Nat} (h_ac : M.1 ac = some (ob 0 [.ref c, .ref b, .ref q, .ref vd, .int s1])) (h_b : M.1 b = some (ob 1 [.ref da])) (h_da : M.1 da = some (ar .byte n f)) (hn : n ≤ 65540) (hd : d < 65536) (hV : PV g f n N E q M) : pt (mT g) 31 [.ref ac, .int (nI d)] M (fun v M' => ((ctS (tX f n E d) = none) ∧ v = some (.int (-1)) ∧ M = M') ∨ (∃ (x : Nat), (ctS (tX f n E d) = some x) ∧ (x < 10) ∧ v = some (.int (nI x)) ∧ M = M')) := by
  refine pt_in (b := mb_31 g) rfl (fun kf => ?_)
  show pl (mT g) kf (mb_31 g).2 (0, [(0, .ref ac), (1, .int (nI d))], [], M) _
  have hl8 := tx_len f n E d
  refine ps_st (S' := (1, [(0, .ref ac), (1, .int (nI d))], [.ref ac], M)) rfl rfl rfl ?_
  refine ps_get (S' := (4, [(0, .ref ac), (1, .int (nI d))], [.ref q], M)) rfl h_ac rfl rfl ?_
  refine ps_st (S' := (5, [(0, .ref ac), (1, .int (nI d))], [.int (nI d), .ref q], M)) rfl rfl rfl ?_
  refine ps_st (S' := (7, [(0, .ref ac), (1, .int (nI d))], [.ref (g.2.1 9), .int (nI d), .ref q], M)) rfl rfl rfl ?_
  refine pl_call (a := [.ref q, .int (nI d), .ref (g.2.1 9)]) (rest := []) rfl rfl rfl (dy_textIs (f := f) (n := n) (N := N) (q := q) (E := E) (j := d) (k := 9) (hV) (by omega) (by decide)) (fun v1 M2 q3 => ?_)
  obtain ⟨rfl, rfl⟩ := q3
  show pl _ _ _ (10, [(0, .ref ac), (1, .int (nI d))], [.int (nI (eqN (tX f n E d) (ltx 9)))], M) _
  refine ps_if (S1 := (16, [(0, .ref ac), (1, .int (nI d))], [], M)) (S2 := (13, [(0, .ref ac), (1, .int (nI d))], [], M)) rfl rfl rfl (fun c_10 => ?_) (fun c_10 => ?_)
  · have c_10 : (nI (eqN (tX f n E d) (ltx 9))) = 0 := of_decide_eq_true c_10
    have n_10 : eqN (tX f n E d) (ltx 9) = 0 := (eq_nI (p := eqN (tX f n E d) (ltx 9)) (n := 0) (Nat.lt_trans (le1_eq _ _) (by decide)) (by decide)).mp c_10
    refine ps_st (S' := (17, [(0, .ref ac), (1, .int (nI d))], [.ref ac], M)) rfl rfl rfl ?_
    refine ps_get (S' := (20, [(0, .ref ac), (1, .int (nI d))], [.ref q], M)) rfl h_ac rfl rfl ?_
    refine ps_st (S' := (21, [(0, .ref ac), (1, .int (nI d))], [.int (nI d), .ref q], M)) rfl rfl rfl ?_
    refine pl_call (a := [.ref q, .int (nI d)]) (rest := []) rfl rfl rfl (dy_textLength (f := f) (n := n) (N := N) (q := q) (E := E) (j := d) (hV) (by omega)) (fun v4 M5 q6 => ?_)
    obtain ⟨rfl, rfl⟩ := q6
    show pl _ _ _ (24, [(0, .ref ac), (1, .int (nI d))], [.int (nI ((tX f n E d).length))], M) _
    refine ps_st (S' := (25, [(0, .ref ac), (1, .int (nI d))], [.int 1, .int (nI ((tX f n E d).length))], M)) rfl rfl rfl ?_
    refine ps_if2 (S1 := (30, [(0, .ref ac), (1, .int (nI d))], [], M)) (S2 := (28, [(0, .ref ac), (1, .int (nI d))], [], M)) rfl rfl rfl (fun c_25 => ?_) (fun c_25 => ?_)
    · have c_25 : (nI ((tX f n E d).length)) = 1 := of_decide_eq_true c_25
      have n_25 : (tX f n E d).length = 1 := (eq_nI (p := (tX f n E d).length) (n := 1) (Nat.lt_trans (tx_len _ _ _ _) (by decide)) (by decide)).mp c_25
      refine ps_st (S' := (31, [(0, .ref ac), (1, .int (nI d))], [.ref ac], M)) rfl rfl rfl ?_
      refine ps_get (S' := (34, [(0, .ref ac), (1, .int (nI d))], [.ref q], M)) rfl h_ac rfl rfl ?_
      refine ps_st (S' := (35, [(0, .ref ac), (1, .int (nI d))], [.int (nI d), .ref q], M)) rfl rfl rfl ?_
      refine ps_st (S' := (36, [(0, .ref ac), (1, .int (nI d))], [.int 0, .int (nI d), .ref q], M)) rfl rfl rfl ?_
      refine pl_call (a := [.ref q, .int (nI d), .int 0]) (rest := []) rfl rfl rfl (dy_char1 (f := f) (n := n) (N := N) (q := q) (E := E) (j := d) (hV) (by omega) (by omega)) (fun v7 M8 q9 => ?_)
      obtain ⟨rfl, rfl⟩ := q9
      show pl _ _ _ (39, [(0, .ref ac), (1, .int (nI d))], [.int (nI ((tX f n E d).getD 0 0))], M) _
      have hb_36 := tx_ch f n E d 0
      refine pl_sw rfl (fun t_39 et_39 => ?_)
      have ht_39 : t_39 ∈ [72, 74, 76, 79] := mi_sw_sub et_39 (by decide)
      simp only [List.mem_cons, List.not_mem_nil, or_false] at ht_39
      rcases ht_39 with rfl | rfl | rfl | rfl
      · show pl _ _ _ (72, [(0, .ref ac), (1, .int (nI d))], [], M) _
        obtain ⟨x9, hx9⟩ : ∃ x9, x9 = (tX f n E d).getD 0 0 := ⟨_, rfl⟩
        have et9 := et_39
        rw [← hx9] at et9
        have hb9 : x9 < 65536 := by rw [hx9]; exact (tx_ch _ _ _ _ _)
        have m_39 := sw_nat (t := x9) (by omega) et9
        simp at m_39
        refine ps_st (S' := (73, [(0, .ref ac), (1, .int (nI d))], [.int 4], M)) rfl rfl rfl ?_
        exact ps_ret rfl rfl (Or.inr ⟨4, by
            unfold ctS
            first | ((repeat first | rw [if_pos (by omega)] | rw [if_neg (by omega)]) <;> first | rfl | omega) | ((repeat' split) <;> first | rfl | (exfalso; omega) | omega), by decide, rfl, rfl⟩)
      · show pl _ _ _ (74, [(0, .ref ac), (1, .int (nI d))], [], M) _
        obtain ⟨x9, hx9⟩ : ∃ x9, x9 = (tX f n E d).getD 0 0 := ⟨_, rfl⟩
        have et9 := et_39
        rw [← hx9] at et9
        have hb9 : x9 < 65536 := by rw [hx9]; exact (tx_ch _ _ _ _ _)
        have m_39 := sw_nat (t := x9) (by omega) et9
        simp at m_39
        refine ps_st (S' := (75, [(0, .ref ac), (1, .int (nI d))], [.int 5], M)) rfl rfl rfl ?_
        exact ps_ret rfl rfl (Or.inr ⟨5, by
            unfold ctS
            first | ((repeat first | rw [if_pos (by omega)] | rw [if_neg (by omega)]) <;> first | rfl | omega) | ((repeat' split) <;> first | rfl | (exfalso; omega) | omega), by decide, rfl, rfl⟩)
      · show pl _ _ _ (76, [(0, .ref ac), (1, .int (nI d))], [], M) _
        obtain ⟨x9, hx9⟩ : ∃ x9, x9 = (tX f n E d).getD 0 0 := ⟨_, rfl⟩
        have et9 := et_39
        rw [← hx9] at et9
        have hb9 : x9 < 65536 := by rw [hx9]; exact (tx_ch _ _ _ _ _)
        have m_39 := sw_nat (t := x9) (by omega) et9
        simp at m_39
        refine ps_st (S' := (78, [(0, .ref ac), (1, .int (nI d))], [.int 6], M)) rfl rfl rfl ?_
        exact ps_ret rfl rfl (Or.inr ⟨6, by
            unfold ctS
            first | ((repeat first | rw [if_pos (by omega)] | rw [if_neg (by omega)]) <;> first | rfl | omega) | ((repeat' split) <;> first | rfl | (exfalso; omega) | omega), by decide, rfl, rfl⟩)
      · show pl _ _ _ (79, [(0, .ref ac), (1, .int (nI d))], [], M) _
        obtain ⟨x9, hx9⟩ : ∃ x9, x9 = (tX f n E d).getD 0 0 := ⟨_, rfl⟩
        have et9 := et_39
        rw [← hx9] at et9
        have hb9 : x9 < 65536 := by rw [hx9]; exact (tx_ch _ _ _ _ _)
        have m_39 := sw_nat (t := x9) (by omega) et9
        simp at m_39
        refine ps_st (S' := (80, [(0, .ref ac), (1, .int (nI d))], [.int 3], M)) rfl rfl rfl ?_
        exact ps_ret rfl rfl (Or.inr ⟨3, by
            unfold ctS
            first | ((repeat first | rw [if_pos (by omega)] | rw [if_neg (by omega)]) <;> first | rfl | omega) | ((repeat' split) <;> first | rfl | (exfalso; omega) | omega), by decide, rfl, rfl⟩)
    · have c_25 : ¬ ((nI ((tX f n E d).length)) = 1) := of_decide_eq_false c_25
      have n_25 : ¬ ((tX f n E d).length = 1) := fun h9 => c_25 ((eq_nI (p := (tX f n E d).length) (n := 1) (Nat.lt_trans (tx_len _ _ _ _) (by decide)) (by decide)).mpr h9)
      refine ps_st (S' := (29, [(0, .ref ac), (1, .int (nI d))], [.int (-1)], M)) rfl rfl rfl ?_
      exact ps_ret rfl rfl (Or.inl ⟨by
          unfold ctS
          first | ((repeat first | rw [if_pos (by omega)] | rw [if_neg (by omega)]) <;> first | rfl | omega) | ((repeat' split) <;> first | rfl | (exfalso; omega) | omega), rfl, rfl⟩)
  · have c_10 : ¬ ((nI (eqN (tX f n E d) (ltx 9))) = 0) := of_decide_eq_false c_10
    have n_10 : ¬ (eqN (tX f n E d) (ltx 9) = 0) := fun h9 => c_10 ((eq_nI (p := eqN (tX f n E d) (ltx 9)) (n := 0) (Nat.lt_trans (le1_eq _ _) (by decide)) (by decide)).mpr h9)
    refine ps_st (S' := (15, [(0, .ref ac), (1, .int (nI d))], [.int 8], M)) rfl rfl rfl ?_
    exact ps_ret rfl rfl (Or.inr ⟨8, by
        unfold ctS
        first | ((repeat first | rw [if_pos (by omega)] | rw [if_neg (by omega)]) <;> first | rfl | omega) | ((repeat' split) <;> first | rfl | (exfalso; omega) | omega), by decide, rfl, rfl⟩)
set_option maxHeartbeats 1000000 in
theorem dk_methodKind {g : xe_G} {M : mi_H} {f : Nat → Int32} {n N q : Nat} {E : List (Nat × Nat)} {ac c b da vd fr mr fa ic mj na pa : Nat} {mi ru wa s1 k1 k2 k3 k4 k5 k6 k7 : Int32} {x : Nat} (h_ac : M.1 ac = some (ob 0 [.ref c, .ref b, .ref q, .ref vd, .int s1])) (h_b : M.1 b = some (ob 1 [.ref da])) (h_da : M.1 da = some (ar .byte n f)) (hn : n ≤ 65540) (hx : x < 65536) (hV : PV g f n N E q M) : pt (mT g) 37 [.ref ac, .int (nI x)] M (fun v M' => (v = some (.int (nI (mkN f n E x))) ∧ M = M')) := by
  refine pt_in (b := mb_37 g) rfl (fun kf => ?_)
  show pl (mT g) kf (mb_37 g).2 (0, [(0, .ref ac), (1, .int (nI x))], [], M) _
  refine ps_st (S' := (1, [(0, .ref ac), (1, .int (nI x))], [.ref ac], M)) rfl rfl rfl ?_
  refine ps_get (S' := (4, [(0, .ref ac), (1, .int (nI x))], [.ref q], M)) rfl h_ac rfl rfl ?_
  refine ps_st (S' := (5, [(0, .ref ac), (1, .int (nI x))], [.int (nI x), .ref q], M)) rfl rfl rfl ?_
  refine ps_st (S' := (7, [(0, .ref ac), (1, .int (nI x))], [.ref (g.2.1 1), .int (nI x), .ref q], M)) rfl rfl rfl ?_
  refine pl_call (a := [.ref q, .int (nI x), .ref (g.2.1 1)]) (rest := []) rfl rfl rfl (dy_textIs (f := f) (n := n) (N := N) (q := q) (E := E) (j := x) (k := 1) (hV) (by omega) (by decide)) (fun v1 M2 q3 => ?_)
  obtain ⟨rfl, rfl⟩ := q3
  show pl _ _ _ (10, [(0, .ref ac), (1, .int (nI x))], [.int (nI (eqN (tX f n E x) (ltx 1)))], M) _
  refine ps_if (S1 := (15, [(0, .ref ac), (1, .int (nI x))], [], M)) (S2 := (13, [(0, .ref ac), (1, .int (nI x))], [], M)) rfl rfl rfl (fun c_10 => ?_) (fun c_10 => ?_)
  · have c_10 : (nI (eqN (tX f n E x) (ltx 1))) = 0 := of_decide_eq_true c_10
    have n_10 : eqN (tX f n E x) (ltx 1) = 0 := (eq_nI (p := eqN (tX f n E x) (ltx 1)) (n := 0) (Nat.lt_trans (le1_eq _ _) (by decide)) (by decide)).mp c_10
    refine ps_st (S' := (16, [(0, .ref ac), (1, .int (nI x))], [.ref ac], M)) rfl rfl rfl ?_
    refine ps_get (S' := (19, [(0, .ref ac), (1, .int (nI x))], [.ref q], M)) rfl h_ac rfl rfl ?_
    refine ps_st (S' := (20, [(0, .ref ac), (1, .int (nI x))], [.int (nI x), .ref q], M)) rfl rfl rfl ?_
    refine ps_st (S' := (22, [(0, .ref ac), (1, .int (nI x))], [.ref (g.2.1 2), .int (nI x), .ref q], M)) rfl rfl rfl ?_
    refine pl_call (a := [.ref q, .int (nI x), .ref (g.2.1 2)]) (rest := []) rfl rfl rfl (dy_textIs (f := f) (n := n) (N := N) (q := q) (E := E) (j := x) (k := 2) (hV) (by omega) (by decide)) (fun v4 M5 q6 => ?_)
    obtain ⟨rfl, rfl⟩ := q6
    show pl _ _ _ (25, [(0, .ref ac), (1, .int (nI x))], [.int (nI (eqN (tX f n E x) (ltx 2)))], M) _
    refine ps_if (S1 := (32, [(0, .ref ac), (1, .int (nI x))], [], M)) (S2 := (28, [(0, .ref ac), (1, .int (nI x))], [], M)) rfl rfl rfl (fun c_25 => ?_) (fun c_25 => ?_)
    · have c_25 : (nI (eqN (tX f n E x) (ltx 2))) = 0 := of_decide_eq_true c_25
      have n_25 : eqN (tX f n E x) (ltx 2) = 0 := (eq_nI (p := eqN (tX f n E x) (ltx 2)) (n := 0) (Nat.lt_trans (le1_eq _ _) (by decide)) (by decide)).mp c_25
      refine ps_st (S' := (33, [], [.int 0], M)) rfl rfl rfl ?_
      exact ps_ret rfl rfl (⟨congrArg (fun x => some (Value.int (nI x))) (show 0 = mkN f n E x from by
          unfold mkN
          first | ((repeat first | rw [if_pos (by omega)] | rw [if_neg (by omega)]) <;> first | rfl | omega) | ((repeat' split) <;> first | rfl | (exfalso; omega) | omega)), rfl⟩)
    · have c_25 : ¬ ((nI (eqN (tX f n E x) (ltx 2))) = 0) := of_decide_eq_false c_25
      have n_25 : ¬ (eqN (tX f n E x) (ltx 2) = 0) := fun h9 => c_25 ((eq_nI (p := eqN (tX f n E x) (ltx 2)) (n := 0) (Nat.lt_trans (le1_eq _ _) (by decide)) (by decide)).mpr h9)
      refine ps_st (S' := (29, [(0, .ref ac), (1, .int (nI x))], [.int 3], M)) rfl rfl rfl ?_
      refine ps_st (S' := (33, [], [.int 3], M)) rfl rfl rfl ?_
      exact ps_ret rfl rfl (⟨congrArg (fun x => some (Value.int (nI x))) (show 3 = mkN f n E x from by
          unfold mkN
          first | ((repeat first | rw [if_pos (by omega)] | rw [if_neg (by omega)]) <;> first | rfl | omega) | ((repeat' split) <;> first | rfl | (exfalso; omega) | omega)), rfl⟩)
  · have c_10 : ¬ ((nI (eqN (tX f n E x) (ltx 1))) = 0) := of_decide_eq_false c_10
    have n_10 : ¬ (eqN (tX f n E x) (ltx 1) = 0) := fun h9 => c_10 ((eq_nI (p := eqN (tX f n E x) (ltx 1)) (n := 0) (Nat.lt_trans (le1_eq _ _) (by decide)) (by decide)).mpr h9)
    refine ps_st (S' := (14, [(0, .ref ac), (1, .int (nI x))], [.int 2], M)) rfl rfl rfl ?_
    exact ps_ret rfl rfl (⟨congrArg (fun x => some (Value.int (nI x))) (show 2 = mkN f n E x from by
        unfold mkN
        first | ((repeat first | rw [if_pos (by omega)] | rw [if_neg (by omega)]) <;> first | rfl | omega) | ((repeat' split) <;> first | rfl | (exfalso; omega) | omega)), rfl⟩)
set_option maxHeartbeats 1000000 in
theorem dk_classKind {g : xe_G} {M : mi_H} {f : Nat → Int32} {n N q : Nat} {E : List (Nat × Nat)} {ac c b da vd fr mr fa ic mj na pa : Nat} {mi ru wa s1 k1 k2 k3 k4 k5 k6 k7 : Int32} {x : Nat} (h_ac : M.1 ac = some (ob 0 [.ref c, .ref b, .ref q, .ref vd, .int s1])) (h_b : M.1 b = some (ob 1 [.ref da])) (h_da : M.1 da = some (ar .byte n f)) (h_c : M.1 c = some (ob 3 [.ref b, .ref q, .int mi, .int (nI mj), .int (nI fa), .int (nI ic), .ref fr, .ref mr, .int (nI na), .int (nI pa), .int k1, .int k2, .int k3, .int k4, .int k5, .int k6, .int k7])) (hn : n ≤ 65540) (hmj : mj < 65536) (hx : x < 65536) (hV : PV g f n N E q M) : pt (mT g) 27 [.ref ac, .int (nI x)] M (fun v M' => (v = some (.int (nI (ckN f n E mj x))) ∧ M = M')) := by
  refine pt_in (b := mb_27 g) rfl (fun kf => ?_)
  show pl (mT g) kf (mb_27 g).2 (0, [(0, .ref ac), (1, .int (nI x))], [], M) _
  refine ps_st (S' := (1, [(0, .ref ac), (1, .int (nI x))], [.ref ac], M)) rfl rfl rfl ?_
  refine ps_get (S' := (4, [(0, .ref ac), (1, .int (nI x))], [.ref q], M)) rfl h_ac rfl rfl ?_
  refine ps_st (S' := (5, [(0, .ref ac), (1, .int (nI x))], [.int (nI x), .ref q], M)) rfl rfl rfl ?_
  refine ps_st (S' := (7, [(0, .ref ac), (1, .int (nI x))], [.ref (g.2.1 3), .int (nI x), .ref q], M)) rfl rfl rfl ?_
  refine pl_call (a := [.ref q, .int (nI x), .ref (g.2.1 3)]) (rest := []) rfl rfl rfl (dy_textIs (f := f) (n := n) (N := N) (q := q) (E := E) (j := x) (k := 3) (hV) (by omega) (by decide)) (fun v1 M2 q3 => ?_)
  obtain ⟨rfl, rfl⟩ := q3
  show pl _ _ _ (10, [(0, .ref ac), (1, .int (nI x))], [.int (nI (eqN (tX f n E x) (ltx 3)))], M) _
  refine ps_if (S1 := (15, [(0, .ref ac), (1, .int (nI x))], [], M)) (S2 := (13, [(0, .ref ac), (1, .int (nI x))], [], M)) rfl rfl rfl (fun c_10 => ?_) (fun c_10 => ?_)
  · have c_10 : (nI (eqN (tX f n E x) (ltx 3))) = 0 := of_decide_eq_true c_10
    have n_10 : eqN (tX f n E x) (ltx 3) = 0 := (eq_nI (p := eqN (tX f n E x) (ltx 3)) (n := 0) (Nat.lt_trans (le1_eq _ _) (by decide)) (by decide)).mp c_10
    refine ps_st (S' := (16, [(0, .ref ac), (1, .int (nI x))], [.ref ac], M)) rfl rfl rfl ?_
    refine ps_get (S' := (19, [(0, .ref ac), (1, .int (nI x))], [.ref c], M)) rfl h_ac rfl rfl ?_
    refine ps_get (S' := (22, [(0, .ref ac), (1, .int (nI x))], [.int (nI mj)], M)) rfl h_c rfl rfl ?_
    refine ps_st (S' := (24, [(0, .ref ac), (1, .int (nI x))], [.int 51, .int (nI mj)], M)) rfl rfl rfl ?_
    refine ps_if2 (S1 := (43, [(0, .ref ac), (1, .int (nI x))], [], M)) (S2 := (27, [(0, .ref ac), (1, .int (nI x))], [], M)) rfl rfl rfl (fun c_24 => ?_) (fun c_24 => ?_)
    · have c_24 : (nI mj) < 51 := of_decide_eq_true c_24
      have n_24 : mj < 51 := (lt_nI (p := mj) (n := 51) (by omega) (by decide)).mp c_24
      refine ps_st (S' := (44, [(0, .ref ac), (1, .int (nI x))], [.ref ac], M)) rfl rfl rfl ?_
      refine ps_get (S' := (47, [(0, .ref ac), (1, .int (nI x))], [.ref c], M)) rfl h_ac rfl rfl ?_
      refine ps_get (S' := (50, [(0, .ref ac), (1, .int (nI x))], [.int (nI mj)], M)) rfl h_c rfl rfl ?_
      refine ps_st (S' := (52, [(0, .ref ac), (1, .int (nI x))], [.int 55, .int (nI mj)], M)) rfl rfl rfl ?_
      refine ps_if2 (S1 := (71, [(0, .ref ac), (1, .int (nI x))], [], M)) (S2 := (55, [(0, .ref ac), (1, .int (nI x))], [], M)) rfl rfl rfl (fun c_52 => ?_) (fun c_52 => ?_)
      · have c_52 : (nI mj) < 55 := of_decide_eq_true c_52
        have n_52 : mj < 55 := (lt_nI (p := mj) (n := 55) (by omega) (by decide)).mp c_52
        refine ps_st (S' := (72, [(0, .ref ac), (1, .int (nI x))], [.ref ac], M)) rfl rfl rfl ?_
        refine ps_get (S' := (75, [(0, .ref ac), (1, .int (nI x))], [.ref c], M)) rfl h_ac rfl rfl ?_
        refine ps_get (S' := (78, [(0, .ref ac), (1, .int (nI x))], [.int (nI mj)], M)) rfl h_c rfl rfl ?_
        refine ps_st (S' := (80, [(0, .ref ac), (1, .int (nI x))], [.int 55, .int (nI mj)], M)) rfl rfl rfl ?_
        refine ps_if2 (S1 := (99, [(0, .ref ac), (1, .int (nI x))], [], M)) (S2 := (83, [(0, .ref ac), (1, .int (nI x))], [], M)) rfl rfl rfl (fun c_80 => ?_) (fun c_80 => ?_)
        · have c_80 : (nI mj) < 55 := of_decide_eq_true c_80
          have n_80 : mj < 55 := (lt_nI (p := mj) (n := 55) (by omega) (by decide)).mp c_80
          refine ps_st (S' := (100, [(0, .ref ac), (1, .int (nI x))], [.ref ac], M)) rfl rfl rfl ?_
          refine ps_get (S' := (103, [(0, .ref ac), (1, .int (nI x))], [.ref c], M)) rfl h_ac rfl rfl ?_
          refine ps_get (S' := (106, [(0, .ref ac), (1, .int (nI x))], [.int (nI mj)], M)) rfl h_c rfl rfl ?_
          refine ps_st (S' := (108, [(0, .ref ac), (1, .int (nI x))], [.int 60, .int (nI mj)], M)) rfl rfl rfl ?_
          refine ps_if2 (S1 := (127, [(0, .ref ac), (1, .int (nI x))], [], M)) (S2 := (111, [(0, .ref ac), (1, .int (nI x))], [], M)) rfl rfl rfl (fun c_108 => ?_) (fun c_108 => ?_)
          · have c_108 : (nI mj) < 60 := of_decide_eq_true c_108
            have n_108 : mj < 60 := (lt_nI (p := mj) (n := 60) (by omega) (by decide)).mp c_108
            refine ps_st (S' := (128, [(0, .ref ac), (1, .int (nI x))], [.ref ac], M)) rfl rfl rfl ?_
            refine ps_get (S' := (131, [(0, .ref ac), (1, .int (nI x))], [.ref c], M)) rfl h_ac rfl rfl ?_
            refine ps_get (S' := (134, [(0, .ref ac), (1, .int (nI x))], [.int (nI mj)], M)) rfl h_c rfl rfl ?_
            refine ps_st (S' := (136, [(0, .ref ac), (1, .int (nI x))], [.int 61, .int (nI mj)], M)) rfl rfl rfl ?_
            refine ps_if2 (S1 := (155, [], [], M)) (S2 := (139, [(0, .ref ac), (1, .int (nI x))], [], M)) rfl rfl rfl (fun c_136 => ?_) (fun c_136 => ?_)
            · have c_136 : (nI mj) < 61 := of_decide_eq_true c_136
              have n_136 : mj < 61 := (lt_nI (p := mj) (n := 61) (by omega) (by decide)).mp c_136
              refine ps_st (S' := (156, [], [.int 0], M)) rfl rfl rfl ?_
              exact ps_ret rfl rfl (⟨congrArg (fun x => some (Value.int (nI x))) (show 0 = ckN f n E mj x from by
                  unfold ckN
                  first | ((repeat first | rw [if_pos (by omega)] | rw [if_neg (by omega)]) <;> first | rfl | omega) | ((repeat' split) <;> first | rfl | (exfalso; omega) | omega)), rfl⟩)
            · have c_136 : ¬ ((nI mj) < 61) := of_decide_eq_false c_136
              have n_136 : ¬ (mj < 61) := fun h9 => c_136 ((lt_nI (p := mj) (n := 61) (by omega) (by decide)).mpr h9)
              refine ps_st (S' := (140, [(0, .ref ac), (1, .int (nI x))], [.ref ac], M)) rfl rfl rfl ?_
              refine ps_get (S' := (143, [(0, .ref ac), (1, .int (nI x))], [.ref q], M)) rfl h_ac rfl rfl ?_
              refine ps_st (S' := (144, [(0, .ref ac), (1, .int (nI x))], [.int (nI x), .ref q], M)) rfl rfl rfl ?_
              refine ps_st (S' := (146, [(0, .ref ac), (1, .int (nI x))], [.ref (g.2.1 8), .int (nI x), .ref q], M)) rfl rfl rfl ?_
              refine pl_call (a := [.ref q, .int (nI x), .ref (g.2.1 8)]) (rest := []) rfl rfl rfl (dy_textIs (f := f) (n := n) (N := N) (q := q) (E := E) (j := x) (k := 8) (hV) (by omega) (by decide)) (fun v4 M5 q6 => ?_)
              obtain ⟨rfl, rfl⟩ := q6
              show pl _ _ _ (149, [(0, .ref ac), (1, .int (nI x))], [.int (nI (eqN (tX f n E x) (ltx 8)))], M) _
              refine ps_if (S1 := (155, [], [], M)) (S2 := (152, [(0, .ref ac), (1, .int (nI x))], [], M)) rfl rfl rfl (fun c_149 => ?_) (fun c_149 => ?_)
              · have c_149 : (nI (eqN (tX f n E x) (ltx 8))) = 0 := of_decide_eq_true c_149
                have n_149 : eqN (tX f n E x) (ltx 8) = 0 := (eq_nI (p := eqN (tX f n E x) (ltx 8)) (n := 0) (Nat.lt_trans (le1_eq _ _) (by decide)) (by decide)).mp c_149
                refine ps_st (S' := (156, [], [.int 0], M)) rfl rfl rfl ?_
                exact ps_ret rfl rfl (⟨congrArg (fun x => some (Value.int (nI x))) (show 0 = ckN f n E mj x from by
                    unfold ckN
                    first | ((repeat first | rw [if_pos (by omega)] | rw [if_neg (by omega)]) <;> first | rfl | omega) | ((repeat' split) <;> first | rfl | (exfalso; omega) | omega)), rfl⟩)
              · have c_149 : ¬ ((nI (eqN (tX f n E x) (ltx 8))) = 0) := of_decide_eq_false c_149
                have n_149 : ¬ (eqN (tX f n E x) (ltx 8) = 0) := fun h9 => c_149 ((eq_nI (p := eqN (tX f n E x) (ltx 8)) (n := 0) (Nat.lt_trans (le1_eq _ _) (by decide)) (by decide)).mpr h9)
                refine ps_st (S' := (154, [(0, .ref ac), (1, .int (nI x))], [.int 10], M)) rfl rfl rfl ?_
                exact ps_ret rfl rfl (⟨congrArg (fun x => some (Value.int (nI x))) (show 10 = ckN f n E mj x from by
                    unfold ckN
                    first | ((repeat first | rw [if_pos (by omega)] | rw [if_neg (by omega)]) <;> first | rfl | omega) | ((repeat' split) <;> first | rfl | (exfalso; omega) | omega)), rfl⟩)
          · have c_108 : ¬ ((nI mj) < 60) := of_decide_eq_false c_108
            have n_108 : ¬ (mj < 60) := fun h9 => c_108 ((lt_nI (p := mj) (n := 60) (by omega) (by decide)).mpr h9)
            refine ps_st (S' := (112, [(0, .ref ac), (1, .int (nI x))], [.ref ac], M)) rfl rfl rfl ?_
            refine ps_get (S' := (115, [(0, .ref ac), (1, .int (nI x))], [.ref q], M)) rfl h_ac rfl rfl ?_
            refine ps_st (S' := (116, [(0, .ref ac), (1, .int (nI x))], [.int (nI x), .ref q], M)) rfl rfl rfl ?_
            refine ps_st (S' := (118, [(0, .ref ac), (1, .int (nI x))], [.ref (g.2.1 7), .int (nI x), .ref q], M)) rfl rfl rfl ?_
            refine pl_call (a := [.ref q, .int (nI x), .ref (g.2.1 7)]) (rest := []) rfl rfl rfl (dy_textIs (f := f) (n := n) (N := N) (q := q) (E := E) (j := x) (k := 7) (hV) (by omega) (by decide)) (fun v7 M8 q9 => ?_)
            obtain ⟨rfl, rfl⟩ := q9
            show pl _ _ _ (121, [(0, .ref ac), (1, .int (nI x))], [.int (nI (eqN (tX f n E x) (ltx 7)))], M) _
            refine ps_if (S1 := (127, [(0, .ref ac), (1, .int (nI x))], [], M)) (S2 := (124, [(0, .ref ac), (1, .int (nI x))], [], M)) rfl rfl rfl (fun c_121 => ?_) (fun c_121 => ?_)
            · have c_121 : (nI (eqN (tX f n E x) (ltx 7))) = 0 := of_decide_eq_true c_121
              have n_121 : eqN (tX f n E x) (ltx 7) = 0 := (eq_nI (p := eqN (tX f n E x) (ltx 7)) (n := 0) (Nat.lt_trans (le1_eq _ _) (by decide)) (by decide)).mp c_121
              refine ps_st (S' := (128, [(0, .ref ac), (1, .int (nI x))], [.ref ac], M)) rfl rfl rfl ?_
              refine ps_get (S' := (131, [(0, .ref ac), (1, .int (nI x))], [.ref c], M)) rfl h_ac rfl rfl ?_
              refine ps_get (S' := (134, [(0, .ref ac), (1, .int (nI x))], [.int (nI mj)], M)) rfl h_c rfl rfl ?_
              refine ps_st (S' := (136, [(0, .ref ac), (1, .int (nI x))], [.int 61, .int (nI mj)], M)) rfl rfl rfl ?_
              refine ps_if2 (S1 := (155, [], [], M)) (S2 := (139, [(0, .ref ac), (1, .int (nI x))], [], M)) rfl rfl rfl (fun c_136 => ?_) (fun c_136 => ?_)
              · have c_136 : (nI mj) < 61 := of_decide_eq_true c_136
                have n_136 : mj < 61 := (lt_nI (p := mj) (n := 61) (by omega) (by decide)).mp c_136
                refine ps_st (S' := (156, [], [.int 0], M)) rfl rfl rfl ?_
                exact ps_ret rfl rfl (⟨congrArg (fun x => some (Value.int (nI x))) (show 0 = ckN f n E mj x from by
                    unfold ckN
                    first | ((repeat first | rw [if_pos (by omega)] | rw [if_neg (by omega)]) <;> first | rfl | omega) | ((repeat' split) <;> first | rfl | (exfalso; omega) | omega)), rfl⟩)
              · have c_136 : ¬ ((nI mj) < 61) := of_decide_eq_false c_136
                have n_136 : ¬ (mj < 61) := fun h9 => c_136 ((lt_nI (p := mj) (n := 61) (by omega) (by decide)).mpr h9)
                refine ps_st (S' := (140, [(0, .ref ac), (1, .int (nI x))], [.ref ac], M)) rfl rfl rfl ?_
                refine ps_get (S' := (143, [(0, .ref ac), (1, .int (nI x))], [.ref q], M)) rfl h_ac rfl rfl ?_
                refine ps_st (S' := (144, [(0, .ref ac), (1, .int (nI x))], [.int (nI x), .ref q], M)) rfl rfl rfl ?_
                refine ps_st (S' := (146, [(0, .ref ac), (1, .int (nI x))], [.ref (g.2.1 8), .int (nI x), .ref q], M)) rfl rfl rfl ?_
                refine pl_call (a := [.ref q, .int (nI x), .ref (g.2.1 8)]) (rest := []) rfl rfl rfl (dy_textIs (f := f) (n := n) (N := N) (q := q) (E := E) (j := x) (k := 8) (hV) (by omega) (by decide)) (fun v10 M11 q12 => ?_)
                obtain ⟨rfl, rfl⟩ := q12
                show pl _ _ _ (149, [(0, .ref ac), (1, .int (nI x))], [.int (nI (eqN (tX f n E x) (ltx 8)))], M) _
                refine ps_if (S1 := (155, [], [], M)) (S2 := (152, [(0, .ref ac), (1, .int (nI x))], [], M)) rfl rfl rfl (fun c_149 => ?_) (fun c_149 => ?_)
                · have c_149 : (nI (eqN (tX f n E x) (ltx 8))) = 0 := of_decide_eq_true c_149
                  have n_149 : eqN (tX f n E x) (ltx 8) = 0 := (eq_nI (p := eqN (tX f n E x) (ltx 8)) (n := 0) (Nat.lt_trans (le1_eq _ _) (by decide)) (by decide)).mp c_149
                  refine ps_st (S' := (156, [], [.int 0], M)) rfl rfl rfl ?_
                  exact ps_ret rfl rfl (⟨congrArg (fun x => some (Value.int (nI x))) (show 0 = ckN f n E mj x from by
                      unfold ckN
                      first | ((repeat first | rw [if_pos (by omega)] | rw [if_neg (by omega)]) <;> first | rfl | omega) | ((repeat' split) <;> first | rfl | (exfalso; omega) | omega)), rfl⟩)
                · have c_149 : ¬ ((nI (eqN (tX f n E x) (ltx 8))) = 0) := of_decide_eq_false c_149
                  have n_149 : ¬ (eqN (tX f n E x) (ltx 8) = 0) := fun h9 => c_149 ((eq_nI (p := eqN (tX f n E x) (ltx 8)) (n := 0) (Nat.lt_trans (le1_eq _ _) (by decide)) (by decide)).mpr h9)
                  refine ps_st (S' := (154, [(0, .ref ac), (1, .int (nI x))], [.int 10], M)) rfl rfl rfl ?_
                  exact ps_ret rfl rfl (⟨congrArg (fun x => some (Value.int (nI x))) (show 10 = ckN f n E mj x from by
                      unfold ckN
                      first | ((repeat first | rw [if_pos (by omega)] | rw [if_neg (by omega)]) <;> first | rfl | omega) | ((repeat' split) <;> first | rfl | (exfalso; omega) | omega)), rfl⟩)
            · have c_121 : ¬ ((nI (eqN (tX f n E x) (ltx 7))) = 0) := of_decide_eq_false c_121
              have n_121 : ¬ (eqN (tX f n E x) (ltx 7) = 0) := fun h9 => c_121 ((eq_nI (p := eqN (tX f n E x) (ltx 7)) (n := 0) (Nat.lt_trans (le1_eq _ _) (by decide)) (by decide)).mpr h9)
              refine ps_st (S' := (126, [(0, .ref ac), (1, .int (nI x))], [.int 9], M)) rfl rfl rfl ?_
              exact ps_ret rfl rfl (⟨congrArg (fun x => some (Value.int (nI x))) (show 9 = ckN f n E mj x from by
                  unfold ckN
                  first | ((repeat first | rw [if_pos (by omega)] | rw [if_neg (by omega)]) <;> first | rfl | omega) | ((repeat' split) <;> first | rfl | (exfalso; omega) | omega)), rfl⟩)
        · have c_80 : ¬ ((nI mj) < 55) := of_decide_eq_false c_80
          have n_80 : ¬ (mj < 55) := fun h9 => c_80 ((lt_nI (p := mj) (n := 55) (by omega) (by decide)).mpr h9)
          refine ps_st (S' := (84, [(0, .ref ac), (1, .int (nI x))], [.ref ac], M)) rfl rfl rfl ?_
          refine ps_get (S' := (87, [(0, .ref ac), (1, .int (nI x))], [.ref q], M)) rfl h_ac rfl rfl ?_
          refine ps_st (S' := (88, [(0, .ref ac), (1, .int (nI x))], [.int (nI x), .ref q], M)) rfl rfl rfl ?_
          refine ps_st (S' := (90, [(0, .ref ac), (1, .int (nI x))], [.ref (g.2.1 6), .int (nI x), .ref q], M)) rfl rfl rfl ?_
          refine pl_call (a := [.ref q, .int (nI x), .ref (g.2.1 6)]) (rest := []) rfl rfl rfl (dy_textIs (f := f) (n := n) (N := N) (q := q) (E := E) (j := x) (k := 6) (hV) (by omega) (by decide)) (fun v13 M14 q15 => ?_)
          obtain ⟨rfl, rfl⟩ := q15
          show pl _ _ _ (93, [(0, .ref ac), (1, .int (nI x))], [.int (nI (eqN (tX f n E x) (ltx 6)))], M) _
          refine ps_if (S1 := (99, [(0, .ref ac), (1, .int (nI x))], [], M)) (S2 := (96, [(0, .ref ac), (1, .int (nI x))], [], M)) rfl rfl rfl (fun c_93 => ?_) (fun c_93 => ?_)
          · have c_93 : (nI (eqN (tX f n E x) (ltx 6))) = 0 := of_decide_eq_true c_93
            have n_93 : eqN (tX f n E x) (ltx 6) = 0 := (eq_nI (p := eqN (tX f n E x) (ltx 6)) (n := 0) (Nat.lt_trans (le1_eq _ _) (by decide)) (by decide)).mp c_93
            refine ps_st (S' := (100, [(0, .ref ac), (1, .int (nI x))], [.ref ac], M)) rfl rfl rfl ?_
            refine ps_get (S' := (103, [(0, .ref ac), (1, .int (nI x))], [.ref c], M)) rfl h_ac rfl rfl ?_
            refine ps_get (S' := (106, [(0, .ref ac), (1, .int (nI x))], [.int (nI mj)], M)) rfl h_c rfl rfl ?_
            refine ps_st (S' := (108, [(0, .ref ac), (1, .int (nI x))], [.int 60, .int (nI mj)], M)) rfl rfl rfl ?_
            refine ps_if2 (S1 := (127, [(0, .ref ac), (1, .int (nI x))], [], M)) (S2 := (111, [(0, .ref ac), (1, .int (nI x))], [], M)) rfl rfl rfl (fun c_108 => ?_) (fun c_108 => ?_)
            · have c_108 : (nI mj) < 60 := of_decide_eq_true c_108
              have n_108 : mj < 60 := (lt_nI (p := mj) (n := 60) (by omega) (by decide)).mp c_108
              refine ps_st (S' := (128, [(0, .ref ac), (1, .int (nI x))], [.ref ac], M)) rfl rfl rfl ?_
              refine ps_get (S' := (131, [(0, .ref ac), (1, .int (nI x))], [.ref c], M)) rfl h_ac rfl rfl ?_
              refine ps_get (S' := (134, [(0, .ref ac), (1, .int (nI x))], [.int (nI mj)], M)) rfl h_c rfl rfl ?_
              refine ps_st (S' := (136, [(0, .ref ac), (1, .int (nI x))], [.int 61, .int (nI mj)], M)) rfl rfl rfl ?_
              refine ps_if2 (S1 := (155, [], [], M)) (S2 := (139, [(0, .ref ac), (1, .int (nI x))], [], M)) rfl rfl rfl (fun c_136 => ?_) (fun c_136 => ?_)
              · have c_136 : (nI mj) < 61 := of_decide_eq_true c_136
                have n_136 : mj < 61 := (lt_nI (p := mj) (n := 61) (by omega) (by decide)).mp c_136
                refine ps_st (S' := (156, [], [.int 0], M)) rfl rfl rfl ?_
                exact ps_ret rfl rfl (⟨congrArg (fun x => some (Value.int (nI x))) (show 0 = ckN f n E mj x from by
                    unfold ckN
                    first | ((repeat first | rw [if_pos (by omega)] | rw [if_neg (by omega)]) <;> first | rfl | omega) | ((repeat' split) <;> first | rfl | (exfalso; omega) | omega)), rfl⟩)
              · have c_136 : ¬ ((nI mj) < 61) := of_decide_eq_false c_136
                have n_136 : ¬ (mj < 61) := fun h9 => c_136 ((lt_nI (p := mj) (n := 61) (by omega) (by decide)).mpr h9)
                refine ps_st (S' := (140, [(0, .ref ac), (1, .int (nI x))], [.ref ac], M)) rfl rfl rfl ?_
                refine ps_get (S' := (143, [(0, .ref ac), (1, .int (nI x))], [.ref q], M)) rfl h_ac rfl rfl ?_
                refine ps_st (S' := (144, [(0, .ref ac), (1, .int (nI x))], [.int (nI x), .ref q], M)) rfl rfl rfl ?_
                refine ps_st (S' := (146, [(0, .ref ac), (1, .int (nI x))], [.ref (g.2.1 8), .int (nI x), .ref q], M)) rfl rfl rfl ?_
                refine pl_call (a := [.ref q, .int (nI x), .ref (g.2.1 8)]) (rest := []) rfl rfl rfl (dy_textIs (f := f) (n := n) (N := N) (q := q) (E := E) (j := x) (k := 8) (hV) (by omega) (by decide)) (fun v16 M17 q18 => ?_)
                obtain ⟨rfl, rfl⟩ := q18
                show pl _ _ _ (149, [(0, .ref ac), (1, .int (nI x))], [.int (nI (eqN (tX f n E x) (ltx 8)))], M) _
                refine ps_if (S1 := (155, [], [], M)) (S2 := (152, [(0, .ref ac), (1, .int (nI x))], [], M)) rfl rfl rfl (fun c_149 => ?_) (fun c_149 => ?_)
                · have c_149 : (nI (eqN (tX f n E x) (ltx 8))) = 0 := of_decide_eq_true c_149
                  have n_149 : eqN (tX f n E x) (ltx 8) = 0 := (eq_nI (p := eqN (tX f n E x) (ltx 8)) (n := 0) (Nat.lt_trans (le1_eq _ _) (by decide)) (by decide)).mp c_149
                  refine ps_st (S' := (156, [], [.int 0], M)) rfl rfl rfl ?_
                  exact ps_ret rfl rfl (⟨congrArg (fun x => some (Value.int (nI x))) (show 0 = ckN f n E mj x from by
                      unfold ckN
                      first | ((repeat first | rw [if_pos (by omega)] | rw [if_neg (by omega)]) <;> first | rfl | omega) | ((repeat' split) <;> first | rfl | (exfalso; omega) | omega)), rfl⟩)
                · have c_149 : ¬ ((nI (eqN (tX f n E x) (ltx 8))) = 0) := of_decide_eq_false c_149
                  have n_149 : ¬ (eqN (tX f n E x) (ltx 8) = 0) := fun h9 => c_149 ((eq_nI (p := eqN (tX f n E x) (ltx 8)) (n := 0) (Nat.lt_trans (le1_eq _ _) (by decide)) (by decide)).mpr h9)
                  refine ps_st (S' := (154, [(0, .ref ac), (1, .int (nI x))], [.int 10], M)) rfl rfl rfl ?_
                  exact ps_ret rfl rfl (⟨congrArg (fun x => some (Value.int (nI x))) (show 10 = ckN f n E mj x from by
                      unfold ckN
                      first | ((repeat first | rw [if_pos (by omega)] | rw [if_neg (by omega)]) <;> first | rfl | omega) | ((repeat' split) <;> first | rfl | (exfalso; omega) | omega)), rfl⟩)
            · have c_108 : ¬ ((nI mj) < 60) := of_decide_eq_false c_108
              have n_108 : ¬ (mj < 60) := fun h9 => c_108 ((lt_nI (p := mj) (n := 60) (by omega) (by decide)).mpr h9)
              refine ps_st (S' := (112, [(0, .ref ac), (1, .int (nI x))], [.ref ac], M)) rfl rfl rfl ?_
              refine ps_get (S' := (115, [(0, .ref ac), (1, .int (nI x))], [.ref q], M)) rfl h_ac rfl rfl ?_
              refine ps_st (S' := (116, [(0, .ref ac), (1, .int (nI x))], [.int (nI x), .ref q], M)) rfl rfl rfl ?_
              refine ps_st (S' := (118, [(0, .ref ac), (1, .int (nI x))], [.ref (g.2.1 7), .int (nI x), .ref q], M)) rfl rfl rfl ?_
              refine pl_call (a := [.ref q, .int (nI x), .ref (g.2.1 7)]) (rest := []) rfl rfl rfl (dy_textIs (f := f) (n := n) (N := N) (q := q) (E := E) (j := x) (k := 7) (hV) (by omega) (by decide)) (fun v19 M20 q21 => ?_)
              obtain ⟨rfl, rfl⟩ := q21
              show pl _ _ _ (121, [(0, .ref ac), (1, .int (nI x))], [.int (nI (eqN (tX f n E x) (ltx 7)))], M) _
              refine ps_if (S1 := (127, [(0, .ref ac), (1, .int (nI x))], [], M)) (S2 := (124, [(0, .ref ac), (1, .int (nI x))], [], M)) rfl rfl rfl (fun c_121 => ?_) (fun c_121 => ?_)
              · have c_121 : (nI (eqN (tX f n E x) (ltx 7))) = 0 := of_decide_eq_true c_121
                have n_121 : eqN (tX f n E x) (ltx 7) = 0 := (eq_nI (p := eqN (tX f n E x) (ltx 7)) (n := 0) (Nat.lt_trans (le1_eq _ _) (by decide)) (by decide)).mp c_121
                refine ps_st (S' := (128, [(0, .ref ac), (1, .int (nI x))], [.ref ac], M)) rfl rfl rfl ?_
                refine ps_get (S' := (131, [(0, .ref ac), (1, .int (nI x))], [.ref c], M)) rfl h_ac rfl rfl ?_
                refine ps_get (S' := (134, [(0, .ref ac), (1, .int (nI x))], [.int (nI mj)], M)) rfl h_c rfl rfl ?_
                refine ps_st (S' := (136, [(0, .ref ac), (1, .int (nI x))], [.int 61, .int (nI mj)], M)) rfl rfl rfl ?_
                refine ps_if2 (S1 := (155, [], [], M)) (S2 := (139, [(0, .ref ac), (1, .int (nI x))], [], M)) rfl rfl rfl (fun c_136 => ?_) (fun c_136 => ?_)
                · have c_136 : (nI mj) < 61 := of_decide_eq_true c_136
                  have n_136 : mj < 61 := (lt_nI (p := mj) (n := 61) (by omega) (by decide)).mp c_136
                  refine ps_st (S' := (156, [], [.int 0], M)) rfl rfl rfl ?_
                  exact ps_ret rfl rfl (⟨congrArg (fun x => some (Value.int (nI x))) (show 0 = ckN f n E mj x from by
                      unfold ckN
                      first | ((repeat first | rw [if_pos (by omega)] | rw [if_neg (by omega)]) <;> first | rfl | omega) | ((repeat' split) <;> first | rfl | (exfalso; omega) | omega)), rfl⟩)
                · have c_136 : ¬ ((nI mj) < 61) := of_decide_eq_false c_136
                  have n_136 : ¬ (mj < 61) := fun h9 => c_136 ((lt_nI (p := mj) (n := 61) (by omega) (by decide)).mpr h9)
                  refine ps_st (S' := (140, [(0, .ref ac), (1, .int (nI x))], [.ref ac], M)) rfl rfl rfl ?_
                  refine ps_get (S' := (143, [(0, .ref ac), (1, .int (nI x))], [.ref q], M)) rfl h_ac rfl rfl ?_
                  refine ps_st (S' := (144, [(0, .ref ac), (1, .int (nI x))], [.int (nI x), .ref q], M)) rfl rfl rfl ?_
                  refine ps_st (S' := (146, [(0, .ref ac), (1, .int (nI x))], [.ref (g.2.1 8), .int (nI x), .ref q], M)) rfl rfl rfl ?_
                  refine pl_call (a := [.ref q, .int (nI x), .ref (g.2.1 8)]) (rest := []) rfl rfl rfl (dy_textIs (f := f) (n := n) (N := N) (q := q) (E := E) (j := x) (k := 8) (hV) (by omega) (by decide)) (fun v22 M23 q24 => ?_)
                  obtain ⟨rfl, rfl⟩ := q24
                  show pl _ _ _ (149, [(0, .ref ac), (1, .int (nI x))], [.int (nI (eqN (tX f n E x) (ltx 8)))], M) _
                  refine ps_if (S1 := (155, [], [], M)) (S2 := (152, [(0, .ref ac), (1, .int (nI x))], [], M)) rfl rfl rfl (fun c_149 => ?_) (fun c_149 => ?_)
                  · have c_149 : (nI (eqN (tX f n E x) (ltx 8))) = 0 := of_decide_eq_true c_149
                    have n_149 : eqN (tX f n E x) (ltx 8) = 0 := (eq_nI (p := eqN (tX f n E x) (ltx 8)) (n := 0) (Nat.lt_trans (le1_eq _ _) (by decide)) (by decide)).mp c_149
                    refine ps_st (S' := (156, [], [.int 0], M)) rfl rfl rfl ?_
                    exact ps_ret rfl rfl (⟨congrArg (fun x => some (Value.int (nI x))) (show 0 = ckN f n E mj x from by
                        unfold ckN
                        first | ((repeat first | rw [if_pos (by omega)] | rw [if_neg (by omega)]) <;> first | rfl | omega) | ((repeat' split) <;> first | rfl | (exfalso; omega) | omega)), rfl⟩)
                  · have c_149 : ¬ ((nI (eqN (tX f n E x) (ltx 8))) = 0) := of_decide_eq_false c_149
                    have n_149 : ¬ (eqN (tX f n E x) (ltx 8) = 0) := fun h9 => c_149 ((eq_nI (p := eqN (tX f n E x) (ltx 8)) (n := 0) (Nat.lt_trans (le1_eq _ _) (by decide)) (by decide)).mpr h9)
                    refine ps_st (S' := (154, [(0, .ref ac), (1, .int (nI x))], [.int 10], M)) rfl rfl rfl ?_
                    exact ps_ret rfl rfl (⟨congrArg (fun x => some (Value.int (nI x))) (show 10 = ckN f n E mj x from by
                        unfold ckN
                        first | ((repeat first | rw [if_pos (by omega)] | rw [if_neg (by omega)]) <;> first | rfl | omega) | ((repeat' split) <;> first | rfl | (exfalso; omega) | omega)), rfl⟩)
              · have c_121 : ¬ ((nI (eqN (tX f n E x) (ltx 7))) = 0) := of_decide_eq_false c_121
                have n_121 : ¬ (eqN (tX f n E x) (ltx 7) = 0) := fun h9 => c_121 ((eq_nI (p := eqN (tX f n E x) (ltx 7)) (n := 0) (Nat.lt_trans (le1_eq _ _) (by decide)) (by decide)).mpr h9)
                refine ps_st (S' := (126, [(0, .ref ac), (1, .int (nI x))], [.int 9], M)) rfl rfl rfl ?_
                exact ps_ret rfl rfl (⟨congrArg (fun x => some (Value.int (nI x))) (show 9 = ckN f n E mj x from by
                    unfold ckN
                    first | ((repeat first | rw [if_pos (by omega)] | rw [if_neg (by omega)]) <;> first | rfl | omega) | ((repeat' split) <;> first | rfl | (exfalso; omega) | omega)), rfl⟩)
          · have c_93 : ¬ ((nI (eqN (tX f n E x) (ltx 6))) = 0) := of_decide_eq_false c_93
            have n_93 : ¬ (eqN (tX f n E x) (ltx 6) = 0) := fun h9 => c_93 ((eq_nI (p := eqN (tX f n E x) (ltx 6)) (n := 0) (Nat.lt_trans (le1_eq _ _) (by decide)) (by decide)).mpr h9)
            refine ps_st (S' := (98, [(0, .ref ac), (1, .int (nI x))], [.int 8], M)) rfl rfl rfl ?_
            exact ps_ret rfl rfl (⟨congrArg (fun x => some (Value.int (nI x))) (show 8 = ckN f n E mj x from by
                unfold ckN
                first | ((repeat first | rw [if_pos (by omega)] | rw [if_neg (by omega)]) <;> first | rfl | omega) | ((repeat' split) <;> first | rfl | (exfalso; omega) | omega)), rfl⟩)
      · have c_52 : ¬ ((nI mj) < 55) := of_decide_eq_false c_52
        have n_52 : ¬ (mj < 55) := fun h9 => c_52 ((lt_nI (p := mj) (n := 55) (by omega) (by decide)).mpr h9)
        refine ps_st (S' := (56, [(0, .ref ac), (1, .int (nI x))], [.ref ac], M)) rfl rfl rfl ?_
        refine ps_get (S' := (59, [(0, .ref ac), (1, .int (nI x))], [.ref q], M)) rfl h_ac rfl rfl ?_
        refine ps_st (S' := (60, [(0, .ref ac), (1, .int (nI x))], [.int (nI x), .ref q], M)) rfl rfl rfl ?_
        refine ps_st (S' := (62, [(0, .ref ac), (1, .int (nI x))], [.ref (g.2.1 5), .int (nI x), .ref q], M)) rfl rfl rfl ?_
        refine pl_call (a := [.ref q, .int (nI x), .ref (g.2.1 5)]) (rest := []) rfl rfl rfl (dy_textIs (f := f) (n := n) (N := N) (q := q) (E := E) (j := x) (k := 5) (hV) (by omega) (by decide)) (fun v25 M26 q27 => ?_)
        obtain ⟨rfl, rfl⟩ := q27
        show pl _ _ _ (65, [(0, .ref ac), (1, .int (nI x))], [.int (nI (eqN (tX f n E x) (ltx 5)))], M) _
        refine ps_if (S1 := (71, [(0, .ref ac), (1, .int (nI x))], [], M)) (S2 := (68, [(0, .ref ac), (1, .int (nI x))], [], M)) rfl rfl rfl (fun c_65 => ?_) (fun c_65 => ?_)
        · have c_65 : (nI (eqN (tX f n E x) (ltx 5))) = 0 := of_decide_eq_true c_65
          have n_65 : eqN (tX f n E x) (ltx 5) = 0 := (eq_nI (p := eqN (tX f n E x) (ltx 5)) (n := 0) (Nat.lt_trans (le1_eq _ _) (by decide)) (by decide)).mp c_65
          refine ps_st (S' := (72, [(0, .ref ac), (1, .int (nI x))], [.ref ac], M)) rfl rfl rfl ?_
          refine ps_get (S' := (75, [(0, .ref ac), (1, .int (nI x))], [.ref c], M)) rfl h_ac rfl rfl ?_
          refine ps_get (S' := (78, [(0, .ref ac), (1, .int (nI x))], [.int (nI mj)], M)) rfl h_c rfl rfl ?_
          refine ps_st (S' := (80, [(0, .ref ac), (1, .int (nI x))], [.int 55, .int (nI mj)], M)) rfl rfl rfl ?_
          refine ps_if2 (S1 := (99, [(0, .ref ac), (1, .int (nI x))], [], M)) (S2 := (83, [(0, .ref ac), (1, .int (nI x))], [], M)) rfl rfl rfl (fun c_80 => ?_) (fun c_80 => ?_)
          · have c_80 : (nI mj) < 55 := of_decide_eq_true c_80
            have n_80 : mj < 55 := (lt_nI (p := mj) (n := 55) (by omega) (by decide)).mp c_80
            refine ps_st (S' := (100, [(0, .ref ac), (1, .int (nI x))], [.ref ac], M)) rfl rfl rfl ?_
            refine ps_get (S' := (103, [(0, .ref ac), (1, .int (nI x))], [.ref c], M)) rfl h_ac rfl rfl ?_
            refine ps_get (S' := (106, [(0, .ref ac), (1, .int (nI x))], [.int (nI mj)], M)) rfl h_c rfl rfl ?_
            refine ps_st (S' := (108, [(0, .ref ac), (1, .int (nI x))], [.int 60, .int (nI mj)], M)) rfl rfl rfl ?_
            refine ps_if2 (S1 := (127, [(0, .ref ac), (1, .int (nI x))], [], M)) (S2 := (111, [(0, .ref ac), (1, .int (nI x))], [], M)) rfl rfl rfl (fun c_108 => ?_) (fun c_108 => ?_)
            · have c_108 : (nI mj) < 60 := of_decide_eq_true c_108
              have n_108 : mj < 60 := (lt_nI (p := mj) (n := 60) (by omega) (by decide)).mp c_108
              refine ps_st (S' := (128, [(0, .ref ac), (1, .int (nI x))], [.ref ac], M)) rfl rfl rfl ?_
              refine ps_get (S' := (131, [(0, .ref ac), (1, .int (nI x))], [.ref c], M)) rfl h_ac rfl rfl ?_
              refine ps_get (S' := (134, [(0, .ref ac), (1, .int (nI x))], [.int (nI mj)], M)) rfl h_c rfl rfl ?_
              refine ps_st (S' := (136, [(0, .ref ac), (1, .int (nI x))], [.int 61, .int (nI mj)], M)) rfl rfl rfl ?_
              refine ps_if2 (S1 := (155, [], [], M)) (S2 := (139, [(0, .ref ac), (1, .int (nI x))], [], M)) rfl rfl rfl (fun c_136 => ?_) (fun c_136 => ?_)
              · have c_136 : (nI mj) < 61 := of_decide_eq_true c_136
                have n_136 : mj < 61 := (lt_nI (p := mj) (n := 61) (by omega) (by decide)).mp c_136
                refine ps_st (S' := (156, [], [.int 0], M)) rfl rfl rfl ?_
                exact ps_ret rfl rfl (⟨congrArg (fun x => some (Value.int (nI x))) (show 0 = ckN f n E mj x from by
                    unfold ckN
                    first | ((repeat first | rw [if_pos (by omega)] | rw [if_neg (by omega)]) <;> first | rfl | omega) | ((repeat' split) <;> first | rfl | (exfalso; omega) | omega)), rfl⟩)
              · have c_136 : ¬ ((nI mj) < 61) := of_decide_eq_false c_136
                have n_136 : ¬ (mj < 61) := fun h9 => c_136 ((lt_nI (p := mj) (n := 61) (by omega) (by decide)).mpr h9)
                refine ps_st (S' := (140, [(0, .ref ac), (1, .int (nI x))], [.ref ac], M)) rfl rfl rfl ?_
                refine ps_get (S' := (143, [(0, .ref ac), (1, .int (nI x))], [.ref q], M)) rfl h_ac rfl rfl ?_
                refine ps_st (S' := (144, [(0, .ref ac), (1, .int (nI x))], [.int (nI x), .ref q], M)) rfl rfl rfl ?_
                refine ps_st (S' := (146, [(0, .ref ac), (1, .int (nI x))], [.ref (g.2.1 8), .int (nI x), .ref q], M)) rfl rfl rfl ?_
                refine pl_call (a := [.ref q, .int (nI x), .ref (g.2.1 8)]) (rest := []) rfl rfl rfl (dy_textIs (f := f) (n := n) (N := N) (q := q) (E := E) (j := x) (k := 8) (hV) (by omega) (by decide)) (fun v28 M29 q30 => ?_)
                obtain ⟨rfl, rfl⟩ := q30
                show pl _ _ _ (149, [(0, .ref ac), (1, .int (nI x))], [.int (nI (eqN (tX f n E x) (ltx 8)))], M) _
                refine ps_if (S1 := (155, [], [], M)) (S2 := (152, [(0, .ref ac), (1, .int (nI x))], [], M)) rfl rfl rfl (fun c_149 => ?_) (fun c_149 => ?_)
                · have c_149 : (nI (eqN (tX f n E x) (ltx 8))) = 0 := of_decide_eq_true c_149
                  have n_149 : eqN (tX f n E x) (ltx 8) = 0 := (eq_nI (p := eqN (tX f n E x) (ltx 8)) (n := 0) (Nat.lt_trans (le1_eq _ _) (by decide)) (by decide)).mp c_149
                  refine ps_st (S' := (156, [], [.int 0], M)) rfl rfl rfl ?_
                  exact ps_ret rfl rfl (⟨congrArg (fun x => some (Value.int (nI x))) (show 0 = ckN f n E mj x from by
                      unfold ckN
                      first | ((repeat first | rw [if_pos (by omega)] | rw [if_neg (by omega)]) <;> first | rfl | omega) | ((repeat' split) <;> first | rfl | (exfalso; omega) | omega)), rfl⟩)
                · have c_149 : ¬ ((nI (eqN (tX f n E x) (ltx 8))) = 0) := of_decide_eq_false c_149
                  have n_149 : ¬ (eqN (tX f n E x) (ltx 8) = 0) := fun h9 => c_149 ((eq_nI (p := eqN (tX f n E x) (ltx 8)) (n := 0) (Nat.lt_trans (le1_eq _ _) (by decide)) (by decide)).mpr h9)
                  refine ps_st (S' := (154, [(0, .ref ac), (1, .int (nI x))], [.int 10], M)) rfl rfl rfl ?_
                  exact ps_ret rfl rfl (⟨congrArg (fun x => some (Value.int (nI x))) (show 10 = ckN f n E mj x from by
                      unfold ckN
                      first | ((repeat first | rw [if_pos (by omega)] | rw [if_neg (by omega)]) <;> first | rfl | omega) | ((repeat' split) <;> first | rfl | (exfalso; omega) | omega)), rfl⟩)
            · have c_108 : ¬ ((nI mj) < 60) := of_decide_eq_false c_108
              have n_108 : ¬ (mj < 60) := fun h9 => c_108 ((lt_nI (p := mj) (n := 60) (by omega) (by decide)).mpr h9)
              refine ps_st (S' := (112, [(0, .ref ac), (1, .int (nI x))], [.ref ac], M)) rfl rfl rfl ?_
              refine ps_get (S' := (115, [(0, .ref ac), (1, .int (nI x))], [.ref q], M)) rfl h_ac rfl rfl ?_
              refine ps_st (S' := (116, [(0, .ref ac), (1, .int (nI x))], [.int (nI x), .ref q], M)) rfl rfl rfl ?_
              refine ps_st (S' := (118, [(0, .ref ac), (1, .int (nI x))], [.ref (g.2.1 7), .int (nI x), .ref q], M)) rfl rfl rfl ?_
              refine pl_call (a := [.ref q, .int (nI x), .ref (g.2.1 7)]) (rest := []) rfl rfl rfl (dy_textIs (f := f) (n := n) (N := N) (q := q) (E := E) (j := x) (k := 7) (hV) (by omega) (by decide)) (fun v31 M32 q33 => ?_)
              obtain ⟨rfl, rfl⟩ := q33
              show pl _ _ _ (121, [(0, .ref ac), (1, .int (nI x))], [.int (nI (eqN (tX f n E x) (ltx 7)))], M) _
              refine ps_if (S1 := (127, [(0, .ref ac), (1, .int (nI x))], [], M)) (S2 := (124, [(0, .ref ac), (1, .int (nI x))], [], M)) rfl rfl rfl (fun c_121 => ?_) (fun c_121 => ?_)
              · have c_121 : (nI (eqN (tX f n E x) (ltx 7))) = 0 := of_decide_eq_true c_121
                have n_121 : eqN (tX f n E x) (ltx 7) = 0 := (eq_nI (p := eqN (tX f n E x) (ltx 7)) (n := 0) (Nat.lt_trans (le1_eq _ _) (by decide)) (by decide)).mp c_121
                refine ps_st (S' := (128, [(0, .ref ac), (1, .int (nI x))], [.ref ac], M)) rfl rfl rfl ?_
                refine ps_get (S' := (131, [(0, .ref ac), (1, .int (nI x))], [.ref c], M)) rfl h_ac rfl rfl ?_
                refine ps_get (S' := (134, [(0, .ref ac), (1, .int (nI x))], [.int (nI mj)], M)) rfl h_c rfl rfl ?_
                refine ps_st (S' := (136, [(0, .ref ac), (1, .int (nI x))], [.int 61, .int (nI mj)], M)) rfl rfl rfl ?_
                refine ps_if2 (S1 := (155, [], [], M)) (S2 := (139, [(0, .ref ac), (1, .int (nI x))], [], M)) rfl rfl rfl (fun c_136 => ?_) (fun c_136 => ?_)
                · have c_136 : (nI mj) < 61 := of_decide_eq_true c_136
                  have n_136 : mj < 61 := (lt_nI (p := mj) (n := 61) (by omega) (by decide)).mp c_136
                  refine ps_st (S' := (156, [], [.int 0], M)) rfl rfl rfl ?_
                  exact ps_ret rfl rfl (⟨congrArg (fun x => some (Value.int (nI x))) (show 0 = ckN f n E mj x from by
                      unfold ckN
                      first | ((repeat first | rw [if_pos (by omega)] | rw [if_neg (by omega)]) <;> first | rfl | omega) | ((repeat' split) <;> first | rfl | (exfalso; omega) | omega)), rfl⟩)
                · have c_136 : ¬ ((nI mj) < 61) := of_decide_eq_false c_136
                  have n_136 : ¬ (mj < 61) := fun h9 => c_136 ((lt_nI (p := mj) (n := 61) (by omega) (by decide)).mpr h9)
                  refine ps_st (S' := (140, [(0, .ref ac), (1, .int (nI x))], [.ref ac], M)) rfl rfl rfl ?_
                  refine ps_get (S' := (143, [(0, .ref ac), (1, .int (nI x))], [.ref q], M)) rfl h_ac rfl rfl ?_
                  refine ps_st (S' := (144, [(0, .ref ac), (1, .int (nI x))], [.int (nI x), .ref q], M)) rfl rfl rfl ?_
                  refine ps_st (S' := (146, [(0, .ref ac), (1, .int (nI x))], [.ref (g.2.1 8), .int (nI x), .ref q], M)) rfl rfl rfl ?_
                  refine pl_call (a := [.ref q, .int (nI x), .ref (g.2.1 8)]) (rest := []) rfl rfl rfl (dy_textIs (f := f) (n := n) (N := N) (q := q) (E := E) (j := x) (k := 8) (hV) (by omega) (by decide)) (fun v34 M35 q36 => ?_)
                  obtain ⟨rfl, rfl⟩ := q36
                  show pl _ _ _ (149, [(0, .ref ac), (1, .int (nI x))], [.int (nI (eqN (tX f n E x) (ltx 8)))], M) _
                  refine ps_if (S1 := (155, [], [], M)) (S2 := (152, [(0, .ref ac), (1, .int (nI x))], [], M)) rfl rfl rfl (fun c_149 => ?_) (fun c_149 => ?_)
                  · have c_149 : (nI (eqN (tX f n E x) (ltx 8))) = 0 := of_decide_eq_true c_149
                    have n_149 : eqN (tX f n E x) (ltx 8) = 0 := (eq_nI (p := eqN (tX f n E x) (ltx 8)) (n := 0) (Nat.lt_trans (le1_eq _ _) (by decide)) (by decide)).mp c_149
                    refine ps_st (S' := (156, [], [.int 0], M)) rfl rfl rfl ?_
                    exact ps_ret rfl rfl (⟨congrArg (fun x => some (Value.int (nI x))) (show 0 = ckN f n E mj x from by
                        unfold ckN
                        first | ((repeat first | rw [if_pos (by omega)] | rw [if_neg (by omega)]) <;> first | rfl | omega) | ((repeat' split) <;> first | rfl | (exfalso; omega) | omega)), rfl⟩)
                  · have c_149 : ¬ ((nI (eqN (tX f n E x) (ltx 8))) = 0) := of_decide_eq_false c_149
                    have n_149 : ¬ (eqN (tX f n E x) (ltx 8) = 0) := fun h9 => c_149 ((eq_nI (p := eqN (tX f n E x) (ltx 8)) (n := 0) (Nat.lt_trans (le1_eq _ _) (by decide)) (by decide)).mpr h9)
                    refine ps_st (S' := (154, [(0, .ref ac), (1, .int (nI x))], [.int 10], M)) rfl rfl rfl ?_
                    exact ps_ret rfl rfl (⟨congrArg (fun x => some (Value.int (nI x))) (show 10 = ckN f n E mj x from by
                        unfold ckN
                        first | ((repeat first | rw [if_pos (by omega)] | rw [if_neg (by omega)]) <;> first | rfl | omega) | ((repeat' split) <;> first | rfl | (exfalso; omega) | omega)), rfl⟩)
              · have c_121 : ¬ ((nI (eqN (tX f n E x) (ltx 7))) = 0) := of_decide_eq_false c_121
                have n_121 : ¬ (eqN (tX f n E x) (ltx 7) = 0) := fun h9 => c_121 ((eq_nI (p := eqN (tX f n E x) (ltx 7)) (n := 0) (Nat.lt_trans (le1_eq _ _) (by decide)) (by decide)).mpr h9)
                refine ps_st (S' := (126, [(0, .ref ac), (1, .int (nI x))], [.int 9], M)) rfl rfl rfl ?_
                exact ps_ret rfl rfl (⟨congrArg (fun x => some (Value.int (nI x))) (show 9 = ckN f n E mj x from by
                    unfold ckN
                    first | ((repeat first | rw [if_pos (by omega)] | rw [if_neg (by omega)]) <;> first | rfl | omega) | ((repeat' split) <;> first | rfl | (exfalso; omega) | omega)), rfl⟩)
          · have c_80 : ¬ ((nI mj) < 55) := of_decide_eq_false c_80
            have n_80 : ¬ (mj < 55) := fun h9 => c_80 ((lt_nI (p := mj) (n := 55) (by omega) (by decide)).mpr h9)
            refine ps_st (S' := (84, [(0, .ref ac), (1, .int (nI x))], [.ref ac], M)) rfl rfl rfl ?_
            refine ps_get (S' := (87, [(0, .ref ac), (1, .int (nI x))], [.ref q], M)) rfl h_ac rfl rfl ?_
            refine ps_st (S' := (88, [(0, .ref ac), (1, .int (nI x))], [.int (nI x), .ref q], M)) rfl rfl rfl ?_
            refine ps_st (S' := (90, [(0, .ref ac), (1, .int (nI x))], [.ref (g.2.1 6), .int (nI x), .ref q], M)) rfl rfl rfl ?_
            refine pl_call (a := [.ref q, .int (nI x), .ref (g.2.1 6)]) (rest := []) rfl rfl rfl (dy_textIs (f := f) (n := n) (N := N) (q := q) (E := E) (j := x) (k := 6) (hV) (by omega) (by decide)) (fun v37 M38 q39 => ?_)
            obtain ⟨rfl, rfl⟩ := q39
            show pl _ _ _ (93, [(0, .ref ac), (1, .int (nI x))], [.int (nI (eqN (tX f n E x) (ltx 6)))], M) _
            refine ps_if (S1 := (99, [(0, .ref ac), (1, .int (nI x))], [], M)) (S2 := (96, [(0, .ref ac), (1, .int (nI x))], [], M)) rfl rfl rfl (fun c_93 => ?_) (fun c_93 => ?_)
            · have c_93 : (nI (eqN (tX f n E x) (ltx 6))) = 0 := of_decide_eq_true c_93
              have n_93 : eqN (tX f n E x) (ltx 6) = 0 := (eq_nI (p := eqN (tX f n E x) (ltx 6)) (n := 0) (Nat.lt_trans (le1_eq _ _) (by decide)) (by decide)).mp c_93
              refine ps_st (S' := (100, [(0, .ref ac), (1, .int (nI x))], [.ref ac], M)) rfl rfl rfl ?_
              refine ps_get (S' := (103, [(0, .ref ac), (1, .int (nI x))], [.ref c], M)) rfl h_ac rfl rfl ?_
              refine ps_get (S' := (106, [(0, .ref ac), (1, .int (nI x))], [.int (nI mj)], M)) rfl h_c rfl rfl ?_
              refine ps_st (S' := (108, [(0, .ref ac), (1, .int (nI x))], [.int 60, .int (nI mj)], M)) rfl rfl rfl ?_
              refine ps_if2 (S1 := (127, [(0, .ref ac), (1, .int (nI x))], [], M)) (S2 := (111, [(0, .ref ac), (1, .int (nI x))], [], M)) rfl rfl rfl (fun c_108 => ?_) (fun c_108 => ?_)
              · have c_108 : (nI mj) < 60 := of_decide_eq_true c_108
                have n_108 : mj < 60 := (lt_nI (p := mj) (n := 60) (by omega) (by decide)).mp c_108
                refine ps_st (S' := (128, [(0, .ref ac), (1, .int (nI x))], [.ref ac], M)) rfl rfl rfl ?_
                refine ps_get (S' := (131, [(0, .ref ac), (1, .int (nI x))], [.ref c], M)) rfl h_ac rfl rfl ?_
                refine ps_get (S' := (134, [(0, .ref ac), (1, .int (nI x))], [.int (nI mj)], M)) rfl h_c rfl rfl ?_
                refine ps_st (S' := (136, [(0, .ref ac), (1, .int (nI x))], [.int 61, .int (nI mj)], M)) rfl rfl rfl ?_
                refine ps_if2 (S1 := (155, [], [], M)) (S2 := (139, [(0, .ref ac), (1, .int (nI x))], [], M)) rfl rfl rfl (fun c_136 => ?_) (fun c_136 => ?_)
                · have c_136 : (nI mj) < 61 := of_decide_eq_true c_136
                  have n_136 : mj < 61 := (lt_nI (p := mj) (n := 61) (by omega) (by decide)).mp c_136
                  refine ps_st (S' := (156, [], [.int 0], M)) rfl rfl rfl ?_
                  exact ps_ret rfl rfl (⟨congrArg (fun x => some (Value.int (nI x))) (show 0 = ckN f n E mj x from by
                      unfold ckN
                      first | ((repeat first | rw [if_pos (by omega)] | rw [if_neg (by omega)]) <;> first | rfl | omega) | ((repeat' split) <;> first | rfl | (exfalso; omega) | omega)), rfl⟩)
                · have c_136 : ¬ ((nI mj) < 61) := of_decide_eq_false c_136
                  have n_136 : ¬ (mj < 61) := fun h9 => c_136 ((lt_nI (p := mj) (n := 61) (by omega) (by decide)).mpr h9)
                  refine ps_st (S' := (140, [(0, .ref ac), (1, .int (nI x))], [.ref ac], M)) rfl rfl rfl ?_
                  refine ps_get (S' := (143, [(0, .ref ac), (1, .int (nI x))], [.ref q], M)) rfl h_ac rfl rfl ?_
                  refine ps_st (S' := (144, [(0, .ref ac), (1, .int (nI x))], [.int (nI x), .ref q], M)) rfl rfl rfl ?_
                  refine ps_st (S' := (146, [(0, .ref ac), (1, .int (nI x))], [.ref (g.2.1 8), .int (nI x), .ref q], M)) rfl rfl rfl ?_
                  refine pl_call (a := [.ref q, .int (nI x), .ref (g.2.1 8)]) (rest := []) rfl rfl rfl (dy_textIs (f := f) (n := n) (N := N) (q := q) (E := E) (j := x) (k := 8) (hV) (by omega) (by decide)) (fun v40 M41 q42 => ?_)
                  obtain ⟨rfl, rfl⟩ := q42
                  show pl _ _ _ (149, [(0, .ref ac), (1, .int (nI x))], [.int (nI (eqN (tX f n E x) (ltx 8)))], M) _
                  refine ps_if (S1 := (155, [], [], M)) (S2 := (152, [(0, .ref ac), (1, .int (nI x))], [], M)) rfl rfl rfl (fun c_149 => ?_) (fun c_149 => ?_)
                  · have c_149 : (nI (eqN (tX f n E x) (ltx 8))) = 0 := of_decide_eq_true c_149
                    have n_149 : eqN (tX f n E x) (ltx 8) = 0 := (eq_nI (p := eqN (tX f n E x) (ltx 8)) (n := 0) (Nat.lt_trans (le1_eq _ _) (by decide)) (by decide)).mp c_149
                    refine ps_st (S' := (156, [], [.int 0], M)) rfl rfl rfl ?_
                    exact ps_ret rfl rfl (⟨congrArg (fun x => some (Value.int (nI x))) (show 0 = ckN f n E mj x from by
                        unfold ckN
                        first | ((repeat first | rw [if_pos (by omega)] | rw [if_neg (by omega)]) <;> first | rfl | omega) | ((repeat' split) <;> first | rfl | (exfalso; omega) | omega)), rfl⟩)
                  · have c_149 : ¬ ((nI (eqN (tX f n E x) (ltx 8))) = 0) := of_decide_eq_false c_149
                    have n_149 : ¬ (eqN (tX f n E x) (ltx 8) = 0) := fun h9 => c_149 ((eq_nI (p := eqN (tX f n E x) (ltx 8)) (n := 0) (Nat.lt_trans (le1_eq _ _) (by decide)) (by decide)).mpr h9)
                    refine ps_st (S' := (154, [(0, .ref ac), (1, .int (nI x))], [.int 10], M)) rfl rfl rfl ?_
                    exact ps_ret rfl rfl (⟨congrArg (fun x => some (Value.int (nI x))) (show 10 = ckN f n E mj x from by
                        unfold ckN
                        first | ((repeat first | rw [if_pos (by omega)] | rw [if_neg (by omega)]) <;> first | rfl | omega) | ((repeat' split) <;> first | rfl | (exfalso; omega) | omega)), rfl⟩)
              · have c_108 : ¬ ((nI mj) < 60) := of_decide_eq_false c_108
                have n_108 : ¬ (mj < 60) := fun h9 => c_108 ((lt_nI (p := mj) (n := 60) (by omega) (by decide)).mpr h9)
                refine ps_st (S' := (112, [(0, .ref ac), (1, .int (nI x))], [.ref ac], M)) rfl rfl rfl ?_
                refine ps_get (S' := (115, [(0, .ref ac), (1, .int (nI x))], [.ref q], M)) rfl h_ac rfl rfl ?_
                refine ps_st (S' := (116, [(0, .ref ac), (1, .int (nI x))], [.int (nI x), .ref q], M)) rfl rfl rfl ?_
                refine ps_st (S' := (118, [(0, .ref ac), (1, .int (nI x))], [.ref (g.2.1 7), .int (nI x), .ref q], M)) rfl rfl rfl ?_
                refine pl_call (a := [.ref q, .int (nI x), .ref (g.2.1 7)]) (rest := []) rfl rfl rfl (dy_textIs (f := f) (n := n) (N := N) (q := q) (E := E) (j := x) (k := 7) (hV) (by omega) (by decide)) (fun v43 M44 q45 => ?_)
                obtain ⟨rfl, rfl⟩ := q45
                show pl _ _ _ (121, [(0, .ref ac), (1, .int (nI x))], [.int (nI (eqN (tX f n E x) (ltx 7)))], M) _
                refine ps_if (S1 := (127, [(0, .ref ac), (1, .int (nI x))], [], M)) (S2 := (124, [(0, .ref ac), (1, .int (nI x))], [], M)) rfl rfl rfl (fun c_121 => ?_) (fun c_121 => ?_)
                · have c_121 : (nI (eqN (tX f n E x) (ltx 7))) = 0 := of_decide_eq_true c_121
                  have n_121 : eqN (tX f n E x) (ltx 7) = 0 := (eq_nI (p := eqN (tX f n E x) (ltx 7)) (n := 0) (Nat.lt_trans (le1_eq _ _) (by decide)) (by decide)).mp c_121
                  refine ps_st (S' := (128, [(0, .ref ac), (1, .int (nI x))], [.ref ac], M)) rfl rfl rfl ?_
                  refine ps_get (S' := (131, [(0, .ref ac), (1, .int (nI x))], [.ref c], M)) rfl h_ac rfl rfl ?_
                  refine ps_get (S' := (134, [(0, .ref ac), (1, .int (nI x))], [.int (nI mj)], M)) rfl h_c rfl rfl ?_
                  refine ps_st (S' := (136, [(0, .ref ac), (1, .int (nI x))], [.int 61, .int (nI mj)], M)) rfl rfl rfl ?_
                  refine ps_if2 (S1 := (155, [], [], M)) (S2 := (139, [(0, .ref ac), (1, .int (nI x))], [], M)) rfl rfl rfl (fun c_136 => ?_) (fun c_136 => ?_)
                  · have c_136 : (nI mj) < 61 := of_decide_eq_true c_136
                    have n_136 : mj < 61 := (lt_nI (p := mj) (n := 61) (by omega) (by decide)).mp c_136
                    refine ps_st (S' := (156, [], [.int 0], M)) rfl rfl rfl ?_
                    exact ps_ret rfl rfl (⟨congrArg (fun x => some (Value.int (nI x))) (show 0 = ckN f n E mj x from by
                        unfold ckN
                        first | ((repeat first | rw [if_pos (by omega)] | rw [if_neg (by omega)]) <;> first | rfl | omega) | ((repeat' split) <;> first | rfl | (exfalso; omega) | omega)), rfl⟩)
                  · have c_136 : ¬ ((nI mj) < 61) := of_decide_eq_false c_136
                    have n_136 : ¬ (mj < 61) := fun h9 => c_136 ((lt_nI (p := mj) (n := 61) (by omega) (by decide)).mpr h9)
                    refine ps_st (S' := (140, [(0, .ref ac), (1, .int (nI x))], [.ref ac], M)) rfl rfl rfl ?_
                    refine ps_get (S' := (143, [(0, .ref ac), (1, .int (nI x))], [.ref q], M)) rfl h_ac rfl rfl ?_
                    refine ps_st (S' := (144, [(0, .ref ac), (1, .int (nI x))], [.int (nI x), .ref q], M)) rfl rfl rfl ?_
                    refine ps_st (S' := (146, [(0, .ref ac), (1, .int (nI x))], [.ref (g.2.1 8), .int (nI x), .ref q], M)) rfl rfl rfl ?_
                    refine pl_call (a := [.ref q, .int (nI x), .ref (g.2.1 8)]) (rest := []) rfl rfl rfl (dy_textIs (f := f) (n := n) (N := N) (q := q) (E := E) (j := x) (k := 8) (hV) (by omega) (by decide)) (fun v46 M47 q48 => ?_)
                    obtain ⟨rfl, rfl⟩ := q48
                    show pl _ _ _ (149, [(0, .ref ac), (1, .int (nI x))], [.int (nI (eqN (tX f n E x) (ltx 8)))], M) _
                    refine ps_if (S1 := (155, [], [], M)) (S2 := (152, [(0, .ref ac), (1, .int (nI x))], [], M)) rfl rfl rfl (fun c_149 => ?_) (fun c_149 => ?_)
                    · have c_149 : (nI (eqN (tX f n E x) (ltx 8))) = 0 := of_decide_eq_true c_149
                      have n_149 : eqN (tX f n E x) (ltx 8) = 0 := (eq_nI (p := eqN (tX f n E x) (ltx 8)) (n := 0) (Nat.lt_trans (le1_eq _ _) (by decide)) (by decide)).mp c_149
                      refine ps_st (S' := (156, [], [.int 0], M)) rfl rfl rfl ?_
                      exact ps_ret rfl rfl (⟨congrArg (fun x => some (Value.int (nI x))) (show 0 = ckN f n E mj x from by
                          unfold ckN
                          first | ((repeat first | rw [if_pos (by omega)] | rw [if_neg (by omega)]) <;> first | rfl | omega) | ((repeat' split) <;> first | rfl | (exfalso; omega) | omega)), rfl⟩)
                    · have c_149 : ¬ ((nI (eqN (tX f n E x) (ltx 8))) = 0) := of_decide_eq_false c_149
                      have n_149 : ¬ (eqN (tX f n E x) (ltx 8) = 0) := fun h9 => c_149 ((eq_nI (p := eqN (tX f n E x) (ltx 8)) (n := 0) (Nat.lt_trans (le1_eq _ _) (by decide)) (by decide)).mpr h9)
                      refine ps_st (S' := (154, [(0, .ref ac), (1, .int (nI x))], [.int 10], M)) rfl rfl rfl ?_
                      exact ps_ret rfl rfl (⟨congrArg (fun x => some (Value.int (nI x))) (show 10 = ckN f n E mj x from by
                          unfold ckN
                          first | ((repeat first | rw [if_pos (by omega)] | rw [if_neg (by omega)]) <;> first | rfl | omega) | ((repeat' split) <;> first | rfl | (exfalso; omega) | omega)), rfl⟩)
                · have c_121 : ¬ ((nI (eqN (tX f n E x) (ltx 7))) = 0) := of_decide_eq_false c_121
                  have n_121 : ¬ (eqN (tX f n E x) (ltx 7) = 0) := fun h9 => c_121 ((eq_nI (p := eqN (tX f n E x) (ltx 7)) (n := 0) (Nat.lt_trans (le1_eq _ _) (by decide)) (by decide)).mpr h9)
                  refine ps_st (S' := (126, [(0, .ref ac), (1, .int (nI x))], [.int 9], M)) rfl rfl rfl ?_
                  exact ps_ret rfl rfl (⟨congrArg (fun x => some (Value.int (nI x))) (show 9 = ckN f n E mj x from by
                      unfold ckN
                      first | ((repeat first | rw [if_pos (by omega)] | rw [if_neg (by omega)]) <;> first | rfl | omega) | ((repeat' split) <;> first | rfl | (exfalso; omega) | omega)), rfl⟩)
            · have c_93 : ¬ ((nI (eqN (tX f n E x) (ltx 6))) = 0) := of_decide_eq_false c_93
              have n_93 : ¬ (eqN (tX f n E x) (ltx 6) = 0) := fun h9 => c_93 ((eq_nI (p := eqN (tX f n E x) (ltx 6)) (n := 0) (Nat.lt_trans (le1_eq _ _) (by decide)) (by decide)).mpr h9)
              refine ps_st (S' := (98, [(0, .ref ac), (1, .int (nI x))], [.int 8], M)) rfl rfl rfl ?_
              exact ps_ret rfl rfl (⟨congrArg (fun x => some (Value.int (nI x))) (show 8 = ckN f n E mj x from by
                  unfold ckN
                  first | ((repeat first | rw [if_pos (by omega)] | rw [if_neg (by omega)]) <;> first | rfl | omega) | ((repeat' split) <;> first | rfl | (exfalso; omega) | omega)), rfl⟩)
        · have c_65 : ¬ ((nI (eqN (tX f n E x) (ltx 5))) = 0) := of_decide_eq_false c_65
          have n_65 : ¬ (eqN (tX f n E x) (ltx 5) = 0) := fun h9 => c_65 ((eq_nI (p := eqN (tX f n E x) (ltx 5)) (n := 0) (Nat.lt_trans (le1_eq _ _) (by decide)) (by decide)).mpr h9)
          refine ps_st (S' := (70, [(0, .ref ac), (1, .int (nI x))], [.int 7], M)) rfl rfl rfl ?_
          exact ps_ret rfl rfl (⟨congrArg (fun x => some (Value.int (nI x))) (show 7 = ckN f n E mj x from by
              unfold ckN
              first | ((repeat first | rw [if_pos (by omega)] | rw [if_neg (by omega)]) <;> first | rfl | omega) | ((repeat' split) <;> first | rfl | (exfalso; omega) | omega)), rfl⟩)
    · have c_24 : ¬ ((nI mj) < 51) := of_decide_eq_false c_24
      have n_24 : ¬ (mj < 51) := fun h9 => c_24 ((lt_nI (p := mj) (n := 51) (by omega) (by decide)).mpr h9)
      refine ps_st (S' := (28, [(0, .ref ac), (1, .int (nI x))], [.ref ac], M)) rfl rfl rfl ?_
      refine ps_get (S' := (31, [(0, .ref ac), (1, .int (nI x))], [.ref q], M)) rfl h_ac rfl rfl ?_
      refine ps_st (S' := (32, [(0, .ref ac), (1, .int (nI x))], [.int (nI x), .ref q], M)) rfl rfl rfl ?_
      refine ps_st (S' := (34, [(0, .ref ac), (1, .int (nI x))], [.ref (g.2.1 4), .int (nI x), .ref q], M)) rfl rfl rfl ?_
      refine pl_call (a := [.ref q, .int (nI x), .ref (g.2.1 4)]) (rest := []) rfl rfl rfl (dy_textIs (f := f) (n := n) (N := N) (q := q) (E := E) (j := x) (k := 4) (hV) (by omega) (by decide)) (fun v49 M50 q51 => ?_)
      obtain ⟨rfl, rfl⟩ := q51
      show pl _ _ _ (37, [(0, .ref ac), (1, .int (nI x))], [.int (nI (eqN (tX f n E x) (ltx 4)))], M) _
      refine ps_if (S1 := (43, [(0, .ref ac), (1, .int (nI x))], [], M)) (S2 := (40, [(0, .ref ac), (1, .int (nI x))], [], M)) rfl rfl rfl (fun c_37 => ?_) (fun c_37 => ?_)
      · have c_37 : (nI (eqN (tX f n E x) (ltx 4))) = 0 := of_decide_eq_true c_37
        have n_37 : eqN (tX f n E x) (ltx 4) = 0 := (eq_nI (p := eqN (tX f n E x) (ltx 4)) (n := 0) (Nat.lt_trans (le1_eq _ _) (by decide)) (by decide)).mp c_37
        refine ps_st (S' := (44, [(0, .ref ac), (1, .int (nI x))], [.ref ac], M)) rfl rfl rfl ?_
        refine ps_get (S' := (47, [(0, .ref ac), (1, .int (nI x))], [.ref c], M)) rfl h_ac rfl rfl ?_
        refine ps_get (S' := (50, [(0, .ref ac), (1, .int (nI x))], [.int (nI mj)], M)) rfl h_c rfl rfl ?_
        refine ps_st (S' := (52, [(0, .ref ac), (1, .int (nI x))], [.int 55, .int (nI mj)], M)) rfl rfl rfl ?_
        refine ps_if2 (S1 := (71, [(0, .ref ac), (1, .int (nI x))], [], M)) (S2 := (55, [(0, .ref ac), (1, .int (nI x))], [], M)) rfl rfl rfl (fun c_52 => ?_) (fun c_52 => ?_)
        · have c_52 : (nI mj) < 55 := of_decide_eq_true c_52
          have n_52 : mj < 55 := (lt_nI (p := mj) (n := 55) (by omega) (by decide)).mp c_52
          refine ps_st (S' := (72, [(0, .ref ac), (1, .int (nI x))], [.ref ac], M)) rfl rfl rfl ?_
          refine ps_get (S' := (75, [(0, .ref ac), (1, .int (nI x))], [.ref c], M)) rfl h_ac rfl rfl ?_
          refine ps_get (S' := (78, [(0, .ref ac), (1, .int (nI x))], [.int (nI mj)], M)) rfl h_c rfl rfl ?_
          refine ps_st (S' := (80, [(0, .ref ac), (1, .int (nI x))], [.int 55, .int (nI mj)], M)) rfl rfl rfl ?_
          refine ps_if2 (S1 := (99, [(0, .ref ac), (1, .int (nI x))], [], M)) (S2 := (83, [(0, .ref ac), (1, .int (nI x))], [], M)) rfl rfl rfl (fun c_80 => ?_) (fun c_80 => ?_)
          · have c_80 : (nI mj) < 55 := of_decide_eq_true c_80
            have n_80 : mj < 55 := (lt_nI (p := mj) (n := 55) (by omega) (by decide)).mp c_80
            refine ps_st (S' := (100, [(0, .ref ac), (1, .int (nI x))], [.ref ac], M)) rfl rfl rfl ?_
            refine ps_get (S' := (103, [(0, .ref ac), (1, .int (nI x))], [.ref c], M)) rfl h_ac rfl rfl ?_
            refine ps_get (S' := (106, [(0, .ref ac), (1, .int (nI x))], [.int (nI mj)], M)) rfl h_c rfl rfl ?_
            refine ps_st (S' := (108, [(0, .ref ac), (1, .int (nI x))], [.int 60, .int (nI mj)], M)) rfl rfl rfl ?_
            refine ps_if2 (S1 := (127, [(0, .ref ac), (1, .int (nI x))], [], M)) (S2 := (111, [(0, .ref ac), (1, .int (nI x))], [], M)) rfl rfl rfl (fun c_108 => ?_) (fun c_108 => ?_)
            · have c_108 : (nI mj) < 60 := of_decide_eq_true c_108
              have n_108 : mj < 60 := (lt_nI (p := mj) (n := 60) (by omega) (by decide)).mp c_108
              refine ps_st (S' := (128, [(0, .ref ac), (1, .int (nI x))], [.ref ac], M)) rfl rfl rfl ?_
              refine ps_get (S' := (131, [(0, .ref ac), (1, .int (nI x))], [.ref c], M)) rfl h_ac rfl rfl ?_
              refine ps_get (S' := (134, [(0, .ref ac), (1, .int (nI x))], [.int (nI mj)], M)) rfl h_c rfl rfl ?_
              refine ps_st (S' := (136, [(0, .ref ac), (1, .int (nI x))], [.int 61, .int (nI mj)], M)) rfl rfl rfl ?_
              refine ps_if2 (S1 := (155, [], [], M)) (S2 := (139, [(0, .ref ac), (1, .int (nI x))], [], M)) rfl rfl rfl (fun c_136 => ?_) (fun c_136 => ?_)
              · have c_136 : (nI mj) < 61 := of_decide_eq_true c_136
                have n_136 : mj < 61 := (lt_nI (p := mj) (n := 61) (by omega) (by decide)).mp c_136
                refine ps_st (S' := (156, [], [.int 0], M)) rfl rfl rfl ?_
                exact ps_ret rfl rfl (⟨congrArg (fun x => some (Value.int (nI x))) (show 0 = ckN f n E mj x from by
                    unfold ckN
                    first | ((repeat first | rw [if_pos (by omega)] | rw [if_neg (by omega)]) <;> first | rfl | omega) | ((repeat' split) <;> first | rfl | (exfalso; omega) | omega)), rfl⟩)
              · have c_136 : ¬ ((nI mj) < 61) := of_decide_eq_false c_136
                have n_136 : ¬ (mj < 61) := fun h9 => c_136 ((lt_nI (p := mj) (n := 61) (by omega) (by decide)).mpr h9)
                refine ps_st (S' := (140, [(0, .ref ac), (1, .int (nI x))], [.ref ac], M)) rfl rfl rfl ?_
                refine ps_get (S' := (143, [(0, .ref ac), (1, .int (nI x))], [.ref q], M)) rfl h_ac rfl rfl ?_
                refine ps_st (S' := (144, [(0, .ref ac), (1, .int (nI x))], [.int (nI x), .ref q], M)) rfl rfl rfl ?_
                refine ps_st (S' := (146, [(0, .ref ac), (1, .int (nI x))], [.ref (g.2.1 8), .int (nI x), .ref q], M)) rfl rfl rfl ?_
                refine pl_call (a := [.ref q, .int (nI x), .ref (g.2.1 8)]) (rest := []) rfl rfl rfl (dy_textIs (f := f) (n := n) (N := N) (q := q) (E := E) (j := x) (k := 8) (hV) (by omega) (by decide)) (fun v52 M53 q54 => ?_)
                obtain ⟨rfl, rfl⟩ := q54
                show pl _ _ _ (149, [(0, .ref ac), (1, .int (nI x))], [.int (nI (eqN (tX f n E x) (ltx 8)))], M) _
                refine ps_if (S1 := (155, [], [], M)) (S2 := (152, [(0, .ref ac), (1, .int (nI x))], [], M)) rfl rfl rfl (fun c_149 => ?_) (fun c_149 => ?_)
                · have c_149 : (nI (eqN (tX f n E x) (ltx 8))) = 0 := of_decide_eq_true c_149
                  have n_149 : eqN (tX f n E x) (ltx 8) = 0 := (eq_nI (p := eqN (tX f n E x) (ltx 8)) (n := 0) (Nat.lt_trans (le1_eq _ _) (by decide)) (by decide)).mp c_149
                  refine ps_st (S' := (156, [], [.int 0], M)) rfl rfl rfl ?_
                  exact ps_ret rfl rfl (⟨congrArg (fun x => some (Value.int (nI x))) (show 0 = ckN f n E mj x from by
                      unfold ckN
                      first | ((repeat first | rw [if_pos (by omega)] | rw [if_neg (by omega)]) <;> first | rfl | omega) | ((repeat' split) <;> first | rfl | (exfalso; omega) | omega)), rfl⟩)
                · have c_149 : ¬ ((nI (eqN (tX f n E x) (ltx 8))) = 0) := of_decide_eq_false c_149
                  have n_149 : ¬ (eqN (tX f n E x) (ltx 8) = 0) := fun h9 => c_149 ((eq_nI (p := eqN (tX f n E x) (ltx 8)) (n := 0) (Nat.lt_trans (le1_eq _ _) (by decide)) (by decide)).mpr h9)
                  refine ps_st (S' := (154, [(0, .ref ac), (1, .int (nI x))], [.int 10], M)) rfl rfl rfl ?_
                  exact ps_ret rfl rfl (⟨congrArg (fun x => some (Value.int (nI x))) (show 10 = ckN f n E mj x from by
                      unfold ckN
                      first | ((repeat first | rw [if_pos (by omega)] | rw [if_neg (by omega)]) <;> first | rfl | omega) | ((repeat' split) <;> first | rfl | (exfalso; omega) | omega)), rfl⟩)
            · have c_108 : ¬ ((nI mj) < 60) := of_decide_eq_false c_108
              have n_108 : ¬ (mj < 60) := fun h9 => c_108 ((lt_nI (p := mj) (n := 60) (by omega) (by decide)).mpr h9)
              refine ps_st (S' := (112, [(0, .ref ac), (1, .int (nI x))], [.ref ac], M)) rfl rfl rfl ?_
              refine ps_get (S' := (115, [(0, .ref ac), (1, .int (nI x))], [.ref q], M)) rfl h_ac rfl rfl ?_
              refine ps_st (S' := (116, [(0, .ref ac), (1, .int (nI x))], [.int (nI x), .ref q], M)) rfl rfl rfl ?_
              refine ps_st (S' := (118, [(0, .ref ac), (1, .int (nI x))], [.ref (g.2.1 7), .int (nI x), .ref q], M)) rfl rfl rfl ?_
              refine pl_call (a := [.ref q, .int (nI x), .ref (g.2.1 7)]) (rest := []) rfl rfl rfl (dy_textIs (f := f) (n := n) (N := N) (q := q) (E := E) (j := x) (k := 7) (hV) (by omega) (by decide)) (fun v55 M56 q57 => ?_)
              obtain ⟨rfl, rfl⟩ := q57
              show pl _ _ _ (121, [(0, .ref ac), (1, .int (nI x))], [.int (nI (eqN (tX f n E x) (ltx 7)))], M) _
              refine ps_if (S1 := (127, [(0, .ref ac), (1, .int (nI x))], [], M)) (S2 := (124, [(0, .ref ac), (1, .int (nI x))], [], M)) rfl rfl rfl (fun c_121 => ?_) (fun c_121 => ?_)
              · have c_121 : (nI (eqN (tX f n E x) (ltx 7))) = 0 := of_decide_eq_true c_121
                have n_121 : eqN (tX f n E x) (ltx 7) = 0 := (eq_nI (p := eqN (tX f n E x) (ltx 7)) (n := 0) (Nat.lt_trans (le1_eq _ _) (by decide)) (by decide)).mp c_121
                refine ps_st (S' := (128, [(0, .ref ac), (1, .int (nI x))], [.ref ac], M)) rfl rfl rfl ?_
                refine ps_get (S' := (131, [(0, .ref ac), (1, .int (nI x))], [.ref c], M)) rfl h_ac rfl rfl ?_
                refine ps_get (S' := (134, [(0, .ref ac), (1, .int (nI x))], [.int (nI mj)], M)) rfl h_c rfl rfl ?_
                refine ps_st (S' := (136, [(0, .ref ac), (1, .int (nI x))], [.int 61, .int (nI mj)], M)) rfl rfl rfl ?_
                refine ps_if2 (S1 := (155, [], [], M)) (S2 := (139, [(0, .ref ac), (1, .int (nI x))], [], M)) rfl rfl rfl (fun c_136 => ?_) (fun c_136 => ?_)
                · have c_136 : (nI mj) < 61 := of_decide_eq_true c_136
                  have n_136 : mj < 61 := (lt_nI (p := mj) (n := 61) (by omega) (by decide)).mp c_136
                  refine ps_st (S' := (156, [], [.int 0], M)) rfl rfl rfl ?_
                  exact ps_ret rfl rfl (⟨congrArg (fun x => some (Value.int (nI x))) (show 0 = ckN f n E mj x from by
                      unfold ckN
                      first | ((repeat first | rw [if_pos (by omega)] | rw [if_neg (by omega)]) <;> first | rfl | omega) | ((repeat' split) <;> first | rfl | (exfalso; omega) | omega)), rfl⟩)
                · have c_136 : ¬ ((nI mj) < 61) := of_decide_eq_false c_136
                  have n_136 : ¬ (mj < 61) := fun h9 => c_136 ((lt_nI (p := mj) (n := 61) (by omega) (by decide)).mpr h9)
                  refine ps_st (S' := (140, [(0, .ref ac), (1, .int (nI x))], [.ref ac], M)) rfl rfl rfl ?_
                  refine ps_get (S' := (143, [(0, .ref ac), (1, .int (nI x))], [.ref q], M)) rfl h_ac rfl rfl ?_
                  refine ps_st (S' := (144, [(0, .ref ac), (1, .int (nI x))], [.int (nI x), .ref q], M)) rfl rfl rfl ?_
                  refine ps_st (S' := (146, [(0, .ref ac), (1, .int (nI x))], [.ref (g.2.1 8), .int (nI x), .ref q], M)) rfl rfl rfl ?_
                  refine pl_call (a := [.ref q, .int (nI x), .ref (g.2.1 8)]) (rest := []) rfl rfl rfl (dy_textIs (f := f) (n := n) (N := N) (q := q) (E := E) (j := x) (k := 8) (hV) (by omega) (by decide)) (fun v58 M59 q60 => ?_)
                  obtain ⟨rfl, rfl⟩ := q60
                  show pl _ _ _ (149, [(0, .ref ac), (1, .int (nI x))], [.int (nI (eqN (tX f n E x) (ltx 8)))], M) _
                  refine ps_if (S1 := (155, [], [], M)) (S2 := (152, [(0, .ref ac), (1, .int (nI x))], [], M)) rfl rfl rfl (fun c_149 => ?_) (fun c_149 => ?_)
                  · have c_149 : (nI (eqN (tX f n E x) (ltx 8))) = 0 := of_decide_eq_true c_149
                    have n_149 : eqN (tX f n E x) (ltx 8) = 0 := (eq_nI (p := eqN (tX f n E x) (ltx 8)) (n := 0) (Nat.lt_trans (le1_eq _ _) (by decide)) (by decide)).mp c_149
                    refine ps_st (S' := (156, [], [.int 0], M)) rfl rfl rfl ?_
                    exact ps_ret rfl rfl (⟨congrArg (fun x => some (Value.int (nI x))) (show 0 = ckN f n E mj x from by
                        unfold ckN
                        first | ((repeat first | rw [if_pos (by omega)] | rw [if_neg (by omega)]) <;> first | rfl | omega) | ((repeat' split) <;> first | rfl | (exfalso; omega) | omega)), rfl⟩)
                  · have c_149 : ¬ ((nI (eqN (tX f n E x) (ltx 8))) = 0) := of_decide_eq_false c_149
                    have n_149 : ¬ (eqN (tX f n E x) (ltx 8) = 0) := fun h9 => c_149 ((eq_nI (p := eqN (tX f n E x) (ltx 8)) (n := 0) (Nat.lt_trans (le1_eq _ _) (by decide)) (by decide)).mpr h9)
                    refine ps_st (S' := (154, [(0, .ref ac), (1, .int (nI x))], [.int 10], M)) rfl rfl rfl ?_
                    exact ps_ret rfl rfl (⟨congrArg (fun x => some (Value.int (nI x))) (show 10 = ckN f n E mj x from by
                        unfold ckN
                        first | ((repeat first | rw [if_pos (by omega)] | rw [if_neg (by omega)]) <;> first | rfl | omega) | ((repeat' split) <;> first | rfl | (exfalso; omega) | omega)), rfl⟩)
              · have c_121 : ¬ ((nI (eqN (tX f n E x) (ltx 7))) = 0) := of_decide_eq_false c_121
                have n_121 : ¬ (eqN (tX f n E x) (ltx 7) = 0) := fun h9 => c_121 ((eq_nI (p := eqN (tX f n E x) (ltx 7)) (n := 0) (Nat.lt_trans (le1_eq _ _) (by decide)) (by decide)).mpr h9)
                refine ps_st (S' := (126, [(0, .ref ac), (1, .int (nI x))], [.int 9], M)) rfl rfl rfl ?_
                exact ps_ret rfl rfl (⟨congrArg (fun x => some (Value.int (nI x))) (show 9 = ckN f n E mj x from by
                    unfold ckN
                    first | ((repeat first | rw [if_pos (by omega)] | rw [if_neg (by omega)]) <;> first | rfl | omega) | ((repeat' split) <;> first | rfl | (exfalso; omega) | omega)), rfl⟩)
          · have c_80 : ¬ ((nI mj) < 55) := of_decide_eq_false c_80
            have n_80 : ¬ (mj < 55) := fun h9 => c_80 ((lt_nI (p := mj) (n := 55) (by omega) (by decide)).mpr h9)
            refine ps_st (S' := (84, [(0, .ref ac), (1, .int (nI x))], [.ref ac], M)) rfl rfl rfl ?_
            refine ps_get (S' := (87, [(0, .ref ac), (1, .int (nI x))], [.ref q], M)) rfl h_ac rfl rfl ?_
            refine ps_st (S' := (88, [(0, .ref ac), (1, .int (nI x))], [.int (nI x), .ref q], M)) rfl rfl rfl ?_
            refine ps_st (S' := (90, [(0, .ref ac), (1, .int (nI x))], [.ref (g.2.1 6), .int (nI x), .ref q], M)) rfl rfl rfl ?_
            refine pl_call (a := [.ref q, .int (nI x), .ref (g.2.1 6)]) (rest := []) rfl rfl rfl (dy_textIs (f := f) (n := n) (N := N) (q := q) (E := E) (j := x) (k := 6) (hV) (by omega) (by decide)) (fun v61 M62 q63 => ?_)
            obtain ⟨rfl, rfl⟩ := q63
            show pl _ _ _ (93, [(0, .ref ac), (1, .int (nI x))], [.int (nI (eqN (tX f n E x) (ltx 6)))], M) _
            refine ps_if (S1 := (99, [(0, .ref ac), (1, .int (nI x))], [], M)) (S2 := (96, [(0, .ref ac), (1, .int (nI x))], [], M)) rfl rfl rfl (fun c_93 => ?_) (fun c_93 => ?_)
            · have c_93 : (nI (eqN (tX f n E x) (ltx 6))) = 0 := of_decide_eq_true c_93
              have n_93 : eqN (tX f n E x) (ltx 6) = 0 := (eq_nI (p := eqN (tX f n E x) (ltx 6)) (n := 0) (Nat.lt_trans (le1_eq _ _) (by decide)) (by decide)).mp c_93
              refine ps_st (S' := (100, [(0, .ref ac), (1, .int (nI x))], [.ref ac], M)) rfl rfl rfl ?_
              refine ps_get (S' := (103, [(0, .ref ac), (1, .int (nI x))], [.ref c], M)) rfl h_ac rfl rfl ?_
              refine ps_get (S' := (106, [(0, .ref ac), (1, .int (nI x))], [.int (nI mj)], M)) rfl h_c rfl rfl ?_
              refine ps_st (S' := (108, [(0, .ref ac), (1, .int (nI x))], [.int 60, .int (nI mj)], M)) rfl rfl rfl ?_
              refine ps_if2 (S1 := (127, [(0, .ref ac), (1, .int (nI x))], [], M)) (S2 := (111, [(0, .ref ac), (1, .int (nI x))], [], M)) rfl rfl rfl (fun c_108 => ?_) (fun c_108 => ?_)
              · have c_108 : (nI mj) < 60 := of_decide_eq_true c_108
                have n_108 : mj < 60 := (lt_nI (p := mj) (n := 60) (by omega) (by decide)).mp c_108
                refine ps_st (S' := (128, [(0, .ref ac), (1, .int (nI x))], [.ref ac], M)) rfl rfl rfl ?_
                refine ps_get (S' := (131, [(0, .ref ac), (1, .int (nI x))], [.ref c], M)) rfl h_ac rfl rfl ?_
                refine ps_get (S' := (134, [(0, .ref ac), (1, .int (nI x))], [.int (nI mj)], M)) rfl h_c rfl rfl ?_
                refine ps_st (S' := (136, [(0, .ref ac), (1, .int (nI x))], [.int 61, .int (nI mj)], M)) rfl rfl rfl ?_
                refine ps_if2 (S1 := (155, [], [], M)) (S2 := (139, [(0, .ref ac), (1, .int (nI x))], [], M)) rfl rfl rfl (fun c_136 => ?_) (fun c_136 => ?_)
                · have c_136 : (nI mj) < 61 := of_decide_eq_true c_136
                  have n_136 : mj < 61 := (lt_nI (p := mj) (n := 61) (by omega) (by decide)).mp c_136
                  refine ps_st (S' := (156, [], [.int 0], M)) rfl rfl rfl ?_
                  exact ps_ret rfl rfl (⟨congrArg (fun x => some (Value.int (nI x))) (show 0 = ckN f n E mj x from by
                      unfold ckN
                      first | ((repeat first | rw [if_pos (by omega)] | rw [if_neg (by omega)]) <;> first | rfl | omega) | ((repeat' split) <;> first | rfl | (exfalso; omega) | omega)), rfl⟩)
                · have c_136 : ¬ ((nI mj) < 61) := of_decide_eq_false c_136
                  have n_136 : ¬ (mj < 61) := fun h9 => c_136 ((lt_nI (p := mj) (n := 61) (by omega) (by decide)).mpr h9)
                  refine ps_st (S' := (140, [(0, .ref ac), (1, .int (nI x))], [.ref ac], M)) rfl rfl rfl ?_
                  refine ps_get (S' := (143, [(0, .ref ac), (1, .int (nI x))], [.ref q], M)) rfl h_ac rfl rfl ?_
                  refine ps_st (S' := (144, [(0, .ref ac), (1, .int (nI x))], [.int (nI x), .ref q], M)) rfl rfl rfl ?_
                  refine ps_st (S' := (146, [(0, .ref ac), (1, .int (nI x))], [.ref (g.2.1 8), .int (nI x), .ref q], M)) rfl rfl rfl ?_
                  refine pl_call (a := [.ref q, .int (nI x), .ref (g.2.1 8)]) (rest := []) rfl rfl rfl (dy_textIs (f := f) (n := n) (N := N) (q := q) (E := E) (j := x) (k := 8) (hV) (by omega) (by decide)) (fun v64 M65 q66 => ?_)
                  obtain ⟨rfl, rfl⟩ := q66
                  show pl _ _ _ (149, [(0, .ref ac), (1, .int (nI x))], [.int (nI (eqN (tX f n E x) (ltx 8)))], M) _
                  refine ps_if (S1 := (155, [], [], M)) (S2 := (152, [(0, .ref ac), (1, .int (nI x))], [], M)) rfl rfl rfl (fun c_149 => ?_) (fun c_149 => ?_)
                  · have c_149 : (nI (eqN (tX f n E x) (ltx 8))) = 0 := of_decide_eq_true c_149
                    have n_149 : eqN (tX f n E x) (ltx 8) = 0 := (eq_nI (p := eqN (tX f n E x) (ltx 8)) (n := 0) (Nat.lt_trans (le1_eq _ _) (by decide)) (by decide)).mp c_149
                    refine ps_st (S' := (156, [], [.int 0], M)) rfl rfl rfl ?_
                    exact ps_ret rfl rfl (⟨congrArg (fun x => some (Value.int (nI x))) (show 0 = ckN f n E mj x from by
                        unfold ckN
                        first | ((repeat first | rw [if_pos (by omega)] | rw [if_neg (by omega)]) <;> first | rfl | omega) | ((repeat' split) <;> first | rfl | (exfalso; omega) | omega)), rfl⟩)
                  · have c_149 : ¬ ((nI (eqN (tX f n E x) (ltx 8))) = 0) := of_decide_eq_false c_149
                    have n_149 : ¬ (eqN (tX f n E x) (ltx 8) = 0) := fun h9 => c_149 ((eq_nI (p := eqN (tX f n E x) (ltx 8)) (n := 0) (Nat.lt_trans (le1_eq _ _) (by decide)) (by decide)).mpr h9)
                    refine ps_st (S' := (154, [(0, .ref ac), (1, .int (nI x))], [.int 10], M)) rfl rfl rfl ?_
                    exact ps_ret rfl rfl (⟨congrArg (fun x => some (Value.int (nI x))) (show 10 = ckN f n E mj x from by
                        unfold ckN
                        first | ((repeat first | rw [if_pos (by omega)] | rw [if_neg (by omega)]) <;> first | rfl | omega) | ((repeat' split) <;> first | rfl | (exfalso; omega) | omega)), rfl⟩)
              · have c_108 : ¬ ((nI mj) < 60) := of_decide_eq_false c_108
                have n_108 : ¬ (mj < 60) := fun h9 => c_108 ((lt_nI (p := mj) (n := 60) (by omega) (by decide)).mpr h9)
                refine ps_st (S' := (112, [(0, .ref ac), (1, .int (nI x))], [.ref ac], M)) rfl rfl rfl ?_
                refine ps_get (S' := (115, [(0, .ref ac), (1, .int (nI x))], [.ref q], M)) rfl h_ac rfl rfl ?_
                refine ps_st (S' := (116, [(0, .ref ac), (1, .int (nI x))], [.int (nI x), .ref q], M)) rfl rfl rfl ?_
                refine ps_st (S' := (118, [(0, .ref ac), (1, .int (nI x))], [.ref (g.2.1 7), .int (nI x), .ref q], M)) rfl rfl rfl ?_
                refine pl_call (a := [.ref q, .int (nI x), .ref (g.2.1 7)]) (rest := []) rfl rfl rfl (dy_textIs (f := f) (n := n) (N := N) (q := q) (E := E) (j := x) (k := 7) (hV) (by omega) (by decide)) (fun v67 M68 q69 => ?_)
                obtain ⟨rfl, rfl⟩ := q69
                show pl _ _ _ (121, [(0, .ref ac), (1, .int (nI x))], [.int (nI (eqN (tX f n E x) (ltx 7)))], M) _
                refine ps_if (S1 := (127, [(0, .ref ac), (1, .int (nI x))], [], M)) (S2 := (124, [(0, .ref ac), (1, .int (nI x))], [], M)) rfl rfl rfl (fun c_121 => ?_) (fun c_121 => ?_)
                · have c_121 : (nI (eqN (tX f n E x) (ltx 7))) = 0 := of_decide_eq_true c_121
                  have n_121 : eqN (tX f n E x) (ltx 7) = 0 := (eq_nI (p := eqN (tX f n E x) (ltx 7)) (n := 0) (Nat.lt_trans (le1_eq _ _) (by decide)) (by decide)).mp c_121
                  refine ps_st (S' := (128, [(0, .ref ac), (1, .int (nI x))], [.ref ac], M)) rfl rfl rfl ?_
                  refine ps_get (S' := (131, [(0, .ref ac), (1, .int (nI x))], [.ref c], M)) rfl h_ac rfl rfl ?_
                  refine ps_get (S' := (134, [(0, .ref ac), (1, .int (nI x))], [.int (nI mj)], M)) rfl h_c rfl rfl ?_
                  refine ps_st (S' := (136, [(0, .ref ac), (1, .int (nI x))], [.int 61, .int (nI mj)], M)) rfl rfl rfl ?_
                  refine ps_if2 (S1 := (155, [], [], M)) (S2 := (139, [(0, .ref ac), (1, .int (nI x))], [], M)) rfl rfl rfl (fun c_136 => ?_) (fun c_136 => ?_)
                  · have c_136 : (nI mj) < 61 := of_decide_eq_true c_136
                    have n_136 : mj < 61 := (lt_nI (p := mj) (n := 61) (by omega) (by decide)).mp c_136
                    refine ps_st (S' := (156, [], [.int 0], M)) rfl rfl rfl ?_
                    exact ps_ret rfl rfl (⟨congrArg (fun x => some (Value.int (nI x))) (show 0 = ckN f n E mj x from by
                        unfold ckN
                        first | ((repeat first | rw [if_pos (by omega)] | rw [if_neg (by omega)]) <;> first | rfl | omega) | ((repeat' split) <;> first | rfl | (exfalso; omega) | omega)), rfl⟩)
                  · have c_136 : ¬ ((nI mj) < 61) := of_decide_eq_false c_136
                    have n_136 : ¬ (mj < 61) := fun h9 => c_136 ((lt_nI (p := mj) (n := 61) (by omega) (by decide)).mpr h9)
                    refine ps_st (S' := (140, [(0, .ref ac), (1, .int (nI x))], [.ref ac], M)) rfl rfl rfl ?_
                    refine ps_get (S' := (143, [(0, .ref ac), (1, .int (nI x))], [.ref q], M)) rfl h_ac rfl rfl ?_
                    refine ps_st (S' := (144, [(0, .ref ac), (1, .int (nI x))], [.int (nI x), .ref q], M)) rfl rfl rfl ?_
                    refine ps_st (S' := (146, [(0, .ref ac), (1, .int (nI x))], [.ref (g.2.1 8), .int (nI x), .ref q], M)) rfl rfl rfl ?_
                    refine pl_call (a := [.ref q, .int (nI x), .ref (g.2.1 8)]) (rest := []) rfl rfl rfl (dy_textIs (f := f) (n := n) (N := N) (q := q) (E := E) (j := x) (k := 8) (hV) (by omega) (by decide)) (fun v70 M71 q72 => ?_)
                    obtain ⟨rfl, rfl⟩ := q72
                    show pl _ _ _ (149, [(0, .ref ac), (1, .int (nI x))], [.int (nI (eqN (tX f n E x) (ltx 8)))], M) _
                    refine ps_if (S1 := (155, [], [], M)) (S2 := (152, [(0, .ref ac), (1, .int (nI x))], [], M)) rfl rfl rfl (fun c_149 => ?_) (fun c_149 => ?_)
                    · have c_149 : (nI (eqN (tX f n E x) (ltx 8))) = 0 := of_decide_eq_true c_149
                      have n_149 : eqN (tX f n E x) (ltx 8) = 0 := (eq_nI (p := eqN (tX f n E x) (ltx 8)) (n := 0) (Nat.lt_trans (le1_eq _ _) (by decide)) (by decide)).mp c_149
                      refine ps_st (S' := (156, [], [.int 0], M)) rfl rfl rfl ?_
                      exact ps_ret rfl rfl (⟨congrArg (fun x => some (Value.int (nI x))) (show 0 = ckN f n E mj x from by
                          unfold ckN
                          first | ((repeat first | rw [if_pos (by omega)] | rw [if_neg (by omega)]) <;> first | rfl | omega) | ((repeat' split) <;> first | rfl | (exfalso; omega) | omega)), rfl⟩)
                    · have c_149 : ¬ ((nI (eqN (tX f n E x) (ltx 8))) = 0) := of_decide_eq_false c_149
                      have n_149 : ¬ (eqN (tX f n E x) (ltx 8) = 0) := fun h9 => c_149 ((eq_nI (p := eqN (tX f n E x) (ltx 8)) (n := 0) (Nat.lt_trans (le1_eq _ _) (by decide)) (by decide)).mpr h9)
                      refine ps_st (S' := (154, [(0, .ref ac), (1, .int (nI x))], [.int 10], M)) rfl rfl rfl ?_
                      exact ps_ret rfl rfl (⟨congrArg (fun x => some (Value.int (nI x))) (show 10 = ckN f n E mj x from by
                          unfold ckN
                          first | ((repeat first | rw [if_pos (by omega)] | rw [if_neg (by omega)]) <;> first | rfl | omega) | ((repeat' split) <;> first | rfl | (exfalso; omega) | omega)), rfl⟩)
                · have c_121 : ¬ ((nI (eqN (tX f n E x) (ltx 7))) = 0) := of_decide_eq_false c_121
                  have n_121 : ¬ (eqN (tX f n E x) (ltx 7) = 0) := fun h9 => c_121 ((eq_nI (p := eqN (tX f n E x) (ltx 7)) (n := 0) (Nat.lt_trans (le1_eq _ _) (by decide)) (by decide)).mpr h9)
                  refine ps_st (S' := (126, [(0, .ref ac), (1, .int (nI x))], [.int 9], M)) rfl rfl rfl ?_
                  exact ps_ret rfl rfl (⟨congrArg (fun x => some (Value.int (nI x))) (show 9 = ckN f n E mj x from by
                      unfold ckN
                      first | ((repeat first | rw [if_pos (by omega)] | rw [if_neg (by omega)]) <;> first | rfl | omega) | ((repeat' split) <;> first | rfl | (exfalso; omega) | omega)), rfl⟩)
            · have c_93 : ¬ ((nI (eqN (tX f n E x) (ltx 6))) = 0) := of_decide_eq_false c_93
              have n_93 : ¬ (eqN (tX f n E x) (ltx 6) = 0) := fun h9 => c_93 ((eq_nI (p := eqN (tX f n E x) (ltx 6)) (n := 0) (Nat.lt_trans (le1_eq _ _) (by decide)) (by decide)).mpr h9)
              refine ps_st (S' := (98, [(0, .ref ac), (1, .int (nI x))], [.int 8], M)) rfl rfl rfl ?_
              exact ps_ret rfl rfl (⟨congrArg (fun x => some (Value.int (nI x))) (show 8 = ckN f n E mj x from by
                  unfold ckN
                  first | ((repeat first | rw [if_pos (by omega)] | rw [if_neg (by omega)]) <;> first | rfl | omega) | ((repeat' split) <;> first | rfl | (exfalso; omega) | omega)), rfl⟩)
        · have c_52 : ¬ ((nI mj) < 55) := of_decide_eq_false c_52
          have n_52 : ¬ (mj < 55) := fun h9 => c_52 ((lt_nI (p := mj) (n := 55) (by omega) (by decide)).mpr h9)
          refine ps_st (S' := (56, [(0, .ref ac), (1, .int (nI x))], [.ref ac], M)) rfl rfl rfl ?_
          refine ps_get (S' := (59, [(0, .ref ac), (1, .int (nI x))], [.ref q], M)) rfl h_ac rfl rfl ?_
          refine ps_st (S' := (60, [(0, .ref ac), (1, .int (nI x))], [.int (nI x), .ref q], M)) rfl rfl rfl ?_
          refine ps_st (S' := (62, [(0, .ref ac), (1, .int (nI x))], [.ref (g.2.1 5), .int (nI x), .ref q], M)) rfl rfl rfl ?_
          refine pl_call (a := [.ref q, .int (nI x), .ref (g.2.1 5)]) (rest := []) rfl rfl rfl (dy_textIs (f := f) (n := n) (N := N) (q := q) (E := E) (j := x) (k := 5) (hV) (by omega) (by decide)) (fun v73 M74 q75 => ?_)
          obtain ⟨rfl, rfl⟩ := q75
          show pl _ _ _ (65, [(0, .ref ac), (1, .int (nI x))], [.int (nI (eqN (tX f n E x) (ltx 5)))], M) _
          refine ps_if (S1 := (71, [(0, .ref ac), (1, .int (nI x))], [], M)) (S2 := (68, [(0, .ref ac), (1, .int (nI x))], [], M)) rfl rfl rfl (fun c_65 => ?_) (fun c_65 => ?_)
          · have c_65 : (nI (eqN (tX f n E x) (ltx 5))) = 0 := of_decide_eq_true c_65
            have n_65 : eqN (tX f n E x) (ltx 5) = 0 := (eq_nI (p := eqN (tX f n E x) (ltx 5)) (n := 0) (Nat.lt_trans (le1_eq _ _) (by decide)) (by decide)).mp c_65
            refine ps_st (S' := (72, [(0, .ref ac), (1, .int (nI x))], [.ref ac], M)) rfl rfl rfl ?_
            refine ps_get (S' := (75, [(0, .ref ac), (1, .int (nI x))], [.ref c], M)) rfl h_ac rfl rfl ?_
            refine ps_get (S' := (78, [(0, .ref ac), (1, .int (nI x))], [.int (nI mj)], M)) rfl h_c rfl rfl ?_
            refine ps_st (S' := (80, [(0, .ref ac), (1, .int (nI x))], [.int 55, .int (nI mj)], M)) rfl rfl rfl ?_
            refine ps_if2 (S1 := (99, [(0, .ref ac), (1, .int (nI x))], [], M)) (S2 := (83, [(0, .ref ac), (1, .int (nI x))], [], M)) rfl rfl rfl (fun c_80 => ?_) (fun c_80 => ?_)
            · have c_80 : (nI mj) < 55 := of_decide_eq_true c_80
              have n_80 : mj < 55 := (lt_nI (p := mj) (n := 55) (by omega) (by decide)).mp c_80
              refine ps_st (S' := (100, [(0, .ref ac), (1, .int (nI x))], [.ref ac], M)) rfl rfl rfl ?_
              refine ps_get (S' := (103, [(0, .ref ac), (1, .int (nI x))], [.ref c], M)) rfl h_ac rfl rfl ?_
              refine ps_get (S' := (106, [(0, .ref ac), (1, .int (nI x))], [.int (nI mj)], M)) rfl h_c rfl rfl ?_
              refine ps_st (S' := (108, [(0, .ref ac), (1, .int (nI x))], [.int 60, .int (nI mj)], M)) rfl rfl rfl ?_
              refine ps_if2 (S1 := (127, [(0, .ref ac), (1, .int (nI x))], [], M)) (S2 := (111, [(0, .ref ac), (1, .int (nI x))], [], M)) rfl rfl rfl (fun c_108 => ?_) (fun c_108 => ?_)
              · have c_108 : (nI mj) < 60 := of_decide_eq_true c_108
                have n_108 : mj < 60 := (lt_nI (p := mj) (n := 60) (by omega) (by decide)).mp c_108
                refine ps_st (S' := (128, [(0, .ref ac), (1, .int (nI x))], [.ref ac], M)) rfl rfl rfl ?_
                refine ps_get (S' := (131, [(0, .ref ac), (1, .int (nI x))], [.ref c], M)) rfl h_ac rfl rfl ?_
                refine ps_get (S' := (134, [(0, .ref ac), (1, .int (nI x))], [.int (nI mj)], M)) rfl h_c rfl rfl ?_
                refine ps_st (S' := (136, [(0, .ref ac), (1, .int (nI x))], [.int 61, .int (nI mj)], M)) rfl rfl rfl ?_
                refine ps_if2 (S1 := (155, [], [], M)) (S2 := (139, [(0, .ref ac), (1, .int (nI x))], [], M)) rfl rfl rfl (fun c_136 => ?_) (fun c_136 => ?_)
                · have c_136 : (nI mj) < 61 := of_decide_eq_true c_136
                  have n_136 : mj < 61 := (lt_nI (p := mj) (n := 61) (by omega) (by decide)).mp c_136
                  refine ps_st (S' := (156, [], [.int 0], M)) rfl rfl rfl ?_
                  exact ps_ret rfl rfl (⟨congrArg (fun x => some (Value.int (nI x))) (show 0 = ckN f n E mj x from by
                      unfold ckN
                      first | ((repeat first | rw [if_pos (by omega)] | rw [if_neg (by omega)]) <;> first | rfl | omega) | ((repeat' split) <;> first | rfl | (exfalso; omega) | omega)), rfl⟩)
                · have c_136 : ¬ ((nI mj) < 61) := of_decide_eq_false c_136
                  have n_136 : ¬ (mj < 61) := fun h9 => c_136 ((lt_nI (p := mj) (n := 61) (by omega) (by decide)).mpr h9)
                  refine ps_st (S' := (140, [(0, .ref ac), (1, .int (nI x))], [.ref ac], M)) rfl rfl rfl ?_
                  refine ps_get (S' := (143, [(0, .ref ac), (1, .int (nI x))], [.ref q], M)) rfl h_ac rfl rfl ?_
                  refine ps_st (S' := (144, [(0, .ref ac), (1, .int (nI x))], [.int (nI x), .ref q], M)) rfl rfl rfl ?_
                  refine ps_st (S' := (146, [(0, .ref ac), (1, .int (nI x))], [.ref (g.2.1 8), .int (nI x), .ref q], M)) rfl rfl rfl ?_
                  refine pl_call (a := [.ref q, .int (nI x), .ref (g.2.1 8)]) (rest := []) rfl rfl rfl (dy_textIs (f := f) (n := n) (N := N) (q := q) (E := E) (j := x) (k := 8) (hV) (by omega) (by decide)) (fun v76 M77 q78 => ?_)
                  obtain ⟨rfl, rfl⟩ := q78
                  show pl _ _ _ (149, [(0, .ref ac), (1, .int (nI x))], [.int (nI (eqN (tX f n E x) (ltx 8)))], M) _
                  refine ps_if (S1 := (155, [], [], M)) (S2 := (152, [(0, .ref ac), (1, .int (nI x))], [], M)) rfl rfl rfl (fun c_149 => ?_) (fun c_149 => ?_)
                  · have c_149 : (nI (eqN (tX f n E x) (ltx 8))) = 0 := of_decide_eq_true c_149
                    have n_149 : eqN (tX f n E x) (ltx 8) = 0 := (eq_nI (p := eqN (tX f n E x) (ltx 8)) (n := 0) (Nat.lt_trans (le1_eq _ _) (by decide)) (by decide)).mp c_149
                    refine ps_st (S' := (156, [], [.int 0], M)) rfl rfl rfl ?_
                    exact ps_ret rfl rfl (⟨congrArg (fun x => some (Value.int (nI x))) (show 0 = ckN f n E mj x from by
                        unfold ckN
                        first | ((repeat first | rw [if_pos (by omega)] | rw [if_neg (by omega)]) <;> first | rfl | omega) | ((repeat' split) <;> first | rfl | (exfalso; omega) | omega)), rfl⟩)
                  · have c_149 : ¬ ((nI (eqN (tX f n E x) (ltx 8))) = 0) := of_decide_eq_false c_149
                    have n_149 : ¬ (eqN (tX f n E x) (ltx 8) = 0) := fun h9 => c_149 ((eq_nI (p := eqN (tX f n E x) (ltx 8)) (n := 0) (Nat.lt_trans (le1_eq _ _) (by decide)) (by decide)).mpr h9)
                    refine ps_st (S' := (154, [(0, .ref ac), (1, .int (nI x))], [.int 10], M)) rfl rfl rfl ?_
                    exact ps_ret rfl rfl (⟨congrArg (fun x => some (Value.int (nI x))) (show 10 = ckN f n E mj x from by
                        unfold ckN
                        first | ((repeat first | rw [if_pos (by omega)] | rw [if_neg (by omega)]) <;> first | rfl | omega) | ((repeat' split) <;> first | rfl | (exfalso; omega) | omega)), rfl⟩)
              · have c_108 : ¬ ((nI mj) < 60) := of_decide_eq_false c_108
                have n_108 : ¬ (mj < 60) := fun h9 => c_108 ((lt_nI (p := mj) (n := 60) (by omega) (by decide)).mpr h9)
                refine ps_st (S' := (112, [(0, .ref ac), (1, .int (nI x))], [.ref ac], M)) rfl rfl rfl ?_
                refine ps_get (S' := (115, [(0, .ref ac), (1, .int (nI x))], [.ref q], M)) rfl h_ac rfl rfl ?_
                refine ps_st (S' := (116, [(0, .ref ac), (1, .int (nI x))], [.int (nI x), .ref q], M)) rfl rfl rfl ?_
                refine ps_st (S' := (118, [(0, .ref ac), (1, .int (nI x))], [.ref (g.2.1 7), .int (nI x), .ref q], M)) rfl rfl rfl ?_
                refine pl_call (a := [.ref q, .int (nI x), .ref (g.2.1 7)]) (rest := []) rfl rfl rfl (dy_textIs (f := f) (n := n) (N := N) (q := q) (E := E) (j := x) (k := 7) (hV) (by omega) (by decide)) (fun v79 M80 q81 => ?_)
                obtain ⟨rfl, rfl⟩ := q81
                show pl _ _ _ (121, [(0, .ref ac), (1, .int (nI x))], [.int (nI (eqN (tX f n E x) (ltx 7)))], M) _
                refine ps_if (S1 := (127, [(0, .ref ac), (1, .int (nI x))], [], M)) (S2 := (124, [(0, .ref ac), (1, .int (nI x))], [], M)) rfl rfl rfl (fun c_121 => ?_) (fun c_121 => ?_)
                · have c_121 : (nI (eqN (tX f n E x) (ltx 7))) = 0 := of_decide_eq_true c_121
                  have n_121 : eqN (tX f n E x) (ltx 7) = 0 := (eq_nI (p := eqN (tX f n E x) (ltx 7)) (n := 0) (Nat.lt_trans (le1_eq _ _) (by decide)) (by decide)).mp c_121
                  refine ps_st (S' := (128, [(0, .ref ac), (1, .int (nI x))], [.ref ac], M)) rfl rfl rfl ?_
                  refine ps_get (S' := (131, [(0, .ref ac), (1, .int (nI x))], [.ref c], M)) rfl h_ac rfl rfl ?_
                  refine ps_get (S' := (134, [(0, .ref ac), (1, .int (nI x))], [.int (nI mj)], M)) rfl h_c rfl rfl ?_
                  refine ps_st (S' := (136, [(0, .ref ac), (1, .int (nI x))], [.int 61, .int (nI mj)], M)) rfl rfl rfl ?_
                  refine ps_if2 (S1 := (155, [], [], M)) (S2 := (139, [(0, .ref ac), (1, .int (nI x))], [], M)) rfl rfl rfl (fun c_136 => ?_) (fun c_136 => ?_)
                  · have c_136 : (nI mj) < 61 := of_decide_eq_true c_136
                    have n_136 : mj < 61 := (lt_nI (p := mj) (n := 61) (by omega) (by decide)).mp c_136
                    refine ps_st (S' := (156, [], [.int 0], M)) rfl rfl rfl ?_
                    exact ps_ret rfl rfl (⟨congrArg (fun x => some (Value.int (nI x))) (show 0 = ckN f n E mj x from by
                        unfold ckN
                        first | ((repeat first | rw [if_pos (by omega)] | rw [if_neg (by omega)]) <;> first | rfl | omega) | ((repeat' split) <;> first | rfl | (exfalso; omega) | omega)), rfl⟩)
                  · have c_136 : ¬ ((nI mj) < 61) := of_decide_eq_false c_136
                    have n_136 : ¬ (mj < 61) := fun h9 => c_136 ((lt_nI (p := mj) (n := 61) (by omega) (by decide)).mpr h9)
                    refine ps_st (S' := (140, [(0, .ref ac), (1, .int (nI x))], [.ref ac], M)) rfl rfl rfl ?_
                    refine ps_get (S' := (143, [(0, .ref ac), (1, .int (nI x))], [.ref q], M)) rfl h_ac rfl rfl ?_
                    refine ps_st (S' := (144, [(0, .ref ac), (1, .int (nI x))], [.int (nI x), .ref q], M)) rfl rfl rfl ?_
                    refine ps_st (S' := (146, [(0, .ref ac), (1, .int (nI x))], [.ref (g.2.1 8), .int (nI x), .ref q], M)) rfl rfl rfl ?_
                    refine pl_call (a := [.ref q, .int (nI x), .ref (g.2.1 8)]) (rest := []) rfl rfl rfl (dy_textIs (f := f) (n := n) (N := N) (q := q) (E := E) (j := x) (k := 8) (hV) (by omega) (by decide)) (fun v82 M83 q84 => ?_)
                    obtain ⟨rfl, rfl⟩ := q84
                    show pl _ _ _ (149, [(0, .ref ac), (1, .int (nI x))], [.int (nI (eqN (tX f n E x) (ltx 8)))], M) _
                    refine ps_if (S1 := (155, [], [], M)) (S2 := (152, [(0, .ref ac), (1, .int (nI x))], [], M)) rfl rfl rfl (fun c_149 => ?_) (fun c_149 => ?_)
                    · have c_149 : (nI (eqN (tX f n E x) (ltx 8))) = 0 := of_decide_eq_true c_149
                      have n_149 : eqN (tX f n E x) (ltx 8) = 0 := (eq_nI (p := eqN (tX f n E x) (ltx 8)) (n := 0) (Nat.lt_trans (le1_eq _ _) (by decide)) (by decide)).mp c_149
                      refine ps_st (S' := (156, [], [.int 0], M)) rfl rfl rfl ?_
                      exact ps_ret rfl rfl (⟨congrArg (fun x => some (Value.int (nI x))) (show 0 = ckN f n E mj x from by
                          unfold ckN
                          first | ((repeat first | rw [if_pos (by omega)] | rw [if_neg (by omega)]) <;> first | rfl | omega) | ((repeat' split) <;> first | rfl | (exfalso; omega) | omega)), rfl⟩)
                    · have c_149 : ¬ ((nI (eqN (tX f n E x) (ltx 8))) = 0) := of_decide_eq_false c_149
                      have n_149 : ¬ (eqN (tX f n E x) (ltx 8) = 0) := fun h9 => c_149 ((eq_nI (p := eqN (tX f n E x) (ltx 8)) (n := 0) (Nat.lt_trans (le1_eq _ _) (by decide)) (by decide)).mpr h9)
                      refine ps_st (S' := (154, [(0, .ref ac), (1, .int (nI x))], [.int 10], M)) rfl rfl rfl ?_
                      exact ps_ret rfl rfl (⟨congrArg (fun x => some (Value.int (nI x))) (show 10 = ckN f n E mj x from by
                          unfold ckN
                          first | ((repeat first | rw [if_pos (by omega)] | rw [if_neg (by omega)]) <;> first | rfl | omega) | ((repeat' split) <;> first | rfl | (exfalso; omega) | omega)), rfl⟩)
                · have c_121 : ¬ ((nI (eqN (tX f n E x) (ltx 7))) = 0) := of_decide_eq_false c_121
                  have n_121 : ¬ (eqN (tX f n E x) (ltx 7) = 0) := fun h9 => c_121 ((eq_nI (p := eqN (tX f n E x) (ltx 7)) (n := 0) (Nat.lt_trans (le1_eq _ _) (by decide)) (by decide)).mpr h9)
                  refine ps_st (S' := (126, [(0, .ref ac), (1, .int (nI x))], [.int 9], M)) rfl rfl rfl ?_
                  exact ps_ret rfl rfl (⟨congrArg (fun x => some (Value.int (nI x))) (show 9 = ckN f n E mj x from by
                      unfold ckN
                      first | ((repeat first | rw [if_pos (by omega)] | rw [if_neg (by omega)]) <;> first | rfl | omega) | ((repeat' split) <;> first | rfl | (exfalso; omega) | omega)), rfl⟩)
            · have c_80 : ¬ ((nI mj) < 55) := of_decide_eq_false c_80
              have n_80 : ¬ (mj < 55) := fun h9 => c_80 ((lt_nI (p := mj) (n := 55) (by omega) (by decide)).mpr h9)
              refine ps_st (S' := (84, [(0, .ref ac), (1, .int (nI x))], [.ref ac], M)) rfl rfl rfl ?_
              refine ps_get (S' := (87, [(0, .ref ac), (1, .int (nI x))], [.ref q], M)) rfl h_ac rfl rfl ?_
              refine ps_st (S' := (88, [(0, .ref ac), (1, .int (nI x))], [.int (nI x), .ref q], M)) rfl rfl rfl ?_
              refine ps_st (S' := (90, [(0, .ref ac), (1, .int (nI x))], [.ref (g.2.1 6), .int (nI x), .ref q], M)) rfl rfl rfl ?_
              refine pl_call (a := [.ref q, .int (nI x), .ref (g.2.1 6)]) (rest := []) rfl rfl rfl (dy_textIs (f := f) (n := n) (N := N) (q := q) (E := E) (j := x) (k := 6) (hV) (by omega) (by decide)) (fun v85 M86 q87 => ?_)
              obtain ⟨rfl, rfl⟩ := q87
              show pl _ _ _ (93, [(0, .ref ac), (1, .int (nI x))], [.int (nI (eqN (tX f n E x) (ltx 6)))], M) _
              refine ps_if (S1 := (99, [(0, .ref ac), (1, .int (nI x))], [], M)) (S2 := (96, [(0, .ref ac), (1, .int (nI x))], [], M)) rfl rfl rfl (fun c_93 => ?_) (fun c_93 => ?_)
              · have c_93 : (nI (eqN (tX f n E x) (ltx 6))) = 0 := of_decide_eq_true c_93
                have n_93 : eqN (tX f n E x) (ltx 6) = 0 := (eq_nI (p := eqN (tX f n E x) (ltx 6)) (n := 0) (Nat.lt_trans (le1_eq _ _) (by decide)) (by decide)).mp c_93
                refine ps_st (S' := (100, [(0, .ref ac), (1, .int (nI x))], [.ref ac], M)) rfl rfl rfl ?_
                refine ps_get (S' := (103, [(0, .ref ac), (1, .int (nI x))], [.ref c], M)) rfl h_ac rfl rfl ?_
                refine ps_get (S' := (106, [(0, .ref ac), (1, .int (nI x))], [.int (nI mj)], M)) rfl h_c rfl rfl ?_
                refine ps_st (S' := (108, [(0, .ref ac), (1, .int (nI x))], [.int 60, .int (nI mj)], M)) rfl rfl rfl ?_
                refine ps_if2 (S1 := (127, [(0, .ref ac), (1, .int (nI x))], [], M)) (S2 := (111, [(0, .ref ac), (1, .int (nI x))], [], M)) rfl rfl rfl (fun c_108 => ?_) (fun c_108 => ?_)
                · have c_108 : (nI mj) < 60 := of_decide_eq_true c_108
                  have n_108 : mj < 60 := (lt_nI (p := mj) (n := 60) (by omega) (by decide)).mp c_108
                  refine ps_st (S' := (128, [(0, .ref ac), (1, .int (nI x))], [.ref ac], M)) rfl rfl rfl ?_
                  refine ps_get (S' := (131, [(0, .ref ac), (1, .int (nI x))], [.ref c], M)) rfl h_ac rfl rfl ?_
                  refine ps_get (S' := (134, [(0, .ref ac), (1, .int (nI x))], [.int (nI mj)], M)) rfl h_c rfl rfl ?_
                  refine ps_st (S' := (136, [(0, .ref ac), (1, .int (nI x))], [.int 61, .int (nI mj)], M)) rfl rfl rfl ?_
                  refine ps_if2 (S1 := (155, [], [], M)) (S2 := (139, [(0, .ref ac), (1, .int (nI x))], [], M)) rfl rfl rfl (fun c_136 => ?_) (fun c_136 => ?_)
                  · have c_136 : (nI mj) < 61 := of_decide_eq_true c_136
                    have n_136 : mj < 61 := (lt_nI (p := mj) (n := 61) (by omega) (by decide)).mp c_136
                    refine ps_st (S' := (156, [], [.int 0], M)) rfl rfl rfl ?_
                    exact ps_ret rfl rfl (⟨congrArg (fun x => some (Value.int (nI x))) (show 0 = ckN f n E mj x from by
                        unfold ckN
                        first | ((repeat first | rw [if_pos (by omega)] | rw [if_neg (by omega)]) <;> first | rfl | omega) | ((repeat' split) <;> first | rfl | (exfalso; omega) | omega)), rfl⟩)
                  · have c_136 : ¬ ((nI mj) < 61) := of_decide_eq_false c_136
                    have n_136 : ¬ (mj < 61) := fun h9 => c_136 ((lt_nI (p := mj) (n := 61) (by omega) (by decide)).mpr h9)
                    refine ps_st (S' := (140, [(0, .ref ac), (1, .int (nI x))], [.ref ac], M)) rfl rfl rfl ?_
                    refine ps_get (S' := (143, [(0, .ref ac), (1, .int (nI x))], [.ref q], M)) rfl h_ac rfl rfl ?_
                    refine ps_st (S' := (144, [(0, .ref ac), (1, .int (nI x))], [.int (nI x), .ref q], M)) rfl rfl rfl ?_
                    refine ps_st (S' := (146, [(0, .ref ac), (1, .int (nI x))], [.ref (g.2.1 8), .int (nI x), .ref q], M)) rfl rfl rfl ?_
                    refine pl_call (a := [.ref q, .int (nI x), .ref (g.2.1 8)]) (rest := []) rfl rfl rfl (dy_textIs (f := f) (n := n) (N := N) (q := q) (E := E) (j := x) (k := 8) (hV) (by omega) (by decide)) (fun v88 M89 q90 => ?_)
                    obtain ⟨rfl, rfl⟩ := q90
                    show pl _ _ _ (149, [(0, .ref ac), (1, .int (nI x))], [.int (nI (eqN (tX f n E x) (ltx 8)))], M) _
                    refine ps_if (S1 := (155, [], [], M)) (S2 := (152, [(0, .ref ac), (1, .int (nI x))], [], M)) rfl rfl rfl (fun c_149 => ?_) (fun c_149 => ?_)
                    · have c_149 : (nI (eqN (tX f n E x) (ltx 8))) = 0 := of_decide_eq_true c_149
                      have n_149 : eqN (tX f n E x) (ltx 8) = 0 := (eq_nI (p := eqN (tX f n E x) (ltx 8)) (n := 0) (Nat.lt_trans (le1_eq _ _) (by decide)) (by decide)).mp c_149
                      refine ps_st (S' := (156, [], [.int 0], M)) rfl rfl rfl ?_
                      exact ps_ret rfl rfl (⟨congrArg (fun x => some (Value.int (nI x))) (show 0 = ckN f n E mj x from by
                          unfold ckN
                          first | ((repeat first | rw [if_pos (by omega)] | rw [if_neg (by omega)]) <;> first | rfl | omega) | ((repeat' split) <;> first | rfl | (exfalso; omega) | omega)), rfl⟩)
                    · have c_149 : ¬ ((nI (eqN (tX f n E x) (ltx 8))) = 0) := of_decide_eq_false c_149
                      have n_149 : ¬ (eqN (tX f n E x) (ltx 8) = 0) := fun h9 => c_149 ((eq_nI (p := eqN (tX f n E x) (ltx 8)) (n := 0) (Nat.lt_trans (le1_eq _ _) (by decide)) (by decide)).mpr h9)
                      refine ps_st (S' := (154, [(0, .ref ac), (1, .int (nI x))], [.int 10], M)) rfl rfl rfl ?_
                      exact ps_ret rfl rfl (⟨congrArg (fun x => some (Value.int (nI x))) (show 10 = ckN f n E mj x from by
                          unfold ckN
                          first | ((repeat first | rw [if_pos (by omega)] | rw [if_neg (by omega)]) <;> first | rfl | omega) | ((repeat' split) <;> first | rfl | (exfalso; omega) | omega)), rfl⟩)
                · have c_108 : ¬ ((nI mj) < 60) := of_decide_eq_false c_108
                  have n_108 : ¬ (mj < 60) := fun h9 => c_108 ((lt_nI (p := mj) (n := 60) (by omega) (by decide)).mpr h9)
                  refine ps_st (S' := (112, [(0, .ref ac), (1, .int (nI x))], [.ref ac], M)) rfl rfl rfl ?_
                  refine ps_get (S' := (115, [(0, .ref ac), (1, .int (nI x))], [.ref q], M)) rfl h_ac rfl rfl ?_
                  refine ps_st (S' := (116, [(0, .ref ac), (1, .int (nI x))], [.int (nI x), .ref q], M)) rfl rfl rfl ?_
                  refine ps_st (S' := (118, [(0, .ref ac), (1, .int (nI x))], [.ref (g.2.1 7), .int (nI x), .ref q], M)) rfl rfl rfl ?_
                  refine pl_call (a := [.ref q, .int (nI x), .ref (g.2.1 7)]) (rest := []) rfl rfl rfl (dy_textIs (f := f) (n := n) (N := N) (q := q) (E := E) (j := x) (k := 7) (hV) (by omega) (by decide)) (fun v91 M92 q93 => ?_)
                  obtain ⟨rfl, rfl⟩ := q93
                  show pl _ _ _ (121, [(0, .ref ac), (1, .int (nI x))], [.int (nI (eqN (tX f n E x) (ltx 7)))], M) _
                  refine ps_if (S1 := (127, [(0, .ref ac), (1, .int (nI x))], [], M)) (S2 := (124, [(0, .ref ac), (1, .int (nI x))], [], M)) rfl rfl rfl (fun c_121 => ?_) (fun c_121 => ?_)
                  · have c_121 : (nI (eqN (tX f n E x) (ltx 7))) = 0 := of_decide_eq_true c_121
                    have n_121 : eqN (tX f n E x) (ltx 7) = 0 := (eq_nI (p := eqN (tX f n E x) (ltx 7)) (n := 0) (Nat.lt_trans (le1_eq _ _) (by decide)) (by decide)).mp c_121
                    refine ps_st (S' := (128, [(0, .ref ac), (1, .int (nI x))], [.ref ac], M)) rfl rfl rfl ?_
                    refine ps_get (S' := (131, [(0, .ref ac), (1, .int (nI x))], [.ref c], M)) rfl h_ac rfl rfl ?_
                    refine ps_get (S' := (134, [(0, .ref ac), (1, .int (nI x))], [.int (nI mj)], M)) rfl h_c rfl rfl ?_
                    refine ps_st (S' := (136, [(0, .ref ac), (1, .int (nI x))], [.int 61, .int (nI mj)], M)) rfl rfl rfl ?_
                    refine ps_if2 (S1 := (155, [], [], M)) (S2 := (139, [(0, .ref ac), (1, .int (nI x))], [], M)) rfl rfl rfl (fun c_136 => ?_) (fun c_136 => ?_)
                    · have c_136 : (nI mj) < 61 := of_decide_eq_true c_136
                      have n_136 : mj < 61 := (lt_nI (p := mj) (n := 61) (by omega) (by decide)).mp c_136
                      refine ps_st (S' := (156, [], [.int 0], M)) rfl rfl rfl ?_
                      exact ps_ret rfl rfl (⟨congrArg (fun x => some (Value.int (nI x))) (show 0 = ckN f n E mj x from by
                          unfold ckN
                          first | ((repeat first | rw [if_pos (by omega)] | rw [if_neg (by omega)]) <;> first | rfl | omega) | ((repeat' split) <;> first | rfl | (exfalso; omega) | omega)), rfl⟩)
                    · have c_136 : ¬ ((nI mj) < 61) := of_decide_eq_false c_136
                      have n_136 : ¬ (mj < 61) := fun h9 => c_136 ((lt_nI (p := mj) (n := 61) (by omega) (by decide)).mpr h9)
                      refine ps_st (S' := (140, [(0, .ref ac), (1, .int (nI x))], [.ref ac], M)) rfl rfl rfl ?_
                      refine ps_get (S' := (143, [(0, .ref ac), (1, .int (nI x))], [.ref q], M)) rfl h_ac rfl rfl ?_
                      refine ps_st (S' := (144, [(0, .ref ac), (1, .int (nI x))], [.int (nI x), .ref q], M)) rfl rfl rfl ?_
                      refine ps_st (S' := (146, [(0, .ref ac), (1, .int (nI x))], [.ref (g.2.1 8), .int (nI x), .ref q], M)) rfl rfl rfl ?_
                      refine pl_call (a := [.ref q, .int (nI x), .ref (g.2.1 8)]) (rest := []) rfl rfl rfl (dy_textIs (f := f) (n := n) (N := N) (q := q) (E := E) (j := x) (k := 8) (hV) (by omega) (by decide)) (fun v94 M95 q96 => ?_)
                      obtain ⟨rfl, rfl⟩ := q96
                      show pl _ _ _ (149, [(0, .ref ac), (1, .int (nI x))], [.int (nI (eqN (tX f n E x) (ltx 8)))], M) _
                      refine ps_if (S1 := (155, [], [], M)) (S2 := (152, [(0, .ref ac), (1, .int (nI x))], [], M)) rfl rfl rfl (fun c_149 => ?_) (fun c_149 => ?_)
                      · have c_149 : (nI (eqN (tX f n E x) (ltx 8))) = 0 := of_decide_eq_true c_149
                        have n_149 : eqN (tX f n E x) (ltx 8) = 0 := (eq_nI (p := eqN (tX f n E x) (ltx 8)) (n := 0) (Nat.lt_trans (le1_eq _ _) (by decide)) (by decide)).mp c_149
                        refine ps_st (S' := (156, [], [.int 0], M)) rfl rfl rfl ?_
                        exact ps_ret rfl rfl (⟨congrArg (fun x => some (Value.int (nI x))) (show 0 = ckN f n E mj x from by
                            unfold ckN
                            first | ((repeat first | rw [if_pos (by omega)] | rw [if_neg (by omega)]) <;> first | rfl | omega) | ((repeat' split) <;> first | rfl | (exfalso; omega) | omega)), rfl⟩)
                      · have c_149 : ¬ ((nI (eqN (tX f n E x) (ltx 8))) = 0) := of_decide_eq_false c_149
                        have n_149 : ¬ (eqN (tX f n E x) (ltx 8) = 0) := fun h9 => c_149 ((eq_nI (p := eqN (tX f n E x) (ltx 8)) (n := 0) (Nat.lt_trans (le1_eq _ _) (by decide)) (by decide)).mpr h9)
                        refine ps_st (S' := (154, [(0, .ref ac), (1, .int (nI x))], [.int 10], M)) rfl rfl rfl ?_
                        exact ps_ret rfl rfl (⟨congrArg (fun x => some (Value.int (nI x))) (show 10 = ckN f n E mj x from by
                            unfold ckN
                            first | ((repeat first | rw [if_pos (by omega)] | rw [if_neg (by omega)]) <;> first | rfl | omega) | ((repeat' split) <;> first | rfl | (exfalso; omega) | omega)), rfl⟩)
                  · have c_121 : ¬ ((nI (eqN (tX f n E x) (ltx 7))) = 0) := of_decide_eq_false c_121
                    have n_121 : ¬ (eqN (tX f n E x) (ltx 7) = 0) := fun h9 => c_121 ((eq_nI (p := eqN (tX f n E x) (ltx 7)) (n := 0) (Nat.lt_trans (le1_eq _ _) (by decide)) (by decide)).mpr h9)
                    refine ps_st (S' := (126, [(0, .ref ac), (1, .int (nI x))], [.int 9], M)) rfl rfl rfl ?_
                    exact ps_ret rfl rfl (⟨congrArg (fun x => some (Value.int (nI x))) (show 9 = ckN f n E mj x from by
                        unfold ckN
                        first | ((repeat first | rw [if_pos (by omega)] | rw [if_neg (by omega)]) <;> first | rfl | omega) | ((repeat' split) <;> first | rfl | (exfalso; omega) | omega)), rfl⟩)
              · have c_93 : ¬ ((nI (eqN (tX f n E x) (ltx 6))) = 0) := of_decide_eq_false c_93
                have n_93 : ¬ (eqN (tX f n E x) (ltx 6) = 0) := fun h9 => c_93 ((eq_nI (p := eqN (tX f n E x) (ltx 6)) (n := 0) (Nat.lt_trans (le1_eq _ _) (by decide)) (by decide)).mpr h9)
                refine ps_st (S' := (98, [(0, .ref ac), (1, .int (nI x))], [.int 8], M)) rfl rfl rfl ?_
                exact ps_ret rfl rfl (⟨congrArg (fun x => some (Value.int (nI x))) (show 8 = ckN f n E mj x from by
                    unfold ckN
                    first | ((repeat first | rw [if_pos (by omega)] | rw [if_neg (by omega)]) <;> first | rfl | omega) | ((repeat' split) <;> first | rfl | (exfalso; omega) | omega)), rfl⟩)
          · have c_65 : ¬ ((nI (eqN (tX f n E x) (ltx 5))) = 0) := of_decide_eq_false c_65
            have n_65 : ¬ (eqN (tX f n E x) (ltx 5) = 0) := fun h9 => c_65 ((eq_nI (p := eqN (tX f n E x) (ltx 5)) (n := 0) (Nat.lt_trans (le1_eq _ _) (by decide)) (by decide)).mpr h9)
            refine ps_st (S' := (70, [(0, .ref ac), (1, .int (nI x))], [.int 7], M)) rfl rfl rfl ?_
            exact ps_ret rfl rfl (⟨congrArg (fun x => some (Value.int (nI x))) (show 7 = ckN f n E mj x from by
                unfold ckN
                first | ((repeat first | rw [if_pos (by omega)] | rw [if_neg (by omega)]) <;> first | rfl | omega) | ((repeat' split) <;> first | rfl | (exfalso; omega) | omega)), rfl⟩)
      · have c_37 : ¬ ((nI (eqN (tX f n E x) (ltx 4))) = 0) := of_decide_eq_false c_37
        have n_37 : ¬ (eqN (tX f n E x) (ltx 4) = 0) := fun h9 => c_37 ((eq_nI (p := eqN (tX f n E x) (ltx 4)) (n := 0) (Nat.lt_trans (le1_eq _ _) (by decide)) (by decide)).mpr h9)
        refine ps_st (S' := (42, [(0, .ref ac), (1, .int (nI x))], [.int 6], M)) rfl rfl rfl ?_
        exact ps_ret rfl rfl (⟨congrArg (fun x => some (Value.int (nI x))) (show 6 = ckN f n E mj x from by
            unfold ckN
            first | ((repeat first | rw [if_pos (by omega)] | rw [if_neg (by omega)]) <;> first | rfl | omega) | ((repeat' split) <;> first | rfl | (exfalso; omega) | omega)), rfl⟩)
  · have c_10 : ¬ ((nI (eqN (tX f n E x) (ltx 3))) = 0) := of_decide_eq_false c_10
    have n_10 : ¬ (eqN (tX f n E x) (ltx 3) = 0) := fun h9 => c_10 ((eq_nI (p := eqN (tX f n E x) (ltx 3)) (n := 0) (Nat.lt_trans (le1_eq _ _) (by decide)) (by decide)).mpr h9)
    refine ps_st (S' := (14, [(0, .ref ac), (1, .int (nI x))], [.int 5], M)) rfl rfl rfl ?_
    exact ps_ret rfl rfl (⟨congrArg (fun x => some (Value.int (nI x))) (show 5 = ckN f n E mj x from by
        unfold ckN
        first | ((repeat first | rw [if_pos (by omega)] | rw [if_neg (by omega)]) <;> first | rfl | omega) | ((repeat' split) <;> first | rfl | (exfalso; omega) | omega)), rfl⟩)
set_option maxHeartbeats 1000000 in
theorem dk_isLoadable {g : xe_G} {M : mi_H} {t : Nat}  (ht : t < 65536) : pt (mT g) 35 [.int (nI t)] M (fun v M' => (v = some (.int (nI (ldN t))) ∧ M = M')) := by
  refine pt_in (b := mb_35 g) rfl (fun kf => ?_)
  show pl (mT g) kf (mb_35 g).2 (0, [(0, .int (nI t))], [], M) _
  refine ps_st (S' := (1, [(0, .int (nI t))], [.int (nI t)], M)) rfl rfl rfl ?_
  refine ps_st (S' := (2, [(0, .int (nI t))], [.int 3, .int (nI t)], M)) rfl rfl rfl ?_
  refine ps_if2 (S1 := (11, [(0, .int (nI t))], [], M)) (S2 := (5, [(0, .int (nI t))], [], M)) rfl rfl rfl (fun c_2 => ?_) (fun c_2 => ?_)
  · have c_2 : (nI t) < 3 := of_decide_eq_true c_2
    have n_2 : t < 3 := (lt_nI (p := t) (n := 3) (by omega) (by decide)).mp c_2
    refine ps_st (S' := (12, [(0, .int (nI t))], [.int (nI t)], M)) rfl rfl rfl ?_
    refine ps_st (S' := (14, [(0, .int (nI t))], [.int 15, .int (nI t)], M)) rfl rfl rfl ?_
    refine ps_if2 (S1 := (27, [], [], M)) (S2 := (17, [(0, .int (nI t))], [], M)) rfl rfl rfl (fun c_14 => ?_) (fun c_14 => ?_)
    · have c_14 : (nI t) < 15 := of_decide_eq_true c_14
      have n_14 : t < 15 := (lt_nI (p := t) (n := 15) (by omega) (by decide)).mp c_14
      refine ps_st (S' := (28, [], [.int 0], M)) rfl rfl rfl ?_
      exact ps_ret rfl rfl (⟨congrArg (fun x => some (Value.int (nI x))) (show 0 = ldN t from by
          unfold ldN
          first | ((repeat first | rw [if_pos (by omega)] | rw [if_neg (by omega)]) <;> first | rfl | omega) | ((repeat' split) <;> first | rfl | (exfalso; omega) | omega)), rfl⟩)
    · have c_14 : ¬ ((nI t) < 15) := of_decide_eq_false c_14
      have n_14 : ¬ (t < 15) := fun h9 => c_14 ((lt_nI (p := t) (n := 15) (by omega) (by decide)).mpr h9)
      refine ps_st (S' := (18, [(0, .int (nI t))], [.int (nI t)], M)) rfl rfl rfl ?_
      refine ps_st (S' := (20, [(0, .int (nI t))], [.int 17, .int (nI t)], M)) rfl rfl rfl ?_
      refine ps_if2 (S1 := (27, [], [], M)) (S2 := (23, [], [], M)) rfl rfl rfl (fun c_20 => ?_) (fun c_20 => ?_)
      · have c_20 : 17 < (nI t) := of_decide_eq_true c_20
        have n_20 : 17 < t := (lt_nI (p := 17) (n := t) (by decide) (by omega)).mp c_20
        refine ps_st (S' := (28, [], [.int 0], M)) rfl rfl rfl ?_
        exact ps_ret rfl rfl (⟨congrArg (fun x => some (Value.int (nI x))) (show 0 = ldN t from by
            unfold ldN
            first | ((repeat first | rw [if_pos (by omega)] | rw [if_neg (by omega)]) <;> first | rfl | omega) | ((repeat' split) <;> first | rfl | (exfalso; omega) | omega)), rfl⟩)
      · have c_20 : ¬ (17 < (nI t)) := of_decide_eq_false c_20
        have n_20 : ¬ (17 < t) := fun h9 => c_20 ((lt_nI (p := 17) (n := t) (by decide) (by omega)).mpr h9)
        refine ps_st (S' := (24, [], [.int 1], M)) rfl rfl rfl ?_
        refine ps_st (S' := (28, [], [.int 1], M)) rfl rfl rfl ?_
        exact ps_ret rfl rfl (⟨congrArg (fun x => some (Value.int (nI x))) (show 1 = ldN t from by
            unfold ldN
            first | ((repeat first | rw [if_pos (by omega)] | rw [if_neg (by omega)]) <;> first | rfl | omega) | ((repeat' split) <;> first | rfl | (exfalso; omega) | omega)), rfl⟩)
  · have c_2 : ¬ ((nI t) < 3) := of_decide_eq_false c_2
    have n_2 : ¬ (t < 3) := fun h9 => c_2 ((lt_nI (p := t) (n := 3) (by omega) (by decide)).mpr h9)
    refine ps_st (S' := (6, [(0, .int (nI t))], [.int (nI t)], M)) rfl rfl rfl ?_
    refine ps_st (S' := (8, [(0, .int (nI t))], [.int 8, .int (nI t)], M)) rfl rfl rfl ?_
    refine ps_if2 (S1 := (23, [], [], M)) (S2 := (11, [(0, .int (nI t))], [], M)) rfl rfl rfl (fun c_8 => ?_) (fun c_8 => ?_)
    · have c_8 : (nI t) ≤ 8 := of_decide_eq_true c_8
      have n_8 : t ≤ 8 := (le_nI (p := t) (n := 8) (by omega) (by decide)).mp c_8
      refine ps_st (S' := (24, [], [.int 1], M)) rfl rfl rfl ?_
      refine ps_st (S' := (28, [], [.int 1], M)) rfl rfl rfl ?_
      exact ps_ret rfl rfl (⟨congrArg (fun x => some (Value.int (nI x))) (show 1 = ldN t from by
          unfold ldN
          first | ((repeat first | rw [if_pos (by omega)] | rw [if_neg (by omega)]) <;> first | rfl | omega) | ((repeat' split) <;> first | rfl | (exfalso; omega) | omega)), rfl⟩)
    · have c_8 : ¬ ((nI t) ≤ 8) := of_decide_eq_false c_8
      have n_8 : ¬ (t ≤ 8) := fun h9 => c_8 ((le_nI (p := t) (n := 8) (by omega) (by decide)).mpr h9)
      refine ps_st (S' := (12, [(0, .int (nI t))], [.int (nI t)], M)) rfl rfl rfl ?_
      refine ps_st (S' := (14, [(0, .int (nI t))], [.int 15, .int (nI t)], M)) rfl rfl rfl ?_
      refine ps_if2 (S1 := (27, [], [], M)) (S2 := (17, [(0, .int (nI t))], [], M)) rfl rfl rfl (fun c_14 => ?_) (fun c_14 => ?_)
      · have c_14 : (nI t) < 15 := of_decide_eq_true c_14
        have n_14 : t < 15 := (lt_nI (p := t) (n := 15) (by omega) (by decide)).mp c_14
        refine ps_st (S' := (28, [], [.int 0], M)) rfl rfl rfl ?_
        exact ps_ret rfl rfl (⟨congrArg (fun x => some (Value.int (nI x))) (show 0 = ldN t from by
            unfold ldN
            first | ((repeat first | rw [if_pos (by omega)] | rw [if_neg (by omega)]) <;> first | rfl | omega) | ((repeat' split) <;> first | rfl | (exfalso; omega) | omega)), rfl⟩)
      · have c_14 : ¬ ((nI t) < 15) := of_decide_eq_false c_14
        have n_14 : ¬ (t < 15) := fun h9 => c_14 ((lt_nI (p := t) (n := 15) (by omega) (by decide)).mpr h9)
        refine ps_st (S' := (18, [(0, .int (nI t))], [.int (nI t)], M)) rfl rfl rfl ?_
        refine ps_st (S' := (20, [(0, .int (nI t))], [.int 17, .int (nI t)], M)) rfl rfl rfl ?_
        refine ps_if2 (S1 := (27, [], [], M)) (S2 := (23, [], [], M)) rfl rfl rfl (fun c_20 => ?_) (fun c_20 => ?_)
        · have c_20 : 17 < (nI t) := of_decide_eq_true c_20
          have n_20 : 17 < t := (lt_nI (p := 17) (n := t) (by decide) (by omega)).mp c_20
          refine ps_st (S' := (28, [], [.int 0], M)) rfl rfl rfl ?_
          exact ps_ret rfl rfl (⟨congrArg (fun x => some (Value.int (nI x))) (show 0 = ldN t from by
              unfold ldN
              first | ((repeat first | rw [if_pos (by omega)] | rw [if_neg (by omega)]) <;> first | rfl | omega) | ((repeat' split) <;> first | rfl | (exfalso; omega) | omega)), rfl⟩)
        · have c_20 : ¬ (17 < (nI t)) := of_decide_eq_false c_20
          have n_20 : ¬ (17 < t) := fun h9 => c_20 ((lt_nI (p := 17) (n := t) (by decide) (by omega)).mpr h9)
          refine ps_st (S' := (24, [], [.int 1], M)) rfl rfl rfl ?_
          refine ps_st (S' := (28, [], [.int 1], M)) rfl rfl rfl ?_
          exact ps_ret rfl rfl (⟨congrArg (fun x => some (Value.int (nI x))) (show 1 = ldN t from by
              unfold ldN
              first | ((repeat first | rw [if_pos (by omega)] | rw [if_neg (by omega)]) <;> first | rfl | omega) | ((repeat' split) <;> first | rfl | (exfalso; omega) | omega)), rfl⟩)
set_option maxHeartbeats 1000000 in
theorem dk_areClasses {g : xe_G} {M : mi_H} {f : Nat → Int32} {n N q : Nat} {E : List (Nat × Nat)} {ac c b da vd fr mr fa ic mj na pa : Nat} {mi ru wa s1 k1 k2 k3 k4 k5 k6 k7 : Int32} {p : Nat} (h_ac : M.1 ac = some (ob 0 [.ref c, .ref b, .ref q, .ref vd, .int s1])) (h_b : M.1 b = some (ob 1 [.ref da])) (h_da : M.1 da = some (ar .byte n f)) (hn : n ≤ 65540) (hin : p + 8 + 2 * by2 f (p + 6) ≤ n) (hV : PV g f n N E q M) : pt (mT g) 22 [.ref ac, .int (nI p)] M (fun v M' => (v = some (.int (nI (clA f E (p + 8) (by2 f (p + 6)) 0))) ∧ M = M')) := by
  refine pt_in (b := mb_22 g) rfl (fun kf => ?_)
  show pl (mT g) kf (mb_22 g).2 (0, [(0, .ref ac), (1, .int (nI p))], [], M) _
  have LL : ∀ (kf : Nat), (∀ (i : Nat), (i ≤ by2 f (p + 6)) → (clA f E (p + 8) (by2 f (p + 6) - i) i = clA f E (p + 8) (by2 f (p + 6)) 0) →  pl (mT g) kf (mb_22 g).2 (14, [(0, .ref ac), (1, .int (nI p)), (2, .int (nI (by2 f (p + 6)))), (3, .int (nI i))], [], M) (fun v M' => (v = some (.int (nI (clA f E (p + 8) (by2 f (p + 6)) 0))) ∧ M = M'))) := by
    intro kf
    induction kf with
    | zero => exact (by intros; exact pl_0)
    | succ kf ih =>
      intro i hi hs
      have hu9 := by2_lt f (p + 6)
      refine ps_st1 (S' := (15, [(0, .ref ac), (1, .int (nI p)), (2, .int (nI (by2 f (p + 6)))), (3, .int (nI i))], [.int (nI i)], M)) rfl rfl rfl ?_
      refine ps_st (S' := (16, [(0, .ref ac), (1, .int (nI p)), (2, .int (nI (by2 f (p + 6)))), (3, .int (nI i))], [.int (nI (by2 f (p + 6))), .int (nI i)], M)) rfl rfl rfl ?_
      refine ps_if2 (S1 := (54, [(0, .ref ac), (1, .int (nI p)), (2, .int (nI (by2 f (p + 6)))), (3, .int (nI i))], [], M)) (S2 := (19, [(0, .ref ac), (1, .int (nI p)), (2, .int (nI (by2 f (p + 6)))), (3, .int (nI i))], [], M)) rfl rfl rfl (fun c_16 => ?_) (fun c_16 => ?_)
      · have c_16 : (nI (by2 f (p + 6))) ≤ (nI i) := of_decide_eq_true c_16
        have n_16 : by2 f (p + 6) ≤ i := (le_nI (p := by2 f (p + 6)) (n := i) (Nat.lt_trans (by2_lt _ _) (by decide)) (by omega)).mp c_16
        refine ps_st (S' := (55, [(0, .ref ac), (1, .int (nI p)), (2, .int (nI (by2 f (p + 6)))), (3, .int (nI i))], [.int 1], M)) rfl rfl rfl ?_
        exact ps_ret rfl rfl (⟨congrArg (fun x => some (Value.int (nI x))) (show 1 = clA f E (p + 8) (by2 f (p + 6)) 0 from by rw [← hs, show by2 f (p + 6) - i = 0 by omega, clA]), rfl⟩)
      · have c_16 : ¬ ((nI (by2 f (p + 6))) ≤ (nI i)) := of_decide_eq_false c_16
        have n_16 : ¬ (by2 f (p + 6) ≤ i) := fun h9 => c_16 ((le_nI (p := by2 f (p + 6)) (n := i) (Nat.lt_trans (by2_lt _ _) (by decide)) (by omega)).mpr h9)
        refine ps_st (S' := (20, [(0, .ref ac), (1, .int (nI p)), (2, .int (nI (by2 f (p + 6)))), (3, .int (nI i))], [.ref ac], M)) rfl rfl rfl ?_
        refine ps_get (S' := (23, [(0, .ref ac), (1, .int (nI p)), (2, .int (nI (by2 f (p + 6)))), (3, .int (nI i))], [.ref q], M)) rfl h_ac rfl rfl ?_
        refine ps_st (S' := (24, [(0, .ref ac), (1, .int (nI p)), (2, .int (nI (by2 f (p + 6)))), (3, .int (nI i))], [.ref ac, .ref q], M)) rfl rfl rfl ?_
        refine ps_get (S' := (27, [(0, .ref ac), (1, .int (nI p)), (2, .int (nI (by2 f (p + 6)))), (3, .int (nI i))], [.ref b, .ref q], M)) rfl h_ac rfl rfl ?_
        refine ps_st (S' := (28, [(0, .ref ac), (1, .int (nI p)), (2, .int (nI (by2 f (p + 6)))), (3, .int (nI i))], [.int (nI p), .ref b, .ref q], M)) rfl rfl rfl ?_
        refine ps_st (S' := (30, [(0, .ref ac), (1, .int (nI p)), (2, .int (nI (by2 f (p + 6)))), (3, .int (nI i))], [.int 8, .int (nI p), .ref b, .ref q], M)) rfl rfl rfl ?_
        refine ps_st (S' := (31, [(0, .ref ac), (1, .int (nI p)), (2, .int (nI (by2 f (p + 6)))), (3, .int (nI i))], [.int ((nI p) + 8), .ref b, .ref q], M)) rfl rfl rfl ?_
        rw [nI_add1 (p := p) (k := 8) (x := 8) rfl (by omega)]
        show pl _ _ _ (_, [(0, .ref ac), (1, .int (nI p)), (2, .int (nI (by2 f (p + 6)))), (3, .int (nI i))], [.int (nI (p + 8)), .ref b, .ref q], M) _
        refine ps_st (S' := (32, [(0, .ref ac), (1, .int (nI p)), (2, .int (nI (by2 f (p + 6)))), (3, .int (nI i))], [.int 2, .int (nI (p + 8)), .ref b, .ref q], M)) rfl rfl rfl ?_
        refine ps_st (S' := (33, [(0, .ref ac), (1, .int (nI p)), (2, .int (nI (by2 f (p + 6)))), (3, .int (nI i))], [.int (nI i), .int 2, .int (nI (p + 8)), .ref b, .ref q], M)) rfl rfl rfl ?_
        refine ps_st (S' := (34, [(0, .ref ac), (1, .int (nI p)), (2, .int (nI (by2 f (p + 6)))), (3, .int (nI i))], [.int (2 * (nI i)), .int (nI (p + 8)), .ref b, .ref q], M)) rfl rfl rfl ?_
        rw [nI_mul1 (p := 2) (k := i) (x := 2) (y := (nI i)) rfl rfl (by omega)]
        show pl _ _ _ (_, [(0, .ref ac), (1, .int (nI p)), (2, .int (nI (by2 f (p + 6)))), (3, .int (nI i))], [.int (nI (2 * i)), .int (nI (p + 8)), .ref b, .ref q], M) _
        refine ps_st (S' := (35, [(0, .ref ac), (1, .int (nI p)), (2, .int (nI (by2 f (p + 6)))), (3, .int (nI i))], [.int ((nI (p + 8)) + (nI (2 * i))), .ref b, .ref q], M)) rfl rfl rfl ?_
        rw [nI_add1 (p := p + 8) (k := 2 * i) (x := (nI (2 * i))) rfl (by omega)]
        show pl _ _ _ (_, [(0, .ref ac), (1, .int (nI p)), (2, .int (nI (by2 f (p + 6)))), (3, .int (nI i))], [.int (nI (p + 8 + 2 * i)), .ref b, .ref q], M) _
        refine pl_call (a := [.ref b, .int (nI (p + 8 + 2 * i))]) (rest := [.ref q]) rfl rfl rfl (dk_u2 (f := f) (n := n) (b := b) (da := da) (p := (p + 8 + 2 * i)) h_b h_da (hn) (by omega)) (fun v1 M2 q3 => ?_)
        obtain ⟨rfl, rfl⟩ := q3
        show pl _ _ _ (38, [(0, .ref ac), (1, .int (nI p)), (2, .int (nI (by2 f (p + 6)))), (3, .int (nI i))], [.int (nI (by2 f (p + 8 + 2 * i))), .ref q], M) _
        have hu_35 := by2_lt f (p + 8 + 2 * i)
        refine pl_call (a := [.ref q, .int (nI (by2 f (p + 8 + 2 * i)))]) (rest := []) rfl rfl rfl (dy_tagOf (f := f) (n := n) (N := N) (q := q) (E := E) (j := (by2 f (p + 8 + 2 * i))) (hV) (by2_lt _ _)) (fun v4 M5 q6 => ?_)
        obtain ⟨rfl, rfl⟩ := q6
        show pl _ _ _ (41, [(0, .ref ac), (1, .int (nI p)), (2, .int (nI (by2 f (p + 6)))), (3, .int (nI i))], [.int (nI (tg f E (by2 f (p + 8 + 2 * i))))], M) _
        refine ps_st (S' := (43, [(0, .ref ac), (1, .int (nI p)), (2, .int (nI (by2 f (p + 6)))), (3, .int (nI i))], [.int 7, .int (nI (tg f E (by2 f (p + 8 + 2 * i))))], M)) rfl rfl rfl ?_
        refine ps_if2 (S1 := (48, [(0, .ref ac), (1, .int (nI p)), (2, .int (nI (by2 f (p + 6)))), (3, .int (nI i))], [], M)) (S2 := (46, [(0, .ref ac), (1, .int (nI p)), (2, .int (nI (by2 f (p + 6)))), (3, .int (nI i))], [], M)) rfl rfl rfl (fun c_43 => ?_) (fun c_43 => ?_)
        · have c_43 : (nI (tg f E (by2 f (p + 8 + 2 * i)))) = 7 := of_decide_eq_true c_43
          have n_43 : tg f E (by2 f (p + 8 + 2 * i)) = 7 := (eq_nI (p := tg f E (by2 f (p + 8 + 2 * i))) (n := 7) (Nat.lt_trans (tg_lt _ _ _) (by decide)) (by decide)).mp c_43
          refine ps_st (S' := (51, [(3, .int ((nI i) + 1)), (0, .ref ac), (1, .int (nI p)), (2, .int (nI (by2 f (p + 6))))], [], M)) rfl rfl rfl ?_
          rw [nI_add1 (p := i) (k := 1) (x := 1) rfl (by omega)]
          show pl _ _ _ (_, [(3, .int (nI (i + 1))), (0, .ref ac), (1, .int (nI p)), (2, .int (nI (by2 f (p + 6))))], [], M) _
          refine ps_st (S' := (14, [(0, .ref ac), (1, .int (nI p)), (2, .int (nI (by2 f (p + 6)))), (3, .int (nI (i + 1)))], [], M)) rfl rfl rfl ?_
          exact ih (i + 1)  (by omega) (by
              rw [← hs, clA_st (i := i) (by omega), if_pos (by omega)])
        · have c_43 : ¬ ((nI (tg f E (by2 f (p + 8 + 2 * i)))) = 7) := of_decide_eq_false c_43
          have n_43 : ¬ (tg f E (by2 f (p + 8 + 2 * i)) = 7) := fun h9 => c_43 ((eq_nI (p := tg f E (by2 f (p + 8 + 2 * i))) (n := 7) (Nat.lt_trans (tg_lt _ _ _) (by decide)) (by decide)).mpr h9)
          refine ps_st (S' := (47, [(0, .ref ac), (1, .int (nI p)), (2, .int (nI (by2 f (p + 6)))), (3, .int (nI i))], [.int 0], M)) rfl rfl rfl ?_
          exact ps_ret rfl rfl (⟨congrArg (fun x => some (Value.int (nI x))) (show 0 = clA f E (p + 8) (by2 f (p + 6)) 0 from by rw [← hs, clA_st (i := i) (by omega), if_neg (by omega)]), rfl⟩)
  refine ps_st (S' := (1, [(0, .ref ac), (1, .int (nI p))], [.ref ac], M)) rfl rfl rfl ?_
  refine ps_get (S' := (4, [(0, .ref ac), (1, .int (nI p))], [.ref b], M)) rfl h_ac rfl rfl ?_
  refine ps_st (S' := (5, [(0, .ref ac), (1, .int (nI p))], [.int (nI p), .ref b], M)) rfl rfl rfl ?_
  refine ps_st (S' := (7, [(0, .ref ac), (1, .int (nI p))], [.int 6, .int (nI p), .ref b], M)) rfl rfl rfl ?_
  refine ps_st (S' := (8, [(0, .ref ac), (1, .int (nI p))], [.int ((nI p) + 6), .ref b], M)) rfl rfl rfl ?_
  rw [nI_add1 (p := p) (k := 6) (x := 6) rfl (by omega)]
  show pl _ _ _ (_, [(0, .ref ac), (1, .int (nI p))], [.int (nI (p + 6)), .ref b], M) _
  refine pl_call (a := [.ref b, .int (nI (p + 6))]) (rest := []) rfl rfl rfl (dk_u2 (f := f) (n := n) (b := b) (da := da) (p := (p + 6)) h_b h_da (hn) (by omega)) (fun v7 M8 q9 => ?_)
  obtain ⟨rfl, rfl⟩ := q9
  show pl _ _ _ (11, [(0, .ref ac), (1, .int (nI p))], [.int (nI (by2 f (p + 6)))], M) _
  have hu_8 := by2_lt f (p + 6)
  refine ps_st (S' := (12, [(2, .int (nI (by2 f (p + 6)))), (0, .ref ac), (1, .int (nI p))], [], M)) rfl rfl rfl ?_
  refine ps_st (S' := (13, [(2, .int (nI (by2 f (p + 6)))), (0, .ref ac), (1, .int (nI p))], [.int 0], M)) rfl rfl rfl ?_
  refine ps_st (S' := (14, [(0, .ref ac), (1, .int (nI p)), (2, .int (nI (by2 f (p + 6)))), (3, .int 0)], [], M)) rfl rfl rfl ?_
  exact (LL kf) (0)  (by omega) (rfl)
set_option maxHeartbeats 1000000 in
theorem dk_innerClassesHold {g : xe_G} {M : mi_H} {f : Nat → Int32} {n N q : Nat} {E : List (Nat × Nat)} {ac c b da vd fr mr fa ic mj na pa : Nat} {mi ru wa s1 k1 k2 k3 k4 k5 k6 k7 : Int32} {p ct : Nat} (h_ac : M.1 ac = some (ob 0 [.ref c, .ref b, .ref q, .ref vd, .int s1])) (h_b : M.1 b = some (ob 1 [.ref da])) (h_da : M.1 da = some (ar .byte n f)) (h_c : M.1 c = some (ob 3 [.ref b, .ref q, .int mi, .int (nI mj), .int (nI fa), .int (nI ic), .ref fr, .ref mr, .int (nI na), .int (nI pa), .int k1, .int k2, .int k3, .int (nI ct), .int k5, .int k6, .int k7])) (hn : n ≤ 65540) (hct : ct < 65536) (hin : p + 8 + 8 * ct ≤ n) (hV : PV g f n N E q M) : pt (mT g) 34 [.ref ac, .int (nI p)] M (fun v M' => (v = some (.int (nI (inA f E (p + 8) ct 0))) ∧ M = M')) := by
  refine pt_in (b := mb_34 g) rfl (fun kf => ?_)
  show pl (mT g) kf (mb_34 g).2 (0, [(0, .ref ac), (1, .int (nI p))], [], M) _
  have LL : ∀ (kf : Nat), (∀ (i : Nat), (i ≤ ct) → (inA f E (p + 8) (ct - i) i = inA f E (p + 8) ct 0) →  pl (mT g) kf (mb_34 g).2 (2, [(0, .ref ac), (1, .int (nI p)), (2, .int (nI i))], [], M) (fun v M' => (v = some (.int (nI (inA f E (p + 8) ct 0))) ∧ M = M'))) := by
    intro kf
    induction kf with
    | zero => exact (by intros; exact pl_0)
    | succ kf ih =>
      intro i hi hs
      refine ps_st1 (S' := (3, [(0, .ref ac), (1, .int (nI p)), (2, .int (nI i))], [.int (nI i)], M)) rfl rfl rfl ?_
      refine ps_st (S' := (4, [(0, .ref ac), (1, .int (nI p)), (2, .int (nI i))], [.ref ac, .int (nI i)], M)) rfl rfl rfl ?_
      refine ps_get (S' := (7, [(0, .ref ac), (1, .int (nI p)), (2, .int (nI i))], [.ref c, .int (nI i)], M)) rfl h_ac rfl rfl ?_
      refine ps_get (S' := (10, [(0, .ref ac), (1, .int (nI p)), (2, .int (nI i))], [.int (nI ct), .int (nI i)], M)) rfl h_c rfl rfl ?_
      refine ps_if2 (S1 := (112, [(0, .ref ac), (1, .int (nI p)), (2, .int (nI i))], [], M)) (S2 := (13, [(0, .ref ac), (1, .int (nI p)), (2, .int (nI i))], [], M)) rfl rfl rfl (fun c_10 => ?_) (fun c_10 => ?_)
      · have c_10 : (nI ct) ≤ (nI i) := of_decide_eq_true c_10
        have n_10 : ct ≤ i := (le_nI (p := ct) (n := i) (by omega) (by omega)).mp c_10
        refine ps_st (S' := (113, [(0, .ref ac), (1, .int (nI p)), (2, .int (nI i))], [.int 1], M)) rfl rfl rfl ?_
        exact ps_ret rfl rfl (⟨congrArg (fun x => some (Value.int (nI x))) (show 1 = inA f E (p + 8) ct 0 from by rw [← hs, show ct - i = 0 by omega, inA]), rfl⟩)
      · have c_10 : ¬ ((nI ct) ≤ (nI i)) := of_decide_eq_false c_10
        have n_10 : ¬ (ct ≤ i) := fun h9 => c_10 ((le_nI (p := ct) (n := i) (by omega) (by omega)).mpr h9)
        refine ps_st (S' := (14, [(0, .ref ac), (1, .int (nI p)), (2, .int (nI i))], [.int (nI p)], M)) rfl rfl rfl ?_
        refine ps_st (S' := (16, [(0, .ref ac), (1, .int (nI p)), (2, .int (nI i))], [.int 8, .int (nI p)], M)) rfl rfl rfl ?_
        refine ps_st (S' := (17, [(0, .ref ac), (1, .int (nI p)), (2, .int (nI i))], [.int ((nI p) + 8)], M)) rfl rfl rfl ?_
        rw [nI_add1 (p := p) (k := 8) (x := 8) rfl (by omega)]
        show pl _ _ _ (_, [(0, .ref ac), (1, .int (nI p)), (2, .int (nI i))], [.int (nI (p + 8))], M) _
        refine ps_st (S' := (19, [(0, .ref ac), (1, .int (nI p)), (2, .int (nI i))], [.int 8, .int (nI (p + 8))], M)) rfl rfl rfl ?_
        refine ps_st (S' := (20, [(0, .ref ac), (1, .int (nI p)), (2, .int (nI i))], [.int (nI i), .int 8, .int (nI (p + 8))], M)) rfl rfl rfl ?_
        refine ps_st (S' := (21, [(0, .ref ac), (1, .int (nI p)), (2, .int (nI i))], [.int (8 * (nI i)), .int (nI (p + 8))], M)) rfl rfl rfl ?_
        rw [nI_mul1 (p := 8) (k := i) (x := 8) (y := (nI i)) rfl rfl (by omega)]
        show pl _ _ _ (_, [(0, .ref ac), (1, .int (nI p)), (2, .int (nI i))], [.int (nI (8 * i)), .int (nI (p + 8))], M) _
        refine ps_st (S' := (22, [(0, .ref ac), (1, .int (nI p)), (2, .int (nI i))], [.int ((nI (p + 8)) + (nI (8 * i)))], M)) rfl rfl rfl ?_
        rw [nI_add1 (p := p + 8) (k := 8 * i) (x := (nI (8 * i))) rfl (by omega)]
        show pl _ _ _ (_, [(0, .ref ac), (1, .int (nI p)), (2, .int (nI i))], [.int (nI (p + 8 + 8 * i))], M) _
        refine ps_st (S' := (23, [(3, .int (nI (p + 8 + 8 * i))), (0, .ref ac), (1, .int (nI p)), (2, .int (nI i))], [], M)) rfl rfl rfl ?_
        refine ps_st (S' := (24, [(3, .int (nI (p + 8 + 8 * i))), (0, .ref ac), (1, .int (nI p)), (2, .int (nI i))], [.ref ac], M)) rfl rfl rfl ?_
        refine ps_get (S' := (27, [(3, .int (nI (p + 8 + 8 * i))), (0, .ref ac), (1, .int (nI p)), (2, .int (nI i))], [.ref b], M)) rfl h_ac rfl rfl ?_
        refine ps_st (S' := (28, [(3, .int (nI (p + 8 + 8 * i))), (0, .ref ac), (1, .int (nI p)), (2, .int (nI i))], [.int (nI (p + 8 + 8 * i)), .ref b], M)) rfl rfl rfl ?_
        refine ps_st (S' := (29, [(3, .int (nI (p + 8 + 8 * i))), (0, .ref ac), (1, .int (nI p)), (2, .int (nI i))], [.int 2, .int (nI (p + 8 + 8 * i)), .ref b], M)) rfl rfl rfl ?_
        refine ps_st (S' := (30, [(3, .int (nI (p + 8 + 8 * i))), (0, .ref ac), (1, .int (nI p)), (2, .int (nI i))], [.int ((nI (p + 8 + 8 * i)) + 2), .ref b], M)) rfl rfl rfl ?_
        rw [nI_add1 (p := p + 8 + 8 * i) (k := 2) (x := 2) rfl (by omega)]
        show pl _ _ _ (_, [(3, .int (nI (p + 8 + 8 * i))), (0, .ref ac), (1, .int (nI p)), (2, .int (nI i))], [.int (nI (p + 8 + 8 * i + 2)), .ref b], M) _
        refine pl_call (a := [.ref b, .int (nI (p + 8 + 8 * i + 2))]) (rest := []) rfl rfl rfl (dk_u2 (f := f) (n := n) (b := b) (da := da) (p := (p + 8 + 8 * i + 2)) h_b h_da (hn) (by omega)) (fun v1 M2 q3 => ?_)
        obtain ⟨rfl, rfl⟩ := q3
        show pl _ _ _ (33, [(3, .int (nI (p + 8 + 8 * i))), (0, .ref ac), (1, .int (nI p)), (2, .int (nI i))], [.int (nI (by2 f (p + 8 + 8 * i + 2)))], M) _
        have hu_30 := by2_lt f (p + 8 + 8 * i + 2)
        refine ps_st (S' := (35, [(4, .int (nI (by2 f (p + 8 + 8 * i + 2)))), (3, .int (nI (p + 8 + 8 * i))), (0, .ref ac), (1, .int (nI p)), (2, .int (nI i))], [], M)) rfl rfl rfl ?_
        refine ps_st (S' := (36, [(4, .int (nI (by2 f (p + 8 + 8 * i + 2)))), (3, .int (nI (p + 8 + 8 * i))), (0, .ref ac), (1, .int (nI p)), (2, .int (nI i))], [.ref ac], M)) rfl rfl rfl ?_
        refine ps_get (S' := (39, [(4, .int (nI (by2 f (p + 8 + 8 * i + 2)))), (3, .int (nI (p + 8 + 8 * i))), (0, .ref ac), (1, .int (nI p)), (2, .int (nI i))], [.ref b], M)) rfl h_ac rfl rfl ?_
        refine ps_st (S' := (40, [(4, .int (nI (by2 f (p + 8 + 8 * i + 2)))), (3, .int (nI (p + 8 + 8 * i))), (0, .ref ac), (1, .int (nI p)), (2, .int (nI i))], [.int (nI (p + 8 + 8 * i)), .ref b], M)) rfl rfl rfl ?_
        refine ps_st (S' := (41, [(4, .int (nI (by2 f (p + 8 + 8 * i + 2)))), (3, .int (nI (p + 8 + 8 * i))), (0, .ref ac), (1, .int (nI p)), (2, .int (nI i))], [.int 4, .int (nI (p + 8 + 8 * i)), .ref b], M)) rfl rfl rfl ?_
        refine ps_st (S' := (42, [(4, .int (nI (by2 f (p + 8 + 8 * i + 2)))), (3, .int (nI (p + 8 + 8 * i))), (0, .ref ac), (1, .int (nI p)), (2, .int (nI i))], [.int ((nI (p + 8 + 8 * i)) + 4), .ref b], M)) rfl rfl rfl ?_
        rw [nI_add1 (p := p + 8 + 8 * i) (k := 4) (x := 4) rfl (by omega)]
        show pl _ _ _ (_, [(4, .int (nI (by2 f (p + 8 + 8 * i + 2)))), (3, .int (nI (p + 8 + 8 * i))), (0, .ref ac), (1, .int (nI p)), (2, .int (nI i))], [.int (nI (p + 8 + 8 * i + 4)), .ref b], M) _
        refine pl_call (a := [.ref b, .int (nI (p + 8 + 8 * i + 4))]) (rest := []) rfl rfl rfl (dk_u2 (f := f) (n := n) (b := b) (da := da) (p := (p + 8 + 8 * i + 4)) h_b h_da (hn) (by omega)) (fun v4 M5 q6 => ?_)
        obtain ⟨rfl, rfl⟩ := q6
        show pl _ _ _ (45, [(4, .int (nI (by2 f (p + 8 + 8 * i + 2)))), (3, .int (nI (p + 8 + 8 * i))), (0, .ref ac), (1, .int (nI p)), (2, .int (nI i))], [.int (nI (by2 f (p + 8 + 8 * i + 4)))], M) _
        have hu_42 := by2_lt f (p + 8 + 8 * i + 4)
        refine ps_st (S' := (47, [(5, .int (nI (by2 f (p + 8 + 8 * i + 4)))), (4, .int (nI (by2 f (p + 8 + 8 * i + 2)))), (3, .int (nI (p + 8 + 8 * i))), (0, .ref ac), (1, .int (nI p)), (2, .int (nI i))], [], M)) rfl rfl rfl ?_
        refine ps_st (S' := (48, [(5, .int (nI (by2 f (p + 8 + 8 * i + 4)))), (4, .int (nI (by2 f (p + 8 + 8 * i + 2)))), (3, .int (nI (p + 8 + 8 * i))), (0, .ref ac), (1, .int (nI p)), (2, .int (nI i))], [.ref ac], M)) rfl rfl rfl ?_
        refine ps_get (S' := (51, [(5, .int (nI (by2 f (p + 8 + 8 * i + 4)))), (4, .int (nI (by2 f (p + 8 + 8 * i + 2)))), (3, .int (nI (p + 8 + 8 * i))), (0, .ref ac), (1, .int (nI p)), (2, .int (nI i))], [.ref q], M)) rfl h_ac rfl rfl ?_
        refine ps_st (S' := (52, [(5, .int (nI (by2 f (p + 8 + 8 * i + 4)))), (4, .int (nI (by2 f (p + 8 + 8 * i + 2)))), (3, .int (nI (p + 8 + 8 * i))), (0, .ref ac), (1, .int (nI p)), (2, .int (nI i))], [.ref ac, .ref q], M)) rfl rfl rfl ?_
        refine ps_get (S' := (55, [(5, .int (nI (by2 f (p + 8 + 8 * i + 4)))), (4, .int (nI (by2 f (p + 8 + 8 * i + 2)))), (3, .int (nI (p + 8 + 8 * i))), (0, .ref ac), (1, .int (nI p)), (2, .int (nI i))], [.ref b, .ref q], M)) rfl h_ac rfl rfl ?_
        refine ps_st (S' := (56, [(5, .int (nI (by2 f (p + 8 + 8 * i + 4)))), (4, .int (nI (by2 f (p + 8 + 8 * i + 2)))), (3, .int (nI (p + 8 + 8 * i))), (0, .ref ac), (1, .int (nI p)), (2, .int (nI i))], [.int (nI (p + 8 + 8 * i)), .ref b, .ref q], M)) rfl rfl rfl ?_
        refine pl_call (a := [.ref b, .int (nI (p + 8 + 8 * i))]) (rest := [.ref q]) rfl rfl rfl (dk_u2 (f := f) (n := n) (b := b) (da := da) (p := (p + 8 + 8 * i)) h_b h_da (hn) (by omega)) (fun v7 M8 q9 => ?_)
        obtain ⟨rfl, rfl⟩ := q9
        show pl _ _ _ (59, [(5, .int (nI (by2 f (p + 8 + 8 * i + 4)))), (4, .int (nI (by2 f (p + 8 + 8 * i + 2)))), (3, .int (nI (p + 8 + 8 * i))), (0, .ref ac), (1, .int (nI p)), (2, .int (nI i))], [.int (nI (by2 f (p + 8 + 8 * i))), .ref q], M) _
        have hu_56 := by2_lt f (p + 8 + 8 * i)
        refine pl_call (a := [.ref q, .int (nI (by2 f (p + 8 + 8 * i)))]) (rest := []) rfl rfl rfl (dy_tagOf (f := f) (n := n) (N := N) (q := q) (E := E) (j := (by2 f (p + 8 + 8 * i))) (hV) (by2_lt _ _)) (fun v10 M11 q12 => ?_)
        obtain ⟨rfl, rfl⟩ := q12
        show pl _ _ _ (62, [(5, .int (nI (by2 f (p + 8 + 8 * i + 4)))), (4, .int (nI (by2 f (p + 8 + 8 * i + 2)))), (3, .int (nI (p + 8 + 8 * i))), (0, .ref ac), (1, .int (nI p)), (2, .int (nI i))], [.int (nI (tg f E (by2 f (p + 8 + 8 * i))))], M) _
        refine ps_st (S' := (64, [(5, .int (nI (by2 f (p + 8 + 8 * i + 4)))), (4, .int (nI (by2 f (p + 8 + 8 * i + 2)))), (3, .int (nI (p + 8 + 8 * i))), (0, .ref ac), (1, .int (nI p)), (2, .int (nI i))], [.int 7, .int (nI (tg f E (by2 f (p + 8 + 8 * i))))], M)) rfl rfl rfl ?_
        refine ps_if2 (S1 := (104, [], [], M)) (S2 := (67, [(5, .int (nI (by2 f (p + 8 + 8 * i + 4)))), (4, .int (nI (by2 f (p + 8 + 8 * i + 2)))), (3, .int (nI (p + 8 + 8 * i))), (0, .ref ac), (1, .int (nI p)), (2, .int (nI i))], [], M)) rfl rfl rfl (fun c_64 => ?_) (fun c_64 => ?_)
        · have c_64 : ¬ (nI (tg f E (by2 f (p + 8 + 8 * i)))) = 7 := of_decide_eq_true c_64
          have n_64 : ¬ (tg f E (by2 f (p + 8 + 8 * i)) = 7) := fun h9 => c_64 ((eq_nI (p := tg f E (by2 f (p + 8 + 8 * i))) (n := 7) (Nat.lt_trans (tg_lt _ _ _) (by decide)) (by decide)).mpr h9)
          refine ps_st (S' := (105, [], [.int 0], M)) rfl rfl rfl ?_
          exact ps_ret rfl rfl (⟨congrArg (fun x => some (Value.int (nI x))) (show 0 = inA f E (p + 8) ct 0 from by rw [← hs, inA_st (i := i) (by omega), if_pos (by unfold inR; rw [if_neg (by omega)])]), rfl⟩)
        · have c_64 : ¬ (¬ (nI (tg f E (by2 f (p + 8 + 8 * i)))) = 7) := of_decide_eq_false c_64
          have n_64 : tg f E (by2 f (p + 8 + 8 * i)) = 7 := (eq_nI (p := tg f E (by2 f (p + 8 + 8 * i))) (n := 7) (Nat.lt_trans (tg_lt _ _ _) (by decide)) (by decide)).mp (Decidable.not_not.mp c_64)
          refine ps_st (S' := (69, [(5, .int (nI (by2 f (p + 8 + 8 * i + 4)))), (4, .int (nI (by2 f (p + 8 + 8 * i + 2)))), (3, .int (nI (p + 8 + 8 * i))), (0, .ref ac), (1, .int (nI p)), (2, .int (nI i))], [.int (nI (by2 f (p + 8 + 8 * i + 2)))], M)) rfl rfl rfl ?_
          refine ps_if (S1 := (86, [(0, .ref ac), (1, .int (nI p)), (2, .int (nI i)), (5, .int (nI (by2 f (p + 8 + 8 * i + 4))))], [], M)) (S2 := (72, [(5, .int (nI (by2 f (p + 8 + 8 * i + 4)))), (4, .int (nI (by2 f (p + 8 + 8 * i + 2)))), (3, .int (nI (p + 8 + 8 * i))), (0, .ref ac), (1, .int (nI p)), (2, .int (nI i))], [], M)) rfl rfl rfl (fun c_69 => ?_) (fun c_69 => ?_)
          · have c_69 : (nI (by2 f (p + 8 + 8 * i + 2))) = 0 := of_decide_eq_true c_69
            have n_69 : by2 f (p + 8 + 8 * i + 2) = 0 := (eq_nI (p := by2 f (p + 8 + 8 * i + 2)) (n := 0) (Nat.lt_trans (by2_lt _ _) (by decide)) (by decide)).mp c_69
            refine ps_st (S' := (88, [(0, .ref ac), (1, .int (nI p)), (2, .int (nI i)), (5, .int (nI (by2 f (p + 8 + 8 * i + 4))))], [.int (nI (by2 f (p + 8 + 8 * i + 4)))], M)) rfl rfl rfl ?_
            refine ps_if (S1 := (106, [(0, .ref ac), (1, .int (nI p)), (2, .int (nI i))], [], M)) (S2 := (91, [(0, .ref ac), (1, .int (nI p)), (2, .int (nI i)), (5, .int (nI (by2 f (p + 8 + 8 * i + 4))))], [], M)) rfl rfl rfl (fun c_88 => ?_) (fun c_88 => ?_)
            · have c_88 : (nI (by2 f (p + 8 + 8 * i + 4))) = 0 := of_decide_eq_true c_88
              have n_88 : by2 f (p + 8 + 8 * i + 4) = 0 := (eq_nI (p := by2 f (p + 8 + 8 * i + 4)) (n := 0) (Nat.lt_trans (by2_lt _ _) (by decide)) (by decide)).mp c_88
              refine ps_st (S' := (109, [(2, .int ((nI i) + 1)), (0, .ref ac), (1, .int (nI p))], [], M)) rfl rfl rfl ?_
              rw [nI_add1 (p := i) (k := 1) (x := 1) rfl (by omega)]
              show pl _ _ _ (_, [(2, .int (nI (i + 1))), (0, .ref ac), (1, .int (nI p))], [], M) _
              refine ps_st (S' := (2, [(0, .ref ac), (1, .int (nI p)), (2, .int (nI (i + 1)))], [], M)) rfl rfl rfl ?_
              exact ih (i + 1)  (by omega) (by
                  rw [← hs, inA_st (i := i) (by omega), if_neg (by unfold inR; rw [if_pos (by omega)]; decide)])
            · have c_88 : ¬ ((nI (by2 f (p + 8 + 8 * i + 4))) = 0) := of_decide_eq_false c_88
              have n_88 : ¬ (by2 f (p + 8 + 8 * i + 4) = 0) := fun h9 => c_88 ((eq_nI (p := by2 f (p + 8 + 8 * i + 4)) (n := 0) (Nat.lt_trans (by2_lt _ _) (by decide)) (by decide)).mpr h9)
              refine ps_st (S' := (92, [(0, .ref ac), (1, .int (nI p)), (2, .int (nI i)), (5, .int (nI (by2 f (p + 8 + 8 * i + 4))))], [.ref ac], M)) rfl rfl rfl ?_
              refine ps_get (S' := (95, [(0, .ref ac), (1, .int (nI p)), (2, .int (nI i)), (5, .int (nI (by2 f (p + 8 + 8 * i + 4))))], [.ref q], M)) rfl h_ac rfl rfl ?_
              refine ps_st (S' := (97, [(0, .ref ac), (1, .int (nI p)), (2, .int (nI i)), (5, .int (nI (by2 f (p + 8 + 8 * i + 4))))], [.int (nI (by2 f (p + 8 + 8 * i + 4))), .ref q], M)) rfl rfl rfl ?_
              refine pl_call (a := [.ref q, .int (nI (by2 f (p + 8 + 8 * i + 4)))]) (rest := []) rfl rfl rfl (dy_tagOf (f := f) (n := n) (N := N) (q := q) (E := E) (j := (by2 f (p + 8 + 8 * i + 4))) (hV) (by2_lt _ _)) (fun v13 M14 q15 => ?_)
              obtain ⟨rfl, rfl⟩ := q15
              show pl _ _ _ (100, [(0, .ref ac), (1, .int (nI p)), (2, .int (nI i)), (5, .int (nI (by2 f (p + 8 + 8 * i + 4))))], [.int (nI (tg f E (by2 f (p + 8 + 8 * i + 4))))], M) _
              refine ps_st (S' := (101, [(0, .ref ac), (1, .int (nI p)), (2, .int (nI i)), (5, .int (nI (by2 f (p + 8 + 8 * i + 4))))], [.int 1, .int (nI (tg f E (by2 f (p + 8 + 8 * i + 4))))], M)) rfl rfl rfl ?_
              refine ps_if2 (S1 := (106, [(0, .ref ac), (1, .int (nI p)), (2, .int (nI i))], [], M)) (S2 := (104, [], [], M)) rfl rfl rfl (fun c_101 => ?_) (fun c_101 => ?_)
              · have c_101 : (nI (tg f E (by2 f (p + 8 + 8 * i + 4)))) = 1 := of_decide_eq_true c_101
                have n_101 : tg f E (by2 f (p + 8 + 8 * i + 4)) = 1 := (eq_nI (p := tg f E (by2 f (p + 8 + 8 * i + 4))) (n := 1) (Nat.lt_trans (tg_lt _ _ _) (by decide)) (by decide)).mp c_101
                refine ps_st (S' := (109, [(2, .int ((nI i) + 1)), (0, .ref ac), (1, .int (nI p))], [], M)) rfl rfl rfl ?_
                rw [nI_add1 (p := i) (k := 1) (x := 1) rfl (by omega)]
                show pl _ _ _ (_, [(2, .int (nI (i + 1))), (0, .ref ac), (1, .int (nI p))], [], M) _
                refine ps_st (S' := (2, [(0, .ref ac), (1, .int (nI p)), (2, .int (nI (i + 1)))], [], M)) rfl rfl rfl ?_
                exact ih (i + 1)  (by omega) (by
                    rw [← hs, inA_st (i := i) (by omega), if_neg (by unfold inR; rw [if_pos (by omega)]; decide)])
              · have c_101 : ¬ ((nI (tg f E (by2 f (p + 8 + 8 * i + 4)))) = 1) := of_decide_eq_false c_101
                have n_101 : ¬ (tg f E (by2 f (p + 8 + 8 * i + 4)) = 1) := fun h9 => c_101 ((eq_nI (p := tg f E (by2 f (p + 8 + 8 * i + 4))) (n := 1) (Nat.lt_trans (tg_lt _ _ _) (by decide)) (by decide)).mpr h9)
                refine ps_st (S' := (105, [], [.int 0], M)) rfl rfl rfl ?_
                exact ps_ret rfl rfl (⟨congrArg (fun x => some (Value.int (nI x))) (show 0 = inA f E (p + 8) ct 0 from by rw [← hs, inA_st (i := i) (by omega), if_pos (by unfold inR; rw [if_neg (by omega)])]), rfl⟩)
          · have c_69 : ¬ ((nI (by2 f (p + 8 + 8 * i + 2))) = 0) := of_decide_eq_false c_69
            have n_69 : ¬ (by2 f (p + 8 + 8 * i + 2) = 0) := fun h9 => c_69 ((eq_nI (p := by2 f (p + 8 + 8 * i + 2)) (n := 0) (Nat.lt_trans (by2_lt _ _) (by decide)) (by decide)).mpr h9)
            refine ps_st (S' := (73, [(5, .int (nI (by2 f (p + 8 + 8 * i + 4)))), (4, .int (nI (by2 f (p + 8 + 8 * i + 2)))), (3, .int (nI (p + 8 + 8 * i))), (0, .ref ac), (1, .int (nI p)), (2, .int (nI i))], [.ref ac], M)) rfl rfl rfl ?_
            refine ps_get (S' := (76, [(5, .int (nI (by2 f (p + 8 + 8 * i + 4)))), (4, .int (nI (by2 f (p + 8 + 8 * i + 2)))), (3, .int (nI (p + 8 + 8 * i))), (0, .ref ac), (1, .int (nI p)), (2, .int (nI i))], [.ref q], M)) rfl h_ac rfl rfl ?_
            refine ps_st (S' := (78, [(5, .int (nI (by2 f (p + 8 + 8 * i + 4)))), (4, .int (nI (by2 f (p + 8 + 8 * i + 2)))), (3, .int (nI (p + 8 + 8 * i))), (0, .ref ac), (1, .int (nI p)), (2, .int (nI i))], [.int (nI (by2 f (p + 8 + 8 * i + 2))), .ref q], M)) rfl rfl rfl ?_
            refine pl_call (a := [.ref q, .int (nI (by2 f (p + 8 + 8 * i + 2)))]) (rest := []) rfl rfl rfl (dy_tagOf (f := f) (n := n) (N := N) (q := q) (E := E) (j := (by2 f (p + 8 + 8 * i + 2))) (hV) (by2_lt _ _)) (fun v16 M17 q18 => ?_)
            obtain ⟨rfl, rfl⟩ := q18
            show pl _ _ _ (81, [(5, .int (nI (by2 f (p + 8 + 8 * i + 4)))), (4, .int (nI (by2 f (p + 8 + 8 * i + 2)))), (3, .int (nI (p + 8 + 8 * i))), (0, .ref ac), (1, .int (nI p)), (2, .int (nI i))], [.int (nI (tg f E (by2 f (p + 8 + 8 * i + 2))))], M) _
            refine ps_st (S' := (83, [(5, .int (nI (by2 f (p + 8 + 8 * i + 4)))), (4, .int (nI (by2 f (p + 8 + 8 * i + 2)))), (3, .int (nI (p + 8 + 8 * i))), (0, .ref ac), (1, .int (nI p)), (2, .int (nI i))], [.int 7, .int (nI (tg f E (by2 f (p + 8 + 8 * i + 2))))], M)) rfl rfl rfl ?_
            refine ps_if2 (S1 := (104, [], [], M)) (S2 := (86, [(0, .ref ac), (1, .int (nI p)), (2, .int (nI i)), (5, .int (nI (by2 f (p + 8 + 8 * i + 4))))], [], M)) rfl rfl rfl (fun c_83 => ?_) (fun c_83 => ?_)
            · have c_83 : ¬ (nI (tg f E (by2 f (p + 8 + 8 * i + 2)))) = 7 := of_decide_eq_true c_83
              have n_83 : ¬ (tg f E (by2 f (p + 8 + 8 * i + 2)) = 7) := fun h9 => c_83 ((eq_nI (p := tg f E (by2 f (p + 8 + 8 * i + 2))) (n := 7) (Nat.lt_trans (tg_lt _ _ _) (by decide)) (by decide)).mpr h9)
              refine ps_st (S' := (105, [], [.int 0], M)) rfl rfl rfl ?_
              exact ps_ret rfl rfl (⟨congrArg (fun x => some (Value.int (nI x))) (show 0 = inA f E (p + 8) ct 0 from by rw [← hs, inA_st (i := i) (by omega), if_pos (by unfold inR; rw [if_neg (by omega)])]), rfl⟩)
            · have c_83 : ¬ (¬ (nI (tg f E (by2 f (p + 8 + 8 * i + 2)))) = 7) := of_decide_eq_false c_83
              have n_83 : tg f E (by2 f (p + 8 + 8 * i + 2)) = 7 := (eq_nI (p := tg f E (by2 f (p + 8 + 8 * i + 2))) (n := 7) (Nat.lt_trans (tg_lt _ _ _) (by decide)) (by decide)).mp (Decidable.not_not.mp c_83)
              refine ps_st (S' := (88, [(0, .ref ac), (1, .int (nI p)), (2, .int (nI i)), (5, .int (nI (by2 f (p + 8 + 8 * i + 4))))], [.int (nI (by2 f (p + 8 + 8 * i + 4)))], M)) rfl rfl rfl ?_
              refine ps_if (S1 := (106, [(0, .ref ac), (1, .int (nI p)), (2, .int (nI i))], [], M)) (S2 := (91, [(0, .ref ac), (1, .int (nI p)), (2, .int (nI i)), (5, .int (nI (by2 f (p + 8 + 8 * i + 4))))], [], M)) rfl rfl rfl (fun c_88 => ?_) (fun c_88 => ?_)
              · have c_88 : (nI (by2 f (p + 8 + 8 * i + 4))) = 0 := of_decide_eq_true c_88
                have n_88 : by2 f (p + 8 + 8 * i + 4) = 0 := (eq_nI (p := by2 f (p + 8 + 8 * i + 4)) (n := 0) (Nat.lt_trans (by2_lt _ _) (by decide)) (by decide)).mp c_88
                refine ps_st (S' := (109, [(2, .int ((nI i) + 1)), (0, .ref ac), (1, .int (nI p))], [], M)) rfl rfl rfl ?_
                rw [nI_add1 (p := i) (k := 1) (x := 1) rfl (by omega)]
                show pl _ _ _ (_, [(2, .int (nI (i + 1))), (0, .ref ac), (1, .int (nI p))], [], M) _
                refine ps_st (S' := (2, [(0, .ref ac), (1, .int (nI p)), (2, .int (nI (i + 1)))], [], M)) rfl rfl rfl ?_
                exact ih (i + 1)  (by omega) (by
                    rw [← hs, inA_st (i := i) (by omega), if_neg (by unfold inR; rw [if_pos (by omega)]; decide)])
              · have c_88 : ¬ ((nI (by2 f (p + 8 + 8 * i + 4))) = 0) := of_decide_eq_false c_88
                have n_88 : ¬ (by2 f (p + 8 + 8 * i + 4) = 0) := fun h9 => c_88 ((eq_nI (p := by2 f (p + 8 + 8 * i + 4)) (n := 0) (Nat.lt_trans (by2_lt _ _) (by decide)) (by decide)).mpr h9)
                refine ps_st (S' := (92, [(0, .ref ac), (1, .int (nI p)), (2, .int (nI i)), (5, .int (nI (by2 f (p + 8 + 8 * i + 4))))], [.ref ac], M)) rfl rfl rfl ?_
                refine ps_get (S' := (95, [(0, .ref ac), (1, .int (nI p)), (2, .int (nI i)), (5, .int (nI (by2 f (p + 8 + 8 * i + 4))))], [.ref q], M)) rfl h_ac rfl rfl ?_
                refine ps_st (S' := (97, [(0, .ref ac), (1, .int (nI p)), (2, .int (nI i)), (5, .int (nI (by2 f (p + 8 + 8 * i + 4))))], [.int (nI (by2 f (p + 8 + 8 * i + 4))), .ref q], M)) rfl rfl rfl ?_
                refine pl_call (a := [.ref q, .int (nI (by2 f (p + 8 + 8 * i + 4)))]) (rest := []) rfl rfl rfl (dy_tagOf (f := f) (n := n) (N := N) (q := q) (E := E) (j := (by2 f (p + 8 + 8 * i + 4))) (hV) (by2_lt _ _)) (fun v19 M20 q21 => ?_)
                obtain ⟨rfl, rfl⟩ := q21
                show pl _ _ _ (100, [(0, .ref ac), (1, .int (nI p)), (2, .int (nI i)), (5, .int (nI (by2 f (p + 8 + 8 * i + 4))))], [.int (nI (tg f E (by2 f (p + 8 + 8 * i + 4))))], M) _
                refine ps_st (S' := (101, [(0, .ref ac), (1, .int (nI p)), (2, .int (nI i)), (5, .int (nI (by2 f (p + 8 + 8 * i + 4))))], [.int 1, .int (nI (tg f E (by2 f (p + 8 + 8 * i + 4))))], M)) rfl rfl rfl ?_
                refine ps_if2 (S1 := (106, [(0, .ref ac), (1, .int (nI p)), (2, .int (nI i))], [], M)) (S2 := (104, [], [], M)) rfl rfl rfl (fun c_101 => ?_) (fun c_101 => ?_)
                · have c_101 : (nI (tg f E (by2 f (p + 8 + 8 * i + 4)))) = 1 := of_decide_eq_true c_101
                  have n_101 : tg f E (by2 f (p + 8 + 8 * i + 4)) = 1 := (eq_nI (p := tg f E (by2 f (p + 8 + 8 * i + 4))) (n := 1) (Nat.lt_trans (tg_lt _ _ _) (by decide)) (by decide)).mp c_101
                  refine ps_st (S' := (109, [(2, .int ((nI i) + 1)), (0, .ref ac), (1, .int (nI p))], [], M)) rfl rfl rfl ?_
                  rw [nI_add1 (p := i) (k := 1) (x := 1) rfl (by omega)]
                  show pl _ _ _ (_, [(2, .int (nI (i + 1))), (0, .ref ac), (1, .int (nI p))], [], M) _
                  refine ps_st (S' := (2, [(0, .ref ac), (1, .int (nI p)), (2, .int (nI (i + 1)))], [], M)) rfl rfl rfl ?_
                  exact ih (i + 1)  (by omega) (by
                      rw [← hs, inA_st (i := i) (by omega), if_neg (by unfold inR; rw [if_pos (by omega)]; decide)])
                · have c_101 : ¬ ((nI (tg f E (by2 f (p + 8 + 8 * i + 4)))) = 1) := of_decide_eq_false c_101
                  have n_101 : ¬ (tg f E (by2 f (p + 8 + 8 * i + 4)) = 1) := fun h9 => c_101 ((eq_nI (p := tg f E (by2 f (p + 8 + 8 * i + 4))) (n := 1) (Nat.lt_trans (tg_lt _ _ _) (by decide)) (by decide)).mpr h9)
                  refine ps_st (S' := (105, [], [.int 0], M)) rfl rfl rfl ?_
                  exact ps_ret rfl rfl (⟨congrArg (fun x => some (Value.int (nI x))) (show 0 = inA f E (p + 8) ct 0 from by rw [← hs, inA_st (i := i) (by omega), if_pos (by unfold inR; rw [if_neg (by omega)])]), rfl⟩)
  refine ps_st (S' := (1, [(0, .ref ac), (1, .int (nI p))], [.int 0], M)) rfl rfl rfl ?_
  refine ps_st (S' := (2, [(0, .ref ac), (1, .int (nI p)), (2, .int 0)], [], M)) rfl rfl rfl ?_
  exact (LL kf) (0)  (by omega) (rfl)
set_option maxHeartbeats 1000000 in
theorem dk_bsHold {g : xe_G} {M : mi_H} {f : Nat → Int32} {n N q : Nat} {E : List (Nat × Nat)} {ac c b da vd fr mr fa ic mj na pa : Nat} {mi ru wa s1 k1 k2 k3 k4 k5 k6 k7 : Int32} {p0 ct e : Nat} (h_ac : M.1 ac = some (ob 0 [.ref c, .ref b, .ref q, .ref vd, .int s1])) (h_b : M.1 b = some (ob 1 [.ref da])) (h_da : M.1 da = some (ar .byte n f)) (h_c : M.1 c = some (ob 3 [.ref b, .ref q, .int mi, .int (nI mj), .int (nI fa), .int (nI ic), .ref fr, .ref mr, .int (nI na), .int (nI pa), .int k1, .int (nI ct), .int (nI p0), .int k4, .int k5, .int k6, .int k7])) (hn : n ≤ 65540) (hct : ct < 65536) (he : e ≤ n) (hf0 : s_bsE f e ct p0 = some e) (hV : PV g f n N E q M) : pt (mT g) 25 [.ref ac] M (fun v M' => (v = some (.int (nI (bsA f E ct p0))) ∧ M = M')) := by
  refine pt_in (b := mb_25 g) rfl (fun kf => ?_)
  show pl (mT g) kf (mb_25 g).2 (0, [(0, .ref ac)], [], M) _
  have LL : ∀ (kf : Nat), (∀ (i p : Nat), (i ≤ ct) → (s_bsE f e (ct - i) p = some e) → (bsA f E (ct - i) p = bsA f E ct p0) →  pl (mT g) kf (mb_25 g).2 (10, [(0, .ref ac), (1, .int (nI p)), (2, .int (nI i))], [], M) (fun v M' => (v = some (.int (nI (bsA f E ct p0))) ∧ M = M'))) ∧ (∀ (i p j : Nat), (i < ct) → (j ≤ by2 f (p + 2)) → (p + 4 + 2 * by2 f (p + 2) ≤ e) → (s_bsE f e (ct - (i + 1)) (p + 4 + 2 * by2 f (p + 2)) = some e) → (tg f E (by2 f p) = 15) → (bsA f E (ct - i) p = bsA f E ct p0) → (ldA f E (by2 f (p + 2) - j) (p + 4 + 2 * j) = ldA f E (by2 f (p + 2)) (p + 4)) →  pl (mT g) kf (mb_25 g).2 (60, [(0, .ref ac), (1, .int (nI (p + 4 + 2 * j))), (2, .int (nI i)), (3, .int (nI (by2 f (p + 2)))), (4, .int (nI j))], [], M) (fun v M' => (v = some (.int (nI (bsA f E ct p0))) ∧ M = M'))) := by
    intro kf
    induction kf with
    | zero => exact ⟨by intros; exact pl_0, by intros; exact pl_0⟩
    | succ kf ih =>
      refine ⟨?_, ?_⟩
      · skip
        intro i p hi hf hs
        have hq9 := s_bsE_in (i := i) (p := p) hf
        refine ps_st1 (S' := (11, [(0, .ref ac), (1, .int (nI p)), (2, .int (nI i))], [.int (nI i)], M)) rfl rfl rfl ?_
        refine ps_st (S' := (12, [(0, .ref ac), (1, .int (nI p)), (2, .int (nI i))], [.ref ac, .int (nI i)], M)) rfl rfl rfl ?_
        refine ps_get (S' := (15, [(0, .ref ac), (1, .int (nI p)), (2, .int (nI i))], [.ref c, .int (nI i)], M)) rfl h_ac rfl rfl ?_
        refine ps_get (S' := (18, [(0, .ref ac), (1, .int (nI p)), (2, .int (nI i))], [.int (nI ct), .int (nI i)], M)) rfl h_c rfl rfl ?_
        refine ps_if2 (S1 := (104, [(0, .ref ac), (1, .int (nI p)), (2, .int (nI i))], [], M)) (S2 := (21, [(0, .ref ac), (1, .int (nI p)), (2, .int (nI i))], [], M)) rfl rfl rfl (fun c_18 => ?_) (fun c_18 => ?_)
        · have c_18 : (nI ct) ≤ (nI i) := of_decide_eq_true c_18
          have n_18 : ct ≤ i := (le_nI (p := ct) (n := i) (by omega) (by omega)).mp c_18
          refine ps_st (S' := (105, [(0, .ref ac), (1, .int (nI p)), (2, .int (nI i))], [.int 1], M)) rfl rfl rfl ?_
          exact ps_ret rfl rfl (⟨congrArg (fun x => some (Value.int (nI x))) (show 1 = bsA f E ct p0 from by rw [← hs, show ct - i = 0 by omega, bsA]), rfl⟩)
        · have c_18 : ¬ ((nI ct) ≤ (nI i)) := of_decide_eq_false c_18
          have n_18 : ¬ (ct ≤ i) := fun h9 => c_18 ((le_nI (p := ct) (n := i) (by omega) (by omega)).mpr h9)
          refine ps_st (S' := (22, [(0, .ref ac), (1, .int (nI p)), (2, .int (nI i))], [.ref ac], M)) rfl rfl rfl ?_
          refine ps_get (S' := (25, [(0, .ref ac), (1, .int (nI p)), (2, .int (nI i))], [.ref q], M)) rfl h_ac rfl rfl ?_
          refine ps_st (S' := (26, [(0, .ref ac), (1, .int (nI p)), (2, .int (nI i))], [.ref ac, .ref q], M)) rfl rfl rfl ?_
          refine ps_get (S' := (29, [(0, .ref ac), (1, .int (nI p)), (2, .int (nI i))], [.ref b, .ref q], M)) rfl h_ac rfl rfl ?_
          refine ps_st (S' := (30, [(0, .ref ac), (1, .int (nI p)), (2, .int (nI i))], [.int (nI p), .ref b, .ref q], M)) rfl rfl rfl ?_
          refine pl_call (a := [.ref b, .int (nI p)]) (rest := [.ref q]) rfl rfl rfl (dk_u2 (f := f) (n := n) (b := b) (da := da) (p := p) h_b h_da (hn) (by omega)) (fun v1 M2 q3 => ?_)
          obtain ⟨rfl, rfl⟩ := q3
          show pl _ _ _ (33, [(0, .ref ac), (1, .int (nI p)), (2, .int (nI i))], [.int (nI (by2 f p)), .ref q], M) _
          have hu_30 := by2_lt f p
          refine pl_call (a := [.ref q, .int (nI (by2 f p))]) (rest := []) rfl rfl rfl (dy_tagOf (f := f) (n := n) (N := N) (q := q) (E := E) (j := (by2 f p)) (hV) (by2_lt _ _)) (fun v4 M5 q6 => ?_)
          obtain ⟨rfl, rfl⟩ := q6
          show pl _ _ _ (36, [(0, .ref ac), (1, .int (nI p)), (2, .int (nI i))], [.int (nI (tg f E (by2 f p)))], M) _
          refine ps_st (S' := (38, [(0, .ref ac), (1, .int (nI p)), (2, .int (nI i))], [.int 15, .int (nI (tg f E (by2 f p)))], M)) rfl rfl rfl ?_
          refine ps_if2 (S1 := (43, [(0, .ref ac), (1, .int (nI p)), (2, .int (nI i))], [], M)) (S2 := (41, [(0, .ref ac), (1, .int (nI p)), (2, .int (nI i))], [], M)) rfl rfl rfl (fun c_38 => ?_) (fun c_38 => ?_)
          · have c_38 : (nI (tg f E (by2 f p))) = 15 := of_decide_eq_true c_38
            have n_38 : tg f E (by2 f p) = 15 := (eq_nI (p := tg f E (by2 f p)) (n := 15) (Nat.lt_trans (tg_lt _ _ _) (by decide)) (by decide)).mp c_38
            refine ps_st (S' := (44, [(0, .ref ac), (1, .int (nI p)), (2, .int (nI i))], [.ref ac], M)) rfl rfl rfl ?_
            refine ps_get (S' := (47, [(0, .ref ac), (1, .int (nI p)), (2, .int (nI i))], [.ref b], M)) rfl h_ac rfl rfl ?_
            refine ps_st (S' := (48, [(0, .ref ac), (1, .int (nI p)), (2, .int (nI i))], [.int (nI p), .ref b], M)) rfl rfl rfl ?_
            refine ps_st (S' := (49, [(0, .ref ac), (1, .int (nI p)), (2, .int (nI i))], [.int 2, .int (nI p), .ref b], M)) rfl rfl rfl ?_
            refine ps_st (S' := (50, [(0, .ref ac), (1, .int (nI p)), (2, .int (nI i))], [.int ((nI p) + 2), .ref b], M)) rfl rfl rfl ?_
            rw [nI_add1 (p := p) (k := 2) (x := 2) rfl (by omega)]
            show pl _ _ _ (_, [(0, .ref ac), (1, .int (nI p)), (2, .int (nI i))], [.int (nI (p + 2)), .ref b], M) _
            refine pl_call (a := [.ref b, .int (nI (p + 2))]) (rest := []) rfl rfl rfl (dk_u2 (f := f) (n := n) (b := b) (da := da) (p := (p + 2)) h_b h_da (hn) (by omega)) (fun v7 M8 q9 => ?_)
            obtain ⟨rfl, rfl⟩ := q9
            show pl _ _ _ (53, [(0, .ref ac), (1, .int (nI p)), (2, .int (nI i))], [.int (nI (by2 f (p + 2)))], M) _
            have hu_50 := by2_lt f (p + 2)
            refine ps_st (S' := (54, [(3, .int (nI (by2 f (p + 2)))), (0, .ref ac), (1, .int (nI p)), (2, .int (nI i))], [], M)) rfl rfl rfl ?_
            refine ps_st (S' := (57, [(1, .int ((nI p) + 4)), (3, .int (nI (by2 f (p + 2)))), (0, .ref ac), (2, .int (nI i))], [], M)) rfl rfl rfl ?_
            rw [nI_add1 (p := p) (k := 4) (x := 4) rfl (by omega)]
            show pl _ _ _ (_, [(1, .int (nI (p + 4))), (3, .int (nI (by2 f (p + 2)))), (0, .ref ac), (2, .int (nI i))], [], M) _
            refine ps_st (S' := (58, [(1, .int (nI (p + 4))), (3, .int (nI (by2 f (p + 2)))), (0, .ref ac), (2, .int (nI i))], [.int 0], M)) rfl rfl rfl ?_
            refine ps_st (S' := (60, [(0, .ref ac), (1, .int (nI (p + 4))), (2, .int (nI i)), (3, .int (nI (by2 f (p + 2)))), (4, .int 0)], [], M)) rfl rfl rfl ?_
            exact ih.2 (i) (p) (0)  (by omega) (by omega) ((hq9 (by omega)).2.1) ((hq9 (by omega)).2.2) (by omega) (hs) (rfl)
          · have c_38 : ¬ ((nI (tg f E (by2 f p))) = 15) := of_decide_eq_false c_38
            have n_38 : ¬ (tg f E (by2 f p) = 15) := fun h9 => c_38 ((eq_nI (p := tg f E (by2 f p)) (n := 15) (Nat.lt_trans (tg_lt _ _ _) (by decide)) (by decide)).mpr h9)
            refine ps_st (S' := (42, [(0, .ref ac), (1, .int (nI p)), (2, .int (nI i))], [.int 0], M)) rfl rfl rfl ?_
            exact ps_ret rfl rfl (⟨congrArg (fun x => some (Value.int (nI x))) (show 0 = bsA f E ct p0 from by rw [← hs, bsA_st (i := i) (p := p) (by omega), if_pos (by omega)]), rfl⟩)
      · skip
        intro i p j hi hj hle hf2 h15 hs hd
        have hu9 := by2_lt f (p + 2)
        refine ps_st1 (S' := (62, [(0, .ref ac), (1, .int (nI (p + 4 + 2 * j))), (2, .int (nI i)), (3, .int (nI (by2 f (p + 2)))), (4, .int (nI j))], [.int (nI j)], M)) rfl rfl rfl ?_
        refine ps_st (S' := (63, [(0, .ref ac), (1, .int (nI (p + 4 + 2 * j))), (2, .int (nI i)), (3, .int (nI (by2 f (p + 2)))), (4, .int (nI j))], [.int (nI (by2 f (p + 2))), .int (nI j)], M)) rfl rfl rfl ?_
        refine ps_if2 (S1 := (98, [(0, .ref ac), (1, .int (nI (p + 4 + 2 * j))), (2, .int (nI i)), (3, .int (nI (by2 f (p + 2)))), (4, .int (nI j))], [], M)) (S2 := (66, [(0, .ref ac), (1, .int (nI (p + 4 + 2 * j))), (2, .int (nI i)), (3, .int (nI (by2 f (p + 2)))), (4, .int (nI j))], [], M)) rfl rfl rfl (fun c_63 => ?_) (fun c_63 => ?_)
        · have c_63 : (nI (by2 f (p + 2))) ≤ (nI j) := of_decide_eq_true c_63
          have n_63 : by2 f (p + 2) ≤ j := (le_nI (p := by2 f (p + 2)) (n := j) (Nat.lt_trans (by2_lt _ _) (by decide)) (by omega)).mp c_63
          refine ps_st (S' := (101, [(2, .int ((nI i) + 1)), (0, .ref ac), (1, .int (nI (p + 4 + 2 * j))), (3, .int (nI (by2 f (p + 2)))), (4, .int (nI j))], [], M)) rfl rfl rfl ?_
          rw [nI_add1 (p := i) (k := 1) (x := 1) rfl (by omega)]
          show pl _ _ _ (_, [(2, .int (nI (i + 1))), (0, .ref ac), (1, .int (nI (p + 4 + 2 * j))), (3, .int (nI (by2 f (p + 2)))), (4, .int (nI j))], [], M) _
          refine ps_st (S' := (10, [(0, .ref ac), (1, .int (nI (p + 4 + 2 * j))), (2, .int (nI (i + 1)))], [], M)) rfl rfl rfl ?_
          rw [show p + 4 + 2 * j = p + 4 + 2 * by2 f (p + 2) by omega]
          exact ih.1 (i + 1) (p + 4 + 2 * by2 f (p + 2))  (by omega) (hf2) (by rw [← hs, bsA_st (i := i) (p := p) hi, if_neg (by omega), if_neg (by rw [← hd, show by2 f (p + 2) - j = 0 by omega]; exact Nat.one_ne_zero)])
        · have c_63 : ¬ ((nI (by2 f (p + 2))) ≤ (nI j)) := of_decide_eq_false c_63
          have n_63 : ¬ (by2 f (p + 2) ≤ j) := fun h9 => c_63 ((le_nI (p := by2 f (p + 2)) (n := j) (Nat.lt_trans (by2_lt _ _) (by decide)) (by omega)).mpr h9)
          refine ps_st (S' := (67, [(0, .ref ac), (1, .int (nI (p + 4 + 2 * j))), (2, .int (nI i)), (3, .int (nI (by2 f (p + 2)))), (4, .int (nI j))], [.ref ac], M)) rfl rfl rfl ?_
          refine ps_get (S' := (70, [(0, .ref ac), (1, .int (nI (p + 4 + 2 * j))), (2, .int (nI i)), (3, .int (nI (by2 f (p + 2)))), (4, .int (nI j))], [.ref q], M)) rfl h_ac rfl rfl ?_
          refine ps_st (S' := (71, [(0, .ref ac), (1, .int (nI (p + 4 + 2 * j))), (2, .int (nI i)), (3, .int (nI (by2 f (p + 2)))), (4, .int (nI j))], [.ref ac, .ref q], M)) rfl rfl rfl ?_
          refine ps_get (S' := (74, [(0, .ref ac), (1, .int (nI (p + 4 + 2 * j))), (2, .int (nI i)), (3, .int (nI (by2 f (p + 2)))), (4, .int (nI j))], [.ref b, .ref q], M)) rfl h_ac rfl rfl ?_
          refine ps_st (S' := (75, [(0, .ref ac), (1, .int (nI (p + 4 + 2 * j))), (2, .int (nI i)), (3, .int (nI (by2 f (p + 2)))), (4, .int (nI j))], [.int (nI (p + 4 + 2 * j)), .ref b, .ref q], M)) rfl rfl rfl ?_
          refine pl_call (a := [.ref b, .int (nI (p + 4 + 2 * j))]) (rest := [.ref q]) rfl rfl rfl (dk_u2 (f := f) (n := n) (b := b) (da := da) (p := (p + 4 + 2 * j)) h_b h_da (hn) (by omega)) (fun v10 M11 q12 => ?_)
          obtain ⟨rfl, rfl⟩ := q12
          show pl _ _ _ (78, [(0, .ref ac), (1, .int (nI (p + 4 + 2 * j))), (2, .int (nI i)), (3, .int (nI (by2 f (p + 2)))), (4, .int (nI j))], [.int (nI (by2 f (p + 4 + 2 * j))), .ref q], M) _
          have hu_75 := by2_lt f (p + 4 + 2 * j)
          refine pl_call (a := [.ref q, .int (nI (by2 f (p + 4 + 2 * j)))]) (rest := []) rfl rfl rfl (dy_tagOf (f := f) (n := n) (N := N) (q := q) (E := E) (j := (by2 f (p + 4 + 2 * j))) (hV) (by2_lt _ _)) (fun v13 M14 q15 => ?_)
          obtain ⟨rfl, rfl⟩ := q15
          show pl _ _ _ (81, [(0, .ref ac), (1, .int (nI (p + 4 + 2 * j))), (2, .int (nI i)), (3, .int (nI (by2 f (p + 2)))), (4, .int (nI j))], [.int (nI (tg f E (by2 f (p + 4 + 2 * j))))], M) _
          refine pl_call (a := [.int (nI (tg f E (by2 f (p + 4 + 2 * j))))]) (rest := []) rfl rfl rfl (dk_isLoadable (t := (tg f E (by2 f (p + 4 + 2 * j)))) (Nat.lt_trans (tg_lt _ _ _) (by decide))) (fun v16 M17 q18 => ?_)
          obtain ⟨rfl, rfl⟩ := q18
          show pl _ _ _ (84, [(0, .ref ac), (1, .int (nI (p + 4 + 2 * j))), (2, .int (nI i)), (3, .int (nI (by2 f (p + 2)))), (4, .int (nI j))], [.int (nI (ldN (tg f E (by2 f (p + 4 + 2 * j)))))], M) _
          refine ps_if (S1 := (89, [(0, .ref ac), (1, .int (nI (p + 4 + 2 * j))), (2, .int (nI i)), (3, .int (nI (by2 f (p + 2)))), (4, .int (nI j))], [], M)) (S2 := (87, [(0, .ref ac), (1, .int (nI (p + 4 + 2 * j))), (2, .int (nI i)), (3, .int (nI (by2 f (p + 2)))), (4, .int (nI j))], [], M)) rfl rfl rfl (fun c_84 => ?_) (fun c_84 => ?_)
          · have c_84 : ¬ (nI (ldN (tg f E (by2 f (p + 4 + 2 * j))))) = 0 := of_decide_eq_true c_84
            have n_84 : ¬ (ldN (tg f E (by2 f (p + 4 + 2 * j))) = 0) := fun h9 => c_84 ((eq_nI (p := ldN (tg f E (by2 f (p + 4 + 2 * j)))) (n := 0) (Nat.lt_trans (le1_ld _) (by decide)) (by decide)).mpr h9)
            refine ps_st (S' := (92, [(1, .int ((nI (p + 4 + 2 * j)) + 2)), (0, .ref ac), (2, .int (nI i)), (3, .int (nI (by2 f (p + 2)))), (4, .int (nI j))], [], M)) rfl rfl rfl ?_
            rw [nI_add1 (p := p + 4 + 2 * j) (k := 2) (x := 2) rfl (by omega)]
            show pl _ _ _ (_, [(1, .int (nI (p + 4 + 2 * j + 2))), (0, .ref ac), (2, .int (nI i)), (3, .int (nI (by2 f (p + 2)))), (4, .int (nI j))], [], M) _
            refine ps_st (S' := (95, [(4, .int ((nI j) + 1)), (1, .int (nI (p + 4 + 2 * j + 2))), (0, .ref ac), (2, .int (nI i)), (3, .int (nI (by2 f (p + 2))))], [], M)) rfl rfl rfl ?_
            rw [nI_add1 (p := j) (k := 1) (x := 1) rfl (by omega)]
            show pl _ _ _ (_, [(4, .int (nI (j + 1))), (1, .int (nI (p + 4 + 2 * j + 2))), (0, .ref ac), (2, .int (nI i)), (3, .int (nI (by2 f (p + 2))))], [], M) _
            refine ps_st (S' := (60, [(0, .ref ac), (1, .int (nI (p + 4 + 2 * j + 2))), (2, .int (nI i)), (3, .int (nI (by2 f (p + 2)))), (4, .int (nI (j + 1)))], [], M)) rfl rfl rfl ?_
            exact ih.2 (i) (p) (j + 1)  (hi) (by omega) (hle) (hf2) (h15) (hs) (by
                rw [← hd, ldA_st (i := j) (by omega), if_neg (by omega)]
                rfl)
          · have c_84 : ¬ (¬ (nI (ldN (tg f E (by2 f (p + 4 + 2 * j))))) = 0) := of_decide_eq_false c_84
            have n_84 : ldN (tg f E (by2 f (p + 4 + 2 * j))) = 0 := (eq_nI (p := ldN (tg f E (by2 f (p + 4 + 2 * j)))) (n := 0) (Nat.lt_trans (le1_ld _) (by decide)) (by decide)).mp (Decidable.not_not.mp c_84)
            refine ps_st (S' := (88, [(0, .ref ac), (1, .int (nI (p + 4 + 2 * j))), (2, .int (nI i)), (3, .int (nI (by2 f (p + 2)))), (4, .int (nI j))], [.int 0], M)) rfl rfl rfl ?_
            exact ps_ret rfl rfl (⟨congrArg (fun x => some (Value.int (nI x))) (show 0 = bsA f E ct p0 from by rw [← hs, bsA_st (i := i) (p := p) hi, if_neg (by omega), if_pos (by rw [← hd, ldA_st (i := j) (by omega), if_pos (by omega)])]), rfl⟩)
  refine ps_st (S' := (1, [(0, .ref ac)], [.ref ac], M)) rfl rfl rfl ?_
  refine ps_get (S' := (4, [(0, .ref ac)], [.ref c], M)) rfl h_ac rfl rfl ?_
  refine ps_get (S' := (7, [(0, .ref ac)], [.int (nI p0)], M)) rfl h_c rfl rfl ?_
  refine ps_st (S' := (8, [(1, .int (nI p0)), (0, .ref ac)], [], M)) rfl rfl rfl ?_
  refine ps_st (S' := (9, [(1, .int (nI p0)), (0, .ref ac)], [.int 0], M)) rfl rfl rfl ?_
  refine ps_st (S' := (10, [(0, .ref ac), (1, .int (nI p0)), (2, .int 0)], [], M)) rfl rfl rfl ?_
  exact (LL kf).1 (0) (p0)  (by omega) (hf0) (rfl)
set_option maxHeartbeats 1000000 in
theorem dk_rowHolds {g : xe_G} {M : mi_H} {f : Nat → Int32} {n N q : Nat} {E : List (Nat × Nat)} {ac c b da vd fr mr fa ic mj na pa : Nat} {mi ru wa s1 k1 k2 k3 k4 k5 k6 k7 : Int32} {cd0 p len : Nat} {y1 y2 y3 y4 y6 y8 : Int32} {v5 v7 v9 v10 : Value} (h_ac : M.1 ac = some (ob 0 [.ref c, .ref b, .ref q, .ref vd, .int s1])) (h_b : M.1 b = some (ob 1 [.ref da])) (h_da : M.1 da = some (ar .byte n f)) (h_cd0 : M.1 cd0 = some (ob 4 [.int y1, .int y2, .int (nI len), .int y3, .int y4, v5, .int y6, v7, .int y8, v9, v10])) (hn : n ≤ 65540) (hl : len < 65536) (hin : p + 8 ≤ n) (hV : PV g f n N E q M) : pt (mT g) 43 [.ref ac, .ref cd0, .int (nI p)] M (fun v M' => (v = some (.int (nI (rwN f E len p))) ∧ M = M')) := by
  refine pt_in (b := mb_43 g) rfl (fun kf => ?_)
  show pl (mT g) kf (mb_43 g).2 (0, [(0, .ref ac), (1, .ref cd0), (2, .int (nI p))], [], M) _
  refine ps_st (S' := (1, [(0, .ref ac), (1, .ref cd0), (2, .int (nI p))], [.ref ac], M)) rfl rfl rfl ?_
  refine ps_get (S' := (4, [(0, .ref ac), (1, .ref cd0), (2, .int (nI p))], [.ref b], M)) rfl h_ac rfl rfl ?_
  refine ps_st (S' := (5, [(0, .ref ac), (1, .ref cd0), (2, .int (nI p))], [.int (nI p), .ref b], M)) rfl rfl rfl ?_
  refine ps_st (S' := (6, [(0, .ref ac), (1, .ref cd0), (2, .int (nI p))], [.int 2, .int (nI p), .ref b], M)) rfl rfl rfl ?_
  refine ps_st (S' := (7, [(0, .ref ac), (1, .ref cd0), (2, .int (nI p))], [.int ((nI p) + 2), .ref b], M)) rfl rfl rfl ?_
  rw [nI_add1 (p := p) (k := 2) (x := 2) rfl (by omega)]
  show pl _ _ _ (_, [(0, .ref ac), (1, .ref cd0), (2, .int (nI p))], [.int (nI (p + 2)), .ref b], M) _
  refine pl_call (a := [.ref b, .int (nI (p + 2))]) (rest := []) rfl rfl rfl (dk_u2 (f := f) (n := n) (b := b) (da := da) (p := (p + 2)) h_b h_da (hn) (by omega)) (fun v1 M2 q3 => ?_)
  obtain ⟨rfl, rfl⟩ := q3
  show pl _ _ _ (10, [(0, .ref ac), (1, .ref cd0), (2, .int (nI p))], [.int (nI (by2 f (p + 2)))], M) _
  have hu_7 := by2_lt f (p + 2)
  refine ps_st (S' := (11, [(3, .int (nI (by2 f (p + 2)))), (0, .ref ac), (1, .ref cd0), (2, .int (nI p))], [], M)) rfl rfl rfl ?_
  refine ps_st (S' := (12, [(3, .int (nI (by2 f (p + 2)))), (0, .ref ac), (1, .ref cd0), (2, .int (nI p))], [.ref ac], M)) rfl rfl rfl ?_
  refine ps_get (S' := (15, [(3, .int (nI (by2 f (p + 2)))), (0, .ref ac), (1, .ref cd0), (2, .int (nI p))], [.ref b], M)) rfl h_ac rfl rfl ?_
  refine ps_st (S' := (16, [(3, .int (nI (by2 f (p + 2)))), (0, .ref ac), (1, .ref cd0), (2, .int (nI p))], [.int (nI p), .ref b], M)) rfl rfl rfl ?_
  refine ps_st (S' := (18, [(3, .int (nI (by2 f (p + 2)))), (0, .ref ac), (1, .ref cd0), (2, .int (nI p))], [.int 6, .int (nI p), .ref b], M)) rfl rfl rfl ?_
  refine ps_st (S' := (19, [(3, .int (nI (by2 f (p + 2)))), (0, .ref ac), (1, .ref cd0), (2, .int (nI p))], [.int ((nI p) + 6), .ref b], M)) rfl rfl rfl ?_
  rw [nI_add1 (p := p) (k := 6) (x := 6) rfl (by omega)]
  show pl _ _ _ (_, [(3, .int (nI (by2 f (p + 2)))), (0, .ref ac), (1, .ref cd0), (2, .int (nI p))], [.int (nI (p + 6)), .ref b], M) _
  refine pl_call (a := [.ref b, .int (nI (p + 6))]) (rest := []) rfl rfl rfl (dk_u2 (f := f) (n := n) (b := b) (da := da) (p := (p + 6)) h_b h_da (hn) (by omega)) (fun v4 M5 q6 => ?_)
  obtain ⟨rfl, rfl⟩ := q6
  show pl _ _ _ (22, [(3, .int (nI (by2 f (p + 2)))), (0, .ref ac), (1, .ref cd0), (2, .int (nI p))], [.int (nI (by2 f (p + 6)))], M) _
  have hu_19 := by2_lt f (p + 6)
  refine ps_st (S' := (24, [(4, .int (nI (by2 f (p + 6)))), (3, .int (nI (by2 f (p + 2)))), (0, .ref ac), (1, .ref cd0), (2, .int (nI p))], [], M)) rfl rfl rfl ?_
  refine ps_st (S' := (25, [(4, .int (nI (by2 f (p + 6)))), (3, .int (nI (by2 f (p + 2)))), (0, .ref ac), (1, .ref cd0), (2, .int (nI p))], [.ref ac], M)) rfl rfl rfl ?_
  refine ps_get (S' := (28, [(4, .int (nI (by2 f (p + 6)))), (3, .int (nI (by2 f (p + 2)))), (0, .ref ac), (1, .ref cd0), (2, .int (nI p))], [.ref b], M)) rfl h_ac rfl rfl ?_
  refine ps_st (S' := (29, [(4, .int (nI (by2 f (p + 6)))), (3, .int (nI (by2 f (p + 2)))), (0, .ref ac), (1, .ref cd0), (2, .int (nI p))], [.int (nI p), .ref b], M)) rfl rfl rfl ?_
  refine pl_call (a := [.ref b, .int (nI p)]) (rest := []) rfl rfl rfl (dk_u2 (f := f) (n := n) (b := b) (da := da) (p := p) h_b h_da (hn) (by omega)) (fun v7 M8 q9 => ?_)
  obtain ⟨rfl, rfl⟩ := q9
  show pl _ _ _ (32, [(4, .int (nI (by2 f (p + 6)))), (3, .int (nI (by2 f (p + 2)))), (0, .ref ac), (1, .ref cd0), (2, .int (nI p))], [.int (nI (by2 f p))], M) _
  have hu_29 := by2_lt f p
  refine ps_st (S' := (33, [(4, .int (nI (by2 f (p + 6)))), (3, .int (nI (by2 f (p + 2)))), (0, .ref ac), (1, .ref cd0), (2, .int (nI p))], [.int (nI (by2 f (p + 2))), .int (nI (by2 f p))], M)) rfl rfl rfl ?_
  refine ps_if2 (S1 := (84, [], [], M)) (S2 := (36, [(4, .int (nI (by2 f (p + 6)))), (3, .int (nI (by2 f (p + 2)))), (0, .ref ac), (1, .ref cd0), (2, .int (nI p))], [], M)) rfl rfl rfl (fun c_33 => ?_) (fun c_33 => ?_)
  · have c_33 : (nI (by2 f (p + 2))) ≤ (nI (by2 f p)) := of_decide_eq_true c_33
    have n_33 : by2 f (p + 2) ≤ by2 f p := (le_nI (p := by2 f (p + 2)) (n := by2 f p) (Nat.lt_trans (by2_lt _ _) (by decide)) (Nat.lt_trans (by2_lt _ _) (by decide))).mp c_33
    refine ps_st (S' := (85, [], [.int 0], M)) rfl rfl rfl ?_
    exact ps_ret rfl rfl (⟨congrArg (fun x => some (Value.int (nI x))) (show 0 = rwN f E len p from by
        unfold rwN
        first | ((repeat first | rw [if_pos (by omega)] | rw [if_neg (by omega)]) <;> first | rfl | omega) | ((repeat' split) <;> first | rfl | (exfalso; omega) | omega)), rfl⟩)
  · have c_33 : ¬ ((nI (by2 f (p + 2))) ≤ (nI (by2 f p))) := of_decide_eq_false c_33
    have n_33 : ¬ (by2 f (p + 2) ≤ by2 f p) := fun h9 => c_33 ((le_nI (p := by2 f (p + 2)) (n := by2 f p) (Nat.lt_trans (by2_lt _ _) (by decide)) (Nat.lt_trans (by2_lt _ _) (by decide))).mpr h9)
    refine ps_st (S' := (37, [(4, .int (nI (by2 f (p + 6)))), (3, .int (nI (by2 f (p + 2)))), (0, .ref ac), (1, .ref cd0), (2, .int (nI p))], [.int (nI (by2 f (p + 2)))], M)) rfl rfl rfl ?_
    refine ps_st (S' := (38, [(4, .int (nI (by2 f (p + 6)))), (3, .int (nI (by2 f (p + 2)))), (0, .ref ac), (1, .ref cd0), (2, .int (nI p))], [.ref cd0, .int (nI (by2 f (p + 2)))], M)) rfl rfl rfl ?_
    refine ps_get (S' := (41, [(4, .int (nI (by2 f (p + 6)))), (3, .int (nI (by2 f (p + 2)))), (0, .ref ac), (1, .ref cd0), (2, .int (nI p))], [.int (nI len), .int (nI (by2 f (p + 2)))], M)) rfl h_cd0 rfl rfl ?_
    refine ps_if2 (S1 := (84, [], [], M)) (S2 := (44, [(4, .int (nI (by2 f (p + 6)))), (3, .int (nI (by2 f (p + 2)))), (0, .ref ac), (1, .ref cd0), (2, .int (nI p))], [], M)) rfl rfl rfl (fun c_41 => ?_) (fun c_41 => ?_)
    · have c_41 : (nI len) < (nI (by2 f (p + 2))) := of_decide_eq_true c_41
      have n_41 : len < by2 f (p + 2) := (lt_nI (p := len) (n := by2 f (p + 2)) (by omega) (Nat.lt_trans (by2_lt _ _) (by decide))).mp c_41
      refine ps_st (S' := (85, [], [.int 0], M)) rfl rfl rfl ?_
      exact ps_ret rfl rfl (⟨congrArg (fun x => some (Value.int (nI x))) (show 0 = rwN f E len p from by
          unfold rwN
          first | ((repeat first | rw [if_pos (by omega)] | rw [if_neg (by omega)]) <;> first | rfl | omega) | ((repeat' split) <;> first | rfl | (exfalso; omega) | omega)), rfl⟩)
    · have c_41 : ¬ ((nI len) < (nI (by2 f (p + 2)))) := of_decide_eq_false c_41
      have n_41 : ¬ (len < by2 f (p + 2)) := fun h9 => c_41 ((lt_nI (p := len) (n := by2 f (p + 2)) (by omega) (Nat.lt_trans (by2_lt _ _) (by decide))).mpr h9)
      refine ps_st (S' := (45, [(4, .int (nI (by2 f (p + 6)))), (3, .int (nI (by2 f (p + 2)))), (0, .ref ac), (1, .ref cd0), (2, .int (nI p))], [.ref ac], M)) rfl rfl rfl ?_
      refine ps_get (S' := (48, [(4, .int (nI (by2 f (p + 6)))), (3, .int (nI (by2 f (p + 2)))), (0, .ref ac), (1, .ref cd0), (2, .int (nI p))], [.ref b], M)) rfl h_ac rfl rfl ?_
      refine ps_st (S' := (49, [(4, .int (nI (by2 f (p + 6)))), (3, .int (nI (by2 f (p + 2)))), (0, .ref ac), (1, .ref cd0), (2, .int (nI p))], [.int (nI p), .ref b], M)) rfl rfl rfl ?_
      refine ps_st (S' := (50, [(4, .int (nI (by2 f (p + 6)))), (3, .int (nI (by2 f (p + 2)))), (0, .ref ac), (1, .ref cd0), (2, .int (nI p))], [.int 4, .int (nI p), .ref b], M)) rfl rfl rfl ?_
      refine ps_st (S' := (51, [(4, .int (nI (by2 f (p + 6)))), (3, .int (nI (by2 f (p + 2)))), (0, .ref ac), (1, .ref cd0), (2, .int (nI p))], [.int ((nI p) + 4), .ref b], M)) rfl rfl rfl ?_
      rw [nI_add1 (p := p) (k := 4) (x := 4) rfl (by omega)]
      show pl _ _ _ (_, [(4, .int (nI (by2 f (p + 6)))), (3, .int (nI (by2 f (p + 2)))), (0, .ref ac), (1, .ref cd0), (2, .int (nI p))], [.int (nI (p + 4)), .ref b], M) _
      refine pl_call (a := [.ref b, .int (nI (p + 4))]) (rest := []) rfl rfl rfl (dk_u2 (f := f) (n := n) (b := b) (da := da) (p := (p + 4)) h_b h_da (hn) (by omega)) (fun v10 M11 q12 => ?_)
      obtain ⟨rfl, rfl⟩ := q12
      show pl _ _ _ (54, [(4, .int (nI (by2 f (p + 6)))), (3, .int (nI (by2 f (p + 2)))), (0, .ref ac), (1, .ref cd0), (2, .int (nI p))], [.int (nI (by2 f (p + 4)))], M) _
      have hu_51 := by2_lt f (p + 4)
      refine ps_st (S' := (55, [(4, .int (nI (by2 f (p + 6)))), (3, .int (nI (by2 f (p + 2)))), (0, .ref ac), (1, .ref cd0), (2, .int (nI p))], [.ref cd0, .int (nI (by2 f (p + 4)))], M)) rfl rfl rfl ?_
      refine ps_get (S' := (58, [(4, .int (nI (by2 f (p + 6)))), (3, .int (nI (by2 f (p + 2)))), (0, .ref ac), (1, .ref cd0), (2, .int (nI p))], [.int (nI len), .int (nI (by2 f (p + 4)))], M)) rfl h_cd0 rfl rfl ?_
      refine ps_if2 (S1 := (84, [], [], M)) (S2 := (61, [(4, .int (nI (by2 f (p + 6)))), (3, .int (nI (by2 f (p + 2)))), (0, .ref ac), (1, .ref cd0), (2, .int (nI p))], [], M)) rfl rfl rfl (fun c_58 => ?_) (fun c_58 => ?_)
      · have c_58 : (nI len) ≤ (nI (by2 f (p + 4))) := of_decide_eq_true c_58
        have n_58 : len ≤ by2 f (p + 4) := (le_nI (p := len) (n := by2 f (p + 4)) (by omega) (Nat.lt_trans (by2_lt _ _) (by decide))).mp c_58
        refine ps_st (S' := (85, [], [.int 0], M)) rfl rfl rfl ?_
        exact ps_ret rfl rfl (⟨congrArg (fun x => some (Value.int (nI x))) (show 0 = rwN f E len p from by
            unfold rwN
            first | ((repeat first | rw [if_pos (by omega)] | rw [if_neg (by omega)]) <;> first | rfl | omega) | ((repeat' split) <;> first | rfl | (exfalso; omega) | omega)), rfl⟩)
      · have c_58 : ¬ ((nI len) ≤ (nI (by2 f (p + 4)))) := of_decide_eq_false c_58
        have n_58 : ¬ (len ≤ by2 f (p + 4)) := fun h9 => c_58 ((le_nI (p := len) (n := by2 f (p + 4)) (by omega) (Nat.lt_trans (by2_lt _ _) (by decide))).mpr h9)
        refine ps_st (S' := (63, [(4, .int (nI (by2 f (p + 6)))), (3, .int (nI (by2 f (p + 2)))), (0, .ref ac), (1, .ref cd0), (2, .int (nI p))], [.int (nI (by2 f (p + 6)))], M)) rfl rfl rfl ?_
        refine ps_if (S1 := (80, [], [], M)) (S2 := (66, [(4, .int (nI (by2 f (p + 6)))), (3, .int (nI (by2 f (p + 2)))), (0, .ref ac), (1, .ref cd0), (2, .int (nI p))], [], M)) rfl rfl rfl (fun c_63 => ?_) (fun c_63 => ?_)
        · have c_63 : (nI (by2 f (p + 6))) = 0 := of_decide_eq_true c_63
          have n_63 : by2 f (p + 6) = 0 := (eq_nI (p := by2 f (p + 6)) (n := 0) (Nat.lt_trans (by2_lt _ _) (by decide)) (by decide)).mp c_63
          refine ps_st (S' := (81, [], [.int 1], M)) rfl rfl rfl ?_
          refine ps_st (S' := (85, [], [.int 1], M)) rfl rfl rfl ?_
          exact ps_ret rfl rfl (⟨congrArg (fun x => some (Value.int (nI x))) (show 1 = rwN f E len p from by
              unfold rwN
              first | ((repeat first | rw [if_pos (by omega)] | rw [if_neg (by omega)]) <;> first | rfl | omega) | ((repeat' split) <;> first | rfl | (exfalso; omega) | omega)), rfl⟩)
        · have c_63 : ¬ ((nI (by2 f (p + 6))) = 0) := of_decide_eq_false c_63
          have n_63 : ¬ (by2 f (p + 6) = 0) := fun h9 => c_63 ((eq_nI (p := by2 f (p + 6)) (n := 0) (Nat.lt_trans (by2_lt _ _) (by decide)) (by decide)).mpr h9)
          refine ps_st (S' := (67, [(4, .int (nI (by2 f (p + 6)))), (3, .int (nI (by2 f (p + 2)))), (0, .ref ac), (1, .ref cd0), (2, .int (nI p))], [.ref ac], M)) rfl rfl rfl ?_
          refine ps_get (S' := (70, [(4, .int (nI (by2 f (p + 6)))), (3, .int (nI (by2 f (p + 2)))), (0, .ref ac), (1, .ref cd0), (2, .int (nI p))], [.ref q], M)) rfl h_ac rfl rfl ?_
          refine ps_st (S' := (72, [(4, .int (nI (by2 f (p + 6)))), (3, .int (nI (by2 f (p + 2)))), (0, .ref ac), (1, .ref cd0), (2, .int (nI p))], [.int (nI (by2 f (p + 6))), .ref q], M)) rfl rfl rfl ?_
          refine pl_call (a := [.ref q, .int (nI (by2 f (p + 6)))]) (rest := []) rfl rfl rfl (dy_tagOf (f := f) (n := n) (N := N) (q := q) (E := E) (j := (by2 f (p + 6))) (hV) (by2_lt _ _)) (fun v13 M14 q15 => ?_)
          obtain ⟨rfl, rfl⟩ := q15
          show pl _ _ _ (75, [(4, .int (nI (by2 f (p + 6)))), (3, .int (nI (by2 f (p + 2)))), (0, .ref ac), (1, .ref cd0), (2, .int (nI p))], [.int (nI (tg f E (by2 f (p + 6))))], M) _
          refine ps_st (S' := (77, [(4, .int (nI (by2 f (p + 6)))), (3, .int (nI (by2 f (p + 2)))), (0, .ref ac), (1, .ref cd0), (2, .int (nI p))], [.int 7, .int (nI (tg f E (by2 f (p + 6))))], M)) rfl rfl rfl ?_
          refine ps_if2 (S1 := (84, [], [], M)) (S2 := (80, [], [], M)) rfl rfl rfl (fun c_77 => ?_) (fun c_77 => ?_)
          · have c_77 : ¬ (nI (tg f E (by2 f (p + 6)))) = 7 := of_decide_eq_true c_77
            have n_77 : ¬ (tg f E (by2 f (p + 6)) = 7) := fun h9 => c_77 ((eq_nI (p := tg f E (by2 f (p + 6))) (n := 7) (Nat.lt_trans (tg_lt _ _ _) (by decide)) (by decide)).mpr h9)
            refine ps_st (S' := (85, [], [.int 0], M)) rfl rfl rfl ?_
            exact ps_ret rfl rfl (⟨congrArg (fun x => some (Value.int (nI x))) (show 0 = rwN f E len p from by
                unfold rwN
                first | ((repeat first | rw [if_pos (by omega)] | rw [if_neg (by omega)]) <;> first | rfl | omega) | ((repeat' split) <;> first | rfl | (exfalso; omega) | omega)), rfl⟩)
          · have c_77 : ¬ (¬ (nI (tg f E (by2 f (p + 6)))) = 7) := of_decide_eq_false c_77
            have n_77 : tg f E (by2 f (p + 6)) = 7 := (eq_nI (p := tg f E (by2 f (p + 6))) (n := 7) (Nat.lt_trans (tg_lt _ _ _) (by decide)) (by decide)).mp (Decidable.not_not.mp c_77)
            refine ps_st (S' := (81, [], [.int 1], M)) rfl rfl rfl ?_
            refine ps_st (S' := (85, [], [.int 1], M)) rfl rfl rfl ?_
            exact ps_ret rfl rfl (⟨congrArg (fun x => some (Value.int (nI x))) (show 1 = rwN f E len p from by
                unfold rwN
                first | ((repeat first | rw [if_pos (by omega)] | rw [if_neg (by omega)]) <;> first | rfl | omega) | ((repeat' split) <;> first | rfl | (exfalso; omega) | omega)), rfl⟩)
set_option maxHeartbeats 1000000 in
theorem dk_isNew {g : xe_G} {M : mi_H} {f : Nat → Int32} {n N q : Nat} {E : List (Nat × Nat)} {ac c b da vd fr mr fa ic mj na pa : Nat} {mi ru wa k1 k2 k3 k4 k5 k6 k7 : Int32} {s k p : Nat} (h_ac : M.1 ac = some (ob 0 [.ref c, .ref b, .ref q, .ref vd, .int (nI s)])) (h_b : M.1 b = some (ob 1 [.ref da])) (h_da : M.1 da = some (ar .byte n f)) (h_vd : M.1 vd = some (ob 10 [.int ru, .int wa])) (hn : n ≤ 65540) (hin : p + 2 ≤ n) (hk : k < 11) (hs : s < 2048) (hV : PV g f n N E q M) : pt (mT g) 36 [.ref ac, .int (nI p), .int (nI k)] M (fun v M' => (∃ (e : Nat × Nat), (nwS f E s k p = .inl e) ∧ v = some (.int 0) ∧ M'.1 vd = some (ob 10 [.int (nI e.1), .int (nI e.2)]) ∧ fm [ac, vd] M M') ∨ (∃ (s' : Nat), (nwS f E s k p = .inr s') ∧ (s' < 2048) ∧ v = some (.int 1) ∧ M'.1 ac = some (ob 0 [.ref c, .ref b, .ref q, .ref vd, .int (nI s')]) ∧ M'.1 vd = some (ob 10 [.int ru, .int wa]) ∧ fm [ac, vd] M M')) := by
  refine pt_in (b := mb_36 g) rfl (fun kf => ?_)
  show pl (mT g) kf (mb_36 g).2 (0, [(0, .ref ac), (1, .int (nI p)), (2, .int (nI k))], [], M) _
  have hF : fm [ac, vd] M M := fm.rf
  refine ps_st (S' := (1, [(0, .ref ac), (1, .int (nI p)), (2, .int (nI k))], [.ref ac], M)) rfl rfl rfl ?_
  refine ps_get (S' := (4, [(0, .ref ac), (1, .int (nI p)), (2, .int (nI k))], [.ref q], M)) rfl h_ac rfl rfl ?_
  refine ps_st (S' := (5, [(0, .ref ac), (1, .int (nI p)), (2, .int (nI k))], [.ref ac, .ref q], M)) rfl rfl rfl ?_
  refine ps_get (S' := (8, [(0, .ref ac), (1, .int (nI p)), (2, .int (nI k))], [.ref b, .ref q], M)) rfl h_ac rfl rfl ?_
  refine ps_st (S' := (9, [(0, .ref ac), (1, .int (nI p)), (2, .int (nI k))], [.int (nI p), .ref b, .ref q], M)) rfl rfl rfl ?_
  refine pl_call (a := [.ref b, .int (nI p)]) (rest := [.ref q]) rfl rfl rfl (dk_u2 (f := f) (n := n) (b := b) (da := da) (p := p) h_b h_da (hn) (by omega)) (fun v1 M2 q3 => ?_)
  obtain ⟨rfl, rfl⟩ := q3
  show pl _ _ _ (12, [(0, .ref ac), (1, .int (nI p)), (2, .int (nI k))], [.int (nI (by2 f p)), .ref q], M) _
  have hu_9 := by2_lt f p
  refine pl_call (a := [.ref q, .int (nI (by2 f p))]) (rest := []) rfl rfl rfl (dy_tagOf (f := f) (n := n) (N := N) (q := q) (E := E) (j := (by2 f p)) (hV) (by2_lt _ _)) (fun v4 M5 q6 => ?_)
  obtain ⟨rfl, rfl⟩ := q6
  show pl _ _ _ (15, [(0, .ref ac), (1, .int (nI p)), (2, .int (nI k))], [.int (nI (tg f E (by2 f p)))], M) _
  refine ps_st (S' := (16, [(0, .ref ac), (1, .int (nI p)), (2, .int (nI k))], [.int 1, .int (nI (tg f E (by2 f p)))], M)) rfl rfl rfl ?_
  refine ps_if2 (S1 := (30, [(0, .ref ac), (1, .int (nI p)), (2, .int (nI k))], [], M)) (S2 := (19, [(0, .ref ac), (1, .int (nI p)), (2, .int (nI k))], [], M)) rfl rfl rfl (fun c_16 => ?_) (fun c_16 => ?_)
  · have c_16 : (nI (tg f E (by2 f p))) = 1 := of_decide_eq_true c_16
    have n_16 : tg f E (by2 f p) = 1 := (eq_nI (p := tg f E (by2 f p)) (n := 1) (Nat.lt_trans (tg_lt _ _ _) (by decide)) (by decide)).mp c_16
    refine ps_st (S' := (31, [(0, .ref ac), (1, .int (nI p)), (2, .int (nI k))], [.int (nI k)], M)) rfl rfl rfl ?_
    refine ps_if (S1 := (36, [(0, .ref ac), (1, .int (nI p)), (2, .int (nI k))], [], M)) (S2 := (34, [(0, .ref ac), (1, .int (nI p)), (2, .int (nI k))], [], M)) rfl rfl rfl (fun c_31 => ?_) (fun c_31 => ?_)
    · have c_31 : ¬ (nI k) = 0 := of_decide_eq_true c_31
      have n_31 : ¬ (k = 0) := fun h9 => c_31 ((eq_nI (p := k) (n := 0) (by omega) (by decide)).mpr h9)
      refine ps_st (S' := (37, [(0, .ref ac), (1, .int (nI p)), (2, .int (nI k))], [.ref ac], M)) rfl rfl rfl ?_
      refine ps_st (S' := (38, [(0, .ref ac), (1, .int (nI p)), (2, .int (nI k))], [.int (nI k), .ref ac], M)) rfl rfl rfl ?_
      refine pl_call (a := [.ref ac, .int (nI k)]) (rest := []) rfl rfl rfl (dk_hasSeen (q := q) (ac := ac) (c := c) (b := b) (vd := vd) (s := s) (k := k) h_ac (by omega) (by omega)) (fun v7 M8 q9 => ?_)
      obtain ⟨rfl, rfl⟩ := q9
      show pl _ _ _ (41, [(0, .ref ac), (1, .int (nI p)), (2, .int (nI k))], [.int (nI (sb s k))], M) _
      refine ps_if (S1 := (55, [(0, .ref ac), (1, .int (nI p)), (2, .int (nI k))], [], M)) (S2 := (44, [(0, .ref ac), (1, .int (nI p)), (2, .int (nI k))], [], M)) rfl rfl rfl (fun c_41 => ?_) (fun c_41 => ?_)
      · have c_41 : (nI (sb s k)) = 0 := of_decide_eq_true c_41
        have n_41 : sb s k = 0 := (eq_nI (p := sb s k) (n := 0) (Nat.lt_trans (sb_lt _ _) (by decide)) (by decide)).mp c_41
        refine ps_st (S' := (56, [(0, .ref ac), (1, .int (nI p)), (2, .int (nI k))], [.ref ac], M)) rfl rfl rfl ?_
        refine ps_st (S' := (57, [(0, .ref ac), (1, .int (nI p)), (2, .int (nI k))], [.ref ac, .ref ac], M)) rfl rfl rfl ?_
        refine ps_get (S' := (60, [(0, .ref ac), (1, .int (nI p)), (2, .int (nI k))], [.int (nI s), .ref ac], M)) rfl h_ac rfl rfl ?_
        refine ps_st (S' := (61, [(0, .ref ac), (1, .int (nI p)), (2, .int (nI k))], [.int 1, .int (nI s), .ref ac], M)) rfl rfl rfl ?_
        refine ps_st (S' := (62, [(0, .ref ac), (1, .int (nI p)), (2, .int (nI k))], [.int (nI k), .int 1, .int (nI s), .ref ac], M)) rfl rfl rfl ?_
        refine ps_st (S' := (63, [(0, .ref ac), (1, .int (nI p)), (2, .int (nI k))], [.int (1 <<< ((nI k) &&& 31)), .int (nI s), .ref ac], M)) rfl rfl rfl ?_
        refine ps_st (S' := (64, [(0, .ref ac), (1, .int (nI p)), (2, .int (nI k))], [.int ((nI s) ||| (1 <<< ((nI k) &&& 31))), .ref ac], M)) rfl rfl rfl ?_
        rw [or_k s k (by omega)]
        show pl _ _ _ (_, [(0, .ref ac), (1, .int (nI p)), (2, .int (nI k))], [.int (nI (so s k)), .ref ac], M) _
        refine ps_put (l' := [.ref c, .ref b, .ref q, .ref vd, .int (nI (so s k))]) rfl h_ac rfl rfl (fun M10 h11 f12 z13 => ?_)
        have h14 := (f12 b (ob_ne h_b h_ac (by decide))).trans h_b
        have h15 := (f12 da (Ne.symm (ob_ar h_ac h_da))).trans h_da
        have h16 := (f12 vd (ob_ne h_vd h_ac (by decide))).trans h_vd
        have hV17 := hV.put h_ac (by decide) f12 z13
        have hF18 := hF.up (by simp) f12 z13
        show pl _ _ _ (67, [(0, .ref ac), (1, .int (nI p)), (2, .int (nI k))], [], M10) _
        refine ps_st (S' := (68, [(0, .ref ac), (1, .int (nI p)), (2, .int (nI k))], [.int 1], M10)) rfl rfl rfl ?_
        exact ps_ret rfl rfl (Or.inr ⟨so s k, by
            unfold nwS
            first | ((repeat first | rw [if_pos (by omega)] | rw [if_neg (by omega)]) <;> first | rfl | omega) | ((repeat' split) <;> first | rfl | (exfalso; omega) | omega), so_lt hs hk, rfl, h11, h16, hF18⟩)
      · have c_41 : ¬ ((nI (sb s k)) = 0) := of_decide_eq_false c_41
        have n_41 : ¬ (sb s k = 0) := fun h9 => c_41 ((eq_nI (p := sb s k) (n := 0) (Nat.lt_trans (sb_lt _ _) (by decide)) (by decide)).mpr h9)
        refine ps_st (S' := (45, [(0, .ref ac), (1, .int (nI p)), (2, .int (nI k))], [.ref ac], M)) rfl rfl rfl ?_
        refine ps_get (S' := (48, [(0, .ref ac), (1, .int (nI p)), (2, .int (nI k))], [.ref vd], M)) rfl h_ac rfl rfl ?_
        refine ps_st (S' := (50, [(0, .ref ac), (1, .int (nI p)), (2, .int (nI k))], [.int 29, .ref vd], M)) rfl rfl rfl ?_
        refine ps_st (S' := (51, [(0, .ref ac), (1, .int (nI p)), (2, .int (nI k))], [.int (nI p), .int 29, .ref vd], M)) rfl rfl rfl ?_
        refine pl_call (a := [.ref vd, .int 29, .int (nI p)]) (rest := []) rfl rfl rfl (dk_wrong (vd := vd) (ru := ru) (wa := wa) (x1 := 29) (x2 := (nI p)) h_vd) (fun v19 M20 q21 => ?_)
        obtain ⟨rfl, h22, f23⟩ := q21
        have h25 := (f23.1 ac (nin1 (ob_ne h_ac h_vd (by decide)))).trans h_ac
        have h26 := (f23.1 b (nin1 (ob_ne h_b h_vd (by decide)))).trans h_b
        have h27 := (f23.1 da (nin1 (Ne.symm (ob_ar h_vd h_da)))).trans h_da
        have hF28 := hF.tr f23 (by simp)
        have hV29 := hV.keep f23.gm (n7c h_vd (by decide) (n7nil))
        show pl _ _ _ (54, [(0, .ref ac), (1, .int (nI p)), (2, .int (nI k))], [.int 0], M20) _
        exact ps_ret rfl rfl (Or.inl ⟨(29, p), by
            unfold nwS
            first | ((repeat first | rw [if_pos (by omega)] | rw [if_neg (by omega)]) <;> first | rfl | omega) | ((repeat' split) <;> first | rfl | (exfalso; omega) | omega), rfl, h22, hF28⟩)
    · have c_31 : ¬ (¬ (nI k) = 0) := of_decide_eq_false c_31
      have n_31 : k = 0 := (eq_nI (p := k) (n := 0) (by omega) (by decide)).mp (Decidable.not_not.mp c_31)
      refine ps_st (S' := (35, [(0, .ref ac), (1, .int (nI p)), (2, .int (nI k))], [.int 1], M)) rfl rfl rfl ?_
      exact ps_ret rfl rfl (Or.inr ⟨s, by
          unfold nwS
          first | ((repeat first | rw [if_pos (by omega)] | rw [if_neg (by omega)]) <;> first | rfl | omega) | ((repeat' split) <;> first | rfl | (exfalso; omega) | omega), hs, rfl, h_ac, h_vd, hF⟩)
  · have c_16 : ¬ ((nI (tg f E (by2 f p))) = 1) := of_decide_eq_false c_16
    have n_16 : ¬ (tg f E (by2 f p) = 1) := fun h9 => c_16 ((eq_nI (p := tg f E (by2 f p)) (n := 1) (Nat.lt_trans (tg_lt _ _ _) (by decide)) (by decide)).mpr h9)
    refine ps_st (S' := (20, [(0, .ref ac), (1, .int (nI p)), (2, .int (nI k))], [.ref ac], M)) rfl rfl rfl ?_
    refine ps_get (S' := (23, [(0, .ref ac), (1, .int (nI p)), (2, .int (nI k))], [.ref vd], M)) rfl h_ac rfl rfl ?_
    refine ps_st (S' := (25, [(0, .ref ac), (1, .int (nI p)), (2, .int (nI k))], [.int 28, .ref vd], M)) rfl rfl rfl ?_
    refine ps_st (S' := (26, [(0, .ref ac), (1, .int (nI p)), (2, .int (nI k))], [.int (nI p), .int 28, .ref vd], M)) rfl rfl rfl ?_
    refine pl_call (a := [.ref vd, .int 28, .int (nI p)]) (rest := []) rfl rfl rfl (dk_wrong (vd := vd) (ru := ru) (wa := wa) (x1 := 28) (x2 := (nI p)) h_vd) (fun v30 M31 q32 => ?_)
    obtain ⟨rfl, h33, f34⟩ := q32
    have h36 := (f34.1 ac (nin1 (ob_ne h_ac h_vd (by decide)))).trans h_ac
    have h37 := (f34.1 b (nin1 (ob_ne h_b h_vd (by decide)))).trans h_b
    have h38 := (f34.1 da (nin1 (Ne.symm (ob_ar h_vd h_da)))).trans h_da
    have hF39 := hF.tr f34 (by simp)
    have hV40 := hV.keep f34.gm (n7c h_vd (by decide) (n7nil))
    show pl _ _ _ (29, [(0, .ref ac), (1, .int (nI p)), (2, .int (nI k))], [.int 0], M31) _
    exact ps_ret rfl rfl (Or.inl ⟨(28, p), by
        unfold nwS
        first | ((repeat first | rw [if_pos (by omega)] | rw [if_neg (by omega)]) <;> first | rfl | omega) | ((repeat' split) <;> first | rfl | (exfalso; omega) | omega), rfl, h33, hF39⟩)
