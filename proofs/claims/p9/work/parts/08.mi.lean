/-! steps over cells -/
section MIP
theorem mi_e.more {tys tn : List (ClassId × FieldType)} {c : mi_C} {e : va_E} (h : mi_e tys c e) : mi_e (tys ++ tn) c e := by
  unfold mi_e at h ⊢
  split at h
  · obtain ⟨cA, x, h1, h2, h3⟩ := h
    exact ⟨cA, x, h1, List.mem_append_left _ h2, h3⟩
  · exact h
theorem mi_rel.put {g : xe_G} {D : va_G} {A : Nat → Prop} {s : State} {M : mi_H} {H H1 : Heap} {ws : va_W} {tys : List (ClassId × FieldType)} {q0 a : Nat} {e e' : va_E} {c' : mi_C} (h : mi_rel g D A s M H ws tys) (he : ws[q0]? = some (a, e)) (hw : mi_wr g a c') (he' : mi_e tys c' e')
    (hat : va_at D vwCl (a, e') H1) (z : H1.size = H.size) (oq : ∀ q : Nat, q ≠ a → H1[q]? = H[q]?) : mi_rel g D A s (va_up M.1 a (some c'), M.2) H1 (ws.set q0 (a, e')) tys := by
  obtain ⟨hK, hP, hD, hz, hM, hws⟩ := h
  have hlt : q0 < ws.length := (List.getElem?_eq_some_iff.mp he).1
  refine ⟨hK, hP.set hD he hat oq, hD.set he, z.trans hz, fun b cb hb => ?_, fun k b eb hk => ?_⟩
  · by_cases hba : b = a
    · subst hba
      have hcb : cb = c' := by
        have : va_up M.1 b (some c') b = some cb := hb
        simp [va_up] at this
        exact this.symm
      subst hcb
      exact Or.inl ⟨hw, q0, e', by rw [List.getElem?_set_self hlt], he'⟩
    · have hb' : M.1 b = some cb := by
        have : va_up M.1 a (some c') b = some cb := hb
        simpa [va_up, hba] using this
      rcases hM b cb hb' with ⟨hw2, k, eb, hk, hek⟩ | h2
      · refine Or.inl ⟨hw2, k, eb, ?_, hek⟩
        have hne : q0 ≠ k := fun q => by
          subst q
          rw [he] at hk
          cases hk
          exact hba rfl
        rw [List.getElem?_set_ne hne]
        exact hk
      · exact Or.inr h2
  · by_cases hkq : k = q0
    · subst hkq
      rw [List.getElem?_set_self hlt] at hk
      cases hk
      exact ⟨c', by show va_up M.1 a (some c') a = some c'; simp [va_up], hw⟩
    · rw [List.getElem?_set_ne (fun q => hkq q.symm)] at hk
      obtain ⟨cb, h1, h2⟩ := hws k b eb hk
      have hba : b ≠ a := fun q => hkq (hD.1 k q0 _ _ hk he q)
      exact ⟨cb, by show va_up M.1 a (some c') b = some cb; simpa [va_up, hba] using h1, h2⟩
theorem mi_rel.push {g : xe_G} {D : va_G} {A : Nat → Prop} {s : State} {M : mi_H} {H H1 : Heap} {ws : va_W} {tys tn : List (ClassId × FieldType)} {e' : va_E} {c' : mi_C} (n : Nat) (h : mi_rel g D A s M H ws tys) (hA : A H.size) (hK' : va_K D vwCl (tys ++ tn) s) (hw : mi_wr g H.size c') (he' : mi_e (tys ++ tn) c' e')
    (hat : va_at D vwCl (H.size, e') H1) (z : H1.size = H.size + 1) (o1 : ∀ q : Nat, q < H.size → H1[q]? = H[q]?) : mi_rel g D A s (va_up M.1 M.2.1 (some c'), M.2.1 + 1, M.2.2 + n) H1 (ws ++ [(H.size, e')]) (tys ++ tn) := by
  obtain ⟨hK, hP, hD, hz, hM, hws⟩ := h
  have hlt : ∀ (k : Nat) (x : Nat × va_E), ws[k]? = some x → x.1 < H.size := fun k x hx => (hP k x hx).lt
  refine ⟨hK', (hP.kept (fun k x hx => o1 x.1 (hlt k x hx))).app (fun k x hx => ?_), hD.push hP rfl hA, ?_, fun b cb hb => ?_, fun k b eb hk => ?_⟩
  · have hz : k < 1 := (List.getElem?_eq_some_iff.mp hx).1
    rw [show k = 0 by omega] at hx
    cases hx
    exact hat
  · show H1.size = M.2.1 + 1
    rw [z, hz]
  · by_cases hba : b = M.2.1
    · have hcb : c' = cb := by
        have : va_up M.1 M.2.1 (some c') b = some cb := hb
        simpa [va_up, hba] using this
      subst hcb
      rw [hba, ← hz]
      exact Or.inl ⟨hw, ws.length, e', by simp, he'⟩
    · have hb' : M.1 b = some cb := by
        have : va_up M.1 M.2.1 (some c') b = some cb := hb
        simpa [va_up, hba] using this
      rcases hM b cb hb' with ⟨hw2, k, eb, hk, hek⟩ | h2
      · exact Or.inl ⟨hw2, k, eb, by rw [List.getElem?_append_left (List.getElem?_eq_some_iff.mp hk).1]; exact hk, hek.more⟩
      · exact Or.inr h2
  · by_cases hkl : k < ws.length
    · rw [List.getElem?_append_left hkl] at hk
      obtain ⟨cb, h1, h2⟩ := hws k b eb hk
      have := hlt k _ hk
      have hba : b ≠ M.2.1 := by rw [← hz]; exact Nat.ne_of_lt this
      exact ⟨cb, by show va_up M.1 M.2.1 (some c') b = some cb; simpa [va_up, hba] using h1, h2⟩
    · rw [List.getElem?_append_right (by omega)] at hk
      have hz1 : k - ws.length < 1 := (List.getElem?_eq_some_iff.mp hk).1
      rw [show k - ws.length = 0 by omega] at hk
      cases hk
      rw [hz] at hw ⊢
      exact ⟨c', by show va_up M.1 M.2.1 (some c') M.2.1 = some c'; simp [va_up], hw⟩
/-- a field of an object, an array of a type -/
def mi_gf (M : mi_H) (a ci k : Nat) : Option Value := match M.1 a with
  | some (.inr o) => if o.1 = ci then o.2 k else none
  | _ => none
def mi_ga (M : mi_H) (a : Nat) (ty : FieldType) : Option (Nat × (Nat → Option Value)) := match M.1 a with
  | some (.inl r) => if r.1 = ty then some r.2 else none
  | _ => none
theorem mi_gf_in {g : xe_G} {D : va_G} {A : Nat → Prop} {s : State} {M : mi_H} {H : Heap} {ws : va_W} {tys : List (ClassId × FieldType)} {a ci k : Nat} {v : Value} (h : mi_rel g D A s M H ws tys) (hc : ci < 100) (hv : mi_gf M a ci k = some v) :
    ∃ (f : Nat → Option Value) (q0 : Nat) (fs : List Value), M.1 a = some (.inr (ci, f)) ∧ f k = some v ∧ ws[q0]? = some (a, .inr (ci, fs)) ∧ fs.length = mi_n ci ∧ (∀ k v, f k = some v → fs[k]? = some v) ∧ mi_wr g a (.inr (ci, f)) := by
  unfold mi_gf at hv
  split at hv
  · rename_i o hM
    obtain ⟨c, f⟩ := o
    split at hv
    · rename_i hco
      have hco : c = ci := hco
      subst hco
      rcases h.2.2.2.2.1 a _ hM with ⟨hw, q0, e, hq, he⟩ | ⟨-, f9, h9⟩ | ⟨k9, f9, -, -, h9⟩
      · obtain ⟨fs, rfl, h1, h2⟩ := he
        exact ⟨f, q0, fs, hM, hv, hq, h1, h2, hw⟩
      · cases h9
      · cases h9
        omega
    · cases hv
  · cases hv
theorem mi_ga_in {g : xe_G} {D : va_G} {A : Nat → Prop} {s : State} {M : mi_H} {H : Heap} {ws : va_W} {tys : List (ClassId × FieldType)} {a : Nat} {ty : FieldType} {r : Nat × (Nat → Option Value)} (h : mi_rel g D A s M H ws tys) (hv : mi_ga M a ty = some r) :
    M.1 a = some (.inl (ty, r)) ∧ ((∃ (q0 : Nat) (cA : ClassId) (x : vp_A) (t0 : Nat), ws[q0]? = some (a, .inl (cA, x)) ∧ tys[t0]? = some (cA, ty) ∧ mi_ct ty r.1 r.2 x ∧ mi_wr g a (.inl (ty, r))) ∨ (a = g.1 ∧ ty = .byte ∧ r.1 = 0)) := by
  unfold mi_ga at hv
  split at hv
  · rename_i o hM
    obtain ⟨t, n, f⟩ := o
    split at hv
    · rename_i ht
      have ht : t = ty := ht
      subst ht
      cases hv
      refine ⟨hM, ?_⟩
      rcases h.2.2.2.2.1 a _ hM with ⟨hw, q0, e, hq, he⟩ | ⟨h8, f9, h9⟩ | ⟨k9, f9, -, -, h9⟩
      · obtain ⟨cA, x, rfl, h1, h2⟩ := he
        obtain ⟨t0, ht0⟩ := List.getElem?_of_mem h1
        exact Or.inl ⟨q0, cA, x, t0, hq, ht0, h2, hw⟩
      · cases h9
        exact Or.inr ⟨h8, rfl, rfl⟩
      · cases h9
    · cases hv
  · cases hv
def o_get (ci k : Nat) : mi_O := fun S => match S.2.2.1 with
  | .ref a :: st => match mi_gf S.2.2.2 a ci k with
    | some v => some (S.1 + 3, S.2.1, v :: st, S.2.2.2)
    | none => none
  | _ => none
theorem sm_get {g : xe_G} {own : String} {cc : ByteArray} {nL : Nat} {ini : Bool} {pc : Nat} {ci kf i N : Nat} {C : String} {T : u_T} (hci : ci < 100) (hc0 : vwCl[ci]? = some (C, T, N)) (hin : ∀ w ∈ u_ws C T N, w ∈ bg) (hk : kf < N) (hw : Cond.fieldLink own i (T kf).1 (T kf).2.1 (T kf).2.2.1 ∈ bg) (hd : decode cc pc = .ok (.getfield i, 3)) : mi_ps g own cc nL ini pc (o_get ci kf) := by
  intro lv st M S' h
  unfold o_get at h
  dsimp only at h
  split at h
  · split at h
    · rename_i h9
      cases h
      refine ⟨rfl, rfl, ?_⟩
      intro D p l e R s m args below meth c A Q H locs ls cells slots ws tys hc hr hl hS hR1 hR2 k
      obtain ⟨hx, hb, hml, hown, htb, hE, hini, hA, hK0, hfr, hlo⟩ := hc
      obtain ⟨f, q0, fs, h1, h2, h3, h4, h5, h6⟩ := mi_gf_in hr hci h9
      exact va_get hx hb htb hin hown hr.1 hr.2.1 q0 h3 hc0 kf hk (htb _ hw) (fun _ h9 => h9) (h5 _ _ h2) hd k
    · cases h
  · cases h
/-- what may be laid into a field: numbers, references -/
def mi_fit (ty : FieldType) (v : Value) : Bool := match ty, v with
  | .int, .int _ => true
  | .object _, .ref _ => true
  | .object _, .null => true
  | .array _, .ref _ => true
  | .array _, .null => true
  | _, _ => false
theorem mi_fit_ok {ty : FieldType} {v : Value} (h : mi_fit ty v = true) : narrow ty v = v ∧ fits ty v = true := by
  unfold mi_fit at h
  split at h <;> first | exact ⟨rfl, rfl⟩ | cases h
def o_put (ci k : Nat) (ty : FieldType) : mi_O := fun S => match S.2.2.1 with
  | v :: .ref a :: st => match S.2.2.2.1 a with
    | some (.inr o) => if o.1 = ci ∧ mi_fit ty v = true then some (S.1 + 3, S.2.1, st, va_up S.2.2.2.1 a (some (.inr (ci, va_up o.2 k (some v)))), S.2.2.2.2) else none
    | _ => none
  | _ => none
theorem mi_put_fs {f : Nat → Option Value} {fs : List Value} {k : Nat} {v : Value} (hl : k < fs.length) (h : ∀ k v, f k = some v → fs[k]? = some v) : ∀ j w, va_up f k (some v) j = some w → (fs.set k v)[j]? = some w := by
  intro j w hj
  by_cases hjk : j = k
  · subst hjk
    have : v = w := by simpa [va_up] using hj
    rw [List.getElem?_set_self hl, this]
  · rw [List.getElem?_set_ne (fun q => hjk q.symm)]
    exact h j w (by simpa [va_up, hjk] using hj)
theorem mi_obj {g : xe_G} {D : va_G} {A : Nat → Prop} {s : State} {M : mi_H} {H : Heap} {ws : va_W} {tys : List (ClassId × FieldType)} {a : Nat} {o : Nat × (Nat → Option Value)} (h : mi_rel g D A s M H ws tys) (hc : o.1 < 100) (hM : M.1 a = some (.inr o)) :
    ∃ (q0 : Nat) (fs : List Value), ws[q0]? = some (a, .inr (o.1, fs)) ∧ fs.length = mi_n o.1 ∧ (∀ k v, o.2 k = some v → fs[k]? = some v) ∧ mi_wr g a (.inr o) := by
  rcases h.2.2.2.2.1 a _ hM with ⟨hw, q0, e, hq, he⟩ | ⟨-, f9, h9⟩ | ⟨k9, f9, -, -, h9⟩
  · obtain ⟨fs, rfl, h1, h2⟩ := he
    exact ⟨q0, fs, hq, h1, h2, hw⟩
  · cases h9
  · cases h9
    exact absurd hc (by show ¬ 100 + k9 < 100; omega)
theorem sm_put {g : xe_G} {own : String} {cc : ByteArray} {nL : Nat} {ini : Bool} {pc : Nat} {ci k i N : Nat} {C : String} {T : u_T} {ty0 : Nat → FieldType} {ty : FieldType} (hci : ci < 100) (hc0 : vwCl[ci]? = some (C, T, N)) (hin : ∀ w ∈ u_ws C T N, w ∈ bg) (hty : ∀ k, k < N → parseFieldDescriptor (T k).2.2.1 = some (ty0 k)) (hnm : ∀ a, a < N → ∀ b, b < N → a ≠ b → (T a).2.1 ≠ (T b).2.1) (hk : k < N) (hfin : (T k).2.2.2 = false) (hd0 : parseFieldDescriptor (T k).2.2.1 = some ty) (hw : Cond.fieldLink own i (T k).1 (T k).2.1 (T k).2.2.1 ∈ bg) (hd : decode cc pc = .ok (.putfield i, 3)) : mi_sim g own cc nL ini pc (o_put ci k ty) := by
  intro lv st M S' h
  unfold o_put at h
  dsimp only at h
  split at h
  · rename_i v a rest
    split at h
    · rename_i o hM
      split at h
      · rename_i hco
        cases h
        refine ⟨⟨Nat.le_refl _, Nat.le_refl _⟩, ?_⟩
        intro D p l e R s m args below meth c A n0 s0 Q hc hn0 hs0 hR1 hR2 hW H locs ls ws tys hr hl hS
        obtain ⟨hx, hb, hml, hown, htb, hE, hini, hA, hK0, hfr, hlo⟩ := hc
        obtain ⟨rfl, hfit⟩ := hco
        obtain ⟨q0, fs, he, hfl, hff, hwr⟩ := mi_obj hr hci hM
        obtain ⟨hn, hft⟩ := mi_fit_ok hfit
        have hl9 : k < fs.length := by
          rw [hfl]
          unfold mi_n
          rw [hc0]
          exact hk
        have hap := va_apart (own := own) (D := D) htb hin ty0 hty hnm hr.1 hc0
        obtain ⟨r, h1, cell, q1, q2, q3, q4⟩ := hr.2.1 q0 _ he
        have hr9 : r = (C, T, N) := Option.some.inj (h1.symm.trans hc0)
        subst hr9
        obtain ⟨hS9, hfc, kC, hkC, hkind⟩ := hr.1.1 o.1 _ hc0
        obtain ⟨cf, kf, fi, f, hi, hsl⟩ := hS9 k hk
        have hlay := htb _ (hin _ (u_in_lay hk))
        unfold u_lay at hlay
        rw [if_neg (by rw [hfin]; decide)] at hlay
        have hst := (u_facts hfc hkC (u_lays htb hin hk) hi).1
        have h6 := u_store hfc hkC hkind hlay hi hd0 hn hft
        refine W.putK hx hb (f := f) ⟨hown, htb _ hw, ⟨_, _, _, hi⟩, hst⟩ (by rw [q2]; exact h6) q1 q3 (by rw [hsl]; exact k2_hasslot (q4 k hk)) rfl rfl hd fun H' e1 e2 e3 => ?_
        rw [hsl] at e1 ⊢
        have hA9 : A a := hr.2.2.1.2 q0 _ he
        exact hW H' _ ls (ws.set q0 (a, .inr (o.1, fs.set k v))) tys (hr.put (c' := .inr (o.1, va_up o.2 k (some v))) he ⟨hwr.1, fun o9 h9 => by cases h9; exact hwr.2 o rfl⟩ ⟨fs.set k v, rfl, by rw [List.length_set]; exact hfl, mi_put_fs hl9 hff⟩ ⟨_, hc0, t_OB.to (V := updV (vp_V fs) k v) ⟨_, e1, q2, q3, t_set q4 hap hk v⟩ (fun j _ => vp_updV_set hl9 v j)⟩ e2 e3) hl (hS.put e2 e3 hA9)
      · cases h
    · cases h
  · cases h
end MIP
