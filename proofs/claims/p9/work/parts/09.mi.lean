/-! steps over rows, new cells, what stands outside -/
section MIQ
def o_ald (ty : FieldType) : mi_O := fun S => match S.2.2.1 with
  | .int i :: .ref a :: st => match mi_ga S.2.2.2 a ty with
    | some r => if i < 0 ∨ r.1 ≤ i.toNatClampNeg then none else match r.2 i.toNatClampNeg with
      | some v => some (S.1 + 1, S.2.1, v :: st, S.2.2.2)
      | none => none
    | none => none
  | _ => none
def o_alen (ty : FieldType) : mi_O := fun S => match S.2.2.1 with
  | .ref a :: st => match mi_ga S.2.2.2 a ty with
    | some r => some (S.1 + 1, S.2.1, .int (Int32.ofNat r.1) :: st, S.2.2.2)
    | none => none
  | _ => none
def o_ast (ty : FieldType) (nar : Int32 → Int32) : mi_O := fun S => match S.2.2.1 with
  | .int x :: .int i :: .ref a :: st => match mi_ga S.2.2.2 a ty with
    | some r => if i < 0 ∨ r.1 ≤ i.toNatClampNeg then none else some (S.1 + 1, S.2.1, st, va_up S.2.2.2.1 a (some (.inl (ty, r.1, va_up r.2 i.toNatClampNeg (some (.int (nar x)))))), S.2.2.2.2)
    | none => none
  | _ => none
theorem sm_iald {g : xe_G} {own : String} {cc : ByteArray} {nL : Nat} {ini : Bool} {pc : Nat} (hd : decode cc pc = .ok (.iaload, 1)) : mi_ps g own cc nL ini pc (o_ald .int) := by
  intro lv st M S' h
  unfold o_ald at h
  dsimp only at h
  split at h
  · split at h
    · rename_i r hga
      split at h
      · cases h
      · rename_i hin
        split at h
        · rename_i v hv
          cases h
          refine ⟨rfl, rfl, ?_⟩
          intro D p l e R s m args below meth c A Q H locs ls cells slots ws tys hc hr hl hS hR1 hR2 k
          obtain ⟨hx, hb, hml, hown, htb, hE, hini, hA, hK0, hfr, hlo⟩ := hc
          obtain ⟨-, ⟨q0, cA, x, t0, h1, h2, ⟨h3, h4⟩, h5⟩ | ⟨-, -, h0⟩⟩ := mi_ga_in hr hga
          · obtain ⟨n9, x9⟩ := x
            obtain ⟨n8, f8⟩ := r
            dsimp only at h3 h4 hin hv
            subst h3
            rcases h4 with ⟨-, f, rfl, hf⟩ | ⟨h9, -⟩ | ⟨⟨C9, h9⟩, -⟩
            · rw [hf _ _ hv] at k
              exact va_iald hx hb hr.1 hr.2.1 q0 t0 h1 h2 hin hd k
            · cases h9
            · cases h9
          · exact absurd (Or.inr (by rw [h0]; exact Nat.zero_le _)) hin
        · cases h
    · cases h
  · cases h
theorem sm_bald {g : xe_G} {own : String} {cc : ByteArray} {nL : Nat} {ini : Bool} {pc : Nat} (hd : decode cc pc = .ok (.baload, 1)) : mi_ps g own cc nL ini pc (o_ald .byte) := by
  intro lv st M S' h
  unfold o_ald at h
  dsimp only at h
  split at h
  · split at h
    · rename_i r hga
      split at h
      · cases h
      · rename_i hin
        split at h
        · rename_i v hv
          cases h
          refine ⟨rfl, rfl, ?_⟩
          intro D p l e R s m args below meth c A Q H locs ls cells slots ws tys hc hr hl hS hR1 hR2 k
          obtain ⟨hx, hb, hml, hown, htb, hE, hini, hA, hK0, hfr, hlo⟩ := hc
          obtain ⟨-, ⟨q0, cA, x, t0, h1, h2, ⟨h3, h4⟩, h5⟩ | ⟨-, -, h0⟩⟩ := mi_ga_in hr hga
          · obtain ⟨n9, x9⟩ := x
            obtain ⟨n8, f8⟩ := r
            dsimp only at h3 h4 hin hv
            subst h3
            rcases h4 with ⟨-, f, rfl, hf⟩ | ⟨h9, -⟩ | ⟨⟨C9, h9⟩, -⟩
            · rw [hf _ _ hv] at k
              exact va_bald hx hb hr.1 hr.2.1 q0 t0 h1 h2 hin hd k
            · cases h9
            · cases h9
          · exact absurd (Or.inr (by rw [h0]; exact Nat.zero_le _)) hin
        · cases h
    · cases h
  · cases h
theorem sm_cald {g : xe_G} {own : String} {cc : ByteArray} {nL : Nat} {ini : Bool} {pc : Nat} (hd : decode cc pc = .ok (.caload, 1)) : mi_ps g own cc nL ini pc (o_ald .char) := by
  intro lv st M S' h
  unfold o_ald at h
  dsimp only at h
  split at h
  · split at h
    · rename_i r hga
      split at h
      · cases h
      · rename_i hin
        split at h
        · rename_i v hv
          cases h
          refine ⟨rfl, rfl, ?_⟩
          intro D p l e R s m args below meth c A Q H locs ls cells slots ws tys hc hr hl hS hR1 hR2 k
          obtain ⟨hx, hb, hml, hown, htb, hE, hini, hA, hK0, hfr, hlo⟩ := hc
          obtain ⟨-, ⟨q0, cA, x, t0, h1, h2, ⟨h3, h4⟩, h5⟩ | ⟨-, -, h0⟩⟩ := mi_ga_in hr hga
          · obtain ⟨n9, x9⟩ := x
            obtain ⟨n8, f8⟩ := r
            dsimp only at h3 h4 hin hv
            subst h3
            rcases h4 with ⟨-, f, rfl, hf⟩ | ⟨h9, -⟩ | ⟨⟨C9, h9⟩, -⟩
            · rw [hf _ _ hv] at k
              exact va_cald hx hb hr.1 hr.2.1 q0 t0 h1 h2 hin hd k
            · cases h9
            · cases h9
          · exact absurd (Or.inr (by rw [h0]; exact Nat.zero_le _)) hin
        · cases h
    · cases h
  · cases h
theorem sm_aald {g : xe_G} {own : String} {cc : ByteArray} {nL : Nat} {ini : Bool} {pc : Nat} {C : String} (hd : decode cc pc = .ok (.aaload, 1)) : mi_ps g own cc nL ini pc (o_ald (.object C)) := by
  intro lv st M S' h
  unfold o_ald at h
  dsimp only at h
  split at h
  · split at h
    · rename_i r hga
      split at h
      · cases h
      · rename_i hin
        split at h
        · rename_i v hv
          cases h
          refine ⟨rfl, rfl, ?_⟩
          intro D p l e R s m args below meth c A Q H locs ls cells slots ws tys hc hr hl hS hR1 hR2 k
          obtain ⟨hx, hb, hml, hown, htb, hE, hini, hA, hK0, hfr, hlo⟩ := hc
          obtain ⟨-, ⟨q0, cA, x, t0, h1, h2, ⟨h3, h4⟩, h5⟩ | ⟨-, -, h0⟩⟩ := mi_ga_in hr hga
          · obtain ⟨n9, x9⟩ := x
            obtain ⟨n8, f8⟩ := r
            dsimp only at h3 h4 hin hv
            subst h3
            rcases h4 with ⟨h9, -⟩ | ⟨h9, -⟩ | ⟨-, f, rfl, hf⟩
            · simp at h9
            · cases h9
            · rw [hf _ _ hv] at k
              exact va_aldq hx hb hr.1 hr.2.1 q0 t0 h1 h2 hin hd k
          · exact absurd (Or.inr (by rw [h0]; exact Nat.zero_le _)) hin
        · cases h
    · cases h
  · cases h
theorem sm_alen {g : xe_G} {own : String} {cc : ByteArray} {nL : Nat} {ini : Bool} {pc : Nat} {ty : FieldType} (hd : decode cc pc = .ok (.arraylength, 1)) : mi_ps g own cc nL ini pc (o_alen ty) := by
  intro lv st M S' h
  unfold o_alen at h
  dsimp only at h
  split at h
  · split at h
    · rename_i r hga
      cases h
      refine ⟨rfl, rfl, ?_⟩
      intro D p l e R s m args below meth c A Q H locs ls cells slots ws tys hc hr hl hS hR1 hR2 k
      obtain ⟨hx, hb, hml, hown, htb, hE, hini, hA, hK0, hfr, hlo⟩ := hc
      obtain ⟨-, ⟨q0, cA, x, t0, h1, h2, ⟨h3, h4⟩, h5⟩ | ⟨h8, h9, h0⟩⟩ := mi_ga_in hr hga
      · exact va_alen hx hb hr.1 hr.2.1 q0 t0 h1 h2 (by rw [h3]) hd k
      · subst h8
        exact va_tlen hx hb hE.2.1 hS (by rw [h0]) hd k
    · cases h
  · cases h
theorem sm_iast {g : xe_G} {own : String} {cc : ByteArray} {nL : Nat} {ini : Bool} {pc : Nat} (hd : decode cc pc = .ok (.iastore, 1)) : mi_sim g own cc nL ini pc (o_ast .int (fun x => x)) := by
  intro lv st M S' h
  unfold o_ast at h
  dsimp only at h
  split at h
  · rename_i x i a rest
    split at h
    · rename_i r hga
      split at h
      · cases h
      · rename_i hin
        cases h
        refine ⟨⟨Nat.le_refl _, Nat.le_refl _⟩, ?_⟩
        intro D p l e R s m args below meth c A n0 s0 Q hc hn0 hs0 hR1 hR2 hW H locs ls ws tys hr hl hS
        obtain ⟨hx, hb, hml, hown, htb, hE, hini, hA, hK0, hfr, hlo⟩ := hc
        obtain ⟨hM, ⟨q0, cA, y, t0, h1, h2, ⟨h3, h4⟩, h5⟩ | ⟨-, -, h0⟩⟩ := mi_ga_in hr hga
        · obtain ⟨n9, x9⟩ := y
          obtain ⟨n8, f8⟩ := r
          dsimp only at h3 h4 hin h5
          subst h3
          rcases h4 with ⟨-, f, rfl, hf⟩ | ⟨h9, -⟩ | ⟨⟨C9, h9⟩, -⟩
          · refine W.iast hx hb (hr.2.1 q0 _ h1) ((hr.1.2 t0 _ h2).1 n9 (fun j => .int (f j))) (fun q => by cases q) (by show ¬ (i < 0 ∨ (arrV _ _ _).slots.size ≤ _); rw [arrV_size]; exact hin) rfl rfl hd fun H1 e1 z oq => ?_
            refine hW H1 _ ls (ws.set q0 (a, .inl (cA, n9, .inl (upd f i.toNatClampNeg x)))) tys (hr.put h1 ⟨h5.1, fun o9 h9 => by cases h9⟩ ⟨cA, _, rfl, List.mem_of_getElem? h2, rfl, Or.inl ⟨by simp, _, rfl, fun j w hj => ?_⟩⟩ ?_ z oq) hl (hS.put z oq (hr.2.2.1.2 q0 _ h1))
            · by_cases hq : j = i.toNatClampNeg
              · have h7 : some (Value.int x) = some w := by simpa [va_up, hq] using hj
                cases h7
                simp [upd, hq]
              · have h7 : f8 j = some w := by simpa [va_up, hq] using hj
                rw [hf _ _ h7]
                simp [upd, hq]
            · show H1[a]? = some (vp_cell _ _)
              rw [e1]
              rw [vp_cell_i, vp_cell_i, arrV_store]
              congr 2
              funext q
              by_cases hq : q = i.toNatClampNeg
              · subst hq
                simp [updV, upd, vp_nar]
                try rfl
              · simp [updV, upd, hq]
          · cases h9
          · cases h9
        · exact absurd (Or.inr (by rw [h0]; exact Nat.zero_le _)) hin
    · cases h
  · cases h
theorem sm_bast {g : xe_G} {own : String} {cc : ByteArray} {nL : Nat} {ini : Bool} {pc : Nat} (hd : decode cc pc = .ok (.bastore, 1)) : mi_sim g own cc nL ini pc (o_ast .byte (vp_nar .byte)) := by
  intro lv st M S' h
  unfold o_ast at h
  dsimp only at h
  split at h
  · rename_i x i a rest
    split at h
    · rename_i r hga
      split at h
      · cases h
      · rename_i hin
        cases h
        refine ⟨⟨Nat.le_refl _, Nat.le_refl _⟩, ?_⟩
        intro D p l e R s m args below meth c A n0 s0 Q hc hn0 hs0 hR1 hR2 hW H locs ls ws tys hr hl hS
        obtain ⟨hx, hb, hml, hown, htb, hE, hini, hA, hK0, hfr, hlo⟩ := hc
        obtain ⟨hM, ⟨q0, cA, y, t0, h1, h2, ⟨h3, h4⟩, h5⟩ | ⟨-, -, h0⟩⟩ := mi_ga_in hr hga
        · obtain ⟨n9, x9⟩ := y
          obtain ⟨n8, f8⟩ := r
          dsimp only at h3 h4 hin h5
          subst h3
          rcases h4 with ⟨-, f, rfl, hf⟩ | ⟨h9, -⟩ | ⟨⟨C9, h9⟩, -⟩
          · refine W.bast hx hb (hr.2.1 q0 _ h1) ((hr.1.2 t0 _ h2).1 n9 (fun j => .int (f j))) (fun q => by cases q) (by show ¬ (i < 0 ∨ (arrV _ _ _).slots.size ≤ _); rw [arrV_size]; exact hin) rfl rfl hd fun H1 e1 z oq => ?_
            refine hW H1 _ ls (ws.set q0 (a, .inl (cA, n9, .inl (upd f i.toNatClampNeg (vp_nar .byte x))))) tys (hr.put h1 ⟨h5.1, fun o9 h9 => by cases h9⟩ ⟨cA, _, rfl, List.mem_of_getElem? h2, rfl, Or.inl ⟨by simp, _, rfl, fun j w hj => ?_⟩⟩ ?_ z oq) hl (hS.put z oq (hr.2.2.1.2 q0 _ h1))
            · by_cases hq : j = i.toNatClampNeg
              · have h7 : some (Value.int (vp_nar .byte x)) = some w := by simpa [va_up, hq] using hj
                cases h7
                simp [upd, hq]
              · have h7 : f8 j = some w := by simpa [va_up, hq] using hj
                rw [hf _ _ h7]
                simp [upd, hq]
            · show H1[a]? = some (vp_cell _ _)
              rw [e1]
              rw [vp_cell_i, vp_cell_i, arrV_store]
              congr 2
              funext q
              by_cases hq : q = i.toNatClampNeg
              · subst hq
                simp [updV, upd, vp_nar]
                try rfl
              · simp [updV, upd, hq]
          · cases h9
          · cases h9
        · exact absurd (Or.inr (by rw [h0]; exact Nat.zero_le _)) hin
    · cases h
  · cases h
theorem sm_cast {g : xe_G} {own : String} {cc : ByteArray} {nL : Nat} {ini : Bool} {pc : Nat} (hd : decode cc pc = .ok (.castore, 1)) : mi_sim g own cc nL ini pc (o_ast .char (vp_nar .char)) := by
  intro lv st M S' h
  unfold o_ast at h
  dsimp only at h
  split at h
  · rename_i x i a rest
    split at h
    · rename_i r hga
      split at h
      · cases h
      · rename_i hin
        cases h
        refine ⟨⟨Nat.le_refl _, Nat.le_refl _⟩, ?_⟩
        intro D p l e R s m args below meth c A n0 s0 Q hc hn0 hs0 hR1 hR2 hW H locs ls ws tys hr hl hS
        obtain ⟨hx, hb, hml, hown, htb, hE, hini, hA, hK0, hfr, hlo⟩ := hc
        obtain ⟨hM, ⟨q0, cA, y, t0, h1, h2, ⟨h3, h4⟩, h5⟩ | ⟨-, -, h0⟩⟩ := mi_ga_in hr hga
        · obtain ⟨n9, x9⟩ := y
          obtain ⟨n8, f8⟩ := r
          dsimp only at h3 h4 hin h5
          subst h3
          rcases h4 with ⟨-, f, rfl, hf⟩ | ⟨h9, -⟩ | ⟨⟨C9, h9⟩, -⟩
          · refine W.cast hx hb (hr.2.1 q0 _ h1) ((hr.1.2 t0 _ h2).1 n9 (fun j => .int (f j))) (fun q => by cases q) (by show ¬ (i < 0 ∨ (arrV _ _ _).slots.size ≤ _); rw [arrV_size]; exact hin) rfl rfl hd fun H1 e1 z oq => ?_
            refine hW H1 _ ls (ws.set q0 (a, .inl (cA, n9, .inl (upd f i.toNatClampNeg (vp_nar .char x))))) tys (hr.put h1 ⟨h5.1, fun o9 h9 => by cases h9⟩ ⟨cA, _, rfl, List.mem_of_getElem? h2, rfl, Or.inl ⟨by simp, _, rfl, fun j w hj => ?_⟩⟩ ?_ z oq) hl (hS.put z oq (hr.2.2.1.2 q0 _ h1))
            · by_cases hq : j = i.toNatClampNeg
              · have h7 : some (Value.int (vp_nar .char x)) = some w := by simpa [va_up, hq] using hj
                cases h7
                simp [upd, hq]
              · have h7 : f8 j = some w := by simpa [va_up, hq] using hj
                rw [hf _ _ h7]
                simp [upd, hq]
            · show H1[a]? = some (vp_cell _ _)
              rw [e1]
              rw [vp_cell_i, vp_cell_i, arrV_store]
              congr 2
              funext q
              by_cases hq : q = i.toNatClampNeg
              · subst hq
                simp [updV, upd, vp_nar]
                try rfl
              · simp [updV, upd, hq]
          · cases h9
          · cases h9
        · exact absurd (Or.inr (by rw [h0]; exact Nat.zero_le _)) hin
    · cases h
  · cases h
/-- the object at v may lie in a row of C: a cell of that class, or a literal -/
def mi_ok (M : mi_H) (C : String) (v : Nat) : Bool := match M.1 v with
  | some (.inr o) => if o.1 < 100 then (match vwCl[o.1]? with | some r => decide (r.1 = C) | none => false) else decide (C = "java/lang/String")
  | _ => false
def o_aast (C : String) : mi_O := fun S => match S.2.2.1 with
  | .ref v :: .int i :: .ref a :: st => match mi_ga S.2.2.2 a (.object C) with
    | some r => if i < 0 ∨ r.1 ≤ i.toNatClampNeg then none else if mi_ok S.2.2.2 C v = true then some (S.1 + 1, S.2.1, st, va_up S.2.2.2.1 a (some (.inl (.object C, r.1, va_up r.2 i.toNatClampNeg (some (.ref v))))), S.2.2.2.2) else none
    | none => none
  | _ => none
theorem mi_ok_any {g : xe_G} {D : va_G} {A : Nat → Prop} {s : State} {M : mi_H} {H : Heap} {locs : List Loc} {ws : va_W} {tys : List (ClassId × FieldType)} {C : String} {v : Nat} (hr : mi_rel g D A s M H ws tys) (hE : xe_E g A s s.heap) (hS : va_S A s.heap H locs) (h : mi_ok M C v = true) : va_Any C s H v := by
  unfold mi_ok at h
  split at h
  · rename_i o hM
    split at h
    · rename_i ho
      split at h
      · rename_i r hr9
        obtain ⟨q0, fs, h1, -⟩ := mi_obj hr ho hM
        have hC : r.1 = C := by simpa using h
        subst hC
        exact va_rAny hr.1 hr.2.1 h1 hr9 (fun comp c0 g1 g2 => by cases g1.symm.trans g2; exact va_asg _ _)
      · cases h
    · rename_i ho
      have hC : C = "java/lang/String" := by simpa using h
      subst hC
      rcases hr.2.2.2.2.1 v _ hM with ⟨hw, -⟩ | ⟨-, f9, h9⟩ | ⟨k9, f9, hk9, h8, h9⟩
      · exact absurd (hw.2 o rfl) ho
      · cases h9
      · subst h8
        exact xe_any hE hS k9 hk9
  · cases h
theorem sm_aast {g : xe_G} {own : String} {cc : ByteArray} {nL : Nat} {ini : Bool} {pc : Nat} {C : String} (hd : decode cc pc = .ok (.aastore, 1)) : mi_sim g own cc nL ini pc (o_aast C) := by
  intro lv st M S' h
  unfold o_aast at h
  dsimp only at h
  split at h
  · rename_i v i a rest
    split at h
    · rename_i r hga
      split at h
      · cases h
      · rename_i hin
        split at h
        · rename_i hok
          cases h
          refine ⟨⟨Nat.le_refl _, Nat.le_refl _⟩, ?_⟩
          intro D p l e R s m args below meth c A n0 s0 Q hc hn0 hs0 hR1 hR2 hW H locs ls ws tys hr hl hS
          obtain ⟨hx, hb, hml, hown, htb, hE, hini, hA, hK0, hfr, hlo⟩ := hc
          obtain ⟨hM, ⟨q0, cA, y, t0, h1, h2, ⟨h3, h4⟩, h5⟩ | ⟨-, h0, -⟩⟩ := mi_ga_in hr hga
          · obtain ⟨n9, x9⟩ := y
            obtain ⟨n8, f8⟩ := r
            dsimp only at h3 h4 hin h5
            subst h3
            rcases h4 with ⟨h9, -⟩ | ⟨h9, -⟩ | ⟨-, f, rfl, hf⟩
            · simp at h9
            · cases h9
            · have hlt : i.toNatClampNeg < n9 := Nat.not_le.mp fun q => hin (Or.inr q)
              have h0 : ¬ i < 0 := fun q => hin (Or.inl q)
              obtain ⟨cellV, g1, g3, ⟨kC, hkC⟩, hasg⟩ := mi_ok_any hr hE hS hok
              obtain ⟨kA, comp, k1, k2, k3, -⟩ := (hr.1.2 t0 _ h2).2
              obtain ⟨kE, hkE, -⟩ := Vm.findClass_spec k3
              refine W.aast hx hb (hr.2.1 q0 _ h1) (fun q h => by cases h) (fun h => by cases h) k1 k2 rfl hkE ⟨h0, by show _ < (arrV _ _ _).slots.size; rw [arrV_size]; exact hlt⟩ g1 (fun q h => by rw [h] at g3; cases g3) hkC (hasg _ k3) rfl rfl hd fun H1 e1 z oq => ?_
              refine hW H1 _ ls (ws.set q0 (a, .inl (cA, n9, .inr (.inr (.inr (.inr (va_up f i.toNatClampNeg (some v)))))))) tys (hr.put h1 ⟨h5.1, fun o9 h9 => by cases h9⟩ ⟨cA, _, rfl, List.mem_of_getElem? h2, rfl, Or.inr (Or.inr ⟨⟨_, rfl⟩, _, rfl, fun j w hj => ?_⟩)⟩ ?_ z oq) hl (hS.put z oq (hr.2.2.1.2 q0 _ h1))
              · by_cases hq : j = i.toNatClampNeg
                · have h7 : some (Value.ref v) = some w := by simpa [va_up, hq] using hj
                  cases h7
                  simp [va_up, hq, va_rf]
                · have h7 : f8 j = some w := by simpa [va_up, hq] using hj
                  rw [hf _ _ h7]
                  simp [va_up, hq]
              · show H1[a]? = some (vp_cell _ _)
                rw [e1]
                rw [vp_cell_q, vp_cell_q, arrV_store]
                congr 2
                funext q
                by_cases hq : q = i.toNatClampNeg
                · subst hq
                  simp [updV, va_up, va_rf]
                · simp [updV, va_up, hq]
          · cases h0
        · cases h
    · cases h
  · cases h
theorem mi_fresh {g : xe_G} {A : Nat → Prop} {s : State} {H : Heap} {locs : List Loc} (hE : xe_E g A s s.heap) (hS : va_S A s.heap H locs) : H.size ≠ g.1 := by
  obtain ⟨cell, h1, -⟩ := hE.2.1
  have h2 : g.1 < s.heap.size := (Array.getElem?_eq_some_iff.mp h1).1
  exact Nat.ne_of_gt (Nat.lt_of_lt_of_le h2 hS.1)
def o_newa (ty : FieldType) : mi_O := fun S => match S.2.2.1 with
  | .int n :: st => if n < 0 ∨ 134217728 < n.toNatClampNeg then none else some (S.1 + 2, S.2.1, .ref S.2.2.2.2.1 :: st, va_up S.2.2.2.1 S.2.2.2.2.1 (some (.inl (ty, n.toNatClampNeg, fun _ => some (.int 0)))), S.2.2.2.2.1 + 1, S.2.2.2.2.2 + n.toNatClampNeg)
  | _ => none
theorem sm_newa {g : xe_G} {own : String} {cc : ByteArray} {nL : Nat} {ini : Bool} {pc : Nat} {ty : FieldType} {aty : ArrayType} (hty : newarray.typeOf aty = ty) (hw : Cond.arrayClass ty ∈ bg) (h4 : componentBytes ty ≤ 4) (h5 : ty ∈ [FieldType.int, .byte, .char, .short, .boolean]) (hd : decode cc pc = .ok (.newarray aty, 2)) : mi_sim g own cc nL ini pc (o_newa ty) := by
  intro lv st M S' h
  subst hty
  unfold o_newa at h
  dsimp only at h
  split at h
  · rename_i n rest
    split at h
    · cases h
    · rename_i hin
      cases h
      refine ⟨⟨Nat.le_succ _, Nat.le_add_right _ _⟩, ?_⟩
      intro D p l e R s m args below meth c A n0 s0 Q hc hn0 hs0 hR1 hR2 hW H locs ls ws tys hr hl hS
      obtain ⟨hx, hb, hml, hown, htb, hE, hini, hA, hK0, hfr, hlo⟩ := hc
      dsimp only at hR1 hR2 hn0 hs0
      have hz := hr.2.2.2.1
      have e9 : M.2.1 + 1 - n0 = (M.2.1 - n0) + 1 := by omega
      have e8 : M.2.2 + n.toNatClampNeg - s0 = (M.2.2 - s0) + n.toNatClampNeg := by omega
      have hb9 : n.toNatClampNeg * componentBytes (newarray.typeOf aty) ≤ 536870912 := Nat.le_trans (Nat.mul_le_mul (Nat.not_lt.mp (fun q => hin (Or.inr q))) h4) (by decide)
      refine va_newaK hx hb (htb _ hw) rfl hd rfl (fun q => hin (Or.inl q)) rfl hb9 (by rw [← e9]; exact hR1) (by rw [← e8]; exact hR2) rfl fun H1 cA e1 z1 o1 hAr hNm => ?_
      have hgo := hW H1 locs ls (ws ++ [(H.size, .inl (cA, n.toNatClampNeg, .inl (fun _ => 0)))]) (tys ++ [(cA, newarray.typeOf aty)]) ?_ hl ⟨Nat.le_trans hS.1 (by omega), fun x h1 h2 => (o1 x (Nat.lt_of_lt_of_le h1 hS.1)).trans (hS.2.1 x h1 h2), hS.2.2⟩
      · dsimp only at hgo
        rw [e9, e8, ← hz] at hgo
        rw [← hz]
        exact hgo
      · refine hr.push n.toNatClampNeg (hA _ hS.1) ?_ ⟨mi_fresh hE hS, fun o9 h9 => by cases h9⟩ ⟨cA, _, rfl, by simp, rfl, Or.inl ⟨h5, _, rfl, fun j w hj => by cases hj; rfl⟩⟩ ?_ z1 o1
        · refine hr.1.app ⟨hr.1.1, fun k x hx9 => ?_⟩
          have hz9 : k < 1 := (List.getElem?_eq_some_iff.mp hx9).1
          rw [show k = 0 by omega] at hx9
          cases hx9
          exact ⟨hAr, by cases aty <;> exact hNm⟩
        · show H1[H.size]? = some (vp_cell _ _)
          rw [e1, vp_cell_i]
          congr 2
          funext _
          cases aty <;> first | rfl | (simp [newarray.typeOf] at h5)
  · cases h
def o_anew (C : String) : mi_O := fun S => match S.2.2.1 with
  | .int n :: st => if n < 0 ∨ 134217728 < n.toNatClampNeg then none else some (S.1 + 3, S.2.1, .ref S.2.2.2.2.1 :: st, va_up S.2.2.2.1 S.2.2.2.2.1 (some (.inl (.object C, n.toNatClampNeg, fun _ => some .null))), S.2.2.2.2.1 + 1, S.2.2.2.2.2 + n.toNatClampNeg)
  | _ => none
theorem sm_anew {g : xe_G} {own : String} {cc : ByteArray} {nL : Nat} {ini : Bool} {pc : Nat} {C : String} {i : Nat} (hcl : Cond.classLink own i C ∈ bg) (hAO : ∀ A s, xe_E g A s s.heap → va_AO C s) (hd : decode cc pc = .ok (.anewarray i, 3)) : mi_sim g own cc nL ini pc (o_anew C) := by
  intro lv st M S' h
  unfold o_anew at h
  dsimp only at h
  split at h
  · rename_i n rest
    split at h
    · cases h
    · rename_i hin
      cases h
      refine ⟨⟨Nat.le_succ _, Nat.le_add_right _ _⟩, ?_⟩
      intro D p l e R s m args below meth c A n0 s0 Q hc hn0 hs0 hR1 hR2 hW H locs ls ws tys hr hl hS
      obtain ⟨hx, hb, hml, hown, htb, hE, hini, hA, hK0, hfr, hlo⟩ := hc
      dsimp only at hR1 hR2 hn0 hs0
      have hz := hr.2.2.2.1
      have e9 : M.2.1 + 1 - n0 = (M.2.1 - n0) + 1 := by omega
      have e8 : M.2.2 + n.toNatClampNeg - s0 = (M.2.2 - s0) + n.toNatClampNeg := by omega
      have hb9 : n.toNatClampNeg * 4 ≤ 536870912 := Nat.le_trans (Nat.mul_le_mul (Nat.not_lt.mp (fun q => hin (Or.inr q))) (Nat.le_refl 4)) (by decide)
      refine W.anew hx hb hown (htb _ hcl) (va_AO.use (hAO A s hE)) rfl hd rfl (fun q => hin (Or.inl q)) hb9 (by rw [← e9]; exact hR1) (by rw [← e8]; exact hR2) fun cA kA comp f1 f2 f3 f4 => ?_
      generalize hH1 : H.push ({ cls := cA, slots := Array.replicate n.toNatClampNeg .null, vm := .none } : Cell) = H1
      have z1 : H1.size = H.size + 1 := by rw [← hH1, Array.size_push]
      have e1 : H1[H.size]? = some (arrV cA n.toNatClampNeg (fun _ => .null)) := by rw [← hH1, Array.getElem?_push_size, ← arrV_new]
      have o1 : ∀ q : Nat, q < H.size → H1[q]? = H[q]? := fun q hq => by rw [← hH1, Array.getElem?_push, if_neg (Nat.ne_of_lt hq)]
      have hAr : ArrOfT s cA (.object C) := fun N z => ⟨(fun k h => by cases h), kA, f2, comp, f3⟩
      have hgo := hW H1 locs ls (ws ++ [(H.size, .inl (cA, n.toNatClampNeg, .inr (.inr (.inr (.inr (fun _ => none))))))]) (tys ++ [(cA, .object C)]) ?_ hl ⟨Nat.le_trans hS.1 (by omega), fun x h1 h2 => (o1 x (Nat.lt_of_lt_of_le h1 hS.1)).trans (hS.2.1 x h1 h2), hS.2.2⟩
      · dsimp only at hgo
        rw [e9, e8, ← hz] at hgo
        rw [← hz]
        exact hgo
      · refine hr.push n.toNatClampNeg (hA _ hS.1) ?_ ⟨mi_fresh hE hS, fun o9 h9 => by cases h9⟩ ⟨cA, _, rfl, by simp, rfl, Or.inr (Or.inr ⟨⟨C, rfl⟩, _, rfl, fun j w hj => by cases hj; rfl⟩)⟩ ?_ z1 o1
        · refine hr.1.app ⟨hr.1.1, fun k x hx9 => ?_⟩
          have hz9 : k < 1 := (List.getElem?_eq_some_iff.mp hx9).1
          rw [show k = 0 by omega] at hx9
          cases hx9
          exact ⟨hAr, kA, comp, f2, f3, f4, f1⟩
        · show H1[H.size]? = some (vp_cell _ _)
          rw [e1]
          rfl
  · cases h
def o_new (ci N : Nat) (ds : List Value) : mi_O := fun S => some (S.1 + 3, S.2.1, .ref S.2.2.2.2.1 :: S.2.2.1, va_up S.2.2.2.1 S.2.2.2.2.1 (some (.inr (ci, fun k => ds[k]?))), S.2.2.2.2.1 + 1, S.2.2.2.2.2 + N)
theorem sm_new {g : xe_G} {own : String} {cc : ByteArray} {nL : Nat} {ini : Bool} {pc : Nat} {ci i N : Nat} {C : String} {T : u_T} {ty : Nat → FieldType} {ds : List Value} (hci : ci < 100) (hc0 : vwCl[ci]? = some (C, T, N)) (hin : ∀ w ∈ u_ws C T N, w ∈ bg) (hty : ∀ k, k < N → parseFieldDescriptor (T k).2.2.1 = some (ty k)) (hcl : Cond.classLink own i C ∈ bg) (hin9 : Cond.instantiable C N ∈ bg) (hi9 : Cond.initialized C ∈ bg) (hfs : ∀ j, j < N → defaultValue (ty j) = vp_V ds j) (hdl : ds.length = N) (hd : decode cc pc = .ok (.new i, 3)) : mi_sim g own cc nL ini pc (o_new ci N ds) := by
  intro lv st M S' h
  cases h
  refine ⟨⟨Nat.le_succ _, Nat.le_add_right _ _⟩, ?_⟩
  intro D p l e R s m args below meth c A n0 s0 Q hc hn0 hs0 hR1 hR2 hW H locs ls ws tys hr hl hS
  obtain ⟨hx, hb, hml, hown, htb, hE, hini, hA, hK0, hfr, hlo⟩ := hc
  dsimp only at hR1 hR2 hn0 hs0
  have hz := hr.2.2.2.1
  have e9 : M.2.1 + 1 - n0 = (M.2.1 - n0) + 1 := by omega
  have e8 : M.2.2 + N - s0 = (M.2.2 - s0) + N := by omega
  have hKn := hr.1.1 ci _ hc0
  refine W.newcK hx hb hown (htb _ hcl) (htb _ hin9) (htb _ hi9) rfl hd (by rw [← e9]; exact hR1) (by rw [← e8]; exact hR2) hKn.2.1 rfl fun H1 kC hkC e1 z1 o1 => ?_
  have hgo := hW H1 locs ls (ws ++ [(H.size, .inr (ci, ds))]) (tys ++ []) ?_ hl ⟨Nat.le_trans hS.1 (by omega), fun x h1 h2 => (o1 x (Nat.lt_of_lt_of_le h1 hS.1)).trans (hS.2.1 x h1 h2), hS.2.2⟩
  · dsimp only at hgo
    rw [e9, e8, ← hz] at hgo
    show W p l e R s m args below meth c H1 locs (M.2.1 - n0 + 1) (M.2.2 - s0 + N) Q (F0 m (pc + 3) ls (.ref H.size :: st))
    rw [← hz]
    exact hgo
  · refine hr.push N (hA _ hS.1) (by rw [List.append_nil]; exact hr.1) ⟨mi_fresh hE hS, fun o9 h9 => by cases h9; exact hci⟩ ⟨ds, rfl, ?_, fun k v hv => hv⟩ ⟨_, hc0, (u_born ty htb hin hKn hkC e1 hty).to hfs⟩ z1 o1
    unfold mi_n
    rw [hc0]
    exact hdl
def o_drop (n : Nat) : mi_O := fun S => match S.2.2.1 with
  | .ref _ :: st => if (st.map fun v => v.category).sum ≤ 8 then some (S.1 + n, S.2.1, st, S.2.2.2) else none
  | _ => none
theorem sm_obj {g : xe_G} {own : String} {cc : ByteArray} {nL : Nat} {ini : Bool} {pc : Nat} {i : Nat} (h1 : Cond.methodLink own i Lib.objectInit ∈ bg) (h2 : Cond.instanceMethod Lib.objectInit ∈ bg) (h3 : Cond.code Lib.objectInit ⟨#[0xb1]⟩ 1 none ∈ bg) (hd : decode cc pc = .ok (.invokespecial i, 3)) : mi_ps g own cc nL ini pc (o_drop 3) := by
  intro lv st M S' h
  unfold o_drop at h
  dsimp only at h
  split at h
  · split at h
    · rename_i hs9
      cases h
      refine ⟨rfl, rfl, ?_⟩
      intro D p l e R s m args below meth c A Q H locs ls cells slots ws tys hc hr hl hS hR1 hR2 k
      obtain ⟨hx, hb, hml, hown, htb, hE, hini, hA, hK0, hfr, hlo⟩ := hc
      exact W.objInit hx hb hown (htb _ h1) (htb _ h2) (htb _ h3) rfl (by rw [hml]; exact hl.1) rfl hd (by omega) (by show 2 * 0 + _ + 12 ≤ _; omega) k
    · cases h
  · cases h
theorem sm_nob {g : xe_G} {own : String} {cc : ByteArray} {nL : Nat} {ini : Bool} {pc : Nat} {i : Nat} (hw : Cond.fieldLink own i "ClassGate" "NO_BYTES" "[B" ∈ bg) (hd : decode cc pc = .ok (.getstatic i, 3)) : mi_ps g own cc nL ini pc (o_push (.ref g.1) 3) := by
  intro lv st M S' h
  cases h
  refine ⟨rfl, rfl, ?_⟩
  intro D p l e R s m args below meth c A Q H locs ls cells slots ws tys hc hr hl hS hR1 hR2 k
  obtain ⟨hx, hb, hml, hown, htb, hE, hini, hA, hK0, hfr, hlo⟩ := hc
  exact va_gets hx hb hE.1 hS hown (htb _ hw) (fun _ h9 => h9) hd k
theorem sm_putF {g : xe_G} {own : String} {cc : ByteArray} {nL : Nat} {ini : Bool} {pc : Nat} {ci k i N : Nat} {C : String} {T : u_T} {ty0 : Nat → FieldType} {ty : FieldType} (hci : ci < 100) (hc0 : vwCl[ci]? = some (C, T, N)) (hin : ∀ w ∈ u_ws C T N, w ∈ bg) (hty : ∀ k, k < N → parseFieldDescriptor (T k).2.2.1 = some (ty0 k)) (hnm : ∀ a, a < N → ∀ b, b < N → a ≠ b → (T a).2.1 ≠ (T b).2.1) (hk : k < N) (hfin : (T k).2.2.2 = true) (hin2 : ini = true) (hdecl : (T k).1 = own) (hd0 : parseFieldDescriptor (T k).2.2.1 = some ty) (hw : Cond.fieldLink own i (T k).1 (T k).2.1 (T k).2.2.1 ∈ bg) (hd : decode cc pc = .ok (.putfield i, 3)) : mi_sim g own cc nL ini pc (o_put ci k ty) := by
  intro lv st M S' h
  unfold o_put at h
  dsimp only at h
  split at h
  · rename_i v a rest
    split at h
    · rename_i o hM
      split at h
      · rename_i hco
        cases h
        refine ⟨⟨Nat.le_refl _, Nat.le_refl _⟩, ?_⟩
        intro D p l e R s m args below meth c A n0 s0 Q hc hn0 hs0 hR1 hR2 hW H locs ls ws tys hr hl hS
        obtain ⟨hx, hb, hml, hown, htb, hE, hini, hA, hK0, hfr, hlo⟩ := hc
        obtain ⟨rfl, hfit⟩ := hco
        obtain ⟨q0, fs, he, hfl, hff, hwr⟩ := mi_obj hr hci hM
        obtain ⟨hn, hft⟩ := mi_fit_ok hfit
        have hl9 : k < fs.length := by
          rw [hfl]
          unfold mi_n
          rw [hc0]
          exact hk
        have hap := va_apart (own := own) (D := D) htb hin ty0 hty hnm hr.1 hc0
        obtain ⟨r, h1, cell, q1, q2, q3, q4⟩ := hr.2.1 q0 _ he
        have hr9 : r = (C, T, N) := Option.some.inj (h1.symm.trans hc0)
        subst hr9
        obtain ⟨hS9, hfc, kC, hkC, hkind⟩ := hr.1.1 o.1 _ hc0
        obtain ⟨cf, kf, fi, f, hi, hsl⟩ := hS9 k hk
        have hlay := htb _ (hin _ (u_in_lay hk))
        unfold u_lay at hlay
        rw [if_pos hfin] at hlay
        have hst := (u_facts hfc hkC (u_lays htb hin hk) hi).1
        have hcf : m.cls = cf := by
          obtain ⟨_, _, c', _, _, _, -, -, hf', -, -, -, hown2, -⟩ := Cond.laysFinal_spec hlay
          have e1 : c' = cf := by have := hi.symm.trans hf'; simp at this; exact this.1.symm
          rw [hdecl] at hown2
          rw [← e1]; exact Option.some.inj (hown.symm.trans hown2)
        have h6 := u_fits hfc hkC hkind (Or.inr hlay) hi hd0 hn hft
        refine W.putFinK hx hb hown (htb _ hw) hi hst hcf (hini hin2) (by rw [q2]; exact h6) q1 q3 (by rw [hsl]; exact k2_hasslot (q4 k hk)) rfl rfl hd fun H' e1 e2 e3 => ?_
        rw [hsl] at e1 ⊢
        have hA9 : A a := hr.2.2.1.2 q0 _ he
        exact hW H' _ ls (ws.set q0 (a, .inr (o.1, fs.set k v))) tys (hr.put (c' := .inr (o.1, va_up o.2 k (some v))) he ⟨hwr.1, fun o9 h9 => by cases h9; exact hwr.2 o rfl⟩ ⟨fs.set k v, rfl, by rw [List.length_set]; exact hfl, mi_put_fs hl9 hff⟩ ⟨_, hc0, t_OB.to (V := updV (vp_V fs) k v) ⟨_, e1, q2, q3, t_set q4 hap hk v⟩ (fun j _ => vp_updV_set hl9 v j)⟩ e2 e3) hl (hS.put e2 e3 hA9)
      · cases h
    · cases h
  · cases h
theorem sm_ldcS {g : xe_G} {own : String} {cc : ByteArray} {nL : Nat} {ini : Bool} {pc : Nat} {i k9 : Nat} (hk : k9 < xe_N) (h1 : (xe_lt k9).1 = own) (h2 : (xe_lt k9).2.1 = i) (hd : decode cc pc = .ok (.ldc i, 2)) : mi_ps g own cc nL ini pc (o_push (.ref (g.2.1 k9)) 2) := by
  intro lv st M S' h
  cases h
  refine ⟨rfl, rfl, ?_⟩
  intro D p l e R s m args below meth c A Q H locs ls cells slots ws tys hc hr hl hS hR1 hR2 k
  obtain ⟨hx, hb, hml, hown, htb, hE, hini, hA, hK0, hfr, hlo⟩ := hc
  have h9 := (hE.2.2.2.2.2.2.1 k9 hk).1
  rw [h1, h2] at h9
  exact va_ldcS hx hb hown h9 hd k
end MIQ
