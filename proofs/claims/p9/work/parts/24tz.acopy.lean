/-! rows of bytes are copied, empty ones too (my own text) -/
def o_acopy2 (g : xe_G) : mi_O := fun S => match S.2.2.1 with
  | .int n :: .int dp :: .ref a :: .int sp :: .ref a0 :: st => match mi_ga S.2.2.2 a0 .byte with
    | some r0 => match mi_ga S.2.2.2 a .byte with
      | some r1 => if a ≠ a0 ∧ a0 ≠ g.1 ∧ a ≠ g.1 ∧ ¬ sp < 0 ∧ ¬ dp < 0 ∧ ¬ n < 0 ∧ sp.toNatClampNeg + n.toNatClampNeg ≤ r0.1 ∧ dp.toNatClampNeg + n.toNatClampNeg ≤ r1.1 ∧ (st.map fun v => v.category).sum ≤ 8 ∧ (List.range n.toNatClampNeg).all (fun i => mi_fb (r0.2 (sp.toNatClampNeg + i))) = true then
          some (S.1 + 3, S.2.1, st, va_up S.2.2.2.1 a (some (.inl (.byte, r1.1, va_cpy r0.2 r1.2 sp.toNatClampNeg dp.toNatClampNeg n.toNatClampNeg))), S.2.2.2.2) else none
      | none => none
    | none => none
  | _ => none
theorem sm_acopy2 {g : xe_G} {own : String} {cc : ByteArray} {nL : Nat} {ini : Bool} {pc : Nat} {i : Nat} (w1 : Cond.methodLink own i arraycopyName ∈ bg) (w2 : Cond.native arraycopyName ∈ bg) (w3 : Cond.static arraycopyName ∈ bg) (w4 : Cond.initialized "java/lang/System" ∈ bg) (hd : decode cc pc = .ok (.invokestatic i, 3)) : mi_sim g own cc nL ini pc (o_acopy2 g) := by
  intro lv st M S' h
  unfold o_acopy2 at h
  dsimp only at h
  split at h
  · rename_i n dp a sp a0 rest
    split at h
    · rename_i r0 hga0
      split at h
      · rename_i r1 hga1
        split at h
        · rename_i hco
          cases h
          refine ⟨⟨Nat.le_refl _, Nat.le_refl _⟩, ?_⟩
          intro D p l e R s m args below meth c A n0 s0 Q hc hn0 hs0 hR1 hR2 hW H locs ls ws tys hr hl hS
          obtain ⟨hx, hb, hml, hown, htb, hE, hini, hA, hK0, hfr, hlo⟩ := hc
          obtain ⟨hne, p0, p1, hsp, hdp, hnn, h4, h5, hst8, hfb⟩ := hco
          obtain ⟨hM0, ⟨q0, c0, y0, t0, h1, h2, ⟨h3, h7⟩, -⟩ | ⟨h0, -, -⟩⟩ := mi_ga_in hr hga0
          · obtain ⟨hM1, ⟨q1, c1, y1, t1, k1, k2, ⟨k3, k7⟩, k5⟩ | ⟨h0, -, -⟩⟩ := mi_ga_in hr hga1
            · obtain ⟨n0', x0⟩ := y0
              obtain ⟨n1', x1⟩ := y1
              obtain ⟨n0'', f0⟩ := r0
              obtain ⟨n1'', f1⟩ := r1
              dsimp only at h3 h7 k3 k7 h4 h5 hfb k5
              subst h3
              subst k3
              rcases h7 with ⟨-, hf0, rfl, hv0⟩ | ⟨h9, -⟩ | ⟨⟨C9, h9⟩, -⟩
              · rcases k7 with ⟨-, hf1, rfl, hv1⟩ | ⟨h9, -⟩ | ⟨⟨C9, h9⟩, -⟩
                · have hfit : ∀ i, i < n.toNatClampNeg → f0 (sp.toNatClampNeg + i) = some (.int (hf0 (sp.toNatClampNeg + i))) ∧ fits .byte (.int (hf0 (sp.toNatClampNeg + i))) = true := by
                    intro i hi
                    have h6 := List.all_eq_true.mp hfb i (List.mem_range.mpr hi)
                    unfold mi_fb at h6
                    split at h6
                    · rename_i v hv
                      have h8 := hv0 _ _ hv
                      subst h8
                      exact ⟨hv, h6⟩
                    · cases h6
                  intro T hT X
                  have hc0 : H[a0]? = some (vp_cell c0 (n0', .inl hf0)) := hr.2.1 q0 _ h1
                  have hc1 : H[a]? = some (vp_cell c1 (n1', .inl hf1)) := hr.2.1 q1 _ k1
                  obtain ⟨-, kk0, hk0, cm0, hkk0⟩ := (hr.1.2 t0 _ h2).1 n0' (fun j => .int (hf0 j))
                  obtain ⟨-, kk1, hk1, cm1, hkk1⟩ := (hr.1.2 t1 _ k2).1 n1' (fun j => .int (hf1 j))
                  obtain ⟨vm', X', step⟩ := X.arraycopy hx hown (htb _ w1) (htb _ w2) (htb _ w3) (htb _ w4) (src := a0) (dst := a) (cs := vp_cell c0 (n0', .inl hf0)) (cd := vp_cell c1 (n1', .inl hf1)) (srcPos := sp) (destPos := dp) (n := n) (by rw [hT]; exact hc0) (by rw [hT]; exact hc1)
                    (fun _ h => by cases h) (fun _ h => by cases h) (fun h => by cases h) (fun h => by cases h) hk0 hk1 hkk0 hkk1 (by simp [refKind]) hsp hdp hnn
                    (by rw [mi_nn sp hsp, mi_nn n hnn]; show ¬ _ > ((arrV c0 n0' (fun j => .int (hf0 j))).slots.size : Int); rw [arrV_size]; omega)
                    (by rw [mi_nn dp hdp, mi_nn n hnn]; show ¬ _ > ((arrV c1 n1' (fun j => .int (hf1 j))).slots.size : Int); rw [arrV_size]; omega)
                    (fun vm₁ _ i hi => by
                      have e : (vp_cell c0 (n0', .inl hf0)).slots.getD (sp.toNatClampNeg + i) .null = .int (hf0 (sp.toNatClampNeg + i)) := by
                        show (arrV c0 n0' (fun j => .int (hf0 j))).slots.getD _ _ = _
                        rw [Array.getD_eq_getD_getElem?, arrV_read _ _ (by omega)]
                        rfl
                      refine ⟨?_, ?_⟩
                      · rw [e]
                        exact (hfit i hi).2
                      · rw [e]
                        exact trivial)
                    (g := F0 m pc ls (.int n :: .int dp :: .ref a :: .int sp :: .ref a0 :: rest)) rfl (by rw [hml]; exact hl.1) (rest := rest) rfl (by rw [hb]; exact hd) (by omega) (mi_nat9 hst8 hlo)
                  have e1 : copied (vp_cell c0 (n0', .inl hf0)) (vp_cell c1 (n1', .inl hf1)) sp dp n = vp_cell c1 (n1', .inl (va_cpy hf0 hf1 sp.toNatClampNeg dp.toNatClampNeg n.toNatClampNeg)) := va_copied (fun z => .int z) c0 c1 hf0 hf1 h4
                  rw [e1] at X' step
                  have hlt : a < H.size := (Array.getElem?_eq_some_iff.mp hc1).1
                  have hheap : ((T.setVm vm').setCell a (vp_cell c1 (n1', .inl (va_cpy hf0 hf1 sp.toNatClampNeg dp.toNatClampNeg n.toNatClampNeg)))).heap = H.setIfInBounds a (vp_cell c1 (n1', .inl (va_cpy hf0 hf1 sp.toNatClampNeg dp.toNatClampNeg n.toNatClampNeg))) := by rw [← hT]; rfl
                  generalize hH1 : H.setIfInBounds a (vp_cell c1 (n1', .inl (va_cpy hf0 hf1 sp.toNatClampNeg dp.toNatClampNeg n.toNatClampNeg))) = H1 at hheap
                  have z : H1.size = H.size := by rw [← hH1]; simp
                  have oq : ∀ q : Nat, q ≠ a → H1[q]? = H[q]? := fun q hq => by rw [← hH1]; simp [Array.getElem?_setIfInBounds, Ne.symm hq]
                  have hat : H1[a]? = some (vp_cell c1 (n1', .inl (va_cpy hf0 hf1 sp.toNatClampNeg dp.toNatClampNeg n.toNatClampNeg))) := by rw [← hH1]; simp [Array.getElem?_setIfInBounds, hlt]
                  have hA9 : A a := hr.2.2.1.2 q1 _ k1
                  have hct : ∀ (j : Nat) (w : Value), va_cpy f0 f1 sp.toNatClampNeg dp.toNatClampNeg n.toNatClampNeg j = some w → w = .int (va_cpy hf0 hf1 sp.toNatClampNeg dp.toNatClampNeg n.toNatClampNeg j) := by
                    intro j w hj
                    unfold va_cpy at hj ⊢
                    split at hj
                    · rename_i hjj
                      rw [if_pos hjj]
                      exact hv0 _ _ hj
                    · rename_i hjj
                      rw [if_neg hjj]
                      exact hv1 _ _ hj
                  obtain ⟨t, a1, b1⟩ := hW H1 _ ls (ws.set q1 (a, .inl (c1, n1', .inl (va_cpy hf0 hf1 sp.toNatClampNeg dp.toNatClampNeg n.toNatClampNeg)))) tys (hr.put k1 ⟨k5.1, fun o9 h9 => by cases h9⟩ ⟨c1, _, rfl, List.mem_of_getElem? k2, rfl, Or.inl ⟨by simp, _, rfl, hct⟩⟩ hat z oq) hl ⟨Nat.le_trans hS.1 (Nat.le_of_eq z.symm), fun q g1 g2 => by
                      rw [oq q (fun e => g2 (by rw [e]; exact hA9))]
                      exact hS.2.1 q g1 g2, fun q hq => by
                      rcases List.mem_append.mp hq with h | h
                      · exact hS.2.2 q h
                      · obtain ⟨z, -, hz⟩ := List.mem_map.mp h
                        rw [← hz]
                        exact hA9⟩ _ hheap X'
                  exact ⟨t, step t a1, b1⟩
                · cases h9
                · cases h9
              · cases h9
              · cases h9
            · exact absurd h0 p1
          · exact absurd h0 p0
        · cases h
      · cases h
    · cases h
  · cases h
