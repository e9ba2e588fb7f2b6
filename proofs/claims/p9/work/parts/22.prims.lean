/-! the JDK's few: text of the literals, a copy of bytes, a literal by its wide index -/
section MIT
theorem mi_sized {l : Launch} {y : MethodName} {ws : List Cond} {rm : Room} {Pc : Array Value → State → Prop} {Qc : Array Value → State → Outcome → State → Prop} {mc ms : Nat} {free : Addr → Prop} (h : Met l y ws rm Pc Qc mc ms free) : Met l y ws rm Pc (fun a st o t => Qc a st o t ∧ t.heap.size ≤ st.heap.size + mc) mc ms free :=
  MetFree.mono h (fun _ _ h => h) (fun _ _ _ _ _ _ => trivial) (fun a s o t _ h => ⟨⟨h.1, by obtain ⟨L, ⟨-, -, hsm⟩, -⟩ := h.2; exact hsm.2.2.1⟩, h.2⟩)
section MIU
variable {p : Program} {l : Launch} {e : Env} {R : Room} {s : State} {m : MethodId} {args : Array Value} {below : List Frame} {meth : Method} {c : Code} {H : Heap} {locs : List Loc} {cells slots : Nat} {Q : State → Prop} {pc : Nat} {ls : Array Slot} {rest st0 : List Value} {a : Array Value}
theorem mi_prim {w : Int32} {B : Unit → State → Prop} (hr : va_Run p l e R s m args below meth c H locs cells slots 0 0 (F0 m pc ls st0) rest (fun st oc t => va_Qi (fun r (_ : Unit) => r = w) B (va_A [] H.size) a st oc t ∧ t.heap.size ≤ st.heap.size + 0) (va_A [] H.size)) (hle : s.heap.size ≤ H.size)
    (k : W p l e R s m args below meth c H locs cells slots Q (F0 m (pc + 3) ls (.int w :: rest))) : W p l e R s m args below meth c H locs cells slots Q (F0 m pc ls st0) := by
  intro T hT X
  obtain ⟨v, st₀, t, T', L, h0, X', hL, e1, e2, ⟨⟨⟨r, u, hv, hp, -⟩, hz, hk⟩, hsz⟩, stp⟩ := hr T hT X
  cases hv
  subst hp
  rw [h0] at hz hk hsz
  have hno : ∀ q : Nat, q < H.size → ¬ va_A [] H.size q := by
    rintro q hq (⟨k9, e9, h9⟩ | h9)
    · simp at h9
    · omega
  have hH : T'.heap = H := by
    rw [e1]
    apply Array.ext_getElem?
    intro q
    by_cases hq : q < H.size
    · exact hk q hq (hno q hq)
    · rw [Array.getElem?_eq_none (by omega), Array.getElem?_eq_none (by omega)]
  obtain ⟨t2, a1, b1⟩ := k T' hH (Stand.forget X' (fun z hz9 => by
    rcases hL z hz9 with ⟨k9, e9, h9⟩ | h9
    · simp at h9
    · exact Nat.le_trans hle h9))
  exact ⟨t2, stp t2 a1, b1⟩
end MIU
theorem mi_lit {g : xe_G} {D : va_G} {A : Nat → Prop} {s : State} {M : mi_H} {H : Heap} {ws : va_W} {tys : List (ClassId × FieldType)} {a : Nat} {o : Nat × (Nat → Option Value)} (h : mi_rel g D A s M H ws tys) (hc : 100 ≤ o.1) (hM : M.1 a = some (.inr o)) : ∃ k, k < xe_N ∧ a = g.2.1 k ∧ o.1 = 100 + k := by
  rcases h.2.2.2.2.1 a _ hM with ⟨hw, -⟩ | ⟨-, f9, h9⟩ | ⟨k9, f9, h1, h2, h9⟩
  · exact absurd (hw.2 o rfl) (by omega)
  · cases h9
  · cases h9
    exact ⟨k9, h1, h2, rfl⟩
def o_slength : mi_O := fun S => match S.2.2.1 with
  | .ref a :: st => match S.2.2.2.1 a with
    | some (.inr o) => if 100 ≤ o.1 ∧ o.1 < 130 ∧ (st.map fun v => v.category).sum ≤ 8 then some (S.1 + 3, S.2.1, .int (nI (xe_lt (o.1 - 100)).2.2.2.length) :: st, S.2.2.2) else none
    | _ => none
  | _ => none
theorem sm_slength {g : xe_G} {own : String} {cc : ByteArray} {nL : Nat} {ini : Bool} {pc : Nat} {i : Nat} (w1 : Cond.methodLink own i yJ0_length_8abf5 ∈ bg) (w2 : Cond.instanceMethod yJ0_length_8abf5 ∈ bg) (w3 : Cond.selects "java/lang/String" yJ0_length_8abf5 yJ0_length_8abf5 ∈ bg) (w4 : Cond.initialized yJ0_length_8abf5.cls ∈ bg) (w5 : Cond.code yJ0_length_8abf5 cJ0_length_8abf5 1 (some .int) ∈ bg) (hd : decode cc pc = .ok (.invokevirtual i, 3)) : mi_ps g own cc nL ini pc o_slength := by
  intro lv st M S' h
  unfold o_slength at h
  dsimp only at h
  split at h
  · rename_i a rest
    split at h
    · rename_i o hM
      split at h
      · rename_i ho
        cases h
        refine ⟨rfl, rfl, ?_⟩
        intro D p l e R s m args below meth c A Q H locs ls cells slots ws tys hc hr hl hS hR1 hR2 k
        obtain ⟨hx, hb, hml, hown, htb, hE, hini, hA, hK0, hfr, hlo⟩ := hc
        obtain ⟨k9, h1, rfl, h3⟩ := mi_lit hr ho.1 hM
        have hk9 : k9 < xe_M := by show k9 < 30; omega
        rw [show o.1 - 100 = k9 by omega] at k
        exact mi_prim (va_runV (As := []) (rest := rest) ⟨hx, hb, hml, hown, htb⟩ (mi_sized (cs_length l D g k9 H.size hk9)) (bg_V 0 htb w1 w2 w3 w4 w5 rfl rfl ⟨by decide, by decide, by decide +kernel⟩ ⟨by show 2 + 1 ≤ _; omega, by show 8 + (1 + 11) + 240 ≤ _; omega⟩) ⟨xb_blind xe_ok, xe_recv hE hS k9 h1, xb_enter xe_ok hr.1 hr.2.1 hr.2.2.1 hS hA hE [] rfl rfl rfl [] rfl⟩ rfl rfl hl.1 rfl (lv_room ho.2.2) hd ⟨hR1, hR2⟩) hS.1 k
      · cases h
    · cases h
  · cases h
def o_scharAt : mi_O := fun S => match S.2.2.1 with
  | .int j :: .ref a :: st => match S.2.2.2.1 a with
    | some (.inr o) => if 100 ≤ o.1 ∧ o.1 < 130 ∧ (st.map fun v => v.category).sum ≤ 8 ∧ ¬ j < 0 ∧ j.toNatClampNeg < (xe_lt (o.1 - 100)).2.2.2.length then some (S.1 + 3, S.2.1, .int (xe_ch (o.1 - 100) j.toNatClampNeg) :: st, S.2.2.2) else none
    | _ => none
  | _ => none
theorem mi_nI {j : Int32} (h : ¬ j < 0) : nI j.toNatClampNeg = j := by
  have h0 : (0 : Int) ≤ j.toInt := by
    have := Int32.not_lt.mp h
    simpa using Int32.le_iff_toInt_le.mp this
  apply Int32.toInt_inj.mp
  have h2 : j.toNatClampNeg < 2 ^ 31 := by
    have := Int32.toInt_lt j
    show j.toInt.toNat < 2 ^ 31
    omega
  show (Int32.ofNat j.toNatClampNeg).toInt = j.toInt
  rw [Int32.toInt_ofNat_of_lt h2]
  show ((j.toInt.toNat : Nat) : Int) = j.toInt
  omega
theorem sm_scharAt {g : xe_G} {own : String} {cc : ByteArray} {nL : Nat} {ini : Bool} {pc : Nat} {i : Nat} (w1 : Cond.methodLink own i yJ0_charAt_5068e ∈ bg) (w2 : Cond.instanceMethod yJ0_charAt_5068e ∈ bg) (w3 : Cond.selects "java/lang/String" yJ0_charAt_5068e yJ0_charAt_5068e ∈ bg) (w4 : Cond.initialized yJ0_charAt_5068e.cls ∈ bg) (w5 : Cond.code yJ0_charAt_5068e cJ0_charAt_5068e 2 (some .char) ∈ bg) (hd : decode cc pc = .ok (.invokevirtual i, 3)) : mi_ps g own cc nL ini pc o_scharAt := by
  intro lv st M S' h
  unfold o_scharAt at h
  dsimp only at h
  split at h
  · rename_i j a rest
    split at h
    · rename_i o hM
      split at h
      · rename_i ho
        cases h
        refine ⟨rfl, rfl, ?_⟩
        intro D p l e R s m args below meth c A Q H locs ls cells slots ws tys hc hr hl hS hR1 hR2 k
        obtain ⟨hx, hb, hml, hown, htb, hE, hini, hA, hK0, hfr, hlo⟩ := hc
        obtain ⟨k9, h1, rfl, h3⟩ := mi_lit hr ho.1 hM
        have hk9 : k9 < xe_M := by show k9 < 30; omega
        have e9 : o.1 - 100 = k9 := by omega
        rw [e9] at k ho
        have hj := mi_nI ho.2.2.2.1
        have hgo := mi_prim (va_runV (As := [.int (nI j.toNatClampNeg)]) (rest := rest) ⟨hx, hb, hml, hown, htb⟩ (mi_sized (cs_charAt l D g k9 j.toNatClampNeg H.size hk9 ho.2.2.2.2)) (bg_V 1 htb w1 w2 w3 w4 w5 rfl rfl ⟨by decide, by decide, by decide +kernel⟩ ⟨by show 4 + 1 ≤ _; omega, by show 8 + (2 + 11) + 480 ≤ _; omega⟩) ⟨xb_blind xe_ok, xe_recv hE hS k9 h1, xb_enter xe_ok hr.1 hr.2.1 hr.2.2.1 hS hA hE [] rfl rfl rfl [] rfl⟩ rfl rfl hl.1 rfl (lv_room ho.2.2.1) hd ⟨hR1, hR2⟩) hS.1 k
        rw [hj] at hgo
        exact hgo
      · cases h
    · cases h
  · cases h
def mi_fb (o : Option Value) : Bool := match o with
  | some v => fits .byte v
  | none => false
def o_acopy : mi_O := fun S => match S.2.2.1 with
  | .int n :: .int dp :: .ref a :: .int sp :: .ref a0 :: st => match mi_ga S.2.2.2 a0 .byte with
    | some r0 => match mi_ga S.2.2.2 a .byte with
      | some r1 => if a ≠ a0 ∧ 0 < r0.1 ∧ 0 < r1.1 ∧ ¬ sp < 0 ∧ ¬ dp < 0 ∧ ¬ n < 0 ∧ sp.toNatClampNeg + n.toNatClampNeg ≤ r0.1 ∧ dp.toNatClampNeg + n.toNatClampNeg ≤ r1.1 ∧ (st.map fun v => v.category).sum ≤ 8 ∧ (List.range n.toNatClampNeg).all (fun i => mi_fb (r0.2 (sp.toNatClampNeg + i))) = true then
          some (S.1 + 3, S.2.1, st, va_up S.2.2.2.1 a (some (.inl (.byte, r1.1, va_cpy r0.2 r1.2 sp.toNatClampNeg dp.toNatClampNeg n.toNatClampNeg))), S.2.2.2.2) else none
      | none => none
    | none => none
  | _ => none
theorem mi_nn (z : Int32) (hz : ¬ z < 0) : z.toInt = (z.toNatClampNeg : Int) := by
  have hz0 : (0 : Int) ≤ z.toInt := by
    have := Int32.not_lt.mp hz
    simpa using Int32.le_iff_toInt_le.mp this
  show z.toInt = ((z.toInt.toNat : Nat) : Int)
  omega
theorem mi_nat9 {a b : Nat} (h : a ≤ 8) (h2 : 1000 ≤ b) : 2 * 0 + a + (nativeFrameWords "java/lang/System" "arraycopy" 5 + 11) ≤ b := by
  have : nativeFrameWords "java/lang/System" "arraycopy" 5 ≤ 900 := by decide
  omega
theorem sm_acopy {g : xe_G} {own : String} {cc : ByteArray} {nL : Nat} {ini : Bool} {pc : Nat} {i : Nat} (w1 : Cond.methodLink own i arraycopyName ∈ bg) (w2 : Cond.native arraycopyName ∈ bg) (w3 : Cond.static arraycopyName ∈ bg) (w4 : Cond.initialized "java/lang/System" ∈ bg) (hd : decode cc pc = .ok (.invokestatic i, 3)) : mi_sim g own cc nL ini pc o_acopy := by
  intro lv st M S' h
  unfold o_acopy at h
  dsimp only at h
  split at h
  · rename_i n dp a sp a0 rest
    split at h
    · rename_i r0 hga0
      split at h
      · rename_i r1 hga1
        split at h
        · rename_i hco
          cases h
          refine ⟨⟨Nat.le_refl _, Nat.le_refl _⟩, ?_⟩
          intro D p l e R s m args below meth c A n0 s0 Q hc hn0 hs0 hR1 hR2 hW H locs ls ws tys hr hl hS
          obtain ⟨hx, hb, hml, hown, htb, hE, hini, hA, hK0, hfr, hlo⟩ := hc
          obtain ⟨hne, p0, p1, hsp, hdp, hnn, h4, h5, hst8, hfb⟩ := hco
          obtain ⟨hM0, ⟨q0, c0, y0, t0, h1, h2, ⟨h3, h7⟩, -⟩ | ⟨-, -, h0⟩⟩ := mi_ga_in hr hga0
          · obtain ⟨hM1, ⟨q1, c1, y1, t1, k1, k2, ⟨k3, k7⟩, k5⟩ | ⟨-, -, h0⟩⟩ := mi_ga_in hr hga1
            · obtain ⟨n0', x0⟩ := y0
              obtain ⟨n1', x1⟩ := y1
              obtain ⟨n0'', f0⟩ := r0
              obtain ⟨n1'', f1⟩ := r1
              dsimp only at h3 h7 k3 k7 h4 h5 hfb k5 p0 p1
              subst h3
              subst k3
              rcases h7 with ⟨-, hf0, rfl, hv0⟩ | ⟨h9, -⟩ | ⟨⟨C9, h9⟩, -⟩
              · rcases k7 with ⟨-, hf1, rfl, hv1⟩ | ⟨h9, -⟩ | ⟨⟨C9, h9⟩, -⟩
                · have hfit : ∀ i, i < n.toNatClampNeg → f0 (sp.toNatClampNeg + i) = some (.int (hf0 (sp.toNatClampNeg + i))) ∧ fits .byte (.int (hf0 (sp.toNatClampNeg + i))) = true := by
                    intro i hi
                    have h6 := List.all_eq_true.mp hfb i (List.mem_range.mpr hi)
                    unfold mi_fb at h6
                    split at h6
                    · rename_i v hv
                      have h8 := hv0 _ _ hv
                      subst h8
                      exact ⟨hv, h6⟩
                    · cases h6
                  intro T hT X
                  have hc0 : H[a0]? = some (vp_cell c0 (n0', .inl hf0)) := hr.2.1 q0 _ h1
                  have hc1 : H[a]? = some (vp_cell c1 (n1', .inl hf1)) := hr.2.1 q1 _ k1
                  obtain ⟨-, kk0, hk0, cm0, hkk0⟩ := (hr.1.2 t0 _ h2).1 n0' (fun j => .int (hf0 j))
                  obtain ⟨-, kk1, hk1, cm1, hkk1⟩ := (hr.1.2 t1 _ k2).1 n1' (fun j => .int (hf1 j))
                  obtain ⟨vm', X', step⟩ := X.arraycopy hx hown (htb _ w1) (htb _ w2) (htb _ w3) (htb _ w4) (src := a0) (dst := a) (cs := vp_cell c0 (n0', .inl hf0)) (cd := vp_cell c1 (n1', .inl hf1)) (srcPos := sp) (destPos := dp) (n := n) (by rw [hT]; exact hc0) (by rw [hT]; exact hc1)
                    (fun _ h => by cases h) (fun _ h => by cases h) (fun h => by cases h) (fun h => by cases h) hk0 hk1 hkk0 hkk1 (by simp [refKind]) hsp hdp hnn
                    (by rw [mi_nn sp hsp, mi_nn n hnn]; show ¬ _ > ((arrV c0 n0' (fun j => .int (hf0 j))).slots.size : Int); rw [arrV_size]; omega)
                    (by rw [mi_nn dp hdp, mi_nn n hnn]; show ¬ _ > ((arrV c1 n1' (fun j => .int (hf1 j))).slots.size : Int); rw [arrV_size]; omega)
                    (fun vm₁ _ i hi => by
                      have e : (vp_cell c0 (n0', .inl hf0)).slots.getD (sp.toNatClampNeg + i) .null = .int (hf0 (sp.toNatClampNeg + i)) := by
                        show (arrV c0 n0' (fun j => .int (hf0 j))).slots.getD _ _ = _
                        rw [Array.getD_eq_getD_getElem?, arrV_read _ _ (by omega)]
                        rfl
                      refine ⟨?_, ?_⟩
                      · rw [e]
                        exact (hfit i hi).2
                      · rw [e]
                        exact trivial)
                    (g := F0 m pc ls (.int n :: .int dp :: .ref a :: .int sp :: .ref a0 :: rest)) rfl (by rw [hml]; exact hl.1) (rest := rest) rfl (by rw [hb]; exact hd) (by omega) (mi_nat9 hst8 hlo)
                  have e1 : copied (vp_cell c0 (n0', .inl hf0)) (vp_cell c1 (n1', .inl hf1)) sp dp n = vp_cell c1 (n1', .inl (va_cpy hf0 hf1 sp.toNatClampNeg dp.toNatClampNeg n.toNatClampNeg)) := va_copied (fun z => .int z) c0 c1 hf0 hf1 h4
                  rw [e1] at X' step
                  have hlt : a < H.size := (Array.getElem?_eq_some_iff.mp hc1).1
                  have hheap : ((T.setVm vm').setCell a (vp_cell c1 (n1', .inl (va_cpy hf0 hf1 sp.toNatClampNeg dp.toNatClampNeg n.toNatClampNeg)))).heap = H.setIfInBounds a (vp_cell c1 (n1', .inl (va_cpy hf0 hf1 sp.toNatClampNeg dp.toNatClampNeg n.toNatClampNeg))) := by rw [← hT]; rfl
                  generalize hH1 : H.setIfInBounds a (vp_cell c1 (n1', .inl (va_cpy hf0 hf1 sp.toNatClampNeg dp.toNatClampNeg n.toNatClampNeg))) = H1 at hheap
                  have z : H1.size = H.size := by rw [← hH1]; simp
                  have oq : ∀ q : Nat, q ≠ a → H1[q]? = H[q]? := fun q hq => by rw [← hH1]; simp [Array.getElem?_setIfInBounds, Ne.symm hq]
                  have hat : H1[a]? = some (vp_cell c1 (n1', .inl (va_cpy hf0 hf1 sp.toNatClampNeg dp.toNatClampNeg n.toNatClampNeg))) := by rw [← hH1]; simp [Array.getElem?_setIfInBounds, hlt]
                  have hA9 : A a := hr.2.2.1.2 q1 _ k1
                  have hct : ∀ (j : Nat) (w : Value), va_cpy f0 f1 sp.toNatClampNeg dp.toNatClampNeg n.toNatClampNeg j = some w → w = .int (va_cpy hf0 hf1 sp.toNatClampNeg dp.toNatClampNeg n.toNatClampNeg j) := by
                    intro j w hj
                    unfold va_cpy at hj ⊢
                    split at hj
                    · rename_i hjj
                      rw [if_pos hjj]
                      exact hv0 _ _ hj
                    · rename_i hjj
                      rw [if_neg hjj]
                      exact hv1 _ _ hj
                  obtain ⟨t, a1, b1⟩ := hW H1 _ ls (ws.set q1 (a, .inl (c1, n1', .inl (va_cpy hf0 hf1 sp.toNatClampNeg dp.toNatClampNeg n.toNatClampNeg)))) tys (hr.put k1 ⟨k5.1, fun o9 h9 => by cases h9⟩ ⟨c1, _, rfl, List.mem_of_getElem? k2, rfl, Or.inl ⟨by simp, _, rfl, hct⟩⟩ hat z oq) hl ⟨Nat.le_trans hS.1 (Nat.le_of_eq z.symm), fun q g1 g2 => by
                      rw [oq q (fun e => g2 (by rw [e]; exact hA9))]
                      exact hS.2.1 q g1 g2, fun q hq => by
                      rcases List.mem_append.mp hq with h | h
                      · exact hS.2.2 q h
                      · obtain ⟨z, -, hz⟩ := List.mem_map.mp h
                        rw [← hz]
                        exact hA9⟩ _ hheap X'
                  exact ⟨t, step t a1, b1⟩
                · cases h9
                · cases h9
              · cases h9
              · cases h9
            · exact absurd p1 (by rw [h0]; exact Nat.lt_irrefl 0)
          · exact absurd p0 (by rw [h0]; exact Nat.lt_irrefl 0)
        · cases h
      · cases h
    · cases h
  · cases h
theorem sm_ldcSw {g : xe_G} {own : String} {cc : ByteArray} {nL : Nat} {ini : Bool} {pc : Nat} {i k9 : Nat} (hk : k9 < xe_N) (h1 : (xe_lt k9).1 = own) (h2 : (xe_lt k9).2.1 = i) (hd : decode cc pc = .ok (.ldc_w i, 3)) : mi_ps g own cc nL ini pc (o_push (.ref (g.2.1 k9)) 3) := by
  intro lv st M S' h
  cases h
  refine ⟨rfl, rfl, ?_⟩
  intro D p l e R s m args below meth c A Q H locs ls cells slots ws tys hc hr hl hS hR1 hR2 k
  obtain ⟨hx, hb, hml, hown, htb, hE, hini, hA, hK0, hfr, hlo⟩ := hc
  have h9 := (hE.2.2.2.2.2.2.1 k9 hk).1
  rw [h1, h2] at h9
  intro T hT X
  obtain ⟨t, a1, b1⟩ := k T hT X
  exact ⟨t, X.ldcStringW hx hown (text := (xe_lt k9).2.2.1) (a := g.2.1 k9) h9.1 h9.2 (g := F0 m pc ls st) rfl (by rw [hb]; exact hd) t a1, b1⟩
def mi_cz (v : Int32) : Bool := decide (v = 0) || decide (v = 1)
theorem mi_cz_ok : ∀ v, mi_cz v = true → narrow .boolean (.int v) = .int v := by
  intro v h
  unfold mi_cz at h
  rcases Bool.or_eq_true_iff.mp h with h | h
  · have h := of_decide_eq_true h
    subst h
    rfl
  · have h := of_decide_eq_true h
    subst h
    rfl
def mi_cc (v : Int32) : Bool := decide (narrow .char (.int v) = .int v)
theorem mi_cc_ok : ∀ v, mi_cc v = true → narrow .char (.int v) = .int v := fun v h => of_decide_eq_true h
/-! tables as trees by pc -/
def mt_leaf (k : Nat) (e : mi_N) : Nat → Option mi_N := fun pc => cond (Nat.beq pc k) (some e) none
def mt_node (k : Nat) (a b : Nat → Option mi_N) : Nat → Option mi_N := fun pc => cond (Nat.ble pc k) (a pc) (b pc)
def mk_leaf (k : Nat) (e : List Nat) : Nat → Option (List Nat) := fun pc => cond (Nat.beq pc k) (some e) none
def mk_node (k : Nat) (a b : Nat → Option (List Nat)) : Nat → Option (List Nat) := fun pc => cond (Nat.ble pc k) (a pc) (b pc)
def mn_node {α : Type} (k : Nat) (a b : Nat → α) : Nat → α := fun y => cond (Nat.ble y k) (a y) (b y)
def mt_all (P : Nat → mi_N → Prop) (t : Nat → Option mi_N) : Prop := ∀ pc e, t pc = some e → P pc e
theorem mt_leaf_ok {P : Nat → mi_N → Prop} {k : Nat} {e : mi_N} (h : P k e) : mt_all P (mt_leaf k e) := by
  intro pc e' he
  unfold mt_leaf at he
  cases hb : Nat.beq pc k with
  | false => rw [hb] at he; cases he
  | true =>
    rw [hb] at he
    cases he
    rw [Nat.eq_of_beq_eq_true hb]
    exact h
theorem mt_node_ok {P : Nat → mi_N → Prop} {k : Nat} {a b : Nat → Option mi_N} (ha : mt_all P a) (hb : mt_all P b) : mt_all P (mt_node k a b) := by
  intro pc e' he
  unfold mt_node at he
  cases hc : Nat.ble pc k with
  | false => rw [hc] at he; exact hb pc e' he
  | true => rw [hc] at he; exact ha pc e' he
theorem en_o {g : xe_G} {I : Nat → mi_I} {q : mi_I} {pc : Nat} {o : mi_O} (h : mi_ps g q.1.cls q.2.1 q.2.2.1 (q.1.name == "<init>") pc o) : mi_ent g I q pc (.inl o) := h.sim
theorem en_s {g : xe_G} {I : Nat → mi_I} {q : mi_I} {pc : Nat} {o : mi_O} (h : mi_sim g q.1.cls q.2.1 q.2.2.1 (q.1.name == "<init>") pc o) : mi_ent g I q pc (.inl o) := h
end MIT
