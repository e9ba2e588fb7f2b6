/-! the law: both sides over one heap (my own text) -/
section LW3
/-- the class's cells, the reference's, the row out -/
def L3 (g : xe_G) (D : va_G) (A : Nat → Prop) (s : State) (x m0 : Nat) (q : Nat → Nat) (kr : rR) (Ic : rI) (Rc : rR) (qo : Nat) (aO : ClassId) (X : mi_H → Prop) (cc cr : GH) (fed P : Nat) (fo : Nat → Int64) (H : Heap) : Prop := ∃ (Mc Mr : mi_H) (wc wr : va_W) (tc tr : List (ClassId × FieldType)),
  mi_rel g D A s Mc H wc tc ∧ mi_rel g D A s Mr H wr tr ∧ GATX g x cc fed P Mc ∧ REFX g m0 q Mr.2 kr Ic Rc cr Mr ∧ X Mr ∧ va_P D vwCl (oW qo aO fo) H ∧ (∀ a, lown g Mc a → ¬ lown g Mr a) ∧ ¬ lown g Mc qo ∧ ¬ lown g Mr qo
abbrev mT1 : mi_H → Prop := fun _ => True
variable {g : xe_G} {D : va_G} {A : Nat → Prop} {s : State} {x m0 : Nat} {q : Nat → Nat} {kr : rR} {Ic : rI} {Rc : rR} {qo : Nat} {aO : ClassId} {X X' : mi_H → Prop} {cc cr cc' cr' : GH} {fed P fed' P' : Nat} {fo fo' : Nat → Int64} {H H1 : Heap}
variable {Mc Mr Mc' Mr' : mi_H} {wc wr wc' wr' : va_W} {tc tr tc' tr' : List (ClassId × FieldType)}
theorem l3_cls (hc : mi_rel g D A s Mc H wc tc) (hr : mi_rel g D A s Mr H wr tr) (hR : REFX g m0 q Mr.2 kr Ic Rc cr Mr) (d1 : ∀ a, lown g Mc a → ¬ lown g Mr a) (d2 : ¬ lown g Mc qo) (d3 : ¬ lown g Mr qo) (hqo : qo < H.size) (hF : ∀ q, mi_A g Mc q → A q)
    (hc' : mi_rel g D (mi_A g Mc) s Mc' H1 wc' tc') (hG : GATX g x cc' fed' P' Mc') (hz : H.size ≤ H1.size) (hk : ∀ a, a < H.size → ¬ lh_A g Mc qo a → H1[a]? = H[a]?) (ho : va_P D vwCl (oW qo aO fo') H1) : L3 g D A s x m0 q kr Ic Rc qo aO mT1 cc' cr fed' P' fo' H1 := by
  have hsz := hc.2.2.2.1
  refine ⟨Mc', (Mr.1, H1.size, Mr.2.2), wc', wr, tc', tr, hc'.wide hF, mi_rel.frame hr (fun a ha => hk a (hr.lt ha).1 (fun h9 => ?_)), hG, REFX.room hR, trivial, ho, fun a h1 h2 => ?_, fun h1 => ?_, d3⟩
  · rcases h9 with (h8 | h8) | h8
    · exact d1 a h8 ha
    · have := (hr.lt ha).1
      omega
    · exact d3 (h8 ▸ ha)
  · have h3 : lown g Mr a := h2
    rcases (hc'.lt h1).2 with h8 | h8
    · exact d1 a h8 h3
    · have := (hr.lt h3).1
      omega
  · rcases (hc'.lt h1).2 with h8 | h8
    · exact d2 h8
    · omega
theorem l3_ref (hc : mi_rel g D A s Mc H wc tc) (hr : mi_rel g D A s Mr H wr tr) (hG : GATX g x cc fed P Mc) (d1 : ∀ a, lown g Mc a → ¬ lown g Mr a) (d2 : ¬ lown g Mc qo) (d3 : ¬ lown g Mr qo) (hF : ∀ q, mi_A g Mr q → A q)
    (hr' : mi_rel g D (mi_A g Mr) s Mr' H1 wr' tr') (hR' : REFX g m0 q Mr.2 kr Ic Rc cr' Mr') (hX : X' Mr') (hk : ∀ a, a < H.size → ¬ mi_A g Mr a → H1[a]? = H[a]?) (ho : va_P D vwCl (oW qo aO fo) H) : L3 g D A s x m0 q kr Ic Rc qo aO X' cc cr' fed P fo H1 := by
  have hsr := hr.2.2.2.1
  have hsc := hc.2.2.2.1
  have hM2 : Mr'.2 = Mr.2 := hR'.z
  have e1 : H1.size = H.size := by rw [hr'.2.2.2.1, hsr, hM2]
  have hqo := oW.lt ho
  have h := mi_rel.frame (H1 := H1) hc (fun a ha => hk a (hc.lt ha).1 (fun h9 => h9.elim (d1 a ha) (fun h8 => by have := (hc.lt ha).1; omega)))
  rw [show ((Mc.1, H1.size, Mc.2.2) : mi_H) = Mc from by rw [e1, hsc]] at h
  refine ⟨Mc, Mr', wc, wr', tc, tr', h, hr'.wide hF, hG, by rw [hM2]; exact hR', hX, oW.kept ho (hk qo hqo (fun h9 => h9.elim d3 (fun h8 => by omega))), fun a h1 h2 => ?_, d2, fun h1 => ?_⟩
  · rcases (hr'.lt h2).2 with h8 | h8
    · exact d1 a h1 h8
    · have := (hc.lt h1).1
      omega
  · rcases (hr'.lt h1).2 with h8 | h8
    · exact d3 h8
    · omega
/-- what a helper of the law promises -/
def HP (l : Launch) (g : xe_G) (D : va_G) (x qo : Nat) (aO : ClassId) (yh : MethodName) (bytes : ByteArray) (maxL : Nat) (hh : List (Nat × Nat × Nat × Nat)) (av : List Value) (cc' : GH) (fed' P S : Nat) (V : Int32 → Int64 → Prop) (M : mi_H) : Prop :=
  ∃ (rm : Room) (post : Int32 → mi_H → Int64 → Prop), Met l yh (.codeWith yh bytes maxL (some .int) hh :: bg) rm (lh_Pre g D M qo aO av) (lh_Q g D M qo aO post) rm.cells rm.slots (lh_A g M qo) ∧ rm.frames ≤ 60 ∧ rm.locals ≤ 4000 ∧ rm.cells ≤ 160000 ∧ rm.slots ≤ 160000 + S ∧
    ∀ r M' v, post r M' v → V r v ∧ ∃ P', P ≤ P' ∧ GATX g x cc' fed' P' M' ∧ rm.cells + P ≤ P' + 26 ∧ rm.slots + P ≤ P' + S
end LW3
section LWC
variable {p : Program} {l : Launch} {e : Env} {s : State} {m : MethodId} {below : List Frame} {meth : Method} {c : Code} {A : Nat → Prop} {b : Nat} {D : va_G} {g : xe_G} {x m0 qo : Nat} {aO : ClassId} {q : Nat → Nat} {kr : rR} {Ic : rI} {Rc : rR} {X X' : mi_H → Prop}
variable {cc cr cc' cr' : GH} {fed P fed' S cells slots pc y n idx : Nat} {fo : Nat → Int64} {H : Heap} {locs : List Loc} {ls : Array Slot} {Q : State → Prop} {qm : mi_I} {As st0 : List Value} {V : Option Value → Prop}
/-- a call of the class -/
theorem lc_cls (hx : p.tables.exec = Jvm.exec) (hb : c.code = cL_law) (hml : c.maxLocals = 7) (hown : s.vm.findClass RL = some m.cls) (htb : ∀ w ∈ bg, w.before #[Value.ref b] s = true) (hA : ∀ q : Nat, s.heap.size ≤ q → A q) (hE : xe_E g A s s.heap) (hqy : mI y = qm) (w1 : Cond.methodLink RL idx qm.1 ∈ bg) (w2 : Cond.instanceMethod qm.1 ∈ bg) (w3 : Cond.selects RX11 qm.1 qm.1 ∈ bg) (w4 : Cond.initialized qm.1.cls ∈ bg) (w5 : Cond.code qm.1 qm.2.1 qm.2.2.1 qm.2.2.2 ∈ bg) (hhd : mi_hd qm.1 n) (h21 : qm.2.2.1 ≤ 21) (hd : decode cL_law pc = .ok (.invokevirtual idx, 3)) (hn : As.length = n) (hst : st0 = As.reverse ++ .ref x :: [])
    (h3 : L3 g D A s x m0 q kr Ic Rc qo aO X cc cr fed P fo H) (hS : va_S A s.heap H locs) (hl1 : ls.size = 7) (hmt : ∀ M, GATX g x cc fed P M → mt (mT g) 16 y (.ref x :: As) M (fun v M' => V v ∧ GPX g x P cc' fed' 26 S M M')) (hc : cells + 160000 ≤ 601024) (hs : slots + 160000 + S ≤ 7293034)
    (kk : ∀ (v : Option Value) (P1 : Nat) (H1 : Heap) (locs1 : List Loc), V v → P ≤ P1 → L3 g D A s x m0 q kr Ic Rc qo aO mT1 cc' cr fed' P1 fo H1 → va_S A s.heap H1 locs1 → W p l e room_1 s m #[Value.ref b] below meth c H1 locs1 (cells + (P1 - P) + 26) (slots + (P1 - P) + S) Q (F0 m (pc + 3) ls (v.toList ++ []))) :
    W p l e room_1 s m #[Value.ref b] below meth c H locs cells slots Q (F0 m pc ls st0) := by
  obtain ⟨Mc, Mr, wc, wr, tc, tr, h1, h2, hG, hR, -, ho, d1, d2, d3⟩ := h3
  obtain ⟨v, M', hM, hV, P', hP, hG', g1, g2⟩ := (hmt Mc hG).met (l := l)
  obtain ⟨m1, m2, hMet⟩ := hM
  rw [hqy] at hMet
  have hMet := hMet D
  obtain ⟨F, hx0, -⟩ := hG.cell
  obtain ⟨q0, fs, hq0, -⟩ := mi_obj h1 (show 11 < 100 by decide) hx0
  have hF := mi_A_sub h1 hS hA
  have hpot := hG'.pot
  have hqA : ¬ mi_A g Mc qo := fun h9 => h9.elim d2 (fun h8 => by have h7 := oW.lt ho; have h6 := h1.2.2.2.1; omega)
  refine mi_goF (A := A) (va_runV (As := As) (rest := []) (C := RX11) ⟨hx, hb, hml, hown, htb⟩ hMet (bg_V n htb w1 w2 w3 w4 w5 rfl rfl hhd ⟨by show 16 + 8 + 1 ≤ 2048; decide, by show 8 + (qm.2.2.1 + 11) + (40 * 16 + 1000) ≤ 84000; omega⟩) ⟨mi_blind, va_recv h1.1 h1.2.1 (ci := 11) (q0 := q0) rfl hq0, mi_enter h1 hS hA hE⟩ rfl hn hl1 hst (lv_room (Nat.le_of_ble_eq_true rfl)) hd ⟨by show cells + (M'.2.1 - Mc.2.1) ≤ 601024; omega, by show slots + (M'.2.2 - Mc.2.2) ≤ 7293034; omega⟩) hF hS (fun H1 locs1 ws1 tys1 hr1 hz hk hS1 => ?_)
  refine W.widen (k := cells + (P' - P) + 26) (n := slots + (P' - P) + S) (by omega) (by omega) ?_
  exact kk v P' H1 locs1 hV hP (l3_cls h1 h2 hR d1 d2 d3 (oW.lt ho) hF hr1 hG' hz (fun a a1 a2 => hk a a1 (fun a3 => a2 (Or.inl a3))) (oW.kept ho (hk qo (oW.lt ho) hqA))) hS1
/-- a call of the reference -/
theorem lc_ref {rest : List Value} (hrs : (rest.map fun v => v.category).sum ≤ 8) (hx : p.tables.exec = Jvm.exec) (hb : c.code = cL_law) (hml : c.maxLocals = 7) (hown : s.vm.findClass RL = some m.cls) (htb : ∀ w ∈ bg, w.before #[Value.ref b] s = true) (hA : ∀ q : Nat, s.heap.size ≤ q → A q) (hE : xe_E g A s s.heap) (hqy : mI y = qm) (w1 : Cond.methodLink RL idx qm.1 ∈ bg) (w2 : Cond.instanceMethod qm.1 ∈ bg) (w3 : Cond.selects RX12 qm.1 qm.1 ∈ bg) (w4 : Cond.initialized qm.1.cls ∈ bg) (w5 : Cond.code qm.1 qm.2.1 qm.2.2.1 qm.2.2.2 ∈ bg) (hhd : mi_hd qm.1 n) (h21 : qm.2.2.1 ≤ 21) (hd : decode cL_law pc = .ok (.invokevirtual idx, 3)) (hn : As.length = n) (hst : st0 = As.reverse ++ .ref m0 :: rest)
    (h3 : L3 g D A s x m0 q kr Ic Rc qo aO X cc cr fed P fo H) (hS : va_S A s.heap H locs) (hl1 : ls.size = 7) (hmt : ∀ M, REFX g m0 q M.2 kr Ic Rc cr M → X M → mt (mT g) 16 y (.ref m0 :: As) M (fun v M' => V v ∧ REFX g m0 q M.2 kr Ic Rc cr' M' ∧ X' M')) (hc : cells ≤ 601024) (hs : slots ≤ 7293034)
    (kk : ∀ (v : Option Value) (H1 : Heap) (locs1 : List Loc), V v → L3 g D A s x m0 q kr Ic Rc qo aO X' cc cr' fed P fo H1 → va_S A s.heap H1 locs1 → W p l e room_1 s m #[Value.ref b] below meth c H1 locs1 cells slots Q (F0 m (pc + 3) ls (v.toList ++ rest))) :
    W p l e room_1 s m #[Value.ref b] below meth c H locs cells slots Q (F0 m pc ls st0) := by
  obtain ⟨Mc, Mr, wc, wr, tc, tr, h1, h2, hG, hR, hXr, ho, d1, d2, d3⟩ := h3
  obtain ⟨v, M', hM, hV, hR', hX'⟩ := (hmt Mr hR hXr).met (l := l)
  obtain ⟨m1, m2, hMet⟩ := hM
  rw [hqy] at hMet
  have hMet := hMet D
  have hz2 : M'.2 = Mr.2 := hR'.z
  have e1 : M'.2.1 = Mr.2.1 := by rw [hz2]
  have e2 : M'.2.2 = Mr.2.2 := by rw [hz2]
  obtain ⟨F, hx0⟩ := hR.cell
  obtain ⟨q0, fs, hq0, -⟩ := mi_obj h2 (show 12 < 100 by decide) hx0
  have hF := mi_A_sub h2 hS hA
  refine mi_goF (A := A) (va_runV (As := As) (rest := rest) (C := RX12) ⟨hx, hb, hml, hown, htb⟩ hMet (bg_V n htb w1 w2 w3 w4 w5 rfl rfl hhd ⟨by show 16 + 8 + 1 ≤ 2048; decide, by show 8 + (qm.2.2.1 + 11) + (40 * 16 + 1000) ≤ 84000; omega⟩) ⟨mi_blind, va_recv h2.1 h2.2.1 (ci := 12) (q0 := q0) rfl hq0, mi_enter h2 hS hA hE⟩ rfl hn hl1 hst (lv_room hrs) hd ⟨by show cells + (M'.2.1 - Mr.2.1) ≤ 601024; omega, by show slots + (M'.2.2 - Mr.2.2) ≤ 7293034; omega⟩) hF hS (fun H1 locs1 ws1 tys1 hr1 hz hk hS1 => ?_)
  refine W.widen (k := cells) (n := slots) (by omega) (by omega) ?_
  exact kk v H1 locs1 hV (l3_ref h1 h2 hG d1 d2 d3 hF hr1 hR' hX' hk ho) hS1
/-- a call of a helper -/
theorem lc_hlp {yh : MethodName} {bytes : ByteArray} {maxL : Nat} {hh : List (Nat × Nat × Nat × Nat)} {av : List Value} {V : Int32 → Int64 → Prop} (hx : p.tables.exec = Jvm.exec) (hb : c.code = cL_law) (hml : c.maxLocals = 7) (hown : s.vm.findClass RL = some m.cls) (htb : ∀ w ∈ bg, w.before #[Value.ref b] s = true) (hA : ∀ q : Nat, s.heap.size ≤ q → A q) (hE : xe_E g A s s.heap) (w1 : Cond.methodLink RL idx yh ∈ bg) (w2 : Cond.static yh ∈ bg) (w4 : Cond.initialized yh.cls ∈ bg) (w5 : Cond.codeWith yh bytes maxL (some .int) hh ∈ bg) (hhd : mi_hd yh n) (h21 : maxL ≤ 21) (hd : decode cL_law pc = .ok (.invokestatic idx, 3)) (hn : av.length = n) (hst : st0 = av.reverse ++ [])
    (h3 : L3 g D A s x m0 q kr Ic Rc qo aO X cc cr fed P fo H) (hS : va_S A s.heap H locs) (hl1 : ls.size = 7) (hKo : va_K D vwCl [(aO, .long)] s) (hAo : A qo) (hH : ∀ M, GATX g x cc fed P M → HP l g D x qo aO yh bytes maxL hh av cc' fed' P S V M) (hc : cells + 160000 ≤ 601024) (hs : slots + 160000 + S ≤ 7293034)
    (kk : ∀ (r : Int32) (P1 : Nat) (fo1 : Nat → Int64) (H1 : Heap) (locs1 : List Loc), V r (fo1 0) → P ≤ P1 → L3 g D A s x m0 q kr Ic Rc qo aO mT1 cc' cr fed' P1 fo1 H1 → va_S A s.heap H1 locs1 → W p l e room_1 s m #[Value.ref b] below meth c H1 locs1 (cells + (P1 - P) + 26) (slots + (P1 - P) + S) Q (F0 m (pc + 3) ls [.int r])) :
    W p l e room_1 s m #[Value.ref b] below meth c H locs cells slots Q (F0 m pc ls st0) := by
  obtain ⟨Mc, Mr, wc, wr, tc, tr, h1, h2, hG, hR, -, ho, d1, d2, d3⟩ := h3
  obtain ⟨rm, post, hMet, r1, r2, r3, r4, hpost⟩ := hH Mc hG
  have hF := mi_A_sub h1 hS hA
  have hF2 : ∀ a, lh_A g Mc qo a → A a := fun a h => h.elim (hF a) (fun h9 => h9 ▸ hAo)
  refine lh_goW (A := A) (vx_runSW (As := av) (rest := []) ⟨hx, hb, hml, hown, htb⟩ hMet (bg_SW n htb w1 w2 w4 w5 rfl rfl hhd ⟨by show rm.frames + 1 ≤ 2048; omega, by show 8 + (maxL + 11) + rm.locals ≤ 84000; omega⟩) ⟨lh_blind, lh_enter h1 hS hA hE ho hKo d2 hAo⟩ rfl hn hl1 hst (lv_room (Nat.le_of_ble_eq_true rfl)) hd ⟨by show cells + rm.cells ≤ 601024; omega, by show slots + rm.slots ≤ 7293034; omega⟩) hF2 hS (fun r M' fo1 H1 locs1 ws1 tys1 hp hr1 ho1 hz hk hS1 => ?_)
  obtain ⟨hV, P', hP, hG', g1, g2⟩ := hpost r M' (fo1 0) hp
  refine W.widen (k := cells + (P' - P) + 26) (n := slots + (P' - P) + S) (by omega) (by omega) ?_
  exact kk r P' fo1 H1 locs1 hV hP (l3_cls h1 h2 hR d1 d2 d3 (oW.lt ho) hF hr1 hG' hz hk ho1) hS1
end LWC
section LWB
variable {p : Program} {l : Launch} {e : Env} {R : Room} {s : State} {m : MethodId} {args : Array Value} {below : List Frame} {meth : Method} {c : Code} {H : Heap} {locs : List Loc} {cells slots : Nat} {Q : State → Prop} {pc : Nat} {ls : Array Slot} {rest : List Value} {cc : ByteArray}
theorem lw_boolx {v : Int32} (hx : p.tables.exec = Jvm.exec) (hb : c.code = cc) (d0 : decode cc pc = .ok (.ifCond .eq 7, 3)) (d3 : decode cc (pc + 3) = .ok (.iconst 1, 1)) (d4 : decode cc (pc + 4) = .ok (.goto 4, 3)) (d7 : decode cc (pc + 7) = .ok (.iconst 0, 1))
    (kk : W p l e R s m args below meth c H locs cells slots Q (F0 m (pc + 8) ls (.int (bz v) :: rest))) : W p l e R s m args below meth c H locs cells slots Q (F0 m pc ls (.int v :: rest)) := by
  refine lv_if_eq (tgt := pc + 7) hx hb d0 (by omega) (fun h => ?_) (fun h => ?_)
  · have e9 : bz v = 0 := if_pos h
    rw [e9] at kk
    exact lv_iconst (v := 0) hx hb d7 (by decide) kk
  · have e9 : bz v = 1 := if_neg h
    rw [e9] at kk
    refine lv_iconst (v := 1) hx hb d3 (by decide) ?_
    exact lv_goto (tgt := pc + 8) hx hb d4 (by omega) kk
theorem lg_self (x : Int64) : lg_cmp x x = 0 := by simp [lg_cmp]
end LWB
