/-! cases of the law (laid by wip/p2/c92.py) -/
theorem dl_120 : decode cL_law 120 = .ok (.aload_n 1, 1) := by decide +kernel
theorem dl_121 : decode cL_law 121 = .ok (.aload_n 0, 1) := by decide +kernel
theorem dl_122 : decode cL_law 122 = .ok (.iload 4, 2) := by decide +kernel
theorem dl_124 : decode cL_law 124 = .ok (.iconst 1, 1) := by decide +kernel
theorem dl_125 : decode cL_law 125 = .ok (.iadd, 1) := by decide +kernel
theorem dl_126 : decode cL_law 126 = .ok (.iaload, 1) := by decide +kernel
theorem dl_127 : decode cL_law 127 = .ok (.aload_n 0, 1) := by decide +kernel
theorem dl_128 : decode cL_law 128 = .ok (.iload 4, 2) := by decide +kernel
theorem dl_130 : decode cL_law 130 = .ok (.iconst 2, 1) := by decide +kernel
theorem dl_131 : decode cL_law 131 = .ok (.iadd, 1) := by decide +kernel
theorem dl_132 : decode cL_law 132 = .ok (.iaload, 1) := by decide +kernel
theorem dl_133 : decode cL_law 133 = .ok (.aload_n 0, 1) := by decide +kernel
theorem dl_134 : decode cL_law 134 = .ok (.iload 4, 2) := by decide +kernel
theorem dl_136 : decode cL_law 136 = .ok (.iconst 3, 1) := by decide +kernel
theorem dl_137 : decode cL_law 137 = .ok (.iadd, 1) := by decide +kernel
theorem dl_138 : decode cL_law 138 = .ok (.iaload, 1) := by decide +kernel
theorem dl_139 : decode cL_law 139 = .ok (.aload_n 0, 1) := by decide +kernel
theorem dl_140 : decode cL_law 140 = .ok (.iload 4, 2) := by decide +kernel
theorem dl_142 : decode cL_law 142 = .ok (.iconst 4, 1) := by decide +kernel
theorem dl_143 : decode cL_law 143 = .ok (.iadd, 1) := by decide +kernel
theorem dl_144 : decode cL_law 144 = .ok (.iaload, 1) := by decide +kernel
theorem dl_145 : decode cL_law 145 = .ok (.aload_n 0, 1) := by decide +kernel
theorem dl_146 : decode cL_law 146 = .ok (.iload 4, 2) := by decide +kernel
theorem dl_148 : decode cL_law 148 = .ok (.iconst 5, 1) := by decide +kernel
theorem dl_149 : decode cL_law 149 = .ok (.iadd, 1) := by decide +kernel
theorem dl_150 : decode cL_law 150 = .ok (.iaload, 1) := by decide +kernel
theorem dl_151 : decode cL_law 151 = .ok (.aload_n 3, 1) := by decide +kernel
theorem dl_152 : decode cL_law 152 = .ok (.invokestatic 43, 3) := by decide +kernel
theorem dl_155 : decode cL_law 155 = .ok (.istore 5, 2) := by decide +kernel
theorem dl_157 : decode cL_law 157 = .ok (.aload_n 2, 1) := by decide +kernel
theorem dl_158 : decode cL_law 158 = .ok (.aload_n 0, 1) := by decide +kernel
theorem dl_159 : decode cL_law 159 = .ok (.iload 4, 2) := by decide +kernel
theorem dl_161 : decode cL_law 161 = .ok (.iconst 1, 1) := by decide +kernel
theorem dl_162 : decode cL_law 162 = .ok (.iadd, 1) := by decide +kernel
theorem dl_163 : decode cL_law 163 = .ok (.iaload, 1) := by decide +kernel
theorem dl_164 : decode cL_law 164 = .ok (.aload_n 0, 1) := by decide +kernel
theorem dl_165 : decode cL_law 165 = .ok (.iload 4, 2) := by decide +kernel
theorem dl_167 : decode cL_law 167 = .ok (.iconst 2, 1) := by decide +kernel
theorem dl_168 : decode cL_law 168 = .ok (.iadd, 1) := by decide +kernel
theorem dl_169 : decode cL_law 169 = .ok (.iaload, 1) := by decide +kernel
theorem dl_170 : decode cL_law 170 = .ok (.aload_n 0, 1) := by decide +kernel
theorem dl_171 : decode cL_law 171 = .ok (.iload 4, 2) := by decide +kernel
theorem dl_173 : decode cL_law 173 = .ok (.iconst 3, 1) := by decide +kernel
theorem dl_174 : decode cL_law 174 = .ok (.iadd, 1) := by decide +kernel
theorem dl_175 : decode cL_law 175 = .ok (.iaload, 1) := by decide +kernel
theorem dl_176 : decode cL_law 176 = .ok (.aload_n 0, 1) := by decide +kernel
theorem dl_177 : decode cL_law 177 = .ok (.iload 4, 2) := by decide +kernel
theorem dl_179 : decode cL_law 179 = .ok (.iconst 4, 1) := by decide +kernel
theorem dl_180 : decode cL_law 180 = .ok (.iadd, 1) := by decide +kernel
theorem dl_181 : decode cL_law 181 = .ok (.iaload, 1) := by decide +kernel
theorem dl_182 : decode cL_law 182 = .ok (.aload_n 0, 1) := by decide +kernel
theorem dl_183 : decode cL_law 183 = .ok (.iload 4, 2) := by decide +kernel
theorem dl_185 : decode cL_law 185 = .ok (.iconst 5, 1) := by decide +kernel
theorem dl_186 : decode cL_law 186 = .ok (.iadd, 1) := by decide +kernel
theorem dl_187 : decode cL_law 187 = .ok (.iaload, 1) := by decide +kernel
theorem dl_188 : decode cL_law 188 = .ok (.invokevirtual 48, 3) := by decide +kernel
theorem dl_191 : decode cL_law 191 = .ok (.istore 6, 2) := by decide +kernel
theorem dl_193 : decode cL_law 193 = .ok (.goto 616, 3) := by decide +kernel
section LWD
variable {p : Program} {l : Launch} {e : Env} {s : State} {m : MethodId} {below : List Frame} {meth : Method} {c : Code} {A : Nat → Prop} {b L : Nat} {xs : Nat → Int32} {D : va_G} {g : xe_G} {x m0 qo : Nat} {aO : ClassId} {q : Nat → Nat} {kr : rR} {Ic : rI} {Rc : rR}
variable {cc : GH} {fed P cells slots : Nat} {fo : Nat → Int64} {H : Heap} {locs : List Loc} {ls : Array Slot} {Q : State → Prop} {i : Int32}
theorem L3.pot {X : mi_H → Prop} {cr : GH} (h : L3 g D A s x m0 q kr Ic Rc qo aO X cc cr fed P fo H) : P ≤ 156000 ∧ fed ≤ 512 ∧ cc.1 ≤ 20 * fed := by
  obtain ⟨Mc, Mr, wc, wr, tc, tr, h1, h2, hG, -⟩ := h
  have := hG.pot
  omega
theorem L3.out {X : mi_H → Prop} {cr : GH} (h : L3 g D A s x m0 q kr Ic Rc qo aO X cc cr fed P fo H) : va_P D vwCl (oW qo aO fo) H := by
  obtain ⟨Mc, Mr, wc, wr, tc, tr, h1, h2, hG, hR, -, ho, -⟩ := h
  exact ho
theorem ok_in {x1 : Int32} {cc : Nat} (h0 : ¬ x1 < 0) (h1 : x1 ≤ nI cc) (hc : cc < 1073741824) : 0 ≤ x1.toInt ∧ x1.toInt ≤ cc := by
  have h2 := Int32.le_iff_toInt_le.mp h1
  rw [nI_val hc] at h2
  have h3 := Int32.le_iff_toInt_le.mp (Int32.not_lt.mp h0)
  have h4 : (0 : Int32).toInt = 0 := rfl
  omega
theorem no_in {x1 : Int32} {cc : Nat} (h : x1 < 0 ∨ ¬ x1 ≤ nI cc) (hc : cc < 1073741824) : ¬ (0 ≤ x1.toInt ∧ x1.toInt ≤ cc) := by
  intro h1
  have h4 : (0 : Int32).toInt = 0 := rfl
  rcases h with h | h
  · have := Int32.lt_iff_toInt_lt.mp h
    omega
  · exact h (Int32.le_iff_toInt_le.mpr (by rw [nI_val hc]; exact h1.2))

set_option maxHeartbeats 4000000 in
set_option maxRecDepth 100000 in
theorem law_0 (hx : p.tables.exec = Jvm.exec) (hb : c.code = cL_law) (hml : c.maxLocals = 7) (hown : s.vm.findClass RL = some m.cls) (htb : ∀ w ∈ bg, w.before #[Value.ref b] s = true) (hA : ∀ q : Nat, s.heap.size ≤ q → A q) (hE : xe_E g A s s.heap) (hnt : l.stackTraces = false) (hX : va_X b L xs s s.heap) (hbl : b < s.heap.size) (hbA : ¬ A b) (hKo : va_K D vwCl [(aO, .long)] s) (hAo : A qo) (hi1 : vp_in (i + 1) L) (hi2 : vp_in (i + 2) L) (hi3 : vp_in (i + 3) L) (hi4 : vp_in (i + 4) L) (hi5 : vp_in (i + 5) L) (h3 : L3 g D A s x m0 q kr Ic Rc qo aO mT1 cc cc fed P fo H) (hfd : fed < 512) (hS : va_S A s.heap H locs) (hl : lv_has ls 7 [(0, .ref b), (1, .ref x), (2, .ref m0), (3, .ref qo), (4, .int i)]) (hc : cells + 320026 ≤ 601024) (hs : slots + 320064 + 40 * fed ≤ 7293034)
    (kk : ∀ (P1 : Nat) (cc1 : GH) (fo1 : Nat → Int64) (H1 : Heap) (locs1 : List Loc) (ls1 : Array Slot), P ≤ P1 → L3 g D A s x m0 q kr Ic Rc qo aO mT1 cc1 cc1 (fed + 1) P1 fo1 H1 → va_S A s.heap H1 locs1 → lv_has ls1 7 [(0, .ref b), (1, .ref x), (2, .ref m0), (3, .ref qo), (4, .int i)] → W p l e room_1 s m #[Value.ref b] below meth c H1 locs1 (cells + (P1 - P) + 26) (slots + (P1 - P) + (64)) Q (F0 m 809 ls1 [])) :
    W p l e room_1 s m #[Value.ref b] below meth c H locs cells slots Q (F0 m 120 ls []) := by
  have hpt := h3.pot
  refine lv_aload_n hx hb dl_120 rfl (lv_at hl 1 rfl) ?_
  refine lv_aload_n hx hb dl_121 rfl (lv_at hl 0 rfl) ?_
  refine lv_iload hx hb dl_122 (lv_at hl 4 rfl) ?_
  refine lv_iconst (v := 1) hx hb dl_124 (by decide) ?_
  refine lv_iadd hx hb dl_125 ?_
  refine va_sld hx hb hX hbl hbA hS hi1 dl_126 ?_
  refine lv_aload_n hx hb dl_127 rfl (lv_at hl 0 rfl) ?_
  refine lv_iload hx hb dl_128 (lv_at hl 4 rfl) ?_
  refine lv_iconst (v := 2) hx hb dl_130 (by decide) ?_
  refine lv_iadd hx hb dl_131 ?_
  refine va_sld hx hb hX hbl hbA hS hi2 dl_132 ?_
  refine lv_aload_n hx hb dl_133 rfl (lv_at hl 0 rfl) ?_
  refine lv_iload hx hb dl_134 (lv_at hl 4 rfl) ?_
  refine lv_iconst (v := 3) hx hb dl_136 (by decide) ?_
  refine lv_iadd hx hb dl_137 ?_
  refine va_sld hx hb hX hbl hbA hS hi3 dl_138 ?_
  refine lv_aload_n hx hb dl_139 rfl (lv_at hl 0 rfl) ?_
  refine lv_iload hx hb dl_140 (lv_at hl 4 rfl) ?_
  refine lv_iconst (v := 4) hx hb dl_142 (by decide) ?_
  refine lv_iadd hx hb dl_143 ?_
  refine va_sld hx hb hX hbl hbA hS hi4 dl_144 ?_
  refine lv_aload_n hx hb dl_145 rfl (lv_at hl 0 rfl) ?_
  refine lv_iload hx hb dl_146 (lv_at hl 4 rfl) ?_
  refine lv_iconst (v := 5) hx hb dl_148 (by decide) ?_
  refine lv_iadd hx hb dl_149 ?_
  refine va_sld hx hb hX hbl hbA hS hi5 dl_150 ?_
  refine lv_aload_n hx hb dl_151 rfl (lv_at hl 3 rfl) ?_
  refine lc_hlp (n := 7) (av := [.ref x, .int (xs (Int32.toNatClampNeg (i + 1))), .int (xs (Int32.toNatClampNeg (i + 2))), .int (xs (Int32.toNatClampNeg (i + 3))), .int (xs (Int32.toNatClampNeg (i + 4))), .int (xs (Int32.toNatClampNeg (i + 5))), .ref qo]) (yh := yL_feed) (bytes := cL_feed) (maxL := 8) (hh := [(0, 16, 19, 13)]) (S := 64) hx hb hml hown htb hA hE bg_1360 bg_1361 bg_1362 bg_1323 ⟨by decide, by decide, by decide +kernel⟩ (by decide) dl_152 rfl rfl h3 hS hl.1 hKo hAo (fun M hG => hp_feed l D g hG hfd) (by omega) (by omega) (fun r P1 fo1 H locs hV hP1 h3 hS => ?_)
  have hpt := h3.pot
  obtain ⟨rfl, hfo⟩ := hV
  refine lv_istore (lv' := [(5, .int 0), (0, .ref b), (1, .ref x), (2, .ref m0), (3, .ref qo), (4, .int i)]) hx hb dl_155 hl (by decide) rfl (fun ls hl => ?_)
  refine lv_aload_n hx hb dl_157 rfl (lv_at hl 3 rfl) ?_
  refine lv_aload_n hx hb dl_158 rfl (lv_at hl 1 rfl) ?_
  refine lv_iload hx hb dl_159 (lv_at hl 5 rfl) ?_
  refine lv_iconst (v := 1) hx hb dl_161 (by decide) ?_
  refine lv_iadd hx hb dl_162 ?_
  refine va_sld hx hb hX hbl hbA hS hi1 dl_163 ?_
  refine lv_aload_n hx hb dl_164 rfl (lv_at hl 1 rfl) ?_
  refine lv_iload hx hb dl_165 (lv_at hl 5 rfl) ?_
  refine lv_iconst (v := 2) hx hb dl_167 (by decide) ?_
  refine lv_iadd hx hb dl_168 ?_
  refine va_sld hx hb hX hbl hbA hS hi2 dl_169 ?_
  refine lv_aload_n hx hb dl_170 rfl (lv_at hl 1 rfl) ?_
  refine lv_iload hx hb dl_171 (lv_at hl 5 rfl) ?_
  refine lv_iconst (v := 3) hx hb dl_173 (by decide) ?_
  refine lv_iadd hx hb dl_174 ?_
  refine va_sld hx hb hX hbl hbA hS hi3 dl_175 ?_
  refine lv_aload_n hx hb dl_176 rfl (lv_at hl 1 rfl) ?_
  refine lv_iload hx hb dl_177 (lv_at hl 5 rfl) ?_
  refine lv_iconst (v := 4) hx hb dl_179 (by decide) ?_
  refine lv_iadd hx hb dl_180 ?_
  refine va_sld hx hb hX hbl hbA hS hi4 dl_181 ?_
  refine lv_aload_n hx hb dl_182 rfl (lv_at hl 1 rfl) ?_
  refine lv_iload hx hb dl_183 (lv_at hl 5 rfl) ?_
  refine lv_iconst (v := 5) hx hb dl_185 (by decide) ?_
  refine lv_iadd hx hb dl_186 ?_
  refine va_sld hx hb hX hbl hbA hS hi5 dl_187 ?_
  refine lc_ref (rest := []) (n := 5) (y := 205) (qm := (yX12_feed, cX12_feed, 6, (some .int))) (As := [.int (xs (Int32.toNatClampNeg (i + 1))), .int (xs (Int32.toNatClampNeg (i + 2))), .int (xs (Int32.toNatClampNeg (i + 3))), .int (xs (Int32.toNatClampNeg (i + 4))), .int (xs (Int32.toNatClampNeg (i + 5)))]) (V := fun v => v = some (.int (nI (cc.1 + 20)))) (X' := mT1) (cr' := fdG cc (xs (Int32.toNatClampNeg (i + 1))) (xs (Int32.toNatClampNeg (i + 2))) (xs (Int32.toNatClampNeg (i + 3))) (xs (Int32.toNatClampNeg (i + 4))) (xs (Int32.toNatClampNeg (i + 5)))) (Nat.le_of_ble_eq_true rfl) hx hb hml hown htb hA hE rfl bg_1363 bg_1364 bg_1365 bg_974 bg_1181 ⟨by decide, by decide, by decide +kernel⟩ (by decide) dl_188 rfl rfl h3 hS hl.1 (fun M hR _ => (rx_feed hR (by omega) (by decide)).imp (fun v M' h => ⟨h.1, h.2.1, trivial⟩)) (by omega) (by omega) (fun v H locs hV h3 hS => ?_)
  subst hV
  refine lv_istore (lv' := [(6, .int (nI (cc.1 + 20))), (5, .int 0), (0, .ref b), (1, .ref x), (2, .ref m0), (3, .ref qo), (4, .int i)]) hx hb dl_191 hl (by decide) rfl (fun ls hl => ?_)
  refine lv_goto (tgt := 809) hx hb dl_193 (by decide) ?_
  exact kk P1 _ _ H locs ls hP1 h3 hS (lv_sub hl [2, 3, 4, 5, 6] rfl)
end LWD
