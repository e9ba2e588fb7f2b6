theorem lH_nw {g : xe_G} {p : Nat → Bool} {z a : Nat} {c : mi_C} (h : (lH g p false z).1 a = some c) (hw : mi_wr g a c) : False := by
  unfold lH at h
  dsimp only at h
  rw [if_neg (fun h => by cases h.1)] at h
  obtain ⟨k, -, hk⟩ := Option.map_eq_some_iff.mp h
  subst hk
  have := hw.2 _ rfl
  dsimp only at this
  omega
theorem lw_d12 : ∀ k, rx k = false → ([.int 0, .null, .null, .int 0, .null, .null, .null, .null, .int 0, .int 0, .int 0, .int 0, .null, .null, .null, .null, .int 0, .int 0, .int 0, .int 0, .int 0, .null, .null, .null, .null, .int 0, .int 0, .null, .null, .null, .null, .null, .null, .null, .null, .null, .null, .null, .null, .null, .null, .null, .null, .null, .null, .null, .null, .int 0, .int 0, .int 0, .int 0, .int 0, .int 0, .int 0, .int 0, .int 0, .int 0, .int 0, .int 0, .int 0, .int 0, .int 0, .null, .null, .null, .int 0, .int 0, .int 0, .int 0, .int 0, .int 0, .int 0, .int 0, .int 0, .int 0, .int 0, .int 0, .int 0, .int 0, .int 0, .null, .null] : List Value)[k]? = (I00 k).map Value.int := by
  have h : ∀ k, k < 82 → rx k = false → ([.int 0, .null, .null, .int 0, .null, .null, .null, .null, .int 0, .int 0, .int 0, .int 0, .null, .null, .null, .null, .int 0, .int 0, .int 0, .int 0, .int 0, .null, .null, .null, .null, .int 0, .int 0, .null, .null, .null, .null, .null, .null, .null, .null, .null, .null, .null, .null, .null, .null, .null, .null, .null, .null, .null, .null, .int 0, .int 0, .int 0, .int 0, .int 0, .int 0, .int 0, .int 0, .int 0, .int 0, .int 0, .int 0, .int 0, .int 0, .int 0, .null, .null, .null, .int 0, .int 0, .int 0, .int 0, .int 0, .int 0, .int 0, .int 0, .int 0, .int 0, .int 0, .int 0, .int 0, .int 0, .int 0, .null, .null] : List Value)[k]? = some (.int 0) := by decide +kernel
  intro k hk
  by_cases h1 : k < 82
  · rw [h k h1 hk]
    simp [I00, h1]
  · rw [List.getElem?_eq_none (by show 82 ≤ k; omega)]
    simp [I00, h1]
theorem lw_newl {p : Program} {l : Launch} {e : Env} {R : Room} {s : State} {m : MethodId} {args : Array Value} {below : List Frame} {meth : Method} {c : Code} {H : Heap} {locs : List Loc} {cells slots : Nat} {Q : State → Prop} {pc : Nat} {ls : Array Slot} {rest : List Value} {cc : ByteArray} {D : va_G} (hx : p.tables.exec = Jvm.exec) (hb : c.code = cc) (harr : (Cond.arrayClass .long).before args s = true) (hK : va_K D vwCl [] s) (hcells : cells + 1 ≤ R.cells) (hslots : slots + 1 ≤ R.slots) (hd : decode cc pc = .ok (.newarray .long, 2))
    (kk : ∀ (H1 : Heap) (aO : ClassId), H1.size = H.size + 1 → (∀ q : Nat, q < H.size → H1[q]? = H[q]?) → va_K D vwCl [(aO, .long)] s → va_P D vwCl (oW H.size aO (fun _ => 0)) H1 → W p l e R s m args below meth c H1 locs (cells + 1) (slots + 1) Q (F0 m (pc + 2) ls (.ref H.size :: rest))) : W p l e R s m args below meth c H locs cells slots Q (F0 m pc ls (.int 1 :: rest)) := by
  refine va_newaK (atype := .long) hx hb harr rfl hd rfl (by decide) (by decide : Int32.toNatClampNeg 1 = 1) (by decide) hcells hslots rfl fun H1 cA e1 z1 o1 hAr hNm => ?_
  refine kk H1 cA z1 o1 ⟨hK.1, fun k x hx => ?_⟩ (fun k x hx => ?_)
  · have hz : k < 1 := (List.getElem?_eq_some_iff.mp hx).1
    rw [show k = 0 by omega] at hx
    cases hx
    exact ⟨hAr, hNm⟩
  · have hz : k < 1 := (List.getElem?_eq_some_iff.mp hx).1
    rw [show k = 0 by omega] at hx
    cases hx
    show H1[H.size]? = some (vp_cell _ _)
    exact e1
set_option maxHeartbeats 8000000 in
set_option maxRecDepth 100000 in
/-- THE LAW, from its entry -/
theorem whole_start {p : Program} {e : Env} {s : State} {m : MethodId} {below : List Frame} {meth : Method} {c : Code} (l : Launch) (hnt : l.stackTraces = false) {b L : Nat} {xs : Nat → Int32} (hL : L ≤ 3072) (C0 : lw_At p s m meth c b L xs) : W p l e room_1 s m #[Value.ref b] below meth c s.heap [] 0 0 (lw_Z below #[Value.ref b] s) (entryFrame m ([Value.ref b] : List Value).toArray 7) := by
  obtain ⟨hx, hb, hr, hml, hown, hts, hX, hbl, hlocks, hgv⟩ := id C0
  have hb : c.code = cL_law := hb
  have hown : s.vm.findClass RL = some m.cls := hown
  obtain ⟨A, hAe⟩ : ∃ A : Nat → Prop, A = fun q : Nat => s.heap.size ≤ q := ⟨_, rfl⟩
  have hA : ∀ q : Nat, s.heap.size ≤ q → A q := fun q h => by rw [hAe]; exact h
  have hbA : ¬ A b := by rw [hAe]; exact Nat.not_le.mpr hbl
  obtain ⟨g, hE, hsz⟩ := xe_start (A := A) (by intro a h; rw [hAe]; exact Nat.not_le.mpr h) hts hgv
  obtain ⟨D, hK⟩ := xe_classes hts
  have htb : ∀ w ∈ bg, w.before #[Value.ref b] s = true := fun w h => hts w (bg_in w h)
  have hS : va_S A s.heap s.heap [] := va_S.rf
  have hl := lv_entry ([.ref b]) (n := 7) (Nat.le_of_ble_eq_true rfl)
  rw [lg_entry_eq]
  generalize (lg_sl ([.ref b]) ++ List.replicate (7 - (lg_sl ([.ref b])).length) Slot.unset).toArray = ls at hl ⊢
  have hl : lv_has ls 7 [(0, .ref b)] := hl
  obtain ⟨z, hz⟩ : ∃ z : Nat, z = s.heap.size := ⟨_, rfl⟩
  refine lw_new (ci := 11) (T := TX11) (ds := [.null, .int 0, .null, .null, .int 0]) (M := lH g pC0 true z) (cells := 0) (slots := 0) (by decide) rfl bi_X11 tyX11_ok bg_1351 bg_1352 bg_774 (by decide) rfl dl_0 hx hb hown htb hA hE (lH_rel hK hz.symm) hS (by decide) (by decide) (fun H1 r1 z1 o1 hS => ?_)
  rw [← hz]
  obtain ⟨M1, hM1⟩ : ∃ M1 : mi_H, M1 = (va_up (lH g pC0 true z).1 z (some (.inr (11, fun k => ([.null, .int 0, .null, .null, .int 0] : List Value)[k]?))), z + 1, 0 + 5) := ⟨_, rfl⟩
  obtain ⟨w1, t1, r1⟩ : ∃ w1 t1, mi_rel g D A s M1 H1 w1 t1 := ⟨_, _, by rw [hM1]; exact r1⟩
  have hx1 : M1.1 z = some (ob 11 [.null, .int 0, .null, .null, .int 0]) := by rw [hM1]; simp [va_up, ob]
  have hM1o : ∀ a, a ≠ z → M1.1 a = (lH g pC0 true z).1 a := by intro a ha; rw [hM1]; simp [va_up, ha]
  have hM12 : M1.2 = (z + 1, 5) := by rw [hM1]
  refine lv_dup hx hb dl_3 rfl ?_
  obtain ⟨v0, M2, hMm, rfl, k1, k2, k3, k4⟩ := (tq_init (g := g) hx1 (by rw [hM12]; show z < z + 1; omega) (d := 16) (by decide)).met (l := l)
  rw [hM12] at k1 k2 k3 k4
  dsimp only at k1 k2 k3 k4
  have k41 : M2.2.1 = z + 2 := by rw [k4]
  have k42 : M2.2.2 = 1029 := by rw [k4]
  have e11 : M1.2.1 = z + 1 := by rw [hM12]
  have e12 : M1.2.2 = 5 := by rw [hM12]
  have hG : GATX g z (0, fun _ => 0, fun _ => 0, 0, -1, none) 0 2048 M2 := gate0 hz.symm hE hsz hM1o k1 k2 k3 k41
  obtain ⟨m1, m2, hMet⟩ := hMm
  have hMet : Met l yX11_init (.code yX11_init cX11_init 1 none :: bg) (mi_rm 16 (M2.2.1 - M1.2.1) (M2.2.2 - M1.2.2)) (mi_Pre g D M1 [.ref z]) (mi_Q g D M1 none M2) (M2.2.1 - M1.2.1) (M2.2.2 - M1.2.2) (mi_A g M1) := hMet D
  refine mi_goF (A := A) (va_runI (As := []) (rest := [.ref z]) ⟨hx, hb, hml, hown, htb⟩ hMet (bg_I 0 htb bg_1353 bg_1354 bg_774 bg_758 rfl rfl ⟨by decide, by decide, by decide +kernel⟩ ⟨by show 16 + 8 + 1 ≤ 2048; decide, by show 8 + (1 + 11) + (40 * 16 + 1000) ≤ 84000; decide⟩) ⟨mi_blind, mi_enter r1 hS hA hE⟩ rfl rfl hl.1 rfl (lv_room (Nat.le_of_ble_eq_true rfl)) dl_4 ⟨by show 0 + 1 + (M2.2.1 - M1.2.1) ≤ 601024; omega, by show 0 + 5 + (M2.2.2 - M1.2.2) ≤ 7293034; omega⟩) (mi_A_sub r1 hS hA) hS (fun H2 locs2 ws2 tys2 r2 z2 o2 hS => ?_)
  have hs2 := r2.2.2.2.1
  refine W.widen (k := 2) (n := 1029) (by omega) (by omega) ?_
  refine lv_astore_n (lv' := [(1, .ref z), (0, .ref b)]) hx hb dl_7 rfl hl (by decide) rfl (fun ls hl => ?_)
  obtain ⟨y, hy⟩ : ∃ y : Nat, y = H2.size := ⟨_, rfl⟩
  have hzy : y = z + 2 := by omega
  refine lw_new (ci := 12) (T := TX12) (ds := [.int 0, .null, .null, .int 0, .null, .null, .null, .null, .int 0, .int 0, .int 0, .int 0, .null, .null, .null, .null, .int 0, .int 0, .int 0, .int 0, .int 0, .null, .null, .null, .null, .int 0, .int 0, .null, .null, .null, .null, .null, .null, .null, .null, .null, .null, .null, .null, .null, .null, .null, .null, .null, .null, .null, .null, .int 0, .int 0, .int 0, .int 0, .int 0, .int 0, .int 0, .int 0, .int 0, .int 0, .int 0, .int 0, .int 0, .int 0, .int 0, .null, .null, .null, .int 0, .int 0, .int 0, .int 0, .int 0, .int 0, .int 0, .int 0, .int 0, .int 0, .int 0, .int 0, .int 0, .int 0, .int 0, .null, .null]) (M := lH g pR0 false y) (by decide) rfl bi_X12 tyX12_ok bg_1355 bg_1356 bg_974 (by decide) rfl dl_8 hx hb hown htb hA hE (lH_rel hK hy.symm) hS (by decide) (by decide) (fun H3 r3 z3 o3 hS => ?_)
  rw [← hy]
  obtain ⟨M3, hM3⟩ : ∃ M3 : mi_H, M3 = (va_up (lH g pR0 false y).1 y (some (.inr (12, fun k => ([.int 0, .null, .null, .int 0, .null, .null, .null, .null, .int 0, .int 0, .int 0, .int 0, .null, .null, .null, .null, .int 0, .int 0, .int 0, .int 0, .int 0, .null, .null, .null, .null, .int 0, .int 0, .null, .null, .null, .null, .null, .null, .null, .null, .null, .null, .null, .null, .null, .null, .null, .null, .null, .null, .null, .null, .int 0, .int 0, .int 0, .int 0, .int 0, .int 0, .int 0, .int 0, .int 0, .int 0, .int 0, .int 0, .int 0, .int 0, .int 0, .null, .null, .null, .int 0, .int 0, .int 0, .int 0, .int 0, .int 0, .int 0, .int 0, .int 0, .int 0, .int 0, .int 0, .int 0, .int 0, .int 0, .null, .null] : List Value)[k]?))), y + 1, 0 + 82) := ⟨_, rfl⟩
  obtain ⟨w3, t3, r3⟩ : ∃ w3 t3, mi_rel g D A s M3 H3 w3 t3 := ⟨_, _, by rw [hM3]; exact r3⟩
  have hx3 : M3.1 y = some (.inr (12, fun k => ([.int 0, .null, .null, .int 0, .null, .null, .null, .null, .int 0, .int 0, .int 0, .int 0, .null, .null, .null, .null, .int 0, .int 0, .int 0, .int 0, .int 0, .null, .null, .null, .null, .int 0, .int 0, .null, .null, .null, .null, .null, .null, .null, .null, .null, .null, .null, .null, .null, .null, .null, .null, .null, .null, .null, .null, .int 0, .int 0, .int 0, .int 0, .int 0, .int 0, .int 0, .int 0, .int 0, .int 0, .int 0, .int 0, .int 0, .int 0, .int 0, .null, .null, .null, .int 0, .int 0, .int 0, .int 0, .int 0, .int 0, .int 0, .int 0, .int 0, .int 0, .int 0, .int 0, .int 0, .int 0, .int 0, .null, .null] : List Value)[k]?)) := by rw [hM3]; simp [va_up]
  have hM3o : ∀ a, a ≠ y → M3.1 a = (lH g pR0 false y).1 a := by intro a ha; rw [hM3]; simp [va_up, ha]
  have hM32 : M3.2 = (y + 1, 82) := by rw [hM3]
  have e31 : M3.2.1 = y + 1 := by rw [hM32]
  have e32 : M3.2.2 = 82 := by rw [hM32]
  have hlt : ∀ k, rlk k → g.2.1 k < z := fun k hk => by have := lx_lt hE (show k < 37 by have := hk.2; omega); omega
  refine lv_dup hx hb dl_11 rfl ?_
  obtain ⟨v4, M4, hMr, rfl, k5, Ic, Rc, M5, k6, k7⟩ := (rx_init (g := g) hx3 lw_d12 (by omega) (fun k hk => by have := hlt k hk; omega) (fun k hk => by have := hlt k hk; omega) (fun k hk => ⟨_, (hM3o _ (by have := hlt k hk; omega)).trans (lH_r hk (lx_inj hE))⟩) (d := 16) (by decide)).met (l := l)
  have k51 : M4.2.1 = y + 40 := by rw [k5, e31]
  have k52 : M4.2.2 = 898650 := by rw [k5, e32]
  obtain ⟨m3, m4, hMet4⟩ := hMr
  have hMet4 : Met l yX12_init (.code yX12_init cX12_init 1 none :: bg) (mi_rm 16 (M4.2.1 - M3.2.1) (M4.2.2 - M3.2.2)) (mi_Pre g D M3 [.ref y]) (mi_Q g D M3 none M4) (M4.2.1 - M3.2.1) (M4.2.2 - M3.2.2) (mi_A g M3) := hMet4 D
  refine mi_goF (A := A) (va_runI (As := []) (rest := [.ref y]) ⟨hx, hb, hml, hown, htb⟩ hMet4 (bg_I 0 htb bg_1357 bg_1358 bg_974 bg_921 rfl rfl ⟨by decide, by decide, by decide +kernel⟩ ⟨by show 16 + 8 + 1 ≤ 2048; decide, by show 8 + (1 + 11) + (40 * 16 + 1000) ≤ 84000; decide⟩) ⟨mi_blind, mi_enter r3 hS hA hE⟩ rfl rfl hl.1 rfl (lv_room (Nat.le_of_ble_eq_true rfl)) dl_12 ⟨by show 2 + 1 + (M4.2.1 - M3.2.1) ≤ 601024; omega, by show 1029 + 82 + (M4.2.2 - M3.2.2) ≤ 7293034; omega⟩) (mi_A_sub r3 hS hA) hS (fun H4 locs4 ws4 tys4 r4 z4 o4 hS => ?_)
  have hs4 := r4.2.2.2.1
  refine W.widen (k := 42) (n := 899679) (by omega) (by omega) ?_
  refine lv_astore_n (lv' := [(2, .ref y), (1, .ref z), (0, .ref b)]) hx hb dl_15 rfl hl (by decide) rfl (fun ls hl => ?_)
  refine lv_iconst (v := 1) hx hb dl_16 (by decide) ?_
  refine lw_newl (D := D) hx hb (htb _ bg_1359) hK (by decide) (by decide) dl_17 (fun H5 aO z5 o5 hKo ho => ?_)
  refine W.widen (k := 43) (n := 899680) (by decide) (by decide) ?_
  refine lv_astore_n (lv' := [(3, .ref H4.size), (2, .ref y), (1, .ref z), (0, .ref b)]) hx hb dl_19 rfl hl (by decide) rfl (fun ls hl => ?_)
  refine lv_iconst (v := 0) hx hb dl_20 (by decide) ?_
  refine lv_istore (lv' := [(4, .int 0), (3, .ref H4.size), (2, .ref y), (1, .ref z), (0, .ref b)]) hx hb dl_21 hl (by decide) rfl (fun ls hl => ?_)
  have hsz4 : s.heap.size ≤ H4.size := hS.1
  have hS5 : va_S A s.heap H5 locs4 := ⟨by omega, fun a a1 a2 => (o5 a (by omega)).trans (hS.2.1 a a1 a2), hS.2.2⟩
  have r2w : mi_rel g D A s M2 H2 ws2 tys2 := r2.wide (fun a ha => ha.elim (fun h => (r1.lt h).2) (fun h => hA a (by omega)))
  have hlow2 : ∀ a, lown g M2 a → a < y := fun a ha => by have := (r2.lt ha).1; omega
  have hnot : ∀ a, a < y → ¬ mi_A g M3 a := fun a ha h => h.elim (fun h9 => by obtain ⟨c9, q1, q2⟩ := h9; rw [hM3o a (by omega)] at q1; exact lH_nw q1 q2) (fun h9 => by omega)
  have r2f := mi_rel.frame (H1 := H5) r2w (fun a ha => by have h9 := hlow2 a ha; rw [o5 a (by omega), o4 a (by omega) (hnot a h9), o3 a (by omega)])
  obtain ⟨ws5, r5⟩ := r4.less k6 (by rw [k7.z])
  have r5w : mi_rel g D A s M5 H4 ws5 tys4 := r5.wide (fun a ha => ha.elim (fun h => (r3.lt h).2) (fun h => hA a (by omega)))
  have r5f := mi_rel.frame (H1 := H5) r5w (fun a ha => o5 a (r5.lt ha).1)
  have hl := lv_sub hl (l' := [(0, .ref b), (1, .ref z), (2, .ref y), (3, .ref H4.size), (4, .int (nI (6 * 0)))]) [4, 3, 2, 1, 0] rfl
  refine law_loop hx hb hr hml hlocks hown htb hAe hA hE hnt hX hbl hbA hKo (hA _ hsz4) hL 512 0 (0, fun _ => 0, fun _ => 0, 0, -1, none) 0 2048 _ H5 locs4 ls 43 899680 (by omega) (by omega) (by omega) (by omega) (by omega) ⟨(M2.1, H5.size, M2.2.2), (M5.1, H5.size, M5.2.2), ws2, ws5, tys2, tys4, r2f, r5f, hG.room (by omega), k7.room, trivial, ho, fun a h1 h2 => ?_, fun h1 => ?_, fun h1 => ?_⟩ hS5 hl
  · have h3 := hlow2 a h1
    exact hnot a h3 (r5.lt (show lown g M5 a from h2)).2
  · have := hlow2 _ h1
    omega
  · have := (r5.lt (show lown g M5 H4.size from h1)).1
    omega
