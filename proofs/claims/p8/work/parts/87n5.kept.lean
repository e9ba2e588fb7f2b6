section
/-! what the class keeps (my own text) -/
section KCA
variable {g : xe_G} {f : Nat → Int32} {n N q c da : Nat} {E : List (Nat × Nat)} {M M' : mi_H}
/-- a file that is kept: its bytes, its pool -/
def KC (g : xe_G) (f : Nat → Int32) (n c da : Nat) (M : mi_H) : Prop := ∃ (b q N : Nat) (E : List (Nat × Nat)) (p1 pF pM pA : Nat) (w : List Value), M.1 c = some (ob 3 (.ref b :: .ref q :: w)) ∧ M.1 b = some (ob 1 [.ref da]) ∧ M.1 da = some (ar .byte n f) ∧ PV g f n N E q M ∧ s_whole f n = .inr (E, p1, pF, pM, pA) ∧ N = by2 f 8 ∧ (c < M.2.1 ∧ b < M.2.1 ∧ da < M.2.1) ∧ n ≤ 65540
/-- bytes may change, and objects but for pools and literals -/
theorem PV.mov2 (h : PV g f n N E q M) (hz : M.2.1 ≤ M'.2.1) (hm : ∀ z c, z < M.2.1 → M.1 z = some c → (∀ o, c = .inr o → o.1 = 7 ∨ 100 ≤ o.1) → (∀ k F, c ≠ ar .byte k F) → M'.1 z = some c) : PV g f n N E q M' := by
  obtain ⟨hL, H, m, qq, F, cc, ⟨a0, a1, a6⟩, hT, ⟨b0, b1⟩, h3⟩ := h
  have hi : ∀ {z k : Nat} {F : Nat → Int32}, z < M.2.1 → M.1 z = some (ar .int k F) → M'.1 z = some (ar .int k F) := fun hl hc => hm _ _ hl hc (fun o h9 => by cases h9) (fun k F h9 => by simp [ar] at h9)
  have hc : ∀ {z k : Nat} {F : Nat → Int32}, z < M.2.1 → M.1 z = some (ar .char k F) → M'.1 z = some (ar .char k F) := fun hl hc => hm _ _ hl hc (fun o h9 => by cases h9) (fun k F h9 => by simp [ar] at h9)
  have h7 := hm q _ b0 a0 (fun o h9 => by cases h9; exact Or.inl rfl) (fun k F h9 => by cases h9)
  refine ⟨fun k hk => ?_, H, m, qq, F, cc, ⟨h7, fun i h1 h2 => hi (b1 i h1 (by omega)) (a1 i h1 h2), hc (b1 6 (by decide) (by decide)) a6⟩, hT, ⟨by omega, fun i h1 h2 => Nat.lt_of_lt_of_le (b1 i h1 h2) hz⟩, h3⟩
  obtain ⟨k1, k', fl, k2, k3, k4⟩ := hL k hk
  exact ⟨by omega, k', fl, k2, hm _ _ k1 k3 (fun o h9 => by cases h9; exact Or.inr (Nat.le_add_right _ _)) (fun k F h9 => by cases h9), k4⟩
theorem KC.mov2 (h : KC g f n c da M) (hz : M.2.1 ≤ M'.2.1) (hm : ∀ z c', z < M.2.1 → M.1 z = some c' → (∀ o, c' = .inr o → o.1 = 7 ∨ o.1 = 3 ∨ o.1 = 1 ∨ 100 ≤ o.1) → (∀ k F, c' = ar .byte k F → z = da) → M'.1 z = some c') : KC g f n c da M' := by
  obtain ⟨b, q, N, E, p1, pF, pM, pA, w, h1, h2, h3, h4, h5, h6, ⟨l1, l2, l3⟩, h8⟩ := h
  exact ⟨b, q, N, E, p1, pF, pM, pA, w, hm c _ l1 h1 (fun o h9 => by cases h9; exact Or.inr (Or.inl rfl)) (fun k F h9 => by cases h9), hm b _ l2 h2 (fun o h9 => by cases h9; exact Or.inr (Or.inr (Or.inl rfl))) (fun k F h9 => by cases h9), hm da _ l3 h3 (fun o h9 => by cases h9) (fun k F h9 => rfl), h4.mov2 hz (fun z c' hl hc ho hb => hm z c' hl hc (fun o h9 => (ho o h9).elim Or.inl (fun h => Or.inr (Or.inr (Or.inr h)))) (fun k F h9 => absurd h9 (hb k F))), h5, h6, ⟨by omega, by omega, by omega⟩, h8⟩
theorem KC.fr (h : KC g f n c da M) (hf : frC [4, 5] M M') : KC g f n c da M' :=
  h.mov2 hf.2 (fun z c' hl hc ho _ => (hf.1 z hl (fun o h9 hw => by
    rw [hc] at h9
    have h1 := ho o (Option.some.inj h9)
    simp only [List.mem_cons, List.not_mem_nil, or_false] at hw
    omega)).trans hc)
theorem KC.gmk {S : List Nat} (h : KC g f n c da M) (hf : gm S M M') (hs : ∀ z ∈ S, (∃ l, M.1 z = some (ob 11 l)) ∨ (z ≠ da ∧ ∃ k F, M.1 z = some (ar .byte k F))) : KC g f n c da M' :=
  h.mov2 hf.2 (fun z c' hl hc ho hb => (hf.1 z hl (fun hz => by
    rcases hs z hz with ⟨l, e⟩ | ⟨e1, k, F, e⟩
    · rw [hc] at e
      have h1 := ho _ (Option.some.inj e)
      dsimp only at h1
      omega
    · rw [hc] at e
      exact e1 (hb k F (Option.some.inj e)))).trans hc)
/-- the same cells, others beside them -/
theorem KC.sp {F : Nat → Option mi_C} (h : KC g f n c da M) (hs : spR F M M') : KC g f n c da M' := by
  have ez : M'.2.1 = M.2.1 := by rw [hs.1]
  obtain ⟨b, q, N, E, p1, pF, pM, pA, w, h1, h2, h3, ⟨hL, H, m, qq, F', cc, ⟨a0, a1, a6⟩, hT, ⟨b0, b1⟩, h4⟩, h5, h6, ⟨l1, l2, l3⟩, h8⟩ := h
  refine ⟨b, q, N, E, p1, pF, pM, pA, w, hs.get h1, hs.get h2, hs.get h3, ⟨fun k hk => ?_, H, m, qq, F', cc, ⟨hs.get a0, fun i h1 h2 => hs.get (a1 i h1 h2), hs.get a6⟩, hT, ⟨by omega, fun i h1 h2 => by rw [ez]; exact b1 i h1 h2⟩, h4⟩, h5, h6, ⟨by omega, by omega, by omega⟩, h8⟩
  obtain ⟨k1, k', fl, k2, k3, k4⟩ := hL k hk
  exact ⟨by omega, k', fl, k2, hs.get k3, k4⟩
/-- what is kept, if anything is -/
def KPC (g : xe_G) (ko : Option (Nat × (Nat → Int32))) (kv : Value) (cm : Nat) (M : mi_H) : Prop := match ko with
  | none => kv = .null
  | some p => ∃ c da, kv = .ref c ∧ KC g p.2 p.1 c da M ∧ da ≠ cm ∧ s_read p.2 p.1 = none
variable {ko : Option (Nat × (Nat → Int32))} {kv : Value} {cm x : Nat}
theorem KPC.mov (h : KPC g ko kv cm M) (hz : M.2.1 ≤ M'.2.1) (hm : ∀ a c', a < M.2.1 → M.1 a = some c' → (∀ l, c' ≠ ob 11 l) → M'.1 a = some c') : KPC g ko kv cm M' := by
  cases ko with
  | none => exact h
  | some p =>
    obtain ⟨c, da, h1, h2, h3, h4⟩ := h
    refine ⟨c, da, h1, h2.mov2 hz (fun z c' hl hc ho _ => hm z c' hl hc (fun l e => ?_)), h3, h4⟩
    have h9 := ho (11, fun i => l[i]?) e
    dsimp only at h9
    omega
theorem KPC.fr (h : KPC g ko kv cm M) (hf : frC [4, 5] M M') : KPC g ko kv cm M' := by
  cases ko with
  | none => exact h
  | some p =>
    obtain ⟨c, da, h1, h2, h3, h4⟩ := h
    exact ⟨c, da, h1, h2.fr hf, h3, h4⟩
theorem KPC.gmk {S : List Nat} (h : KPC g ko kv cm M) (hf : gm S M M') (hs : ∀ z ∈ S, ∃ l, M.1 z = some (ob 11 l)) : KPC g ko kv cm M' := by
  cases ko with
  | none => exact h
  | some p =>
    obtain ⟨c, da, h1, h2, h3, h4⟩ := h
    exact ⟨c, da, h1, h2.gmk hf (fun z hz => Or.inl (hs z hz)), h3, h4⟩
theorem KPC.gmk2 {cm2 m : Nat} {C : Nat → Int32} {l : List Value} (h : KPC g ko kv cm M) (hf : gm [x, cm] M M') (hx : M.1 x = some (ob 11 l)) (hc : M.1 cm = some (ar .byte m C)) (hd : cm2 = cm ∨ M.2.1 ≤ cm2) : KPC g ko kv cm2 M' := by
  cases ko with
  | none => exact h
  | some p =>
    obtain ⟨c, da, h1, h2, h3, h4⟩ := h
    have hl : da < M.2.1 := by
      obtain ⟨b, q, N, E, p1, pF, pM, pA, w, -, -, -, -, -, -, ⟨-, -, l3⟩, -⟩ := h2
      exact l3
    refine ⟨c, da, h1, h2.gmk hf (fun z hz => ?_), fun e => ?_, h4⟩
    · simp only [List.mem_cons, List.not_mem_nil, or_false] at hz
      rcases hz with rfl | rfl
      · exact Or.inl ⟨l, hx⟩
      · exact Or.inr ⟨fun e => h3 e.symm, m, C, hc⟩
    · rcases hd with e2 | e2
      · exact h3 (e.trans e2)
      · omega
end KCA
set_option maxHeartbeats 1000000 in
theorem dk_holds2_c {g : xe_G} {M : mi_H} {f : Nat → Int32} {n N q : Nat} {E : List (Nat × Nat)} {ox ac o z9 c b da vd fr mr fa ic mj na pa e0 : Nat} {s1 mi ru wa k1 k3 k4 k5 k6 k7 : Int32} {B1 B2 : List Nat} {G1 G2 : Nat → Nat} {og ga gf : Nat} {gn gw : Int32} {gk : Value} (h_ox : M.1 ox = some (ob 8 [.ref q, .int (nI mj), .ref vd])) (h_ac : M.1 ac = some (ob 0 [.ref c, .ref b, .ref q, .ref vd, .int s1])) (h_o : M.1 o = some (ob 2 [.ref c, .ref b, .ref q, .ref vd, .ref ac])) (h_c : M.1 c = some (ob 3 [.ref b, .ref q, .int mi, .int (nI mj), .int (nI fa), .int (nI ic), .ref fr, .ref mr, .int (nI na), .int (nI pa), .int k1, .int 0, .int k3, .int k4, .int k5, .int k6, .int k7])) (h_b : M.1 b = some (ob 1 [.ref da])) (h_da : M.1 da = some (ar .byte n f)) (h_vd : M.1 vd = some (ob 10 [.int ru, .int wa])) (h_og : M.1 og = some (ob 11 [.ref ga, .int gn, .ref gf, gk, .int gw])) (hn : n ≤ 65540) (hmj : mj < 65536) (hfa : fa + 8 ≤ n) (hic : fa + 8 + 2 * ic ≤ n) (hic2 : ic < 65536) (hna : na < 65536 ∧ pa ≤ n) (hat : s_atts f n na pa = .inr e0) (hB91 : B1.length < 65536) (hB92 : B2.length < 65536) (hB1 : ∀ i, i < B1.length → B1.getD i 0 + 8 ≤ n ∧ ∃ e0, s_atts f n (by2 f (B1.getD i 0 + 6)) (B1.getD i 0 + 8) = .inr e0) (hB2 : ∀ i, i < B2.length → B2.getD i 0 + 8 ≤ n ∧ ∃ e0, s_atts f n (by2 f (B2.getD i 0 + 6)) (B2.getD i 0 + 8) = .inr e0) (hDs : ∀ i j, i < B1.length → j < B2.length → ¬ G1 i = G2 j) (l_c : c < M.2.1) (l_b : b < M.2.1) (l_da : da < M.2.1) (l_vd : vd < M.2.1) (l_q : q < M.2.1) (l_og : og < M.2.1) (l_ox : ox < M.2.1) (l_ac : ac < M.2.1) (l_o : o < M.2.1) (hz9 : z9 ≤ M.2.1) (hq40 : chkP f n E mj (N - 1) 1 = none) (hq48 : hdS f n E fa = none) (hq56 : ifS f n E (fa + 8) ic 0 = none) (hq64 : flS f n E (by2 f fa) B1 B1.length 0 = none) (hq72 : mtS f n E (by2 f fa) mj B2 B2.length 0 = none) (hV : PV g f n N E q M) (kf : Nat) : pl (mT g) kf (mb_11 g).2 (78, [(4, .ref o), (3, .ref ac), (2, .ref ox), (0, .ref c), (1, .ref vd)], [], M) (fun v M' => (∃ (w2 w3 w4 w5 w6 w7 w8 w9 w10 w11 w12 w13 w14 w15 w16 : Value), (s_chk f n N E mj fa ic B1 B2 na pa = none) ∧ (PV g f n N E q M') ∧ v = some (.int 1) ∧ M'.1 vd = some (ob 10 [.int ru, .int wa]) ∧ M'.1 og = some (ob 11 [.ref ga, .int gn, .ref gf, gk, .int gw]) ∧ M'.1 c = some (ob 3 [.ref b, .ref q, w2, w3, w4, w5, w6, w7, w8, w9, w10, w11, w12, w13, w14, w15, w16]) ∧ M'.1 b = some (ob 1 [.ref da]) ∧ M'.1 da = some (ar .byte n f) ∧ z9 ≤ M'.2.1) ∨ (∃ (e9 : Nat × Nat), (s_chk f n N E mj fa ic B1 B2 na pa = some e9) ∧ v = some (.int 0) ∧ M'.1 vd = some (ob 10 [.int (nI e9.1), .int (nI e9.2)]) ∧ M'.1 og = some (ob 11 [.ref ga, .int gn, .ref gf, gk, .int gw]) ∧ z9 ≤ M'.2.1)) := by
  obtain ⟨z0, tp0⟩ : ∃ z0, M.2.1 = z0 := ⟨_, rfl⟩
  refine ps_st (S' := (79, [(4, .ref o), (3, .ref ac), (2, .ref ox), (0, .ref c), (1, .ref vd)], [.ref ac], M)) rfl rfl rfl ?_
  refine pl_call (a := [.ref ac]) (rest := []) rfl rfl rfl (dk_ofClass (f := f) (n := n) (N := N) (q := q) (E := E) (ac := ac) (c := c) (b := b) (da := da) (vd := vd) (fr := fr) (mr := mr) (fa := fa) (ic := ic) (mj := mj) (na := na) (pa := pa) (mi := mi) (ru := ru) (wa := wa) (s1 := s1) (k1 := k1) (k3 := k3) (k4 := k4) (k5 := k5) (k6 := k6) (k7 := k7) (e0 := e0) (bc0 := 0) h_ac h_b h_da h_c h_vd (hn) (hmj) (hfa) (hna) (by decide) (hat) (hV)) (fun v1 M2 q3 => ?_)
  rcases q3 with q3 | q3
  · skip
    obtain ⟨bc4, s25, k1'6, k3'7, k4'8, k5'9, k6'10, k7'11, q79_s, q79_l, rfl, h12, h13, h14, f15⟩ := q3
    have h17 := (f15.1 ox (nin3 (ob_ne h_ox h_ac (by decide)) (ob_ne h_ox h_vd (by decide)) (ob_ne h_ox h_c (by decide)))).trans h_ox
    have h18 := (f15.1 o (nin3 (ob_ne h_o h_ac (by decide)) (ob_ne h_o h_vd (by decide)) (ob_ne h_o h_c (by decide)))).trans h_o
    have h19 := (f15.1 b (nin3 (ob_ne h_b h_ac (by decide)) (ob_ne h_b h_vd (by decide)) (ob_ne h_b h_c (by decide)))).trans h_b
    have h20 := (f15.1 da (nin3 (Ne.symm (ob_ar h_ac h_da)) (Ne.symm (ob_ar h_vd h_da)) (Ne.symm (ob_ar h_c h_da)))).trans h_da
    have h21 := (f15.1 og (nin3 (ob_ne h_og h_ac (by decide)) (ob_ne h_og h_vd (by decide)) (ob_ne h_og h_c (by decide)))).trans h_og
    have tp23 : M2.2.1 = z0 := by rw [f15.2]; exact tp0
    have hV24 := hV.keep f15.gm (n7c h_ac (by decide) (n7c h_vd (by decide) (n7c h_c (by decide) (n7nil))))
    show pl _ _ _ (82, [(4, .ref o), (3, .ref ac), (2, .ref ox), (0, .ref c), (1, .ref vd)], [.int 1], M2) _
    clear h_ox h_ac h_o h_c h_b h_da h_vd h_og hV f15
    refine ps_if (S1 := (100, [], [], M2)) (S2 := (85, [(4, .ref o), (3, .ref ac), (2, .ref ox), (0, .ref c), (1, .ref vd)], [], M2)) rfl rfl rfl (fun c_82 => ?_) (fun c_82 => ?_)
    · exact absurd (of_decide_eq_true c_82) (by decide)
    refine ps_st (S' := (86, [(4, .ref o), (3, .ref ac), (2, .ref ox), (0, .ref c), (1, .ref vd)], [.ref ox], M2)) rfl rfl rfl ?_
    refine ps_st (S' := (87, [(4, .ref o), (3, .ref ac), (2, .ref ox), (0, .ref c), (1, .ref vd)], [.ref c, .ref ox], M2)) rfl rfl rfl ?_
    refine ps_get (S' := (90, [(4, .ref o), (3, .ref ac), (2, .ref ox), (0, .ref c), (1, .ref vd)], [.int (nI bc4), .ref ox], M2)) rfl h14 rfl rfl ?_
    refine pl_call (a := [.ref ox, .int (nI bc4)]) (rest := []) rfl rfl rfl (dk_bootstrapsHold (f := f) (n := n) (N := N) (q := q) (E := E) (o := ox) (vd := vd) (mj := mj) (bc := bc4) (ru := ru) (wa := wa) h17 h12 (hmj) (q79_l) (hV24)) (fun v25 M26 q27 => ?_)
    rcases q27 with q27 | q27
    · skip
      obtain ⟨q90_s, rfl, h28, f29⟩ := q27
      have h31 := (f29.1 ox (nin1 (ob_ne h17 h12 (by decide)))).trans h17
      have h32 := (f29.1 ac (nin1 (ob_ne h13 h12 (by decide)))).trans h13
      have h33 := (f29.1 o (nin1 (ob_ne h18 h12 (by decide)))).trans h18
      have h34 := (f29.1 c (nin1 (ob_ne h14 h12 (by decide)))).trans h14
      have h35 := (f29.1 b (nin1 (ob_ne h19 h12 (by decide)))).trans h19
      have h36 := (f29.1 da (nin1 (Ne.symm (ob_ar h12 h20)))).trans h20
      have h37 := (f29.1 og (nin1 (ob_ne h21 h12 (by decide)))).trans h21
      have tp39 : M26.2.1 = z0 := by rw [f29.2]; exact tp23
      have hV40 := hV24.keep f29.gm (n7c h12 (by decide) (n7nil))
      show pl _ _ _ (93, [(4, .ref o), (3, .ref ac), (2, .ref ox), (0, .ref c), (1, .ref vd)], [.int 1], M26) _
      clear h17 h13 h18 h14 h19 h20 h12 h21 hV24 f29
      refine ps_if (S1 := (100, [], [], M26)) (S2 := (96, [(4, .ref o), (3, .ref ac), (2, .ref ox), (0, .ref c), (1, .ref vd)], [], M26)) rfl rfl rfl (fun c_93 => ?_) (fun c_93 => ?_)
      · exact absurd (of_decide_eq_true c_93) (by decide)
      refine ps_st (S' := (97, [(4, .ref o), (3, .ref ac), (2, .ref ox), (0, .ref c), (1, .ref vd)], [.int 1], M26)) rfl rfl rfl ?_
      refine ps_st (S' := (101, [], [.int 1], M26)) rfl rfl rfl ?_
      exact ps_ret rfl rfl (Or.inl ⟨.int mi, .int (nI mj), .int (nI fa), .int (nI ic), .ref fr, .ref mr, .int (nI na), .int (nI pa), .int k1'6, .int (nI bc4), .int k3'7, .int k4'8, .int k5'9, .int k6'10, .int k7'11, by
          unfold s_chk
          rw [hq40]
          try dsimp only
          rw [hq48]
          try dsimp only
          rw [hq56]
          try dsimp only
          rw [hq64]
          try dsimp only
          rw [hq72]
          try dsimp only
          rw [q79_s]
          try dsimp only
          rw [q90_s]
          try dsimp only
          first | done | rfl, hV40, rfl, h28, h37, h34, h35, h36, by omega⟩)
    · skip
      obtain ⟨e41, q90_s, rfl, h42, f43⟩ := q27
      have h45 := (f43.1 ox (nin1 (ob_ne h17 h12 (by decide)))).trans h17
      have h46 := (f43.1 ac (nin1 (ob_ne h13 h12 (by decide)))).trans h13
      have h47 := (f43.1 o (nin1 (ob_ne h18 h12 (by decide)))).trans h18
      have h48 := (f43.1 c (nin1 (ob_ne h14 h12 (by decide)))).trans h14
      have h49 := (f43.1 b (nin1 (ob_ne h19 h12 (by decide)))).trans h19
      have h50 := (f43.1 da (nin1 (Ne.symm (ob_ar h12 h20)))).trans h20
      have h51 := (f43.1 og (nin1 (ob_ne h21 h12 (by decide)))).trans h21
      have tp53 : M26.2.1 = z0 := by rw [f43.2]; exact tp23
      have hV54 := hV24.keep f43.gm (n7c h12 (by decide) (n7nil))
      show pl _ _ _ (93, [(4, .ref o), (3, .ref ac), (2, .ref ox), (0, .ref c), (1, .ref vd)], [.int 0], M26) _
      clear h17 h13 h18 h14 h19 h20 h12 h21 hV24 f43
      refine ps_if (S1 := (100, [], [], M26)) (S2 := (96, [(4, .ref o), (3, .ref ac), (2, .ref ox), (0, .ref c), (1, .ref vd)], [], M26)) rfl rfl rfl (fun c_93 => ?_) (fun c_93 => ?_)
      rotate_left
      · exact absurd (by decide) (of_decide_eq_false c_93)
      refine ps_st (S' := (101, [], [.int 0], M26)) rfl rfl rfl ?_
      exact ps_ret rfl rfl (Or.inr ⟨e41, by
          unfold s_chk
          rw [hq40]
          try dsimp only
          rw [hq48]
          try dsimp only
          rw [hq56]
          try dsimp only
          rw [hq64]
          try dsimp only
          rw [hq72]
          try dsimp only
          rw [q79_s]
          try dsimp only
          rw [q90_s]
          try dsimp only
          first | done | rfl, rfl, h42, h51, by omega⟩)
  · skip
    obtain ⟨e955, q79_s, rfl, h56, f57⟩ := q3
    have h59 := (f57.1 ox (nin3 (ob_ne h_ox h_ac (by decide)) (ob_ne h_ox h_vd (by decide)) (ob_ne h_ox h_c (by decide)))).trans h_ox
    have h60 := (f57.1 o (nin3 (ob_ne h_o h_ac (by decide)) (ob_ne h_o h_vd (by decide)) (ob_ne h_o h_c (by decide)))).trans h_o
    have h61 := (f57.1 b (nin3 (ob_ne h_b h_ac (by decide)) (ob_ne h_b h_vd (by decide)) (ob_ne h_b h_c (by decide)))).trans h_b
    have h62 := (f57.1 da (nin3 (Ne.symm (ob_ar h_ac h_da)) (Ne.symm (ob_ar h_vd h_da)) (Ne.symm (ob_ar h_c h_da)))).trans h_da
    have h63 := (f57.1 og (nin3 (ob_ne h_og h_ac (by decide)) (ob_ne h_og h_vd (by decide)) (ob_ne h_og h_c (by decide)))).trans h_og
    have tp65 : M2.2.1 = z0 := by rw [f57.2]; exact tp0
    have hV66 := hV.keep f57.gm (n7c h_ac (by decide) (n7c h_vd (by decide) (n7c h_c (by decide) (n7nil))))
    show pl _ _ _ (82, [(4, .ref o), (3, .ref ac), (2, .ref ox), (0, .ref c), (1, .ref vd)], [.int 0], M2) _
    clear h_ox h_ac h_o h_c h_b h_da h_vd h_og hV f57
    refine ps_if (S1 := (100, [], [], M2)) (S2 := (85, [(4, .ref o), (3, .ref ac), (2, .ref ox), (0, .ref c), (1, .ref vd)], [], M2)) rfl rfl rfl (fun c_82 => ?_) (fun c_82 => ?_)
    rotate_left
    · exact absurd (by decide) (of_decide_eq_false c_82)
    refine ps_st (S' := (101, [], [.int 0], M2)) rfl rfl rfl ?_
    exact ps_ret rfl rfl (Or.inr ⟨e955, by
        unfold s_chk
        rw [hq40]
        try dsimp only
        rw [hq48]
        try dsimp only
        rw [hq56]
        try dsimp only
        rw [hq64]
        try dsimp only
        rw [hq72]
        try dsimp only
        rw [q79_s]
        try dsimp only
        first | done | rfl, rfl, h56, h63, by omega⟩)
set_option maxHeartbeats 1000000 in
theorem dk_holds2_b {g : xe_G} {M : mi_H} {f : Nat → Int32} {n N q : Nat} {E : List (Nat × Nat)} {ox ac o z9 c b da vd fr mr fa ic mj na pa e0 : Nat} {s1 mi ru wa k1 k3 k4 k5 k6 k7 : Int32} {B1 B2 : List Nat} {G1 G2 : Nat → Nat} {og ga gf : Nat} {gn gw : Int32} {gk : Value} (h_ox : M.1 ox = some (ob 8 [.ref q, .int (nI mj), .ref vd])) (h_ac : M.1 ac = some (ob 0 [.ref c, .ref b, .ref q, .ref vd, .int s1])) (h_o : M.1 o = some (ob 2 [.ref c, .ref b, .ref q, .ref vd, .ref ac])) (h_c : M.1 c = some (ob 3 [.ref b, .ref q, .int mi, .int (nI mj), .int (nI fa), .int (nI ic), .ref fr, .ref mr, .int (nI na), .int (nI pa), .int k1, .int 0, .int k3, .int k4, .int k5, .int k6, .int k7])) (h_b : M.1 b = some (ob 1 [.ref da])) (h_da : M.1 da = some (ar .byte n f)) (h_vd : M.1 vd = some (ob 10 [.int ru, .int wa])) (h_og : M.1 og = some (ob 11 [.ref ga, .int gn, .ref gf, gk, .int gw])) (hn : n ≤ 65540) (hmj : mj < 65536) (hfa : fa + 8 ≤ n) (hic : fa + 8 + 2 * ic ≤ n) (hic2 : ic < 65536) (hna : na < 65536 ∧ pa ≤ n) (hat : s_atts f n na pa = .inr e0) (hB91 : B1.length < 65536) (hB92 : B2.length < 65536) (hB1 : ∀ i, i < B1.length → B1.getD i 0 + 8 ≤ n ∧ ∃ e0, s_atts f n (by2 f (B1.getD i 0 + 6)) (B1.getD i 0 + 8) = .inr e0) (hB2 : ∀ i, i < B2.length → B2.getD i 0 + 8 ≤ n ∧ ∃ e0, s_atts f n (by2 f (B2.getD i 0 + 6)) (B2.getD i 0 + 8) = .inr e0) (hDs : ∀ i j, i < B1.length → j < B2.length → ¬ G1 i = G2 j) (l_c : c < M.2.1) (l_b : b < M.2.1) (l_da : da < M.2.1) (l_vd : vd < M.2.1) (l_q : q < M.2.1) (l_og : og < M.2.1) (l_ox : ox < M.2.1) (l_ac : ac < M.2.1) (l_o : o < M.2.1) (hz9 : z9 ≤ M.2.1) (hq40 : chkP f n E mj (N - 1) 1 = none) (hq48 : hdS f n E fa = none) (hq56 : ifS f n E (fa + 8) ic 0 = none) (hV : PV g f n N E q M) (hM1 : MV f B1 fr G1 0 M) (hM2 : MV f B2 mr G2 0 M) (kf : Nat) : pl (mT g) kf (mb_11 g).2 (62, [(4, .ref o), (3, .ref ac), (2, .ref ox), (0, .ref c), (1, .ref vd)], [], M) (fun v M' => (∃ (w2 w3 w4 w5 w6 w7 w8 w9 w10 w11 w12 w13 w14 w15 w16 : Value), (s_chk f n N E mj fa ic B1 B2 na pa = none) ∧ (PV g f n N E q M') ∧ v = some (.int 1) ∧ M'.1 vd = some (ob 10 [.int ru, .int wa]) ∧ M'.1 og = some (ob 11 [.ref ga, .int gn, .ref gf, gk, .int gw]) ∧ M'.1 c = some (ob 3 [.ref b, .ref q, w2, w3, w4, w5, w6, w7, w8, w9, w10, w11, w12, w13, w14, w15, w16]) ∧ M'.1 b = some (ob 1 [.ref da]) ∧ M'.1 da = some (ar .byte n f) ∧ z9 ≤ M'.2.1) ∨ (∃ (e9 : Nat × Nat), (s_chk f n N E mj fa ic B1 B2 na pa = some e9) ∧ v = some (.int 0) ∧ M'.1 vd = some (ob 10 [.int (nI e9.1), .int (nI e9.2)]) ∧ M'.1 og = some (ob 11 [.ref ga, .int gn, .ref gf, gk, .int gw]) ∧ z9 ≤ M'.2.1)) := by
  obtain ⟨z0, tp0⟩ : ∃ z0, M.2.1 = z0 := ⟨_, rfl⟩
  refine ps_st (S' := (64, [(4, .ref o), (3, .ref ac), (2, .ref ox), (0, .ref c), (1, .ref vd)], [.ref o], M)) rfl rfl rfl ?_
  refine pl_call (a := [.ref o]) (rest := []) rfl rfl rfl (dk_fieldsHold (f := f) (n := n) (N := N) (q := q) (E := E) (o := o) (c := c) (b := b) (da := da) (vd := vd) (ac := ac) (mr := mr) (fa := fa) (ic := ic) (mj := mj) (na := na) (pa := pa) (mi := mi) (ru := ru) (wa := wa) (k1 := k1) (k2 := 0) (k3 := k3) (k4 := k4) (k5 := k5) (k6 := k6) (k7 := k7) (ox := ox) (og := og) (ga := ga) (gf := gf) (gn := gn) (gw := gw) (gk := gk) (s1 := s1) (B := B1) (G := G1) (mm := fr) (B2 := B2) (G2 := G2) (m2 := mr) h_ox h_og h_o h_c h_b h_da h_vd h_ac (hn) (hmj) (hfa) (hB91) (hB1) (hDs) (by omega) (by omega) (by omega) (by omega) (by omega) (by omega) (by omega) (by omega) (by omega) (hV) (hM1) (hM2)) (fun v1 M2 q3 => ?_)
  rcases q3 with q3 | q3
  · skip
    obtain ⟨s24, q64_s, q64_V, q64_W, rfl, h5, h6, h7, h8, h9, h10, h11, h12, tp14⟩ := q3
    obtain ⟨t15, tp16⟩ : ∃ t9, M2.2.1 = t9 := ⟨_, rfl⟩
    rw [tp0, tp16] at tp14
    show pl _ _ _ (67, [(4, .ref o), (3, .ref ac), (2, .ref ox), (0, .ref c), (1, .ref vd)], [.int 1], M2) _
    refine ps_if (S1 := (100, [], [], M2)) (S2 := (70, [(4, .ref o), (3, .ref ac), (2, .ref ox), (0, .ref c), (1, .ref vd)], [], M2)) rfl rfl rfl (fun c_67 => ?_) (fun c_67 => ?_)
    · exact absurd (of_decide_eq_true c_67) (by decide)
    refine ps_st (S' := (72, [(4, .ref o), (3, .ref ac), (2, .ref ox), (0, .ref c), (1, .ref vd)], [.ref o], M2)) rfl rfl rfl ?_
    refine pl_call (a := [.ref o]) (rest := []) rfl rfl rfl (dk_methodsHold (f := f) (n := n) (N := N) (q := q) (E := E) (o := o) (c := c) (b := b) (da := da) (vd := vd) (ac := ac) (fr := fr) (fa := fa) (ic := ic) (mj := mj) (na := na) (pa := pa) (mi := mi) (ru := ru) (wa := wa) (k1 := k1) (k2 := 0) (k3 := k3) (k4 := k4) (k5 := k5) (k6 := k6) (k7 := k7) (ox := ox) (og := og) (ga := ga) (gf := gf) (gn := gn) (gw := gw) (gk := gk) (s1 := s24) (B := B2) (G := G2) (mm := mr) h5 h6 h7 h8 h9 h10 h11 h12 (hn) (hmj) (hfa) (hB92) (hB2) (by omega) (by omega) (by omega) (by omega) (by omega) (by omega) (by omega) (by omega) (by omega) (q64_V) (q64_W)) (fun v17 M18 q19 => ?_)
    rcases q19 with q19 | q19
    · skip
      obtain ⟨s220, q72_s, q72_V, rfl, h21, h22, h23, h24, h25, h26, h27, h28, tp30⟩ := q19
      obtain ⟨t31, tp32⟩ : ∃ t9, M18.2.1 = t9 := ⟨_, rfl⟩
      rw [tp16, tp32] at tp30
      show pl _ _ _ (75, [(4, .ref o), (3, .ref ac), (2, .ref ox), (0, .ref c), (1, .ref vd)], [.int 1], M18) _
      refine ps_if (S1 := (100, [], [], M18)) (S2 := (78, [(4, .ref o), (3, .ref ac), (2, .ref ox), (0, .ref c), (1, .ref vd)], [], M18)) rfl rfl rfl (fun c_75 => ?_) (fun c_75 => ?_)
      · exact absurd (of_decide_eq_true c_75) (by decide)
      exact dk_holds2_c (z9 := z9) (e0 := e0) h21 h28 h23 h24 h25 h26 h27 h22 hn hmj hfa hic hic2 hna hat hB91 hB92 hB1 hB2 hDs (by omega) (by omega) (by omega) (by omega) (by omega) (by omega) (by omega) (by omega) (by omega) (by omega) hq40 hq48 hq56 q64_s q72_s q72_V kf
    · skip
      obtain ⟨e933, q72_s, rfl, h34, h35, tp37⟩ := q19
      obtain ⟨t38, tp39⟩ : ∃ t9, M18.2.1 = t9 := ⟨_, rfl⟩
      rw [tp16, tp39] at tp37
      show pl _ _ _ (75, [(4, .ref o), (3, .ref ac), (2, .ref ox), (0, .ref c), (1, .ref vd)], [.int 0], M18) _
      refine ps_if (S1 := (100, [], [], M18)) (S2 := (78, [(4, .ref o), (3, .ref ac), (2, .ref ox), (0, .ref c), (1, .ref vd)], [], M18)) rfl rfl rfl (fun c_75 => ?_) (fun c_75 => ?_)
      rotate_left
      · exact absurd (by decide) (of_decide_eq_false c_75)
      refine ps_st (S' := (101, [], [.int 0], M18)) rfl rfl rfl ?_
      exact ps_ret rfl rfl (Or.inr ⟨e933, by
          unfold s_chk
          rw [hq40]
          try dsimp only
          rw [hq48]
          try dsimp only
          rw [hq56]
          try dsimp only
          rw [q64_s]
          try dsimp only
          rw [q72_s]
          try dsimp only
          first | done | rfl, rfl, h34, h35, by omega⟩)
  · skip
    obtain ⟨e940, q64_s, rfl, h41, h42, tp44⟩ := q3
    obtain ⟨t45, tp46⟩ : ∃ t9, M2.2.1 = t9 := ⟨_, rfl⟩
    rw [tp0, tp46] at tp44
    show pl _ _ _ (67, [(4, .ref o), (3, .ref ac), (2, .ref ox), (0, .ref c), (1, .ref vd)], [.int 0], M2) _
    refine ps_if (S1 := (100, [], [], M2)) (S2 := (70, [(4, .ref o), (3, .ref ac), (2, .ref ox), (0, .ref c), (1, .ref vd)], [], M2)) rfl rfl rfl (fun c_67 => ?_) (fun c_67 => ?_)
    rotate_left
    · exact absurd (by decide) (of_decide_eq_false c_67)
    refine ps_st (S' := (101, [], [.int 0], M2)) rfl rfl rfl ?_
    exact ps_ret rfl rfl (Or.inr ⟨e940, by
        unfold s_chk
        rw [hq40]
        try dsimp only
        rw [hq48]
        try dsimp only
        rw [hq56]
        try dsimp only
        rw [q64_s]
        try dsimp only
        first | done | rfl, rfl, h41, h42, by omega⟩)
set_option maxHeartbeats 1000000 in
theorem dk_holds2 {g : xe_G} {M : mi_H} {f : Nat → Int32} {n N q : Nat} {E : List (Nat × Nat)} {c b da vd fr mr fa ic mj na pa e0 : Nat} {mi ru wa k1 k3 k4 k5 k6 k7 : Int32} {B1 B2 : List Nat} {G1 G2 : Nat → Nat} {og ga gf : Nat} {gn gw : Int32} {gk : Value} (h_c : M.1 c = some (ob 3 [.ref b, .ref q, .int mi, .int (nI mj), .int (nI fa), .int (nI ic), .ref fr, .ref mr, .int (nI na), .int (nI pa), .int k1, .int 0, .int k3, .int k4, .int k5, .int k6, .int k7])) (h_b : M.1 b = some (ob 1 [.ref da])) (h_da : M.1 da = some (ar .byte n f)) (h_vd : M.1 vd = some (ob 10 [.int ru, .int wa])) (h_og : M.1 og = some (ob 11 [.ref ga, .int gn, .ref gf, gk, .int gw])) (hn : n ≤ 65540) (hmj : mj < 65536) (hfa : fa + 8 ≤ n) (hic : fa + 8 + 2 * ic ≤ n) (hic2 : ic < 65536) (hna : na < 65536 ∧ pa ≤ n) (hat : s_atts f n na pa = .inr e0) (hB91 : B1.length < 65536) (hB92 : B2.length < 65536) (hB1 : ∀ i, i < B1.length → B1.getD i 0 + 8 ≤ n ∧ ∃ e0, s_atts f n (by2 f (B1.getD i 0 + 6)) (B1.getD i 0 + 8) = .inr e0) (hB2 : ∀ i, i < B2.length → B2.getD i 0 + 8 ≤ n ∧ ∃ e0, s_atts f n (by2 f (B2.getD i 0 + 6)) (B2.getD i 0 + 8) = .inr e0) (hDs : ∀ i j, i < B1.length → j < B2.length → ¬ G1 i = G2 j) (l_c : c < M.2.1) (l_b : b < M.2.1) (l_da : da < M.2.1) (l_vd : vd < M.2.1) (l_q : q < M.2.1) (l_og : og < M.2.1) (hW : PW g f n N E q M) (hM1 : MV f B1 fr G1 0 M) (hM2 : MV f B2 mr G2 0 M) : pt (mT g) 11 [.ref c, .ref vd] M (fun v M' => (∃ (w2 w3 w4 w5 w6 w7 w8 w9 w10 w11 w12 w13 w14 w15 w16 : Value), (s_chk f n N E mj fa ic B1 B2 na pa = none) ∧ (PV g f n N E q M') ∧ v = some (.int 1) ∧ M'.1 vd = some (ob 10 [.int ru, .int wa]) ∧ M'.1 og = some (ob 11 [.ref ga, .int gn, .ref gf, gk, .int gw]) ∧ M'.1 c = some (ob 3 [.ref b, .ref q, w2, w3, w4, w5, w6, w7, w8, w9, w10, w11, w12, w13, w14, w15, w16]) ∧ M'.1 b = some (ob 1 [.ref da]) ∧ M'.1 da = some (ar .byte n f) ∧ M.2.1 ≤ M'.2.1) ∨ (∃ (e9 : Nat × Nat), (s_chk f n N E mj fa ic B1 B2 na pa = some e9) ∧ v = some (.int 0) ∧ M'.1 vd = some (ob 10 [.int (nI e9.1), .int (nI e9.2)]) ∧ M'.1 og = some (ob 11 [.ref ga, .int gn, .ref gf, gk, .int gw]) ∧ M.2.1 ≤ M'.2.1)) := by
  refine pt_in (b := mb_11 g) rfl (fun kf => ?_)
  show pl (mT g) kf (mb_11 g).2 (0, [(0, .ref c), (1, .ref vd)], [], M) _
  obtain ⟨z0, tp0⟩ : ∃ z0, M.2.1 = z0 := ⟨_, rfl⟩
  obtain ⟨hL, H, m, qq, F, cc, hP, hT, hBd, hb, hVF, hD⟩ := hW
  have h_q := hP.1
  have h_qq_1 := hP.2.1 1 (by decide) (by decide)
  have h_qq_2 := hP.2.1 2 (by decide) (by decide)
  have h_qq_3 := hP.2.1 3 (by decide) (by decide)
  have h_qq_4 := hP.2.1 4 (by decide) (by decide)
  have h_qq_5 := hP.2.1 5 (by decide) (by decide)
  have h_qq_6 := hP.2.2
  have l_qq_1 := hBd.2 1 (by decide) (by decide)
  have l_qq_2 := hBd.2 2 (by decide) (by decide)
  have l_qq_3 := hBd.2 3 (by decide) (by decide)
  have l_qq_4 := hBd.2 4 (by decide) (by decide)
  have l_qq_5 := hBd.2 5 (by decide) (by decide)
  have l_qq_6 := hBd.2 6 (by decide) (by decide)
  have l_fr := hM1.1
  have l_mr := hM2.1
  refine ps_st (S' := (1, [(0, .ref c), (1, .ref vd)], [.ref c], M)) rfl rfl rfl ?_
  refine ps_get (S' := (4, [(0, .ref c), (1, .ref vd)], [.ref q], M)) rfl h_c rfl rfl ?_
  refine pl_call (a := [.ref q]) (rest := []) rfl rfl rfl (dk_describeTexts (f := f) (n := n) (N := N) (H := H) (m := m) (q := q) (E := E) (qq := qq) (F := F) (cc := cc) h_q h_qq_1 h_qq_2 h_qq_3 h_qq_4 h_qq_5 h_qq_6 (by omega) (hVF) (hD)) (fun v1 M2 q3 => ?_)
  obtain ⟨G54, q4_s, rfl, h5, f6⟩ := q3
  have h8 := (f6.1 c (nin1 (ob_ar h_c h_qq_5))).trans h_c
  have h9 := (f6.1 b (nin1 (ob_ar h_b h_qq_5))).trans h_b
  have h10 := (f6.1 da (nin1 (ar_ne h_da h_qq_5 (by decide)))).trans h_da
  have h11 := (f6.1 vd (nin1 (ob_ar h_vd h_qq_5))).trans h_vd
  have h12 := (f6.1 og (nin1 (ob_ar h_og h_qq_5))).trans h_og
  have h13 := (f6.1 q (nin1 (ob_ar h_q h_qq_5))).trans h_q
  have h14 := (f6.1 (qq 1) (nin1 (hD 1 (by decide) (by decide)))).trans h_qq_1
  have h15 := (f6.1 (qq 2) (nin1 (hD 2 (by decide) (by decide)))).trans h_qq_2
  have h16 := (f6.1 (qq 3) (nin1 (hD 3 (by decide) (by decide)))).trans h_qq_3
  have h17 := (f6.1 (qq 4) (nin1 (hD 4 (by decide) (by decide)))).trans h_qq_4
  have h18 := (f6.1 (qq 6) (nin1 (ar_ne h_qq_6 h_qq_5 (by decide)))).trans h_qq_6
  have tp20 : M2.2.1 = z0 := by rw [f6.2]; exact tp0
  show pl _ _ _ (7, [(0, .ref c), (1, .ref vd)], [], M2) _
  have hV21 := hM1.keepX f6.gm h_qq_5 (by decide)
  have hV22 := hM2.keepX f6.gm h_qq_5 (by decide)
  have hV23 := hL.keepX f6.gm h_qq_5
  have hV : PV g f n N E q M2 := PV_of hV23 (PL5 h13 h14 h15 h16 h17 h5 h18) hT hBd f6.2 hb hVF q4_s
  clear h_c h_b h_da h_vd h_og h_q h_qq_1 h_qq_2 h_qq_3 h_qq_4 h_qq_5 h_qq_6 hM1 hM2 hL f6
  refine ps_newz rfl tp20 (fun M24 h25 f26 tp27 => ?_)
  have h28 := (f26 c (show c ≠ z0 by omega)).trans h8
  have h29 := (f26 b (show b ≠ z0 by omega)).trans h9
  have h30 := (f26 da (show da ≠ z0 by omega)).trans h10
  have h31 := (f26 vd (show vd ≠ z0 by omega)).trans h11
  have h32 := (f26 og (show og ≠ z0 by omega)).trans h12
  have hV33 := hV.new tp20 f26 tp27
  have hV34 := hV21.new tp20 f26 tp27
  have hV35 := hV22.new tp20 f26 tp27
  clear h8 h9 h10 h11 h12 hV hV21 hV22 f26
  show pl _ _ _ (10, [(0, .ref c), (1, .ref vd)], [.ref z0], M24) _
  refine ps_st (S' := (11, [(0, .ref c), (1, .ref vd)], [.ref z0, .ref z0], M24)) rfl rfl rfl ?_
  refine ps_st (S' := (12, [(0, .ref c), (1, .ref vd)], [.ref c, .ref z0, .ref z0], M24)) rfl rfl rfl ?_
  refine ps_st (S' := (13, [(0, .ref c), (1, .ref vd)], [.ref vd, .ref c, .ref z0, .ref z0], M24)) rfl rfl rfl ?_
  refine pl_call (a := [.ref z0, .ref c, .ref vd]) (rest := [.ref z0]) rfl rfl rfl (dk_poolCheck0 (q := q) (c := c) (b := b) (fr := fr) (mr := mr) (fa := fa) (ic := ic) (mj := mj) (na := na) (pa := pa) (vd := vd) (o8 := z0) (mi := mi) (k1 := k1) (k2 := 0) (k3 := k3) (k4 := k4) (k5 := k5) (k6 := k6) (k7 := k7) h25 h28) (fun v37 M38 q39 => ?_)
  obtain ⟨rfl, h40, f41⟩ := q39
  have h43 := (f41.1 c (nin1 (show c ≠ z0 by omega))).trans h28
  have h44 := (f41.1 b (nin1 (show b ≠ z0 by omega))).trans h29
  have h45 := (f41.1 da (nin1 (show da ≠ z0 by omega))).trans h30
  have h46 := (f41.1 vd (nin1 (show vd ≠ z0 by omega))).trans h31
  have h47 := (f41.1 og (nin1 (show og ≠ z0 by omega))).trans h32
  have tp49 : M38.2.1 = z0 + 1 := by rw [f41.2]; exact tp27
  have hV50 := hV33.keep f41.gm (n7c h25 (by decide) (n7nil))
  have hV51 := hV34.keep f41.gm (n6o h25 (by decide) (n6on))
  have hV52 := hV35.keep f41.gm (n6o h25 (by decide) (n6on))
  show pl _ _ _ (16, [(0, .ref c), (1, .ref vd)], [.ref z0], M38) _
  clear h28 h29 h30 h31 h32 h25 hV33 hV34 hV35 f41
  refine ps_st (S' := (17, [(2, .ref z0), (0, .ref c), (1, .ref vd)], [], M38)) rfl rfl rfl ?_
  refine ps_newz rfl tp49 (fun M53 h54 f55 tp56 => ?_)
  have h57 := (f55 c (show c ≠ (z0 + 1) by omega)).trans h43
  have h58 := (f55 b (show b ≠ (z0 + 1) by omega)).trans h44
  have h59 := (f55 da (show da ≠ (z0 + 1) by omega)).trans h45
  have h60 := (f55 vd (show vd ≠ (z0 + 1) by omega)).trans h46
  have h61 := (f55 og (show og ≠ (z0 + 1) by omega)).trans h47
  have h62 := (f55 z0 (show z0 ≠ (z0 + 1) by omega)).trans h40
  have hV63 := hV50.new tp49 f55 tp56
  have hV64 := hV51.new tp49 f55 tp56
  have hV65 := hV52.new tp49 f55 tp56
  clear h43 h44 h45 h46 h47 h40 hV50 hV51 hV52 f55
  show pl _ _ _ (20, [(2, .ref z0), (0, .ref c), (1, .ref vd)], [.ref (z0 + 1)], M53) _
  refine ps_st (S' := (21, [(2, .ref z0), (0, .ref c), (1, .ref vd)], [.ref (z0 + 1), .ref (z0 + 1)], M53)) rfl rfl rfl ?_
  refine ps_st (S' := (22, [(2, .ref z0), (0, .ref c), (1, .ref vd)], [.ref c, .ref (z0 + 1), .ref (z0 + 1)], M53)) rfl rfl rfl ?_
  refine ps_st (S' := (23, [(2, .ref z0), (0, .ref c), (1, .ref vd)], [.ref vd, .ref c, .ref (z0 + 1), .ref (z0 + 1)], M53)) rfl rfl rfl ?_
  refine pl_call (a := [.ref (z0 + 1), .ref c, .ref vd]) (rest := [.ref (z0 + 1)]) rfl rfl rfl (dk_attrCheck0 (q := q) (c := c) (b := b) (fr := fr) (mr := mr) (fa := fa) (ic := ic) (mj := mj) (na := na) (pa := pa) (vd := vd) (o0 := (z0 + 1)) (mi := mi) (k1 := k1) (k2 := 0) (k3 := k3) (k4 := k4) (k5 := k5) (k6 := k6) (k7 := k7) h54 h57) (fun v67 M68 q69 => ?_)
  obtain ⟨rfl, h70, f71⟩ := q69
  have h73 := (f71.1 c (nin1 (show c ≠ (z0 + 1) by omega))).trans h57
  have h74 := (f71.1 b (nin1 (show b ≠ (z0 + 1) by omega))).trans h58
  have h75 := (f71.1 da (nin1 (show da ≠ (z0 + 1) by omega))).trans h59
  have h76 := (f71.1 vd (nin1 (show vd ≠ (z0 + 1) by omega))).trans h60
  have h77 := (f71.1 og (nin1 (show og ≠ (z0 + 1) by omega))).trans h61
  have h78 := (f71.1 z0 (nin1 (show z0 ≠ (z0 + 1) by omega))).trans h62
  have tp80 : M68.2.1 = z0 + 2 := by rw [f71.2]; exact tp56
  have hV81 := hV63.keep f71.gm (n7c h54 (by decide) (n7nil))
  have hV82 := hV64.keep f71.gm (n6o h54 (by decide) (n6on))
  have hV83 := hV65.keep f71.gm (n6o h54 (by decide) (n6on))
  show pl _ _ _ (26, [(2, .ref z0), (0, .ref c), (1, .ref vd)], [.ref (z0 + 1)], M68) _
  clear h57 h58 h59 h60 h61 h62 h54 hV63 hV64 hV65 f71
  refine ps_st (S' := (27, [(3, .ref (z0 + 1)), (2, .ref z0), (0, .ref c), (1, .ref vd)], [], M68)) rfl rfl rfl ?_
  refine ps_newz rfl tp80 (fun M84 h85 f86 tp87 => ?_)
  have h88 := (f86 c (show c ≠ (z0 + 2) by omega)).trans h73
  have h89 := (f86 b (show b ≠ (z0 + 2) by omega)).trans h74
  have h90 := (f86 da (show da ≠ (z0 + 2) by omega)).trans h75
  have h91 := (f86 vd (show vd ≠ (z0 + 2) by omega)).trans h76
  have h92 := (f86 og (show og ≠ (z0 + 2) by omega)).trans h77
  have h93 := (f86 z0 (show z0 ≠ (z0 + 2) by omega)).trans h78
  have h94 := (f86 (z0 + 1) (show (z0 + 1) ≠ (z0 + 2) by omega)).trans h70
  have hV95 := hV81.new tp80 f86 tp87
  have hV96 := hV82.new tp80 f86 tp87
  have hV97 := hV83.new tp80 f86 tp87
  clear h73 h74 h75 h76 h77 h78 h70 hV81 hV82 hV83 f86
  show pl _ _ _ (30, [(3, .ref (z0 + 1)), (2, .ref z0), (0, .ref c), (1, .ref vd)], [.ref (z0 + 2)], M84) _
  refine ps_st (S' := (31, [(3, .ref (z0 + 1)), (2, .ref z0), (0, .ref c), (1, .ref vd)], [.ref (z0 + 2), .ref (z0 + 2)], M84)) rfl rfl rfl ?_
  refine ps_st (S' := (32, [(3, .ref (z0 + 1)), (2, .ref z0), (0, .ref c), (1, .ref vd)], [.ref c, .ref (z0 + 2), .ref (z0 + 2)], M84)) rfl rfl rfl ?_
  refine ps_st (S' := (33, [(3, .ref (z0 + 1)), (2, .ref z0), (0, .ref c), (1, .ref vd)], [.ref vd, .ref c, .ref (z0 + 2), .ref (z0 + 2)], M84)) rfl rfl rfl ?_
  refine ps_st (S' := (34, [(3, .ref (z0 + 1)), (2, .ref z0), (0, .ref c), (1, .ref vd)], [.ref (z0 + 1), .ref vd, .ref c, .ref (z0 + 2), .ref (z0 + 2)], M84)) rfl rfl rfl ?_
  refine pl_call (a := [.ref (z0 + 2), .ref c, .ref vd, .ref (z0 + 1)]) (rest := [.ref (z0 + 2)]) rfl rfl rfl (dk_classCheck0 (q := q) (c := c) (b := b) (fr := fr) (mr := mr) (fa := fa) (ic := ic) (mj := mj) (na := na) (pa := pa) (vd := vd) (o2 := (z0 + 2)) (ac := (z0 + 1)) (mi := mi) (k1 := k1) (k2 := 0) (k3 := k3) (k4 := k4) (k5 := k5) (k6 := k6) (k7 := k7) h85 h88) (fun v99 M100 q101 => ?_)
  obtain ⟨rfl, h102, f103⟩ := q101
  have h105 := (f103.1 c (nin1 (show c ≠ (z0 + 2) by omega))).trans h88
  have h106 := (f103.1 b (nin1 (show b ≠ (z0 + 2) by omega))).trans h89
  have h107 := (f103.1 da (nin1 (show da ≠ (z0 + 2) by omega))).trans h90
  have h108 := (f103.1 vd (nin1 (show vd ≠ (z0 + 2) by omega))).trans h91
  have h109 := (f103.1 og (nin1 (show og ≠ (z0 + 2) by omega))).trans h92
  have h110 := (f103.1 z0 (nin1 (show z0 ≠ (z0 + 2) by omega))).trans h93
  have h111 := (f103.1 (z0 + 1) (nin1 (show (z0 + 1) ≠ (z0 + 2) by omega))).trans h94
  have tp113 : M100.2.1 = z0 + 3 := by rw [f103.2]; exact tp87
  have hV114 := hV95.keep f103.gm (n7c h85 (by decide) (n7nil))
  have hV115 := hV96.keep f103.gm (n6o h85 (by decide) (n6on))
  have hV116 := hV97.keep f103.gm (n6o h85 (by decide) (n6on))
  show pl _ _ _ (37, [(3, .ref (z0 + 1)), (2, .ref z0), (0, .ref c), (1, .ref vd)], [.ref (z0 + 2)], M100) _
  clear h88 h89 h90 h91 h92 h93 h94 h85 hV95 hV96 hV97 f103
  refine ps_st (S' := (39, [(4, .ref (z0 + 2)), (3, .ref (z0 + 1)), (2, .ref z0), (0, .ref c), (1, .ref vd)], [], M100)) rfl rfl rfl ?_
  refine ps_st (S' := (40, [(4, .ref (z0 + 2)), (3, .ref (z0 + 1)), (2, .ref z0), (0, .ref c), (1, .ref vd)], [.ref z0], M100)) rfl rfl rfl ?_
  refine pl_call (a := [.ref z0]) (rest := []) rfl rfl rfl (dk_entriesHold (f := f) (n := n) (N := N) (q := q) (E := E) (o := z0) (vd := vd) (mj := mj) (ru := ru) (wa := wa) h110 h108 (hmj) (hV114)) (fun v117 M118 q119 => ?_)
  rcases q119 with q119 | q119
  · skip
    obtain ⟨q40_s, rfl, h120, f121⟩ := q119
    have h123 := (f121.1 c (nin1 (ob_ne h105 h108 (by decide)))).trans h105
    have h124 := (f121.1 b (nin1 (ob_ne h106 h108 (by decide)))).trans h106
    have h125 := (f121.1 da (nin1 (Ne.symm (ob_ar h108 h107)))).trans h107
    have h126 := (f121.1 og (nin1 (ob_ne h109 h108 (by decide)))).trans h109
    have h127 := (f121.1 z0 (nin1 (show z0 ≠ vd by omega))).trans h110
    have h128 := (f121.1 (z0 + 1) (nin1 (show (z0 + 1) ≠ vd by omega))).trans h111
    have h129 := (f121.1 (z0 + 2) (nin1 (show (z0 + 2) ≠ vd by omega))).trans h102
    have tp131 : M118.2.1 = z0 + 3 := by rw [f121.2]; exact tp113
    have hV132 := hV114.keep f121.gm (n7c h108 (by decide) (n7nil))
    have hV133 := hV115.keep f121.gm (n6o h108 (by decide) (n6on))
    have hV134 := hV116.keep f121.gm (n6o h108 (by decide) (n6on))
    show pl _ _ _ (43, [(4, .ref (z0 + 2)), (3, .ref (z0 + 1)), (2, .ref z0), (0, .ref c), (1, .ref vd)], [.int 1], M118) _
    clear h105 h106 h107 h108 h109 h110 h111 h102 hV114 hV115 hV116 f121
    refine ps_if (S1 := (100, [], [], M118)) (S2 := (46, [(4, .ref (z0 + 2)), (3, .ref (z0 + 1)), (2, .ref z0), (0, .ref c), (1, .ref vd)], [], M118)) rfl rfl rfl (fun c_43 => ?_) (fun c_43 => ?_)
    · exact absurd (of_decide_eq_true c_43) (by decide)
    refine ps_st (S' := (48, [(4, .ref (z0 + 2)), (3, .ref (z0 + 1)), (2, .ref z0), (0, .ref c), (1, .ref vd)], [.ref (z0 + 2)], M118)) rfl rfl rfl ?_
    refine pl_call (a := [.ref (z0 + 2)]) (rest := []) rfl rfl rfl (dk_headHolds (f := f) (n := n) (N := N) (q := q) (E := E) (o := (z0 + 2)) (c := c) (b := b) (da := da) (vd := vd) (ac := (z0 + 1)) (fr := fr) (mr := mr) (fa := fa) (ic := ic) (mj := mj) (na := na) (pa := pa) (mi := mi) (ru := ru) (wa := wa) (k1 := k1) (k2 := 0) (k3 := k3) (k4 := k4) (k5 := k5) (k6 := k6) (k7 := k7) h129 h123 h124 h125 h120 (hn) (hmj) (hfa) (hV132)) (fun v135 M136 q137 => ?_)
    rcases q137 with q137 | q137
    · skip
      obtain ⟨q48_s, rfl, h138, f139⟩ := q137
      have h141 := (f139.1 c (nin1 (ob_ne h123 h120 (by decide)))).trans h123
      have h142 := (f139.1 b (nin1 (ob_ne h124 h120 (by decide)))).trans h124
      have h143 := (f139.1 da (nin1 (Ne.symm (ob_ar h120 h125)))).trans h125
      have h144 := (f139.1 og (nin1 (ob_ne h126 h120 (by decide)))).trans h126
      have h145 := (f139.1 z0 (nin1 (show z0 ≠ vd by omega))).trans h127
      have h146 := (f139.1 (z0 + 1) (nin1 (show (z0 + 1) ≠ vd by omega))).trans h128
      have h147 := (f139.1 (z0 + 2) (nin1 (show (z0 + 2) ≠ vd by omega))).trans h129
      have tp149 : M136.2.1 = z0 + 3 := by rw [f139.2]; exact tp131
      have hV150 := hV132.keep f139.gm (n7c h120 (by decide) (n7nil))
      have hV151 := hV133.keep f139.gm (n6o h120 (by decide) (n6on))
      have hV152 := hV134.keep f139.gm (n6o h120 (by decide) (n6on))
      show pl _ _ _ (51, [(4, .ref (z0 + 2)), (3, .ref (z0 + 1)), (2, .ref z0), (0, .ref c), (1, .ref vd)], [.int 1], M136) _
      clear h123 h124 h125 h120 h126 h127 h128 h129 hV132 hV133 hV134 f139
      refine ps_if (S1 := (100, [], [], M136)) (S2 := (54, [(4, .ref (z0 + 2)), (3, .ref (z0 + 1)), (2, .ref z0), (0, .ref c), (1, .ref vd)], [], M136)) rfl rfl rfl (fun c_51 => ?_) (fun c_51 => ?_)
      · exact absurd (of_decide_eq_true c_51) (by decide)
      refine ps_st (S' := (56, [(4, .ref (z0 + 2)), (3, .ref (z0 + 1)), (2, .ref z0), (0, .ref c), (1, .ref vd)], [.ref (z0 + 2)], M136)) rfl rfl rfl ?_
      refine pl_call (a := [.ref (z0 + 2)]) (rest := []) rfl rfl rfl (dk_interfacesHold (f := f) (n := n) (N := N) (q := q) (E := E) (o := (z0 + 2)) (c := c) (b := b) (da := da) (vd := vd) (ac := (z0 + 1)) (fr := fr) (mr := mr) (fa := fa) (ic := ic) (mj := mj) (na := na) (pa := pa) (mi := mi) (ru := ru) (wa := wa) (k1 := k1) (k2 := 0) (k3 := k3) (k4 := k4) (k5 := k5) (k6 := k6) (k7 := k7) h147 h141 h142 h143 h138 (hn) (hmj) (hfa) (hic) (hV150)) (fun v153 M154 q155 => ?_)
      rcases q155 with q155 | q155
      · skip
        obtain ⟨q56_s, rfl, h156, f157⟩ := q155
        have h159 := (f157.1 c (nin1 (ob_ne h141 h138 (by decide)))).trans h141
        have h160 := (f157.1 b (nin1 (ob_ne h142 h138 (by decide)))).trans h142
        have h161 := (f157.1 da (nin1 (Ne.symm (ob_ar h138 h143)))).trans h143
        have h162 := (f157.1 og (nin1 (ob_ne h144 h138 (by decide)))).trans h144
        have h163 := (f157.1 z0 (nin1 (show z0 ≠ vd by omega))).trans h145
        have h164 := (f157.1 (z0 + 1) (nin1 (show (z0 + 1) ≠ vd by omega))).trans h146
        have h165 := (f157.1 (z0 + 2) (nin1 (show (z0 + 2) ≠ vd by omega))).trans h147
        have tp167 : M154.2.1 = z0 + 3 := by rw [f157.2]; exact tp149
        have hV168 := hV150.keep f157.gm (n7c h138 (by decide) (n7nil))
        have hV169 := hV151.keep f157.gm (n6o h138 (by decide) (n6on))
        have hV170 := hV152.keep f157.gm (n6o h138 (by decide) (n6on))
        show pl _ _ _ (59, [(4, .ref (z0 + 2)), (3, .ref (z0 + 1)), (2, .ref z0), (0, .ref c), (1, .ref vd)], [.int 1], M154) _
        clear h141 h142 h143 h138 h144 h145 h146 h147 hV150 hV151 hV152 f157
        refine ps_if (S1 := (100, [], [], M154)) (S2 := (62, [(4, .ref (z0 + 2)), (3, .ref (z0 + 1)), (2, .ref z0), (0, .ref c), (1, .ref vd)], [], M154)) rfl rfl rfl (fun c_59 => ?_) (fun c_59 => ?_)
        · exact absurd (of_decide_eq_true c_59) (by decide)
        exact dk_holds2_b (z9 := M.2.1) (e0 := e0) h163 h164 h165 h159 h160 h161 h156 h162 hn hmj hfa hic hic2 hna hat hB91 hB92 hB1 hB2 hDs (by omega) (by omega) (by omega) (by omega) (by omega) (by omega) (by omega) (by omega) (by omega) (by omega) q40_s q48_s q56_s hV168 hV169 hV170 kf
      · skip
        obtain ⟨e171, q56_s, rfl, h172, f173⟩ := q155
        have h175 := (f173.1 c (nin1 (ob_ne h141 h138 (by decide)))).trans h141
        have h176 := (f173.1 b (nin1 (ob_ne h142 h138 (by decide)))).trans h142
        have h177 := (f173.1 da (nin1 (Ne.symm (ob_ar h138 h143)))).trans h143
        have h178 := (f173.1 og (nin1 (ob_ne h144 h138 (by decide)))).trans h144
        have h179 := (f173.1 z0 (nin1 (show z0 ≠ vd by omega))).trans h145
        have h180 := (f173.1 (z0 + 1) (nin1 (show (z0 + 1) ≠ vd by omega))).trans h146
        have h181 := (f173.1 (z0 + 2) (nin1 (show (z0 + 2) ≠ vd by omega))).trans h147
        have tp183 : M154.2.1 = z0 + 3 := by rw [f173.2]; exact tp149
        have hV184 := hV150.keep f173.gm (n7c h138 (by decide) (n7nil))
        have hV185 := hV151.keep f173.gm (n6o h138 (by decide) (n6on))
        have hV186 := hV152.keep f173.gm (n6o h138 (by decide) (n6on))
        show pl _ _ _ (59, [(4, .ref (z0 + 2)), (3, .ref (z0 + 1)), (2, .ref z0), (0, .ref c), (1, .ref vd)], [.int 0], M154) _
        clear h141 h142 h143 h138 h144 h145 h146 h147 hV150 hV151 hV152 f173
        refine ps_if (S1 := (100, [], [], M154)) (S2 := (62, [(4, .ref (z0 + 2)), (3, .ref (z0 + 1)), (2, .ref z0), (0, .ref c), (1, .ref vd)], [], M154)) rfl rfl rfl (fun c_59 => ?_) (fun c_59 => ?_)
        rotate_left
        · exact absurd (by decide) (of_decide_eq_false c_59)
        refine ps_st (S' := (101, [], [.int 0], M154)) rfl rfl rfl ?_
        exact ps_ret rfl rfl (Or.inr ⟨e171, by
            unfold s_chk
            rw [q40_s]
            try dsimp only
            rw [q48_s]
            try dsimp only
            rw [q56_s]
            try dsimp only
            first | done | rfl, rfl, h172, h178, by omega⟩)
    · skip
      obtain ⟨e187, q48_s, rfl, h188, f189⟩ := q137
      have h191 := (f189.1 c (nin1 (ob_ne h123 h120 (by decide)))).trans h123
      have h192 := (f189.1 b (nin1 (ob_ne h124 h120 (by decide)))).trans h124
      have h193 := (f189.1 da (nin1 (Ne.symm (ob_ar h120 h125)))).trans h125
      have h194 := (f189.1 og (nin1 (ob_ne h126 h120 (by decide)))).trans h126
      have h195 := (f189.1 z0 (nin1 (show z0 ≠ vd by omega))).trans h127
      have h196 := (f189.1 (z0 + 1) (nin1 (show (z0 + 1) ≠ vd by omega))).trans h128
      have h197 := (f189.1 (z0 + 2) (nin1 (show (z0 + 2) ≠ vd by omega))).trans h129
      have tp199 : M136.2.1 = z0 + 3 := by rw [f189.2]; exact tp131
      have hV200 := hV132.keep f189.gm (n7c h120 (by decide) (n7nil))
      have hV201 := hV133.keep f189.gm (n6o h120 (by decide) (n6on))
      have hV202 := hV134.keep f189.gm (n6o h120 (by decide) (n6on))
      show pl _ _ _ (51, [(4, .ref (z0 + 2)), (3, .ref (z0 + 1)), (2, .ref z0), (0, .ref c), (1, .ref vd)], [.int 0], M136) _
      clear h123 h124 h125 h120 h126 h127 h128 h129 hV132 hV133 hV134 f189
      refine ps_if (S1 := (100, [], [], M136)) (S2 := (54, [(4, .ref (z0 + 2)), (3, .ref (z0 + 1)), (2, .ref z0), (0, .ref c), (1, .ref vd)], [], M136)) rfl rfl rfl (fun c_51 => ?_) (fun c_51 => ?_)
      rotate_left
      · exact absurd (by decide) (of_decide_eq_false c_51)
      refine ps_st (S' := (101, [], [.int 0], M136)) rfl rfl rfl ?_
      exact ps_ret rfl rfl (Or.inr ⟨e187, by
          unfold s_chk
          rw [q40_s]
          try dsimp only
          rw [q48_s]
          try dsimp only
          first | done | rfl, rfl, h188, h194, by omega⟩)
  · skip
    obtain ⟨e203, q40_s, rfl, h204, f205⟩ := q119
    have h207 := (f205.1 c (nin1 (ob_ne h105 h108 (by decide)))).trans h105
    have h208 := (f205.1 b (nin1 (ob_ne h106 h108 (by decide)))).trans h106
    have h209 := (f205.1 da (nin1 (Ne.symm (ob_ar h108 h107)))).trans h107
    have h210 := (f205.1 og (nin1 (ob_ne h109 h108 (by decide)))).trans h109
    have h211 := (f205.1 z0 (nin1 (show z0 ≠ vd by omega))).trans h110
    have h212 := (f205.1 (z0 + 1) (nin1 (show (z0 + 1) ≠ vd by omega))).trans h111
    have h213 := (f205.1 (z0 + 2) (nin1 (show (z0 + 2) ≠ vd by omega))).trans h102
    have tp215 : M118.2.1 = z0 + 3 := by rw [f205.2]; exact tp113
    have hV216 := hV114.keep f205.gm (n7c h108 (by decide) (n7nil))
    have hV217 := hV115.keep f205.gm (n6o h108 (by decide) (n6on))
    have hV218 := hV116.keep f205.gm (n6o h108 (by decide) (n6on))
    show pl _ _ _ (43, [(4, .ref (z0 + 2)), (3, .ref (z0 + 1)), (2, .ref z0), (0, .ref c), (1, .ref vd)], [.int 0], M118) _
    clear h105 h106 h107 h108 h109 h110 h111 h102 hV114 hV115 hV116 f205
    refine ps_if (S1 := (100, [], [], M118)) (S2 := (46, [(4, .ref (z0 + 2)), (3, .ref (z0 + 1)), (2, .ref z0), (0, .ref c), (1, .ref vd)], [], M118)) rfl rfl rfl (fun c_43 => ?_) (fun c_43 => ?_)
    rotate_left
    · exact absurd (by decide) (of_decide_eq_false c_43)
    refine ps_st (S' := (101, [], [.int 0], M118)) rfl rfl rfl ?_
    exact ps_ret rfl rfl (Or.inr ⟨e203, by
        unfold s_chk
        rw [q40_s]
        try dsimp only
        first | done | rfl, rfl, h204, h210, by omega⟩)
set_option maxHeartbeats 1000000 in
theorem dk_read2 {g : xe_G} {M : mi_H} {f : Nat → Int32} {n o ca da : Nat} {cn wp : Int32} {kv : Value} (h_o : M.1 o = some (ob 11 [.ref ca, .int cn, .ref da, kv, .int wp])) (h_da : M.1 da = some (ar .byte n f)) (hn : n ≤ 65540) (l_o : o < M.2.1) (l_da : da < M.2.1) (hL : LT g M) : pt (mT g) 18 [.ref o] M (fun v M' => (∃ (c2 : Nat), (s_read f n = none) ∧ (KC g f n c2 da M') ∧ (M.2.1 ≤ c2) ∧ v = some (.int 0) ∧ M'.1 o = some (ob 11 [.ref ca, .int cn, .ref g.1, .ref c2, .int (-1)]) ∧ M.2.1 ≤ M'.2.1) ∨ (∃ (e9 : Nat × Nat), (s_read f n = some e9) ∧ v = some (.int (nI e9.1)) ∧ M'.1 o = some (ob 11 [.ref ca, .int cn, .ref g.1, kv, .int (nI e9.2)]) ∧ M.2.1 ≤ M'.2.1)) := by
  refine pt_in (b := mb_18 g) rfl (fun kf => ?_)
  show pl (mT g) kf (mb_18 g).2 (0, [(0, .ref o)], [], M) _
  obtain ⟨z0, tp0⟩ : ∃ z0, M.2.1 = z0 := ⟨_, rfl⟩
  refine ps_newz rfl tp0 (fun M1 h2 f3 tp4 => ?_)
  have h5 := (f3 o (show o ≠ z0 by omega)).trans h_o
  have h6 := (f3 da (show da ≠ z0 by omega)).trans h_da
  have hV7 := hL.new tp0 f3 tp4
  clear h_o h_da hL f3
  show pl _ _ _ (3, [(0, .ref o)], [.ref z0], M1) _
  refine ps_st (S' := (4, [(0, .ref o)], [.ref z0, .ref z0], M1)) rfl rfl rfl ?_
  refine ps_newz rfl tp4 (fun M9 h10 f11 tp12 => ?_)
  have h13 := (f11 o (show o ≠ (z0 + 1) by omega)).trans h5
  have h14 := (f11 da (show da ≠ (z0 + 1) by omega)).trans h6
  have h15 := (f11 z0 (show z0 ≠ (z0 + 1) by omega)).trans h2
  have hV16 := hV7.new tp4 f11 tp12
  clear h5 h6 h2 hV7 f11
  show pl _ _ _ (7, [(0, .ref o)], [.ref (z0 + 1), .ref z0, .ref z0], M9) _
  refine ps_st (S' := (8, [(0, .ref o)], [.ref (z0 + 1), .ref (z0 + 1), .ref z0, .ref z0], M9)) rfl rfl rfl ?_
  refine ps_st (S' := (9, [(0, .ref o)], [.ref o, .ref (z0 + 1), .ref (z0 + 1), .ref z0, .ref z0], M9)) rfl rfl rfl ?_
  refine ps_get (S' := (12, [(0, .ref o)], [.ref da, .ref (z0 + 1), .ref (z0 + 1), .ref z0, .ref z0], M9)) rfl h13 rfl rfl ?_
  refine pl_call (a := [.ref (z0 + 1), .ref da]) (rest := [.ref (z0 + 1), .ref z0, .ref z0]) rfl rfl rfl (dk_bytes0 (o1 := (z0 + 1)) (da := da) h10) (fun v18 M19 q20 => ?_)
  obtain ⟨rfl, h21, f22⟩ := q20
  have h24 := (f22.1 o (nin1 (show o ≠ (z0 + 1) by omega))).trans h13
  have h25 := (f22.1 da (nin1 (show da ≠ (z0 + 1) by omega))).trans h14
  have h26 := (f22.1 z0 (nin1 (show z0 ≠ (z0 + 1) by omega))).trans h15
  have tp28 : M19.2.1 = z0 + 2 := by rw [f22.2]; exact tp12
  have hV29 := hV16.keep f22.gm (n7c h10 (by decide) (n7nil))
  show pl _ _ _ (15, [(0, .ref o)], [.ref (z0 + 1), .ref z0, .ref z0], M19) _
  clear h13 h14 h15 h10 hV16 f22
  refine pl_call (a := [.ref z0, .ref (z0 + 1)]) (rest := [.ref z0]) rfl rfl rfl (dk_classFile0 (o3 := z0) (b := (z0 + 1)) h26 (by omega)) (fun v30 M31 q32 => ?_)
  obtain ⟨u133, u634, u735, rfl, h36, f37, tp38⟩ := q32
  have h39 := (f37.1 o (by omega) (nin1 (show o ≠ z0 by omega))).trans h24
  have h40 := (f37.1 da (by omega) (nin1 (show da ≠ z0 by omega))).trans h25
  have h41 := (f37.1 (z0 + 1) (by omega) (nin1 (show (z0 + 1) ≠ z0 by omega))).trans h21
  obtain ⟨t43, tp44⟩ : ∃ t9, M31.2.1 = t9 := ⟨_, rfl⟩
  rw [tp28, tp44] at tp38
  have hV45 := hV29.keep f37 (n7c h26 (by decide) (n7nil))
  show pl _ _ _ (18, [(0, .ref o)], [.ref z0], M31) _
  clear h24 h25 h26 h21 hV29 f37
  refine ps_st (S' := (19, [(1, .ref z0), (0, .ref o)], [], M31)) rfl rfl rfl ?_
  refine ps_newz rfl tp44 (fun M46 h47 f48 tp49 => ?_)
  have h50 := (f48 o (show o ≠ t43 by omega)).trans h39
  have h51 := (f48 da (show da ≠ t43 by omega)).trans h40
  have h52 := (f48 z0 (show z0 ≠ t43 by omega)).trans h36
  have h53 := (f48 (z0 + 1) (show (z0 + 1) ≠ t43 by omega)).trans h41
  have hV54 := hV45.new tp44 f48 tp49
  clear h39 h40 h36 h41 hV45 f48
  show pl _ _ _ (22, [(1, .ref z0), (0, .ref o)], [.ref t43], M46) _
  refine ps_st (S' := (23, [(1, .ref z0), (0, .ref o)], [.ref t43, .ref t43], M46)) rfl rfl rfl ?_
  refine pl_call (a := [.ref t43]) (rest := [.ref t43]) rfl rfl rfl (dk_verdict0 (o10 := t43) h47) (fun v56 M57 q58 => ?_)
  obtain ⟨rfl, h59, f60⟩ := q58
  have h62 := (f60.1 o (nin1 (show o ≠ t43 by omega))).trans h50
  have h63 := (f60.1 da (nin1 (show da ≠ t43 by omega))).trans h51
  have h64 := (f60.1 z0 (nin1 (show z0 ≠ t43 by omega))).trans h52
  have h65 := (f60.1 (z0 + 1) (nin1 (show (z0 + 1) ≠ t43 by omega))).trans h53
  have tp67 : M57.2.1 = t43 + 1 := by rw [f60.2]; exact tp49
  have hV68 := hV54.keep f60.gm (n7c h47 (by decide) (n7nil))
  show pl _ _ _ (26, [(1, .ref z0), (0, .ref o)], [.ref t43], M57) _
  clear h50 h51 h52 h53 h47 hV54 f60
  refine ps_st (S' := (27, [(2, .ref t43), (1, .ref z0), (0, .ref o)], [], M57)) rfl rfl rfl ?_
  refine ps_st (S' := (28, [(2, .ref t43), (1, .ref z0), (0, .ref o)], [.ref o], M57)) rfl rfl rfl ?_
  refine ps_st (S' := (31, [(2, .ref t43), (1, .ref z0), (0, .ref o)], [.ref g.1, .ref o], M57)) rfl rfl rfl ?_
  refine ps_put (l' := [.ref ca, .int cn, .ref g.1, kv, .int wp]) rfl h62 rfl rfl (fun M69 h70 f71 z72 => ?_)
  have h73 := (f71 da (Ne.symm (ob_ar h62 h63))).trans h63
  have h74 := (f71 z0 (show z0 ≠ o by omega)).trans h64
  have h75 := (f71 (z0 + 1) (show (z0 + 1) ≠ o by omega)).trans h65
  have h76 := (f71 t43 (show t43 ≠ o by omega)).trans h59
  have hV77 := hV68.put h62 (by decide) f71 z72
  have tp79 : M69.2.1 = t43 + 1 := by rw [z72]; exact tp67
  clear h62 h63 h64 h65 h59 hV68 f71
  show pl _ _ _ (34, [(2, .ref t43), (1, .ref z0), (0, .ref o)], [], M69) _
  refine ps_st (S' := (35, [(2, .ref t43), (1, .ref z0), (0, .ref o)], [.ref z0], M69)) rfl rfl rfl ?_
  refine ps_st (S' := (36, [(2, .ref t43), (1, .ref z0), (0, .ref o)], [.ref t43, .ref z0], M69)) rfl rfl rfl ?_
  refine pl_call (a := [.ref z0, .ref t43]) (rest := []) rfl rfl rfl (dk_isWhole (f := f) (n := n) (c := z0) (b := (z0 + 1)) (da := da) (vd := t43) (ru := 0) (wa := (-1)) (mi := 0) (ma := 0) (fa := 0) (ic := 0) (ac := 0) (aa := 0) (k1 := 0) (k2 := 0) (k3 := 0) (k4 := 0) (k5 := 0) (k6 := 0) (k7 := (-1)) (u1 := u133) (u6 := u634) (u7 := u735) (og := o) (ga := ca) (gf := g.1) (gn := cn) (gw := wp) (gk := kv) h74 h75 h73 h76 h70 (hn) (by omega) (by omega) (by omega) (by omega) (by omega) (hV77)) (fun v80 M81 q82 => ?_)
  rcases q82 with q82 | q82
  · skip
    obtain ⟨E83, q84, p185, pF86, pM87, pA88, m189, m290, G191, G292, q36_s, q36_b, q36_c, q36_f, q36_m, q36_a, q36_V, q36_M1, q36_M2, q36_D, rfl, h93, h94, h95, h96, h97, tp99⟩ := q82
    obtain ⟨t100, tp101⟩ : ∃ t9, M81.2.1 = t9 := ⟨_, rfl⟩
    rw [tp79, tp101] at tp99
    show pl _ _ _ (39, [(2, .ref t43), (1, .ref z0), (0, .ref o)], [.int 1], M81) _
    refine ps_if (S1 := (55, [(0, .ref o), (2, .ref t43)], [], M81)) (S2 := (42, [(2, .ref t43), (1, .ref z0), (0, .ref o)], [], M81)) rfl rfl rfl (fun c_39 => ?_) (fun c_39 => ?_)
    · exact absurd (of_decide_eq_true c_39) (by decide)
    refine ps_st (S' := (43, [(2, .ref t43), (1, .ref z0), (0, .ref o)], [.ref z0], M81)) rfl rfl rfl ?_
    refine ps_st (S' := (44, [(2, .ref t43), (1, .ref z0), (0, .ref o)], [.ref t43, .ref z0], M81)) rfl rfl rfl ?_
    have hb1 := mbs_of q36_f
    have hb2 := mbs_of q36_m
    have hc9 := s_class_in q36_c
    obtain ⟨ha8, ha9⟩ := s_atts_of q36_a
    have hu1 := by2_lt f pF86
    have hu2 := by2_lt f pM87
    refine pl_call (a := [.ref z0, .ref t43]) (rest := []) rfl rfl rfl (dk_holds2 (f := f) (n := n) (N := (by2 f 8)) (q := q84) (E := E83) (c := z0) (b := (z0 + 1)) (da := da) (vd := t43) (fr := m189) (mr := m290) (fa := p185) (ic := (by2 f (p185 + 6))) (mj := (by2 f 6)) (na := (by2 f pA88)) (pa := (pA88 + 2)) (e0 := n) (mi := (nI (by2 f 4))) (ru := 0) (wa := (-1)) (k1 := 0) (k3 := 0) (k4 := 0) (k5 := 0) (k6 := 0) (k7 := (-1)) (B1 := (mbs f n (by2 f pF86) (pF86 + 2))) (B2 := (mbs f n (by2 f pM87) (pM87 + 2))) (G1 := G191) (G2 := G292) (og := o) (ga := ca) (gf := g.1) (gn := cn) (gw := wp) (gk := kv) h93 h94 h95 h96 h97 (hn) (by2_lt _ _) (by omega) (by omega) (by2_lt _ _) (⟨by2_lt _ _, by omega⟩) (ha9) (by omega) (by omega) (hb1.2) (hb2.2) (q36_D) (by omega) (by omega) (by omega) (by omega) (by omega) (by omega) (q36_V) (q36_M1) (q36_M2)) (fun v102 M103 q104 => ?_)
    rcases q104 with q104 | q104
    · skip
      obtain ⟨w2105, w3106, w4107, w5108, w6109, w7110, w8111, w9112, w10113, w11114, w12115, w13116, w14117, w15118, w16119, q44_s, q44_V, rfl, h120, h121, h122, h123, h124, tp126⟩ := q104
      obtain ⟨t127, tp128⟩ : ∃ t9, M103.2.1 = t9 := ⟨_, rfl⟩
      rw [tp101, tp128] at tp126
      show pl _ _ _ (47, [(2, .ref t43), (1, .ref z0), (0, .ref o)], [.int 1], M103) _
      refine ps_if (S1 := (55, [(0, .ref o), (2, .ref t43)], [], M103)) (S2 := (50, [(2, .ref t43), (1, .ref z0), (0, .ref o)], [], M103)) rfl rfl rfl (fun c_47 => ?_) (fun c_47 => ?_)
      · exact absurd (of_decide_eq_true c_47) (by decide)
      refine ps_st (S' := (51, [(2, .ref t43), (1, .ref z0), (0, .ref o)], [.ref o], M103)) rfl rfl rfl ?_
      refine ps_st (S' := (52, [(2, .ref t43), (1, .ref z0), (0, .ref o)], [.ref z0, .ref o], M103)) rfl rfl rfl ?_
      refine ps_put (l' := [.ref ca, .int cn, .ref g.1, .ref z0, .int wp]) rfl h121 rfl rfl (fun M129 h130 f131 z132 => ?_)
      have h133 := (f131 t43 (show t43 ≠ o by omega)).trans h120
      have h134 := (f131 z0 (show z0 ≠ o by omega)).trans h122
      have h135 := (f131 (z0 + 1) (show (z0 + 1) ≠ o by omega)).trans h123
      have h136 := (f131 da (Ne.symm (ob_ar h121 h124))).trans h124
      have hV137 := q44_V.put h121 (by decide) f131 z132
      have tp139 : M129.2.1 = t127 := by rw [z132]; exact tp128
      clear h120 h121 h122 h123 h124 q44_V f131
      show pl _ _ _ (55, [(0, .ref o), (2, .ref t43)], [], M129) _
      refine ps_st (S' := (56, [(0, .ref o), (2, .ref t43)], [.ref o], M129)) rfl rfl rfl ?_
      refine ps_st (S' := (57, [(0, .ref o), (2, .ref t43)], [.ref t43, .ref o], M129)) rfl rfl rfl ?_
      refine ps_get (S' := (60, [(0, .ref o), (2, .ref t43)], [.int (-1), .ref o], M129)) rfl h133 rfl rfl ?_
      refine ps_put (l' := [.ref ca, .int cn, .ref g.1, .ref z0, .int (-1)]) rfl h130 rfl rfl (fun M140 h141 f142 z143 => ?_)
      have h144 := (f142 t43 (show t43 ≠ o by omega)).trans h133
      have h145 := (f142 z0 (show z0 ≠ o by omega)).trans h134
      have h146 := (f142 (z0 + 1) (show (z0 + 1) ≠ o by omega)).trans h135
      have h147 := (f142 da (Ne.symm (ob_ar h130 h136))).trans h136
      have hV148 := hV137.put h130 (by decide) f142 z143
      have tp150 : M140.2.1 = t127 := by rw [z143]; exact tp139
      clear h133 h130 h134 h135 h136 hV137 f142
      show pl _ _ _ (63, [(0, .ref o), (2, .ref t43)], [], M140) _
      refine ps_st (S' := (64, [(0, .ref o), (2, .ref t43)], [.ref t43], M140)) rfl rfl rfl ?_
      refine ps_get (S' := (67, [(0, .ref o), (2, .ref t43)], [.int 0], M140)) rfl h144 rfl rfl ?_
      have hrd : s_read f n = none := s_read_2 q36_s q44_s
      exact ps_ret rfl rfl (Or.inl ⟨z0, hrd, ⟨z0 + 1, q84, by2 f 8, E83, p185, pF86, pM87, pA88, _, h145, h146, h147, hV148, q36_s, rfl, ⟨by omega, by omega, by omega⟩, hn⟩, by omega, rfl, h141, by omega⟩)
    · skip
      obtain ⟨e9151, q44_s, rfl, h152, h153, tp155⟩ := q104
      obtain ⟨t156, tp157⟩ : ∃ t9, M103.2.1 = t9 := ⟨_, rfl⟩
      rw [tp101, tp157] at tp155
      show pl _ _ _ (47, [(2, .ref t43), (1, .ref z0), (0, .ref o)], [.int 0], M103) _
      refine ps_if (S1 := (55, [(0, .ref o), (2, .ref t43)], [], M103)) (S2 := (50, [(2, .ref t43), (1, .ref z0), (0, .ref o)], [], M103)) rfl rfl rfl (fun c_47 => ?_) (fun c_47 => ?_)
      rotate_left
      · exact absurd (by decide) (of_decide_eq_false c_47)
      refine ps_st (S' := (56, [(0, .ref o), (2, .ref t43)], [.ref o], M103)) rfl rfl rfl ?_
      refine ps_st (S' := (57, [(0, .ref o), (2, .ref t43)], [.ref t43, .ref o], M103)) rfl rfl rfl ?_
      refine ps_get (S' := (60, [(0, .ref o), (2, .ref t43)], [.int (nI e9151.2), .ref o], M103)) rfl h152 rfl rfl ?_
      refine ps_put (l' := [.ref ca, .int cn, .ref g.1, kv, .int (nI e9151.2)]) rfl h153 rfl rfl (fun M158 h159 f160 z161 => ?_)
      have h162 := (f160 t43 (show t43 ≠ o by omega)).trans h152
      have tp164 : M158.2.1 = t156 := by rw [z161]; exact tp157
      clear h152 h153 f160
      show pl _ _ _ (63, [(0, .ref o), (2, .ref t43)], [], M158) _
      refine ps_st (S' := (64, [(0, .ref o), (2, .ref t43)], [.ref t43], M158)) rfl rfl rfl ?_
      refine ps_get (S' := (67, [(0, .ref o), (2, .ref t43)], [.int (nI e9151.1)], M158)) rfl h162 rfl rfl ?_
      exact ps_reti rfl (Or.inr ⟨e9151, s_read_2 q36_s q44_s, rfl, h159, by omega⟩)
  · skip
    obtain ⟨e9165, q36_s, rfl, h166, h167, tp169⟩ := q82
    obtain ⟨t170, tp171⟩ : ∃ t9, M81.2.1 = t9 := ⟨_, rfl⟩
    rw [tp79, tp171] at tp169
    show pl _ _ _ (39, [(2, .ref t43), (1, .ref z0), (0, .ref o)], [.int 0], M81) _
    refine ps_if (S1 := (55, [(0, .ref o), (2, .ref t43)], [], M81)) (S2 := (42, [(2, .ref t43), (1, .ref z0), (0, .ref o)], [], M81)) rfl rfl rfl (fun c_39 => ?_) (fun c_39 => ?_)
    rotate_left
    · exact absurd (by decide) (of_decide_eq_false c_39)
    refine ps_st (S' := (56, [(0, .ref o), (2, .ref t43)], [.ref o], M81)) rfl rfl rfl ?_
    refine ps_st (S' := (57, [(0, .ref o), (2, .ref t43)], [.ref t43, .ref o], M81)) rfl rfl rfl ?_
    refine ps_get (S' := (60, [(0, .ref o), (2, .ref t43)], [.int (nI e9165.2), .ref o], M81)) rfl h166 rfl rfl ?_
    refine ps_put (l' := [.ref ca, .int cn, .ref g.1, kv, .int (nI e9165.2)]) rfl h167 rfl rfl (fun M172 h173 f174 z175 => ?_)
    have h176 := (f174 t43 (show t43 ≠ o by omega)).trans h166
    have tp178 : M172.2.1 = t170 := by rw [z175]; exact tp171
    clear h166 h167 f174
    show pl _ _ _ (63, [(0, .ref o), (2, .ref t43)], [], M172) _
    refine ps_st (S' := (64, [(0, .ref o), (2, .ref t43)], [.ref t43], M172)) rfl rfl rfl ?_
    refine ps_get (S' := (67, [(0, .ref o), (2, .ref t43)], [.int (nI e9165.1)], M172)) rfl h176 rfl rfl ?_
    exact ps_reti rfl (Or.inr ⟨e9165, s_read_1 q36_s, rfl, h173, by omega⟩)
end
section
/-! what the reference keeps (my own text) -/
section XKA
variable {f : Nat → Int32} {n : Nat} {I I' : rI} {R R' : rR}
/-- a file that is kept, as it was parsed -/
def XKV (f : Nat → Int32) (n : Nat) (I : rI) (R : rR) : Prop := ∃ (tx : List (List Nat)) (cN : Nat) (A : Nat → Nat) (E : List (Nat × Nat)) (N mj p1 pF pM pA : Nat), FK n f I R ∧ SYT tx cN A I R ∧ RPV f n E tx N I R ∧ I 51 = some 0 ∧ I 52 = some (nI N) ∧ I 53 = some (nI mj) ∧ s_whole f n = .inr (E, p1, pF, pM, pA) ∧ N = by2 f 8 ∧ mj = by2 f 6
theorem XKV.mono (h : XKV f n I R) (hI : ∀ k, k ∈ [3, 8, 16, 49, 51, 52, 53] → I' k = I k) (hR : ∀ k, k ∈ [1, 4, 5, 6, 7, 12, 21, 22] → R' k = R k) : XKV f n I' R' := by
  obtain ⟨tx, cN, A, E, N, mj, p1, pF, pM, pA, h1, h2, h3, h4, h5, h6, h7⟩ := h
  refine ⟨tx, cN, A, E, N, mj, p1, pF, pM, pA, h1.mono (fun k hk => hI k (by revert k; decide)) (fun k hk => hR k (by revert k; decide)), h2.mono (fun k hk => hI k (by revert k; decide)) (fun k hk => hR k (by revert k; decide)), h3.mono (fun k hk => by cases hk) (fun k hk => hR k (by revert k; decide)), (hI 51 (by decide)).trans h4, (hI 52 (by decide)).trans h5, (hI 53 (by decide)).trans h6, h7⟩
/-- what is kept, if anything is -/
def KPR (ko : Option (Nat × (Nat → Int32))) (I : rI) (R : rR) : Prop := match ko with
  | none => ∃ kn : Int32, I 18 = some kn ∧ kn < 0
  | some p => I 18 = some (nI p.1) ∧ p.1 ≤ 65540 ∧ BX 14 p.1 p.2 I R ∧ s_read p.2 p.1 = none ∧ XKV p.2 p.1 I R
theorem KPR.mono {ko : Option (Nat × (Nat → Int32))} (h : KPR ko I R) (hI : ∀ k, k ∈ [18, 3, 8, 16, 49, 51, 52, 53] → I' k = I k) (hR : ∀ k, k ∈ [14, 1, 4, 5, 6, 7, 12, 21, 22] → R' k = R k) : KPR ko I' R' := by
  cases ko with
  | none =>
    obtain ⟨kn, h1, h2⟩ := h
    exact ⟨kn, (hI 18 (by decide)).trans h1, h2⟩
  | some p =>
    obtain ⟨h1, h2, h3, h4, h5⟩ := h
    exact ⟨(hI 18 (by decide)).trans h1, h2, h3.mono (fun k hk => by cases hk) (fun k hk => hR k (by revert k; decide)), h4, h5.mono (fun k hk => hI k (by revert k; decide)) (fun k hk => hR k (by revert k; decide))⟩
end XKA
set_option maxHeartbeats 4000000 in
theorem rd_checkFile2 {g : xe_G} {m0 : Nat} {q : Nat → Nat} {z : Nat × Nat} {I : rI} {R : rR} {M : mi_H} {n : Nat} {f : Nat → Int32} {tx : List (List Nat)} {cN : Nat} {A : Nat → Nat} {s1 s2 s3 : Nat} (hR : RS g m0 q z I R M) (hi20 : I 20 = some 0) (hi25 : I 25 = some 0) (hi26 : I 26 = some 0) (hi9 : I 9 = some (nI s1)) (hi10 : I 10 = some (nI s2)) (hi11 : I 11 = some (nI s3)) (hF : FK n f I R) (hY : SYT tx cN A I R) (hK : KX I R) (hs1 : s1 < tx.length ∧ tx.getD s1 [] = ltx 25) (hs2 : s2 < tx.length ∧ tx.getD s2 [] = ltx 26) (hs3 : s3 < tx.length ∧ tx.getD s3 [] = ltx 27) : pt (mT g) 190 [.ref m0] M (fun v M' => (∃  (I' : rI) (R' : rR), (s_read f n = none) ∧ v = some (.int 1) ∧ RS g m0 q z I' R' M' ∧ eqI [3, 8, 20, 25, 26, 47, 48, 50, 51, 52, 53, 54, 55, 56, 57, 58, 59, 60, 61, 65, 66, 67, 68, 69, 70, 71, 72] I I' ∧ eqR [1, 2, 4, 5, 6, 7, 21, 22, 27, 28, 29, 30, 31, 32, 33, 34, 35, 36, 37, 38, 39, 40, 41, 42, 43, 44, 45, 46] R R' ∧ XKV f n I' R') ∨ (∃ (e9 : Nat × Nat) (I' : rI) (R' : rR), (s_read f n = some e9) ∧ v = some (.int 0) ∧ RS g m0 q z I' R' M' ∧ eqI [3, 8, 20, 25, 26, 47, 48, 50, 51, 52, 53, 54, 55, 56, 57, 58, 59, 60, 61, 65, 66, 67, 68, 69, 70, 71, 72] I I' ∧ eqR [1, 2, 4, 5, 6, 7, 21, 22, 27, 28, 29, 30, 31, 32, 33, 34, 35, 36, 37, 38, 39, 40, 41, 42, 43, 44, 45, 46] R R' ∧ I' 47 = some (nI e9.1) ∧ I' 48 = some (nI e9.2))) := by
  refine pt_in (b := mb_190 g) rfl (fun kf => ?_)
  show pl (mT g) kf (mb_190 g).2 (0, [(0, .ref m0)], [], M) _
  have hEI : eqI [3, 8, 20, 25, 26, 47, 48, 50, 51, 52, 53, 54, 55, 56, 57, 58, 59, 60, 61, 65, 66, 67, 68, 69, 70, 71, 72] I I := eqI.rf
  have hER : eqR [1, 2, 4, 5, 6, 7, 21, 22, 27, 28, 29, 30, 31, 32, 33, 34, 35, 36, 37, 38, 39, 40, 41, 42, 43, 44, 45, 46] R R := eqR.rf
  have hn := hF.1
  have LL : ∀ (kf : Nat), (∀ (N mj p1 pF pM pA : Nat) (E : List (Nat × Nat)) (tx : List (List Nat)) (cN : Nat) (A : Nat → Nat) (M1 : mi_H) (I1 : rI) (R1 : rR), (RS g m0 q z I1 R1 M1) → (eqI [3, 8, 20, 25, 26, 47, 48, 50, 51, 52, 53, 54, 55, 56, 57, 58, 59, 60, 61, 65, 66, 67, 68, 69, 70, 71, 72] I I1) → (eqR [1, 2, 4, 5, 6, 7, 21, 22, 27, 28, 29, 30, 31, 32, 33, 34, 35, 36, 37, 38, 39, 40, 41, 42, 43, 44, 45, 46] R R1) → (I1 51 = some 0) → (I1 52 = some (nI N)) → (I1 53 = some (nI mj)) → (I1 54 = some (nI p1)) → (I1 55 = some (nI pF)) → (I1 56 = some (nI pM)) → (I1 57 = some (nI pA)) → (I1 25 = some (nI 0)) → (I1 26 = some (nI 0)) → (I1 71 = some (nI 0)) → (I1 66 = some 0) → (I1 9 = some (nI s1)) → (I1 10 = some (nI s2)) → (I1 11 = some (nI s3)) → (FK n f I1 R1) → (SYT tx cN A I1 R1) → (RPV f n E tx N I1 R1) → (KX I1 R1) → (N = by2 f 8) → (mj = by2 f 6) → (s_whole f n = .inr (E, p1, pF, pM, pA)) → (s1 < tx.length ∧ tx.getD s1 [] = ltx 25) → (s2 < tx.length ∧ tx.getD s2 [] = ltx 26) → (s3 < tx.length ∧ tx.getD s3 [] = ltx 27) → (s_class f n p1 = .inr pF) → (s_mbs f n pF = .inr pM) → (s_mbs f n pM = .inr pA) → (s_attributes f n pA = .inr n) →  pl (mT g) kf (mb_190 g).2 (47, [(0, .ref m0)], [], M1) (fun v M' => (∃  (I' : rI) (R' : rR), (s_read f n = none) ∧ v = some (.int 1) ∧ RS g m0 q z I' R' M' ∧ eqI [3, 8, 20, 25, 26, 47, 48, 50, 51, 52, 53, 54, 55, 56, 57, 58, 59, 60, 61, 65, 66, 67, 68, 69, 70, 71, 72] I I' ∧ eqR [1, 2, 4, 5, 6, 7, 21, 22, 27, 28, 29, 30, 31, 32, 33, 34, 35, 36, 37, 38, 39, 40, 41, 42, 43, 44, 45, 46] R R' ∧ XKV f n I' R') ∨ (∃ (e9 : Nat × Nat) (I' : rI) (R' : rR), (s_read f n = some e9) ∧ v = some (.int 0) ∧ RS g m0 q z I' R' M' ∧ eqI [3, 8, 20, 25, 26, 47, 48, 50, 51, 52, 53, 54, 55, 56, 57, 58, 59, 60, 61, 65, 66, 67, 68, 69, 70, 71, 72] I I' ∧ eqR [1, 2, 4, 5, 6, 7, 21, 22, 27, 28, 29, 30, 31, 32, 33, 34, 35, 36, 37, 38, 39, 40, 41, 42, 43, 44, 45, 46] R R' ∧ I' 47 = some (nI e9.1) ∧ I' 48 = some (nI e9.2)))) ∧ (∀ (N mj bc k p1 pF pM pA : Nat) (E : List (Nat × Nat)) (tx : List (List Nat)) (cN : Nat) (A : Nat → Nat) (M1 : mi_H) (I1 : rI) (R1 : rR), (RS g m0 q z I1 R1 M1) → (eqI [3, 8, 20, 25, 26, 47, 48, 50, 51, 52, 53, 54, 55, 56, 57, 58, 59, 60, 61, 65, 66, 67, 68, 69, 70, 71, 72] I I1) → (eqR [1, 2, 4, 5, 6, 7, 21, 22, 27, 28, 29, 30, 31, 32, 33, 34, 35, 36, 37, 38, 39, 40, 41, 42, 43, 44, 45, 46] R R1) → (I1 51 = some 0) → (I1 52 = some (nI N)) → (I1 53 = some (nI mj)) → (I1 71 = some (nI bc)) → (FK n f I1 R1) → (SYT tx cN A I1 R1) → (RPV f n E tx N I1 R1) → (EP f n E) → (N < 65536) → (mj < 65536) → (bc < 65536) → (1 ≤ k ∧ k ≤ N) → (s_read f n = chkB f E bc (N - 1) 1) → (chkB f E bc (N - k) k = chkB f E bc (N - 1) 1) → (N = by2 f 8) → (mj = by2 f 6) → (s_whole f n = .inr (E, p1, pF, pM, pA)) →  pl (mT g) kf (mb_190 g).2 (94, [(0, .ref m0), (1, .int (nI k))], [], M1) (fun v M' => (∃  (I' : rI) (R' : rR), (s_read f n = none) ∧ v = some (.int 1) ∧ RS g m0 q z I' R' M' ∧ eqI [3, 8, 20, 25, 26, 47, 48, 50, 51, 52, 53, 54, 55, 56, 57, 58, 59, 60, 61, 65, 66, 67, 68, 69, 70, 71, 72] I I' ∧ eqR [1, 2, 4, 5, 6, 7, 21, 22, 27, 28, 29, 30, 31, 32, 33, 34, 35, 36, 37, 38, 39, 40, 41, 42, 43, 44, 45, 46] R R' ∧ XKV f n I' R') ∨ (∃ (e9 : Nat × Nat) (I' : rI) (R' : rR), (s_read f n = some e9) ∧ v = some (.int 0) ∧ RS g m0 q z I' R' M' ∧ eqI [3, 8, 20, 25, 26, 47, 48, 50, 51, 52, 53, 54, 55, 56, 57, 58, 59, 60, 61, 65, 66, 67, 68, 69, 70, 71, 72] I I' ∧ eqR [1, 2, 4, 5, 6, 7, 21, 22, 27, 28, 29, 30, 31, 32, 33, 34, 35, 36, 37, 38, 39, 40, 41, 42, 43, 44, 45, 46] R R' ∧ I' 47 = some (nI e9.1) ∧ I' 48 = some (nI e9.2)))) := by
    intro kf
    induction kf with
    | zero => exact ⟨by intros; exact pl_0, by intros; exact pl_0⟩
    | succ kf ih =>
      refine ⟨?_, ?_⟩
      · skip
        intro N mj p1 pF pM pA E tx cN A M1 I1 R1 hR1 hEI1 hER1 hl51 hl52 hl53 hl54 hl55 hl56 hl57 hl25 hl26 hl71 hl66 hl9 hl10 hl11 hF1 hY1 hP1 hK1 hN8 hm6 hwh hs1 hs2 hs3 hc hf hm ha
        have hn := hF1.1
        obtain ⟨hEP, hN0⟩ := EP_of (whole_in hwh)
        have hN : N < 65536 := by rw [hN8]; exact by2_lt _ _
        have hmj : mj < 65536 := by rw [hm6]; exact by2_lt _ _
        have hN1 : 1 ≤ N := by omega
        have hin := (s_class_in hc).1
        have hMF := MBS_of hf
        have hMM := MBS_of hm
        have hat := atE_at ha
        have hb1 := by2_lt f pF
        have hb2 := by2_lt f pM
        have hcf := by2_lt f p1
        refine ps_st1 (S' := (48, [(0, .ref m0)], [.ref m0], M1)) rfl rfl rfl ?_
        refine pl_call (a := [.ref m0]) (rest := []) rfl rfl rfl (rd_checkPool (n := n) (f := f) (tx := tx) (cN := cN) (A := A) (N := N) (mj := mj) (E := E) (s1 := s1) hR1 hl51 hl52 hl53 hl9 hF1 hY1 hP1 (hEP) (hN) (hmj) (hs1) (hN1)) (fun v1 M2 q3 => ?_)
        rcases q3 with q3 | q3
        · skip
          obtain ⟨I4, R5, q48_s, rfl, hR6, hI7, hX8⟩ := q3
          have hi9 := (hI7 51 (by decide)).trans hl51
          have hi10 := (hI7 52 (by decide)).trans hl52
          have hi11 := (hI7 53 (by decide)).trans hl53
          have hi12 := (hI7 54 (by decide)).trans hl54
          have hi13 := (hI7 55 (by decide)).trans hl55
          have hi14 := (hI7 56 (by decide)).trans hl56
          have hi15 := (hI7 57 (by decide)).trans hl57
          have hi16 := (hI7 25 (by decide)).trans hl25
          have hi17 := (hI7 26 (by decide)).trans hl26
          have hi18 := (hI7 71 (by decide)).trans hl71
          have hi19 := (hI7 66 (by decide)).trans hl66
          have hi20 := (hI7 9 (by decide)).trans hl9
          have hi21 := (hI7 10 (by decide)).trans hl10
          have hi22 := (hI7 11 (by decide)).trans hl11
          have hF_23 := hF1.mono (cIx hI7 (by decide)) (cRx hX8 (by decide))
          have hY_24 := hY1.mono (cIx hI7 (by decide)) (cRx hX8 (by decide))
          have hP_25 := hP1.mono (cIx hI7 (by decide)) (cRx hX8 (by decide))
          have hK_26 := hK1.mono (cIx hI7 (by decide)) (cRx hX8 (by decide))
          have hEI27 := hEI1.tr hI7 (by decide)
          have hER28 := hER1.tr hX8 (by decide)
          show pl _ _ _ (51, [(0, .ref m0)], [.int 1], M2) _
          have hCP := CP_of q48_s hP1.1
          refine ps_if (S1 := (75, [], [], M2)) (S2 := (54, [(0, .ref m0)], [], M2)) rfl rfl rfl (fun c_51 => ?_) (fun c_51 => ?_)
          · exact absurd (of_decide_eq_true c_51) (by decide)
          refine ps_st (S' := (55, [(0, .ref m0)], [.ref m0], M2)) rfl rfl rfl ?_
          refine pl_call (a := [.ref m0]) (rest := []) rfl rfl rfl (rd_checkClass (n := n) (f := f) (tx := tx) (cN := cN) (A := A) (N := N) (mj := mj) (E := E) (hA := p1) (s3 := s3) hR6 hi12 hi22 hi9 hi10 hi11 hF_23 hY_24 hP_25 (hEP) (hN) (hmj) (hs3) (hCP) (hin)) (fun v29 M30 q31 => ?_)
          rcases q31 with q31 | q31
          · skip
            obtain ⟨I32, R33, q55_s, rfl, hR34, hI35, hX36, hi37⟩ := q31
            have hi38 := (hI35 51 (by decide)).trans hi9
            have hi39 := (hI35 52 (by decide)).trans hi10
            have hi40 := (hI35 53 (by decide)).trans hi11
            have hi41 := (hI35 54 (by decide)).trans hi12
            have hi42 := (hI35 55 (by decide)).trans hi13
            have hi43 := (hI35 56 (by decide)).trans hi14
            have hi44 := (hI35 57 (by decide)).trans hi15
            have hi45 := (hI35 25 (by decide)).trans hi16
            have hi46 := (hI35 26 (by decide)).trans hi17
            have hi47 := (hI35 71 (by decide)).trans hi18
            have hi48 := (hI35 66 (by decide)).trans hi19
            have hi49 := (hI35 9 (by decide)).trans hi20
            have hi50 := (hI35 10 (by decide)).trans hi21
            have hi51 := (hI35 11 (by decide)).trans hi22
            have hF_52 := hF_23.mono (cIx hI35 (by decide)) (cRx hX36 (by decide))
            have hY_53 := hY_24.mono (cIx hI35 (by decide)) (cRx hX36 (by decide))
            have hP_54 := hP_25.mono (cIx hI35 (by decide)) (cRx hX36 (by decide))
            have hK_55 := hK_26.mono (cIx hI35 (by decide)) (cRx hX36 (by decide))
            have hEI56 := hEI27.tr hI35 (by decide)
            have hER57 := hER28.tr hX36 (by decide)
            show pl _ _ _ (58, [(0, .ref m0)], [.int 1], M30) _
            refine ps_if (S1 := (75, [], [], M30)) (S2 := (61, [(0, .ref m0)], [], M30)) rfl rfl rfl (fun c_58 => ?_) (fun c_58 => ?_)
            · exact absurd (of_decide_eq_true c_58) (by decide)
            refine ps_st (S' := (62, [(0, .ref m0)], [.ref m0], M30)) rfl rfl rfl ?_
            refine pl_call (a := [.ref m0]) (rest := []) rfl rfl rfl (rd_checkFields (n := n) (f := f) (tx := tx) (cN := cN) (A := A) (N := N) (mj := mj) (E := E) (pF := pF) (f0 := 0) (cf := (by2 f p1)) (B := (mbs f n (by2 f pF) (pF + 2))) (E1 := (fun i => mE f n ((mbs f n (by2 f pF) (pF + 2)).getD i 0))) hR34 hi38 hi39 hi40 hi37 hi42 hi45 hF_52 hY_53 hP_54 hK_55 (hEP) (hN) (hmj) (hMF) (by omega) (hcf)) (fun v58 M59 q60 => ?_)
            rcases q60 with q60 | q60
            · skip
              obtain ⟨I61, R62, q62_s, rfl, hR63, hI64, hX65, hi66⟩ := q60
              have hi67 := (hI64 51 (by decide)).trans hi38
              have hi68 := (hI64 52 (by decide)).trans hi39
              have hi69 := (hI64 53 (by decide)).trans hi40
              have hi70 := (hI64 54 (by decide)).trans hi41
              have hi71 := (hI64 55 (by decide)).trans hi42
              have hi72 := (hI64 56 (by decide)).trans hi43
              have hi73 := (hI64 57 (by decide)).trans hi44
              have hi74 := (hI64 26 (by decide)).trans hi46
              have hi75 := (hI64 71 (by decide)).trans hi47
              have hi76 := (hI64 66 (by decide)).trans hi48
              have hi77 := (hI64 9 (by decide)).trans hi49
              have hi78 := (hI64 10 (by decide)).trans hi50
              have hi79 := (hI64 11 (by decide)).trans hi51
              have hi80 := (hI64 58 (by decide)).trans hi37
              have hF_81 := hF_52.mono (cIx hI64 (by decide)) (cRx hX65 (by decide))
              have hY_82 := hY_53.mono (cIx hI64 (by decide)) (cRx hX65 (by decide))
              have hP_83 := hP_54.mono (cIx hI64 (by decide)) (cRx hX65 (by decide))
              have hK_84 := hK_55.mono (cIx hI64 (by decide)) (cRx hX65 (by decide))
              have hEI85 := hEI56.tr hI64 (by decide)
              have hER86 := hER57.tr hX65 (by decide)
              show pl _ _ _ (65, [(0, .ref m0)], [.int 1], M59) _
              refine ps_if (S1 := (75, [], [], M59)) (S2 := (68, [(0, .ref m0)], [], M59)) rfl rfl rfl (fun c_65 => ?_) (fun c_65 => ?_)
              · exact absurd (of_decide_eq_true c_65) (by decide)
              refine ps_st (S' := (69, [(0, .ref m0)], [.ref m0], M59)) rfl rfl rfl ?_
              refine pl_call (a := [.ref m0]) (rest := []) rfl rfl rfl (rd_checkMethods (n := n) (f := f) (tx := tx) (cN := cN) (A := A) (N := N) (mj := mj) (E := E) (pM := pM) (f0 := 0) (cf := (by2 f p1)) (si := s1) (sc := s2) (B := (mbs f n (by2 f pM) (pM + 2))) (E1 := (fun i => mE f n ((mbs f n (by2 f pM) (pM + 2)).getD i 0))) hR63 hi67 hi68 hi69 hi80 hi72 hi74 hi77 hi78 hF_81 hY_82 hP_83 hK_84 (hEP) (hN) (hmj) (hMM) (by omega) (hcf) (⟨hs1.1, hs1.2.trans lt_eq.2.1⟩) (⟨hs2.1, hs2.2.trans lt_eq.2.2.1⟩)) (fun v87 M88 q89 => ?_)
              rcases q89 with q89 | q89
              · skip
                obtain ⟨I90, R91, q69_s, rfl, hR92, hI93, hX94, hi95⟩ := q89
                have hi96 := (hI93 51 (by decide)).trans hi67
                have hi97 := (hI93 52 (by decide)).trans hi68
                have hi98 := (hI93 53 (by decide)).trans hi69
                have hi99 := (hI93 54 (by decide)).trans hi70
                have hi100 := (hI93 55 (by decide)).trans hi71
                have hi101 := (hI93 56 (by decide)).trans hi72
                have hi102 := (hI93 57 (by decide)).trans hi73
                have hi103 := (hI93 71 (by decide)).trans hi75
                have hi104 := (hI93 66 (by decide)).trans hi76
                have hi105 := (hI93 9 (by decide)).trans hi77
                have hi106 := (hI93 10 (by decide)).trans hi78
                have hi107 := (hI93 11 (by decide)).trans hi79
                have hi108 := (hI93 58 (by decide)).trans hi80
                have hi109 := (hI93 25 (by decide)).trans hi66
                have hF_110 := hF_81.mono (cIx hI93 (by decide)) (cRx hX94 (by decide))
                have hY_111 := hY_82.mono (cIx hI93 (by decide)) (cRx hX94 (by decide))
                have hP_112 := hP_83.mono (cIx hI93 (by decide)) (cRx hX94 (by decide))
                have hK_113 := hK_84.mono (cIx hI93 (by decide)) (cRx hX94 (by decide))
                have hEI114 := hEI85.tr hI93 (by decide)
                have hER115 := hER86.tr hX94 (by decide)
                show pl _ _ _ (72, [(0, .ref m0)], [.int 1], M88) _
                refine ps_if (S1 := (77, [(0, .ref m0)], [], M88)) (S2 := (75, [], [], M88)) rfl rfl rfl (fun c_72 => ?_) (fun c_72 => ?_)
                rotate_left
                · exact absurd (by decide) (of_decide_eq_false c_72)
                refine ps_st (S' := (78, [(0, .ref m0)], [.ref m0], M88)) rfl rfl rfl ?_
                refine ps_st (S' := (79, [(0, .ref m0)], [.ref m0, .ref m0], M88)) rfl rfl rfl ?_
                refine pr_int (j := 57) (S' := (82, [(0, .ref m0)], [.int (nI pA), .ref m0], M88)) rfl hR92 rfl hi102 rfl ?_
                refine ps_st (S' := (83, [(0, .ref m0)], [.int 4, .int (nI pA), .ref m0], M88)) rfl rfl rfl ?_
                refine ps_st (S' := (84, [(0, .ref m0)], [.int 0, .int 4, .int (nI pA), .ref m0], M88)) rfl rfl rfl ?_
                refine pl_call (a := [.ref m0, .int (nI pA), .int 4, .int 0]) (rest := []) rfl rfl rfl (rd_checkAttributes4 (n := n) (f := f) (tx := tx) (cN := cN) (A := A) (N := N) (mj := mj) (E := E) (p1 := pA) (e := n) (x := 0) (fl := (by2 f p1)) (nk0 := 0) hR92 hi96 hi97 hi98 hi108 hi103 hi104 hF_110 hY_111 hP_112 hK_113 (hEP) (hN) (hmj) (⟨hat.1, hat.2.1⟩) (hat.2.2) (hcf)) (fun v116 M117 q118 => ?_)
                rcases q118 with q118 | q118
                · skip
                  obtain ⟨e9119, I120, R121, q84_s, rfl, hR122, hI123, hX124, hi125, hi126⟩ := q118
                  have hi127 := (hI123 51 (by decide)).trans hi96
                  have hi128 := (hI123 52 (by decide)).trans hi97
                  have hi129 := (hI123 53 (by decide)).trans hi98
                  have hi130 := (hI123 54 (by decide)).trans hi99
                  have hi131 := (hI123 55 (by decide)).trans hi100
                  have hi132 := (hI123 56 (by decide)).trans hi101
                  have hi133 := (hI123 57 (by decide)).trans hi102
                  have hi134 := (hI123 9 (by decide)).trans hi105
                  have hi135 := (hI123 10 (by decide)).trans hi106
                  have hi136 := (hI123 11 (by decide)).trans hi107
                  have hi137 := (hI123 58 (by decide)).trans hi108
                  have hi138 := (hI123 25 (by decide)).trans hi109
                  have hi139 := (hI123 26 (by decide)).trans hi95
                  have hF_140 := hF_110.mono (cIx hI123 (by decide)) (cRx hX124 (by decide))
                  have hY_141 := hY_111.mono (cIx hI123 (by decide)) (cRx hX124 (by decide))
                  have hP_142 := hP_112.mono (cIx hI123 (by decide)) (cRx hX124 (by decide))
                  have hK_143 := hK_113.mono (cIx hI123 (by decide)) (cRx hX124 (by decide))
                  have hEI144 := hEI114.tr hI123 (by decide)
                  have hER145 := hER115.tr hX124 (by decide)
                  show pl _ _ _ (87, [(0, .ref m0)], [.int (-1)], M117) _
                  refine ps_if (S1 := (92, [(0, .ref m0)], [], M117)) (S2 := (90, [(0, .ref m0)], [], M117)) rfl rfl rfl (fun c_87 => ?_) (fun c_87 => ?_)
                  · exact absurd (of_decide_eq_true c_87) (by decide)
                  refine ps_st (S' := (91, [(0, .ref m0)], [.int 0], M117)) rfl rfl rfl ?_
                  exact ps_ret rfl rfl (Or.inr ⟨e9119, I120, R121, by
                      refine s_read_2 hwh ?_
                      rw [← hN8, ← hm6]
                      unfold s_chk
                      rw [q48_s]
                      dsimp only
                      obtain ⟨hh9, hh8⟩ := cc_none q55_s
                      rw [hh9]
                      dsimp only
                      rw [hh8]
                      dsimp only
                      rw [q62_s]
                      dsimp only
                      rw [q69_s]
                      dsimp only
                      rw [q84_s], rfl, hR122, hEI144, hER145, hi125, hi126⟩)
                · skip
                  obtain ⟨bc146, I147, R148, q84_s, rfl, hR149, hI150, hX151, hi152⟩ := q118
                  have hi153 := (hI150 51 (by decide)).trans hi96
                  have hi154 := (hI150 52 (by decide)).trans hi97
                  have hi155 := (hI150 53 (by decide)).trans hi98
                  have hi156 := (hI150 54 (by decide)).trans hi99
                  have hi157 := (hI150 55 (by decide)).trans hi100
                  have hi158 := (hI150 56 (by decide)).trans hi101
                  have hi159 := (hI150 57 (by decide)).trans hi102
                  have hi160 := (hI150 9 (by decide)).trans hi105
                  have hi161 := (hI150 10 (by decide)).trans hi106
                  have hi162 := (hI150 11 (by decide)).trans hi107
                  have hi163 := (hI150 58 (by decide)).trans hi108
                  have hi164 := (hI150 25 (by decide)).trans hi109
                  have hi165 := (hI150 26 (by decide)).trans hi95
                  have hF_166 := hF_110.mono (cIx hI150 (by decide)) (cRx hX151 (by decide))
                  have hY_167 := hY_111.mono (cIx hI150 (by decide)) (cRx hX151 (by decide))
                  have hP_168 := hP_112.mono (cIx hI150 (by decide)) (cRx hX151 (by decide))
                  have hK_169 := hK_113.mono (cIx hI150 (by decide)) (cRx hX151 (by decide))
                  have hEI170 := hEI114.tr hI150 (by decide)
                  have hER171 := hER115.tr hX151 (by decide)
                  show pl _ _ _ (87, [(0, .ref m0)], [.int (nI n)], M117) _
                  refine ps_if (S1 := (92, [(0, .ref m0)], [], M117)) (S2 := (90, [(0, .ref m0)], [], M117)) rfl rfl rfl (fun c_87 => ?_) (fun c_87 => ?_)
                  rotate_left
                  · exact absurd ((le_nI (p := 0) (n := n) (by decide) (by omega)).mpr (by omega)) (of_decide_eq_false c_87)
                  refine ps_st (S' := (93, [(0, .ref m0)], [.int 1], M117)) rfl rfl rfl ?_
                  refine ps_st (S' := (94, [(0, .ref m0), (1, .int 1)], [], M117)) rfl rfl rfl ?_
                  exact ih.2 (N) (mj) (bc146) (1) (p1) (pF) (pM) (pA) (E) (tx) (cN) (A) M117 I147 R148 hR149 hEI170 hER171 hi153 hi154 hi155 hi152 hF_166 hY_167 hP_168 (hEP) (hN) (hmj) (clS_bc q84_s) (⟨Nat.le_refl _, hN1⟩) (by
                      refine s_read_2 hwh ?_
                      rw [← hN8, ← hm6]
                      unfold s_chk
                      rw [q48_s]
                      dsimp only
                      obtain ⟨hh9, hh8⟩ := cc_none q55_s
                      rw [hh9]
                      dsimp only
                      rw [hh8]
                      dsimp only
                      rw [q62_s]
                      dsimp only
                      rw [q69_s]
                      dsimp only
                      rw [q84_s]) (rfl) (hN8) (hm6) (hwh)
              · skip
                obtain ⟨e9172, I173, R174, q69_s, rfl, hR175, hI176, hX177, hi178, hi179⟩ := q89
                have hi180 := (hI176 51 (by decide)).trans hi67
                have hi181 := (hI176 52 (by decide)).trans hi68
                have hi182 := (hI176 53 (by decide)).trans hi69
                have hi183 := (hI176 54 (by decide)).trans hi70
                have hi184 := (hI176 55 (by decide)).trans hi71
                have hi185 := (hI176 56 (by decide)).trans hi72
                have hi186 := (hI176 57 (by decide)).trans hi73
                have hi187 := (hI176 71 (by decide)).trans hi75
                have hi188 := (hI176 66 (by decide)).trans hi76
                have hi189 := (hI176 9 (by decide)).trans hi77
                have hi190 := (hI176 10 (by decide)).trans hi78
                have hi191 := (hI176 11 (by decide)).trans hi79
                have hi192 := (hI176 58 (by decide)).trans hi80
                have hi193 := (hI176 25 (by decide)).trans hi66
                have hF_194 := hF_81.mono (cIx hI176 (by decide)) (cRx hX177 (by decide))
                have hY_195 := hY_82.mono (cIx hI176 (by decide)) (cRx hX177 (by decide))
                have hP_196 := hP_83.mono (cIx hI176 (by decide)) (cRx hX177 (by decide))
                have hK_197 := hK_84.mono (cIx hI176 (by decide)) (cRx hX177 (by decide))
                have hEI198 := hEI85.tr hI176 (by decide)
                have hER199 := hER86.tr hX177 (by decide)
                show pl _ _ _ (72, [(0, .ref m0)], [.int 0], M88) _
                refine ps_if (S1 := (77, [(0, .ref m0)], [], M88)) (S2 := (75, [], [], M88)) rfl rfl rfl (fun c_72 => ?_) (fun c_72 => ?_)
                · exact absurd (of_decide_eq_true c_72) (by decide)
                refine ps_st (S' := (76, [], [.int 0], M88)) rfl rfl rfl ?_
                exact ps_ret rfl rfl (Or.inr ⟨e9172, I173, R174, by
                    refine s_read_2 hwh ?_
                    rw [← hN8, ← hm6]
                    unfold s_chk
                    rw [q48_s]
                    dsimp only
                    obtain ⟨hh9, hh8⟩ := cc_none q55_s
                    rw [hh9]
                    dsimp only
                    rw [hh8]
                    dsimp only
                    rw [q62_s]
                    dsimp only
                    rw [q69_s], rfl, hR175, hEI198, hER199, hi178, hi179⟩)
            · skip
              obtain ⟨e9200, I201, R202, q62_s, rfl, hR203, hI204, hX205, hi206, hi207⟩ := q60
              have hi208 := (hI204 51 (by decide)).trans hi38
              have hi209 := (hI204 52 (by decide)).trans hi39
              have hi210 := (hI204 53 (by decide)).trans hi40
              have hi211 := (hI204 54 (by decide)).trans hi41
              have hi212 := (hI204 55 (by decide)).trans hi42
              have hi213 := (hI204 56 (by decide)).trans hi43
              have hi214 := (hI204 57 (by decide)).trans hi44
              have hi215 := (hI204 26 (by decide)).trans hi46
              have hi216 := (hI204 71 (by decide)).trans hi47
              have hi217 := (hI204 66 (by decide)).trans hi48
              have hi218 := (hI204 9 (by decide)).trans hi49
              have hi219 := (hI204 10 (by decide)).trans hi50
              have hi220 := (hI204 11 (by decide)).trans hi51
              have hi221 := (hI204 58 (by decide)).trans hi37
              have hF_222 := hF_52.mono (cIx hI204 (by decide)) (cRx hX205 (by decide))
              have hY_223 := hY_53.mono (cIx hI204 (by decide)) (cRx hX205 (by decide))
              have hP_224 := hP_54.mono (cIx hI204 (by decide)) (cRx hX205 (by decide))
              have hK_225 := hK_55.mono (cIx hI204 (by decide)) (cRx hX205 (by decide))
              have hEI226 := hEI56.tr hI204 (by decide)
              have hER227 := hER57.tr hX205 (by decide)
              show pl _ _ _ (65, [(0, .ref m0)], [.int 0], M59) _
              refine ps_if (S1 := (75, [], [], M59)) (S2 := (68, [(0, .ref m0)], [], M59)) rfl rfl rfl (fun c_65 => ?_) (fun c_65 => ?_)
              rotate_left
              · exact absurd (by decide) (of_decide_eq_false c_65)
              refine ps_st (S' := (76, [], [.int 0], M59)) rfl rfl rfl ?_
              exact ps_ret rfl rfl (Or.inr ⟨e9200, I201, R202, by
                  refine s_read_2 hwh ?_
                  rw [← hN8, ← hm6]
                  unfold s_chk
                  rw [q48_s]
                  dsimp only
                  obtain ⟨hh9, hh8⟩ := cc_none q55_s
                  rw [hh9]
                  dsimp only
                  rw [hh8]
                  dsimp only
                  rw [q62_s], rfl, hR203, hEI226, hER227, hi206, hi207⟩)
          · skip
            obtain ⟨e228, I229, R230, q55_s, rfl, hR231, hI232, hX233, hi234, hi235⟩ := q31
            have hi236 := (hI232 51 (by decide)).trans hi9
            have hi237 := (hI232 52 (by decide)).trans hi10
            have hi238 := (hI232 53 (by decide)).trans hi11
            have hi239 := (hI232 54 (by decide)).trans hi12
            have hi240 := (hI232 55 (by decide)).trans hi13
            have hi241 := (hI232 56 (by decide)).trans hi14
            have hi242 := (hI232 57 (by decide)).trans hi15
            have hi243 := (hI232 25 (by decide)).trans hi16
            have hi244 := (hI232 26 (by decide)).trans hi17
            have hi245 := (hI232 71 (by decide)).trans hi18
            have hi246 := (hI232 66 (by decide)).trans hi19
            have hi247 := (hI232 9 (by decide)).trans hi20
            have hi248 := (hI232 10 (by decide)).trans hi21
            have hi249 := (hI232 11 (by decide)).trans hi22
            have hF_250 := hF_23.mono (cIx hI232 (by decide)) (cRx hX233 (by decide))
            have hY_251 := hY_24.mono (cIx hI232 (by decide)) (cRx hX233 (by decide))
            have hP_252 := hP_25.mono (cIx hI232 (by decide)) (cRx hX233 (by decide))
            have hK_253 := hK_26.mono (cIx hI232 (by decide)) (cRx hX233 (by decide))
            have hEI254 := hEI27.tr hI232 (by decide)
            have hER255 := hER28.tr hX233 (by decide)
            show pl _ _ _ (58, [(0, .ref m0)], [.int 0], M30) _
            refine ps_if (S1 := (75, [], [], M30)) (S2 := (61, [(0, .ref m0)], [], M30)) rfl rfl rfl (fun c_58 => ?_) (fun c_58 => ?_)
            rotate_left
            · exact absurd (by decide) (of_decide_eq_false c_58)
            refine ps_st (S' := (76, [], [.int 0], M30)) rfl rfl rfl ?_
            exact ps_ret rfl rfl (Or.inr ⟨e228, I229, R230, by
                refine s_read_2 hwh ?_
                rw [← hN8, ← hm6]
                unfold s_chk
                rw [q48_s]
                dsimp only
                exact cc_some q55_s, rfl, hR231, hEI254, hER255, hi234, hi235⟩)
        · skip
          obtain ⟨e256, I257, R258, q48_s, rfl, hR259, hI260, hX261, hi262, hi263⟩ := q3
          have hi264 := (hI260 51 (by decide)).trans hl51
          have hi265 := (hI260 52 (by decide)).trans hl52
          have hi266 := (hI260 53 (by decide)).trans hl53
          have hi267 := (hI260 54 (by decide)).trans hl54
          have hi268 := (hI260 55 (by decide)).trans hl55
          have hi269 := (hI260 56 (by decide)).trans hl56
          have hi270 := (hI260 57 (by decide)).trans hl57
          have hi271 := (hI260 25 (by decide)).trans hl25
          have hi272 := (hI260 26 (by decide)).trans hl26
          have hi273 := (hI260 71 (by decide)).trans hl71
          have hi274 := (hI260 66 (by decide)).trans hl66
          have hi275 := (hI260 9 (by decide)).trans hl9
          have hi276 := (hI260 10 (by decide)).trans hl10
          have hi277 := (hI260 11 (by decide)).trans hl11
          have hF_278 := hF1.mono (cIx hI260 (by decide)) (cRx hX261 (by decide))
          have hY_279 := hY1.mono (cIx hI260 (by decide)) (cRx hX261 (by decide))
          have hP_280 := hP1.mono (cIx hI260 (by decide)) (cRx hX261 (by decide))
          have hK_281 := hK1.mono (cIx hI260 (by decide)) (cRx hX261 (by decide))
          have hEI282 := hEI1.tr hI260 (by decide)
          have hER283 := hER1.tr hX261 (by decide)
          show pl _ _ _ (51, [(0, .ref m0)], [.int 0], M2) _
          refine ps_if (S1 := (75, [], [], M2)) (S2 := (54, [(0, .ref m0)], [], M2)) rfl rfl rfl (fun c_51 => ?_) (fun c_51 => ?_)
          rotate_left
          · exact absurd (by decide) (of_decide_eq_false c_51)
          refine ps_st (S' := (76, [], [.int 0], M2)) rfl rfl rfl ?_
          exact ps_ret rfl rfl (Or.inr ⟨e256, I257, R258, by
              refine s_read_2 hwh ?_
              rw [← hN8, ← hm6]
              unfold s_chk
              rw [q48_s], rfl, hR259, hEI282, hER283, hi262, hi263⟩)
      · skip
        intro N mj bc k p1 pF pM pA E tx cN A M1 I1 R1 hR1 hEI1 hER1 hl51 hl52 hl53 hl71 hF1 hY1 hP1 hEP hN hmj hbc hk hr hs hN8 hm6 hwh
        have hn := hF1.1
        refine ps_st1 (S' := (95, [(0, .ref m0), (1, .int (nI k))], [.int (nI k)], M1)) rfl rfl rfl ?_
        refine ps_st (S' := (96, [(0, .ref m0), (1, .int (nI k))], [.ref m0, .int (nI k)], M1)) rfl rfl rfl ?_
        refine pr_int (j := 52) (S' := (99, [(0, .ref m0), (1, .int (nI k))], [.int (nI N), .int (nI k)], M1)) rfl hR1 rfl hl52 rfl ?_
        refine ps_if2 (S1 := (157, [(0, .ref m0), (1, .int (nI k))], [], M1)) (S2 := (102, [(0, .ref m0), (1, .int (nI k))], [], M1)) rfl rfl rfl (fun c_99 => ?_) (fun c_99 => ?_)
        · have c_99 : (nI N) ≤ (nI k) := of_decide_eq_true c_99
          have n_99 : N ≤ k := (le_nI (p := N) (n := k) (by omega) (by omega)).mp c_99
          refine ps_st (S' := (158, [(0, .ref m0), (1, .int (nI k))], [.int 1], M1)) rfl rfl rfl ?_
          exact ps_ret rfl rfl (Or.inl ⟨I1, R1, by
              rw [hr, ← hs, show N - k = 0 by omega]
              rfl, rfl, hR1, hEI1, hER1, ⟨tx, cN, A, E, N, mj, p1, pF, pM, pA, hF1, hY1, hP1, hl51, hl52, hl53, hwh, hN8, hm6⟩⟩)
        · have c_99 : ¬ ((nI N) ≤ (nI k)) := of_decide_eq_false c_99
          have n_99 : ¬ (N ≤ k) := fun h9 => c_99 ((le_nI (p := N) (n := k) (by omega) (by omega)).mpr h9)
          refine ps_st (S' := (103, [(0, .ref m0), (1, .int (nI k))], [.ref m0], M1)) rfl rfl rfl ?_
          refine ps_st (S' := (104, [(0, .ref m0), (1, .int (nI k))], [.int (nI k), .ref m0], M1)) rfl rfl rfl ?_
          refine pl_call (a := [.ref m0, .int (nI k)]) (rest := []) rfl rfl rfl (rd_tag (n := n) (f := f) (tx := tx) (cN := cN) (A := A) (N := N) (mj := mj) (E := E) (k := k) hR1 hl51 hl52 hl53 hF1 hY1 hP1 (hEP) (hN) (hmj) (by omega)) (fun v284 M285 q286 => ?_)
          obtain ⟨rfl, rfl⟩ := q286
          show pl _ _ _ (107, [(0, .ref m0), (1, .int (nI k))], [.int (nI (tg f E k))], M1) _
          have htg_104 := tg_lt f E k
          refine ps_st (S' := (108, [(2, .int (nI (tg f E k))), (0, .ref m0), (1, .int (nI k))], [], M1)) rfl rfl rfl ?_
          refine ps_st (S' := (109, [(2, .int (nI (tg f E k))), (0, .ref m0), (1, .int (nI k))], [.int (nI (tg f E k))], M1)) rfl rfl rfl ?_
          refine ps_st (S' := (111, [(2, .int (nI (tg f E k))), (0, .ref m0), (1, .int (nI k))], [.int 17, .int (nI (tg f E k))], M1)) rfl rfl rfl ?_
          refine ps_if2 (S1 := (120, [(0, .ref m0), (1, .int (nI k))], [], M1)) (S2 := (114, [(2, .int (nI (tg f E k))), (0, .ref m0), (1, .int (nI k))], [], M1)) rfl rfl rfl (fun c_111 => ?_) (fun c_111 => ?_)
          · have c_111 : (nI (tg f E k)) = 17 := of_decide_eq_true c_111
            have n_111 : tg f E k = 17 := (eq_nI (p := tg f E k) (n := 17) (Nat.lt_trans (tg_lt _ _ _) (by decide)) (by decide)).mp c_111
            refine ps_st (S' := (121, [(0, .ref m0), (1, .int (nI k))], [.ref m0], M1)) rfl rfl rfl ?_
            refine ps_st (S' := (122, [(0, .ref m0), (1, .int (nI k))], [.int (nI k), .ref m0], M1)) rfl rfl rfl ?_
            refine ps_st (S' := (123, [(0, .ref m0), (1, .int (nI k))], [.int 1, .int (nI k), .ref m0], M1)) rfl rfl rfl ?_
            refine pl_call (a := [.ref m0, .int (nI k), .int 1]) (rest := []) rfl rfl rfl (rd_idx1 (n := n) (f := f) (tx := tx) (cN := cN) (A := A) (N := N) (mj := mj) (E := E) (k := k) hR1 hl51 hl52 hl53 hF1 hY1 hP1 (hEP) (hN) (hmj) (by omega)) (fun v287 M288 q289 => ?_)
            obtain ⟨rfl, rfl⟩ := q289
            show pl _ _ _ (126, [(0, .ref m0), (1, .int (nI k))], [.int (nI (fi f E k))], M1) _
            have hix_123 := fi_lt f E k
            refine ps_st (S' := (127, [(0, .ref m0), (1, .int (nI k))], [.ref m0, .int (nI (fi f E k))], M1)) rfl rfl rfl ?_
            refine pr_int (j := 71) (S' := (130, [(0, .ref m0), (1, .int (nI k))], [.int (nI bc), .int (nI (fi f E k))], M1)) rfl hR1 rfl hl71 rfl ?_
            refine ps_if2 (S1 := (151, [(0, .ref m0), (1, .int (nI k))], [], M1)) (S2 := (133, [(0, .ref m0), (1, .int (nI k))], [], M1)) rfl rfl rfl (fun c_130 => ?_) (fun c_130 => ?_)
            · have c_130 : (nI (fi f E k)) < (nI bc) := of_decide_eq_true c_130
              have n_130 : fi f E k < bc := (lt_nI (p := fi f E k) (n := bc) (Nat.lt_trans (fi_lt _ _ _) (by decide)) (by omega)).mp c_130
              refine ps_st (S' := (154, [(1, .int ((nI k) + 1)), (0, .ref m0)], [], M1)) rfl rfl rfl ?_
              rw [nI_add1 (p := k) (k := 1) (x := 1) rfl (by omega)]
              show pl _ _ _ (_, [(1, .int (nI (k + 1))), (0, .ref m0)], [], M1) _
              refine ps_st (S' := (94, [(0, .ref m0), (1, .int (nI (k + 1)))], [], M1)) rfl rfl rfl ?_
              exact ih.2 (N) (mj) (bc) (k + 1) (p1) (pF) (pM) (pA) (E) (tx) (cN) (A) M1 I1 R1 hR1 hEI1 hER1 hl51 hl52 hl53 hl71 hF1 hY1 hP1 (hEP) (hN) (hmj) (hbc) (by omega) (hr) (by
                  rw [← hs, chkB_st (k := k) (by omega), if_neg (by omega)]) (hN8) (hm6) (hwh)
            · have c_130 : ¬ ((nI (fi f E k)) < (nI bc)) := of_decide_eq_false c_130
              have n_130 : ¬ (fi f E k < bc) := fun h9 => c_130 ((lt_nI (p := fi f E k) (n := bc) (Nat.lt_trans (fi_lt _ _ _) (by decide)) (by omega)).mpr h9)
              obtain ⟨p, hk9, hb9⟩ := tg_lk (f := f) (E := E) (k := k) (by omega)
              have hep9 := hEP k p hk9
              refine ps_st (S' := (134, [(0, .ref m0), (1, .int (nI k))], [.ref m0], M1)) rfl rfl rfl ?_
              refine ps_st (S' := (136, [(0, .ref m0), (1, .int (nI k))], [.int 40, .ref m0], M1)) rfl rfl rfl ?_
              refine ps_st (S' := (137, [(0, .ref m0), (1, .int (nI k))], [.ref m0, .int 40, .ref m0], M1)) rfl rfl rfl ?_
              refine pr_ref (j := 21) (S' := (140, [(0, .ref m0), (1, .int (nI k))], [.ref (q 21), .int 40, .ref m0], M1)) rfl hR1 rfl rfl ?_
              refine ps_st (S' := (141, [(0, .ref m0), (1, .int (nI k))], [.ref m0, .ref (q 21), .int 40, .ref m0], M1)) rfl rfl rfl ?_
              refine pr_int (j := 51) (S' := (144, [(0, .ref m0), (1, .int (nI k))], [.int 0, .ref (q 21), .int 40, .ref m0], M1)) rfl hR1 rfl hl51 rfl ?_
              refine ps_st (S' := (145, [(0, .ref m0), (1, .int (nI k))], [.int (nI k), .int 0, .ref (q 21), .int 40, .ref m0], M1)) rfl rfl rfl ?_
              refine ps_st (S' := (146, [(0, .ref m0), (1, .int (nI k))], [.int (0 + (nI k)), .ref (q 21), .int 40, .ref m0], M1)) rfl rfl rfl ?_
              rw [show (0 : Int32) + (nI k) = (nI k) from Int32.zero_add _]
              show pl _ _ _ (_, [(0, .ref m0), (1, .int (nI k))], [.int (nI k), .ref (q 21), .int 40, .ref m0], M1) _
              refine pr_ld (a := 21) (j := k) (y := (nI p)) (S' := (147, [(0, .ref m0), (1, .int (nI k))], [.int (nI p), .int 40, .ref m0], M1)) rfl hR1 rfl (by omega) (fun _ => by rw [hP1.2.1 k (by omega), hk9]; rfl) rfl (fun i1_146 => ?_)
              refine pl_call (a := [.ref m0, .int 40, .int (nI p)]) (rest := []) rfl rfl rfl (rd_wrong (x1 := 40) (x2 := (nI p)) hR1) (fun v290 M291 q292 => ?_)
              obtain ⟨I293, R294, rfl, hR295, hI296, hX297, hi298, hi299⟩ := q292
              have hi300 := (hI296 51 (by decide)).trans hl51
              have hi301 := (hI296 52 (by decide)).trans hl52
              have hi302 := (hI296 53 (by decide)).trans hl53
              have hi303 := (hI296 71 (by decide)).trans hl71
              have hF_304 := hF1.mono (cIx hI296 (by decide)) (cRx hX297 (by decide))
              have hY_305 := hY1.mono (cIx hI296 (by decide)) (cRx hX297 (by decide))
              have hP_306 := hP1.mono (cIx hI296 (by decide)) (cRx hX297 (by decide))
              have hEI307 := hEI1.tr hI296 (by decide)
              have hER308 := hER1.tr hX297 (by decide)
              show pl _ _ _ (150, [(0, .ref m0), (1, .int (nI k))], [.int 0], M291) _
              exact ps_ret rfl rfl (Or.inr ⟨(40, p), I293, R294, by
                  rw [hr, ← hs, chkB_st (k := k) (by omega), if_pos (by omega), tp_is hk9], rfl, hR295, hEI307, hER308, hi298, hi299⟩)
          · have c_111 : ¬ ((nI (tg f E k)) = 17) := of_decide_eq_false c_111
            have n_111 : ¬ (tg f E k = 17) := fun h9 => c_111 ((eq_nI (p := tg f E k) (n := 17) (Nat.lt_trans (tg_lt _ _ _) (by decide)) (by decide)).mpr h9)
            refine ps_st (S' := (115, [(2, .int (nI (tg f E k))), (0, .ref m0), (1, .int (nI k))], [.int (nI (tg f E k))], M1)) rfl rfl rfl ?_
            refine ps_st (S' := (117, [(2, .int (nI (tg f E k))), (0, .ref m0), (1, .int (nI k))], [.int 18, .int (nI (tg f E k))], M1)) rfl rfl rfl ?_
            refine ps_if2 (S1 := (151, [(0, .ref m0), (1, .int (nI k))], [], M1)) (S2 := (120, [(0, .ref m0), (1, .int (nI k))], [], M1)) rfl rfl rfl (fun c_117 => ?_) (fun c_117 => ?_)
            · have c_117 : ¬ (nI (tg f E k)) = 18 := of_decide_eq_true c_117
              have n_117 : ¬ (tg f E k = 18) := fun h9 => c_117 ((eq_nI (p := tg f E k) (n := 18) (Nat.lt_trans (tg_lt _ _ _) (by decide)) (by decide)).mpr h9)
              refine ps_st (S' := (154, [(1, .int ((nI k) + 1)), (0, .ref m0)], [], M1)) rfl rfl rfl ?_
              rw [nI_add1 (p := k) (k := 1) (x := 1) rfl (by omega)]
              show pl _ _ _ (_, [(1, .int (nI (k + 1))), (0, .ref m0)], [], M1) _
              refine ps_st (S' := (94, [(0, .ref m0), (1, .int (nI (k + 1)))], [], M1)) rfl rfl rfl ?_
              exact ih.2 (N) (mj) (bc) (k + 1) (p1) (pF) (pM) (pA) (E) (tx) (cN) (A) M1 I1 R1 hR1 hEI1 hER1 hl51 hl52 hl53 hl71 hF1 hY1 hP1 (hEP) (hN) (hmj) (hbc) (by omega) (hr) (by
                  rw [← hs, chkB_st (k := k) (by omega), if_neg (by omega)]) (hN8) (hm6) (hwh)
            · have c_117 : ¬ (¬ (nI (tg f E k)) = 18) := of_decide_eq_false c_117
              have n_117 : tg f E k = 18 := (eq_nI (p := tg f E k) (n := 18) (Nat.lt_trans (tg_lt _ _ _) (by decide)) (by decide)).mp (Decidable.not_not.mp c_117)
              refine ps_st (S' := (121, [(0, .ref m0), (1, .int (nI k))], [.ref m0], M1)) rfl rfl rfl ?_
              refine ps_st (S' := (122, [(0, .ref m0), (1, .int (nI k))], [.int (nI k), .ref m0], M1)) rfl rfl rfl ?_
              refine ps_st (S' := (123, [(0, .ref m0), (1, .int (nI k))], [.int 1, .int (nI k), .ref m0], M1)) rfl rfl rfl ?_
              refine pl_call (a := [.ref m0, .int (nI k), .int 1]) (rest := []) rfl rfl rfl (rd_idx1 (n := n) (f := f) (tx := tx) (cN := cN) (A := A) (N := N) (mj := mj) (E := E) (k := k) hR1 hl51 hl52 hl53 hF1 hY1 hP1 (hEP) (hN) (hmj) (by omega)) (fun v309 M310 q311 => ?_)
              obtain ⟨rfl, rfl⟩ := q311
              show pl _ _ _ (126, [(0, .ref m0), (1, .int (nI k))], [.int (nI (fi f E k))], M1) _
              have hix_123 := fi_lt f E k
              refine ps_st (S' := (127, [(0, .ref m0), (1, .int (nI k))], [.ref m0, .int (nI (fi f E k))], M1)) rfl rfl rfl ?_
              refine pr_int (j := 71) (S' := (130, [(0, .ref m0), (1, .int (nI k))], [.int (nI bc), .int (nI (fi f E k))], M1)) rfl hR1 rfl hl71 rfl ?_
              refine ps_if2 (S1 := (151, [(0, .ref m0), (1, .int (nI k))], [], M1)) (S2 := (133, [(0, .ref m0), (1, .int (nI k))], [], M1)) rfl rfl rfl (fun c_130 => ?_) (fun c_130 => ?_)
              · have c_130 : (nI (fi f E k)) < (nI bc) := of_decide_eq_true c_130
                have n_130 : fi f E k < bc := (lt_nI (p := fi f E k) (n := bc) (Nat.lt_trans (fi_lt _ _ _) (by decide)) (by omega)).mp c_130
                refine ps_st (S' := (154, [(1, .int ((nI k) + 1)), (0, .ref m0)], [], M1)) rfl rfl rfl ?_
                rw [nI_add1 (p := k) (k := 1) (x := 1) rfl (by omega)]
                show pl _ _ _ (_, [(1, .int (nI (k + 1))), (0, .ref m0)], [], M1) _
                refine ps_st (S' := (94, [(0, .ref m0), (1, .int (nI (k + 1)))], [], M1)) rfl rfl rfl ?_
                exact ih.2 (N) (mj) (bc) (k + 1) (p1) (pF) (pM) (pA) (E) (tx) (cN) (A) M1 I1 R1 hR1 hEI1 hER1 hl51 hl52 hl53 hl71 hF1 hY1 hP1 (hEP) (hN) (hmj) (hbc) (by omega) (hr) (by
                    rw [← hs, chkB_st (k := k) (by omega), if_neg (by omega)]) (hN8) (hm6) (hwh)
              · have c_130 : ¬ ((nI (fi f E k)) < (nI bc)) := of_decide_eq_false c_130
                have n_130 : ¬ (fi f E k < bc) := fun h9 => c_130 ((lt_nI (p := fi f E k) (n := bc) (Nat.lt_trans (fi_lt _ _ _) (by decide)) (by omega)).mpr h9)
                obtain ⟨p, hk9, hb9⟩ := tg_lk (f := f) (E := E) (k := k) (by omega)
                have hep9 := hEP k p hk9
                refine ps_st (S' := (134, [(0, .ref m0), (1, .int (nI k))], [.ref m0], M1)) rfl rfl rfl ?_
                refine ps_st (S' := (136, [(0, .ref m0), (1, .int (nI k))], [.int 40, .ref m0], M1)) rfl rfl rfl ?_
                refine ps_st (S' := (137, [(0, .ref m0), (1, .int (nI k))], [.ref m0, .int 40, .ref m0], M1)) rfl rfl rfl ?_
                refine pr_ref (j := 21) (S' := (140, [(0, .ref m0), (1, .int (nI k))], [.ref (q 21), .int 40, .ref m0], M1)) rfl hR1 rfl rfl ?_
                refine ps_st (S' := (141, [(0, .ref m0), (1, .int (nI k))], [.ref m0, .ref (q 21), .int 40, .ref m0], M1)) rfl rfl rfl ?_
                refine pr_int (j := 51) (S' := (144, [(0, .ref m0), (1, .int (nI k))], [.int 0, .ref (q 21), .int 40, .ref m0], M1)) rfl hR1 rfl hl51 rfl ?_
                refine ps_st (S' := (145, [(0, .ref m0), (1, .int (nI k))], [.int (nI k), .int 0, .ref (q 21), .int 40, .ref m0], M1)) rfl rfl rfl ?_
                refine ps_st (S' := (146, [(0, .ref m0), (1, .int (nI k))], [.int (0 + (nI k)), .ref (q 21), .int 40, .ref m0], M1)) rfl rfl rfl ?_
                rw [show (0 : Int32) + (nI k) = (nI k) from Int32.zero_add _]
                show pl _ _ _ (_, [(0, .ref m0), (1, .int (nI k))], [.int (nI k), .ref (q 21), .int 40, .ref m0], M1) _
                refine pr_ld (a := 21) (j := k) (y := (nI p)) (S' := (147, [(0, .ref m0), (1, .int (nI k))], [.int (nI p), .int 40, .ref m0], M1)) rfl hR1 rfl (by omega) (fun _ => by rw [hP1.2.1 k (by omega), hk9]; rfl) rfl (fun i1_146 => ?_)
                refine pl_call (a := [.ref m0, .int 40, .int (nI p)]) (rest := []) rfl rfl rfl (rd_wrong (x1 := 40) (x2 := (nI p)) hR1) (fun v312 M313 q314 => ?_)
                obtain ⟨I315, R316, rfl, hR317, hI318, hX319, hi320, hi321⟩ := q314
                have hi322 := (hI318 51 (by decide)).trans hl51
                have hi323 := (hI318 52 (by decide)).trans hl52
                have hi324 := (hI318 53 (by decide)).trans hl53
                have hi325 := (hI318 71 (by decide)).trans hl71
                have hF_326 := hF1.mono (cIx hI318 (by decide)) (cRx hX319 (by decide))
                have hY_327 := hY1.mono (cIx hI318 (by decide)) (cRx hX319 (by decide))
                have hP_328 := hP1.mono (cIx hI318 (by decide)) (cRx hX319 (by decide))
                have hEI329 := hEI1.tr hI318 (by decide)
                have hER330 := hER1.tr hX319 (by decide)
                show pl _ _ _ (150, [(0, .ref m0), (1, .int (nI k))], [.int 0], M313) _
                exact ps_ret rfl rfl (Or.inr ⟨(40, p), I315, R316, by
                    rw [hr, ← hs, chkB_st (k := k) (by omega), if_pos (by omega), tp_is hk9], rfl, hR317, hEI329, hER330, hi320, hi321⟩)
  refine ps_st (S' := (1, [(0, .ref m0)], [.ref m0], M)) rfl rfl rfl ?_
  refine ps_st (S' := (2, [(0, .ref m0)], [.int (-1), .ref m0], M)) rfl rfl rfl ?_
  refine pr_put (j := 67) rfl hR rfl (fun M331 I332 hR333 hi334 hI335 => ?_)
  have hi336 := (hI335 20 (by decide)).trans hi20
  have hi337 := (hI335 25 (by decide)).trans hi25
  have hi338 := (hI335 26 (by decide)).trans hi26
  have hi339 := (hI335 9 (by decide)).trans hi9
  have hi340 := (hI335 10 (by decide)).trans hi10
  have hi341 := (hI335 11 (by decide)).trans hi11
  have hF_342 := hF.mono (pIx hI335 (by decide)) (fun _ _ => rfl)
  have hY_343 := hY.mono (pIx hI335 (by decide)) (fun _ _ => rfl)
  have hK_344 := hK.mono (pIx hI335 (by decide)) (fun _ _ => rfl)
  have hEI345 := hEI.put hI335 (by decide)
  show pl _ _ _ (5, [(0, .ref m0)], [], M331) _
  refine ps_st (S' := (6, [(0, .ref m0)], [.ref m0], M331)) rfl rfl rfl ?_
  refine ps_st (S' := (7, [(0, .ref m0)], [.int 0, .ref m0], M331)) rfl rfl rfl ?_
  refine pr_put (j := 68) rfl hR333 rfl (fun M346 I347 hR348 hi349 hI350 => ?_)
  have hi351 := (hI350 20 (by decide)).trans hi336
  have hi352 := (hI350 25 (by decide)).trans hi337
  have hi353 := (hI350 26 (by decide)).trans hi338
  have hi354 := (hI350 9 (by decide)).trans hi339
  have hi355 := (hI350 10 (by decide)).trans hi340
  have hi356 := (hI350 11 (by decide)).trans hi341
  have hi357 := (hI350 67 (by decide)).trans hi334
  have hF_358 := hF_342.mono (pIx hI350 (by decide)) (fun _ _ => rfl)
  have hY_359 := hY_343.mono (pIx hI350 (by decide)) (fun _ _ => rfl)
  have hK_360 := hK_344.mono (pIx hI350 (by decide)) (fun _ _ => rfl)
  have hEI361 := hEI345.put hI350 (by decide)
  show pl _ _ _ (10, [(0, .ref m0)], [], M346) _
  refine ps_st (S' := (11, [(0, .ref m0)], [.ref m0], M346)) rfl rfl rfl ?_
  refine ps_st (S' := (12, [(0, .ref m0)], [.int 0, .ref m0], M346)) rfl rfl rfl ?_
  refine pr_put (j := 69) rfl hR348 rfl (fun M362 I363 hR364 hi365 hI366 => ?_)
  have hi367 := (hI366 20 (by decide)).trans hi351
  have hi368 := (hI366 25 (by decide)).trans hi352
  have hi369 := (hI366 26 (by decide)).trans hi353
  have hi370 := (hI366 9 (by decide)).trans hi354
  have hi371 := (hI366 10 (by decide)).trans hi355
  have hi372 := (hI366 11 (by decide)).trans hi356
  have hi373 := (hI366 67 (by decide)).trans hi357
  have hi374 := (hI366 68 (by decide)).trans hi349
  have hF_375 := hF_358.mono (pIx hI366 (by decide)) (fun _ _ => rfl)
  have hY_376 := hY_359.mono (pIx hI366 (by decide)) (fun _ _ => rfl)
  have hK_377 := hK_360.mono (pIx hI366 (by decide)) (fun _ _ => rfl)
  have hEI378 := hEI361.put hI366 (by decide)
  show pl _ _ _ (15, [(0, .ref m0)], [], M362) _
  refine ps_st (S' := (16, [(0, .ref m0)], [.ref m0], M362)) rfl rfl rfl ?_
  refine ps_st (S' := (17, [(0, .ref m0)], [.int 0, .ref m0], M362)) rfl rfl rfl ?_
  refine pr_put (j := 65) rfl hR364 rfl (fun M379 I380 hR381 hi382 hI383 => ?_)
  have hi384 := (hI383 20 (by decide)).trans hi367
  have hi385 := (hI383 25 (by decide)).trans hi368
  have hi386 := (hI383 26 (by decide)).trans hi369
  have hi387 := (hI383 9 (by decide)).trans hi370
  have hi388 := (hI383 10 (by decide)).trans hi371
  have hi389 := (hI383 11 (by decide)).trans hi372
  have hi390 := (hI383 67 (by decide)).trans hi373
  have hi391 := (hI383 68 (by decide)).trans hi374
  have hi392 := (hI383 69 (by decide)).trans hi365
  have hF_393 := hF_375.mono (pIx hI383 (by decide)) (fun _ _ => rfl)
  have hY_394 := hY_376.mono (pIx hI383 (by decide)) (fun _ _ => rfl)
  have hK_395 := hK_377.mono (pIx hI383 (by decide)) (fun _ _ => rfl)
  have hEI396 := hEI378.put hI383 (by decide)
  show pl _ _ _ (20, [(0, .ref m0)], [], M379) _
  refine ps_st (S' := (21, [(0, .ref m0)], [.ref m0], M379)) rfl rfl rfl ?_
  refine ps_st (S' := (22, [(0, .ref m0)], [.int 0, .ref m0], M379)) rfl rfl rfl ?_
  refine pr_put (j := 66) rfl hR381 rfl (fun M397 I398 hR399 hi400 hI401 => ?_)
  have hi402 := (hI401 20 (by decide)).trans hi384
  have hi403 := (hI401 25 (by decide)).trans hi385
  have hi404 := (hI401 26 (by decide)).trans hi386
  have hi405 := (hI401 9 (by decide)).trans hi387
  have hi406 := (hI401 10 (by decide)).trans hi388
  have hi407 := (hI401 11 (by decide)).trans hi389
  have hi408 := (hI401 67 (by decide)).trans hi390
  have hi409 := (hI401 68 (by decide)).trans hi391
  have hi410 := (hI401 69 (by decide)).trans hi392
  have hi411 := (hI401 65 (by decide)).trans hi382
  have hF_412 := hF_393.mono (pIx hI401 (by decide)) (fun _ _ => rfl)
  have hY_413 := hY_394.mono (pIx hI401 (by decide)) (fun _ _ => rfl)
  have hK_414 := hK_395.mono (pIx hI401 (by decide)) (fun _ _ => rfl)
  have hEI415 := hEI396.put hI401 (by decide)
  show pl _ _ _ (25, [(0, .ref m0)], [], M397) _
  refine ps_st (S' := (26, [(0, .ref m0)], [.ref m0], M397)) rfl rfl rfl ?_
  refine ps_st (S' := (27, [(0, .ref m0)], [.int (-1), .ref m0], M397)) rfl rfl rfl ?_
  refine pr_put (j := 70) rfl hR399 rfl (fun M416 I417 hR418 hi419 hI420 => ?_)
  have hi421 := (hI420 20 (by decide)).trans hi402
  have hi422 := (hI420 25 (by decide)).trans hi403
  have hi423 := (hI420 26 (by decide)).trans hi404
  have hi424 := (hI420 9 (by decide)).trans hi405
  have hi425 := (hI420 10 (by decide)).trans hi406
  have hi426 := (hI420 11 (by decide)).trans hi407
  have hi427 := (hI420 67 (by decide)).trans hi408
  have hi428 := (hI420 68 (by decide)).trans hi409
  have hi429 := (hI420 69 (by decide)).trans hi410
  have hi430 := (hI420 65 (by decide)).trans hi411
  have hi431 := (hI420 66 (by decide)).trans hi400
  have hF_432 := hF_412.mono (pIx hI420 (by decide)) (fun _ _ => rfl)
  have hY_433 := hY_413.mono (pIx hI420 (by decide)) (fun _ _ => rfl)
  have hK_434 := hK_414.mono (pIx hI420 (by decide)) (fun _ _ => rfl)
  have hEI435 := hEI415.put hI420 (by decide)
  show pl _ _ _ (30, [(0, .ref m0)], [], M416) _
  refine ps_st (S' := (31, [(0, .ref m0)], [.ref m0], M416)) rfl rfl rfl ?_
  refine ps_st (S' := (32, [(0, .ref m0)], [.int 0, .ref m0], M416)) rfl rfl rfl ?_
  refine pr_put (j := 71) rfl hR418 rfl (fun M436 I437 hR438 hi439 hI440 => ?_)
  have hi441 := (hI440 20 (by decide)).trans hi421
  have hi442 := (hI440 25 (by decide)).trans hi422
  have hi443 := (hI440 26 (by decide)).trans hi423
  have hi444 := (hI440 9 (by decide)).trans hi424
  have hi445 := (hI440 10 (by decide)).trans hi425
  have hi446 := (hI440 11 (by decide)).trans hi426
  have hi447 := (hI440 67 (by decide)).trans hi427
  have hi448 := (hI440 68 (by decide)).trans hi428
  have hi449 := (hI440 69 (by decide)).trans hi429
  have hi450 := (hI440 65 (by decide)).trans hi430
  have hi451 := (hI440 66 (by decide)).trans hi431
  have hi452 := (hI440 70 (by decide)).trans hi419
  have hF_453 := hF_432.mono (pIx hI440 (by decide)) (fun _ _ => rfl)
  have hY_454 := hY_433.mono (pIx hI440 (by decide)) (fun _ _ => rfl)
  have hK_455 := hK_434.mono (pIx hI440 (by decide)) (fun _ _ => rfl)
  have hEI456 := hEI435.put hI440 (by decide)
  show pl _ _ _ (35, [(0, .ref m0)], [], M436) _
  refine ps_st (S' := (36, [(0, .ref m0)], [.ref m0], M436)) rfl rfl rfl ?_
  refine ps_st (S' := (37, [(0, .ref m0)], [.int (-1), .ref m0], M436)) rfl rfl rfl ?_
  refine pr_put (j := 72) rfl hR438 rfl (fun M457 I458 hR459 hi460 hI461 => ?_)
  have hi462 := (hI461 20 (by decide)).trans hi441
  have hi463 := (hI461 25 (by decide)).trans hi442
  have hi464 := (hI461 26 (by decide)).trans hi443
  have hi465 := (hI461 9 (by decide)).trans hi444
  have hi466 := (hI461 10 (by decide)).trans hi445
  have hi467 := (hI461 11 (by decide)).trans hi446
  have hi468 := (hI461 67 (by decide)).trans hi447
  have hi469 := (hI461 68 (by decide)).trans hi448
  have hi470 := (hI461 69 (by decide)).trans hi449
  have hi471 := (hI461 65 (by decide)).trans hi450
  have hi472 := (hI461 66 (by decide)).trans hi451
  have hi473 := (hI461 70 (by decide)).trans hi452
  have hi474 := (hI461 71 (by decide)).trans hi439
  have hF_475 := hF_453.mono (pIx hI461 (by decide)) (fun _ _ => rfl)
  have hY_476 := hY_454.mono (pIx hI461 (by decide)) (fun _ _ => rfl)
  have hK_477 := hK_455.mono (pIx hI461 (by decide)) (fun _ _ => rfl)
  have hEI478 := hEI456.put hI461 (by decide)
  show pl _ _ _ (40, [(0, .ref m0)], [], M457) _
  refine ps_st (S' := (41, [(0, .ref m0)], [.ref m0], M457)) rfl rfl rfl ?_
  refine pl_call (a := [.ref m0]) (rest := []) rfl rfl rfl (rd_readFile (n := n) (f := f) (tx := tx) (cN := cN) (A := A) hR459 hi462 hF_475 hY_476) (fun v479 M480 q481 => ?_)
  rcases q481 with q481 | q481
  · skip
    obtain ⟨E482, p1483, pF484, pM485, pA486, tx1487, cN1488, A1489, I490, R491, q41_s, q41_k, q41_c, q41_f, q41_m, q41_a, rfl, hR492, hI493, hX494, hi495, hi496, hi497, hi498, hi499, hi500, hi501, hY_502, hP_503⟩ := q481
    have hi504 := (hI493 25 (by decide)).trans hi463
    have hi505 := (hI493 26 (by decide)).trans hi464
    have hi506 := (hI493 9 (by decide)).trans hi465
    have hi507 := (hI493 10 (by decide)).trans hi466
    have hi508 := (hI493 11 (by decide)).trans hi467
    have hi509 := (hI493 67 (by decide)).trans hi468
    have hi510 := (hI493 68 (by decide)).trans hi469
    have hi511 := (hI493 69 (by decide)).trans hi470
    have hi512 := (hI493 65 (by decide)).trans hi471
    have hi513 := (hI493 66 (by decide)).trans hi472
    have hi514 := (hI493 70 (by decide)).trans hi473
    have hi515 := (hI493 71 (by decide)).trans hi474
    have hi516 := (hI493 72 (by decide)).trans hi460
    have hF_517 := hF_475.mono (cIx hI493 (by decide)) (cRx hX494 (by decide))
    have hK_518 := hK_477.mono (cIx hI493 (by decide)) (cRx hX494 (by decide))
    have hEI519 := hEI478.tr hI493 (by decide)
    have hER520 := hER.tr hX494 (by decide)
    show pl _ _ _ (44, [(0, .ref m0)], [.int 1], M480) _
    refine ps_if (S1 := (75, [], [], M480)) (S2 := (47, [(0, .ref m0)], [], M480)) rfl rfl rfl (fun c_44 => ?_) (fun c_44 => ?_)
    · exact absurd (of_decide_eq_true c_44) (by decide)
    exact (LL kf).1 (by2 f 8) (by2 f 6) (p1483) (pF484) (pM485) (pA486) (E482) (tx1487) (cN1488) (A1489) M480 I490 R491 hR492 hEI519 hER520 hi495 hi496 hi497 hi498 hi499 hi500 hi501 hi504 hi505 hi515 hi513 hi506 hi507 hi508 hF_517 hY_502 hP_503 hK_518 (rfl) (rfl) (q41_s) (⟨Nat.lt_of_lt_of_le hs1.1 q41_k.1, (q41_k.2 _ hs1.1).trans hs1.2⟩) (⟨Nat.lt_of_lt_of_le hs2.1 q41_k.1, (q41_k.2 _ hs2.1).trans hs2.2⟩) (⟨Nat.lt_of_lt_of_le hs3.1 q41_k.1, (q41_k.2 _ hs3.1).trans hs3.2⟩) (q41_c) (q41_f) (q41_m) (q41_a)
  · skip
    obtain ⟨e521, I522, R523, q41_s, rfl, hR524, hI525, hX526, hi527, hi528⟩ := q481
    have hi529 := (hI525 25 (by decide)).trans hi463
    have hi530 := (hI525 26 (by decide)).trans hi464
    have hi531 := (hI525 9 (by decide)).trans hi465
    have hi532 := (hI525 10 (by decide)).trans hi466
    have hi533 := (hI525 11 (by decide)).trans hi467
    have hi534 := (hI525 67 (by decide)).trans hi468
    have hi535 := (hI525 68 (by decide)).trans hi469
    have hi536 := (hI525 69 (by decide)).trans hi470
    have hi537 := (hI525 65 (by decide)).trans hi471
    have hi538 := (hI525 66 (by decide)).trans hi472
    have hi539 := (hI525 70 (by decide)).trans hi473
    have hi540 := (hI525 71 (by decide)).trans hi474
    have hi541 := (hI525 72 (by decide)).trans hi460
    have hF_542 := hF_475.mono (cIx hI525 (by decide)) (cRx hX526 (by decide))
    have hK_543 := hK_477.mono (cIx hI525 (by decide)) (cRx hX526 (by decide))
    have hEI544 := hEI478.tr hI525 (by decide)
    have hER545 := hER.tr hX526 (by decide)
    show pl _ _ _ (44, [(0, .ref m0)], [.int 0], M480) _
    refine ps_if (S1 := (75, [], [], M480)) (S2 := (47, [(0, .ref m0)], [], M480)) rfl rfl rfl (fun c_44 => ?_) (fun c_44 => ?_)
    rotate_left
    · exact absurd (by decide) (of_decide_eq_false c_44)
    refine ps_st (S' := (76, [], [.int 0], M480)) rfl rfl rfl ?_
    exact ps_ret rfl rfl (Or.inr ⟨e521, I522, R523, by
        exact s_read_1 q41_s, rfl, hR524, hEI544, hER545, hi527, hi528⟩)
set_option maxHeartbeats 4000000 in
theorem rd_parse13b {g : xe_G} {m0 : Nat} {q : Nat → Nat} {z : Nat × Nat} {I : rI} {R : rR} {M : mi_H} {n : Nat} {f : Nat → Int32} (hR : RS g m0 q z I R M) (hi49 : I 49 = some 0) (hB : BX 13 n f I R) (hK : KX I R) (hn : n ≤ 65540) : pt (mT g) 230 [.ref m0, .ref (q 13), .int (nI n)] M (fun v M' => (∃  (I' : rI) (R' : rR), (s_read f n = none) ∧ v = some (.int 1) ∧ RS g m0 q z I' R' M' ∧ eqI [3, 8, 9, 10, 11, 16, 20, 25, 26, 47, 48, 50, 51, 52, 53, 54, 55, 56, 57, 58, 59, 60, 61, 65, 66, 67, 68, 69, 70, 71, 72] I I' ∧ eqR [1, 2, 4, 5, 6, 7, 12, 21, 22, 27, 28, 29, 30, 31, 32, 33, 34, 35, 36, 37, 38, 39, 40, 41, 42, 43, 44, 45, 46] R R' ∧ XKV f n I' R') ∨ (∃ (e9 : Nat × Nat) (I' : rI) (R' : rR), (s_read f n = some e9) ∧ v = some (.int 0) ∧ RS g m0 q z I' R' M' ∧ eqI [3, 8, 9, 10, 11, 16, 20, 25, 26, 47, 48, 50, 51, 52, 53, 54, 55, 56, 57, 58, 59, 60, 61, 65, 66, 67, 68, 69, 70, 71, 72] I I' ∧ eqR [1, 2, 4, 5, 6, 7, 12, 21, 22, 27, 28, 29, 30, 31, 32, 33, 34, 35, 36, 37, 38, 39, 40, 41, 42, 43, 44, 45, 46] R R' ∧ I' 47 = some (nI e9.1) ∧ I' 48 = some (nI e9.2))) := by
  refine pt_in (b := mb_230 g) rfl (fun kf => ?_)
  show pl (mT g) kf (mb_230 g).2 (0, [(0, .ref m0), (1, .ref (q 13)), (2, .int (nI n))], [], M) _
  have hEI : eqI [3, 8, 9, 10, 11, 16, 20, 25, 26, 47, 48, 50, 51, 52, 53, 54, 55, 56, 57, 58, 59, 60, 61, 65, 66, 67, 68, 69, 70, 71, 72] I I := eqI.rf
  have hER : eqR [1, 2, 4, 5, 6, 7, 12, 21, 22, 27, 28, 29, 30, 31, 32, 33, 34, 35, 36, 37, 38, 39, 40, 41, 42, 43, 44, 45, 46] R R := eqR.rf
  have LL : ∀ (kf : Nat), (∀ (i : Nat) (tx : List (List Nat)) (cN : Nat) (A : Nat → Nat) (s1 s2 s3 : Nat) (M1 : mi_H) (I1 : rI) (R1 : rR), (RS g m0 q z I1 R1 M1) → (eqI [3, 8, 9, 10, 11, 16, 20, 25, 26, 47, 48, 50, 51, 52, 53, 54, 55, 56, 57, 58, 59, 60, 61, 65, 66, 67, 68, 69, 70, 71, 72] I I1) → (eqR [1, 2, 4, 5, 6, 7, 12, 21, 22, 27, 28, 29, 30, 31, 32, 33, 34, 35, 36, 37, 38, 39, 40, 41, 42, 43, 44, 45, 46] R R1) → (I1 49 = some 0) → (I1 16 = some (nI n)) → (I1 20 = some 0) → (I1 25 = some 0) → (I1 26 = some 0) → (I1 9 = some (nI s1)) → (I1 10 = some (nI s2)) → (I1 11 = some (nI s3)) → (BX 13 n f I1 R1) → (KX I1 R1) → (SYT tx cN A I1 R1) → (BX 12 i f I1 R1) → (i ≤ n) → (s1 < tx.length ∧ tx.getD s1 [] = ltx 25) → (s2 < tx.length ∧ tx.getD s2 [] = ltx 26) → (s3 < tx.length ∧ tx.getD s3 [] = ltx 27) →  pl (mT g) kf (mb_230 g).2 (11, [(0, .ref m0), (1, .ref (q 13)), (2, .int (nI n)), (3, .int (nI i))], [], M1) (fun v M' => (∃  (I' : rI) (R' : rR), (s_read f n = none) ∧ v = some (.int 1) ∧ RS g m0 q z I' R' M' ∧ eqI [3, 8, 9, 10, 11, 16, 20, 25, 26, 47, 48, 50, 51, 52, 53, 54, 55, 56, 57, 58, 59, 60, 61, 65, 66, 67, 68, 69, 70, 71, 72] I I' ∧ eqR [1, 2, 4, 5, 6, 7, 12, 21, 22, 27, 28, 29, 30, 31, 32, 33, 34, 35, 36, 37, 38, 39, 40, 41, 42, 43, 44, 45, 46] R R' ∧ XKV f n I' R') ∨ (∃ (e9 : Nat × Nat) (I' : rI) (R' : rR), (s_read f n = some e9) ∧ v = some (.int 0) ∧ RS g m0 q z I' R' M' ∧ eqI [3, 8, 9, 10, 11, 16, 20, 25, 26, 47, 48, 50, 51, 52, 53, 54, 55, 56, 57, 58, 59, 60, 61, 65, 66, 67, 68, 69, 70, 71, 72] I I' ∧ eqR [1, 2, 4, 5, 6, 7, 12, 21, 22, 27, 28, 29, 30, 31, 32, 33, 34, 35, 36, 37, 38, 39, 40, 41, 42, 43, 44, 45, 46] R R' ∧ I' 47 = some (nI e9.1) ∧ I' 48 = some (nI e9.2)))) := by
    intro kf
    induction kf with
    | zero => exact (by intros; exact pl_0)
    | succ kf ih =>
      intro i tx cN A s1 s2 s3 M1 I1 R1 hR1 hEI1 hER1 hl49 hl16 hl20 hl25 hl26 hl9 hl10 hl11 hB1 hK1 hY1 hC1 hi hs1 hs2 hs3
      refine ps_st1 (S' := (12, [(0, .ref m0), (1, .ref (q 13)), (2, .int (nI n)), (3, .int (nI i))], [.int (nI i)], M1)) rfl rfl rfl ?_
      refine ps_st (S' := (13, [(0, .ref m0), (1, .ref (q 13)), (2, .int (nI n)), (3, .int (nI i))], [.int (nI n), .int (nI i)], M1)) rfl rfl rfl ?_
      refine ps_if2 (S1 := (31, [(0, .ref m0), (1, .ref (q 13)), (2, .int (nI n)), (3, .int (nI i))], [], M1)) (S2 := (16, [(0, .ref m0), (1, .ref (q 13)), (2, .int (nI n)), (3, .int (nI i))], [], M1)) rfl rfl rfl (fun c_13 => ?_) (fun c_13 => ?_)
      · have c_13 : (nI n) ≤ (nI i) := of_decide_eq_true c_13
        have n_13 : n ≤ i := (le_nI (p := n) (n := i) (by omega) (by omega)).mp c_13
        refine ps_st (S' := (32, [(0, .ref m0), (1, .ref (q 13)), (2, .int (nI n)), (3, .int (nI i))], [.ref m0], M1)) rfl rfl rfl ?_
        have hF9 : FK n f I1 R1 := ⟨hn, hl49, hl16, fun i9 h9 => (hC1 i9 (by omega)).1⟩
        refine pl_call (a := [.ref m0]) (rest := []) rfl rfl rfl (rd_checkFile2 (n := n) (f := f) (tx := tx) (cN := cN) (A := A) (s1 := s1) (s2 := s2) (s3 := s3) hR1 hl20 hl25 hl26 hl9 hl10 hl11 hF9 hY1 hK1 (hs1) (hs2) (hs3)) (fun v1 M2 q3 => ?_)
        rcases q3 with q3 | q3
        · skip
          obtain ⟨I4, R5, q32_s, rfl, hR6, hI7, hX8, hX_9⟩ := q3
          have hi10 := (hI7 49 (by decide)).trans hl49
          have hi11 := (hI7 16 (by decide)).trans hl16
          have hi12 := (hI7 9 (by decide)).trans hl9
          have hi13 := (hI7 10 (by decide)).trans hl10
          have hi14 := (hI7 11 (by decide)).trans hl11
          have hB_15 := hB1.mono (cIx hI7 (by decide)) (cRx hX8 (by decide))
          have hK_16 := hK1.mono (cIx hI7 (by decide)) (cRx hX8 (by decide))
          have hC_17 := hC1.mono (cIx hI7 (by decide)) (cRx hX8 (by decide))
          have hF_18 := hF9.mono (cIx hI7 (by decide)) (cRx hX8 (by decide))
          have hEI19 := hEI1.tr hI7 (by decide)
          have hER20 := hER1.tr hX8 (by decide)
          show pl _ _ _ (35, [(0, .ref m0), (1, .ref (q 13)), (2, .int (nI n)), (3, .int (nI i))], [.int 1], M2) _
          exact ps_ret rfl rfl (Or.inl ⟨I4, R5, q32_s, rfl, hR6, hEI19, hER20, hX_9⟩)
        · skip
          obtain ⟨e921, I22, R23, q32_s, rfl, hR24, hI25, hX26, hi27, hi28⟩ := q3
          have hi29 := (hI25 49 (by decide)).trans hl49
          have hi30 := (hI25 16 (by decide)).trans hl16
          have hi31 := (hI25 9 (by decide)).trans hl9
          have hi32 := (hI25 10 (by decide)).trans hl10
          have hi33 := (hI25 11 (by decide)).trans hl11
          have hB_34 := hB1.mono (cIx hI25 (by decide)) (cRx hX26 (by decide))
          have hK_35 := hK1.mono (cIx hI25 (by decide)) (cRx hX26 (by decide))
          have hC_36 := hC1.mono (cIx hI25 (by decide)) (cRx hX26 (by decide))
          have hF_37 := hF9.mono (cIx hI25 (by decide)) (cRx hX26 (by decide))
          have hEI38 := hEI1.tr hI25 (by decide)
          have hER39 := hER1.tr hX26 (by decide)
          show pl _ _ _ (35, [(0, .ref m0), (1, .ref (q 13)), (2, .int (nI n)), (3, .int (nI i))], [.int 0], M2) _
          exact ps_ret rfl rfl (Or.inr ⟨e921, I22, R23, q32_s, rfl, hR24, hEI38, hER39, hi27, hi28⟩)
      · have c_13 : ¬ ((nI n) ≤ (nI i)) := of_decide_eq_false c_13
        have n_13 : ¬ (n ≤ i) := fun h9 => c_13 ((le_nI (p := n) (n := i) (by omega) (by omega)).mpr h9)
        refine ps_st (S' := (17, [(0, .ref m0), (1, .ref (q 13)), (2, .int (nI n)), (3, .int (nI i))], [.ref m0], M1)) rfl rfl rfl ?_
        refine pr_ref (j := 12) (S' := (20, [(0, .ref m0), (1, .ref (q 13)), (2, .int (nI n)), (3, .int (nI i))], [.ref (q 12)], M1)) rfl hR1 rfl rfl ?_
        refine ps_st (S' := (21, [(0, .ref m0), (1, .ref (q 13)), (2, .int (nI n)), (3, .int (nI i))], [.int (nI i), .ref (q 12)], M1)) rfl rfl rfl ?_
        refine ps_st (S' := (22, [(0, .ref m0), (1, .ref (q 13)), (2, .int (nI n)), (3, .int (nI i))], [.ref (q 13), .int (nI i), .ref (q 12)], M1)) rfl rfl rfl ?_
        refine ps_st (S' := (23, [(0, .ref m0), (1, .ref (q 13)), (2, .int (nI n)), (3, .int (nI i))], [.int (nI i), .ref (q 13), .int (nI i), .ref (q 12)], M1)) rfl rfl rfl ?_
        refine pr_ld (a := 13) (j := i) (y := (f i)) (S' := (24, [(0, .ref m0), (1, .ref (q 13)), (2, .int (nI n)), (3, .int (nI i))], [.int (f i), .int (nI i), .ref (q 12)], M1)) rfl hR1 rfl (by omega) (fun _ => (hB1 i (by omega)).1) rfl (fun i1_23 => ?_)
        refine pr_st (a := 12) (j := i) rfl hR1 rfl (by omega) (fun M40 R41 i1_24 hR42 hS43 => ?_)
        have hB_44 := hB1.mono (fun _ _ => rfl) (rRx hS43 (by decide))
        have hK_45 := hK1.mono (fun _ _ => rfl) (rRx hS43 (by decide))
        have hY_46 := hY1.mono (fun _ _ => rfl) (rRx hS43 (by decide))
        have hER47 := hER1.st hS43 (by decide)
        show pl _ _ _ (25, [(0, .ref m0), (1, .ref (q 13)), (2, .int (nI n)), (3, .int (nI i))], [], M40) _
        have hC_48 : BX 12 (i + 1) f I1 R41 := BX.st hC1 hS43 (hB1 i (by omega)).2 rfl
        refine ps_st (S' := (28, [(3, .int ((nI i) + 1)), (0, .ref m0), (1, .ref (q 13)), (2, .int (nI n))], [], M40)) rfl rfl rfl ?_
        rw [nI_add1 (p := i) (k := 1) (x := 1) rfl (by omega)]
        show pl _ _ _ (_, [(3, .int (nI (i + 1))), (0, .ref m0), (1, .ref (q 13)), (2, .int (nI n))], [], M40) _
        refine ps_st (S' := (11, [(0, .ref m0), (1, .ref (q 13)), (2, .int (nI n)), (3, .int (nI (i + 1)))], [], M40)) rfl rfl rfl ?_
        exact ih (i + 1) (tx) (cN) (A) (s1) (s2) (s3) M40 I1 R41 hR42 hEI1 hER47 hl49 hl16 hl20 hl25 hl26 hl9 hl10 hl11 hB_44 hK_45 hY_46 hC_48 (by omega) (hs1) (hs2) (hs3)
  refine ps_st (S' := (1, [(0, .ref m0), (1, .ref (q 13)), (2, .int (nI n))], [.ref m0], M)) rfl rfl rfl ?_
  refine pl_call (a := [.ref m0]) (rest := []) rfl rfl rfl (rd_clear hR) (fun v49 M50 q51 => ?_)
  obtain ⟨tx52, cN53, A54, s155, s256, s357, I58, R59, q1_s, rfl, hR60, hI61, hX62, hi63, hi64, hi65, hi66, hi67, hi68, hY_69⟩ := q51
  have hi70 := (hI61 49 (by decide)).trans hi49
  have hB_71 := hB.mono (cIx hI61 (by decide)) (cRx hX62 (by decide))
  have hK_72 := hK.mono (cIx hI61 (by decide)) (cRx hX62 (by decide))
  have hEI73 := hEI.tr hI61 (by decide)
  have hER74 := hER.tr hX62 (by decide)
  show pl _ _ _ (4, [(0, .ref m0), (1, .ref (q 13)), (2, .int (nI n))], [], M50) _
  refine ps_st (S' := (5, [(0, .ref m0), (1, .ref (q 13)), (2, .int (nI n))], [.ref m0], M50)) rfl rfl rfl ?_
  refine ps_st (S' := (6, [(0, .ref m0), (1, .ref (q 13)), (2, .int (nI n))], [.int (nI n), .ref m0], M50)) rfl rfl rfl ?_
  refine pr_put (j := 16) rfl hR60 rfl (fun M75 I76 hR77 hi78 hI79 => ?_)
  have hi80 := (hI79 49 (by decide)).trans hi70
  have hi81 := (hI79 9 (by decide)).trans hi63
  have hi82 := (hI79 10 (by decide)).trans hi64
  have hi83 := (hI79 11 (by decide)).trans hi65
  have hi84 := (hI79 20 (by decide)).trans hi66
  have hi85 := (hI79 25 (by decide)).trans hi67
  have hi86 := (hI79 26 (by decide)).trans hi68
  have hB_87 := hB_71.mono (pIx hI79 (by decide)) (fun _ _ => rfl)
  have hK_88 := hK_72.mono (pIx hI79 (by decide)) (fun _ _ => rfl)
  have hY_89 := hY_69.mono (pIx hI79 (by decide)) (fun _ _ => rfl)
  have hEI90 := hEI73.put hI79 (by decide)
  show pl _ _ _ (9, [(0, .ref m0), (1, .ref (q 13)), (2, .int (nI n))], [], M75) _
  refine ps_st (S' := (10, [(0, .ref m0), (1, .ref (q 13)), (2, .int (nI n))], [.int 0], M75)) rfl rfl rfl ?_
  refine ps_st (S' := (11, [(0, .ref m0), (1, .ref (q 13)), (2, .int (nI n)), (3, .int 0)], [], M75)) rfl rfl rfl ?_
  have hC0 : BX 12 0 f I76 R59 := fun i9 h9 => absurd h9 (Nat.not_lt_zero _)
  exact (LL kf) (0) (tx52) (cN53) (A54) (s155) (s256) (s357) M75 I76 R59 hR77 hEI90 hER74 hi80 hi78 hi84 hi85 hi86 hi81 hi82 hi83 hB_87 hK_88 hY_89 hC0 (by omega) (⟨q1_s.1, q1_s.2.1⟩) (⟨q1_s.2.2.1, q1_s.2.2.2.1⟩) (⟨q1_s.2.2.2.2.1, q1_s.2.2.2.2.2⟩)
set_option maxHeartbeats 4000000 in
theorem rd_parse14b {g : xe_G} {m0 : Nat} {q : Nat → Nat} {z : Nat × Nat} {I : rI} {R : rR} {M : mi_H} {n : Nat} {f : Nat → Int32} (hR : RS g m0 q z I R M) (hi49 : I 49 = some 0) (hB : BX 14 n f I R) (hK : KX I R) (hn : n ≤ 65540) : pt (mT g) 230 [.ref m0, .ref (q 14), .int (nI n)] M (fun v M' => (∃  (I' : rI) (R' : rR), (s_read f n = none) ∧ v = some (.int 1) ∧ RS g m0 q z I' R' M' ∧ eqI [3, 8, 9, 10, 11, 16, 20, 25, 26, 47, 48, 50, 51, 52, 53, 54, 55, 56, 57, 58, 59, 60, 61, 65, 66, 67, 68, 69, 70, 71, 72] I I' ∧ eqR [1, 2, 4, 5, 6, 7, 12, 21, 22, 27, 28, 29, 30, 31, 32, 33, 34, 35, 36, 37, 38, 39, 40, 41, 42, 43, 44, 45, 46] R R' ∧ XKV f n I' R') ∨ (∃ (e9 : Nat × Nat) (I' : rI) (R' : rR), (s_read f n = some e9) ∧ v = some (.int 0) ∧ RS g m0 q z I' R' M' ∧ eqI [3, 8, 9, 10, 11, 16, 20, 25, 26, 47, 48, 50, 51, 52, 53, 54, 55, 56, 57, 58, 59, 60, 61, 65, 66, 67, 68, 69, 70, 71, 72] I I' ∧ eqR [1, 2, 4, 5, 6, 7, 12, 21, 22, 27, 28, 29, 30, 31, 32, 33, 34, 35, 36, 37, 38, 39, 40, 41, 42, 43, 44, 45, 46] R R' ∧ I' 47 = some (nI e9.1) ∧ I' 48 = some (nI e9.2))) := by
  refine pt_in (b := mb_230 g) rfl (fun kf => ?_)
  show pl (mT g) kf (mb_230 g).2 (0, [(0, .ref m0), (1, .ref (q 14)), (2, .int (nI n))], [], M) _
  have hEI : eqI [3, 8, 9, 10, 11, 16, 20, 25, 26, 47, 48, 50, 51, 52, 53, 54, 55, 56, 57, 58, 59, 60, 61, 65, 66, 67, 68, 69, 70, 71, 72] I I := eqI.rf
  have hER : eqR [1, 2, 4, 5, 6, 7, 12, 21, 22, 27, 28, 29, 30, 31, 32, 33, 34, 35, 36, 37, 38, 39, 40, 41, 42, 43, 44, 45, 46] R R := eqR.rf
  have LL : ∀ (kf : Nat), (∀ (i : Nat) (tx : List (List Nat)) (cN : Nat) (A : Nat → Nat) (s1 s2 s3 : Nat) (M1 : mi_H) (I1 : rI) (R1 : rR), (RS g m0 q z I1 R1 M1) → (eqI [3, 8, 9, 10, 11, 16, 20, 25, 26, 47, 48, 50, 51, 52, 53, 54, 55, 56, 57, 58, 59, 60, 61, 65, 66, 67, 68, 69, 70, 71, 72] I I1) → (eqR [1, 2, 4, 5, 6, 7, 12, 21, 22, 27, 28, 29, 30, 31, 32, 33, 34, 35, 36, 37, 38, 39, 40, 41, 42, 43, 44, 45, 46] R R1) → (I1 49 = some 0) → (I1 16 = some (nI n)) → (I1 20 = some 0) → (I1 25 = some 0) → (I1 26 = some 0) → (I1 9 = some (nI s1)) → (I1 10 = some (nI s2)) → (I1 11 = some (nI s3)) → (BX 14 n f I1 R1) → (KX I1 R1) → (SYT tx cN A I1 R1) → (BX 12 i f I1 R1) → (i ≤ n) → (s1 < tx.length ∧ tx.getD s1 [] = ltx 25) → (s2 < tx.length ∧ tx.getD s2 [] = ltx 26) → (s3 < tx.length ∧ tx.getD s3 [] = ltx 27) →  pl (mT g) kf (mb_230 g).2 (11, [(0, .ref m0), (1, .ref (q 14)), (2, .int (nI n)), (3, .int (nI i))], [], M1) (fun v M' => (∃  (I' : rI) (R' : rR), (s_read f n = none) ∧ v = some (.int 1) ∧ RS g m0 q z I' R' M' ∧ eqI [3, 8, 9, 10, 11, 16, 20, 25, 26, 47, 48, 50, 51, 52, 53, 54, 55, 56, 57, 58, 59, 60, 61, 65, 66, 67, 68, 69, 70, 71, 72] I I' ∧ eqR [1, 2, 4, 5, 6, 7, 12, 21, 22, 27, 28, 29, 30, 31, 32, 33, 34, 35, 36, 37, 38, 39, 40, 41, 42, 43, 44, 45, 46] R R' ∧ XKV f n I' R') ∨ (∃ (e9 : Nat × Nat) (I' : rI) (R' : rR), (s_read f n = some e9) ∧ v = some (.int 0) ∧ RS g m0 q z I' R' M' ∧ eqI [3, 8, 9, 10, 11, 16, 20, 25, 26, 47, 48, 50, 51, 52, 53, 54, 55, 56, 57, 58, 59, 60, 61, 65, 66, 67, 68, 69, 70, 71, 72] I I' ∧ eqR [1, 2, 4, 5, 6, 7, 12, 21, 22, 27, 28, 29, 30, 31, 32, 33, 34, 35, 36, 37, 38, 39, 40, 41, 42, 43, 44, 45, 46] R R' ∧ I' 47 = some (nI e9.1) ∧ I' 48 = some (nI e9.2)))) := by
    intro kf
    induction kf with
    | zero => exact (by intros; exact pl_0)
    | succ kf ih =>
      intro i tx cN A s1 s2 s3 M1 I1 R1 hR1 hEI1 hER1 hl49 hl16 hl20 hl25 hl26 hl9 hl10 hl11 hB1 hK1 hY1 hC1 hi hs1 hs2 hs3
      refine ps_st1 (S' := (12, [(0, .ref m0), (1, .ref (q 14)), (2, .int (nI n)), (3, .int (nI i))], [.int (nI i)], M1)) rfl rfl rfl ?_
      refine ps_st (S' := (13, [(0, .ref m0), (1, .ref (q 14)), (2, .int (nI n)), (3, .int (nI i))], [.int (nI n), .int (nI i)], M1)) rfl rfl rfl ?_
      refine ps_if2 (S1 := (31, [(0, .ref m0), (1, .ref (q 14)), (2, .int (nI n)), (3, .int (nI i))], [], M1)) (S2 := (16, [(0, .ref m0), (1, .ref (q 14)), (2, .int (nI n)), (3, .int (nI i))], [], M1)) rfl rfl rfl (fun c_13 => ?_) (fun c_13 => ?_)
      · have c_13 : (nI n) ≤ (nI i) := of_decide_eq_true c_13
        have n_13 : n ≤ i := (le_nI (p := n) (n := i) (by omega) (by omega)).mp c_13
        refine ps_st (S' := (32, [(0, .ref m0), (1, .ref (q 14)), (2, .int (nI n)), (3, .int (nI i))], [.ref m0], M1)) rfl rfl rfl ?_
        have hF9 : FK n f I1 R1 := ⟨hn, hl49, hl16, fun i9 h9 => (hC1 i9 (by omega)).1⟩
        refine pl_call (a := [.ref m0]) (rest := []) rfl rfl rfl (rd_checkFile2 (n := n) (f := f) (tx := tx) (cN := cN) (A := A) (s1 := s1) (s2 := s2) (s3 := s3) hR1 hl20 hl25 hl26 hl9 hl10 hl11 hF9 hY1 hK1 (hs1) (hs2) (hs3)) (fun v1 M2 q3 => ?_)
        rcases q3 with q3 | q3
        · skip
          obtain ⟨I4, R5, q32_s, rfl, hR6, hI7, hX8, hX_9⟩ := q3
          have hi10 := (hI7 49 (by decide)).trans hl49
          have hi11 := (hI7 16 (by decide)).trans hl16
          have hi12 := (hI7 9 (by decide)).trans hl9
          have hi13 := (hI7 10 (by decide)).trans hl10
          have hi14 := (hI7 11 (by decide)).trans hl11
          have hB_15 := hB1.mono (cIx hI7 (by decide)) (cRx hX8 (by decide))
          have hK_16 := hK1.mono (cIx hI7 (by decide)) (cRx hX8 (by decide))
          have hC_17 := hC1.mono (cIx hI7 (by decide)) (cRx hX8 (by decide))
          have hF_18 := hF9.mono (cIx hI7 (by decide)) (cRx hX8 (by decide))
          have hEI19 := hEI1.tr hI7 (by decide)
          have hER20 := hER1.tr hX8 (by decide)
          show pl _ _ _ (35, [(0, .ref m0), (1, .ref (q 14)), (2, .int (nI n)), (3, .int (nI i))], [.int 1], M2) _
          exact ps_ret rfl rfl (Or.inl ⟨I4, R5, q32_s, rfl, hR6, hEI19, hER20, hX_9⟩)
        · skip
          obtain ⟨e921, I22, R23, q32_s, rfl, hR24, hI25, hX26, hi27, hi28⟩ := q3
          have hi29 := (hI25 49 (by decide)).trans hl49
          have hi30 := (hI25 16 (by decide)).trans hl16
          have hi31 := (hI25 9 (by decide)).trans hl9
          have hi32 := (hI25 10 (by decide)).trans hl10
          have hi33 := (hI25 11 (by decide)).trans hl11
          have hB_34 := hB1.mono (cIx hI25 (by decide)) (cRx hX26 (by decide))
          have hK_35 := hK1.mono (cIx hI25 (by decide)) (cRx hX26 (by decide))
          have hC_36 := hC1.mono (cIx hI25 (by decide)) (cRx hX26 (by decide))
          have hF_37 := hF9.mono (cIx hI25 (by decide)) (cRx hX26 (by decide))
          have hEI38 := hEI1.tr hI25 (by decide)
          have hER39 := hER1.tr hX26 (by decide)
          show pl _ _ _ (35, [(0, .ref m0), (1, .ref (q 14)), (2, .int (nI n)), (3, .int (nI i))], [.int 0], M2) _
          exact ps_ret rfl rfl (Or.inr ⟨e921, I22, R23, q32_s, rfl, hR24, hEI38, hER39, hi27, hi28⟩)
      · have c_13 : ¬ ((nI n) ≤ (nI i)) := of_decide_eq_false c_13
        have n_13 : ¬ (n ≤ i) := fun h9 => c_13 ((le_nI (p := n) (n := i) (by omega) (by omega)).mpr h9)
        refine ps_st (S' := (17, [(0, .ref m0), (1, .ref (q 14)), (2, .int (nI n)), (3, .int (nI i))], [.ref m0], M1)) rfl rfl rfl ?_
        refine pr_ref (j := 12) (S' := (20, [(0, .ref m0), (1, .ref (q 14)), (2, .int (nI n)), (3, .int (nI i))], [.ref (q 12)], M1)) rfl hR1 rfl rfl ?_
        refine ps_st (S' := (21, [(0, .ref m0), (1, .ref (q 14)), (2, .int (nI n)), (3, .int (nI i))], [.int (nI i), .ref (q 12)], M1)) rfl rfl rfl ?_
        refine ps_st (S' := (22, [(0, .ref m0), (1, .ref (q 14)), (2, .int (nI n)), (3, .int (nI i))], [.ref (q 14), .int (nI i), .ref (q 12)], M1)) rfl rfl rfl ?_
        refine ps_st (S' := (23, [(0, .ref m0), (1, .ref (q 14)), (2, .int (nI n)), (3, .int (nI i))], [.int (nI i), .ref (q 14), .int (nI i), .ref (q 12)], M1)) rfl rfl rfl ?_
        refine pr_ld (a := 14) (j := i) (y := (f i)) (S' := (24, [(0, .ref m0), (1, .ref (q 14)), (2, .int (nI n)), (3, .int (nI i))], [.int (f i), .int (nI i), .ref (q 12)], M1)) rfl hR1 rfl (by omega) (fun _ => (hB1 i (by omega)).1) rfl (fun i1_23 => ?_)
        refine pr_st (a := 12) (j := i) rfl hR1 rfl (by omega) (fun M40 R41 i1_24 hR42 hS43 => ?_)
        have hB_44 := hB1.mono (fun _ _ => rfl) (rRx hS43 (by decide))
        have hK_45 := hK1.mono (fun _ _ => rfl) (rRx hS43 (by decide))
        have hY_46 := hY1.mono (fun _ _ => rfl) (rRx hS43 (by decide))
        have hER47 := hER1.st hS43 (by decide)
        show pl _ _ _ (25, [(0, .ref m0), (1, .ref (q 14)), (2, .int (nI n)), (3, .int (nI i))], [], M40) _
        have hC_48 : BX 12 (i + 1) f I1 R41 := BX.st hC1 hS43 (hB1 i (by omega)).2 rfl
        refine ps_st (S' := (28, [(3, .int ((nI i) + 1)), (0, .ref m0), (1, .ref (q 14)), (2, .int (nI n))], [], M40)) rfl rfl rfl ?_
        rw [nI_add1 (p := i) (k := 1) (x := 1) rfl (by omega)]
        show pl _ _ _ (_, [(3, .int (nI (i + 1))), (0, .ref m0), (1, .ref (q 14)), (2, .int (nI n))], [], M40) _
        refine ps_st (S' := (11, [(0, .ref m0), (1, .ref (q 14)), (2, .int (nI n)), (3, .int (nI (i + 1)))], [], M40)) rfl rfl rfl ?_
        exact ih (i + 1) (tx) (cN) (A) (s1) (s2) (s3) M40 I1 R41 hR42 hEI1 hER47 hl49 hl16 hl20 hl25 hl26 hl9 hl10 hl11 hB_44 hK_45 hY_46 hC_48 (by omega) (hs1) (hs2) (hs3)
  refine ps_st (S' := (1, [(0, .ref m0), (1, .ref (q 14)), (2, .int (nI n))], [.ref m0], M)) rfl rfl rfl ?_
  refine pl_call (a := [.ref m0]) (rest := []) rfl rfl rfl (rd_clear hR) (fun v49 M50 q51 => ?_)
  obtain ⟨tx52, cN53, A54, s155, s256, s357, I58, R59, q1_s, rfl, hR60, hI61, hX62, hi63, hi64, hi65, hi66, hi67, hi68, hY_69⟩ := q51
  have hi70 := (hI61 49 (by decide)).trans hi49
  have hB_71 := hB.mono (cIx hI61 (by decide)) (cRx hX62 (by decide))
  have hK_72 := hK.mono (cIx hI61 (by decide)) (cRx hX62 (by decide))
  have hEI73 := hEI.tr hI61 (by decide)
  have hER74 := hER.tr hX62 (by decide)
  show pl _ _ _ (4, [(0, .ref m0), (1, .ref (q 14)), (2, .int (nI n))], [], M50) _
  refine ps_st (S' := (5, [(0, .ref m0), (1, .ref (q 14)), (2, .int (nI n))], [.ref m0], M50)) rfl rfl rfl ?_
  refine ps_st (S' := (6, [(0, .ref m0), (1, .ref (q 14)), (2, .int (nI n))], [.int (nI n), .ref m0], M50)) rfl rfl rfl ?_
  refine pr_put (j := 16) rfl hR60 rfl (fun M75 I76 hR77 hi78 hI79 => ?_)
  have hi80 := (hI79 49 (by decide)).trans hi70
  have hi81 := (hI79 9 (by decide)).trans hi63
  have hi82 := (hI79 10 (by decide)).trans hi64
  have hi83 := (hI79 11 (by decide)).trans hi65
  have hi84 := (hI79 20 (by decide)).trans hi66
  have hi85 := (hI79 25 (by decide)).trans hi67
  have hi86 := (hI79 26 (by decide)).trans hi68
  have hB_87 := hB_71.mono (pIx hI79 (by decide)) (fun _ _ => rfl)
  have hK_88 := hK_72.mono (pIx hI79 (by decide)) (fun _ _ => rfl)
  have hY_89 := hY_69.mono (pIx hI79 (by decide)) (fun _ _ => rfl)
  have hEI90 := hEI73.put hI79 (by decide)
  show pl _ _ _ (9, [(0, .ref m0), (1, .ref (q 14)), (2, .int (nI n))], [], M75) _
  refine ps_st (S' := (10, [(0, .ref m0), (1, .ref (q 14)), (2, .int (nI n))], [.int 0], M75)) rfl rfl rfl ?_
  refine ps_st (S' := (11, [(0, .ref m0), (1, .ref (q 14)), (2, .int (nI n)), (3, .int 0)], [], M75)) rfl rfl rfl ?_
  have hC0 : BX 12 0 f I76 R59 := fun i9 h9 => absurd h9 (Nat.not_lt_zero _)
  exact (LL kf) (0) (tx52) (cN53) (A54) (s155) (s256) (s357) M75 I76 R59 hR77 hEI90 hER74 hi80 hi78 hi84 hi85 hi86 hi81 hi82 hi83 hB_87 hK_88 hY_89 hC0 (by omega) (⟨q1_s.1, q1_s.2.1⟩) (⟨q1_s.2.2.1, q1_s.2.2.2.1⟩) (⟨q1_s.2.2.2.2.1, q1_s.2.2.2.2.2⟩)
set_option maxHeartbeats 4000000 in
theorem rd_read2a {g : xe_G} {m0 : Nat} {q : Nat → Nat} {z : Nat × Nat} {I : rI} {R : rR} {M : mi_H} {n : Nat} {f : Nat → Int32} {kn : Int32} (hR : RS g m0 q z I R M) (hi49 : I 49 = some 0) (hi17 : I 17 = some (nI n)) (hi18 : I 18 = some kn) (hB : BX 13 n f I R) (hK : KX I R) (hn : n ≤ 65540) (hk : kn < 0) : pt (mT g) 236 [.ref m0] M (fun v M' => (∃  (I' : rI) (R' : rR), (s_read f n = none) ∧ v = some (.int 0) ∧ RS g m0 q z I' R' M' ∧ eqI [0, 3, 8, 9, 10, 11, 16, 17, 18, 20, 25, 26, 47, 48, 50, 51, 52, 53, 54, 55, 56, 57, 58, 59, 60, 61, 65, 66, 67, 68, 69, 70, 71, 72, 73, 74] I I' ∧ eqR [1, 2, 4, 5, 6, 7, 12, 14, 21, 22, 27, 28, 29, 30, 31, 32, 33, 34, 35, 36, 37, 38, 39, 40, 41, 42, 43, 44, 45, 46] R R' ∧ I' 73 = some (-1) ∧ I' 17 = some (nI 0) ∧ I' 18 = some (nI n) ∧ XKV f n I' R' ∧ BX 14 n f I' R') ∨ (∃ (e9 : Nat × Nat) (I' : rI) (R' : rR), (s_read f n = some e9) ∧ v = some (.int (nI e9.1)) ∧ RS g m0 q z I' R' M' ∧ eqI [0, 3, 8, 9, 10, 11, 16, 17, 18, 20, 25, 26, 47, 48, 50, 51, 52, 53, 54, 55, 56, 57, 58, 59, 60, 61, 65, 66, 67, 68, 69, 70, 71, 72, 73, 74] I I' ∧ eqR [1, 2, 4, 5, 6, 7, 12, 14, 21, 22, 27, 28, 29, 30, 31, 32, 33, 34, 35, 36, 37, 38, 39, 40, 41, 42, 43, 44, 45, 46] R R' ∧ I' 73 = some (nI e9.2) ∧ I' 17 = some (nI 0) ∧ I' 18 = some kn)) := by
  refine pt_in (b := mb_236 g) rfl (fun kf => ?_)
  show pl (mT g) kf (mb_236 g).2 (0, [(0, .ref m0)], [], M) _
  have hEI : eqI [0, 3, 8, 9, 10, 11, 16, 17, 18, 20, 25, 26, 47, 48, 50, 51, 52, 53, 54, 55, 56, 57, 58, 59, 60, 61, 65, 66, 67, 68, 69, 70, 71, 72, 73, 74] I I := eqI.rf
  have hER : eqR [1, 2, 4, 5, 6, 7, 12, 14, 21, 22, 27, 28, 29, 30, 31, 32, 33, 34, 35, 36, 37, 38, 39, 40, 41, 42, 43, 44, 45, 46] R R := eqR.rf
  have LL : ∀ (kf : Nat), (∀ (i : Nat) (M1 : mi_H) (I1 : rI) (R1 : rR), (RS g m0 q z I1 R1 M1) → (eqI [0, 3, 8, 9, 10, 11, 16, 17, 18, 20, 25, 26, 47, 48, 50, 51, 52, 53, 54, 55, 56, 57, 58, 59, 60, 61, 65, 66, 67, 68, 69, 70, 71, 72, 73, 74] I I1) → (eqR [1, 2, 4, 5, 6, 7, 12, 14, 21, 22, 27, 28, 29, 30, 31, 32, 33, 34, 35, 36, 37, 38, 39, 40, 41, 42, 43, 44, 45, 46] R R1) → (I1 17 = some (nI n)) → (I1 73 = some (-1)) → (BX 13 n f I1 R1) → (BX 14 i f I1 R1) → (XKV f n I1 R1) → (i ≤ n) → (s_read f n = none) →  pl (mT g) kf (mb_236 g).2 (53, [(0, .ref m0), (2, .int 0), (3, .int (nI i))], [], M1) (fun v M' => (∃  (I' : rI) (R' : rR), (s_read f n = none) ∧ v = some (.int 0) ∧ RS g m0 q z I' R' M' ∧ eqI [0, 3, 8, 9, 10, 11, 16, 17, 18, 20, 25, 26, 47, 48, 50, 51, 52, 53, 54, 55, 56, 57, 58, 59, 60, 61, 65, 66, 67, 68, 69, 70, 71, 72, 73, 74] I I' ∧ eqR [1, 2, 4, 5, 6, 7, 12, 14, 21, 22, 27, 28, 29, 30, 31, 32, 33, 34, 35, 36, 37, 38, 39, 40, 41, 42, 43, 44, 45, 46] R R' ∧ I' 73 = some (-1) ∧ I' 17 = some (nI 0) ∧ I' 18 = some (nI n) ∧ XKV f n I' R' ∧ BX 14 n f I' R') ∨ (∃ (e9 : Nat × Nat) (I' : rI) (R' : rR), (s_read f n = some e9) ∧ v = some (.int (nI e9.1)) ∧ RS g m0 q z I' R' M' ∧ eqI [0, 3, 8, 9, 10, 11, 16, 17, 18, 20, 25, 26, 47, 48, 50, 51, 52, 53, 54, 55, 56, 57, 58, 59, 60, 61, 65, 66, 67, 68, 69, 70, 71, 72, 73, 74] I I' ∧ eqR [1, 2, 4, 5, 6, 7, 12, 14, 21, 22, 27, 28, 29, 30, 31, 32, 33, 34, 35, 36, 37, 38, 39, 40, 41, 42, 43, 44, 45, 46] R R' ∧ I' 73 = some (nI e9.2) ∧ I' 17 = some (nI 0) ∧ I' 18 = some kn))) := by
    intro kf
    induction kf with
    | zero => exact (by intros; exact pl_0)
    | succ kf ih =>
      intro i M1 I1 R1 hR1 hEI1 hER1 hl17 hl73 hB1 hD1 hX1 hi hr
      refine ps_st1 (S' := (54, [(0, .ref m0), (2, .int 0), (3, .int (nI i))], [.int (nI i)], M1)) rfl rfl rfl ?_
      refine ps_st (S' := (55, [(0, .ref m0), (2, .int 0), (3, .int (nI i))], [.ref m0, .int (nI i)], M1)) rfl rfl rfl ?_
      refine pr_int (j := 17) (S' := (58, [(0, .ref m0), (2, .int 0), (3, .int (nI i))], [.int (nI n), .int (nI i)], M1)) rfl hR1 rfl hl17 rfl ?_
      refine ps_if2 (S1 := (79, [(0, .ref m0), (2, .int 0), (3, .int (nI i))], [], M1)) (S2 := (61, [(0, .ref m0), (2, .int 0), (3, .int (nI i))], [], M1)) rfl rfl rfl (fun c_58 => ?_) (fun c_58 => ?_)
      · have c_58 : (nI n) ≤ (nI i) := of_decide_eq_true c_58
        have n_58 : n ≤ i := (le_nI (p := n) (n := i) (by omega) (by omega)).mp c_58
        refine ps_st (S' := (80, [(0, .ref m0), (2, .int 0), (3, .int (nI i))], [.ref m0], M1)) rfl rfl rfl ?_
        refine ps_st (S' := (81, [(0, .ref m0), (2, .int 0), (3, .int (nI i))], [.ref m0, .ref m0], M1)) rfl rfl rfl ?_
        refine pr_int (j := 17) (S' := (84, [(0, .ref m0), (2, .int 0), (3, .int (nI i))], [.int (nI n), .ref m0], M1)) rfl hR1 rfl hl17 rfl ?_
        refine pr_put (j := 18) rfl hR1 rfl (fun M1 I2 hR3 hi4 hI5 => ?_)
        have hi6 := (hI5 17 (by decide)).trans hl17
        have hi7 := (hI5 73 (by decide)).trans hl73
        have hB_8 := hB1.mono (pIx hI5 (by decide)) (fun _ _ => rfl)
        have hD_9 := hD1.mono (pIx hI5 (by decide)) (fun _ _ => rfl)
        have hX_10 := hX1.mono (pIx hI5 (by decide)) (fun _ _ => rfl)
        have hEI11 := hEI1.put hI5 (by decide)
        show pl _ _ _ (87, [(0, .ref m0), (2, .int 0), (3, .int (nI i))], [], M1) _
        refine ps_st (S' := (110, [(0, .ref m0), (2, .int 0)], [], M1)) rfl rfl rfl ?_
        refine ps_st (S' := (111, [(0, .ref m0), (2, .int 0)], [.ref m0], M1)) rfl rfl rfl ?_
        refine ps_st (S' := (112, [(0, .ref m0), (2, .int 0)], [.int (-1), .ref m0], M1)) rfl rfl rfl ?_
        refine pr_put (j := 74) rfl hR3 rfl (fun M12 I13 hR14 hi15 hI16 => ?_)
        have hi17 := (hI16 17 (by decide)).trans hi6
        have hi18 := (hI16 73 (by decide)).trans hi7
        have hi19 := (hI16 18 (by decide)).trans hi4
        have hB_20 := hB_8.mono (pIx hI16 (by decide)) (fun _ _ => rfl)
        have hD_21 := hD_9.mono (pIx hI16 (by decide)) (fun _ _ => rfl)
        have hX_22 := hX_10.mono (pIx hI16 (by decide)) (fun _ _ => rfl)
        have hEI23 := hEI11.put hI16 (by decide)
        show pl _ _ _ (115, [(0, .ref m0), (2, .int 0)], [], M12) _
        refine ps_st (S' := (116, [(0, .ref m0), (2, .int 0)], [.ref m0], M12)) rfl rfl rfl ?_
        refine ps_st (S' := (117, [(0, .ref m0), (2, .int 0)], [.int 0, .ref m0], M12)) rfl rfl rfl ?_
        refine pr_put (j := 17) rfl hR14 rfl (fun M24 I25 hR26 hi27 hI28 => ?_)
        have hi29 := (hI28 73 (by decide)).trans hi18
        have hi30 := (hI28 18 (by decide)).trans hi19
        have hi31 := (hI28 74 (by decide)).trans hi15
        have hB_32 := hB_20.mono (pIx hI28 (by decide)) (fun _ _ => rfl)
        have hD_33 := hD_21.mono (pIx hI28 (by decide)) (fun _ _ => rfl)
        have hX_34 := hX_22.mono (pIx hI28 (by decide)) (fun _ _ => rfl)
        have hEI35 := hEI23.put hI28 (by decide)
        show pl _ _ _ (120, [(0, .ref m0), (2, .int 0)], [], M24) _
        refine ps_st (S' := (121, [(0, .ref m0), (2, .int 0)], [.int 0], M24)) rfl rfl rfl ?_
        exact ps_ret rfl rfl (Or.inl ⟨I25, R1, hr, rfl, hR26, hEI35, hER1, hi29, hi27, hi30, hX_34, BX.le hD_33 (by omega)⟩)
      · have c_58 : ¬ ((nI n) ≤ (nI i)) := of_decide_eq_false c_58
        have n_58 : ¬ (n ≤ i) := fun h9 => c_58 ((le_nI (p := n) (n := i) (by omega) (by omega)).mpr h9)
        refine ps_st (S' := (62, [(0, .ref m0), (2, .int 0), (3, .int (nI i))], [.ref m0], M1)) rfl rfl rfl ?_
        refine pr_ref (j := 14) (S' := (65, [(0, .ref m0), (2, .int 0), (3, .int (nI i))], [.ref (q 14)], M1)) rfl hR1 rfl rfl ?_
        refine ps_st (S' := (66, [(0, .ref m0), (2, .int 0), (3, .int (nI i))], [.int (nI i), .ref (q 14)], M1)) rfl rfl rfl ?_
        refine ps_st (S' := (67, [(0, .ref m0), (2, .int 0), (3, .int (nI i))], [.ref m0, .int (nI i), .ref (q 14)], M1)) rfl rfl rfl ?_
        refine pr_ref (j := 13) (S' := (70, [(0, .ref m0), (2, .int 0), (3, .int (nI i))], [.ref (q 13), .int (nI i), .ref (q 14)], M1)) rfl hR1 rfl rfl ?_
        refine ps_st (S' := (71, [(0, .ref m0), (2, .int 0), (3, .int (nI i))], [.int (nI i), .ref (q 13), .int (nI i), .ref (q 14)], M1)) rfl rfl rfl ?_
        refine pr_ld (a := 13) (j := i) (y := (f i)) (S' := (72, [(0, .ref m0), (2, .int 0), (3, .int (nI i))], [.int (f i), .int (nI i), .ref (q 14)], M1)) rfl hR1 rfl (by omega) (fun _ => (hB1 i (by omega)).1) rfl (fun i1_71 => ?_)
        refine pr_st (a := 14) (j := i) rfl hR1 rfl (by omega) (fun M36 R37 i1_72 hR38 hS39 => ?_)
        have hB_40 := hB1.mono (fun _ _ => rfl) (rRx hS39 (by decide))
        have hX_41 := hX1.mono (fun _ _ => rfl) (rRx hS39 (by decide))
        have hER42 := hER1.st hS39 (by decide)
        show pl _ _ _ (73, [(0, .ref m0), (2, .int 0), (3, .int (nI i))], [], M36) _
        have hD_43 : BX 14 (i + 1) f I1 R37 := BX.st hD1 hS39 (hB1 i (by omega)).2 rfl
        refine ps_st (S' := (76, [(3, .int ((nI i) + 1)), (0, .ref m0), (2, .int 0)], [], M36)) rfl rfl rfl ?_
        rw [nI_add1 (p := i) (k := 1) (x := 1) rfl (by omega)]
        show pl _ _ _ (_, [(3, .int (nI (i + 1))), (0, .ref m0), (2, .int 0)], [], M36) _
        refine ps_st (S' := (53, [(0, .ref m0), (2, .int 0), (3, .int (nI (i + 1)))], [], M36)) rfl rfl rfl ?_
        exact ih (i + 1) M36 I1 R37 hR38 hEI1 hER42 hl17 hl73 hB_40 hD_43 hX_41 (by omega) (hr)
  refine ps_st (S' := (1, [(0, .ref m0)], [.ref m0], M)) rfl rfl rfl ?_
  refine ps_st (S' := (2, [(0, .ref m0)], [.int 0, .ref m0], M)) rfl rfl rfl ?_
  refine pr_put (j := 0) rfl hR rfl (fun M44 I45 hR46 hi47 hI48 => ?_)
  have hi49 := (hI48 49 (by decide)).trans hi49
  have hi50 := (hI48 17 (by decide)).trans hi17
  have hi51 := (hI48 18 (by decide)).trans hi18
  have hB_52 := hB.mono (pIx hI48 (by decide)) (fun _ _ => rfl)
  have hK_53 := hK.mono (pIx hI48 (by decide)) (fun _ _ => rfl)
  have hEI54 := hEI.put hI48 (by decide)
  show pl _ _ _ (5, [(0, .ref m0)], [], M44) _
  refine ps_st (S' := (6, [(0, .ref m0)], [.ref m0], M44)) rfl rfl rfl ?_
  refine ps_st (S' := (7, [(0, .ref m0)], [.ref m0, .ref m0], M44)) rfl rfl rfl ?_
  refine pr_ref (j := 13) (S' := (10, [(0, .ref m0)], [.ref (q 13), .ref m0], M44)) rfl hR46 rfl rfl ?_
  refine ps_st (S' := (11, [(0, .ref m0)], [.ref m0, .ref (q 13), .ref m0], M44)) rfl rfl rfl ?_
  refine pr_int (j := 17) (S' := (14, [(0, .ref m0)], [.int (nI n), .ref (q 13), .ref m0], M44)) rfl hR46 rfl hi50 rfl ?_
  refine pl_call (a := [.ref m0, .ref (q 13), .int (nI n)]) (rest := []) rfl rfl rfl (rd_parse13b (n := n) (f := f) hR46 hi49 hB_52 hK_53 (hn)) (fun v55 M56 q57 => ?_)
  rcases q57 with q57 | q57
  · skip
    obtain ⟨I58, R59, q14_s, rfl, hR60, hI61, hX62, hX_63⟩ := q57
    have hi64 := (hI61 49 (by decide)).trans hi49
    have hi65 := (hI61 17 (by decide)).trans hi50
    have hi66 := (hI61 18 (by decide)).trans hi51
    have hi67 := (hI61 0 (by decide)).trans hi47
    have hB_68 := hB_52.mono (cIx hI61 (by decide)) (cRx hX62 (by decide))
    have hK_69 := hK_53.mono (cIx hI61 (by decide)) (cRx hX62 (by decide))
    have hEI70 := hEI54.tr hI61 (by decide)
    have hER71 := hER.tr hX62 (by decide)
    show pl _ _ _ (17, [(0, .ref m0)], [.int 1], M56) _
    refine ps_st (S' := (18, [(1, .int 1), (0, .ref m0)], [], M56)) rfl rfl rfl ?_
    refine ps_st (S' := (19, [(1, .int 1), (0, .ref m0)], [.ref m0], M56)) rfl rfl rfl ?_
    refine ps_st (S' := (20, [(1, .int 1), (0, .ref m0)], [.int 1, .ref m0], M56)) rfl rfl rfl ?_
    refine ps_if (S1 := (27, [(1, .int 1), (0, .ref m0)], [.ref m0], M56)) (S2 := (23, [(1, .int 1), (0, .ref m0)], [.ref m0], M56)) rfl rfl rfl (fun c_20 => ?_) (fun c_20 => ?_)
    · exact absurd (of_decide_eq_true c_20) (by decide)
    refine ps_st (S' := (24, [(1, .int 1), (0, .ref m0)], [.int (-1), .ref m0], M56)) rfl rfl rfl ?_
    refine ps_st (S' := (31, [(0, .ref m0), (1, .int 1)], [.int (-1), .ref m0], M56)) rfl rfl rfl ?_
    refine pr_put (j := 73) rfl hR60 rfl (fun M72 I73 hR74 hi75 hI76 => ?_)
    have hi77 := (hI76 49 (by decide)).trans hi64
    have hi78 := (hI76 17 (by decide)).trans hi65
    have hi79 := (hI76 18 (by decide)).trans hi66
    have hi80 := (hI76 0 (by decide)).trans hi67
    have hB_81 := hB_68.mono (pIx hI76 (by decide)) (fun _ _ => rfl)
    have hK_82 := hK_69.mono (pIx hI76 (by decide)) (fun _ _ => rfl)
    have hX_83 := hX_63.mono (pIx hI76 (by decide)) (fun _ _ => rfl)
    have hEI84 := hEI70.put hI76 (by decide)
    show pl _ _ _ (34, [(0, .ref m0), (1, .int 1)], [], M72) _
    refine ps_st (S' := (35, [(0, .ref m0), (1, .int 1)], [.int 1], M72)) rfl rfl rfl ?_
    refine ps_if (S1 := (42, [(0, .ref m0), (1, .int 1)], [], M72)) (S2 := (38, [(0, .ref m0), (1, .int 1)], [], M72)) rfl rfl rfl (fun c_35 => ?_) (fun c_35 => ?_)
    · exact absurd (of_decide_eq_true c_35) (by decide)
    refine ps_st (S' := (39, [(0, .ref m0), (1, .int 1)], [.int 0], M72)) rfl rfl rfl ?_
    refine ps_st (S' := (46, [(0, .ref m0), (1, .int 1)], [.int 0], M72)) rfl rfl rfl ?_
    refine ps_st (S' := (47, [(2, .int 0), (0, .ref m0), (1, .int 1)], [], M72)) rfl rfl rfl ?_
    refine ps_st (S' := (48, [(2, .int 0), (0, .ref m0), (1, .int 1)], [.int 1], M72)) rfl rfl rfl ?_
    refine ps_if (S1 := (90, [(2, .int 0), (0, .ref m0), (1, .int 1)], [], M72)) (S2 := (51, [(2, .int 0), (0, .ref m0), (1, .int 1)], [], M72)) rfl rfl rfl (fun c_48 => ?_) (fun c_48 => ?_)
    · exact absurd (of_decide_eq_true c_48) (by decide)
    refine ps_st (S' := (52, [(2, .int 0), (0, .ref m0), (1, .int 1)], [.int 0], M72)) rfl rfl rfl ?_
    refine ps_st (S' := (53, [(0, .ref m0), (2, .int 0), (3, .int 0)], [], M72)) rfl rfl rfl ?_
    have hD0 : BX 14 0 f I73 R59 := fun i9 h9 => absurd h9 (Nat.not_lt_zero _)
    exact (LL kf) (0) M72 I73 R59 hR74 hEI84 hER71 hi78 hi75 hB_81 hD0 hX_83 (by omega) (q14_s)
  · skip
    obtain ⟨e985, I86, R87, q14_s, rfl, hR88, hI89, hX90, hi91, hi92⟩ := q57
    have hi93 := (hI89 49 (by decide)).trans hi49
    have hi94 := (hI89 17 (by decide)).trans hi50
    have hi95 := (hI89 18 (by decide)).trans hi51
    have hi96 := (hI89 0 (by decide)).trans hi47
    have hB_97 := hB_52.mono (cIx hI89 (by decide)) (cRx hX90 (by decide))
    have hK_98 := hK_53.mono (cIx hI89 (by decide)) (cRx hX90 (by decide))
    have hEI99 := hEI54.tr hI89 (by decide)
    have hER100 := hER.tr hX90 (by decide)
    show pl _ _ _ (17, [(0, .ref m0)], [.int 0], M56) _
    refine ps_st (S' := (18, [(1, .int 0), (0, .ref m0)], [], M56)) rfl rfl rfl ?_
    refine ps_st (S' := (19, [(1, .int 0), (0, .ref m0)], [.ref m0], M56)) rfl rfl rfl ?_
    refine ps_st (S' := (20, [(1, .int 0), (0, .ref m0)], [.int 0, .ref m0], M56)) rfl rfl rfl ?_
    refine ps_if (S1 := (27, [(1, .int 0), (0, .ref m0)], [.ref m0], M56)) (S2 := (23, [(1, .int 0), (0, .ref m0)], [.ref m0], M56)) rfl rfl rfl (fun c_20 => ?_) (fun c_20 => ?_)
    rotate_left
    · exact absurd (by decide) (of_decide_eq_false c_20)
    refine ps_st (S' := (28, [(1, .int 0), (0, .ref m0)], [.ref m0, .ref m0], M56)) rfl rfl rfl ?_
    refine pr_int (j := 48) (S' := (31, [(0, .ref m0), (1, .int 0)], [.int (nI e985.2), .ref m0], M56)) rfl hR88 rfl hi92 rfl ?_
    refine pr_put (j := 73) rfl hR88 rfl (fun M101 I102 hR103 hi104 hI105 => ?_)
    have hi106 := (hI105 49 (by decide)).trans hi93
    have hi107 := (hI105 17 (by decide)).trans hi94
    have hi108 := (hI105 18 (by decide)).trans hi95
    have hi109 := (hI105 0 (by decide)).trans hi96
    have hi110 := (hI105 47 (by decide)).trans hi91
    have hi111 := (hI105 48 (by decide)).trans hi92
    have hB_112 := hB_97.mono (pIx hI105 (by decide)) (fun _ _ => rfl)
    have hK_113 := hK_98.mono (pIx hI105 (by decide)) (fun _ _ => rfl)
    have hEI114 := hEI99.put hI105 (by decide)
    show pl _ _ _ (34, [(0, .ref m0), (1, .int 0)], [], M101) _
    refine ps_st (S' := (35, [(0, .ref m0), (1, .int 0)], [.int 0], M101)) rfl rfl rfl ?_
    refine ps_if (S1 := (42, [(0, .ref m0), (1, .int 0)], [], M101)) (S2 := (38, [(0, .ref m0), (1, .int 0)], [], M101)) rfl rfl rfl (fun c_35 => ?_) (fun c_35 => ?_)
    rotate_left
    · exact absurd (by decide) (of_decide_eq_false c_35)
    refine ps_st (S' := (43, [(0, .ref m0), (1, .int 0)], [.ref m0], M101)) rfl rfl rfl ?_
    refine pr_int (j := 47) (S' := (46, [(0, .ref m0), (1, .int 0)], [.int (nI e985.1)], M101)) rfl hR103 rfl hi110 rfl ?_
    refine ps_st (S' := (47, [(2, .int (nI e985.1)), (0, .ref m0), (1, .int 0)], [], M101)) rfl rfl rfl ?_
    refine ps_st (S' := (48, [(2, .int (nI e985.1)), (0, .ref m0), (1, .int 0)], [.int 0], M101)) rfl rfl rfl ?_
    refine ps_if (S1 := (90, [(2, .int (nI e985.1)), (0, .ref m0), (1, .int 0)], [], M101)) (S2 := (51, [(2, .int (nI e985.1)), (0, .ref m0), (1, .int 0)], [], M101)) rfl rfl rfl (fun c_48 => ?_) (fun c_48 => ?_)
    rotate_left
    · exact absurd (by decide) (of_decide_eq_false c_48)
    refine ps_st (S' := (91, [(2, .int (nI e985.1)), (0, .ref m0), (1, .int 0)], [.ref m0], M101)) rfl rfl rfl ?_
    refine pr_int (j := 18) (S' := (94, [(2, .int (nI e985.1)), (0, .ref m0), (1, .int 0)], [.int kn], M101)) rfl hR103 rfl hi108 rfl ?_
    refine ps_if (S1 := (110, [(0, .ref m0), (2, .int (nI e985.1))], [], M101)) (S2 := (97, [(2, .int (nI e985.1)), (0, .ref m0), (1, .int 0)], [], M101)) rfl rfl rfl (fun c_94 => ?_) (fun c_94 => ?_)
    rotate_left
    · exact absurd (hk) (of_decide_eq_false c_94)
    refine ps_st (S' := (111, [(0, .ref m0), (2, .int (nI e985.1))], [.ref m0], M101)) rfl rfl rfl ?_
    refine ps_st (S' := (112, [(0, .ref m0), (2, .int (nI e985.1))], [.int (-1), .ref m0], M101)) rfl rfl rfl ?_
    refine pr_put (j := 74) rfl hR103 rfl (fun M115 I116 hR117 hi118 hI119 => ?_)
    have hi120 := (hI119 49 (by decide)).trans hi106
    have hi121 := (hI119 17 (by decide)).trans hi107
    have hi122 := (hI119 18 (by decide)).trans hi108
    have hi123 := (hI119 0 (by decide)).trans hi109
    have hi124 := (hI119 47 (by decide)).trans hi110
    have hi125 := (hI119 48 (by decide)).trans hi111
    have hi126 := (hI119 73 (by decide)).trans hi104
    have hB_127 := hB_112.mono (pIx hI119 (by decide)) (fun _ _ => rfl)
    have hK_128 := hK_113.mono (pIx hI119 (by decide)) (fun _ _ => rfl)
    have hEI129 := hEI114.put hI119 (by decide)
    show pl _ _ _ (115, [(0, .ref m0), (2, .int (nI e985.1))], [], M115) _
    refine ps_st (S' := (116, [(0, .ref m0), (2, .int (nI e985.1))], [.ref m0], M115)) rfl rfl rfl ?_
    refine ps_st (S' := (117, [(0, .ref m0), (2, .int (nI e985.1))], [.int 0, .ref m0], M115)) rfl rfl rfl ?_
    refine pr_put (j := 17) rfl hR117 rfl (fun M130 I131 hR132 hi133 hI134 => ?_)
    have hi135 := (hI134 49 (by decide)).trans hi120
    have hi136 := (hI134 18 (by decide)).trans hi122
    have hi137 := (hI134 0 (by decide)).trans hi123
    have hi138 := (hI134 47 (by decide)).trans hi124
    have hi139 := (hI134 48 (by decide)).trans hi125
    have hi140 := (hI134 73 (by decide)).trans hi126
    have hi141 := (hI134 74 (by decide)).trans hi118
    have hB_142 := hB_127.mono (pIx hI134 (by decide)) (fun _ _ => rfl)
    have hK_143 := hK_128.mono (pIx hI134 (by decide)) (fun _ _ => rfl)
    have hEI144 := hEI129.put hI134 (by decide)
    show pl _ _ _ (120, [(0, .ref m0), (2, .int (nI e985.1))], [], M130) _
    refine ps_st (S' := (121, [(0, .ref m0), (2, .int (nI e985.1))], [.int (nI e985.1)], M130)) rfl rfl rfl ?_
    exact ps_reti rfl (Or.inr ⟨e985, I131, R87, q14_s, rfl, hR132, hEI144, hER100, hi140, hi133, hi136⟩)
set_option maxHeartbeats 4000000 in
theorem rd_read2b {g : xe_G} {m0 : Nat} {q : Nat → Nat} {z : Nat × Nat} {I : rI} {R : rR} {M : mi_H} {n : Nat} {f : Nat → Int32} {n2 : Nat} {f2 : Nat → Int32} (hR : RS g m0 q z I R M) (hi49 : I 49 = some 0) (hi17 : I 17 = some (nI n)) (hi18 : I 18 = some (nI n2)) (hB : BX 13 n f I R) (hK : KX I R) (hQ : BX 14 n2 f2 I R) (hn : n ≤ 65540) (hk2 : n2 ≤ 65540) (hr2 : s_read f2 n2 = none) : pt (mT g) 236 [.ref m0] M (fun v M' => (∃  (I' : rI) (R' : rR), (s_read f n = none) ∧ v = some (.int 0) ∧ RS g m0 q z I' R' M' ∧ eqI [0, 3, 8, 9, 10, 11, 16, 17, 18, 20, 25, 26, 47, 48, 50, 51, 52, 53, 54, 55, 56, 57, 58, 59, 60, 61, 65, 66, 67, 68, 69, 70, 71, 72, 73, 74] I I' ∧ eqR [1, 2, 4, 5, 6, 7, 12, 14, 21, 22, 27, 28, 29, 30, 31, 32, 33, 34, 35, 36, 37, 38, 39, 40, 41, 42, 43, 44, 45, 46] R R' ∧ I' 73 = some (-1) ∧ I' 17 = some (nI 0) ∧ I' 18 = some (nI n) ∧ XKV f n I' R' ∧ BX 14 n f I' R') ∨ (∃ (e9 : Nat × Nat) (I' : rI) (R' : rR), (s_read f n = some e9) ∧ v = some (.int (nI e9.1)) ∧ RS g m0 q z I' R' M' ∧ eqI [0, 3, 8, 9, 10, 11, 16, 17, 18, 20, 25, 26, 47, 48, 50, 51, 52, 53, 54, 55, 56, 57, 58, 59, 60, 61, 65, 66, 67, 68, 69, 70, 71, 72, 73, 74] I I' ∧ eqR [1, 2, 4, 5, 6, 7, 12, 14, 21, 22, 27, 28, 29, 30, 31, 32, 33, 34, 35, 36, 37, 38, 39, 40, 41, 42, 43, 44, 45, 46] R R' ∧ I' 73 = some (nI e9.2) ∧ I' 17 = some (nI 0) ∧ I' 18 = some (nI n2) ∧ XKV f2 n2 I' R' ∧ BX 14 n2 f2 I' R')) := by
  refine pt_in (b := mb_236 g) rfl (fun kf => ?_)
  show pl (mT g) kf (mb_236 g).2 (0, [(0, .ref m0)], [], M) _
  have hEI : eqI [0, 3, 8, 9, 10, 11, 16, 17, 18, 20, 25, 26, 47, 48, 50, 51, 52, 53, 54, 55, 56, 57, 58, 59, 60, 61, 65, 66, 67, 68, 69, 70, 71, 72, 73, 74] I I := eqI.rf
  have hER : eqR [1, 2, 4, 5, 6, 7, 12, 14, 21, 22, 27, 28, 29, 30, 31, 32, 33, 34, 35, 36, 37, 38, 39, 40, 41, 42, 43, 44, 45, 46] R R := eqR.rf
  have LL : ∀ (kf : Nat), (∀ (i : Nat) (M1 : mi_H) (I1 : rI) (R1 : rR), (RS g m0 q z I1 R1 M1) → (eqI [0, 3, 8, 9, 10, 11, 16, 17, 18, 20, 25, 26, 47, 48, 50, 51, 52, 53, 54, 55, 56, 57, 58, 59, 60, 61, 65, 66, 67, 68, 69, 70, 71, 72, 73, 74] I I1) → (eqR [1, 2, 4, 5, 6, 7, 12, 14, 21, 22, 27, 28, 29, 30, 31, 32, 33, 34, 35, 36, 37, 38, 39, 40, 41, 42, 43, 44, 45, 46] R R1) → (I1 17 = some (nI n)) → (I1 73 = some (-1)) → (BX 13 n f I1 R1) → (BX 14 i f I1 R1) → (XKV f n I1 R1) → (i ≤ n) → (s_read f n = none) →  pl (mT g) kf (mb_236 g).2 (53, [(0, .ref m0), (2, .int 0), (3, .int (nI i))], [], M1) (fun v M' => (∃  (I' : rI) (R' : rR), (s_read f n = none) ∧ v = some (.int 0) ∧ RS g m0 q z I' R' M' ∧ eqI [0, 3, 8, 9, 10, 11, 16, 17, 18, 20, 25, 26, 47, 48, 50, 51, 52, 53, 54, 55, 56, 57, 58, 59, 60, 61, 65, 66, 67, 68, 69, 70, 71, 72, 73, 74] I I' ∧ eqR [1, 2, 4, 5, 6, 7, 12, 14, 21, 22, 27, 28, 29, 30, 31, 32, 33, 34, 35, 36, 37, 38, 39, 40, 41, 42, 43, 44, 45, 46] R R' ∧ I' 73 = some (-1) ∧ I' 17 = some (nI 0) ∧ I' 18 = some (nI n) ∧ XKV f n I' R' ∧ BX 14 n f I' R') ∨ (∃ (e9 : Nat × Nat) (I' : rI) (R' : rR), (s_read f n = some e9) ∧ v = some (.int (nI e9.1)) ∧ RS g m0 q z I' R' M' ∧ eqI [0, 3, 8, 9, 10, 11, 16, 17, 18, 20, 25, 26, 47, 48, 50, 51, 52, 53, 54, 55, 56, 57, 58, 59, 60, 61, 65, 66, 67, 68, 69, 70, 71, 72, 73, 74] I I' ∧ eqR [1, 2, 4, 5, 6, 7, 12, 14, 21, 22, 27, 28, 29, 30, 31, 32, 33, 34, 35, 36, 37, 38, 39, 40, 41, 42, 43, 44, 45, 46] R R' ∧ I' 73 = some (nI e9.2) ∧ I' 17 = some (nI 0) ∧ I' 18 = some (nI n2) ∧ XKV f2 n2 I' R' ∧ BX 14 n2 f2 I' R'))) := by
    intro kf
    induction kf with
    | zero => exact (by intros; exact pl_0)
    | succ kf ih =>
      intro i M1 I1 R1 hR1 hEI1 hER1 hl17 hl73 hB1 hD1 hX1 hi hr
      refine ps_st1 (S' := (54, [(0, .ref m0), (2, .int 0), (3, .int (nI i))], [.int (nI i)], M1)) rfl rfl rfl ?_
      refine ps_st (S' := (55, [(0, .ref m0), (2, .int 0), (3, .int (nI i))], [.ref m0, .int (nI i)], M1)) rfl rfl rfl ?_
      refine pr_int (j := 17) (S' := (58, [(0, .ref m0), (2, .int 0), (3, .int (nI i))], [.int (nI n), .int (nI i)], M1)) rfl hR1 rfl hl17 rfl ?_
      refine ps_if2 (S1 := (79, [(0, .ref m0), (2, .int 0), (3, .int (nI i))], [], M1)) (S2 := (61, [(0, .ref m0), (2, .int 0), (3, .int (nI i))], [], M1)) rfl rfl rfl (fun c_58 => ?_) (fun c_58 => ?_)
      · have c_58 : (nI n) ≤ (nI i) := of_decide_eq_true c_58
        have n_58 : n ≤ i := (le_nI (p := n) (n := i) (by omega) (by omega)).mp c_58
        refine ps_st (S' := (80, [(0, .ref m0), (2, .int 0), (3, .int (nI i))], [.ref m0], M1)) rfl rfl rfl ?_
        refine ps_st (S' := (81, [(0, .ref m0), (2, .int 0), (3, .int (nI i))], [.ref m0, .ref m0], M1)) rfl rfl rfl ?_
        refine pr_int (j := 17) (S' := (84, [(0, .ref m0), (2, .int 0), (3, .int (nI i))], [.int (nI n), .ref m0], M1)) rfl hR1 rfl hl17 rfl ?_
        refine pr_put (j := 18) rfl hR1 rfl (fun M1 I2 hR3 hi4 hI5 => ?_)
        have hi6 := (hI5 17 (by decide)).trans hl17
        have hi7 := (hI5 73 (by decide)).trans hl73
        have hB_8 := hB1.mono (pIx hI5 (by decide)) (fun _ _ => rfl)
        have hD_9 := hD1.mono (pIx hI5 (by decide)) (fun _ _ => rfl)
        have hX_10 := hX1.mono (pIx hI5 (by decide)) (fun _ _ => rfl)
        have hEI11 := hEI1.put hI5 (by decide)
        show pl _ _ _ (87, [(0, .ref m0), (2, .int 0), (3, .int (nI i))], [], M1) _
        refine ps_st (S' := (110, [(0, .ref m0), (2, .int 0)], [], M1)) rfl rfl rfl ?_
        refine ps_st (S' := (111, [(0, .ref m0), (2, .int 0)], [.ref m0], M1)) rfl rfl rfl ?_
        refine ps_st (S' := (112, [(0, .ref m0), (2, .int 0)], [.int (-1), .ref m0], M1)) rfl rfl rfl ?_
        refine pr_put (j := 74) rfl hR3 rfl (fun M12 I13 hR14 hi15 hI16 => ?_)
        have hi17 := (hI16 17 (by decide)).trans hi6
        have hi18 := (hI16 73 (by decide)).trans hi7
        have hi19 := (hI16 18 (by decide)).trans hi4
        have hB_20 := hB_8.mono (pIx hI16 (by decide)) (fun _ _ => rfl)
        have hD_21 := hD_9.mono (pIx hI16 (by decide)) (fun _ _ => rfl)
        have hX_22 := hX_10.mono (pIx hI16 (by decide)) (fun _ _ => rfl)
        have hEI23 := hEI11.put hI16 (by decide)
        show pl _ _ _ (115, [(0, .ref m0), (2, .int 0)], [], M12) _
        refine ps_st (S' := (116, [(0, .ref m0), (2, .int 0)], [.ref m0], M12)) rfl rfl rfl ?_
        refine ps_st (S' := (117, [(0, .ref m0), (2, .int 0)], [.int 0, .ref m0], M12)) rfl rfl rfl ?_
        refine pr_put (j := 17) rfl hR14 rfl (fun M24 I25 hR26 hi27 hI28 => ?_)
        have hi29 := (hI28 73 (by decide)).trans hi18
        have hi30 := (hI28 18 (by decide)).trans hi19
        have hi31 := (hI28 74 (by decide)).trans hi15
        have hB_32 := hB_20.mono (pIx hI28 (by decide)) (fun _ _ => rfl)
        have hD_33 := hD_21.mono (pIx hI28 (by decide)) (fun _ _ => rfl)
        have hX_34 := hX_22.mono (pIx hI28 (by decide)) (fun _ _ => rfl)
        have hEI35 := hEI23.put hI28 (by decide)
        show pl _ _ _ (120, [(0, .ref m0), (2, .int 0)], [], M24) _
        refine ps_st (S' := (121, [(0, .ref m0), (2, .int 0)], [.int 0], M24)) rfl rfl rfl ?_
        exact ps_ret rfl rfl (Or.inl ⟨I25, R1, hr, rfl, hR26, hEI35, hER1, hi29, hi27, hi30, hX_34, BX.le hD_33 (by omega)⟩)
      · have c_58 : ¬ ((nI n) ≤ (nI i)) := of_decide_eq_false c_58
        have n_58 : ¬ (n ≤ i) := fun h9 => c_58 ((le_nI (p := n) (n := i) (by omega) (by omega)).mpr h9)
        refine ps_st (S' := (62, [(0, .ref m0), (2, .int 0), (3, .int (nI i))], [.ref m0], M1)) rfl rfl rfl ?_
        refine pr_ref (j := 14) (S' := (65, [(0, .ref m0), (2, .int 0), (3, .int (nI i))], [.ref (q 14)], M1)) rfl hR1 rfl rfl ?_
        refine ps_st (S' := (66, [(0, .ref m0), (2, .int 0), (3, .int (nI i))], [.int (nI i), .ref (q 14)], M1)) rfl rfl rfl ?_
        refine ps_st (S' := (67, [(0, .ref m0), (2, .int 0), (3, .int (nI i))], [.ref m0, .int (nI i), .ref (q 14)], M1)) rfl rfl rfl ?_
        refine pr_ref (j := 13) (S' := (70, [(0, .ref m0), (2, .int 0), (3, .int (nI i))], [.ref (q 13), .int (nI i), .ref (q 14)], M1)) rfl hR1 rfl rfl ?_
        refine ps_st (S' := (71, [(0, .ref m0), (2, .int 0), (3, .int (nI i))], [.int (nI i), .ref (q 13), .int (nI i), .ref (q 14)], M1)) rfl rfl rfl ?_
        refine pr_ld (a := 13) (j := i) (y := (f i)) (S' := (72, [(0, .ref m0), (2, .int 0), (3, .int (nI i))], [.int (f i), .int (nI i), .ref (q 14)], M1)) rfl hR1 rfl (by omega) (fun _ => (hB1 i (by omega)).1) rfl (fun i1_71 => ?_)
        refine pr_st (a := 14) (j := i) rfl hR1 rfl (by omega) (fun M36 R37 i1_72 hR38 hS39 => ?_)
        have hB_40 := hB1.mono (fun _ _ => rfl) (rRx hS39 (by decide))
        have hX_41 := hX1.mono (fun _ _ => rfl) (rRx hS39 (by decide))
        have hER42 := hER1.st hS39 (by decide)
        show pl _ _ _ (73, [(0, .ref m0), (2, .int 0), (3, .int (nI i))], [], M36) _
        have hD_43 : BX 14 (i + 1) f I1 R37 := BX.st hD1 hS39 (hB1 i (by omega)).2 rfl
        refine ps_st (S' := (76, [(3, .int ((nI i) + 1)), (0, .ref m0), (2, .int 0)], [], M36)) rfl rfl rfl ?_
        rw [nI_add1 (p := i) (k := 1) (x := 1) rfl (by omega)]
        show pl _ _ _ (_, [(3, .int (nI (i + 1))), (0, .ref m0), (2, .int 0)], [], M36) _
        refine ps_st (S' := (53, [(0, .ref m0), (2, .int 0), (3, .int (nI (i + 1)))], [], M36)) rfl rfl rfl ?_
        exact ih (i + 1) M36 I1 R37 hR38 hEI1 hER42 hl17 hl73 hB_40 hD_43 hX_41 (by omega) (hr)
  refine ps_st (S' := (1, [(0, .ref m0)], [.ref m0], M)) rfl rfl rfl ?_
  refine ps_st (S' := (2, [(0, .ref m0)], [.int 0, .ref m0], M)) rfl rfl rfl ?_
  refine pr_put (j := 0) rfl hR rfl (fun M44 I45 hR46 hi47 hI48 => ?_)
  have hi49 := (hI48 49 (by decide)).trans hi49
  have hi50 := (hI48 17 (by decide)).trans hi17
  have hi51 := (hI48 18 (by decide)).trans hi18
  have hB_52 := hB.mono (pIx hI48 (by decide)) (fun _ _ => rfl)
  have hK_53 := hK.mono (pIx hI48 (by decide)) (fun _ _ => rfl)
  have hQ_54 := hQ.mono (pIx hI48 (by decide)) (fun _ _ => rfl)
  have hEI55 := hEI.put hI48 (by decide)
  show pl _ _ _ (5, [(0, .ref m0)], [], M44) _
  refine ps_st (S' := (6, [(0, .ref m0)], [.ref m0], M44)) rfl rfl rfl ?_
  refine ps_st (S' := (7, [(0, .ref m0)], [.ref m0, .ref m0], M44)) rfl rfl rfl ?_
  refine pr_ref (j := 13) (S' := (10, [(0, .ref m0)], [.ref (q 13), .ref m0], M44)) rfl hR46 rfl rfl ?_
  refine ps_st (S' := (11, [(0, .ref m0)], [.ref m0, .ref (q 13), .ref m0], M44)) rfl rfl rfl ?_
  refine pr_int (j := 17) (S' := (14, [(0, .ref m0)], [.int (nI n), .ref (q 13), .ref m0], M44)) rfl hR46 rfl hi50 rfl ?_
  refine pl_call (a := [.ref m0, .ref (q 13), .int (nI n)]) (rest := []) rfl rfl rfl (rd_parse13b (n := n) (f := f) hR46 hi49 hB_52 hK_53 (hn)) (fun v56 M57 q58 => ?_)
  rcases q58 with q58 | q58
  · skip
    obtain ⟨I59, R60, q14_s, rfl, hR61, hI62, hX63, hX_64⟩ := q58
    have hi65 := (hI62 49 (by decide)).trans hi49
    have hi66 := (hI62 17 (by decide)).trans hi50
    have hi67 := (hI62 18 (by decide)).trans hi51
    have hi68 := (hI62 0 (by decide)).trans hi47
    have hB_69 := hB_52.mono (cIx hI62 (by decide)) (cRx hX63 (by decide))
    have hK_70 := hK_53.mono (cIx hI62 (by decide)) (cRx hX63 (by decide))
    have hQ_71 := hQ_54.mono (cIx hI62 (by decide)) (cRx hX63 (by decide))
    have hEI72 := hEI55.tr hI62 (by decide)
    have hER73 := hER.tr hX63 (by decide)
    show pl _ _ _ (17, [(0, .ref m0)], [.int 1], M57) _
    refine ps_st (S' := (18, [(1, .int 1), (0, .ref m0)], [], M57)) rfl rfl rfl ?_
    refine ps_st (S' := (19, [(1, .int 1), (0, .ref m0)], [.ref m0], M57)) rfl rfl rfl ?_
    refine ps_st (S' := (20, [(1, .int 1), (0, .ref m0)], [.int 1, .ref m0], M57)) rfl rfl rfl ?_
    refine ps_if (S1 := (27, [(1, .int 1), (0, .ref m0)], [.ref m0], M57)) (S2 := (23, [(1, .int 1), (0, .ref m0)], [.ref m0], M57)) rfl rfl rfl (fun c_20 => ?_) (fun c_20 => ?_)
    · exact absurd (of_decide_eq_true c_20) (by decide)
    refine ps_st (S' := (24, [(1, .int 1), (0, .ref m0)], [.int (-1), .ref m0], M57)) rfl rfl rfl ?_
    refine ps_st (S' := (31, [(0, .ref m0), (1, .int 1)], [.int (-1), .ref m0], M57)) rfl rfl rfl ?_
    refine pr_put (j := 73) rfl hR61 rfl (fun M74 I75 hR76 hi77 hI78 => ?_)
    have hi79 := (hI78 49 (by decide)).trans hi65
    have hi80 := (hI78 17 (by decide)).trans hi66
    have hi81 := (hI78 18 (by decide)).trans hi67
    have hi82 := (hI78 0 (by decide)).trans hi68
    have hB_83 := hB_69.mono (pIx hI78 (by decide)) (fun _ _ => rfl)
    have hK_84 := hK_70.mono (pIx hI78 (by decide)) (fun _ _ => rfl)
    have hQ_85 := hQ_71.mono (pIx hI78 (by decide)) (fun _ _ => rfl)
    have hX_86 := hX_64.mono (pIx hI78 (by decide)) (fun _ _ => rfl)
    have hEI87 := hEI72.put hI78 (by decide)
    show pl _ _ _ (34, [(0, .ref m0), (1, .int 1)], [], M74) _
    refine ps_st (S' := (35, [(0, .ref m0), (1, .int 1)], [.int 1], M74)) rfl rfl rfl ?_
    refine ps_if (S1 := (42, [(0, .ref m0), (1, .int 1)], [], M74)) (S2 := (38, [(0, .ref m0), (1, .int 1)], [], M74)) rfl rfl rfl (fun c_35 => ?_) (fun c_35 => ?_)
    · exact absurd (of_decide_eq_true c_35) (by decide)
    refine ps_st (S' := (39, [(0, .ref m0), (1, .int 1)], [.int 0], M74)) rfl rfl rfl ?_
    refine ps_st (S' := (46, [(0, .ref m0), (1, .int 1)], [.int 0], M74)) rfl rfl rfl ?_
    refine ps_st (S' := (47, [(2, .int 0), (0, .ref m0), (1, .int 1)], [], M74)) rfl rfl rfl ?_
    refine ps_st (S' := (48, [(2, .int 0), (0, .ref m0), (1, .int 1)], [.int 1], M74)) rfl rfl rfl ?_
    refine ps_if (S1 := (90, [(2, .int 0), (0, .ref m0), (1, .int 1)], [], M74)) (S2 := (51, [(2, .int 0), (0, .ref m0), (1, .int 1)], [], M74)) rfl rfl rfl (fun c_48 => ?_) (fun c_48 => ?_)
    · exact absurd (of_decide_eq_true c_48) (by decide)
    refine ps_st (S' := (52, [(2, .int 0), (0, .ref m0), (1, .int 1)], [.int 0], M74)) rfl rfl rfl ?_
    refine ps_st (S' := (53, [(0, .ref m0), (2, .int 0), (3, .int 0)], [], M74)) rfl rfl rfl ?_
    have hD0 : BX 14 0 f I75 R60 := fun i9 h9 => absurd h9 (Nat.not_lt_zero _)
    exact (LL kf) (0) M74 I75 R60 hR76 hEI87 hER73 hi80 hi77 hB_83 hD0 hX_86 (by omega) (q14_s)
  · skip
    obtain ⟨e988, I89, R90, q14_s, rfl, hR91, hI92, hX93, hi94, hi95⟩ := q58
    have hi96 := (hI92 49 (by decide)).trans hi49
    have hi97 := (hI92 17 (by decide)).trans hi50
    have hi98 := (hI92 18 (by decide)).trans hi51
    have hi99 := (hI92 0 (by decide)).trans hi47
    have hB_100 := hB_52.mono (cIx hI92 (by decide)) (cRx hX93 (by decide))
    have hK_101 := hK_53.mono (cIx hI92 (by decide)) (cRx hX93 (by decide))
    have hQ_102 := hQ_54.mono (cIx hI92 (by decide)) (cRx hX93 (by decide))
    have hEI103 := hEI55.tr hI92 (by decide)
    have hER104 := hER.tr hX93 (by decide)
    show pl _ _ _ (17, [(0, .ref m0)], [.int 0], M57) _
    refine ps_st (S' := (18, [(1, .int 0), (0, .ref m0)], [], M57)) rfl rfl rfl ?_
    refine ps_st (S' := (19, [(1, .int 0), (0, .ref m0)], [.ref m0], M57)) rfl rfl rfl ?_
    refine ps_st (S' := (20, [(1, .int 0), (0, .ref m0)], [.int 0, .ref m0], M57)) rfl rfl rfl ?_
    refine ps_if (S1 := (27, [(1, .int 0), (0, .ref m0)], [.ref m0], M57)) (S2 := (23, [(1, .int 0), (0, .ref m0)], [.ref m0], M57)) rfl rfl rfl (fun c_20 => ?_) (fun c_20 => ?_)
    rotate_left
    · exact absurd (by decide) (of_decide_eq_false c_20)
    refine ps_st (S' := (28, [(1, .int 0), (0, .ref m0)], [.ref m0, .ref m0], M57)) rfl rfl rfl ?_
    refine pr_int (j := 48) (S' := (31, [(0, .ref m0), (1, .int 0)], [.int (nI e988.2), .ref m0], M57)) rfl hR91 rfl hi95 rfl ?_
    refine pr_put (j := 73) rfl hR91 rfl (fun M105 I106 hR107 hi108 hI109 => ?_)
    have hi110 := (hI109 49 (by decide)).trans hi96
    have hi111 := (hI109 17 (by decide)).trans hi97
    have hi112 := (hI109 18 (by decide)).trans hi98
    have hi113 := (hI109 0 (by decide)).trans hi99
    have hi114 := (hI109 47 (by decide)).trans hi94
    have hi115 := (hI109 48 (by decide)).trans hi95
    have hB_116 := hB_100.mono (pIx hI109 (by decide)) (fun _ _ => rfl)
    have hK_117 := hK_101.mono (pIx hI109 (by decide)) (fun _ _ => rfl)
    have hQ_118 := hQ_102.mono (pIx hI109 (by decide)) (fun _ _ => rfl)
    have hEI119 := hEI103.put hI109 (by decide)
    show pl _ _ _ (34, [(0, .ref m0), (1, .int 0)], [], M105) _
    refine ps_st (S' := (35, [(0, .ref m0), (1, .int 0)], [.int 0], M105)) rfl rfl rfl ?_
    refine ps_if (S1 := (42, [(0, .ref m0), (1, .int 0)], [], M105)) (S2 := (38, [(0, .ref m0), (1, .int 0)], [], M105)) rfl rfl rfl (fun c_35 => ?_) (fun c_35 => ?_)
    rotate_left
    · exact absurd (by decide) (of_decide_eq_false c_35)
    refine ps_st (S' := (43, [(0, .ref m0), (1, .int 0)], [.ref m0], M105)) rfl rfl rfl ?_
    refine pr_int (j := 47) (S' := (46, [(0, .ref m0), (1, .int 0)], [.int (nI e988.1)], M105)) rfl hR107 rfl hi114 rfl ?_
    refine ps_st (S' := (47, [(2, .int (nI e988.1)), (0, .ref m0), (1, .int 0)], [], M105)) rfl rfl rfl ?_
    refine ps_st (S' := (48, [(2, .int (nI e988.1)), (0, .ref m0), (1, .int 0)], [.int 0], M105)) rfl rfl rfl ?_
    refine ps_if (S1 := (90, [(2, .int (nI e988.1)), (0, .ref m0), (1, .int 0)], [], M105)) (S2 := (51, [(2, .int (nI e988.1)), (0, .ref m0), (1, .int 0)], [], M105)) rfl rfl rfl (fun c_48 => ?_) (fun c_48 => ?_)
    rotate_left
    · exact absurd (by decide) (of_decide_eq_false c_48)
    refine ps_st (S' := (91, [(2, .int (nI e988.1)), (0, .ref m0), (1, .int 0)], [.ref m0], M105)) rfl rfl rfl ?_
    refine pr_int (j := 18) (S' := (94, [(2, .int (nI e988.1)), (0, .ref m0), (1, .int 0)], [.int (nI n2)], M105)) rfl hR107 rfl hi112 rfl ?_
    refine ps_if (S1 := (110, [(0, .ref m0), (2, .int (nI e988.1))], [], M105)) (S2 := (97, [(2, .int (nI e988.1)), (0, .ref m0), (1, .int 0)], [], M105)) rfl rfl rfl (fun c_94 => ?_) (fun c_94 => ?_)
    · exact absurd (of_decide_eq_true c_94) (show ¬ ((nI n2) < 0) from fun h9 => absurd ((lt_nI (p := n2) (n := 0) (by omega) (by decide)).mp h9) (by omega))
    refine ps_st (S' := (98, [(2, .int (nI e988.1)), (0, .ref m0), (1, .int 0)], [.ref m0], M105)) rfl rfl rfl ?_
    refine ps_st (S' := (99, [(2, .int (nI e988.1)), (0, .ref m0), (1, .int 0)], [.ref m0, .ref m0], M105)) rfl rfl rfl ?_
    refine pr_ref (j := 14) (S' := (102, [(2, .int (nI e988.1)), (0, .ref m0), (1, .int 0)], [.ref (q 14), .ref m0], M105)) rfl hR107 rfl rfl ?_
    refine ps_st (S' := (103, [(2, .int (nI e988.1)), (0, .ref m0), (1, .int 0)], [.ref m0, .ref (q 14), .ref m0], M105)) rfl rfl rfl ?_
    refine pr_int (j := 18) (S' := (106, [(2, .int (nI e988.1)), (0, .ref m0), (1, .int 0)], [.int (nI n2), .ref (q 14), .ref m0], M105)) rfl hR107 rfl hi112 rfl ?_
    refine pl_call (a := [.ref m0, .ref (q 14), .int (nI n2)]) (rest := []) rfl rfl rfl (rd_parse14b (n := n2) (f := f2) hR107 hi110 hQ_118 hK_117 (hk2)) (fun v120 M121 q122 => ?_)
    rcases q122 with q122 | q122
    · skip
      obtain ⟨I123, R124, q106_s, rfl, hR125, hI126, hX127, hX_128⟩ := q122
      have hi129 := (hI126 49 (by decide)).trans hi110
      have hi130 := (hI126 17 (by decide)).trans hi111
      have hi131 := (hI126 18 (by decide)).trans hi112
      have hi132 := (hI126 0 (by decide)).trans hi113
      have hi133 := (hI126 73 (by decide)).trans hi108
      have hB_134 := hB_116.mono (cIx hI126 (by decide)) (cRx hX127 (by decide))
      have hK_135 := hK_117.mono (cIx hI126 (by decide)) (cRx hX127 (by decide))
      have hQ_136 := hQ_118.mono (cIx hI126 (by decide)) (cRx hX127 (by decide))
      have hEI137 := hEI119.tr hI126 (by decide)
      have hER138 := hER104.tr hX127 (by decide)
      show pl _ _ _ (109, [(2, .int (nI e988.1)), (0, .ref m0), (1, .int 0)], [.int 1], M121) _
      refine ps_st (S' := (110, [(0, .ref m0), (2, .int (nI e988.1))], [], M121)) rfl rfl rfl ?_
      refine ps_st (S' := (111, [(0, .ref m0), (2, .int (nI e988.1))], [.ref m0], M121)) rfl rfl rfl ?_
      refine ps_st (S' := (112, [(0, .ref m0), (2, .int (nI e988.1))], [.int (-1), .ref m0], M121)) rfl rfl rfl ?_
      refine pr_put (j := 74) rfl hR125 rfl (fun M139 I140 hR141 hi142 hI143 => ?_)
      have hi144 := (hI143 49 (by decide)).trans hi129
      have hi145 := (hI143 17 (by decide)).trans hi130
      have hi146 := (hI143 18 (by decide)).trans hi131
      have hi147 := (hI143 0 (by decide)).trans hi132
      have hi148 := (hI143 73 (by decide)).trans hi133
      have hB_149 := hB_134.mono (pIx hI143 (by decide)) (fun _ _ => rfl)
      have hK_150 := hK_135.mono (pIx hI143 (by decide)) (fun _ _ => rfl)
      have hQ_151 := hQ_136.mono (pIx hI143 (by decide)) (fun _ _ => rfl)
      have hX_152 := hX_128.mono (pIx hI143 (by decide)) (fun _ _ => rfl)
      have hEI153 := hEI137.put hI143 (by decide)
      show pl _ _ _ (115, [(0, .ref m0), (2, .int (nI e988.1))], [], M139) _
      refine ps_st (S' := (116, [(0, .ref m0), (2, .int (nI e988.1))], [.ref m0], M139)) rfl rfl rfl ?_
      refine ps_st (S' := (117, [(0, .ref m0), (2, .int (nI e988.1))], [.int 0, .ref m0], M139)) rfl rfl rfl ?_
      refine pr_put (j := 17) rfl hR141 rfl (fun M154 I155 hR156 hi157 hI158 => ?_)
      have hi159 := (hI158 49 (by decide)).trans hi144
      have hi160 := (hI158 18 (by decide)).trans hi146
      have hi161 := (hI158 0 (by decide)).trans hi147
      have hi162 := (hI158 73 (by decide)).trans hi148
      have hi163 := (hI158 74 (by decide)).trans hi142
      have hB_164 := hB_149.mono (pIx hI158 (by decide)) (fun _ _ => rfl)
      have hK_165 := hK_150.mono (pIx hI158 (by decide)) (fun _ _ => rfl)
      have hQ_166 := hQ_151.mono (pIx hI158 (by decide)) (fun _ _ => rfl)
      have hX_167 := hX_152.mono (pIx hI158 (by decide)) (fun _ _ => rfl)
      have hEI168 := hEI153.put hI158 (by decide)
      show pl _ _ _ (120, [(0, .ref m0), (2, .int (nI e988.1))], [], M154) _
      refine ps_st (S' := (121, [(0, .ref m0), (2, .int (nI e988.1))], [.int (nI e988.1)], M154)) rfl rfl rfl ?_
      exact ps_reti rfl (Or.inr ⟨e988, I155, R124, q14_s, rfl, hR156, hEI168, hER138, hi162, hi157, hi160, hX_167, hQ_166⟩)
    · skip
      obtain ⟨e9169, I170, R171, q106_s, rfl, hR172, hI173, hX174, hi175, hi176⟩ := q122
      have hi177 := (hI173 49 (by decide)).trans hi110
      have hi178 := (hI173 17 (by decide)).trans hi111
      have hi179 := (hI173 18 (by decide)).trans hi112
      have hi180 := (hI173 0 (by decide)).trans hi113
      have hi181 := (hI173 73 (by decide)).trans hi108
      have hB_182 := hB_116.mono (cIx hI173 (by decide)) (cRx hX174 (by decide))
      have hK_183 := hK_117.mono (cIx hI173 (by decide)) (cRx hX174 (by decide))
      have hQ_184 := hQ_118.mono (cIx hI173 (by decide)) (cRx hX174 (by decide))
      have hEI185 := hEI119.tr hI173 (by decide)
      have hER186 := hER104.tr hX174 (by decide)
      show pl _ _ _ (109, [(2, .int (nI e988.1)), (0, .ref m0), (1, .int 0)], [.int 0], M121) _
      exact absurd (hr2.symm.trans q106_s) (fun h9 => by cases h9)
end
section
/-! an entry of the pool, as both sides tell it (my own text) -/
section ENA
variable {f : Nat → Int32} {n : Nat} {E : List (Nat × Nat)} {k mj : Nat}
/-- part 0 of entry j is its tag, 1 and 2 its indexes -/
def enN (f : Nat → Int32) (E : List (Nat × Nat)) (j p : Nat) : Nat := if p = 0 then tg f E j else if p = 1 then fi f E j else se f E j
def enI (f : Nat → Int32) (E : List (Nat × Nat)) (N : Nat) (k p : Int32) : Int32 := if k < 0 ∨ nI N ≤ k then -1 else nI (enN f E k.toNatClampNeg p.toNatClampNeg)
/-- what is kept tells it -/
def enK (ko : Option (Nat × (Nat → Int32))) (k p : Int32) : Int32 := match ko with
  | none => -1
  | some r => match s_whole r.2 r.1 with
    | .inl _ => -1
    | .inr y => enI r.2 y.1 (by2 r.2 8) k p
theorem enK_is {r : Nat × (Nat → Int32)} {k p : Int32} {y : Nat × Nat × Nat × Nat} (h : s_whole r.2 r.1 = .inr (E, y)) : enK (some r) k p = enI r.2 E (by2 r.2 8) k p := by
  show (match s_whole r.2 r.1 with | .inl _ => -1 | .inr y => enI r.2 y.1 (by2 r.2 8) k p) = _
  rw [h]
theorem i32_3 {p : Int32} (h0 : ¬ p < 0) (h1 : p ≤ 2) : p = 0 ∨ p = 1 ∨ p = 2 := by
  have a := Int32.le_iff_toInt_le.mp (Int32.not_lt.mp h0)
  have b := Int32.le_iff_toInt_le.mp h1
  have e0 : (0 : Int32).toInt = 0 := rfl
  have e1 : (1 : Int32).toInt = 1 := rfl
  have e2 : (2 : Int32).toInt = 2 := rfl
  rcases (show p.toInt = 0 ∨ p.toInt = 1 ∨ p.toInt = 2 by omega) with h | h | h
  · exact Or.inl (Int32.toInt_inj.mp (by omega))
  · exact Or.inr (Or.inl (Int32.toInt_inj.mp (by omega)))
  · exact Or.inr (Or.inr (Int32.toInt_inj.mp (by omega)))
/-- a number that isn't below 0 -/
theorem i32_nn {k : Int32} (h : ¬ k < 0) : k = nI k.toNatClampNeg := (mi_nI h).symm
theorem i32_in {N : Nat} {k : Int32} (hN : N < 65536) (h : ¬ (k < 0 ∨ nI N ≤ k)) : k = nI k.toNatClampNeg ∧ k.toNatClampNeg < N := by
  have h0 : ¬ k < 0 := fun q => h (Or.inl q)
  have e := i32_nn h0
  refine ⟨e, ?_⟩
  have h1 := Int32.lt_iff_toInt_lt.mp (Int32.not_le.mp (fun q => h (Or.inr q)))
  rw [nI_val (by omega)] at h1
  have h2 := Int32.le_iff_toInt_le.mp (Int32.not_lt.mp h0)
  have e0 : (0 : Int32).toInt = 0 := rfl
  show k.toInt.toNat < N
  omega
theorem tgs_of {mj p' : Nat} (h : s_pool f n mj = .inr (p', E)) : ∀ q ∈ E, tgOk mj (by1 f q.2) := by
  have key : ∀ {r k p p' : Nat} {E0 E : List (Nat × Nat)} {N : Nat}, (∀ q ∈ E0, tgOk mj (by1 f q.2)) → s_ents f n mj N r k p E0 = .inr (p', E) → ∀ q ∈ E, tgOk mj (by1 f q.2) := by
    intro r
    induction r with
    | zero => intro k p p' E0 E N h0 h; cases h; exact h0
    | succ r ih =>
      intro k p p' E0 E N h0 h
      unfold s_ents at h
      split at h
      · cases h; exact h0
      · cases he : s_entry f n mj N k p with
        | inl e => rw [he] at h; cases h
        | inr y =>
          obtain ⟨p2, x⟩ := y
          rw [he] at h
          refine ih ?_ h
          intro q hq
          rcases List.mem_append.mp hq with hq | hq
          · exact h0 q hq
          · have e : q = (k, p) := by simpa using hq
            rw [e]
            unfold s_entry at he
            split at he
            · cases he
            · split at he
              · cases he
              · rename_i hT
                exact Decidable.not_not.mp hT
  unfold s_pool at h
  split at h
  · cases h
  · split at h
    · cases h
    · exact key (fun q hq => by cases hq) h
theorem tg_ok {mj p' : Nat} (h : s_pool f n mj = .inr (p', E)) : tg f E k = 0 ∨ tgOk mj (tg f E k) := by
  unfold tg
  cases hk : lk E k with
  | none => exact Or.inl rfl
  | some p => exact Or.inr (tgs_of h _ (lk_in hk))
theorem ix_7 (h : tg f E k < 7) : fi f E k = 0 ∧ se f E k = 0 := by
  unfold tg at h
  unfold fi se
  cases hk : lk E k with
  | none => exact ⟨rfl, rfl⟩
  | some p =>
    rw [hk] at h
    dsimp only at h ⊢
    unfold ixa ixb
    rw [if_pos h, if_pos h]
    exact ⟨rfl, rfl⟩
theorem se_1 (h : tg f E k = 7 ∨ tg f E k = 8 ∨ tg f E k = 16 ∨ tg f E k = 19 ∨ tg f E k = 20) : se f E k = 0 := by
  unfold tg at h
  unfold se
  cases hk : lk E k with
  | none => rfl
  | some p =>
    rw [hk] at h
    dsimp only at h ⊢
    unfold ixb
    rw [if_neg (by omega), if_neg (by omega), if_pos (by omega)]
end ENA
set_option maxHeartbeats 1000000 in
theorem dk_entry0 {g : xe_G} {M : mi_H} {o ca fl : Nat} {cn wp k p : Int32} (h_o : M.1 o = some (ob 11 [.ref ca, .int cn, .ref fl, .null, .int wp])) (hp0 : ¬ p < 0) (hp1 : p ≤ 2) : pt (mT g) 8 [.ref o, .int k, .int p] M (fun v M' => (v = some (.int (-1)) ∧ M = M')) := by
  refine pt_in (b := mb_8 g) rfl (fun kf => ?_)
  show pl (mT g) kf (mb_8 g).2 (0, [(0, .ref o), (1, .int k), (2, .int p)], [], M) _
  refine ps_st (S' := (1, [(0, .ref o), (1, .int k), (2, .int p)], [.int p], M)) rfl rfl rfl ?_
  refine ps_if (S1 := (9, [(0, .ref o), (1, .int k), (2, .int p)], [], M)) (S2 := (4, [(0, .ref o), (1, .int k), (2, .int p)], [], M)) rfl rfl rfl (fun c_1 => ?_) (fun c_1 => ?_)
  · exact absurd (of_decide_eq_true c_1) (hp0)
  refine ps_st (S' := (5, [(0, .ref o), (1, .int k), (2, .int p)], [.int p], M)) rfl rfl rfl ?_
  refine ps_st (S' := (6, [(0, .ref o), (1, .int k), (2, .int p)], [.int 2, .int p], M)) rfl rfl rfl ?_
  refine ps_if2 (S1 := (19, [(0, .ref o), (1, .int k), (2, .int p)], [], M)) (S2 := (9, [(0, .ref o), (1, .int k), (2, .int p)], [], M)) rfl rfl rfl (fun c_6 => ?_) (fun c_6 => ?_)
  rotate_left
  · exact absurd (hp1) (of_decide_eq_false c_6)
  refine ps_st (S' := (20, [(0, .ref o), (1, .int k), (2, .int p)], [.ref o], M)) rfl rfl rfl ?_
  refine ps_get (S' := (23, [(0, .ref o), (1, .int k), (2, .int p)], [.null], M)) rfl h_o rfl rfl ?_
  refine ps_st (S' := (44, [], [], M)) rfl rfl rfl ?_
  refine ps_st (S' := (45, [], [.int (-1)], M)) rfl rfl rfl ?_
  exact ps_ret rfl rfl (⟨rfl, rfl⟩)
set_option maxHeartbeats 1000000 in
theorem dk_entryN {g : xe_G} {M : mi_H} {f : Nat → Int32} {n N q : Nat} {E : List (Nat × Nat)} {o ca fl c b : Nat} {cn wp : Int32} {w : List Value} {k p : Int32} (h_o : M.1 o = some (ob 11 [.ref ca, .int cn, .ref fl, .ref c, .int wp])) (h_c : M.1 c = some (ob 3 (.ref b :: .ref q :: w))) (hp0 : ¬ p < 0) (hp1 : p ≤ 2) (hV : PV g f n N E q M) (hk : k < 0 ∨ nI N ≤ k) : pt (mT g) 8 [.ref o, .int k, .int p] M (fun v M' => (v = some (.int (-1)) ∧ M = M')) := by
  refine pt_in (b := mb_8 g) rfl (fun kf => ?_)
  show pl (mT g) kf (mb_8 g).2 (0, [(0, .ref o), (1, .int k), (2, .int p)], [], M) _
  obtain ⟨hL9, H, m, qq, F, cc, hP9, -, -, hb9, -⟩ := id hV
  have h_q := hP9.1
  have hN9 := hb9.2.2
  refine ps_st (S' := (1, [(0, .ref o), (1, .int k), (2, .int p)], [.int p], M)) rfl rfl rfl ?_
  refine ps_if (S1 := (9, [(0, .ref o), (1, .int k), (2, .int p)], [], M)) (S2 := (4, [(0, .ref o), (1, .int k), (2, .int p)], [], M)) rfl rfl rfl (fun c_1 => ?_) (fun c_1 => ?_)
  · exact absurd (of_decide_eq_true c_1) (hp0)
  refine ps_st (S' := (5, [(0, .ref o), (1, .int k), (2, .int p)], [.int p], M)) rfl rfl rfl ?_
  refine ps_st (S' := (6, [(0, .ref o), (1, .int k), (2, .int p)], [.int 2, .int p], M)) rfl rfl rfl ?_
  refine ps_if2 (S1 := (19, [(0, .ref o), (1, .int k), (2, .int p)], [], M)) (S2 := (9, [(0, .ref o), (1, .int k), (2, .int p)], [], M)) rfl rfl rfl (fun c_6 => ?_) (fun c_6 => ?_)
  rotate_left
  · exact absurd (hp1) (of_decide_eq_false c_6)
  refine ps_st (S' := (20, [(0, .ref o), (1, .int k), (2, .int p)], [.ref o], M)) rfl rfl rfl ?_
  refine ps_get (S' := (23, [(0, .ref o), (1, .int k), (2, .int p)], [.ref c], M)) rfl h_o rfl rfl ?_
  refine ps_st (S' := (26, [(0, .ref o), (1, .int k), (2, .int p)], [], M)) rfl rfl rfl ?_
  refine ps_st (S' := (27, [(0, .ref o), (1, .int k), (2, .int p)], [.int k], M)) rfl rfl rfl ?_
  refine ps_if (S1 := (44, [], [], M)) (S2 := (30, [(0, .ref o), (1, .int k), (2, .int p)], [], M)) rfl rfl rfl (fun c_27 => ?_) (fun c_27 => ?_)
  · have c_27 : k < 0 := of_decide_eq_true c_27
    refine ps_st (S' := (45, [], [.int (-1)], M)) rfl rfl rfl ?_
    exact ps_ret rfl rfl (⟨rfl, rfl⟩)
  · have c_27 : ¬ (k < 0) := of_decide_eq_false c_27
    refine ps_st (S' := (31, [(0, .ref o), (1, .int k), (2, .int p)], [.int k], M)) rfl rfl rfl ?_
    refine ps_st (S' := (32, [(0, .ref o), (1, .int k), (2, .int p)], [.ref o, .int k], M)) rfl rfl rfl ?_
    refine ps_get (S' := (35, [(0, .ref o), (1, .int k), (2, .int p)], [.ref c, .int k], M)) rfl h_o rfl rfl ?_
    refine ps_get (S' := (38, [(0, .ref o), (1, .int k), (2, .int p)], [.ref q, .int k], M)) rfl h_c rfl rfl ?_
    refine ps_get (S' := (41, [(0, .ref o), (1, .int k), (2, .int p)], [.int (nI N), .int k], M)) rfl h_q rfl rfl ?_
    refine ps_if2 (S1 := (46, [(0, .ref o), (1, .int k), (2, .int p)], [], M)) (S2 := (44, [], [], M)) rfl rfl rfl (fun c_41 => ?_) (fun c_41 => ?_)
    · exact absurd (of_decide_eq_true c_41) (Int32.not_lt.mpr (hk.resolve_left c_27))
    refine ps_st (S' := (45, [], [.int (-1)], M)) rfl rfl rfl ?_
    exact ps_ret rfl rfl (⟨rfl, rfl⟩)
set_option maxHeartbeats 1000000 in
theorem dk_entry_0 {g : xe_G} {M : mi_H} {f : Nat → Int32} {n N q : Nat} {E : List (Nat × Nat)} {o ca fl c b : Nat} {cn wp : Int32} {w : List Value} {j : Nat} (h_o : M.1 o = some (ob 11 [.ref ca, .int cn, .ref fl, .ref c, .int wp])) (h_c : M.1 c = some (ob 3 (.ref b :: .ref q :: w))) (hV : PV g f n N E q M) (hj : j < N) : pt (mT g) 8 [.ref o, .int (nI j), .int 0] M (fun v M' => (v = some (.int (nI (tg f E j))) ∧ M = M')) := by
  refine pt_in (b := mb_8 g) rfl (fun kf => ?_)
  show pl (mT g) kf (mb_8 g).2 (0, [(0, .ref o), (1, .int (nI j)), (2, .int 0)], [], M) _
  obtain ⟨hL9, H, m, qq, F, cc, hP9, -, -, hb9, -⟩ := id hV
  have h_q := hP9.1
  have hN9 := hb9.2.2
  refine ps_st (S' := (1, [(0, .ref o), (1, .int (nI j)), (2, .int 0)], [.int 0], M)) rfl rfl rfl ?_
  refine ps_if (S1 := (9, [(0, .ref o), (1, .int (nI j)), (2, .int 0)], [], M)) (S2 := (4, [(0, .ref o), (1, .int (nI j)), (2, .int 0)], [], M)) rfl rfl rfl (fun c_1 => ?_) (fun c_1 => ?_)
  · exact absurd (of_decide_eq_true c_1) (by decide)
  refine ps_st (S' := (5, [(0, .ref o), (1, .int (nI j)), (2, .int 0)], [.int 0], M)) rfl rfl rfl ?_
  refine ps_st (S' := (6, [(0, .ref o), (1, .int (nI j)), (2, .int 0)], [.int 2, .int 0], M)) rfl rfl rfl ?_
  refine ps_if2 (S1 := (19, [(0, .ref o), (1, .int (nI j)), (2, .int 0)], [], M)) (S2 := (9, [(0, .ref o), (1, .int (nI j)), (2, .int 0)], [], M)) rfl rfl rfl (fun c_6 => ?_) (fun c_6 => ?_)
  rotate_left
  · exact absurd (by decide) (of_decide_eq_false c_6)
  refine ps_st (S' := (20, [(0, .ref o), (1, .int (nI j)), (2, .int 0)], [.ref o], M)) rfl rfl rfl ?_
  refine ps_get (S' := (23, [(0, .ref o), (1, .int (nI j)), (2, .int 0)], [.ref c], M)) rfl h_o rfl rfl ?_
  refine ps_st (S' := (26, [(0, .ref o), (1, .int (nI j)), (2, .int 0)], [], M)) rfl rfl rfl ?_
  refine ps_st (S' := (27, [(0, .ref o), (1, .int (nI j)), (2, .int 0)], [.int (nI j)], M)) rfl rfl rfl ?_
  refine ps_if (S1 := (44, [], [], M)) (S2 := (30, [(0, .ref o), (1, .int (nI j)), (2, .int 0)], [], M)) rfl rfl rfl (fun c_27 => ?_) (fun c_27 => ?_)
  · exact absurd (of_decide_eq_true c_27) (show ¬ ((nI j) < 0) from fun h9 => absurd ((lt_nI (p := j) (n := 0) (by omega) (by decide)).mp h9) (by omega))
  refine ps_st (S' := (31, [(0, .ref o), (1, .int (nI j)), (2, .int 0)], [.int (nI j)], M)) rfl rfl rfl ?_
  refine ps_st (S' := (32, [(0, .ref o), (1, .int (nI j)), (2, .int 0)], [.ref o, .int (nI j)], M)) rfl rfl rfl ?_
  refine ps_get (S' := (35, [(0, .ref o), (1, .int (nI j)), (2, .int 0)], [.ref c, .int (nI j)], M)) rfl h_o rfl rfl ?_
  refine ps_get (S' := (38, [(0, .ref o), (1, .int (nI j)), (2, .int 0)], [.ref q, .int (nI j)], M)) rfl h_c rfl rfl ?_
  refine ps_get (S' := (41, [(0, .ref o), (1, .int (nI j)), (2, .int 0)], [.int (nI N), .int (nI j)], M)) rfl h_q rfl rfl ?_
  refine ps_if2 (S1 := (46, [(0, .ref o), (1, .int (nI j)), (2, .int 0)], [], M)) (S2 := (44, [], [], M)) rfl rfl rfl (fun c_41 => ?_) (fun c_41 => ?_)
  rotate_left
  · exact absurd ((lt_nI (by omega) (by omega)).mpr hj) (of_decide_eq_false c_41)
  refine ps_st (S' := (47, [(0, .ref o), (1, .int (nI j)), (2, .int 0)], [.int 0], M)) rfl rfl rfl ?_
  refine ps_if (S1 := (62, [(0, .ref o), (1, .int (nI j)), (2, .int 0)], [], M)) (S2 := (50, [(0, .ref o), (1, .int (nI j)), (2, .int 0)], [], M)) rfl rfl rfl (fun c_47 => ?_) (fun c_47 => ?_)
  · exact absurd (of_decide_eq_true c_47) (by decide)
  refine ps_st (S' := (51, [(0, .ref o), (1, .int (nI j)), (2, .int 0)], [.ref o], M)) rfl rfl rfl ?_
  refine ps_get (S' := (54, [(0, .ref o), (1, .int (nI j)), (2, .int 0)], [.ref c], M)) rfl h_o rfl rfl ?_
  refine ps_get (S' := (57, [(0, .ref o), (1, .int (nI j)), (2, .int 0)], [.ref q], M)) rfl h_c rfl rfl ?_
  refine ps_st (S' := (58, [(0, .ref o), (1, .int (nI j)), (2, .int 0)], [.int (nI j), .ref q], M)) rfl rfl rfl ?_
  refine pl_call (a := [.ref q, .int (nI j)]) (rest := []) rfl rfl rfl (dy_tagOf (f := f) (n := n) (N := N) (q := q) (E := E) (j := j) (hV) (by omega)) (fun v1 M2 q3 => ?_)
  obtain ⟨rfl, rfl⟩ := q3
  show pl _ _ _ (61, [(0, .ref o), (1, .int (nI j)), (2, .int 0)], [.int (nI (tg f E j))], M) _
  exact ps_reti rfl (⟨rfl, rfl⟩)
set_option maxHeartbeats 1000000 in
theorem dk_entry_1 {g : xe_G} {M : mi_H} {f : Nat → Int32} {n N q : Nat} {E : List (Nat × Nat)} {o ca fl c b : Nat} {cn wp : Int32} {w : List Value} {j : Nat} (h_o : M.1 o = some (ob 11 [.ref ca, .int cn, .ref fl, .ref c, .int wp])) (h_c : M.1 c = some (ob 3 (.ref b :: .ref q :: w))) (hV : PV g f n N E q M) (hj : j < N) : pt (mT g) 8 [.ref o, .int (nI j), .int 1] M (fun v M' => (v = some (.int (nI (fi f E j))) ∧ M = M')) := by
  refine pt_in (b := mb_8 g) rfl (fun kf => ?_)
  show pl (mT g) kf (mb_8 g).2 (0, [(0, .ref o), (1, .int (nI j)), (2, .int 1)], [], M) _
  obtain ⟨hL9, H, m, qq, F, cc, hP9, -, -, hb9, -⟩ := id hV
  have h_q := hP9.1
  have hN9 := hb9.2.2
  refine ps_st (S' := (1, [(0, .ref o), (1, .int (nI j)), (2, .int 1)], [.int 1], M)) rfl rfl rfl ?_
  refine ps_if (S1 := (9, [(0, .ref o), (1, .int (nI j)), (2, .int 1)], [], M)) (S2 := (4, [(0, .ref o), (1, .int (nI j)), (2, .int 1)], [], M)) rfl rfl rfl (fun c_1 => ?_) (fun c_1 => ?_)
  · exact absurd (of_decide_eq_true c_1) (by decide)
  refine ps_st (S' := (5, [(0, .ref o), (1, .int (nI j)), (2, .int 1)], [.int 1], M)) rfl rfl rfl ?_
  refine ps_st (S' := (6, [(0, .ref o), (1, .int (nI j)), (2, .int 1)], [.int 2, .int 1], M)) rfl rfl rfl ?_
  refine ps_if2 (S1 := (19, [(0, .ref o), (1, .int (nI j)), (2, .int 1)], [], M)) (S2 := (9, [(0, .ref o), (1, .int (nI j)), (2, .int 1)], [], M)) rfl rfl rfl (fun c_6 => ?_) (fun c_6 => ?_)
  rotate_left
  · exact absurd (by decide) (of_decide_eq_false c_6)
  refine ps_st (S' := (20, [(0, .ref o), (1, .int (nI j)), (2, .int 1)], [.ref o], M)) rfl rfl rfl ?_
  refine ps_get (S' := (23, [(0, .ref o), (1, .int (nI j)), (2, .int 1)], [.ref c], M)) rfl h_o rfl rfl ?_
  refine ps_st (S' := (26, [(0, .ref o), (1, .int (nI j)), (2, .int 1)], [], M)) rfl rfl rfl ?_
  refine ps_st (S' := (27, [(0, .ref o), (1, .int (nI j)), (2, .int 1)], [.int (nI j)], M)) rfl rfl rfl ?_
  refine ps_if (S1 := (44, [], [], M)) (S2 := (30, [(0, .ref o), (1, .int (nI j)), (2, .int 1)], [], M)) rfl rfl rfl (fun c_27 => ?_) (fun c_27 => ?_)
  · exact absurd (of_decide_eq_true c_27) (show ¬ ((nI j) < 0) from fun h9 => absurd ((lt_nI (p := j) (n := 0) (by omega) (by decide)).mp h9) (by omega))
  refine ps_st (S' := (31, [(0, .ref o), (1, .int (nI j)), (2, .int 1)], [.int (nI j)], M)) rfl rfl rfl ?_
  refine ps_st (S' := (32, [(0, .ref o), (1, .int (nI j)), (2, .int 1)], [.ref o, .int (nI j)], M)) rfl rfl rfl ?_
  refine ps_get (S' := (35, [(0, .ref o), (1, .int (nI j)), (2, .int 1)], [.ref c, .int (nI j)], M)) rfl h_o rfl rfl ?_
  refine ps_get (S' := (38, [(0, .ref o), (1, .int (nI j)), (2, .int 1)], [.ref q, .int (nI j)], M)) rfl h_c rfl rfl ?_
  refine ps_get (S' := (41, [(0, .ref o), (1, .int (nI j)), (2, .int 1)], [.int (nI N), .int (nI j)], M)) rfl h_q rfl rfl ?_
  refine ps_if2 (S1 := (46, [(0, .ref o), (1, .int (nI j)), (2, .int 1)], [], M)) (S2 := (44, [], [], M)) rfl rfl rfl (fun c_41 => ?_) (fun c_41 => ?_)
  rotate_left
  · exact absurd ((lt_nI (by omega) (by omega)).mpr hj) (of_decide_eq_false c_41)
  refine ps_st (S' := (47, [(0, .ref o), (1, .int (nI j)), (2, .int 1)], [.int 1], M)) rfl rfl rfl ?_
  refine ps_if (S1 := (62, [(0, .ref o), (1, .int (nI j)), (2, .int 1)], [], M)) (S2 := (50, [(0, .ref o), (1, .int (nI j)), (2, .int 1)], [], M)) rfl rfl rfl (fun c_47 => ?_) (fun c_47 => ?_)
  rotate_left
  · exact absurd (by decide) (of_decide_eq_false c_47)
  refine ps_st (S' := (63, [(0, .ref o), (1, .int (nI j)), (2, .int 1)], [.int 1], M)) rfl rfl rfl ?_
  refine ps_st (S' := (64, [(0, .ref o), (1, .int (nI j)), (2, .int 1)], [.int 1, .int 1], M)) rfl rfl rfl ?_
  refine ps_if2 (S1 := (81, [(0, .ref o), (1, .int (nI j)), (2, .int 1)], [], M)) (S2 := (67, [(0, .ref o), (1, .int (nI j)), (2, .int 1)], [], M)) rfl rfl rfl (fun c_64 => ?_) (fun c_64 => ?_)
  · exact absurd (of_decide_eq_true c_64) (by decide)
  refine ps_st (S' := (68, [(0, .ref o), (1, .int (nI j)), (2, .int 1)], [.ref o], M)) rfl rfl rfl ?_
  refine ps_get (S' := (71, [(0, .ref o), (1, .int (nI j)), (2, .int 1)], [.ref c], M)) rfl h_o rfl rfl ?_
  refine ps_get (S' := (74, [(0, .ref o), (1, .int (nI j)), (2, .int 1)], [.ref q], M)) rfl h_c rfl rfl ?_
  refine ps_st (S' := (75, [(0, .ref o), (1, .int (nI j)), (2, .int 1)], [.int (nI j), .ref q], M)) rfl rfl rfl ?_
  refine pl_call (a := [.ref q, .int (nI j)]) (rest := []) rfl rfl rfl (dy_firstIndex (f := f) (n := n) (N := N) (q := q) (E := E) (j := j) (hV) (by omega)) (fun v1 M2 q3 => ?_)
  obtain ⟨rfl, rfl⟩ := q3
  show pl _ _ _ (78, [(0, .ref o), (1, .int (nI j)), (2, .int 1)], [.int (nI (fi f E j))], M) _
  refine ps_st (S' := (92, [], [.int (nI (fi f E j))], M)) rfl rfl rfl ?_
  exact ps_reti rfl (⟨rfl, rfl⟩)
set_option maxHeartbeats 1000000 in
theorem dk_entry_2 {g : xe_G} {M : mi_H} {f : Nat → Int32} {n N q : Nat} {E : List (Nat × Nat)} {o ca fl c b : Nat} {cn wp : Int32} {w : List Value} {j : Nat} (h_o : M.1 o = some (ob 11 [.ref ca, .int cn, .ref fl, .ref c, .int wp])) (h_c : M.1 c = some (ob 3 (.ref b :: .ref q :: w))) (hV : PV g f n N E q M) (hj : j < N) : pt (mT g) 8 [.ref o, .int (nI j), .int 2] M (fun v M' => (v = some (.int (nI (se f E j))) ∧ M = M')) := by
  refine pt_in (b := mb_8 g) rfl (fun kf => ?_)
  show pl (mT g) kf (mb_8 g).2 (0, [(0, .ref o), (1, .int (nI j)), (2, .int 2)], [], M) _
  obtain ⟨hL9, H, m, qq, F, cc, hP9, -, -, hb9, -⟩ := id hV
  have h_q := hP9.1
  have hN9 := hb9.2.2
  refine ps_st (S' := (1, [(0, .ref o), (1, .int (nI j)), (2, .int 2)], [.int 2], M)) rfl rfl rfl ?_
  refine ps_if (S1 := (9, [(0, .ref o), (1, .int (nI j)), (2, .int 2)], [], M)) (S2 := (4, [(0, .ref o), (1, .int (nI j)), (2, .int 2)], [], M)) rfl rfl rfl (fun c_1 => ?_) (fun c_1 => ?_)
  · exact absurd (of_decide_eq_true c_1) (by decide)
  refine ps_st (S' := (5, [(0, .ref o), (1, .int (nI j)), (2, .int 2)], [.int 2], M)) rfl rfl rfl ?_
  refine ps_st (S' := (6, [(0, .ref o), (1, .int (nI j)), (2, .int 2)], [.int 2, .int 2], M)) rfl rfl rfl ?_
  refine ps_if2 (S1 := (19, [(0, .ref o), (1, .int (nI j)), (2, .int 2)], [], M)) (S2 := (9, [(0, .ref o), (1, .int (nI j)), (2, .int 2)], [], M)) rfl rfl rfl (fun c_6 => ?_) (fun c_6 => ?_)
  rotate_left
  · exact absurd (by decide) (of_decide_eq_false c_6)
  refine ps_st (S' := (20, [(0, .ref o), (1, .int (nI j)), (2, .int 2)], [.ref o], M)) rfl rfl rfl ?_
  refine ps_get (S' := (23, [(0, .ref o), (1, .int (nI j)), (2, .int 2)], [.ref c], M)) rfl h_o rfl rfl ?_
  refine ps_st (S' := (26, [(0, .ref o), (1, .int (nI j)), (2, .int 2)], [], M)) rfl rfl rfl ?_
  refine ps_st (S' := (27, [(0, .ref o), (1, .int (nI j)), (2, .int 2)], [.int (nI j)], M)) rfl rfl rfl ?_
  refine ps_if (S1 := (44, [], [], M)) (S2 := (30, [(0, .ref o), (1, .int (nI j)), (2, .int 2)], [], M)) rfl rfl rfl (fun c_27 => ?_) (fun c_27 => ?_)
  · exact absurd (of_decide_eq_true c_27) (show ¬ ((nI j) < 0) from fun h9 => absurd ((lt_nI (p := j) (n := 0) (by omega) (by decide)).mp h9) (by omega))
  refine ps_st (S' := (31, [(0, .ref o), (1, .int (nI j)), (2, .int 2)], [.int (nI j)], M)) rfl rfl rfl ?_
  refine ps_st (S' := (32, [(0, .ref o), (1, .int (nI j)), (2, .int 2)], [.ref o, .int (nI j)], M)) rfl rfl rfl ?_
  refine ps_get (S' := (35, [(0, .ref o), (1, .int (nI j)), (2, .int 2)], [.ref c, .int (nI j)], M)) rfl h_o rfl rfl ?_
  refine ps_get (S' := (38, [(0, .ref o), (1, .int (nI j)), (2, .int 2)], [.ref q, .int (nI j)], M)) rfl h_c rfl rfl ?_
  refine ps_get (S' := (41, [(0, .ref o), (1, .int (nI j)), (2, .int 2)], [.int (nI N), .int (nI j)], M)) rfl h_q rfl rfl ?_
  refine ps_if2 (S1 := (46, [(0, .ref o), (1, .int (nI j)), (2, .int 2)], [], M)) (S2 := (44, [], [], M)) rfl rfl rfl (fun c_41 => ?_) (fun c_41 => ?_)
  rotate_left
  · exact absurd ((lt_nI (by omega) (by omega)).mpr hj) (of_decide_eq_false c_41)
  refine ps_st (S' := (47, [(0, .ref o), (1, .int (nI j)), (2, .int 2)], [.int 2], M)) rfl rfl rfl ?_
  refine ps_if (S1 := (62, [(0, .ref o), (1, .int (nI j)), (2, .int 2)], [], M)) (S2 := (50, [(0, .ref o), (1, .int (nI j)), (2, .int 2)], [], M)) rfl rfl rfl (fun c_47 => ?_) (fun c_47 => ?_)
  rotate_left
  · exact absurd (by decide) (of_decide_eq_false c_47)
  refine ps_st (S' := (63, [(0, .ref o), (1, .int (nI j)), (2, .int 2)], [.int 2], M)) rfl rfl rfl ?_
  refine ps_st (S' := (64, [(0, .ref o), (1, .int (nI j)), (2, .int 2)], [.int 1, .int 2], M)) rfl rfl rfl ?_
  refine ps_if2 (S1 := (81, [(0, .ref o), (1, .int (nI j)), (2, .int 2)], [], M)) (S2 := (67, [(0, .ref o), (1, .int (nI j)), (2, .int 2)], [], M)) rfl rfl rfl (fun c_64 => ?_) (fun c_64 => ?_)
  rotate_left
  · exact absurd (by decide) (of_decide_eq_false c_64)
  refine ps_st (S' := (82, [(0, .ref o), (1, .int (nI j)), (2, .int 2)], [.ref o], M)) rfl rfl rfl ?_
  refine ps_get (S' := (85, [(0, .ref o), (1, .int (nI j)), (2, .int 2)], [.ref c], M)) rfl h_o rfl rfl ?_
  refine ps_get (S' := (88, [(0, .ref o), (1, .int (nI j)), (2, .int 2)], [.ref q], M)) rfl h_c rfl rfl ?_
  refine ps_st (S' := (89, [(0, .ref o), (1, .int (nI j)), (2, .int 2)], [.int (nI j), .ref q], M)) rfl rfl rfl ?_
  refine pl_call (a := [.ref q, .int (nI j)]) (rest := []) rfl rfl rfl (dy_secondIndex (f := f) (n := n) (N := N) (q := q) (E := E) (j := j) (hV) (by omega)) (fun v1 M2 q3 => ?_)
  obtain ⟨rfl, rfl⟩ := q3
  show pl _ _ _ (92, [], [.int (nI (se f E j))], M) _
  exact ps_reti rfl (⟨rfl, rfl⟩)
theorem dk_entry {g : xe_G} {M : mi_H} {ko : Option (Nat × (Nat → Int32))} {kv : Value} {cm o fl : Nat} {cn wp k p : Int32} (hx : M.1 o = some (ob 11 [.ref cm, .int cn, .ref fl, kv, .int wp])) (hK : KPC g ko kv cm M) (hp0 : ¬ p < 0) (hp1 : p ≤ 2) : pt (mT g) 8 [.ref o, .int k, .int p] M (fun v M' => v = some (.int (enK ko k p)) ∧ M = M') := by
  cases ko with
  | none =>
    have e : kv = .null := hK
    subst e
    exact dk_entry0 hx hp0 hp1
  | some r =>
    obtain ⟨c, da, rfl, ⟨b, q, N, E, p1, pF, pM, pA, w, h1, h2, h3, h4, h5, rfl, -⟩, -, -⟩ := hK
    rw [enK_is h5]
    have hN := by2_lt r.2 8
    unfold enI
    by_cases hk : k < 0 ∨ nI (by2 r.2 8) ≤ k
    · rw [if_pos hk]
      exact dk_entryN hx h1 hp0 hp1 h4 hk
    · rw [if_neg hk]
      obtain ⟨e, hj⟩ := i32_in hN hk
      obtain ⟨j, ej⟩ : ∃ j, j = k.toNatClampNeg := ⟨_, rfl⟩
      rw [← ej] at e hj ⊢
      subst e
      rcases i32_3 hp0 hp1 with rfl | rfl | rfl
      · exact dk_entry_0 hx h1 h4 hj
      · exact dk_entry_1 hx h1 h4 hj
      · exact dk_entry_2 hx h1 h4 hj
end
section
set_option maxHeartbeats 1000000 in
theorem rd_entryB {g : xe_G} {m0 : Nat} {q : Nat → Nat} {z : Nat × Nat} {I : rI} {R : rR} {M : mi_H} {k p : Int32} (hR : RS g m0 q z I R M)   (hbad : p < 0 ∨ ¬ p ≤ 2) : pt (mT g) 204 [.ref m0, .int k, .int p] M (fun v M' => (∃  (I' : rI) (R' : rR), v = some (.int 0) ∧ RS g m0 q z I' R' M' ∧ eqI [0] I I' ∧ eqR [] R R' ∧ I' 0 = some 1)) := by
  refine pt_in (b := mb_204 g) rfl (fun kf => ?_)
  show pl (mT g) kf (mb_204 g).2 (0, [(0, .ref m0), (1, .int k), (2, .int p)], [], M) _
  have hEI : eqI [0] I I := eqI.rf
  have hER : eqR [] R R := eqR.rf
  refine ps_st (S' := (1, [(0, .ref m0), (1, .int k), (2, .int p)], [.ref m0], M)) rfl rfl rfl ?_
  refine ps_st (S' := (2, [(0, .ref m0), (1, .int k), (2, .int p)], [.int 0, .ref m0], M)) rfl rfl rfl ?_
  refine pr_put (j := 0) rfl hR rfl (fun M1 I2 hR3 hi4 hI5 => ?_)
  have hEI6 := hEI.put hI5 (by decide)
  show pl _ _ _ (5, [(0, .ref m0), (1, .int k), (2, .int p)], [], M1) _
  refine ps_st (S' := (6, [(0, .ref m0), (1, .int k), (2, .int p)], [.int p], M1)) rfl rfl rfl ?_
  refine ps_if (S1 := (14, [(0, .ref m0)], [], M1)) (S2 := (9, [(0, .ref m0), (1, .int k), (2, .int p)], [], M1)) rfl rfl rfl (fun c_6 => ?_) (fun c_6 => ?_)
  · have c_6 : p < 0 := of_decide_eq_true c_6
    refine ps_st (S' := (15, [(0, .ref m0)], [.ref m0], M1)) rfl rfl rfl ?_
    refine pl_call (a := [.ref m0]) (rest := []) rfl rfl rfl (rd_bad hR3) (fun v7 M8 q9 => ?_)
    obtain ⟨I10, R11, rfl, hR12, hI13, hX14, hi15⟩ := q9
    have hEI16 := hEI6.tr hI13 (by decide)
    have hER17 := hER.tr hX14 (by decide)
    show pl _ _ _ (18, [(0, .ref m0)], [.int 0], M8) _
    exact ps_ret rfl rfl (⟨I10, R11, rfl, hR12, hEI16, hER17, hi15⟩)
  · have c_6 : ¬ (p < 0) := of_decide_eq_false c_6
    refine ps_st (S' := (10, [(0, .ref m0), (1, .int k), (2, .int p)], [.int p], M1)) rfl rfl rfl ?_
    refine ps_st (S' := (11, [(0, .ref m0), (1, .int k), (2, .int p)], [.int 2, .int p], M1)) rfl rfl rfl ?_
    refine ps_if2 (S1 := (19, [(0, .ref m0), (1, .int k), (2, .int p)], [], M1)) (S2 := (14, [(0, .ref m0)], [], M1)) rfl rfl rfl (fun c_11 => ?_) (fun c_11 => ?_)
    · have c_11 : p ≤ 2 := of_decide_eq_true c_11
      exfalso
      rcases hbad with h9 | h9
      · exact absurd h9 (by assumption)
      · exact h9 (by assumption)
    · have c_11 : ¬ (p ≤ 2) := of_decide_eq_false c_11
      refine ps_st (S' := (15, [(0, .ref m0)], [.ref m0], M1)) rfl rfl rfl ?_
      refine pl_call (a := [.ref m0]) (rest := []) rfl rfl rfl (rd_bad hR3) (fun v18 M19 q20 => ?_)
      obtain ⟨I21, R22, rfl, hR23, hI24, hX25, hi26⟩ := q20
      have hEI27 := hEI6.tr hI24 (by decide)
      have hER28 := hER.tr hX25 (by decide)
      show pl _ _ _ (18, [(0, .ref m0)], [.int 0], M19) _
      exact ps_ret rfl rfl (⟨I21, R22, rfl, hR23, hEI27, hER28, hi26⟩)
set_option maxHeartbeats 1000000 in
theorem rd_entry0 {g : xe_G} {m0 : Nat} {q : Nat → Nat} {z : Nat × Nat} {I : rI} {R : rR} {M : mi_H} {kn k p : Int32} (hR : RS g m0 q z I R M) (hi18 : I 18 = some kn)  (hp0 : ¬ p < 0) (hp1 : p ≤ 2) (hk : kn < 0) : pt (mT g) 204 [.ref m0, .int k, .int p] M (fun v M' => (∃  (I' : rI) (R' : rR), v = some (.int (-1)) ∧ RS g m0 q z I' R' M' ∧ eqI [0] I I' ∧ eqR [] R R' ∧ I' 0 = some 0)) := by
  refine pt_in (b := mb_204 g) rfl (fun kf => ?_)
  show pl (mT g) kf (mb_204 g).2 (0, [(0, .ref m0), (1, .int k), (2, .int p)], [], M) _
  have hEI : eqI [0] I I := eqI.rf
  have hER : eqR [] R R := eqR.rf
  refine ps_st (S' := (1, [(0, .ref m0), (1, .int k), (2, .int p)], [.ref m0], M)) rfl rfl rfl ?_
  refine ps_st (S' := (2, [(0, .ref m0), (1, .int k), (2, .int p)], [.int 0, .ref m0], M)) rfl rfl rfl ?_
  refine pr_put (j := 0) rfl hR rfl (fun M1 I2 hR3 hi4 hI5 => ?_)
  have hi6 := (hI5 18 (by decide)).trans hi18
  have hEI7 := hEI.put hI5 (by decide)
  show pl _ _ _ (5, [(0, .ref m0), (1, .int k), (2, .int p)], [], M1) _
  refine ps_st (S' := (6, [(0, .ref m0), (1, .int k), (2, .int p)], [.int p], M1)) rfl rfl rfl ?_
  refine ps_if (S1 := (14, [(0, .ref m0)], [], M1)) (S2 := (9, [(0, .ref m0), (1, .int k), (2, .int p)], [], M1)) rfl rfl rfl (fun c_6 => ?_) (fun c_6 => ?_)
  · exact absurd (of_decide_eq_true c_6) (hp0)
  refine ps_st (S' := (10, [(0, .ref m0), (1, .int k), (2, .int p)], [.int p], M1)) rfl rfl rfl ?_
  refine ps_st (S' := (11, [(0, .ref m0), (1, .int k), (2, .int p)], [.int 2, .int p], M1)) rfl rfl rfl ?_
  refine ps_if2 (S1 := (19, [(0, .ref m0), (1, .int k), (2, .int p)], [], M1)) (S2 := (14, [(0, .ref m0)], [], M1)) rfl rfl rfl (fun c_11 => ?_) (fun c_11 => ?_)
  rotate_left
  · exact absurd (hp1) (of_decide_eq_false c_11)
  refine ps_st (S' := (20, [(0, .ref m0), (1, .int k), (2, .int p)], [.ref m0], M1)) rfl rfl rfl ?_
  refine pr_int (j := 18) (S' := (23, [(0, .ref m0), (1, .int k), (2, .int p)], [.int kn], M1)) rfl hR3 rfl hi6 rfl ?_
  refine ps_if (S1 := (38, [], [], M1)) (S2 := (26, [(0, .ref m0), (1, .int k), (2, .int p)], [], M1)) rfl rfl rfl (fun c_23 => ?_) (fun c_23 => ?_)
  rotate_left
  · exact absurd (hk) (of_decide_eq_false c_23)
  refine ps_st (S' := (39, [], [.int (-1)], M1)) rfl rfl rfl ?_
  exact ps_ret rfl rfl (⟨I2, R, rfl, hR3, hEI7, hER, hi4⟩)
set_option maxHeartbeats 1000000 in
theorem rd_entryN {g : xe_G} {m0 : Nat} {q : Nat → Nat} {z : Nat × Nat} {I : rI} {R : rR} {M : mi_H} {n : Nat} {f : Nat → Int32} {tx : List (List Nat)} {cN : Nat} {A : Nat → Nat} {N mj : Nat} {E : List (Nat × Nat)} {k p : Int32} {n2 : Nat} (hR : RS g m0 q z I R M) (hi18 : I 18 = some (nI n2)) (hi51 : I 51 = some 0) (hi52 : I 52 = some (nI N)) (hi53 : I 53 = some (nI mj)) (hF : FK n f I R) (hY : SYT tx cN A I R) (hP : RPV f n E tx N I R) (hEP : EP f n E) (hN : N < 65536) (hp0 : ¬ p < 0) (hp1 : p ≤ 2) (hn2 : n2 ≤ 65540) (hk : k < 0 ∨ nI N ≤ k) : pt (mT g) 204 [.ref m0, .int k, .int p] M (fun v M' => (∃  (I' : rI) (R' : rR), v = some (.int (-1)) ∧ RS g m0 q z I' R' M' ∧ eqI [0] I I' ∧ eqR [] R R' ∧ I' 0 = some 0)) := by
  refine pt_in (b := mb_204 g) rfl (fun kf => ?_)
  show pl (mT g) kf (mb_204 g).2 (0, [(0, .ref m0), (1, .int k), (2, .int p)], [], M) _
  have hEI : eqI [0] I I := eqI.rf
  have hER : eqR [] R R := eqR.rf
  refine ps_st (S' := (1, [(0, .ref m0), (1, .int k), (2, .int p)], [.ref m0], M)) rfl rfl rfl ?_
  refine ps_st (S' := (2, [(0, .ref m0), (1, .int k), (2, .int p)], [.int 0, .ref m0], M)) rfl rfl rfl ?_
  refine pr_put (j := 0) rfl hR rfl (fun M1 I2 hR3 hi4 hI5 => ?_)
  have hi6 := (hI5 18 (by decide)).trans hi18
  have hi7 := (hI5 51 (by decide)).trans hi51
  have hi8 := (hI5 52 (by decide)).trans hi52
  have hi9 := (hI5 53 (by decide)).trans hi53
  have hF_10 := hF.mono (pIx hI5 (by decide)) (fun _ _ => rfl)
  have hY_11 := hY.mono (pIx hI5 (by decide)) (fun _ _ => rfl)
  have hP_12 := hP.mono (pIx hI5 (by decide)) (fun _ _ => rfl)
  have hEI13 := hEI.put hI5 (by decide)
  show pl _ _ _ (5, [(0, .ref m0), (1, .int k), (2, .int p)], [], M1) _
  refine ps_st (S' := (6, [(0, .ref m0), (1, .int k), (2, .int p)], [.int p], M1)) rfl rfl rfl ?_
  refine ps_if (S1 := (14, [(0, .ref m0)], [], M1)) (S2 := (9, [(0, .ref m0), (1, .int k), (2, .int p)], [], M1)) rfl rfl rfl (fun c_6 => ?_) (fun c_6 => ?_)
  · exact absurd (of_decide_eq_true c_6) (hp0)
  refine ps_st (S' := (10, [(0, .ref m0), (1, .int k), (2, .int p)], [.int p], M1)) rfl rfl rfl ?_
  refine ps_st (S' := (11, [(0, .ref m0), (1, .int k), (2, .int p)], [.int 2, .int p], M1)) rfl rfl rfl ?_
  refine ps_if2 (S1 := (19, [(0, .ref m0), (1, .int k), (2, .int p)], [], M1)) (S2 := (14, [(0, .ref m0)], [], M1)) rfl rfl rfl (fun c_11 => ?_) (fun c_11 => ?_)
  rotate_left
  · exact absurd (hp1) (of_decide_eq_false c_11)
  refine ps_st (S' := (20, [(0, .ref m0), (1, .int k), (2, .int p)], [.ref m0], M1)) rfl rfl rfl ?_
  refine pr_int (j := 18) (S' := (23, [(0, .ref m0), (1, .int k), (2, .int p)], [.int (nI n2)], M1)) rfl hR3 rfl hi6 rfl ?_
  refine ps_if (S1 := (38, [], [], M1)) (S2 := (26, [(0, .ref m0), (1, .int k), (2, .int p)], [], M1)) rfl rfl rfl (fun c_23 => ?_) (fun c_23 => ?_)
  · exact absurd (of_decide_eq_true c_23) (show ¬ ((nI n2) < 0) from fun h9 => absurd ((lt_nI (p := n2) (n := 0) (by omega) (by decide)).mp h9) (by omega))
  refine ps_st (S' := (27, [(0, .ref m0), (1, .int k), (2, .int p)], [.int k], M1)) rfl rfl rfl ?_
  refine ps_if (S1 := (38, [], [], M1)) (S2 := (30, [(0, .ref m0), (1, .int k), (2, .int p)], [], M1)) rfl rfl rfl (fun c_27 => ?_) (fun c_27 => ?_)
  · have c_27 : k < 0 := of_decide_eq_true c_27
    refine ps_st (S' := (39, [], [.int (-1)], M1)) rfl rfl rfl ?_
    exact ps_ret rfl rfl (⟨I2, R, rfl, hR3, hEI13, hER, hi4⟩)
  · have c_27 : ¬ (k < 0) := of_decide_eq_false c_27
    refine ps_st (S' := (31, [(0, .ref m0), (1, .int k), (2, .int p)], [.int k], M1)) rfl rfl rfl ?_
    refine ps_st (S' := (32, [(0, .ref m0), (1, .int k), (2, .int p)], [.ref m0, .int k], M1)) rfl rfl rfl ?_
    refine pr_int (j := 52) (S' := (35, [(0, .ref m0), (1, .int k), (2, .int p)], [.int (nI N), .int k], M1)) rfl hR3 rfl hi8 rfl ?_
    refine ps_if2 (S1 := (40, [(0, .ref m0), (1, .int k), (2, .int p)], [], M1)) (S2 := (38, [], [], M1)) rfl rfl rfl (fun c_35 => ?_) (fun c_35 => ?_)
    · exact absurd (of_decide_eq_true c_35) (Int32.not_lt.mpr (hk.resolve_left c_27))
    refine ps_st (S' := (39, [], [.int (-1)], M1)) rfl rfl rfl ?_
    exact ps_ret rfl rfl (⟨I2, R, rfl, hR3, hEI13, hER, hi4⟩)
set_option maxHeartbeats 1000000 in
theorem rd_entry_0 {g : xe_G} {m0 : Nat} {q : Nat → Nat} {z : Nat × Nat} {I : rI} {R : rR} {M : mi_H} {n : Nat} {f : Nat → Int32} {tx : List (List Nat)} {cN : Nat} {A : Nat → Nat} {N mj : Nat} {E : List (Nat × Nat)} {j n2 p1 : Nat} (hR : RS g m0 q z I R M) (hi18 : I 18 = some (nI n2)) (hi51 : I 51 = some 0) (hi52 : I 52 = some (nI N)) (hi53 : I 53 = some (nI mj)) (hF : FK n f I R) (hY : SYT tx cN A I R) (hP : RPV f n E tx N I R) (hEP : EP f n E) (hN : N < 65536) (hmj : mj < 65536) (hn2 : n2 ≤ 65540) (hj : j < N) (hpl : s_pool f n mj = .inr (p1, E)) : pt (mT g) 204 [.ref m0, .int (nI j), .int 0] M (fun v M' => (∃  (I' : rI) (R' : rR), v = some (.int (nI (tg f E j))) ∧ RS g m0 q z I' R' M' ∧ eqI [0] I I' ∧ eqR [] R R' ∧ I' 0 = some 0)) := by
  refine pt_in (b := mb_204 g) rfl (fun kf => ?_)
  show pl (mT g) kf (mb_204 g).2 (0, [(0, .ref m0), (1, .int (nI j)), (2, .int 0)], [], M) _
  have hEI : eqI [0] I I := eqI.rf
  have hER : eqR [] R R := eqR.rf
  have hn := hF.1
  have hto := tg_ok (k := j) hpl
  unfold tgOk at hto
  have htl9 := tg_lt f E j
  refine ps_st (S' := (1, [(0, .ref m0), (1, .int (nI j)), (2, .int 0)], [.ref m0], M)) rfl rfl rfl ?_
  refine ps_st (S' := (2, [(0, .ref m0), (1, .int (nI j)), (2, .int 0)], [.int 0, .ref m0], M)) rfl rfl rfl ?_
  refine pr_put (j := 0) rfl hR rfl (fun M1 I2 hR3 hi4 hI5 => ?_)
  have hi6 := (hI5 18 (by decide)).trans hi18
  have hi7 := (hI5 51 (by decide)).trans hi51
  have hi8 := (hI5 52 (by decide)).trans hi52
  have hi9 := (hI5 53 (by decide)).trans hi53
  have hF_10 := hF.mono (pIx hI5 (by decide)) (fun _ _ => rfl)
  have hY_11 := hY.mono (pIx hI5 (by decide)) (fun _ _ => rfl)
  have hP_12 := hP.mono (pIx hI5 (by decide)) (fun _ _ => rfl)
  have hEI13 := hEI.put hI5 (by decide)
  show pl _ _ _ (5, [(0, .ref m0), (1, .int (nI j)), (2, .int 0)], [], M1) _
  refine ps_st (S' := (6, [(0, .ref m0), (1, .int (nI j)), (2, .int 0)], [.int 0], M1)) rfl rfl rfl ?_
  refine ps_if (S1 := (14, [(0, .ref m0)], [], M1)) (S2 := (9, [(0, .ref m0), (1, .int (nI j)), (2, .int 0)], [], M1)) rfl rfl rfl (fun c_6 => ?_) (fun c_6 => ?_)
  · exact absurd (of_decide_eq_true c_6) (by decide)
  refine ps_st (S' := (10, [(0, .ref m0), (1, .int (nI j)), (2, .int 0)], [.int 0], M1)) rfl rfl rfl ?_
  refine ps_st (S' := (11, [(0, .ref m0), (1, .int (nI j)), (2, .int 0)], [.int 2, .int 0], M1)) rfl rfl rfl ?_
  refine ps_if2 (S1 := (19, [(0, .ref m0), (1, .int (nI j)), (2, .int 0)], [], M1)) (S2 := (14, [(0, .ref m0)], [], M1)) rfl rfl rfl (fun c_11 => ?_) (fun c_11 => ?_)
  rotate_left
  · exact absurd (by decide) (of_decide_eq_false c_11)
  refine ps_st (S' := (20, [(0, .ref m0), (1, .int (nI j)), (2, .int 0)], [.ref m0], M1)) rfl rfl rfl ?_
  refine pr_int (j := 18) (S' := (23, [(0, .ref m0), (1, .int (nI j)), (2, .int 0)], [.int (nI n2)], M1)) rfl hR3 rfl hi6 rfl ?_
  refine ps_if (S1 := (38, [], [], M1)) (S2 := (26, [(0, .ref m0), (1, .int (nI j)), (2, .int 0)], [], M1)) rfl rfl rfl (fun c_23 => ?_) (fun c_23 => ?_)
  · exact absurd (of_decide_eq_true c_23) (show ¬ ((nI n2) < 0) from fun h9 => absurd ((lt_nI (p := n2) (n := 0) (by omega) (by decide)).mp h9) (by omega))
  refine ps_st (S' := (27, [(0, .ref m0), (1, .int (nI j)), (2, .int 0)], [.int (nI j)], M1)) rfl rfl rfl ?_
  refine ps_if (S1 := (38, [], [], M1)) (S2 := (30, [(0, .ref m0), (1, .int (nI j)), (2, .int 0)], [], M1)) rfl rfl rfl (fun c_27 => ?_) (fun c_27 => ?_)
  · exact absurd (of_decide_eq_true c_27) (show ¬ ((nI j) < 0) from fun h9 => absurd ((lt_nI (p := j) (n := 0) (by omega) (by decide)).mp h9) (by omega))
  refine ps_st (S' := (31, [(0, .ref m0), (1, .int (nI j)), (2, .int 0)], [.int (nI j)], M1)) rfl rfl rfl ?_
  refine ps_st (S' := (32, [(0, .ref m0), (1, .int (nI j)), (2, .int 0)], [.ref m0, .int (nI j)], M1)) rfl rfl rfl ?_
  refine pr_int (j := 52) (S' := (35, [(0, .ref m0), (1, .int (nI j)), (2, .int 0)], [.int (nI N), .int (nI j)], M1)) rfl hR3 rfl hi8 rfl ?_
  refine ps_if2 (S1 := (40, [(0, .ref m0), (1, .int (nI j)), (2, .int 0)], [], M1)) (S2 := (38, [], [], M1)) rfl rfl rfl (fun c_35 => ?_) (fun c_35 => ?_)
  rotate_left
  · exact absurd ((lt_nI (by omega) (by omega)).mpr hj) (of_decide_eq_false c_35)
  refine ps_st (S' := (41, [(0, .ref m0), (1, .int (nI j)), (2, .int 0)], [.ref m0], M1)) rfl rfl rfl ?_
  refine ps_st (S' := (42, [(0, .ref m0), (1, .int (nI j)), (2, .int 0)], [.int (nI j), .ref m0], M1)) rfl rfl rfl ?_
  refine pl_call (a := [.ref m0, .int (nI j)]) (rest := []) rfl rfl rfl (rd_tag (n := n) (f := f) (tx := tx) (cN := cN) (A := A) (N := N) (mj := mj) (E := E) (k := j) hR3 hi7 hi8 hi9 hF_10 hY_11 hP_12 (hEP) (hN) (hmj) (by omega)) (fun v14 M15 q16 => ?_)
  obtain ⟨rfl, rfl⟩ := q16
  show pl _ _ _ (45, [(0, .ref m0), (1, .int (nI j)), (2, .int 0)], [.int (nI (tg f E j))], M1) _
  have htg_42 := tg_lt f E j
  refine ps_st (S' := (46, [(3, .int (nI (tg f E j))), (0, .ref m0), (1, .int (nI j)), (2, .int 0)], [], M1)) rfl rfl rfl ?_
  refine ps_st (S' := (47, [(3, .int (nI (tg f E j))), (0, .ref m0), (1, .int (nI j)), (2, .int 0)], [.int 0], M1)) rfl rfl rfl ?_
  refine ps_if (S1 := (52, [(3, .int (nI (tg f E j))), (0, .ref m0), (1, .int (nI j)), (2, .int 0)], [], M1)) (S2 := (50, [(3, .int (nI (tg f E j))), (0, .ref m0), (1, .int (nI j)), (2, .int 0)], [], M1)) rfl rfl rfl (fun c_47 => ?_) (fun c_47 => ?_)
  · exact absurd (of_decide_eq_true c_47) (by decide)
  refine ps_st (S' := (51, [(3, .int (nI (tg f E j))), (0, .ref m0), (1, .int (nI j)), (2, .int 0)], [.int (nI (tg f E j))], M1)) rfl rfl rfl ?_
  exact ps_reti rfl (⟨I2, R, rfl, hR3, hEI13, hER, hi4⟩)
set_option maxHeartbeats 1000000 in
theorem rd_entry_1 {g : xe_G} {m0 : Nat} {q : Nat → Nat} {z : Nat × Nat} {I : rI} {R : rR} {M : mi_H} {n : Nat} {f : Nat → Int32} {tx : List (List Nat)} {cN : Nat} {A : Nat → Nat} {N mj : Nat} {E : List (Nat × Nat)} {j n2 p1 : Nat} (hR : RS g m0 q z I R M) (hi18 : I 18 = some (nI n2)) (hi51 : I 51 = some 0) (hi52 : I 52 = some (nI N)) (hi53 : I 53 = some (nI mj)) (hF : FK n f I R) (hY : SYT tx cN A I R) (hP : RPV f n E tx N I R) (hEP : EP f n E) (hN : N < 65536) (hmj : mj < 65536) (hn2 : n2 ≤ 65540) (hj : j < N) (hpl : s_pool f n mj = .inr (p1, E)) : pt (mT g) 204 [.ref m0, .int (nI j), .int 1] M (fun v M' => (∃  (I' : rI) (R' : rR), v = some (.int (nI (fi f E j))) ∧ RS g m0 q z I' R' M' ∧ eqI [0] I I' ∧ eqR [] R R' ∧ I' 0 = some 0)) := by
  refine pt_in (b := mb_204 g) rfl (fun kf => ?_)
  show pl (mT g) kf (mb_204 g).2 (0, [(0, .ref m0), (1, .int (nI j)), (2, .int 1)], [], M) _
  have hEI : eqI [0] I I := eqI.rf
  have hER : eqR [] R R := eqR.rf
  have hn := hF.1
  have hto := tg_ok (k := j) hpl
  unfold tgOk at hto
  have htl9 := tg_lt f E j
  refine ps_st (S' := (1, [(0, .ref m0), (1, .int (nI j)), (2, .int 1)], [.ref m0], M)) rfl rfl rfl ?_
  refine ps_st (S' := (2, [(0, .ref m0), (1, .int (nI j)), (2, .int 1)], [.int 0, .ref m0], M)) rfl rfl rfl ?_
  refine pr_put (j := 0) rfl hR rfl (fun M1 I2 hR3 hi4 hI5 => ?_)
  have hi6 := (hI5 18 (by decide)).trans hi18
  have hi7 := (hI5 51 (by decide)).trans hi51
  have hi8 := (hI5 52 (by decide)).trans hi52
  have hi9 := (hI5 53 (by decide)).trans hi53
  have hF_10 := hF.mono (pIx hI5 (by decide)) (fun _ _ => rfl)
  have hY_11 := hY.mono (pIx hI5 (by decide)) (fun _ _ => rfl)
  have hP_12 := hP.mono (pIx hI5 (by decide)) (fun _ _ => rfl)
  have hEI13 := hEI.put hI5 (by decide)
  show pl _ _ _ (5, [(0, .ref m0), (1, .int (nI j)), (2, .int 1)], [], M1) _
  refine ps_st (S' := (6, [(0, .ref m0), (1, .int (nI j)), (2, .int 1)], [.int 1], M1)) rfl rfl rfl ?_
  refine ps_if (S1 := (14, [(0, .ref m0)], [], M1)) (S2 := (9, [(0, .ref m0), (1, .int (nI j)), (2, .int 1)], [], M1)) rfl rfl rfl (fun c_6 => ?_) (fun c_6 => ?_)
  · exact absurd (of_decide_eq_true c_6) (by decide)
  refine ps_st (S' := (10, [(0, .ref m0), (1, .int (nI j)), (2, .int 1)], [.int 1], M1)) rfl rfl rfl ?_
  refine ps_st (S' := (11, [(0, .ref m0), (1, .int (nI j)), (2, .int 1)], [.int 2, .int 1], M1)) rfl rfl rfl ?_
  refine ps_if2 (S1 := (19, [(0, .ref m0), (1, .int (nI j)), (2, .int 1)], [], M1)) (S2 := (14, [(0, .ref m0)], [], M1)) rfl rfl rfl (fun c_11 => ?_) (fun c_11 => ?_)
  rotate_left
  · exact absurd (by decide) (of_decide_eq_false c_11)
  refine ps_st (S' := (20, [(0, .ref m0), (1, .int (nI j)), (2, .int 1)], [.ref m0], M1)) rfl rfl rfl ?_
  refine pr_int (j := 18) (S' := (23, [(0, .ref m0), (1, .int (nI j)), (2, .int 1)], [.int (nI n2)], M1)) rfl hR3 rfl hi6 rfl ?_
  refine ps_if (S1 := (38, [], [], M1)) (S2 := (26, [(0, .ref m0), (1, .int (nI j)), (2, .int 1)], [], M1)) rfl rfl rfl (fun c_23 => ?_) (fun c_23 => ?_)
  · exact absurd (of_decide_eq_true c_23) (show ¬ ((nI n2) < 0) from fun h9 => absurd ((lt_nI (p := n2) (n := 0) (by omega) (by decide)).mp h9) (by omega))
  refine ps_st (S' := (27, [(0, .ref m0), (1, .int (nI j)), (2, .int 1)], [.int (nI j)], M1)) rfl rfl rfl ?_
  refine ps_if (S1 := (38, [], [], M1)) (S2 := (30, [(0, .ref m0), (1, .int (nI j)), (2, .int 1)], [], M1)) rfl rfl rfl (fun c_27 => ?_) (fun c_27 => ?_)
  · exact absurd (of_decide_eq_true c_27) (show ¬ ((nI j) < 0) from fun h9 => absurd ((lt_nI (p := j) (n := 0) (by omega) (by decide)).mp h9) (by omega))
  refine ps_st (S' := (31, [(0, .ref m0), (1, .int (nI j)), (2, .int 1)], [.int (nI j)], M1)) rfl rfl rfl ?_
  refine ps_st (S' := (32, [(0, .ref m0), (1, .int (nI j)), (2, .int 1)], [.ref m0, .int (nI j)], M1)) rfl rfl rfl ?_
  refine pr_int (j := 52) (S' := (35, [(0, .ref m0), (1, .int (nI j)), (2, .int 1)], [.int (nI N), .int (nI j)], M1)) rfl hR3 rfl hi8 rfl ?_
  refine ps_if2 (S1 := (40, [(0, .ref m0), (1, .int (nI j)), (2, .int 1)], [], M1)) (S2 := (38, [], [], M1)) rfl rfl rfl (fun c_35 => ?_) (fun c_35 => ?_)
  rotate_left
  · exact absurd ((lt_nI (by omega) (by omega)).mpr hj) (of_decide_eq_false c_35)
  refine ps_st (S' := (41, [(0, .ref m0), (1, .int (nI j)), (2, .int 1)], [.ref m0], M1)) rfl rfl rfl ?_
  refine ps_st (S' := (42, [(0, .ref m0), (1, .int (nI j)), (2, .int 1)], [.int (nI j), .ref m0], M1)) rfl rfl rfl ?_
  refine pl_call (a := [.ref m0, .int (nI j)]) (rest := []) rfl rfl rfl (rd_tag (n := n) (f := f) (tx := tx) (cN := cN) (A := A) (N := N) (mj := mj) (E := E) (k := j) hR3 hi7 hi8 hi9 hF_10 hY_11 hP_12 (hEP) (hN) (hmj) (by omega)) (fun v14 M15 q16 => ?_)
  obtain ⟨rfl, rfl⟩ := q16
  show pl _ _ _ (45, [(0, .ref m0), (1, .int (nI j)), (2, .int 1)], [.int (nI (tg f E j))], M1) _
  have htg_42 := tg_lt f E j
  refine ps_st (S' := (46, [(3, .int (nI (tg f E j))), (0, .ref m0), (1, .int (nI j)), (2, .int 1)], [], M1)) rfl rfl rfl ?_
  refine ps_st (S' := (47, [(3, .int (nI (tg f E j))), (0, .ref m0), (1, .int (nI j)), (2, .int 1)], [.int 1], M1)) rfl rfl rfl ?_
  refine ps_if (S1 := (52, [(3, .int (nI (tg f E j))), (0, .ref m0), (1, .int (nI j)), (2, .int 1)], [], M1)) (S2 := (50, [(3, .int (nI (tg f E j))), (0, .ref m0), (1, .int (nI j)), (2, .int 1)], [], M1)) rfl rfl rfl (fun c_47 => ?_) (fun c_47 => ?_)
  rotate_left
  · exact absurd (by decide) (of_decide_eq_false c_47)
  refine ps_st (S' := (53, [(3, .int (nI (tg f E j))), (0, .ref m0), (1, .int (nI j)), (2, .int 1)], [.int (nI (tg f E j))], M1)) rfl rfl rfl ?_
  refine ps_st (S' := (55, [(3, .int (nI (tg f E j))), (0, .ref m0), (1, .int (nI j)), (2, .int 1)], [.int 15, .int (nI (tg f E j))], M1)) rfl rfl rfl ?_
  refine ps_if2 (S1 := (85, [(3, .int (nI (tg f E j))), (0, .ref m0), (1, .int (nI j)), (2, .int 1)], [], M1)) (S2 := (58, [(3, .int (nI (tg f E j))), (0, .ref m0), (1, .int (nI j)), (2, .int 1)], [], M1)) rfl rfl rfl (fun c_55 => ?_) (fun c_55 => ?_)
  · have c_55 : ¬ (nI (tg f E j)) = 15 := of_decide_eq_true c_55
    have n_55 : ¬ (tg f E j = 15) := fun h9 => c_55 ((eq_nI (p := tg f E j) (n := 15) (Nat.lt_trans (tg_lt _ _ _) (by decide)) (by decide)).mpr h9)
    refine ps_st (S' := (86, [(3, .int (nI (tg f E j))), (0, .ref m0), (1, .int (nI j)), (2, .int 1)], [.int (nI (tg f E j))], M1)) rfl rfl rfl ?_
    refine ps_st (S' := (88, [(3, .int (nI (tg f E j))), (0, .ref m0), (1, .int (nI j)), (2, .int 1)], [.int 7, .int (nI (tg f E j))], M1)) rfl rfl rfl ?_
    refine ps_if2 (S1 := (115, [(0, .ref m0), (1, .int (nI j)), (2, .int 1)], [], M1)) (S2 := (91, [(3, .int (nI (tg f E j))), (0, .ref m0), (1, .int (nI j)), (2, .int 1)], [], M1)) rfl rfl rfl (fun c_88 => ?_) (fun c_88 => ?_)
    · have c_88 : (nI (tg f E j)) = 7 := of_decide_eq_true c_88
      have n_88 : tg f E j = 7 := (eq_nI (p := tg f E j) (n := 7) (Nat.lt_trans (tg_lt _ _ _) (by decide)) (by decide)).mp c_88
      refine ps_st (S' := (116, [(0, .ref m0), (1, .int (nI j)), (2, .int 1)], [.int 1], M1)) rfl rfl rfl ?_
      refine ps_st (S' := (117, [(0, .ref m0), (1, .int (nI j)), (2, .int 1)], [.int 1, .int 1], M1)) rfl rfl rfl ?_
      refine ps_if2 (S1 := (129, [(0, .ref m0), (1, .int (nI j)), (2, .int 1)], [], M1)) (S2 := (120, [(0, .ref m0), (1, .int (nI j)), (2, .int 1)], [], M1)) rfl rfl rfl (fun c_117 => ?_) (fun c_117 => ?_)
      · exact absurd (of_decide_eq_true c_117) (by decide)
      refine ps_st (S' := (121, [(0, .ref m0), (1, .int (nI j)), (2, .int 1)], [.ref m0], M1)) rfl rfl rfl ?_
      refine ps_st (S' := (122, [(0, .ref m0), (1, .int (nI j)), (2, .int 1)], [.int (nI j), .ref m0], M1)) rfl rfl rfl ?_
      refine ps_st (S' := (123, [(0, .ref m0), (1, .int (nI j)), (2, .int 1)], [.int 1, .int (nI j), .ref m0], M1)) rfl rfl rfl ?_
      refine pl_call (a := [.ref m0, .int (nI j), .int 1]) (rest := []) rfl rfl rfl (rd_idx1 (n := n) (f := f) (tx := tx) (cN := cN) (A := A) (N := N) (mj := mj) (E := E) (k := j) hR3 hi7 hi8 hi9 hF_10 hY_11 hP_12 (hEP) (hN) (hmj) (by omega)) (fun v17 M18 q19 => ?_)
      obtain ⟨rfl, rfl⟩ := q19
      show pl _ _ _ (126, [(0, .ref m0), (1, .int (nI j)), (2, .int 1)], [.int (nI (fi f E j))], M1) _
      have hix_123 := fi_lt f E j
      refine ps_st (S' := (130, [], [.int (nI (fi f E j))], M1)) rfl rfl rfl ?_
      exact ps_reti rfl (⟨I2, R, rfl, hR3, hEI13, hER, hi4⟩)
    · have c_88 : ¬ ((nI (tg f E j)) = 7) := of_decide_eq_false c_88
      have n_88 : ¬ (tg f E j = 7) := fun h9 => c_88 ((eq_nI (p := tg f E j) (n := 7) (Nat.lt_trans (tg_lt _ _ _) (by decide)) (by decide)).mpr h9)
      refine ps_st (S' := (92, [(3, .int (nI (tg f E j))), (0, .ref m0), (1, .int (nI j)), (2, .int 1)], [.int (nI (tg f E j))], M1)) rfl rfl rfl ?_
      refine ps_st (S' := (94, [(3, .int (nI (tg f E j))), (0, .ref m0), (1, .int (nI j)), (2, .int 1)], [.int 8, .int (nI (tg f E j))], M1)) rfl rfl rfl ?_
      refine ps_if2 (S1 := (115, [(0, .ref m0), (1, .int (nI j)), (2, .int 1)], [], M1)) (S2 := (97, [(3, .int (nI (tg f E j))), (0, .ref m0), (1, .int (nI j)), (2, .int 1)], [], M1)) rfl rfl rfl (fun c_94 => ?_) (fun c_94 => ?_)
      · have c_94 : (nI (tg f E j)) = 8 := of_decide_eq_true c_94
        have n_94 : tg f E j = 8 := (eq_nI (p := tg f E j) (n := 8) (Nat.lt_trans (tg_lt _ _ _) (by decide)) (by decide)).mp c_94
        refine ps_st (S' := (116, [(0, .ref m0), (1, .int (nI j)), (2, .int 1)], [.int 1], M1)) rfl rfl rfl ?_
        refine ps_st (S' := (117, [(0, .ref m0), (1, .int (nI j)), (2, .int 1)], [.int 1, .int 1], M1)) rfl rfl rfl ?_
        refine ps_if2 (S1 := (129, [(0, .ref m0), (1, .int (nI j)), (2, .int 1)], [], M1)) (S2 := (120, [(0, .ref m0), (1, .int (nI j)), (2, .int 1)], [], M1)) rfl rfl rfl (fun c_117 => ?_) (fun c_117 => ?_)
        · exact absurd (of_decide_eq_true c_117) (by decide)
        refine ps_st (S' := (121, [(0, .ref m0), (1, .int (nI j)), (2, .int 1)], [.ref m0], M1)) rfl rfl rfl ?_
        refine ps_st (S' := (122, [(0, .ref m0), (1, .int (nI j)), (2, .int 1)], [.int (nI j), .ref m0], M1)) rfl rfl rfl ?_
        refine ps_st (S' := (123, [(0, .ref m0), (1, .int (nI j)), (2, .int 1)], [.int 1, .int (nI j), .ref m0], M1)) rfl rfl rfl ?_
        refine pl_call (a := [.ref m0, .int (nI j), .int 1]) (rest := []) rfl rfl rfl (rd_idx1 (n := n) (f := f) (tx := tx) (cN := cN) (A := A) (N := N) (mj := mj) (E := E) (k := j) hR3 hi7 hi8 hi9 hF_10 hY_11 hP_12 (hEP) (hN) (hmj) (by omega)) (fun v20 M21 q22 => ?_)
        obtain ⟨rfl, rfl⟩ := q22
        show pl _ _ _ (126, [(0, .ref m0), (1, .int (nI j)), (2, .int 1)], [.int (nI (fi f E j))], M1) _
        have hix_123 := fi_lt f E j
        refine ps_st (S' := (130, [], [.int (nI (fi f E j))], M1)) rfl rfl rfl ?_
        exact ps_reti rfl (⟨I2, R, rfl, hR3, hEI13, hER, hi4⟩)
      · have c_94 : ¬ ((nI (tg f E j)) = 8) := of_decide_eq_false c_94
        have n_94 : ¬ (tg f E j = 8) := fun h9 => c_94 ((eq_nI (p := tg f E j) (n := 8) (Nat.lt_trans (tg_lt _ _ _) (by decide)) (by decide)).mpr h9)
        refine ps_st (S' := (98, [(3, .int (nI (tg f E j))), (0, .ref m0), (1, .int (nI j)), (2, .int 1)], [.int (nI (tg f E j))], M1)) rfl rfl rfl ?_
        refine ps_st (S' := (100, [(3, .int (nI (tg f E j))), (0, .ref m0), (1, .int (nI j)), (2, .int 1)], [.int 16, .int (nI (tg f E j))], M1)) rfl rfl rfl ?_
        refine ps_if2 (S1 := (115, [(0, .ref m0), (1, .int (nI j)), (2, .int 1)], [], M1)) (S2 := (103, [(3, .int (nI (tg f E j))), (0, .ref m0), (1, .int (nI j)), (2, .int 1)], [], M1)) rfl rfl rfl (fun c_100 => ?_) (fun c_100 => ?_)
        · have c_100 : (nI (tg f E j)) = 16 := of_decide_eq_true c_100
          have n_100 : tg f E j = 16 := (eq_nI (p := tg f E j) (n := 16) (Nat.lt_trans (tg_lt _ _ _) (by decide)) (by decide)).mp c_100
          refine ps_st (S' := (116, [(0, .ref m0), (1, .int (nI j)), (2, .int 1)], [.int 1], M1)) rfl rfl rfl ?_
          refine ps_st (S' := (117, [(0, .ref m0), (1, .int (nI j)), (2, .int 1)], [.int 1, .int 1], M1)) rfl rfl rfl ?_
          refine ps_if2 (S1 := (129, [(0, .ref m0), (1, .int (nI j)), (2, .int 1)], [], M1)) (S2 := (120, [(0, .ref m0), (1, .int (nI j)), (2, .int 1)], [], M1)) rfl rfl rfl (fun c_117 => ?_) (fun c_117 => ?_)
          · exact absurd (of_decide_eq_true c_117) (by decide)
          refine ps_st (S' := (121, [(0, .ref m0), (1, .int (nI j)), (2, .int 1)], [.ref m0], M1)) rfl rfl rfl ?_
          refine ps_st (S' := (122, [(0, .ref m0), (1, .int (nI j)), (2, .int 1)], [.int (nI j), .ref m0], M1)) rfl rfl rfl ?_
          refine ps_st (S' := (123, [(0, .ref m0), (1, .int (nI j)), (2, .int 1)], [.int 1, .int (nI j), .ref m0], M1)) rfl rfl rfl ?_
          refine pl_call (a := [.ref m0, .int (nI j), .int 1]) (rest := []) rfl rfl rfl (rd_idx1 (n := n) (f := f) (tx := tx) (cN := cN) (A := A) (N := N) (mj := mj) (E := E) (k := j) hR3 hi7 hi8 hi9 hF_10 hY_11 hP_12 (hEP) (hN) (hmj) (by omega)) (fun v23 M24 q25 => ?_)
          obtain ⟨rfl, rfl⟩ := q25
          show pl _ _ _ (126, [(0, .ref m0), (1, .int (nI j)), (2, .int 1)], [.int (nI (fi f E j))], M1) _
          have hix_123 := fi_lt f E j
          refine ps_st (S' := (130, [], [.int (nI (fi f E j))], M1)) rfl rfl rfl ?_
          exact ps_reti rfl (⟨I2, R, rfl, hR3, hEI13, hER, hi4⟩)
        · have c_100 : ¬ ((nI (tg f E j)) = 16) := of_decide_eq_false c_100
          have n_100 : ¬ (tg f E j = 16) := fun h9 => c_100 ((eq_nI (p := tg f E j) (n := 16) (Nat.lt_trans (tg_lt _ _ _) (by decide)) (by decide)).mpr h9)
          refine ps_st (S' := (104, [(3, .int (nI (tg f E j))), (0, .ref m0), (1, .int (nI j)), (2, .int 1)], [.int (nI (tg f E j))], M1)) rfl rfl rfl ?_
          refine ps_st (S' := (106, [(3, .int (nI (tg f E j))), (0, .ref m0), (1, .int (nI j)), (2, .int 1)], [.int 19, .int (nI (tg f E j))], M1)) rfl rfl rfl ?_
          refine ps_if2 (S1 := (115, [(0, .ref m0), (1, .int (nI j)), (2, .int 1)], [], M1)) (S2 := (109, [(3, .int (nI (tg f E j))), (0, .ref m0), (1, .int (nI j)), (2, .int 1)], [], M1)) rfl rfl rfl (fun c_106 => ?_) (fun c_106 => ?_)
          · have c_106 : (nI (tg f E j)) = 19 := of_decide_eq_true c_106
            have n_106 : tg f E j = 19 := (eq_nI (p := tg f E j) (n := 19) (Nat.lt_trans (tg_lt _ _ _) (by decide)) (by decide)).mp c_106
            refine ps_st (S' := (116, [(0, .ref m0), (1, .int (nI j)), (2, .int 1)], [.int 1], M1)) rfl rfl rfl ?_
            refine ps_st (S' := (117, [(0, .ref m0), (1, .int (nI j)), (2, .int 1)], [.int 1, .int 1], M1)) rfl rfl rfl ?_
            refine ps_if2 (S1 := (129, [(0, .ref m0), (1, .int (nI j)), (2, .int 1)], [], M1)) (S2 := (120, [(0, .ref m0), (1, .int (nI j)), (2, .int 1)], [], M1)) rfl rfl rfl (fun c_117 => ?_) (fun c_117 => ?_)
            · exact absurd (of_decide_eq_true c_117) (by decide)
            refine ps_st (S' := (121, [(0, .ref m0), (1, .int (nI j)), (2, .int 1)], [.ref m0], M1)) rfl rfl rfl ?_
            refine ps_st (S' := (122, [(0, .ref m0), (1, .int (nI j)), (2, .int 1)], [.int (nI j), .ref m0], M1)) rfl rfl rfl ?_
            refine ps_st (S' := (123, [(0, .ref m0), (1, .int (nI j)), (2, .int 1)], [.int 1, .int (nI j), .ref m0], M1)) rfl rfl rfl ?_
            refine pl_call (a := [.ref m0, .int (nI j), .int 1]) (rest := []) rfl rfl rfl (rd_idx1 (n := n) (f := f) (tx := tx) (cN := cN) (A := A) (N := N) (mj := mj) (E := E) (k := j) hR3 hi7 hi8 hi9 hF_10 hY_11 hP_12 (hEP) (hN) (hmj) (by omega)) (fun v26 M27 q28 => ?_)
            obtain ⟨rfl, rfl⟩ := q28
            show pl _ _ _ (126, [(0, .ref m0), (1, .int (nI j)), (2, .int 1)], [.int (nI (fi f E j))], M1) _
            have hix_123 := fi_lt f E j
            refine ps_st (S' := (130, [], [.int (nI (fi f E j))], M1)) rfl rfl rfl ?_
            exact ps_reti rfl (⟨I2, R, rfl, hR3, hEI13, hER, hi4⟩)
          · have c_106 : ¬ ((nI (tg f E j)) = 19) := of_decide_eq_false c_106
            have n_106 : ¬ (tg f E j = 19) := fun h9 => c_106 ((eq_nI (p := tg f E j) (n := 19) (Nat.lt_trans (tg_lt _ _ _) (by decide)) (by decide)).mpr h9)
            refine ps_st (S' := (110, [(3, .int (nI (tg f E j))), (0, .ref m0), (1, .int (nI j)), (2, .int 1)], [.int (nI (tg f E j))], M1)) rfl rfl rfl ?_
            refine ps_st (S' := (112, [(3, .int (nI (tg f E j))), (0, .ref m0), (1, .int (nI j)), (2, .int 1)], [.int 20, .int (nI (tg f E j))], M1)) rfl rfl rfl ?_
            refine ps_if2 (S1 := (131, [(3, .int (nI (tg f E j))), (0, .ref m0), (1, .int (nI j)), (2, .int 1)], [], M1)) (S2 := (115, [(0, .ref m0), (1, .int (nI j)), (2, .int 1)], [], M1)) rfl rfl rfl (fun c_112 => ?_) (fun c_112 => ?_)
            · have c_112 : ¬ (nI (tg f E j)) = 20 := of_decide_eq_true c_112
              have n_112 : ¬ (tg f E j = 20) := fun h9 => c_112 ((eq_nI (p := tg f E j) (n := 20) (Nat.lt_trans (tg_lt _ _ _) (by decide)) (by decide)).mpr h9)
              refine ps_st (S' := (132, [(3, .int (nI (tg f E j))), (0, .ref m0), (1, .int (nI j)), (2, .int 1)], [.int (nI (tg f E j))], M1)) rfl rfl rfl ?_
              refine ps_st (S' := (134, [(3, .int (nI (tg f E j))), (0, .ref m0), (1, .int (nI j)), (2, .int 1)], [.int 9, .int (nI (tg f E j))], M1)) rfl rfl rfl ?_
              refine ps_if2 (S1 := (143, [(0, .ref m0), (1, .int (nI j)), (2, .int 1), (3, .int (nI (tg f E j)))], [], M1)) (S2 := (137, [(3, .int (nI (tg f E j))), (0, .ref m0), (1, .int (nI j)), (2, .int 1)], [], M1)) rfl rfl rfl (fun c_134 => ?_) (fun c_134 => ?_)
              · have c_134 : (nI (tg f E j)) < 9 := of_decide_eq_true c_134
                have n_134 : tg f E j < 9 := (lt_nI (p := tg f E j) (n := 9) (Nat.lt_trans (tg_lt _ _ _) (by decide)) (by decide)).mp c_134
                refine ps_st (S' := (144, [(0, .ref m0), (1, .int (nI j)), (2, .int 1), (3, .int (nI (tg f E j)))], [.int (nI (tg f E j))], M1)) rfl rfl rfl ?_
                refine ps_st (S' := (146, [(0, .ref m0), (1, .int (nI j)), (2, .int 1), (3, .int (nI (tg f E j)))], [.int 17, .int (nI (tg f E j))], M1)) rfl rfl rfl ?_
                refine ps_if2 (S1 := (155, [(0, .ref m0), (1, .int (nI j)), (2, .int 1)], [], M1)) (S2 := (149, [(0, .ref m0), (1, .int (nI j)), (2, .int 1), (3, .int (nI (tg f E j)))], [], M1)) rfl rfl rfl (fun c_146 => ?_) (fun c_146 => ?_)
                · exact absurd (of_decide_eq_true c_146) (show ¬ ((nI (tg f E j)) = 17) from fun h9 => absurd ((eq_nI (p := tg f E j) (n := 17) (Nat.lt_trans (tg_lt _ _ _) (by decide)) (by decide)).mp h9) (by omega))
                refine ps_st (S' := (150, [(0, .ref m0), (1, .int (nI j)), (2, .int 1), (3, .int (nI (tg f E j)))], [.int (nI (tg f E j))], M1)) rfl rfl rfl ?_
                refine ps_st (S' := (152, [(0, .ref m0), (1, .int (nI j)), (2, .int 1), (3, .int (nI (tg f E j)))], [.int 18, .int (nI (tg f E j))], M1)) rfl rfl rfl ?_
                refine ps_if2 (S1 := (171, [(0, .ref m0), (1, .int (nI j)), (2, .int 1), (3, .int (nI (tg f E j)))], [], M1)) (S2 := (155, [(0, .ref m0), (1, .int (nI j)), (2, .int 1)], [], M1)) rfl rfl rfl (fun c_152 => ?_) (fun c_152 => ?_)
                rotate_left
                · exact absurd (show ¬ ((nI (tg f E j)) = 18) from fun h9 => absurd ((eq_nI (p := tg f E j) (n := 18) (Nat.lt_trans (tg_lt _ _ _) (by decide)) (by decide)).mp h9) (by omega)) (of_decide_eq_false c_152)
                refine ps_st (S' := (172, [(0, .ref m0), (1, .int (nI j)), (2, .int 1), (3, .int (nI (tg f E j)))], [.int 0], M1)) rfl rfl rfl ?_
                exact ps_ret rfl rfl (⟨I2, R, by rw [(ix_7 (by omega)).1]; rfl, hR3, hEI13, hER, hi4⟩)
              · have c_134 : ¬ ((nI (tg f E j)) < 9) := of_decide_eq_false c_134
                have n_134 : ¬ (tg f E j < 9) := fun h9 => c_134 ((lt_nI (p := tg f E j) (n := 9) (Nat.lt_trans (tg_lt _ _ _) (by decide)) (by decide)).mpr h9)
                refine ps_st (S' := (138, [(3, .int (nI (tg f E j))), (0, .ref m0), (1, .int (nI j)), (2, .int 1)], [.int (nI (tg f E j))], M1)) rfl rfl rfl ?_
                refine ps_st (S' := (140, [(3, .int (nI (tg f E j))), (0, .ref m0), (1, .int (nI j)), (2, .int 1)], [.int 12, .int (nI (tg f E j))], M1)) rfl rfl rfl ?_
                refine ps_if2 (S1 := (155, [(0, .ref m0), (1, .int (nI j)), (2, .int 1)], [], M1)) (S2 := (143, [(0, .ref m0), (1, .int (nI j)), (2, .int 1), (3, .int (nI (tg f E j)))], [], M1)) rfl rfl rfl (fun c_140 => ?_) (fun c_140 => ?_)
                · have c_140 : (nI (tg f E j)) ≤ 12 := of_decide_eq_true c_140
                  have n_140 : tg f E j ≤ 12 := (le_nI (p := tg f E j) (n := 12) (Nat.lt_trans (tg_lt _ _ _) (by decide)) (by decide)).mp c_140
                  refine ps_st (S' := (156, [(0, .ref m0), (1, .int (nI j)), (2, .int 1)], [.ref m0], M1)) rfl rfl rfl ?_
                  refine ps_st (S' := (157, [(0, .ref m0), (1, .int (nI j)), (2, .int 1)], [.int (nI j), .ref m0], M1)) rfl rfl rfl ?_
                  refine ps_st (S' := (158, [(0, .ref m0), (1, .int (nI j)), (2, .int 1)], [.int 1, .int (nI j), .ref m0], M1)) rfl rfl rfl ?_
                  refine ps_st (S' := (159, [(0, .ref m0), (1, .int (nI j)), (2, .int 1)], [.int 1, .int 1, .int (nI j), .ref m0], M1)) rfl rfl rfl ?_
                  refine ps_if2 (S1 := (166, [(0, .ref m0), (1, .int (nI j)), (2, .int 1)], [.int (nI j), .ref m0], M1)) (S2 := (162, [(0, .ref m0), (1, .int (nI j)), (2, .int 1)], [.int (nI j), .ref m0], M1)) rfl rfl rfl (fun c_159 => ?_) (fun c_159 => ?_)
                  · exact absurd (of_decide_eq_true c_159) (by decide)
                  refine ps_st (S' := (163, [(0, .ref m0), (1, .int (nI j)), (2, .int 1)], [.int 1, .int (nI j), .ref m0], M1)) rfl rfl rfl ?_
                  refine ps_st (S' := (167, [], [.int 1, .int (nI j), .ref m0], M1)) rfl rfl rfl ?_
                  refine pl_call (a := [.ref m0, .int (nI j), .int 1]) (rest := []) rfl rfl rfl (rd_idx1 (n := n) (f := f) (tx := tx) (cN := cN) (A := A) (N := N) (mj := mj) (E := E) (k := j) hR3 hi7 hi8 hi9 hF_10 hY_11 hP_12 (hEP) (hN) (hmj) (by omega)) (fun v29 M30 q31 => ?_)
                  obtain ⟨rfl, rfl⟩ := q31
                  show pl _ _ _ (170, [], [.int (nI (fi f E j))], M1) _
                  have hix_167 := fi_lt f E j
                  exact ps_reti rfl (⟨I2, R, rfl, hR3, hEI13, hER, hi4⟩)
                · have c_140 : ¬ ((nI (tg f E j)) ≤ 12) := of_decide_eq_false c_140
                  have n_140 : ¬ (tg f E j ≤ 12) := fun h9 => c_140 ((le_nI (p := tg f E j) (n := 12) (Nat.lt_trans (tg_lt _ _ _) (by decide)) (by decide)).mpr h9)
                  refine ps_st (S' := (144, [(0, .ref m0), (1, .int (nI j)), (2, .int 1), (3, .int (nI (tg f E j)))], [.int (nI (tg f E j))], M1)) rfl rfl rfl ?_
                  refine ps_st (S' := (146, [(0, .ref m0), (1, .int (nI j)), (2, .int 1), (3, .int (nI (tg f E j)))], [.int 17, .int (nI (tg f E j))], M1)) rfl rfl rfl ?_
                  refine ps_if2 (S1 := (155, [(0, .ref m0), (1, .int (nI j)), (2, .int 1)], [], M1)) (S2 := (149, [(0, .ref m0), (1, .int (nI j)), (2, .int 1), (3, .int (nI (tg f E j)))], [], M1)) rfl rfl rfl (fun c_146 => ?_) (fun c_146 => ?_)
                  · have c_146 : (nI (tg f E j)) = 17 := of_decide_eq_true c_146
                    have n_146 : tg f E j = 17 := (eq_nI (p := tg f E j) (n := 17) (Nat.lt_trans (tg_lt _ _ _) (by decide)) (by decide)).mp c_146
                    refine ps_st (S' := (156, [(0, .ref m0), (1, .int (nI j)), (2, .int 1)], [.ref m0], M1)) rfl rfl rfl ?_
                    refine ps_st (S' := (157, [(0, .ref m0), (1, .int (nI j)), (2, .int 1)], [.int (nI j), .ref m0], M1)) rfl rfl rfl ?_
                    refine ps_st (S' := (158, [(0, .ref m0), (1, .int (nI j)), (2, .int 1)], [.int 1, .int (nI j), .ref m0], M1)) rfl rfl rfl ?_
                    refine ps_st (S' := (159, [(0, .ref m0), (1, .int (nI j)), (2, .int 1)], [.int 1, .int 1, .int (nI j), .ref m0], M1)) rfl rfl rfl ?_
                    refine ps_if2 (S1 := (166, [(0, .ref m0), (1, .int (nI j)), (2, .int 1)], [.int (nI j), .ref m0], M1)) (S2 := (162, [(0, .ref m0), (1, .int (nI j)), (2, .int 1)], [.int (nI j), .ref m0], M1)) rfl rfl rfl (fun c_159 => ?_) (fun c_159 => ?_)
                    · exact absurd (of_decide_eq_true c_159) (by decide)
                    refine ps_st (S' := (163, [(0, .ref m0), (1, .int (nI j)), (2, .int 1)], [.int 1, .int (nI j), .ref m0], M1)) rfl rfl rfl ?_
                    refine ps_st (S' := (167, [], [.int 1, .int (nI j), .ref m0], M1)) rfl rfl rfl ?_
                    refine pl_call (a := [.ref m0, .int (nI j), .int 1]) (rest := []) rfl rfl rfl (rd_idx1 (n := n) (f := f) (tx := tx) (cN := cN) (A := A) (N := N) (mj := mj) (E := E) (k := j) hR3 hi7 hi8 hi9 hF_10 hY_11 hP_12 (hEP) (hN) (hmj) (by omega)) (fun v32 M33 q34 => ?_)
                    obtain ⟨rfl, rfl⟩ := q34
                    show pl _ _ _ (170, [], [.int (nI (fi f E j))], M1) _
                    have hix_167 := fi_lt f E j
                    exact ps_reti rfl (⟨I2, R, rfl, hR3, hEI13, hER, hi4⟩)
                  · have c_146 : ¬ ((nI (tg f E j)) = 17) := of_decide_eq_false c_146
                    have n_146 : ¬ (tg f E j = 17) := fun h9 => c_146 ((eq_nI (p := tg f E j) (n := 17) (Nat.lt_trans (tg_lt _ _ _) (by decide)) (by decide)).mpr h9)
                    refine ps_st (S' := (150, [(0, .ref m0), (1, .int (nI j)), (2, .int 1), (3, .int (nI (tg f E j)))], [.int (nI (tg f E j))], M1)) rfl rfl rfl ?_
                    refine ps_st (S' := (152, [(0, .ref m0), (1, .int (nI j)), (2, .int 1), (3, .int (nI (tg f E j)))], [.int 18, .int (nI (tg f E j))], M1)) rfl rfl rfl ?_
                    refine ps_if2 (S1 := (171, [(0, .ref m0), (1, .int (nI j)), (2, .int 1), (3, .int (nI (tg f E j)))], [], M1)) (S2 := (155, [(0, .ref m0), (1, .int (nI j)), (2, .int 1)], [], M1)) rfl rfl rfl (fun c_152 => ?_) (fun c_152 => ?_)
                    · have c_152 : ¬ (nI (tg f E j)) = 18 := of_decide_eq_true c_152
                      have n_152 : ¬ (tg f E j = 18) := fun h9 => c_152 ((eq_nI (p := tg f E j) (n := 18) (Nat.lt_trans (tg_lt _ _ _) (by decide)) (by decide)).mpr h9)
                      refine ps_st (S' := (172, [(0, .ref m0), (1, .int (nI j)), (2, .int 1), (3, .int (nI (tg f E j)))], [.int 0], M1)) rfl rfl rfl ?_
                      exact ps_ret rfl rfl (⟨I2, R, by rw [(ix_7 (by omega)).1]; rfl, hR3, hEI13, hER, hi4⟩)
                    · have c_152 : ¬ (¬ (nI (tg f E j)) = 18) := of_decide_eq_false c_152
                      have n_152 : tg f E j = 18 := (eq_nI (p := tg f E j) (n := 18) (Nat.lt_trans (tg_lt _ _ _) (by decide)) (by decide)).mp (Decidable.not_not.mp c_152)
                      refine ps_st (S' := (156, [(0, .ref m0), (1, .int (nI j)), (2, .int 1)], [.ref m0], M1)) rfl rfl rfl ?_
                      refine ps_st (S' := (157, [(0, .ref m0), (1, .int (nI j)), (2, .int 1)], [.int (nI j), .ref m0], M1)) rfl rfl rfl ?_
                      refine ps_st (S' := (158, [(0, .ref m0), (1, .int (nI j)), (2, .int 1)], [.int 1, .int (nI j), .ref m0], M1)) rfl rfl rfl ?_
                      refine ps_st (S' := (159, [(0, .ref m0), (1, .int (nI j)), (2, .int 1)], [.int 1, .int 1, .int (nI j), .ref m0], M1)) rfl rfl rfl ?_
                      refine ps_if2 (S1 := (166, [(0, .ref m0), (1, .int (nI j)), (2, .int 1)], [.int (nI j), .ref m0], M1)) (S2 := (162, [(0, .ref m0), (1, .int (nI j)), (2, .int 1)], [.int (nI j), .ref m0], M1)) rfl rfl rfl (fun c_159 => ?_) (fun c_159 => ?_)
                      · exact absurd (of_decide_eq_true c_159) (by decide)
                      refine ps_st (S' := (163, [(0, .ref m0), (1, .int (nI j)), (2, .int 1)], [.int 1, .int (nI j), .ref m0], M1)) rfl rfl rfl ?_
                      refine ps_st (S' := (167, [], [.int 1, .int (nI j), .ref m0], M1)) rfl rfl rfl ?_
                      refine pl_call (a := [.ref m0, .int (nI j), .int 1]) (rest := []) rfl rfl rfl (rd_idx1 (n := n) (f := f) (tx := tx) (cN := cN) (A := A) (N := N) (mj := mj) (E := E) (k := j) hR3 hi7 hi8 hi9 hF_10 hY_11 hP_12 (hEP) (hN) (hmj) (by omega)) (fun v35 M36 q37 => ?_)
                      obtain ⟨rfl, rfl⟩ := q37
                      show pl _ _ _ (170, [], [.int (nI (fi f E j))], M1) _
                      have hix_167 := fi_lt f E j
                      exact ps_reti rfl (⟨I2, R, rfl, hR3, hEI13, hER, hi4⟩)
            · have c_112 : ¬ (¬ (nI (tg f E j)) = 20) := of_decide_eq_false c_112
              have n_112 : tg f E j = 20 := (eq_nI (p := tg f E j) (n := 20) (Nat.lt_trans (tg_lt _ _ _) (by decide)) (by decide)).mp (Decidable.not_not.mp c_112)
              refine ps_st (S' := (116, [(0, .ref m0), (1, .int (nI j)), (2, .int 1)], [.int 1], M1)) rfl rfl rfl ?_
              refine ps_st (S' := (117, [(0, .ref m0), (1, .int (nI j)), (2, .int 1)], [.int 1, .int 1], M1)) rfl rfl rfl ?_
              refine ps_if2 (S1 := (129, [(0, .ref m0), (1, .int (nI j)), (2, .int 1)], [], M1)) (S2 := (120, [(0, .ref m0), (1, .int (nI j)), (2, .int 1)], [], M1)) rfl rfl rfl (fun c_117 => ?_) (fun c_117 => ?_)
              · exact absurd (of_decide_eq_true c_117) (by decide)
              refine ps_st (S' := (121, [(0, .ref m0), (1, .int (nI j)), (2, .int 1)], [.ref m0], M1)) rfl rfl rfl ?_
              refine ps_st (S' := (122, [(0, .ref m0), (1, .int (nI j)), (2, .int 1)], [.int (nI j), .ref m0], M1)) rfl rfl rfl ?_
              refine ps_st (S' := (123, [(0, .ref m0), (1, .int (nI j)), (2, .int 1)], [.int 1, .int (nI j), .ref m0], M1)) rfl rfl rfl ?_
              refine pl_call (a := [.ref m0, .int (nI j), .int 1]) (rest := []) rfl rfl rfl (rd_idx1 (n := n) (f := f) (tx := tx) (cN := cN) (A := A) (N := N) (mj := mj) (E := E) (k := j) hR3 hi7 hi8 hi9 hF_10 hY_11 hP_12 (hEP) (hN) (hmj) (by omega)) (fun v38 M39 q40 => ?_)
              obtain ⟨rfl, rfl⟩ := q40
              show pl _ _ _ (126, [(0, .ref m0), (1, .int (nI j)), (2, .int 1)], [.int (nI (fi f E j))], M1) _
              have hix_123 := fi_lt f E j
              refine ps_st (S' := (130, [], [.int (nI (fi f E j))], M1)) rfl rfl rfl ?_
              exact ps_reti rfl (⟨I2, R, rfl, hR3, hEI13, hER, hi4⟩)
  · have c_55 : ¬ (¬ (nI (tg f E j)) = 15) := of_decide_eq_false c_55
    have n_55 : tg f E j = 15 := (eq_nI (p := tg f E j) (n := 15) (Nat.lt_trans (tg_lt _ _ _) (by decide)) (by decide)).mp (Decidable.not_not.mp c_55)
    refine ps_st (S' := (59, [(3, .int (nI (tg f E j))), (0, .ref m0), (1, .int (nI j)), (2, .int 1)], [.int 1], M1)) rfl rfl rfl ?_
    refine ps_st (S' := (60, [(3, .int (nI (tg f E j))), (0, .ref m0), (1, .int (nI j)), (2, .int 1)], [.int 1, .int 1], M1)) rfl rfl rfl ?_
    refine ps_if2 (S1 := (78, [(3, .int (nI (tg f E j))), (0, .ref m0), (1, .int (nI j)), (2, .int 1)], [], M1)) (S2 := (63, [(3, .int (nI (tg f E j))), (0, .ref m0), (1, .int (nI j)), (2, .int 1)], [], M1)) rfl rfl rfl (fun c_60 => ?_) (fun c_60 => ?_)
    · exact absurd (of_decide_eq_true c_60) (by decide)
    obtain ⟨p, hk9, hb9⟩ := tg_lk (f := f) (E := E) (k := j) (by omega)
    have ha9 := hP_12.at hk9
    have hep9 := hEP j p hk9
    refine ps_st (S' := (64, [(3, .int (nI (tg f E j))), (0, .ref m0), (1, .int (nI j)), (2, .int 1)], [.ref m0], M1)) rfl rfl rfl ?_
    refine ps_st (S' := (65, [(3, .int (nI (tg f E j))), (0, .ref m0), (1, .int (nI j)), (2, .int 1)], [.ref m0, .ref m0], M1)) rfl rfl rfl ?_
    refine pr_ref (j := 21) (S' := (68, [(3, .int (nI (tg f E j))), (0, .ref m0), (1, .int (nI j)), (2, .int 1)], [.ref (q 21), .ref m0], M1)) rfl hR3 rfl rfl ?_
    refine ps_st (S' := (69, [(3, .int (nI (tg f E j))), (0, .ref m0), (1, .int (nI j)), (2, .int 1)], [.int (nI j), .ref (q 21), .ref m0], M1)) rfl rfl rfl ?_
    refine pr_ld (a := 21) (j := j) (y := (nI p)) (S' := (70, [(3, .int (nI (tg f E j))), (0, .ref m0), (1, .int (nI j)), (2, .int 1)], [.int (nI p), .ref m0], M1)) rfl hR3 rfl (by omega) (fun _ => ha9.2.2) rfl (fun i1_69 => ?_)
    refine ps_st (S' := (71, [(3, .int (nI (tg f E j))), (0, .ref m0), (1, .int (nI j)), (2, .int 1)], [.int 1, .int (nI p), .ref m0], M1)) rfl rfl rfl ?_
    refine ps_st (S' := (72, [(3, .int (nI (tg f E j))), (0, .ref m0), (1, .int (nI j)), (2, .int 1)], [.int ((nI p) + 1), .ref m0], M1)) rfl rfl rfl ?_
    rw [nI_add1 (p := p) (k := 1) (x := 1) rfl (by omega)]
    show pl _ _ _ (_, [(3, .int (nI (tg f E j))), (0, .ref m0), (1, .int (nI j)), (2, .int 1)], [.int (nI (p + 1)), .ref m0], M1) _
    refine pl_call (a := [.ref m0, .int (nI (p + 1))]) (rest := []) rfl rfl rfl (rd_u1 (n := n) (f := f) (p := (p + 1)) hR3 hF_10 (by omega)) (fun v41 M42 q43 => ?_)
    obtain ⟨rfl, rfl⟩ := q43
    show pl _ _ _ (75, [(3, .int (nI (tg f E j))), (0, .ref m0), (1, .int (nI j)), (2, .int 1)], [.int (nI (by1 f (p + 1)))], M1) _
    have hu_72 := by1_lt f (p + 1)
    refine ps_st (S' := (84, [], [.int (nI (by1 f (p + 1)))], M1)) rfl rfl rfl ?_
    exact ps_reti rfl (⟨I2, R, by rw [fi_15 hk9 (by omega)], hR3, hEI13, hER, hi4⟩)
set_option maxHeartbeats 1000000 in
theorem rd_entry_2 {g : xe_G} {m0 : Nat} {q : Nat → Nat} {z : Nat × Nat} {I : rI} {R : rR} {M : mi_H} {n : Nat} {f : Nat → Int32} {tx : List (List Nat)} {cN : Nat} {A : Nat → Nat} {N mj : Nat} {E : List (Nat × Nat)} {j n2 p1 : Nat} (hR : RS g m0 q z I R M) (hi18 : I 18 = some (nI n2)) (hi51 : I 51 = some 0) (hi52 : I 52 = some (nI N)) (hi53 : I 53 = some (nI mj)) (hF : FK n f I R) (hY : SYT tx cN A I R) (hP : RPV f n E tx N I R) (hEP : EP f n E) (hN : N < 65536) (hmj : mj < 65536) (hn2 : n2 ≤ 65540) (hj : j < N) (hpl : s_pool f n mj = .inr (p1, E)) : pt (mT g) 204 [.ref m0, .int (nI j), .int 2] M (fun v M' => (∃  (I' : rI) (R' : rR), v = some (.int (nI (se f E j))) ∧ RS g m0 q z I' R' M' ∧ eqI [0] I I' ∧ eqR [] R R' ∧ I' 0 = some 0)) := by
  refine pt_in (b := mb_204 g) rfl (fun kf => ?_)
  show pl (mT g) kf (mb_204 g).2 (0, [(0, .ref m0), (1, .int (nI j)), (2, .int 2)], [], M) _
  have hEI : eqI [0] I I := eqI.rf
  have hER : eqR [] R R := eqR.rf
  have hn := hF.1
  have hto := tg_ok (k := j) hpl
  unfold tgOk at hto
  have htl9 := tg_lt f E j
  refine ps_st (S' := (1, [(0, .ref m0), (1, .int (nI j)), (2, .int 2)], [.ref m0], M)) rfl rfl rfl ?_
  refine ps_st (S' := (2, [(0, .ref m0), (1, .int (nI j)), (2, .int 2)], [.int 0, .ref m0], M)) rfl rfl rfl ?_
  refine pr_put (j := 0) rfl hR rfl (fun M1 I2 hR3 hi4 hI5 => ?_)
  have hi6 := (hI5 18 (by decide)).trans hi18
  have hi7 := (hI5 51 (by decide)).trans hi51
  have hi8 := (hI5 52 (by decide)).trans hi52
  have hi9 := (hI5 53 (by decide)).trans hi53
  have hF_10 := hF.mono (pIx hI5 (by decide)) (fun _ _ => rfl)
  have hY_11 := hY.mono (pIx hI5 (by decide)) (fun _ _ => rfl)
  have hP_12 := hP.mono (pIx hI5 (by decide)) (fun _ _ => rfl)
  have hEI13 := hEI.put hI5 (by decide)
  show pl _ _ _ (5, [(0, .ref m0), (1, .int (nI j)), (2, .int 2)], [], M1) _
  refine ps_st (S' := (6, [(0, .ref m0), (1, .int (nI j)), (2, .int 2)], [.int 2], M1)) rfl rfl rfl ?_
  refine ps_if (S1 := (14, [(0, .ref m0)], [], M1)) (S2 := (9, [(0, .ref m0), (1, .int (nI j)), (2, .int 2)], [], M1)) rfl rfl rfl (fun c_6 => ?_) (fun c_6 => ?_)
  · exact absurd (of_decide_eq_true c_6) (by decide)
  refine ps_st (S' := (10, [(0, .ref m0), (1, .int (nI j)), (2, .int 2)], [.int 2], M1)) rfl rfl rfl ?_
  refine ps_st (S' := (11, [(0, .ref m0), (1, .int (nI j)), (2, .int 2)], [.int 2, .int 2], M1)) rfl rfl rfl ?_
  refine ps_if2 (S1 := (19, [(0, .ref m0), (1, .int (nI j)), (2, .int 2)], [], M1)) (S2 := (14, [(0, .ref m0)], [], M1)) rfl rfl rfl (fun c_11 => ?_) (fun c_11 => ?_)
  rotate_left
  · exact absurd (by decide) (of_decide_eq_false c_11)
  refine ps_st (S' := (20, [(0, .ref m0), (1, .int (nI j)), (2, .int 2)], [.ref m0], M1)) rfl rfl rfl ?_
  refine pr_int (j := 18) (S' := (23, [(0, .ref m0), (1, .int (nI j)), (2, .int 2)], [.int (nI n2)], M1)) rfl hR3 rfl hi6 rfl ?_
  refine ps_if (S1 := (38, [], [], M1)) (S2 := (26, [(0, .ref m0), (1, .int (nI j)), (2, .int 2)], [], M1)) rfl rfl rfl (fun c_23 => ?_) (fun c_23 => ?_)
  · exact absurd (of_decide_eq_true c_23) (show ¬ ((nI n2) < 0) from fun h9 => absurd ((lt_nI (p := n2) (n := 0) (by omega) (by decide)).mp h9) (by omega))
  refine ps_st (S' := (27, [(0, .ref m0), (1, .int (nI j)), (2, .int 2)], [.int (nI j)], M1)) rfl rfl rfl ?_
  refine ps_if (S1 := (38, [], [], M1)) (S2 := (30, [(0, .ref m0), (1, .int (nI j)), (2, .int 2)], [], M1)) rfl rfl rfl (fun c_27 => ?_) (fun c_27 => ?_)
  · exact absurd (of_decide_eq_true c_27) (show ¬ ((nI j) < 0) from fun h9 => absurd ((lt_nI (p := j) (n := 0) (by omega) (by decide)).mp h9) (by omega))
  refine ps_st (S' := (31, [(0, .ref m0), (1, .int (nI j)), (2, .int 2)], [.int (nI j)], M1)) rfl rfl rfl ?_
  refine ps_st (S' := (32, [(0, .ref m0), (1, .int (nI j)), (2, .int 2)], [.ref m0, .int (nI j)], M1)) rfl rfl rfl ?_
  refine pr_int (j := 52) (S' := (35, [(0, .ref m0), (1, .int (nI j)), (2, .int 2)], [.int (nI N), .int (nI j)], M1)) rfl hR3 rfl hi8 rfl ?_
  refine ps_if2 (S1 := (40, [(0, .ref m0), (1, .int (nI j)), (2, .int 2)], [], M1)) (S2 := (38, [], [], M1)) rfl rfl rfl (fun c_35 => ?_) (fun c_35 => ?_)
  rotate_left
  · exact absurd ((lt_nI (by omega) (by omega)).mpr hj) (of_decide_eq_false c_35)
  refine ps_st (S' := (41, [(0, .ref m0), (1, .int (nI j)), (2, .int 2)], [.ref m0], M1)) rfl rfl rfl ?_
  refine ps_st (S' := (42, [(0, .ref m0), (1, .int (nI j)), (2, .int 2)], [.int (nI j), .ref m0], M1)) rfl rfl rfl ?_
  refine pl_call (a := [.ref m0, .int (nI j)]) (rest := []) rfl rfl rfl (rd_tag (n := n) (f := f) (tx := tx) (cN := cN) (A := A) (N := N) (mj := mj) (E := E) (k := j) hR3 hi7 hi8 hi9 hF_10 hY_11 hP_12 (hEP) (hN) (hmj) (by omega)) (fun v14 M15 q16 => ?_)
  obtain ⟨rfl, rfl⟩ := q16
  show pl _ _ _ (45, [(0, .ref m0), (1, .int (nI j)), (2, .int 2)], [.int (nI (tg f E j))], M1) _
  have htg_42 := tg_lt f E j
  refine ps_st (S' := (46, [(3, .int (nI (tg f E j))), (0, .ref m0), (1, .int (nI j)), (2, .int 2)], [], M1)) rfl rfl rfl ?_
  refine ps_st (S' := (47, [(3, .int (nI (tg f E j))), (0, .ref m0), (1, .int (nI j)), (2, .int 2)], [.int 2], M1)) rfl rfl rfl ?_
  refine ps_if (S1 := (52, [(3, .int (nI (tg f E j))), (0, .ref m0), (1, .int (nI j)), (2, .int 2)], [], M1)) (S2 := (50, [(3, .int (nI (tg f E j))), (0, .ref m0), (1, .int (nI j)), (2, .int 2)], [], M1)) rfl rfl rfl (fun c_47 => ?_) (fun c_47 => ?_)
  rotate_left
  · exact absurd (by decide) (of_decide_eq_false c_47)
  refine ps_st (S' := (53, [(3, .int (nI (tg f E j))), (0, .ref m0), (1, .int (nI j)), (2, .int 2)], [.int (nI (tg f E j))], M1)) rfl rfl rfl ?_
  refine ps_st (S' := (55, [(3, .int (nI (tg f E j))), (0, .ref m0), (1, .int (nI j)), (2, .int 2)], [.int 15, .int (nI (tg f E j))], M1)) rfl rfl rfl ?_
  refine ps_if2 (S1 := (85, [(3, .int (nI (tg f E j))), (0, .ref m0), (1, .int (nI j)), (2, .int 2)], [], M1)) (S2 := (58, [(3, .int (nI (tg f E j))), (0, .ref m0), (1, .int (nI j)), (2, .int 2)], [], M1)) rfl rfl rfl (fun c_55 => ?_) (fun c_55 => ?_)
  · have c_55 : ¬ (nI (tg f E j)) = 15 := of_decide_eq_true c_55
    have n_55 : ¬ (tg f E j = 15) := fun h9 => c_55 ((eq_nI (p := tg f E j) (n := 15) (Nat.lt_trans (tg_lt _ _ _) (by decide)) (by decide)).mpr h9)
    refine ps_st (S' := (86, [(3, .int (nI (tg f E j))), (0, .ref m0), (1, .int (nI j)), (2, .int 2)], [.int (nI (tg f E j))], M1)) rfl rfl rfl ?_
    refine ps_st (S' := (88, [(3, .int (nI (tg f E j))), (0, .ref m0), (1, .int (nI j)), (2, .int 2)], [.int 7, .int (nI (tg f E j))], M1)) rfl rfl rfl ?_
    refine ps_if2 (S1 := (115, [(0, .ref m0), (1, .int (nI j)), (2, .int 2)], [], M1)) (S2 := (91, [(3, .int (nI (tg f E j))), (0, .ref m0), (1, .int (nI j)), (2, .int 2)], [], M1)) rfl rfl rfl (fun c_88 => ?_) (fun c_88 => ?_)
    · have c_88 : (nI (tg f E j)) = 7 := of_decide_eq_true c_88
      have n_88 : tg f E j = 7 := (eq_nI (p := tg f E j) (n := 7) (Nat.lt_trans (tg_lt _ _ _) (by decide)) (by decide)).mp c_88
      refine ps_st (S' := (116, [(0, .ref m0), (1, .int (nI j)), (2, .int 2)], [.int 2], M1)) rfl rfl rfl ?_
      refine ps_st (S' := (117, [(0, .ref m0), (1, .int (nI j)), (2, .int 2)], [.int 1, .int 2], M1)) rfl rfl rfl ?_
      refine ps_if2 (S1 := (129, [(0, .ref m0), (1, .int (nI j)), (2, .int 2)], [], M1)) (S2 := (120, [(0, .ref m0), (1, .int (nI j)), (2, .int 2)], [], M1)) rfl rfl rfl (fun c_117 => ?_) (fun c_117 => ?_)
      rotate_left
      · exact absurd (by decide) (of_decide_eq_false c_117)
      refine ps_st (S' := (130, [], [.int 0], M1)) rfl rfl rfl ?_
      exact ps_ret rfl rfl (⟨I2, R, by rw [show se f E j = 0 from (by first | exact (ix_7 (by omega)).2 | exact se_1 (by omega))]; rfl, hR3, hEI13, hER, hi4⟩)
    · have c_88 : ¬ ((nI (tg f E j)) = 7) := of_decide_eq_false c_88
      have n_88 : ¬ (tg f E j = 7) := fun h9 => c_88 ((eq_nI (p := tg f E j) (n := 7) (Nat.lt_trans (tg_lt _ _ _) (by decide)) (by decide)).mpr h9)
      refine ps_st (S' := (92, [(3, .int (nI (tg f E j))), (0, .ref m0), (1, .int (nI j)), (2, .int 2)], [.int (nI (tg f E j))], M1)) rfl rfl rfl ?_
      refine ps_st (S' := (94, [(3, .int (nI (tg f E j))), (0, .ref m0), (1, .int (nI j)), (2, .int 2)], [.int 8, .int (nI (tg f E j))], M1)) rfl rfl rfl ?_
      refine ps_if2 (S1 := (115, [(0, .ref m0), (1, .int (nI j)), (2, .int 2)], [], M1)) (S2 := (97, [(3, .int (nI (tg f E j))), (0, .ref m0), (1, .int (nI j)), (2, .int 2)], [], M1)) rfl rfl rfl (fun c_94 => ?_) (fun c_94 => ?_)
      · have c_94 : (nI (tg f E j)) = 8 := of_decide_eq_true c_94
        have n_94 : tg f E j = 8 := (eq_nI (p := tg f E j) (n := 8) (Nat.lt_trans (tg_lt _ _ _) (by decide)) (by decide)).mp c_94
        refine ps_st (S' := (116, [(0, .ref m0), (1, .int (nI j)), (2, .int 2)], [.int 2], M1)) rfl rfl rfl ?_
        refine ps_st (S' := (117, [(0, .ref m0), (1, .int (nI j)), (2, .int 2)], [.int 1, .int 2], M1)) rfl rfl rfl ?_
        refine ps_if2 (S1 := (129, [(0, .ref m0), (1, .int (nI j)), (2, .int 2)], [], M1)) (S2 := (120, [(0, .ref m0), (1, .int (nI j)), (2, .int 2)], [], M1)) rfl rfl rfl (fun c_117 => ?_) (fun c_117 => ?_)
        rotate_left
        · exact absurd (by decide) (of_decide_eq_false c_117)
        refine ps_st (S' := (130, [], [.int 0], M1)) rfl rfl rfl ?_
        exact ps_ret rfl rfl (⟨I2, R, by rw [show se f E j = 0 from (by first | exact (ix_7 (by omega)).2 | exact se_1 (by omega))]; rfl, hR3, hEI13, hER, hi4⟩)
      · have c_94 : ¬ ((nI (tg f E j)) = 8) := of_decide_eq_false c_94
        have n_94 : ¬ (tg f E j = 8) := fun h9 => c_94 ((eq_nI (p := tg f E j) (n := 8) (Nat.lt_trans (tg_lt _ _ _) (by decide)) (by decide)).mpr h9)
        refine ps_st (S' := (98, [(3, .int (nI (tg f E j))), (0, .ref m0), (1, .int (nI j)), (2, .int 2)], [.int (nI (tg f E j))], M1)) rfl rfl rfl ?_
        refine ps_st (S' := (100, [(3, .int (nI (tg f E j))), (0, .ref m0), (1, .int (nI j)), (2, .int 2)], [.int 16, .int (nI (tg f E j))], M1)) rfl rfl rfl ?_
        refine ps_if2 (S1 := (115, [(0, .ref m0), (1, .int (nI j)), (2, .int 2)], [], M1)) (S2 := (103, [(3, .int (nI (tg f E j))), (0, .ref m0), (1, .int (nI j)), (2, .int 2)], [], M1)) rfl rfl rfl (fun c_100 => ?_) (fun c_100 => ?_)
        · have c_100 : (nI (tg f E j)) = 16 := of_decide_eq_true c_100
          have n_100 : tg f E j = 16 := (eq_nI (p := tg f E j) (n := 16) (Nat.lt_trans (tg_lt _ _ _) (by decide)) (by decide)).mp c_100
          refine ps_st (S' := (116, [(0, .ref m0), (1, .int (nI j)), (2, .int 2)], [.int 2], M1)) rfl rfl rfl ?_
          refine ps_st (S' := (117, [(0, .ref m0), (1, .int (nI j)), (2, .int 2)], [.int 1, .int 2], M1)) rfl rfl rfl ?_
          refine ps_if2 (S1 := (129, [(0, .ref m0), (1, .int (nI j)), (2, .int 2)], [], M1)) (S2 := (120, [(0, .ref m0), (1, .int (nI j)), (2, .int 2)], [], M1)) rfl rfl rfl (fun c_117 => ?_) (fun c_117 => ?_)
          rotate_left
          · exact absurd (by decide) (of_decide_eq_false c_117)
          refine ps_st (S' := (130, [], [.int 0], M1)) rfl rfl rfl ?_
          exact ps_ret rfl rfl (⟨I2, R, by rw [show se f E j = 0 from (by first | exact (ix_7 (by omega)).2 | exact se_1 (by omega))]; rfl, hR3, hEI13, hER, hi4⟩)
        · have c_100 : ¬ ((nI (tg f E j)) = 16) := of_decide_eq_false c_100
          have n_100 : ¬ (tg f E j = 16) := fun h9 => c_100 ((eq_nI (p := tg f E j) (n := 16) (Nat.lt_trans (tg_lt _ _ _) (by decide)) (by decide)).mpr h9)
          refine ps_st (S' := (104, [(3, .int (nI (tg f E j))), (0, .ref m0), (1, .int (nI j)), (2, .int 2)], [.int (nI (tg f E j))], M1)) rfl rfl rfl ?_
          refine ps_st (S' := (106, [(3, .int (nI (tg f E j))), (0, .ref m0), (1, .int (nI j)), (2, .int 2)], [.int 19, .int (nI (tg f E j))], M1)) rfl rfl rfl ?_
          refine ps_if2 (S1 := (115, [(0, .ref m0), (1, .int (nI j)), (2, .int 2)], [], M1)) (S2 := (109, [(3, .int (nI (tg f E j))), (0, .ref m0), (1, .int (nI j)), (2, .int 2)], [], M1)) rfl rfl rfl (fun c_106 => ?_) (fun c_106 => ?_)
          · have c_106 : (nI (tg f E j)) = 19 := of_decide_eq_true c_106
            have n_106 : tg f E j = 19 := (eq_nI (p := tg f E j) (n := 19) (Nat.lt_trans (tg_lt _ _ _) (by decide)) (by decide)).mp c_106
            refine ps_st (S' := (116, [(0, .ref m0), (1, .int (nI j)), (2, .int 2)], [.int 2], M1)) rfl rfl rfl ?_
            refine ps_st (S' := (117, [(0, .ref m0), (1, .int (nI j)), (2, .int 2)], [.int 1, .int 2], M1)) rfl rfl rfl ?_
            refine ps_if2 (S1 := (129, [(0, .ref m0), (1, .int (nI j)), (2, .int 2)], [], M1)) (S2 := (120, [(0, .ref m0), (1, .int (nI j)), (2, .int 2)], [], M1)) rfl rfl rfl (fun c_117 => ?_) (fun c_117 => ?_)
            rotate_left
            · exact absurd (by decide) (of_decide_eq_false c_117)
            refine ps_st (S' := (130, [], [.int 0], M1)) rfl rfl rfl ?_
            exact ps_ret rfl rfl (⟨I2, R, by rw [show se f E j = 0 from (by first | exact (ix_7 (by omega)).2 | exact se_1 (by omega))]; rfl, hR3, hEI13, hER, hi4⟩)
          · have c_106 : ¬ ((nI (tg f E j)) = 19) := of_decide_eq_false c_106
            have n_106 : ¬ (tg f E j = 19) := fun h9 => c_106 ((eq_nI (p := tg f E j) (n := 19) (Nat.lt_trans (tg_lt _ _ _) (by decide)) (by decide)).mpr h9)
            refine ps_st (S' := (110, [(3, .int (nI (tg f E j))), (0, .ref m0), (1, .int (nI j)), (2, .int 2)], [.int (nI (tg f E j))], M1)) rfl rfl rfl ?_
            refine ps_st (S' := (112, [(3, .int (nI (tg f E j))), (0, .ref m0), (1, .int (nI j)), (2, .int 2)], [.int 20, .int (nI (tg f E j))], M1)) rfl rfl rfl ?_
            refine ps_if2 (S1 := (131, [(3, .int (nI (tg f E j))), (0, .ref m0), (1, .int (nI j)), (2, .int 2)], [], M1)) (S2 := (115, [(0, .ref m0), (1, .int (nI j)), (2, .int 2)], [], M1)) rfl rfl rfl (fun c_112 => ?_) (fun c_112 => ?_)
            · have c_112 : ¬ (nI (tg f E j)) = 20 := of_decide_eq_true c_112
              have n_112 : ¬ (tg f E j = 20) := fun h9 => c_112 ((eq_nI (p := tg f E j) (n := 20) (Nat.lt_trans (tg_lt _ _ _) (by decide)) (by decide)).mpr h9)
              refine ps_st (S' := (132, [(3, .int (nI (tg f E j))), (0, .ref m0), (1, .int (nI j)), (2, .int 2)], [.int (nI (tg f E j))], M1)) rfl rfl rfl ?_
              refine ps_st (S' := (134, [(3, .int (nI (tg f E j))), (0, .ref m0), (1, .int (nI j)), (2, .int 2)], [.int 9, .int (nI (tg f E j))], M1)) rfl rfl rfl ?_
              refine ps_if2 (S1 := (143, [(0, .ref m0), (1, .int (nI j)), (2, .int 2), (3, .int (nI (tg f E j)))], [], M1)) (S2 := (137, [(3, .int (nI (tg f E j))), (0, .ref m0), (1, .int (nI j)), (2, .int 2)], [], M1)) rfl rfl rfl (fun c_134 => ?_) (fun c_134 => ?_)
              · have c_134 : (nI (tg f E j)) < 9 := of_decide_eq_true c_134
                have n_134 : tg f E j < 9 := (lt_nI (p := tg f E j) (n := 9) (Nat.lt_trans (tg_lt _ _ _) (by decide)) (by decide)).mp c_134
                refine ps_st (S' := (144, [(0, .ref m0), (1, .int (nI j)), (2, .int 2), (3, .int (nI (tg f E j)))], [.int (nI (tg f E j))], M1)) rfl rfl rfl ?_
                refine ps_st (S' := (146, [(0, .ref m0), (1, .int (nI j)), (2, .int 2), (3, .int (nI (tg f E j)))], [.int 17, .int (nI (tg f E j))], M1)) rfl rfl rfl ?_
                refine ps_if2 (S1 := (155, [(0, .ref m0), (1, .int (nI j)), (2, .int 2)], [], M1)) (S2 := (149, [(0, .ref m0), (1, .int (nI j)), (2, .int 2), (3, .int (nI (tg f E j)))], [], M1)) rfl rfl rfl (fun c_146 => ?_) (fun c_146 => ?_)
                · exact absurd (of_decide_eq_true c_146) (show ¬ ((nI (tg f E j)) = 17) from fun h9 => absurd ((eq_nI (p := tg f E j) (n := 17) (Nat.lt_trans (tg_lt _ _ _) (by decide)) (by decide)).mp h9) (by omega))
                refine ps_st (S' := (150, [(0, .ref m0), (1, .int (nI j)), (2, .int 2), (3, .int (nI (tg f E j)))], [.int (nI (tg f E j))], M1)) rfl rfl rfl ?_
                refine ps_st (S' := (152, [(0, .ref m0), (1, .int (nI j)), (2, .int 2), (3, .int (nI (tg f E j)))], [.int 18, .int (nI (tg f E j))], M1)) rfl rfl rfl ?_
                refine ps_if2 (S1 := (171, [(0, .ref m0), (1, .int (nI j)), (2, .int 2), (3, .int (nI (tg f E j)))], [], M1)) (S2 := (155, [(0, .ref m0), (1, .int (nI j)), (2, .int 2)], [], M1)) rfl rfl rfl (fun c_152 => ?_) (fun c_152 => ?_)
                rotate_left
                · exact absurd (show ¬ ((nI (tg f E j)) = 18) from fun h9 => absurd ((eq_nI (p := tg f E j) (n := 18) (Nat.lt_trans (tg_lt _ _ _) (by decide)) (by decide)).mp h9) (by omega)) (of_decide_eq_false c_152)
                refine ps_st (S' := (172, [(0, .ref m0), (1, .int (nI j)), (2, .int 2), (3, .int (nI (tg f E j)))], [.int 0], M1)) rfl rfl rfl ?_
                exact ps_ret rfl rfl (⟨I2, R, by rw [show se f E j = 0 from (by first | exact (ix_7 (by omega)).2 | exact se_1 (by omega))]; rfl, hR3, hEI13, hER, hi4⟩)
              · have c_134 : ¬ ((nI (tg f E j)) < 9) := of_decide_eq_false c_134
                have n_134 : ¬ (tg f E j < 9) := fun h9 => c_134 ((lt_nI (p := tg f E j) (n := 9) (Nat.lt_trans (tg_lt _ _ _) (by decide)) (by decide)).mpr h9)
                refine ps_st (S' := (138, [(3, .int (nI (tg f E j))), (0, .ref m0), (1, .int (nI j)), (2, .int 2)], [.int (nI (tg f E j))], M1)) rfl rfl rfl ?_
                refine ps_st (S' := (140, [(3, .int (nI (tg f E j))), (0, .ref m0), (1, .int (nI j)), (2, .int 2)], [.int 12, .int (nI (tg f E j))], M1)) rfl rfl rfl ?_
                refine ps_if2 (S1 := (155, [(0, .ref m0), (1, .int (nI j)), (2, .int 2)], [], M1)) (S2 := (143, [(0, .ref m0), (1, .int (nI j)), (2, .int 2), (3, .int (nI (tg f E j)))], [], M1)) rfl rfl rfl (fun c_140 => ?_) (fun c_140 => ?_)
                · have c_140 : (nI (tg f E j)) ≤ 12 := of_decide_eq_true c_140
                  have n_140 : tg f E j ≤ 12 := (le_nI (p := tg f E j) (n := 12) (Nat.lt_trans (tg_lt _ _ _) (by decide)) (by decide)).mp c_140
                  refine ps_st (S' := (156, [(0, .ref m0), (1, .int (nI j)), (2, .int 2)], [.ref m0], M1)) rfl rfl rfl ?_
                  refine ps_st (S' := (157, [(0, .ref m0), (1, .int (nI j)), (2, .int 2)], [.int (nI j), .ref m0], M1)) rfl rfl rfl ?_
                  refine ps_st (S' := (158, [(0, .ref m0), (1, .int (nI j)), (2, .int 2)], [.int 2, .int (nI j), .ref m0], M1)) rfl rfl rfl ?_
                  refine ps_st (S' := (159, [(0, .ref m0), (1, .int (nI j)), (2, .int 2)], [.int 1, .int 2, .int (nI j), .ref m0], M1)) rfl rfl rfl ?_
                  refine ps_if2 (S1 := (166, [(0, .ref m0), (1, .int (nI j)), (2, .int 2)], [.int (nI j), .ref m0], M1)) (S2 := (162, [(0, .ref m0), (1, .int (nI j)), (2, .int 2)], [.int (nI j), .ref m0], M1)) rfl rfl rfl (fun c_159 => ?_) (fun c_159 => ?_)
                  rotate_left
                  · exact absurd (by decide) (of_decide_eq_false c_159)
                  refine ps_st (S' := (167, [], [.int 3, .int (nI j), .ref m0], M1)) rfl rfl rfl ?_
                  refine pl_call (a := [.ref m0, .int (nI j), .int 3]) (rest := []) rfl rfl rfl (rd_idx3 (n := n) (f := f) (tx := tx) (cN := cN) (A := A) (N := N) (mj := mj) (E := E) (k := j) hR3 hi7 hi8 hi9 hF_10 hY_11 hP_12 (hEP) (hN) (hmj) (by omega)) (fun v17 M18 q19 => ?_)
                  obtain ⟨rfl, rfl⟩ := q19
                  show pl _ _ _ (170, [], [.int (nI (se f E j))], M1) _
                  have hix_167 := se_lt f E j
                  exact ps_reti rfl (⟨I2, R, rfl, hR3, hEI13, hER, hi4⟩)
                · have c_140 : ¬ ((nI (tg f E j)) ≤ 12) := of_decide_eq_false c_140
                  have n_140 : ¬ (tg f E j ≤ 12) := fun h9 => c_140 ((le_nI (p := tg f E j) (n := 12) (Nat.lt_trans (tg_lt _ _ _) (by decide)) (by decide)).mpr h9)
                  refine ps_st (S' := (144, [(0, .ref m0), (1, .int (nI j)), (2, .int 2), (3, .int (nI (tg f E j)))], [.int (nI (tg f E j))], M1)) rfl rfl rfl ?_
                  refine ps_st (S' := (146, [(0, .ref m0), (1, .int (nI j)), (2, .int 2), (3, .int (nI (tg f E j)))], [.int 17, .int (nI (tg f E j))], M1)) rfl rfl rfl ?_
                  refine ps_if2 (S1 := (155, [(0, .ref m0), (1, .int (nI j)), (2, .int 2)], [], M1)) (S2 := (149, [(0, .ref m0), (1, .int (nI j)), (2, .int 2), (3, .int (nI (tg f E j)))], [], M1)) rfl rfl rfl (fun c_146 => ?_) (fun c_146 => ?_)
                  · have c_146 : (nI (tg f E j)) = 17 := of_decide_eq_true c_146
                    have n_146 : tg f E j = 17 := (eq_nI (p := tg f E j) (n := 17) (Nat.lt_trans (tg_lt _ _ _) (by decide)) (by decide)).mp c_146
                    refine ps_st (S' := (156, [(0, .ref m0), (1, .int (nI j)), (2, .int 2)], [.ref m0], M1)) rfl rfl rfl ?_
                    refine ps_st (S' := (157, [(0, .ref m0), (1, .int (nI j)), (2, .int 2)], [.int (nI j), .ref m0], M1)) rfl rfl rfl ?_
                    refine ps_st (S' := (158, [(0, .ref m0), (1, .int (nI j)), (2, .int 2)], [.int 2, .int (nI j), .ref m0], M1)) rfl rfl rfl ?_
                    refine ps_st (S' := (159, [(0, .ref m0), (1, .int (nI j)), (2, .int 2)], [.int 1, .int 2, .int (nI j), .ref m0], M1)) rfl rfl rfl ?_
                    refine ps_if2 (S1 := (166, [(0, .ref m0), (1, .int (nI j)), (2, .int 2)], [.int (nI j), .ref m0], M1)) (S2 := (162, [(0, .ref m0), (1, .int (nI j)), (2, .int 2)], [.int (nI j), .ref m0], M1)) rfl rfl rfl (fun c_159 => ?_) (fun c_159 => ?_)
                    rotate_left
                    · exact absurd (by decide) (of_decide_eq_false c_159)
                    refine ps_st (S' := (167, [], [.int 3, .int (nI j), .ref m0], M1)) rfl rfl rfl ?_
                    refine pl_call (a := [.ref m0, .int (nI j), .int 3]) (rest := []) rfl rfl rfl (rd_idx3 (n := n) (f := f) (tx := tx) (cN := cN) (A := A) (N := N) (mj := mj) (E := E) (k := j) hR3 hi7 hi8 hi9 hF_10 hY_11 hP_12 (hEP) (hN) (hmj) (by omega)) (fun v20 M21 q22 => ?_)
                    obtain ⟨rfl, rfl⟩ := q22
                    show pl _ _ _ (170, [], [.int (nI (se f E j))], M1) _
                    have hix_167 := se_lt f E j
                    exact ps_reti rfl (⟨I2, R, rfl, hR3, hEI13, hER, hi4⟩)
                  · have c_146 : ¬ ((nI (tg f E j)) = 17) := of_decide_eq_false c_146
                    have n_146 : ¬ (tg f E j = 17) := fun h9 => c_146 ((eq_nI (p := tg f E j) (n := 17) (Nat.lt_trans (tg_lt _ _ _) (by decide)) (by decide)).mpr h9)
                    refine ps_st (S' := (150, [(0, .ref m0), (1, .int (nI j)), (2, .int 2), (3, .int (nI (tg f E j)))], [.int (nI (tg f E j))], M1)) rfl rfl rfl ?_
                    refine ps_st (S' := (152, [(0, .ref m0), (1, .int (nI j)), (2, .int 2), (3, .int (nI (tg f E j)))], [.int 18, .int (nI (tg f E j))], M1)) rfl rfl rfl ?_
                    refine ps_if2 (S1 := (171, [(0, .ref m0), (1, .int (nI j)), (2, .int 2), (3, .int (nI (tg f E j)))], [], M1)) (S2 := (155, [(0, .ref m0), (1, .int (nI j)), (2, .int 2)], [], M1)) rfl rfl rfl (fun c_152 => ?_) (fun c_152 => ?_)
                    · have c_152 : ¬ (nI (tg f E j)) = 18 := of_decide_eq_true c_152
                      have n_152 : ¬ (tg f E j = 18) := fun h9 => c_152 ((eq_nI (p := tg f E j) (n := 18) (Nat.lt_trans (tg_lt _ _ _) (by decide)) (by decide)).mpr h9)
                      refine ps_st (S' := (172, [(0, .ref m0), (1, .int (nI j)), (2, .int 2), (3, .int (nI (tg f E j)))], [.int 0], M1)) rfl rfl rfl ?_
                      exact ps_ret rfl rfl (⟨I2, R, by rw [show se f E j = 0 from (by first | exact (ix_7 (by omega)).2 | exact se_1 (by omega))]; rfl, hR3, hEI13, hER, hi4⟩)
                    · have c_152 : ¬ (¬ (nI (tg f E j)) = 18) := of_decide_eq_false c_152
                      have n_152 : tg f E j = 18 := (eq_nI (p := tg f E j) (n := 18) (Nat.lt_trans (tg_lt _ _ _) (by decide)) (by decide)).mp (Decidable.not_not.mp c_152)
                      refine ps_st (S' := (156, [(0, .ref m0), (1, .int (nI j)), (2, .int 2)], [.ref m0], M1)) rfl rfl rfl ?_
                      refine ps_st (S' := (157, [(0, .ref m0), (1, .int (nI j)), (2, .int 2)], [.int (nI j), .ref m0], M1)) rfl rfl rfl ?_
                      refine ps_st (S' := (158, [(0, .ref m0), (1, .int (nI j)), (2, .int 2)], [.int 2, .int (nI j), .ref m0], M1)) rfl rfl rfl ?_
                      refine ps_st (S' := (159, [(0, .ref m0), (1, .int (nI j)), (2, .int 2)], [.int 1, .int 2, .int (nI j), .ref m0], M1)) rfl rfl rfl ?_
                      refine ps_if2 (S1 := (166, [(0, .ref m0), (1, .int (nI j)), (2, .int 2)], [.int (nI j), .ref m0], M1)) (S2 := (162, [(0, .ref m0), (1, .int (nI j)), (2, .int 2)], [.int (nI j), .ref m0], M1)) rfl rfl rfl (fun c_159 => ?_) (fun c_159 => ?_)
                      rotate_left
                      · exact absurd (by decide) (of_decide_eq_false c_159)
                      refine ps_st (S' := (167, [], [.int 3, .int (nI j), .ref m0], M1)) rfl rfl rfl ?_
                      refine pl_call (a := [.ref m0, .int (nI j), .int 3]) (rest := []) rfl rfl rfl (rd_idx3 (n := n) (f := f) (tx := tx) (cN := cN) (A := A) (N := N) (mj := mj) (E := E) (k := j) hR3 hi7 hi8 hi9 hF_10 hY_11 hP_12 (hEP) (hN) (hmj) (by omega)) (fun v23 M24 q25 => ?_)
                      obtain ⟨rfl, rfl⟩ := q25
                      show pl _ _ _ (170, [], [.int (nI (se f E j))], M1) _
                      have hix_167 := se_lt f E j
                      exact ps_reti rfl (⟨I2, R, rfl, hR3, hEI13, hER, hi4⟩)
            · have c_112 : ¬ (¬ (nI (tg f E j)) = 20) := of_decide_eq_false c_112
              have n_112 : tg f E j = 20 := (eq_nI (p := tg f E j) (n := 20) (Nat.lt_trans (tg_lt _ _ _) (by decide)) (by decide)).mp (Decidable.not_not.mp c_112)
              refine ps_st (S' := (116, [(0, .ref m0), (1, .int (nI j)), (2, .int 2)], [.int 2], M1)) rfl rfl rfl ?_
              refine ps_st (S' := (117, [(0, .ref m0), (1, .int (nI j)), (2, .int 2)], [.int 1, .int 2], M1)) rfl rfl rfl ?_
              refine ps_if2 (S1 := (129, [(0, .ref m0), (1, .int (nI j)), (2, .int 2)], [], M1)) (S2 := (120, [(0, .ref m0), (1, .int (nI j)), (2, .int 2)], [], M1)) rfl rfl rfl (fun c_117 => ?_) (fun c_117 => ?_)
              rotate_left
              · exact absurd (by decide) (of_decide_eq_false c_117)
              refine ps_st (S' := (130, [], [.int 0], M1)) rfl rfl rfl ?_
              exact ps_ret rfl rfl (⟨I2, R, by rw [show se f E j = 0 from (by first | exact (ix_7 (by omega)).2 | exact se_1 (by omega))]; rfl, hR3, hEI13, hER, hi4⟩)
  · have c_55 : ¬ (¬ (nI (tg f E j)) = 15) := of_decide_eq_false c_55
    have n_55 : tg f E j = 15 := (eq_nI (p := tg f E j) (n := 15) (Nat.lt_trans (tg_lt _ _ _) (by decide)) (by decide)).mp (Decidable.not_not.mp c_55)
    refine ps_st (S' := (59, [(3, .int (nI (tg f E j))), (0, .ref m0), (1, .int (nI j)), (2, .int 2)], [.int 2], M1)) rfl rfl rfl ?_
    refine ps_st (S' := (60, [(3, .int (nI (tg f E j))), (0, .ref m0), (1, .int (nI j)), (2, .int 2)], [.int 1, .int 2], M1)) rfl rfl rfl ?_
    refine ps_if2 (S1 := (78, [(3, .int (nI (tg f E j))), (0, .ref m0), (1, .int (nI j)), (2, .int 2)], [], M1)) (S2 := (63, [(3, .int (nI (tg f E j))), (0, .ref m0), (1, .int (nI j)), (2, .int 2)], [], M1)) rfl rfl rfl (fun c_60 => ?_) (fun c_60 => ?_)
    rotate_left
    · exact absurd (by decide) (of_decide_eq_false c_60)
    refine ps_st (S' := (79, [(3, .int (nI (tg f E j))), (0, .ref m0), (1, .int (nI j)), (2, .int 2)], [.ref m0], M1)) rfl rfl rfl ?_
    refine ps_st (S' := (80, [(3, .int (nI (tg f E j))), (0, .ref m0), (1, .int (nI j)), (2, .int 2)], [.int (nI j), .ref m0], M1)) rfl rfl rfl ?_
    refine ps_st (S' := (81, [(3, .int (nI (tg f E j))), (0, .ref m0), (1, .int (nI j)), (2, .int 2)], [.int 2, .int (nI j), .ref m0], M1)) rfl rfl rfl ?_
    refine pl_call (a := [.ref m0, .int (nI j), .int 2]) (rest := []) rfl rfl rfl (rd_idx2 (n := n) (f := f) (tx := tx) (cN := cN) (A := A) (N := N) (mj := mj) (E := E) (k := j) hR3 hi7 hi8 hi9 hF_10 hY_11 hP_12 (hEP) (hN) (hmj) (by omega)) (fun v26 M27 q28 => ?_)
    obtain ⟨rfl, rfl⟩ := q28
    show pl _ _ _ (84, [], [.int (nI (se f E j))], M1) _
    have hix_81 := se_lt f E j
    exact ps_reti rfl (⟨I2, R, rfl, hR3, hEI13, hER, hi4⟩)
theorem rd_entry {g : xe_G} {m0 : Nat} {q : Nat → Nat} {z : Nat × Nat} {I : rI} {R : rR} {M : mi_H} {ko : Option (Nat × (Nat → Int32))} {k p : Int32} (hR : RS g m0 q z I R M) (hK : KPR ko I R) (hp0 : ¬ p < 0) (hp1 : p ≤ 2) : pt (mT g) 204 [.ref m0, .int k, .int p] M (fun v M' => ∃ (I' : rI) (R' : rR), v = some (.int (enK ko k p)) ∧ RS g m0 q z I' R' M' ∧ eqI [0] I I' ∧ eqR [] R R' ∧ I' 0 = some 0) := by
  cases ko with
  | none =>
    obtain ⟨kn, h1, h2⟩ := hK
    exact rd_entry0 hR h1 hp0 hp1 h2
  | some r =>
    obtain ⟨h1, h2, -, -, tx, cN, A, E, N, mj, p1, pF, pM, pA, k1, k2, k3, k4, k5, k6, k7, rfl, rfl⟩ := hK
    rw [enK_is k7]
    have hN := by2_lt r.2 8
    have hpl := whole_in k7
    have hEP := (EP_of hpl).1
    unfold enI
    by_cases hk : k < 0 ∨ nI (by2 r.2 8) ≤ k
    · rw [if_pos hk]
      exact rd_entryN hR h1 k4 k5 k6 k1 k2 k3 hEP hN hp0 hp1 h2 hk
    · rw [if_neg hk]
      obtain ⟨e, hj⟩ := i32_in hN hk
      obtain ⟨j, ej⟩ : ∃ j, j = k.toNatClampNeg := ⟨_, rfl⟩
      rw [← ej] at e hj ⊢
      subst e
      rcases i32_3 hp0 hp1 with rfl | rfl | rfl
      · exact rd_entry_0 hR h1 k4 k5 k6 k1 k2 k3 hEP hN (by2_lt _ _) h2 hj hpl
      · exact rd_entry_1 hR h1 k4 k5 k6 k1 k2 k3 hEP hN (by2_lt _ _) h2 hj hpl
      · exact rd_entry_2 hR h1 k4 k5 k6 k1 k2 k3 hEP hN (by2_lt _ _) h2 hj hpl
end
section
/-! a character of a text, as both sides tell it (my own text) -/
section CHA
variable {f : Nat → Int32} {n H m N : Nat} {E : List (Nat × Nat)} {F : Nat → Nat → Int32}
def chI (f : Nat → Int32) (n : Nat) (E : List (Nat × Nat)) (k i : Int32) : Int32 := if tg f E k.toNatClampNeg = 1 ∧ ¬ i < 0 ∧ i.toNatClampNeg < (tX f n E k.toNatClampNeg).length then nI ((tX f n E k.toNatClampNeg).getD i.toNatClampNeg 0) else -1
def chK (ko : Option (Nat × (Nat → Int32))) (k i : Int32) : Int32 := match ko with
  | none => -1
  | some r => match s_whole r.2 r.1 with
    | .inl _ => -1
    | .inr y => chI r.2 r.1 y.1 k i
theorem chK_is {r : Nat × (Nat → Int32)} {k p : Int32} {y : Nat × Nat × Nat × Nat} (h : s_whole r.2 r.1 = .inr (E, y)) : chK (some r) k p = chI r.2 r.1 E k p := by
  show (match s_whole r.2 r.1 with | .inl _ => -1 | .inr y => chI r.2 r.1 y.1 k p) = _
  rw [h]
theorem i32_cl {k : Int32} (h : k < 0) : k.toNatClampNeg = 0 := by
  have h1 := Int32.lt_iff_toInt_lt.mp h
  have e0 : (0 : Int32).toInt = 0 := rfl
  show k.toInt.toNat = 0
  omega
theorem i32_to {k : Int32} (h : ¬ k < 0) : (k.toNatClampNeg : Int) = k.toInt := by
  have h1 := Int32.le_iff_toInt_le.mp (Int32.not_lt.mp h)
  have e0 : (0 : Int32).toInt = 0 := rfl
  show ((k.toInt.toNat : Nat) : Int) = _
  omega
theorem i32_ge {k : Int32} {N : Nat} (hN : N ≤ 65540) (h0 : ¬ k < 0) (h : ¬ k < nI N) : N ≤ k.toNatClampNeg := by
  have h1 := Int32.le_iff_toInt_le.mp (Int32.not_lt.mp h)
  rw [nI_val (by omega)] at h1
  have h2 := i32_to h0
  omega
theorem i32_lt {k : Int32} {N : Nat} (hN : N ≤ 65540) (h0 : ¬ k < 0) (h : k.toNatClampNeg < N) : k < nI N := by
  apply Int32.lt_iff_toInt_lt.mpr
  rw [nI_val (by omega)]
  have h2 := i32_to h0
  omega
theorem VF.tagR (h : VF f n E H m F) (hH : H ≤ 65536) (h0 : tg f E 0 = 0) (k : Int32) : sp_tagOf H m F k = nI (tg f E k.toNatClampNeg) := by
  unfold sp_tagOf
  by_cases h1 : k < 0
  · rw [if_pos h1, i32_cl h1, h0]
    rfl
  · rw [if_neg h1]
    by_cases h2 : k < nI H
    · rw [if_pos h2]
      exact h.1 _
    · rw [if_neg h2, h.2.1 _ (i32_ge (by omega) h1 h2)]
      rfl
theorem VF.charR (h : VF f n E H m F) (hH : H ≤ 65536) (hm : m ≤ 65540) (h0 : tg f E 0 = 0) (k i : Int32) : sp_characterAt H m F k i = chI f n E k i := by
  unfold sp_characterAt chI
  rw [h.tagR hH h0 k]
  obtain ⟨j, hj⟩ : ∃ j, j = k.toNatClampNeg := ⟨_, rfl⟩
  rw [← hj]
  by_cases h1 : tg f E j = 1
  · obtain ⟨c, a1, a2, a3, a4⟩ := h.2.2.2.2 j h1
    rw [if_neg (by rw [h1]; exact fun q => q rfl)]
    by_cases h2 : i < 0
    · rw [if_pos h2, if_neg (fun q => q.2.1 h2)]
    · rw [if_neg h2, a2, a1]
      have hl := tx_len f n E j
      by_cases h3 : i.toNatClampNeg < (tX f n E j).length
      · rw [if_pos (i32_lt (by omega) h2 h3), if_pos ⟨h1, h2, h3⟩]
        have e := i32_nn h2
        obtain ⟨t, ht⟩ : ∃ t, t = i.toNatClampNeg := ⟨_, rfl⟩
        rw [← ht] at h3 e ⊢
        rw [e, nI_add1 rfl (by omega), nI_toNat (by omega), a4 t h3]
      · rw [if_neg (fun q => h3 ?_), if_neg (fun q => h3 q.2.2)]
        have h4 := Int32.lt_iff_toInt_lt.mp q
        rw [nI_val (by omega)] at h4
        have h5 := i32_to h2
        omega
  · rw [if_pos (show ¬ nI (tg f E j) = 1 from fun q => h1 ((eq_nI (p := tg f E j) (n := 1) (Nat.lt_trans (tg_lt _ _ _) (by decide)) (by decide)).mp q)), if_neg (fun q => h1 q.1)]
theorem s_ents_1 {mj : Nat} : ∀ {r k p p' : Nat} {E0 E : List (Nat × Nat)}, 1 ≤ k → (∀ q ∈ E0, 1 ≤ q.1) → s_ents f n mj N r k p E0 = .inr (p', E) → ∀ q ∈ E, 1 ≤ q.1 := by
  intro r
  induction r with
  | zero => intro k p p' E0 E hk h0 h; cases h; exact h0
  | succ r ih =>
    intro k p p' E0 E hk h0 h
    unfold s_ents at h
    split at h
    · cases h; exact h0
    · cases he : s_entry f n mj N k p with
      | inl e => rw [he] at h; cases h
      | inr y =>
        obtain ⟨p2, x⟩ := y
        rw [he] at h
        refine ih (k := if by1 f p = 5 ∨ by1 f p = 6 then k + 2 else k + 1) ?_ ?_ h
        · split <;> omega
        · intro q hq
          rcases List.mem_append.mp hq with hq | hq
          · exact h0 q hq
          · have e : q = (k, p) := by simpa using hq
            rw [e]
            exact hk
/-- number 0 is no entry's -/
theorem tg_0 {mj p' : Nat} (h : s_pool f n mj = .inr (p', E)) : tg f E 0 = 0 := by
  unfold s_pool at h
  split at h
  · cases h
  · split at h
    · cases h
    · unfold tg
      cases hk : lk E 0 with
      | none => rfl
      | some p => exact absurd (s_ents_1 (by decide) (fun q hq => by cases hq) h _ (lk_in hk)) (show ¬ 1 ≤ 0 by decide)
end CHA
theorem dz_characterAt {g : xe_G} {M : mi_H} {f : Nat → Int32} {n N q : Nat} {E : List (Nat × Nat)} {k i : Int32}  (hV : PV g f n N E q M) (h0 : tg f E 0 = 0) : pt (mT g) 113 [.ref q, .int k, .int i] M (fun v M' => (v = some (.int (chI f n E k i)) ∧ M = M')) := by
  obtain ⟨hL9, H, m, qq, F, cc, hP9, hT9, -, hb9, hVF, -⟩ := id hV
  exact ((ct_characterAt hP9 hT9 (by omega) (d := 2) (Nat.le_refl _)).pt).mono (fun v M' h => ⟨by rw [h.1, hVF.charR hb9.1 hb9.2.1 h0], h.2.symm⟩)
set_option maxHeartbeats 1000000 in
theorem dk_character0 {g : xe_G} {M : mi_H} {o ca fl : Nat} {cn wp k i : Int32} (h_o : M.1 o = some (ob 11 [.ref ca, .int cn, .ref fl, .null, .int wp]))  : pt (mT g) 3 [.ref o, .int k, .int i] M (fun v M' => (v = some (.int (-1)) ∧ M = M')) := by
  refine pt_in (b := mb_3 g) rfl (fun kf => ?_)
  show pl (mT g) kf (mb_3 g).2 (0, [(0, .ref o), (1, .int k), (2, .int i)], [], M) _
  refine ps_st (S' := (1, [(0, .ref o), (1, .int k), (2, .int i)], [.ref o], M)) rfl rfl rfl ?_
  refine ps_get (S' := (4, [(0, .ref o), (1, .int k), (2, .int i)], [.null], M)) rfl h_o rfl rfl ?_
  refine ps_st (S' := (7, [(0, .ref o), (1, .int k), (2, .int i)], [], M)) rfl rfl rfl ?_
  refine ps_st (S' := (8, [(0, .ref o), (1, .int k), (2, .int i)], [.int (-1)], M)) rfl rfl rfl ?_
  refine ps_st (S' := (23, [], [.int (-1)], M)) rfl rfl rfl ?_
  exact ps_ret rfl rfl (⟨rfl, rfl⟩)
set_option maxHeartbeats 1000000 in
theorem dk_characterK {g : xe_G} {M : mi_H} {f : Nat → Int32} {n N q : Nat} {E : List (Nat × Nat)} {o ca fl c b : Nat} {cn wp : Int32} {w : List Value} {k i : Int32} (h_o : M.1 o = some (ob 11 [.ref ca, .int cn, .ref fl, .ref c, .int wp])) (h_c : M.1 c = some (ob 3 (.ref b :: .ref q :: w))) (hV : PV g f n N E q M) (h0 : tg f E 0 = 0) : pt (mT g) 3 [.ref o, .int k, .int i] M (fun v M' => (v = some (.int (chI f n E k i)) ∧ M = M')) := by
  refine pt_in (b := mb_3 g) rfl (fun kf => ?_)
  show pl (mT g) kf (mb_3 g).2 (0, [(0, .ref o), (1, .int k), (2, .int i)], [], M) _
  obtain ⟨hL9, H, m, qq, F, cc, hP9, -, -, hb9, -⟩ := id hV
  have h_q := hP9.1
  have hN9 := hb9.2.2
  refine ps_st (S' := (1, [(0, .ref o), (1, .int k), (2, .int i)], [.ref o], M)) rfl rfl rfl ?_
  refine ps_get (S' := (4, [(0, .ref o), (1, .int k), (2, .int i)], [.ref c], M)) rfl h_o rfl rfl ?_
  refine ps_st (S' := (11, [(0, .ref o), (1, .int k), (2, .int i)], [], M)) rfl rfl rfl ?_
  refine ps_st (S' := (12, [(0, .ref o), (1, .int k), (2, .int i)], [.ref o], M)) rfl rfl rfl ?_
  refine ps_get (S' := (15, [(0, .ref o), (1, .int k), (2, .int i)], [.ref c], M)) rfl h_o rfl rfl ?_
  refine ps_get (S' := (18, [(0, .ref o), (1, .int k), (2, .int i)], [.ref q], M)) rfl h_c rfl rfl ?_
  refine ps_st (S' := (19, [(0, .ref o), (1, .int k), (2, .int i)], [.int k, .ref q], M)) rfl rfl rfl ?_
  refine ps_st (S' := (20, [(0, .ref o), (1, .int k), (2, .int i)], [.int i, .int k, .ref q], M)) rfl rfl rfl ?_
  refine pl_call (a := [.ref q, .int k, .int i]) (rest := []) rfl rfl rfl (dz_characterAt (f := f) (n := n) (N := N) (q := q) (E := E) (k := k) (i := i) (hV) (h0)) (fun v1 M2 q3 => ?_)
  obtain ⟨rfl, rfl⟩ := q3
  show pl _ _ _ (23, [], [.int (chI f n E k i)], M) _
  exact ps_reti rfl (⟨rfl, rfl⟩)
theorem dk_character {g : xe_G} {M : mi_H} {ko : Option (Nat × (Nat → Int32))} {kv : Value} {cm o fl : Nat} {cn wp k i : Int32} (hx : M.1 o = some (ob 11 [.ref cm, .int cn, .ref fl, kv, .int wp])) (hK : KPC g ko kv cm M) : pt (mT g) 3 [.ref o, .int k, .int i] M (fun v M' => v = some (.int (chK ko k i)) ∧ M = M') := by
  cases ko with
  | none =>
    have e : kv = .null := hK
    subst e
    exact dk_character0 hx
  | some r =>
    obtain ⟨c, da, rfl, ⟨b, q, N, E, p1, pF, pM, pA, w, h1, h2, h3, h4, h5, rfl, -⟩, -, -⟩ := hK
    rw [chK_is h5]
    exact dk_characterK hx h1 h4 (tg_0 (whole_in h5))
end
section
set_option maxHeartbeats 1000000 in
theorem rd_tagO {g : xe_G} {m0 : Nat} {q : Nat → Nat} {z : Nat × Nat} {I : rI} {R : rR} {M : mi_H} {n : Nat} {f : Nat → Int32} {tx : List (List Nat)} {cN : Nat} {A : Nat → Nat} {N mj : Nat} {E : List (Nat × Nat)} {k : Int32} (hR : RS g m0 q z I R M) (hi51 : I 51 = some 0) (hi52 : I 52 = some (nI N)) (hi53 : I 53 = some (nI mj)) (hF : FK n f I R) (hY : SYT tx cN A I R) (hP : RPV f n E tx N I R) (hEP : EP f n E) (hN : N < 65536) (hk : k ≤ 0 ∨ nI N ≤ k) : pt (mT g) 247 [.ref m0, .int k] M (fun v M' => (v = some (.int 0) ∧ M = M')) := by
  refine pt_in (b := mb_247 g) rfl (fun kf => ?_)
  show pl (mT g) kf (mb_247 g).2 (0, [(0, .ref m0), (1, .int k)], [], M) _
  refine ps_st (S' := (1, [(0, .ref m0), (1, .int k)], [.int k], M)) rfl rfl rfl ?_
  refine ps_if (S1 := (26, [], [], M)) (S2 := (4, [(0, .ref m0), (1, .int k)], [], M)) rfl rfl rfl (fun c_1 => ?_) (fun c_1 => ?_)
  · have c_1 : k ≤ 0 := of_decide_eq_true c_1
    refine ps_st (S' := (27, [], [.int 0], M)) rfl rfl rfl ?_
    refine ps_st (S' := (45, [], [.int 0], M)) rfl rfl rfl ?_
    exact ps_ret rfl rfl (⟨rfl, rfl⟩)
  · have c_1 : ¬ (k ≤ 0) := of_decide_eq_false c_1
    refine ps_st (S' := (5, [(0, .ref m0), (1, .int k)], [.int k], M)) rfl rfl rfl ?_
    refine ps_st (S' := (6, [(0, .ref m0), (1, .int k)], [.ref m0, .int k], M)) rfl rfl rfl ?_
    refine pr_int (j := 52) (S' := (9, [(0, .ref m0), (1, .int k)], [.int (nI N), .int k], M)) rfl hR rfl hi52 rfl ?_
    refine ps_if2 (S1 := (26, [], [], M)) (S2 := (12, [(0, .ref m0), (1, .int k)], [], M)) rfl rfl rfl (fun c_9 => ?_) (fun c_9 => ?_)
    · have c_9 : (nI N) ≤ k := of_decide_eq_true c_9
      refine ps_st (S' := (27, [], [.int 0], M)) rfl rfl rfl ?_
      refine ps_st (S' := (45, [], [.int 0], M)) rfl rfl rfl ?_
      exact ps_ret rfl rfl (⟨rfl, rfl⟩)
    · have c_9 : ¬ ((nI N) ≤ k) := of_decide_eq_false c_9
      exfalso
      rcases hk with h9 | h9
      · exact absurd h9 (by assumption)
      · exact absurd h9 (by assumption)
theorem rd_tagR {g : xe_G} {m0 : Nat} {q : Nat → Nat} {z : Nat × Nat} {I : rI} {R : rR} {M : mi_H} {n : Nat} {f : Nat → Int32} {tx : List (List Nat)} {cN : Nat} {A : Nat → Nat} {N mj : Nat} {E : List (Nat × Nat)} {k : Int32} (hR : RS g m0 q z I R M) (hi51 : I 51 = some 0) (hi52 : I 52 = some (nI N)) (hi53 : I 53 = some (nI mj)) (hF : FK n f I R) (hY : SYT tx cN A I R) (hP : RPV f n E tx N I R) (hEP : EP f n E) (hN : N < 65536) (hmj : mj < 65536) (h0 : tg f E 0 = 0) : pt (mT g) 247 [.ref m0, .int k] M (fun v M' => (v = some (.int (nI (tg f E k.toNatClampNeg))) ∧ M = M')) := by
  by_cases hk : k ≤ 0 ∨ nI N ≤ k
  · have e : tg f E k.toNatClampNeg = 0 := by
      by_cases h1 : k < 0
      · rw [i32_cl h1]
        exact h0
      · rcases hk with h2 | h2
        · have h3 : k = 0 := Int32.le_antisymm h2 (Int32.not_lt.mp h1)
          rw [h3]
          exact h0
        · have h3 := i32_ge (N := N) (by omega) h1 (Int32.not_lt.mpr h2)
          unfold tg
          rw [lk_hi hP.1 (Or.inr h3)]
    rw [e]
    exact rd_tagO hR hi51 hi52 hi53 hF hY hP hEP hN hk
  · have h1 : ¬ k < 0 := fun h9 => hk (Or.inl (Int32.le_of_lt h9))
    obtain ⟨e, hj⟩ := i32_in hN (fun h9 => h9.elim h1 (fun h8 => hk (Or.inr h8)))
    obtain ⟨j, ej⟩ : ∃ j, j = k.toNatClampNeg := ⟨_, rfl⟩
    rw [← ej] at e hj ⊢
    subst e
    exact rd_tag hR hi51 hi52 hi53 hF hY hP hEP hN hmj (by omega)
set_option maxHeartbeats 1000000 in
theorem rd_character0 {g : xe_G} {m0 : Nat} {q : Nat → Nat} {z : Nat × Nat} {I : rI} {R : rR} {M : mi_H} {kn k i : Int32} (hR : RS g m0 q z I R M) (hi18 : I 18 = some kn)  (hk : kn < 0) : pt (mT g) 186 [.ref m0, .int k, .int i] M (fun v M' => (∃  (I' : rI) (R' : rR), v = some (.int (-1)) ∧ RS g m0 q z I' R' M' ∧ eqI [0] I I' ∧ eqR [] R R' ∧ I' 0 = some 0)) := by
  refine pt_in (b := mb_186 g) rfl (fun kf => ?_)
  show pl (mT g) kf (mb_186 g).2 (0, [(0, .ref m0), (1, .int k), (2, .int i)], [], M) _
  have hEI : eqI [0] I I := eqI.rf
  have hER : eqR [] R R := eqR.rf
  refine ps_st (S' := (1, [(0, .ref m0), (1, .int k), (2, .int i)], [.ref m0], M)) rfl rfl rfl ?_
  refine ps_st (S' := (2, [(0, .ref m0), (1, .int k), (2, .int i)], [.int 0, .ref m0], M)) rfl rfl rfl ?_
  refine pr_put (j := 0) rfl hR rfl (fun M1 I2 hR3 hi4 hI5 => ?_)
  have hi6 := (hI5 18 (by decide)).trans hi18
  have hEI7 := hEI.put hI5 (by decide)
  show pl _ _ _ (5, [(0, .ref m0), (1, .int k), (2, .int i)], [], M1) _
  refine ps_st (S' := (6, [(0, .ref m0), (1, .int k), (2, .int i)], [.ref m0], M1)) rfl rfl rfl ?_
  refine pr_int (j := 18) (S' := (9, [(0, .ref m0), (1, .int k), (2, .int i)], [.int kn], M1)) rfl hR3 rfl hi6 rfl ?_
  refine ps_if (S1 := (38, [], [], M1)) (S2 := (12, [(0, .ref m0), (1, .int k), (2, .int i)], [], M1)) rfl rfl rfl (fun c_9 => ?_) (fun c_9 => ?_)
  rotate_left
  · exact absurd (hk) (of_decide_eq_false c_9)
  refine ps_st (S' := (39, [], [.int (-1)], M1)) rfl rfl rfl ?_
  refine ps_st (S' := (52, [], [.int (-1)], M1)) rfl rfl rfl ?_
  exact ps_ret rfl rfl (⟨I2, R, rfl, hR3, hEI7, hER, hi4⟩)
set_option maxHeartbeats 1000000 in
theorem rd_characterT {g : xe_G} {m0 : Nat} {q : Nat → Nat} {z : Nat × Nat} {I : rI} {R : rR} {M : mi_H} {n : Nat} {f : Nat → Int32} {tx : List (List Nat)} {cN : Nat} {A : Nat → Nat} {N mj : Nat} {E : List (Nat × Nat)} {n2 : Nat} {k i : Int32} (hR : RS g m0 q z I R M) (hi18 : I 18 = some (nI n2)) (hi51 : I 51 = some 0) (hi52 : I 52 = some (nI N)) (hi53 : I 53 = some (nI mj)) (hF : FK n f I R) (hY : SYT tx cN A I R) (hP : RPV f n E tx N I R) (hEP : EP f n E) (hN : N < 65536) (hmj : mj < 65536) (hn2 : n2 ≤ 65540) (h0 : tg f E 0 = 0) (ht : ¬ tg f E k.toNatClampNeg = 1) : pt (mT g) 186 [.ref m0, .int k, .int i] M (fun v M' => (∃  (I' : rI) (R' : rR), v = some (.int (-1)) ∧ RS g m0 q z I' R' M' ∧ eqI [0] I I' ∧ eqR [] R R' ∧ I' 0 = some 0)) := by
  refine pt_in (b := mb_186 g) rfl (fun kf => ?_)
  show pl (mT g) kf (mb_186 g).2 (0, [(0, .ref m0), (1, .int k), (2, .int i)], [], M) _
  have hEI : eqI [0] I I := eqI.rf
  have hER : eqR [] R R := eqR.rf
  refine ps_st (S' := (1, [(0, .ref m0), (1, .int k), (2, .int i)], [.ref m0], M)) rfl rfl rfl ?_
  refine ps_st (S' := (2, [(0, .ref m0), (1, .int k), (2, .int i)], [.int 0, .ref m0], M)) rfl rfl rfl ?_
  refine pr_put (j := 0) rfl hR rfl (fun M1 I2 hR3 hi4 hI5 => ?_)
  have hi6 := (hI5 18 (by decide)).trans hi18
  have hi7 := (hI5 51 (by decide)).trans hi51
  have hi8 := (hI5 52 (by decide)).trans hi52
  have hi9 := (hI5 53 (by decide)).trans hi53
  have hF_10 := hF.mono (pIx hI5 (by decide)) (fun _ _ => rfl)
  have hY_11 := hY.mono (pIx hI5 (by decide)) (fun _ _ => rfl)
  have hP_12 := hP.mono (pIx hI5 (by decide)) (fun _ _ => rfl)
  have hEI13 := hEI.put hI5 (by decide)
  show pl _ _ _ (5, [(0, .ref m0), (1, .int k), (2, .int i)], [], M1) _
  refine ps_st (S' := (6, [(0, .ref m0), (1, .int k), (2, .int i)], [.ref m0], M1)) rfl rfl rfl ?_
  refine pr_int (j := 18) (S' := (9, [(0, .ref m0), (1, .int k), (2, .int i)], [.int (nI n2)], M1)) rfl hR3 rfl hi6 rfl ?_
  refine ps_if (S1 := (38, [], [], M1)) (S2 := (12, [(0, .ref m0), (1, .int k), (2, .int i)], [], M1)) rfl rfl rfl (fun c_9 => ?_) (fun c_9 => ?_)
  · exact absurd (of_decide_eq_true c_9) (show ¬ ((nI n2) < 0) from fun h9 => absurd ((lt_nI (p := n2) (n := 0) (by omega) (by decide)).mp h9) (by omega))
  refine ps_st (S' := (13, [(0, .ref m0), (1, .int k), (2, .int i)], [.ref m0], M1)) rfl rfl rfl ?_
  refine ps_st (S' := (14, [(0, .ref m0), (1, .int k), (2, .int i)], [.int k, .ref m0], M1)) rfl rfl rfl ?_
  refine pl_call (a := [.ref m0, .int k]) (rest := []) rfl rfl rfl (rd_tagR (n := n) (f := f) (tx := tx) (cN := cN) (A := A) (N := N) (mj := mj) (E := E) (k := k) hR3 hi7 hi8 hi9 hF_10 hY_11 hP_12 (hEP) (hN) (hmj) (h0)) (fun v14 M15 q16 => ?_)
  obtain ⟨rfl, rfl⟩ := q16
  show pl _ _ _ (17, [(0, .ref m0), (1, .int k), (2, .int i)], [.int (nI (tg f E k.toNatClampNeg))], M1) _
  have htg9 := tg_lt f E k.toNatClampNeg
  refine ps_st (S' := (18, [(0, .ref m0), (1, .int k), (2, .int i)], [.int 1, .int (nI (tg f E k.toNatClampNeg))], M1)) rfl rfl rfl ?_
  refine ps_if2 (S1 := (38, [], [], M1)) (S2 := (21, [(0, .ref m0), (1, .int k), (2, .int i)], [], M1)) rfl rfl rfl (fun c_18 => ?_) (fun c_18 => ?_)
  rotate_left
  · exact absurd (show ¬ (nI (tg f E k.toNatClampNeg)) = 1 from fun h9 => ht ((eq_nI (p := tg f E k.toNatClampNeg) (n := 1) (by omega) (by decide)).mp h9)) (of_decide_eq_false c_18)
  refine ps_st (S' := (39, [], [.int (-1)], M1)) rfl rfl rfl ?_
  refine ps_st (S' := (52, [], [.int (-1)], M1)) rfl rfl rfl ?_
  exact ps_ret rfl rfl (⟨I2, R, rfl, hR3, hEI13, hER, hi4⟩)
set_option maxHeartbeats 1000000 in
theorem rd_characterN {g : xe_G} {m0 : Nat} {q : Nat → Nat} {z : Nat × Nat} {I : rI} {R : rR} {M : mi_H} {n : Nat} {f : Nat → Int32} {tx : List (List Nat)} {cN : Nat} {A : Nat → Nat} {N mj : Nat} {E : List (Nat × Nat)} {n2 : Nat} {j : Nat} {i : Int32} (hR : RS g m0 q z I R M) (hi18 : I 18 = some (nI n2)) (hi51 : I 51 = some 0) (hi52 : I 52 = some (nI N)) (hi53 : I 53 = some (nI mj)) (hF : FK n f I R) (hY : SYT tx cN A I R) (hP : RPV f n E tx N I R) (hEP : EP f n E) (hN : N < 65536) (hmj : mj < 65536) (hn2 : n2 ≤ 65540) (hj : j < 65536) (h1t : tg f E j = 1) (hi : i < 0 ∨ ¬ i < nI (tX f n E j).length) : pt (mT g) 186 [.ref m0, .int (nI j), .int i] M (fun v M' => (∃  (I' : rI) (R' : rR), v = some (.int (-1)) ∧ RS g m0 q z I' R' M' ∧ eqI [0] I I' ∧ eqR [] R R' ∧ I' 0 = some 0)) := by
  refine pt_in (b := mb_186 g) rfl (fun kf => ?_)
  show pl (mT g) kf (mb_186 g).2 (0, [(0, .ref m0), (1, .int (nI j)), (2, .int i)], [], M) _
  have hEI : eqI [0] I I := eqI.rf
  have hER : eqR [] R R := eqR.rf
  have hn := hF.1
  have hlx := tx_len f n E j
  refine ps_st (S' := (1, [(0, .ref m0), (1, .int (nI j)), (2, .int i)], [.ref m0], M)) rfl rfl rfl ?_
  refine ps_st (S' := (2, [(0, .ref m0), (1, .int (nI j)), (2, .int i)], [.int 0, .ref m0], M)) rfl rfl rfl ?_
  refine pr_put (j := 0) rfl hR rfl (fun M1 I2 hR3 hi4 hI5 => ?_)
  have hi6 := (hI5 18 (by decide)).trans hi18
  have hi7 := (hI5 51 (by decide)).trans hi51
  have hi8 := (hI5 52 (by decide)).trans hi52
  have hi9 := (hI5 53 (by decide)).trans hi53
  have hF_10 := hF.mono (pIx hI5 (by decide)) (fun _ _ => rfl)
  have hY_11 := hY.mono (pIx hI5 (by decide)) (fun _ _ => rfl)
  have hP_12 := hP.mono (pIx hI5 (by decide)) (fun _ _ => rfl)
  have hEI13 := hEI.put hI5 (by decide)
  show pl _ _ _ (5, [(0, .ref m0), (1, .int (nI j)), (2, .int i)], [], M1) _
  refine ps_st (S' := (6, [(0, .ref m0), (1, .int (nI j)), (2, .int i)], [.ref m0], M1)) rfl rfl rfl ?_
  refine pr_int (j := 18) (S' := (9, [(0, .ref m0), (1, .int (nI j)), (2, .int i)], [.int (nI n2)], M1)) rfl hR3 rfl hi6 rfl ?_
  refine ps_if (S1 := (38, [], [], M1)) (S2 := (12, [(0, .ref m0), (1, .int (nI j)), (2, .int i)], [], M1)) rfl rfl rfl (fun c_9 => ?_) (fun c_9 => ?_)
  · exact absurd (of_decide_eq_true c_9) (show ¬ ((nI n2) < 0) from fun h9 => absurd ((lt_nI (p := n2) (n := 0) (by omega) (by decide)).mp h9) (by omega))
  refine ps_st (S' := (13, [(0, .ref m0), (1, .int (nI j)), (2, .int i)], [.ref m0], M1)) rfl rfl rfl ?_
  refine ps_st (S' := (14, [(0, .ref m0), (1, .int (nI j)), (2, .int i)], [.int (nI j), .ref m0], M1)) rfl rfl rfl ?_
  refine pl_call (a := [.ref m0, .int (nI j)]) (rest := []) rfl rfl rfl (rd_tag (n := n) (f := f) (tx := tx) (cN := cN) (A := A) (N := N) (mj := mj) (E := E) (k := j) hR3 hi7 hi8 hi9 hF_10 hY_11 hP_12 (hEP) (hN) (hmj) (by omega)) (fun v14 M15 q16 => ?_)
  obtain ⟨rfl, rfl⟩ := q16
  show pl _ _ _ (17, [(0, .ref m0), (1, .int (nI j)), (2, .int i)], [.int (nI (tg f E j))], M1) _
  have htg_14 := tg_lt f E j
  refine ps_st (S' := (18, [(0, .ref m0), (1, .int (nI j)), (2, .int i)], [.int 1, .int (nI (tg f E j))], M1)) rfl rfl rfl ?_
  refine ps_if2 (S1 := (38, [], [], M1)) (S2 := (21, [(0, .ref m0), (1, .int (nI j)), (2, .int i)], [], M1)) rfl rfl rfl (fun c_18 => ?_) (fun c_18 => ?_)
  · exact absurd (of_decide_eq_true c_18) (fun h9 => h9 (by rw [h1t]; rfl))
  refine ps_st (S' := (22, [(0, .ref m0), (1, .int (nI j)), (2, .int i)], [.int i], M1)) rfl rfl rfl ?_
  refine ps_if (S1 := (38, [], [], M1)) (S2 := (25, [(0, .ref m0), (1, .int (nI j)), (2, .int i)], [], M1)) rfl rfl rfl (fun c_22 => ?_) (fun c_22 => ?_)
  · have c_22 : i < 0 := of_decide_eq_true c_22
    refine ps_st (S' := (39, [], [.int (-1)], M1)) rfl rfl rfl ?_
    refine ps_st (S' := (52, [], [.int (-1)], M1)) rfl rfl rfl ?_
    exact ps_ret rfl rfl (⟨I2, R, rfl, hR3, hEI13, hER, hi4⟩)
  · have c_22 : ¬ (i < 0) := of_decide_eq_false c_22
    refine ps_st (S' := (26, [(0, .ref m0), (1, .int (nI j)), (2, .int i)], [.int i], M1)) rfl rfl rfl ?_
    refine ps_st (S' := (27, [(0, .ref m0), (1, .int (nI j)), (2, .int i)], [.ref m0, .int i], M1)) rfl rfl rfl ?_
    refine ps_st (S' := (28, [(0, .ref m0), (1, .int (nI j)), (2, .int i)], [.ref m0, .ref m0, .int i], M1)) rfl rfl rfl ?_
    refine ps_st (S' := (29, [(0, .ref m0), (1, .int (nI j)), (2, .int i)], [.int (nI j), .ref m0, .ref m0, .int i], M1)) rfl rfl rfl ?_
    refine pl_call (a := [.ref m0, .int (nI j)]) (rest := [.ref m0, .int i]) rfl rfl rfl (rd_symOf (n := n) (f := f) (tx := tx) (cN := cN) (A := A) (N := N) (mj := mj) (E := E) (k := j) hR3 hi7 hi8 hi9 hF_10 hY_11 hP_12 (hEP) (hN) (hmj) (by omega)) (fun v17 M18 q19 => ?_)
    obtain ⟨s20, q29_s, rfl, rfl⟩ := q19
    show pl _ _ _ (32, [(0, .ref m0), (1, .int (nI j)), (2, .int i)], [.int (nI s20), .ref m0, .int i], M1) _
    have hsl_29 := q29_s.1
    have htl_29 := hY_11.1.2.2.1
    refine pl_call (a := [.ref m0, .int (nI s20)]) (rest := [.int i]) rfl rfl rfl (rd_length (tx := tx) (cN := cN) (A := A) (s := s20) (l := (tX f n E j)) hR3 hY_11 (q29_s)) (fun v21 M22 q23 => ?_)
    obtain ⟨rfl, rfl⟩ := q23
    show pl _ _ _ (35, [(0, .ref m0), (1, .int (nI j)), (2, .int i)], [.int (nI ((tX f n E j).length)), .int i], M1) _
    refine ps_if2 (S1 := (42, [(0, .ref m0), (1, .int (nI j)), (2, .int i)], [], M1)) (S2 := (38, [], [], M1)) rfl rfl rfl (fun c_35 => ?_) (fun c_35 => ?_)
    · exact absurd (of_decide_eq_true c_35) (hi.resolve_left c_22)
    refine ps_st (S' := (39, [], [.int (-1)], M1)) rfl rfl rfl ?_
    refine ps_st (S' := (52, [], [.int (-1)], M1)) rfl rfl rfl ?_
    exact ps_ret rfl rfl (⟨I2, R, rfl, hR3, hEI13, hER, hi4⟩)
set_option maxHeartbeats 1000000 in
theorem rd_characterI {g : xe_G} {m0 : Nat} {q : Nat → Nat} {z : Nat × Nat} {I : rI} {R : rR} {M : mi_H} {n : Nat} {f : Nat → Int32} {tx : List (List Nat)} {cN : Nat} {A : Nat → Nat} {N mj : Nat} {E : List (Nat × Nat)} {n2 : Nat} {j t : Nat} (hR : RS g m0 q z I R M) (hi18 : I 18 = some (nI n2)) (hi51 : I 51 = some 0) (hi52 : I 52 = some (nI N)) (hi53 : I 53 = some (nI mj)) (hF : FK n f I R) (hY : SYT tx cN A I R) (hP : RPV f n E tx N I R) (hEP : EP f n E) (hN : N < 65536) (hmj : mj < 65536) (hn2 : n2 ≤ 65540) (hj : j < 65536) (h1t : tg f E j = 1) (ht : t < (tX f n E j).length) : pt (mT g) 186 [.ref m0, .int (nI j), .int (nI t)] M (fun v M' => (∃  (I' : rI) (R' : rR), v = some (.int (nI ((tX f n E j).getD t 0))) ∧ RS g m0 q z I' R' M' ∧ eqI [0] I I' ∧ eqR [] R R' ∧ I' 0 = some 0)) := by
  refine pt_in (b := mb_186 g) rfl (fun kf => ?_)
  show pl (mT g) kf (mb_186 g).2 (0, [(0, .ref m0), (1, .int (nI j)), (2, .int (nI t))], [], M) _
  have hEI : eqI [0] I I := eqI.rf
  have hER : eqR [] R R := eqR.rf
  have hn := hF.1
  have hlx := tx_len f n E j
  refine ps_st (S' := (1, [(0, .ref m0), (1, .int (nI j)), (2, .int (nI t))], [.ref m0], M)) rfl rfl rfl ?_
  refine ps_st (S' := (2, [(0, .ref m0), (1, .int (nI j)), (2, .int (nI t))], [.int 0, .ref m0], M)) rfl rfl rfl ?_
  refine pr_put (j := 0) rfl hR rfl (fun M1 I2 hR3 hi4 hI5 => ?_)
  have hi6 := (hI5 18 (by decide)).trans hi18
  have hi7 := (hI5 51 (by decide)).trans hi51
  have hi8 := (hI5 52 (by decide)).trans hi52
  have hi9 := (hI5 53 (by decide)).trans hi53
  have hF_10 := hF.mono (pIx hI5 (by decide)) (fun _ _ => rfl)
  have hY_11 := hY.mono (pIx hI5 (by decide)) (fun _ _ => rfl)
  have hP_12 := hP.mono (pIx hI5 (by decide)) (fun _ _ => rfl)
  have hEI13 := hEI.put hI5 (by decide)
  show pl _ _ _ (5, [(0, .ref m0), (1, .int (nI j)), (2, .int (nI t))], [], M1) _
  refine ps_st (S' := (6, [(0, .ref m0), (1, .int (nI j)), (2, .int (nI t))], [.ref m0], M1)) rfl rfl rfl ?_
  refine pr_int (j := 18) (S' := (9, [(0, .ref m0), (1, .int (nI j)), (2, .int (nI t))], [.int (nI n2)], M1)) rfl hR3 rfl hi6 rfl ?_
  refine ps_if (S1 := (38, [], [], M1)) (S2 := (12, [(0, .ref m0), (1, .int (nI j)), (2, .int (nI t))], [], M1)) rfl rfl rfl (fun c_9 => ?_) (fun c_9 => ?_)
  · exact absurd (of_decide_eq_true c_9) (show ¬ ((nI n2) < 0) from fun h9 => absurd ((lt_nI (p := n2) (n := 0) (by omega) (by decide)).mp h9) (by omega))
  refine ps_st (S' := (13, [(0, .ref m0), (1, .int (nI j)), (2, .int (nI t))], [.ref m0], M1)) rfl rfl rfl ?_
  refine ps_st (S' := (14, [(0, .ref m0), (1, .int (nI j)), (2, .int (nI t))], [.int (nI j), .ref m0], M1)) rfl rfl rfl ?_
  refine pl_call (a := [.ref m0, .int (nI j)]) (rest := []) rfl rfl rfl (rd_tag (n := n) (f := f) (tx := tx) (cN := cN) (A := A) (N := N) (mj := mj) (E := E) (k := j) hR3 hi7 hi8 hi9 hF_10 hY_11 hP_12 (hEP) (hN) (hmj) (by omega)) (fun v14 M15 q16 => ?_)
  obtain ⟨rfl, rfl⟩ := q16
  show pl _ _ _ (17, [(0, .ref m0), (1, .int (nI j)), (2, .int (nI t))], [.int (nI (tg f E j))], M1) _
  have htg_14 := tg_lt f E j
  refine ps_st (S' := (18, [(0, .ref m0), (1, .int (nI j)), (2, .int (nI t))], [.int 1, .int (nI (tg f E j))], M1)) rfl rfl rfl ?_
  refine ps_if2 (S1 := (38, [], [], M1)) (S2 := (21, [(0, .ref m0), (1, .int (nI j)), (2, .int (nI t))], [], M1)) rfl rfl rfl (fun c_18 => ?_) (fun c_18 => ?_)
  · exact absurd (of_decide_eq_true c_18) (fun h9 => h9 (by rw [h1t]; rfl))
  refine ps_st (S' := (22, [(0, .ref m0), (1, .int (nI j)), (2, .int (nI t))], [.int (nI t)], M1)) rfl rfl rfl ?_
  refine ps_if (S1 := (38, [], [], M1)) (S2 := (25, [(0, .ref m0), (1, .int (nI j)), (2, .int (nI t))], [], M1)) rfl rfl rfl (fun c_22 => ?_) (fun c_22 => ?_)
  · exact absurd (of_decide_eq_true c_22) (show ¬ ((nI t) < 0) from fun h9 => absurd ((lt_nI (p := t) (n := 0) (by omega) (by decide)).mp h9) (by omega))
  refine ps_st (S' := (26, [(0, .ref m0), (1, .int (nI j)), (2, .int (nI t))], [.int (nI t)], M1)) rfl rfl rfl ?_
  refine ps_st (S' := (27, [(0, .ref m0), (1, .int (nI j)), (2, .int (nI t))], [.ref m0, .int (nI t)], M1)) rfl rfl rfl ?_
  refine ps_st (S' := (28, [(0, .ref m0), (1, .int (nI j)), (2, .int (nI t))], [.ref m0, .ref m0, .int (nI t)], M1)) rfl rfl rfl ?_
  refine ps_st (S' := (29, [(0, .ref m0), (1, .int (nI j)), (2, .int (nI t))], [.int (nI j), .ref m0, .ref m0, .int (nI t)], M1)) rfl rfl rfl ?_
  refine pl_call (a := [.ref m0, .int (nI j)]) (rest := [.ref m0, .int (nI t)]) rfl rfl rfl (rd_symOf (n := n) (f := f) (tx := tx) (cN := cN) (A := A) (N := N) (mj := mj) (E := E) (k := j) hR3 hi7 hi8 hi9 hF_10 hY_11 hP_12 (hEP) (hN) (hmj) (by omega)) (fun v17 M18 q19 => ?_)
  obtain ⟨s20, q29_s, rfl, rfl⟩ := q19
  show pl _ _ _ (32, [(0, .ref m0), (1, .int (nI j)), (2, .int (nI t))], [.int (nI s20), .ref m0, .int (nI t)], M1) _
  have hsl_29 := q29_s.1
  have htl_29 := hY_11.1.2.2.1
  refine pl_call (a := [.ref m0, .int (nI s20)]) (rest := [.int (nI t)]) rfl rfl rfl (rd_length (tx := tx) (cN := cN) (A := A) (s := s20) (l := (tX f n E j)) hR3 hY_11 (q29_s)) (fun v21 M22 q23 => ?_)
  obtain ⟨rfl, rfl⟩ := q23
  show pl _ _ _ (35, [(0, .ref m0), (1, .int (nI j)), (2, .int (nI t))], [.int (nI ((tX f n E j).length)), .int (nI t)], M1) _
  refine ps_if2 (S1 := (42, [(0, .ref m0), (1, .int (nI j)), (2, .int (nI t))], [], M1)) (S2 := (38, [], [], M1)) rfl rfl rfl (fun c_35 => ?_) (fun c_35 => ?_)
  rotate_left
  · exact absurd ((lt_nI (by omega) (by omega)).mpr ht) (of_decide_eq_false c_35)
  refine ps_st (S' := (43, [(0, .ref m0), (1, .int (nI j)), (2, .int (nI t))], [.ref m0], M1)) rfl rfl rfl ?_
  refine ps_st (S' := (44, [(0, .ref m0), (1, .int (nI j)), (2, .int (nI t))], [.ref m0, .ref m0], M1)) rfl rfl rfl ?_
  refine ps_st (S' := (45, [(0, .ref m0), (1, .int (nI j)), (2, .int (nI t))], [.int (nI j), .ref m0, .ref m0], M1)) rfl rfl rfl ?_
  refine pl_call (a := [.ref m0, .int (nI j)]) (rest := [.ref m0]) rfl rfl rfl (rd_symOf (n := n) (f := f) (tx := tx) (cN := cN) (A := A) (N := N) (mj := mj) (E := E) (k := j) hR3 hi7 hi8 hi9 hF_10 hY_11 hP_12 (hEP) (hN) (hmj) (by omega)) (fun v24 M25 q26 => ?_)
  obtain ⟨s27, q45_s, rfl, rfl⟩ := q26
  show pl _ _ _ (48, [(0, .ref m0), (1, .int (nI j)), (2, .int (nI t))], [.int (nI s27), .ref m0], M1) _
  have hsl_45 := q45_s.1
  have htl_45 := hY_11.1.2.2.1
  refine ps_st (S' := (49, [(0, .ref m0), (1, .int (nI j)), (2, .int (nI t))], [.int (nI t), .int (nI s27), .ref m0], M1)) rfl rfl rfl ?_
  refine pl_call (a := [.ref m0, .int (nI s27), .int (nI t)]) (rest := []) rfl rfl rfl (rd_at (tx := tx) (cN := cN) (A := A) (s := s27) (l := (tX f n E j)) (k := t) hR3 hY_11 (q45_s) (ht)) (fun v28 M29 q30 => ?_)
  obtain ⟨rfl, rfl⟩ := q30
  show pl _ _ _ (52, [], [.int (nI ((tX f n E j).getD t 0))], M1) _
  exact ps_reti rfl (⟨I2, R, rfl, hR3, hEI13, hER, hi4⟩)
theorem rd_character {g : xe_G} {m0 : Nat} {q : Nat → Nat} {z : Nat × Nat} {I : rI} {R : rR} {M : mi_H} {ko : Option (Nat × (Nat → Int32))} {k i : Int32} (hR : RS g m0 q z I R M) (hK : KPR ko I R) : pt (mT g) 186 [.ref m0, .int k, .int i] M (fun v M' => ∃ (I' : rI) (R' : rR), v = some (.int (chK ko k i)) ∧ RS g m0 q z I' R' M' ∧ eqI [0] I I' ∧ eqR [] R R' ∧ I' 0 = some 0) := by
  cases ko with
  | none =>
    obtain ⟨kn, h1, h2⟩ := hK
    exact rd_character0 hR h1 h2
  | some r =>
    obtain ⟨h1, h2, -, -, tx, cN, A, E, N, mj, p1, pF, pM, pA, k1, k2, k3, k4, k5, k6, k7, rfl, rfl⟩ := hK
    rw [chK_is k7]
    have hN := by2_lt r.2 8
    have hpl := whole_in k7
    have hEP := (EP_of hpl).1
    have h0 := tg_0 hpl
    unfold chI
    by_cases ht : tg r.2 E k.toNatClampNeg = 1
    · have hk0 : ¬ k < 0 := fun h9 => by rw [i32_cl h9, h0] at ht; cases ht
      have e := i32_nn hk0
      obtain ⟨j, ej⟩ : ∃ j, j = k.toNatClampNeg := ⟨_, rfl⟩
      rw [← ej] at e ht ⊢
      have hj : j < 65536 := Nat.not_le.mp (fun h9 => by
        unfold tg at ht
        rw [lk_hi k3.1 (Or.inr (by omega))] at ht
        cases ht)
      subst e
      have hl := tx_len r.2 r.1 E j
      by_cases hi : i < 0 ∨ ¬ i < nI (tX r.2 r.1 E j).length
      · rw [if_neg (fun q => hi.elim q.2.1 (fun h9 => h9 (i32_lt (by omega) q.2.1 q.2.2)))]
        exact rd_characterN hR h1 k4 k5 k6 k1 k2 k3 hEP hN (by2_lt _ _) h2 hj ht hi
      · have hi0 : ¬ i < 0 := fun h9 => hi (Or.inl h9)
        have hi1 : i.toNatClampNeg < (tX r.2 r.1 E j).length := Nat.not_le.mp (fun h9 => hi (Or.inr (fun h8 => by
          have h7 := Int32.lt_iff_toInt_lt.mp h8
          rw [nI_val (by omega)] at h7
          have h6 := i32_to hi0
          omega)))
        rw [if_pos ⟨ht, hi0, hi1⟩]
        have e2 := i32_nn hi0
        obtain ⟨t, et⟩ : ∃ t, t = i.toNatClampNeg := ⟨_, rfl⟩
        rw [← et] at e2 hi1 ⊢
        subst e2
        exact rd_characterI hR h1 k4 k5 k6 k1 k2 k3 hEP hN (by2_lt _ _) h2 hj ht hi1
    · rw [if_neg (fun q => ht q.1)]
      exact rd_characterT hR h1 k4 k5 k6 k1 k2 k3 hEP hN (by2_lt _ _) h2 h0 ht
end
section
/-! the bits of a number, as both sides tell them (my own text) -/
section BIA
variable {f : Nat → Int32} {n : Nat} {E : List (Nat × Nat)} {j : Nat}
def bL4 (f : Nat → Int32) (p : Nat) : Int64 := Int32.toInt64 (nI (by4 f (p + 1)))
def bL8 (f : Nat → Int32) (p : Nat) : Int64 := (nL (by4 f (p + 1)) <<< (Int32.toInt64 32 &&& 63)) ||| nL (by4 f (p + 5))
def plc (E : List (Nat × Nat)) (j : Nat) : Nat := (lk E j).getD 0
def biI (f : Nat → Int32) (E : List (Nat × Nat)) (k : Int32) : Int64 := if tg f E k.toNatClampNeg = 3 ∨ tg f E k.toNatClampNeg = 4 then bL4 f (plc E k.toNatClampNeg) else if tg f E k.toNatClampNeg = 5 ∨ tg f E k.toNatClampNeg = 6 then bL8 f (plc E k.toNatClampNeg) else 0
/-- what is kept tells it -/
def biK (ko : Option (Nat × (Nat → Int32))) (k : Int32) : Int64 := match ko with
  | none => 0
  | some r => match s_whole r.2 r.1 with
    | .inl _ => 0
    | .inr y => biI r.2 y.1 k
theorem biK_is {r : Nat × (Nat → Int32)} {k : Int32} {y : Nat × Nat × Nat × Nat} (h : s_whole r.2 r.1 = .inr (E, y)) : biK (some r) k = biI r.2 E k := by
  show (match s_whole r.2 r.1 with | .inl _ => 0 | .inr y => biI r.2 y.1 k) = _
  rw [h]
theorem nL_bv {x : Nat} : (nL x).toBitVec = BitVec.ofNat 64 x := rfl
theorem l2i_all {p : Nat} : Int64.toInt32 (nL p) = nI p := by
  apply Int32.toBitVec_inj.mp
  rw [Int64.toBitVec_toInt32, nL_bv, nI_bv, BitVec.signExtend_eq_setWidth_of_le _ (by decide)]
  apply BitVec.eq_of_toNat_eq
  simp only [BitVec.toNat_setWidth, BitVec.toNat_ofNat]
  omega
theorem msk32 (i : Nat) (h : i < 64) : (4294967295 : Int64).toBitVec.getLsbD i = decide (i < 32) := by
  have e : (4294967295 : Int64).toBitVec = BitVec.ofNat 64 (2 ^ 32 - 1) := by decide
  rw [e, BitVec.getLsbD_ofNat, Nat.testBit_two_pow_sub_one]
  simp only [h, decide_true, Bool.true_and]
theorem bits8 {a b : Nat} (ha : a < 4294967296) (hb : b < 4294967296) : ((Int32.toInt64 (nI a)) <<< (Int32.toInt64 32 &&& 63)) ||| ((Int32.toInt64 (nI b)) &&& 4294967295) = (nL a <<< (Int32.toInt64 32 &&& 63)) ||| nL b := by
  apply Int64.toBitVec_inj.mp
  have e32 : (Int32.toInt64 32 &&& 63).toBitVec.smod 64 = 32#64 := by decide
  rw [Int64.toBitVec_or, Int64.toBitVec_or, Int64.toBitVec_and, Int64.toBitVec_shiftLeft, Int64.toBitVec_shiftLeft, Int32.toBitVec_toInt64, Int32.toBitVec_toInt64, nI_bv, nI_bv, nL_bv, nL_bv, e32]
  apply BitVec.eq_of_getLsbD_eq
  intro i hi
  have e3 : (32#64).toNat = 32 := by decide
  rw [BitVec.getLsbD_or, BitVec.getLsbD_or, BitVec.getLsbD_and, msk32 i hi, BitVec.shiftLeft_eq', BitVec.shiftLeft_eq', e3, BitVec.getLsbD_shiftLeft, BitVec.getLsbD_shiftLeft]
  by_cases h : i < 32
  · have h2 : (BitVec.signExtend 64 (BitVec.ofNat 32 b)).getLsbD i = (BitVec.ofNat 64 b).getLsbD i := by
      rw [BitVec.getLsbD_signExtend, BitVec.getLsbD_ofNat, BitVec.getLsbD_ofNat]
      simp only [h, hi, decide_true, Bool.true_and, if_true]
    rw [h2]
    simp only [h, decide_true, Bool.not_true, Bool.and_false, Bool.false_and, Bool.false_or, Bool.and_true]
  · have h3 : (BitVec.ofNat 64 b).getLsbD i = false := by
      rw [BitVec.getLsbD_ofNat, Nat.testBit_lt_two_pow (Nat.lt_of_lt_of_le hb (by
        have : 2 ^ 32 ≤ 2 ^ i := Nat.pow_le_pow_right (by decide) (by omega)
        omega))]
      exact Bool.and_false _
    have h4 : (BitVec.signExtend 64 (BitVec.ofNat 32 a)).getLsbD (i - 32) = (BitVec.ofNat 64 a).getLsbD (i - 32) := by
      have q1 : i - 32 < 32 := by omega
      have q2 : i - 32 < 64 := by omega
      rw [BitVec.getLsbD_signExtend, BitVec.getLsbD_ofNat, BitVec.getLsbD_ofNat]
      simp only [q1, q2, decide_true, Bool.true_and, if_true]
    rw [h3, h4]
    simp only [h, decide_false, Bool.and_false, Bool.or_false]
/-- numbers lie within the file -/
def nu1 (f : Nat → Int32) (n p : Nat) : Prop := (by1 f p = 3 ∨ by1 f p = 4 → p + 5 ≤ n) ∧ (by1 f p = 5 ∨ by1 f p = 6 → p + 9 ≤ n)
theorem nums_ok {mj N : Nat} : ∀ {r k p p' : Nat} {E0 E : List (Nat × Nat)}, (∀ q ∈ E0, nu1 f n q.2) → s_ents f n mj N r k p E0 = .inr (p', E) → ∀ q ∈ E, nu1 f n q.2 := by
  intro r
  induction r with
  | zero => intro k p p' E0 E h0 h; cases h; exact h0
  | succ r ih =>
    intro k p p' E0 E h0 h
    unfold s_ents at h
    split at h
    · cases h; exact h0
    · cases he : s_entry f n mj N k p with
      | inl e => rw [he] at h; cases h
      | inr y =>
        obtain ⟨p2, x⟩ := y
        rw [he] at h
        refine ih ?_ h
        intro q hq
        rcases List.mem_append.mp hq with hq | hq
        · exact h0 q hq
        · have e : q = (k, p) := by simpa using hq
          rw [e]
          refine ⟨fun h9 => ?_, fun h9 => ?_⟩
          · refine Nat.not_lt.mp (fun h8 => ?_)
            dsimp only at h9 h8
            unfold s_entry at he
            rw [if_neg (show ¬ ((by1 f p = 5 ∨ by1 f p = 6) ∧ N ≤ k + 1) by omega), if_neg (show ¬ by1 f p = 1 by omega), if_pos h9, if_pos h8] at he
            split at he
            · cases he
            · split at he <;> cases he
          · refine Nat.not_lt.mp (fun h8 => ?_)
            dsimp only at h9 h8
            unfold s_entry at he
            rw [if_neg (show ¬ by1 f p = 1 by omega), if_neg (show ¬ (by1 f p = 3 ∨ by1 f p = 4) by omega), if_pos h9] at he
            repeat' split at he
            all_goals first | cases he | omega
theorem nums_of {mj p' p : Nat} (h : s_pool f n mj = .inr (p', E)) (hp : lk E j = some p) : nu1 f n p := by
  unfold s_pool at h
  split at h
  · cases h
  · split at h
    · cases h
    · exact nums_ok (fun q hq => by cases hq) h _ (lk_in hp)
theorem plc_of {p : Nat} (h : lk E j = some p) : plc E j = p := by
  unfold plc
  rw [h]
  rfl
end BIA
theorem dz_tagOf {g : xe_G} {M : mi_H} {f : Nat → Int32} {n N q : Nat} {E : List (Nat × Nat)} {k : Int32}  (hV : PV g f n N E q M) (h0 : tg f E 0 = 0) : pt (mT g) 138 [.ref q, .int k] M (fun v M' => (v = some (.int (nI (tg f E k.toNatClampNeg))) ∧ M = M')) := by
  obtain ⟨hL9, H, m, qq, F, cc, hP9, hT9, -, hb9, hVF, -⟩ := id hV
  exact (ct_tagOf hP9 (d := 3) (by decide)).pt.mono (fun v M' h => ⟨by rw [h.1, hVF.tagR hb9.1 h0], h.2.symm⟩)
theorem dz_tagPlace {g : xe_G} {M : mi_H} {f : Nat → Int32} {n N q : Nat} {E : List (Nat × Nat)} {k : Int32}  (hV : PV g f n N E q M) : pt (mT g) 139 [.ref q, .int k] M (fun v M' => (∃ (x : Int32), v = some (.int x) ∧ M = M')) := by
  obtain ⟨hL9, H, m, qq, F, cc, hP9, hT9, -, hb9, hVF, -⟩ := id hV
  exact (ct_tagPlace hP9 (d := 3) (by decide)).pt.mono (fun v M' h => ⟨_, h.1, h.2.symm⟩)
set_option maxHeartbeats 1000000 in
theorem dk_bits0 {g : xe_G} {M : mi_H} {o ca fl : Nat} {cn wp k : Int32} (h_o : M.1 o = some (ob 11 [.ref ca, .int cn, .ref fl, .null, .int wp]))  : pt (mT g) 1 [.ref o, .int k] M (fun v M' => (v = some (.long 0) ∧ M = M')) := by
  refine pt_in (b := mb_1 g) rfl (fun kf => ?_)
  show pl (mT g) kf (mb_1 g).2 (0, [(0, .ref o), (1, .int k)], [], M) _
  refine ps_st (S' := (1, [(0, .ref o), (1, .int k)], [.ref o], M)) rfl rfl rfl ?_
  refine ps_get (S' := (4, [(0, .ref o), (1, .int k)], [.null], M)) rfl h_o rfl rfl ?_
  refine ps_st (S' := (7, [(0, .ref o), (1, .int k)], [], M)) rfl rfl rfl ?_
  refine ps_st (S' := (8, [(0, .ref o), (1, .int k)], [.long 0], M)) rfl rfl rfl ?_
  exact ps_ret rfl rfl (⟨rfl, rfl⟩)
set_option maxHeartbeats 1000000 in
theorem dk_bitsT {g : xe_G} {M : mi_H} {f : Nat → Int32} {n N q : Nat} {E : List (Nat × Nat)} {o ca fl c b : Nat} {cn wp : Int32} {w : List Value} {k : Int32} (h_o : M.1 o = some (ob 11 [.ref ca, .int cn, .ref fl, .ref c, .int wp])) (h_c : M.1 c = some (ob 3 (.ref b :: .ref q :: w))) (hV : PV g f n N E q M) (h0 : tg f E 0 = 0) (ht : ¬ (3 ≤ tg f E k.toNatClampNeg ∧ tg f E k.toNatClampNeg ≤ 6)) : pt (mT g) 1 [.ref o, .int k] M (fun v M' => (v = some (.long 0) ∧ M = M')) := by
  refine pt_in (b := mb_1 g) rfl (fun kf => ?_)
  show pl (mT g) kf (mb_1 g).2 (0, [(0, .ref o), (1, .int k)], [], M) _
  obtain ⟨hL9, H, m, qq, F, cc, hP9, -, -, hb9, -⟩ := id hV
  have h_q := hP9.1
  have hN9 := hb9.2.2
  have htl9 := tg_lt f E k.toNatClampNeg
  refine ps_st (S' := (1, [(0, .ref o), (1, .int k)], [.ref o], M)) rfl rfl rfl ?_
  refine ps_get (S' := (4, [(0, .ref o), (1, .int k)], [.ref c], M)) rfl h_o rfl rfl ?_
  refine ps_st (S' := (9, [(0, .ref o), (1, .int k)], [], M)) rfl rfl rfl ?_
  refine ps_st (S' := (10, [(0, .ref o), (1, .int k)], [.ref o], M)) rfl rfl rfl ?_
  refine ps_get (S' := (13, [(0, .ref o), (1, .int k)], [.ref c], M)) rfl h_o rfl rfl ?_
  refine ps_get (S' := (16, [(0, .ref o), (1, .int k)], [.ref q], M)) rfl h_c rfl rfl ?_
  refine ps_st (S' := (17, [(0, .ref o), (1, .int k)], [.int k, .ref q], M)) rfl rfl rfl ?_
  refine pl_call (a := [.ref q, .int k]) (rest := []) rfl rfl rfl (dz_tagOf (f := f) (n := n) (N := N) (q := q) (E := E) (k := k) (hV) (h0)) (fun v1 M2 q3 => ?_)
  obtain ⟨rfl, rfl⟩ := q3
  show pl _ _ _ (20, [(0, .ref o), (1, .int k)], [.int (nI (tg f E k.toNatClampNeg))], M) _
  refine ps_st (S' := (21, [(2, .int (nI (tg f E k.toNatClampNeg))), (0, .ref o), (1, .int k)], [], M)) rfl rfl rfl ?_
  refine ps_st (S' := (22, [(2, .int (nI (tg f E k.toNatClampNeg))), (0, .ref o), (1, .int k)], [.ref o], M)) rfl rfl rfl ?_
  refine ps_get (S' := (25, [(2, .int (nI (tg f E k.toNatClampNeg))), (0, .ref o), (1, .int k)], [.ref c], M)) rfl h_o rfl rfl ?_
  refine ps_get (S' := (28, [(2, .int (nI (tg f E k.toNatClampNeg))), (0, .ref o), (1, .int k)], [.ref q], M)) rfl h_c rfl rfl ?_
  refine ps_st (S' := (29, [(2, .int (nI (tg f E k.toNatClampNeg))), (0, .ref o), (1, .int k)], [.int k, .ref q], M)) rfl rfl rfl ?_
  refine pl_call (a := [.ref q, .int k]) (rest := []) rfl rfl rfl (dz_tagPlace (f := f) (n := n) (N := N) (q := q) (E := E) (k := k) (hV)) (fun v4 M5 q6 => ?_)
  obtain ⟨x7, rfl, rfl⟩ := q6
  show pl _ _ _ (32, [(2, .int (nI (tg f E k.toNatClampNeg))), (0, .ref o), (1, .int k)], [.int x7], M) _
  refine ps_st (S' := (33, [(2, .int (nI (tg f E k.toNatClampNeg))), (0, .ref o), (1, .int k)], [.int 1, .int x7], M)) rfl rfl rfl ?_
  refine ps_st (S' := (34, [(2, .int (nI (tg f E k.toNatClampNeg))), (0, .ref o), (1, .int k)], [.int (x7 + 1)], M)) rfl rfl rfl ?_
  refine ps_st (S' := (35, [(3, .int (x7 + 1)), (2, .int (nI (tg f E k.toNatClampNeg))), (0, .ref o), (1, .int k)], [], M)) rfl rfl rfl ?_
  refine ps_st (S' := (36, [(3, .int (x7 + 1)), (2, .int (nI (tg f E k.toNatClampNeg))), (0, .ref o), (1, .int k)], [.int (nI (tg f E k.toNatClampNeg))], M)) rfl rfl rfl ?_
  refine ps_st (S' := (37, [(3, .int (x7 + 1)), (2, .int (nI (tg f E k.toNatClampNeg))), (0, .ref o), (1, .int k)], [.int 3, .int (nI (tg f E k.toNatClampNeg))], M)) rfl rfl rfl ?_
  refine ps_if2 (S1 := (45, [(0, .ref o), (3, .int (x7 + 1))], [], M)) (S2 := (40, [(3, .int (x7 + 1)), (2, .int (nI (tg f E k.toNatClampNeg))), (0, .ref o), (1, .int k)], [], M)) rfl rfl rfl (fun c_37 => ?_) (fun c_37 => ?_)
  · exact absurd (of_decide_eq_true c_37) (fun h9 => ht (by have h8 := (eq_nI (p := tg f E k.toNatClampNeg) (n := 3) (by omega) (by decide)).mp h9; omega))
  refine ps_st (S' := (41, [(3, .int (x7 + 1)), (2, .int (nI (tg f E k.toNatClampNeg))), (0, .ref o), (1, .int k)], [.int (nI (tg f E k.toNatClampNeg))], M)) rfl rfl rfl ?_
  refine ps_st (S' := (42, [(3, .int (x7 + 1)), (2, .int (nI (tg f E k.toNatClampNeg))), (0, .ref o), (1, .int k)], [.int 4, .int (nI (tg f E k.toNatClampNeg))], M)) rfl rfl rfl ?_
  refine ps_if2 (S1 := (58, [(3, .int (x7 + 1)), (2, .int (nI (tg f E k.toNatClampNeg))), (0, .ref o), (1, .int k)], [], M)) (S2 := (45, [(0, .ref o), (3, .int (x7 + 1))], [], M)) rfl rfl rfl (fun c_42 => ?_) (fun c_42 => ?_)
  rotate_left
  · exact absurd (show ¬ (nI (tg f E k.toNatClampNeg)) = 4 from fun h9 => ht (by have h8 := (eq_nI (p := tg f E k.toNatClampNeg) (n := 4) (by omega) (by decide)).mp h9; omega)) (of_decide_eq_false c_42)
  refine ps_st (S' := (59, [(3, .int (x7 + 1)), (2, .int (nI (tg f E k.toNatClampNeg))), (0, .ref o), (1, .int k)], [.int (nI (tg f E k.toNatClampNeg))], M)) rfl rfl rfl ?_
  refine ps_st (S' := (60, [(3, .int (x7 + 1)), (2, .int (nI (tg f E k.toNatClampNeg))), (0, .ref o), (1, .int k)], [.int 5, .int (nI (tg f E k.toNatClampNeg))], M)) rfl rfl rfl ?_
  refine ps_if2 (S1 := (69, [(0, .ref o), (3, .int (x7 + 1))], [], M)) (S2 := (63, [(3, .int (x7 + 1)), (2, .int (nI (tg f E k.toNatClampNeg))), (0, .ref o), (1, .int k)], [], M)) rfl rfl rfl (fun c_60 => ?_) (fun c_60 => ?_)
  · exact absurd (of_decide_eq_true c_60) (fun h9 => ht (by have h8 := (eq_nI (p := tg f E k.toNatClampNeg) (n := 5) (by omega) (by decide)).mp h9; omega))
  refine ps_st (S' := (64, [(3, .int (x7 + 1)), (2, .int (nI (tg f E k.toNatClampNeg))), (0, .ref o), (1, .int k)], [.int (nI (tg f E k.toNatClampNeg))], M)) rfl rfl rfl ?_
  refine ps_st (S' := (66, [(3, .int (x7 + 1)), (2, .int (nI (tg f E k.toNatClampNeg))), (0, .ref o), (1, .int k)], [.int 6, .int (nI (tg f E k.toNatClampNeg))], M)) rfl rfl rfl ?_
  refine ps_if2 (S1 := (104, [(3, .int (x7 + 1)), (2, .int (nI (tg f E k.toNatClampNeg))), (0, .ref o), (1, .int k)], [], M)) (S2 := (69, [(0, .ref o), (3, .int (x7 + 1))], [], M)) rfl rfl rfl (fun c_66 => ?_) (fun c_66 => ?_)
  rotate_left
  · exact absurd (show ¬ (nI (tg f E k.toNatClampNeg)) = 6 from fun h9 => ht (by have h8 := (eq_nI (p := tg f E k.toNatClampNeg) (n := 6) (by omega) (by decide)).mp h9; omega)) (of_decide_eq_false c_66)
  refine ps_st (S' := (105, [(3, .int (x7 + 1)), (2, .int (nI (tg f E k.toNatClampNeg))), (0, .ref o), (1, .int k)], [.long 0], M)) rfl rfl rfl ?_
  exact ps_ret rfl rfl (⟨rfl, rfl⟩)
set_option maxHeartbeats 1000000 in
theorem dk_bits4 {g : xe_G} {M : mi_H} {f : Nat → Int32} {n N q : Nat} {E : List (Nat × Nat)} {o ca fl c b : Nat} {cn wp : Int32} {w : List Value} {da j p : Nat} (h_o : M.1 o = some (ob 11 [.ref ca, .int cn, .ref fl, .ref c, .int wp])) (h_c : M.1 c = some (ob 3 (.ref b :: .ref q :: w))) (h_b : M.1 b = some (ob 1 [.ref da])) (h_da : M.1 da = some (ar .byte n f)) (hV : PV g f n N E q M) (hj : j < 65536) (hn : n ≤ 65540) (hp : lk E j = some p) (htt : tg f E j = 3 ∨ tg f E j = 4) (hin : p + 5 ≤ n) : pt (mT g) 1 [.ref o, .int (nI j)] M (fun v M' => (v = some (.long (bL4 f p)) ∧ M = M')) := by
  refine pt_in (b := mb_1 g) rfl (fun kf => ?_)
  show pl (mT g) kf (mb_1 g).2 (0, [(0, .ref o), (1, .int (nI j))], [], M) _
  obtain ⟨hL9, H, m, qq, F, cc, hP9, -, -, hb9, -⟩ := id hV
  have h_q := hP9.1
  have hN9 := hb9.2.2
  have htl9 := tg_lt f E j
  refine ps_st (S' := (1, [(0, .ref o), (1, .int (nI j))], [.ref o], M)) rfl rfl rfl ?_
  refine ps_get (S' := (4, [(0, .ref o), (1, .int (nI j))], [.ref c], M)) rfl h_o rfl rfl ?_
  refine ps_st (S' := (9, [(0, .ref o), (1, .int (nI j))], [], M)) rfl rfl rfl ?_
  refine ps_st (S' := (10, [(0, .ref o), (1, .int (nI j))], [.ref o], M)) rfl rfl rfl ?_
  refine ps_get (S' := (13, [(0, .ref o), (1, .int (nI j))], [.ref c], M)) rfl h_o rfl rfl ?_
  refine ps_get (S' := (16, [(0, .ref o), (1, .int (nI j))], [.ref q], M)) rfl h_c rfl rfl ?_
  refine ps_st (S' := (17, [(0, .ref o), (1, .int (nI j))], [.int (nI j), .ref q], M)) rfl rfl rfl ?_
  refine pl_call (a := [.ref q, .int (nI j)]) (rest := []) rfl rfl rfl (dy_tagOf (f := f) (n := n) (N := N) (q := q) (E := E) (j := j) (hV) (hj)) (fun v1 M2 q3 => ?_)
  obtain ⟨rfl, rfl⟩ := q3
  show pl _ _ _ (20, [(0, .ref o), (1, .int (nI j))], [.int (nI (tg f E j))], M) _
  refine ps_st (S' := (21, [(2, .int (nI (tg f E j))), (0, .ref o), (1, .int (nI j))], [], M)) rfl rfl rfl ?_
  refine ps_st (S' := (22, [(2, .int (nI (tg f E j))), (0, .ref o), (1, .int (nI j))], [.ref o], M)) rfl rfl rfl ?_
  refine ps_get (S' := (25, [(2, .int (nI (tg f E j))), (0, .ref o), (1, .int (nI j))], [.ref c], M)) rfl h_o rfl rfl ?_
  refine ps_get (S' := (28, [(2, .int (nI (tg f E j))), (0, .ref o), (1, .int (nI j))], [.ref q], M)) rfl h_c rfl rfl ?_
  refine ps_st (S' := (29, [(2, .int (nI (tg f E j))), (0, .ref o), (1, .int (nI j))], [.int (nI j), .ref q], M)) rfl rfl rfl ?_
  refine pl_call (a := [.ref q, .int (nI j)]) (rest := []) rfl rfl rfl (dy_tagPlace (f := f) (n := n) (N := N) (q := q) (E := E) (j := j) (p := p) (hV) (hj) (hp) (by omega)) (fun v4 M5 q6 => ?_)
  obtain ⟨rfl, rfl⟩ := q6
  show pl _ _ _ (32, [(2, .int (nI (tg f E j))), (0, .ref o), (1, .int (nI j))], [.int (nI (p))], M) _
  refine ps_st (S' := (33, [(2, .int (nI (tg f E j))), (0, .ref o), (1, .int (nI j))], [.int 1, .int (nI (p))], M)) rfl rfl rfl ?_
  refine ps_st (S' := (34, [(2, .int (nI (tg f E j))), (0, .ref o), (1, .int (nI j))], [.int ((nI (p)) + 1)], M)) rfl rfl rfl ?_
  rw [nI_add1 (p := p) (k := 1) (x := 1) rfl (by omega)]
  show pl _ _ _ (_, [(2, .int (nI (tg f E j))), (0, .ref o), (1, .int (nI j))], [.int (nI (p + 1))], M) _
  refine ps_st (S' := (35, [(3, .int (nI (p + 1))), (2, .int (nI (tg f E j))), (0, .ref o), (1, .int (nI j))], [], M)) rfl rfl rfl ?_
  refine ps_st (S' := (36, [(3, .int (nI (p + 1))), (2, .int (nI (tg f E j))), (0, .ref o), (1, .int (nI j))], [.int (nI (tg f E j))], M)) rfl rfl rfl ?_
  refine ps_st (S' := (37, [(3, .int (nI (p + 1))), (2, .int (nI (tg f E j))), (0, .ref o), (1, .int (nI j))], [.int 3, .int (nI (tg f E j))], M)) rfl rfl rfl ?_
  refine ps_if2 (S1 := (45, [(0, .ref o), (3, .int (nI (p + 1)))], [], M)) (S2 := (40, [(3, .int (nI (p + 1))), (2, .int (nI (tg f E j))), (0, .ref o), (1, .int (nI j))], [], M)) rfl rfl rfl (fun c_37 => ?_) (fun c_37 => ?_)
  · have c_37 : (nI (tg f E j)) = 3 := of_decide_eq_true c_37
    have n_37 : tg f E j = 3 := (eq_nI (p := tg f E j) (n := 3) (Nat.lt_trans (tg_lt _ _ _) (by decide)) (by decide)).mp c_37
    refine ps_st (S' := (46, [(0, .ref o), (3, .int (nI (p + 1)))], [.ref o], M)) rfl rfl rfl ?_
    refine ps_get (S' := (49, [(0, .ref o), (3, .int (nI (p + 1)))], [.ref c], M)) rfl h_o rfl rfl ?_
    refine ps_get (S' := (52, [(0, .ref o), (3, .int (nI (p + 1)))], [.ref b], M)) rfl h_c rfl rfl ?_
    refine ps_st (S' := (53, [(0, .ref o), (3, .int (nI (p + 1)))], [.int (nI (p + 1)), .ref b], M)) rfl rfl rfl ?_
    refine pl_call (a := [.ref b, .int (nI (p + 1))]) (rest := []) rfl rfl rfl (dk_u4 (f := f) (n := n) (b := b) (da := da) (p := (p + 1)) h_b h_da (hn) (by omega)) (fun v7 M8 q9 => ?_)
    obtain ⟨rfl, rfl⟩ := q9
    show pl _ _ _ (56, [(0, .ref o), (3, .int (nI (p + 1)))], [.int (nI (by4 f (p + 1)))], M) _
    refine ps_st (S' := (57, [(0, .ref o), (3, .int (nI (p + 1)))], [.long (Int32.toInt64 (nI (by4 f (p + 1))))], M)) rfl rfl rfl ?_
    exact ps_ret rfl rfl (⟨rfl, rfl⟩)
  · have c_37 : ¬ ((nI (tg f E j)) = 3) := of_decide_eq_false c_37
    have n_37 : ¬ (tg f E j = 3) := fun h9 => c_37 ((eq_nI (p := tg f E j) (n := 3) (Nat.lt_trans (tg_lt _ _ _) (by decide)) (by decide)).mpr h9)
    refine ps_st (S' := (41, [(3, .int (nI (p + 1))), (2, .int (nI (tg f E j))), (0, .ref o), (1, .int (nI j))], [.int (nI (tg f E j))], M)) rfl rfl rfl ?_
    refine ps_st (S' := (42, [(3, .int (nI (p + 1))), (2, .int (nI (tg f E j))), (0, .ref o), (1, .int (nI j))], [.int 4, .int (nI (tg f E j))], M)) rfl rfl rfl ?_
    refine ps_if2 (S1 := (58, [(3, .int (nI (p + 1))), (2, .int (nI (tg f E j))), (0, .ref o), (1, .int (nI j))], [], M)) (S2 := (45, [(0, .ref o), (3, .int (nI (p + 1)))], [], M)) rfl rfl rfl (fun c_42 => ?_) (fun c_42 => ?_)
    · exact absurd (of_decide_eq_true c_42) (fun h9 => h9 ((eq_nI (p := tg f E j) (n := 4) (Nat.lt_trans (tg_lt _ _ _) (by decide)) (by decide)).mpr (by omega)))
    refine ps_st (S' := (46, [(0, .ref o), (3, .int (nI (p + 1)))], [.ref o], M)) rfl rfl rfl ?_
    refine ps_get (S' := (49, [(0, .ref o), (3, .int (nI (p + 1)))], [.ref c], M)) rfl h_o rfl rfl ?_
    refine ps_get (S' := (52, [(0, .ref o), (3, .int (nI (p + 1)))], [.ref b], M)) rfl h_c rfl rfl ?_
    refine ps_st (S' := (53, [(0, .ref o), (3, .int (nI (p + 1)))], [.int (nI (p + 1)), .ref b], M)) rfl rfl rfl ?_
    refine pl_call (a := [.ref b, .int (nI (p + 1))]) (rest := []) rfl rfl rfl (dk_u4 (f := f) (n := n) (b := b) (da := da) (p := (p + 1)) h_b h_da (hn) (by omega)) (fun v10 M11 q12 => ?_)
    obtain ⟨rfl, rfl⟩ := q12
    show pl _ _ _ (56, [(0, .ref o), (3, .int (nI (p + 1)))], [.int (nI (by4 f (p + 1)))], M) _
    refine ps_st (S' := (57, [(0, .ref o), (3, .int (nI (p + 1)))], [.long (Int32.toInt64 (nI (by4 f (p + 1))))], M)) rfl rfl rfl ?_
    exact ps_ret rfl rfl (⟨rfl, rfl⟩)
set_option maxHeartbeats 1000000 in
theorem dk_bits8 {g : xe_G} {M : mi_H} {f : Nat → Int32} {n N q : Nat} {E : List (Nat × Nat)} {o ca fl c b : Nat} {cn wp : Int32} {w : List Value} {da j p : Nat} (h_o : M.1 o = some (ob 11 [.ref ca, .int cn, .ref fl, .ref c, .int wp])) (h_c : M.1 c = some (ob 3 (.ref b :: .ref q :: w))) (h_b : M.1 b = some (ob 1 [.ref da])) (h_da : M.1 da = some (ar .byte n f)) (hV : PV g f n N E q M) (hj : j < 65536) (hn : n ≤ 65540) (hp : lk E j = some p) (htt : tg f E j = 5 ∨ tg f E j = 6) (hin : p + 9 ≤ n) : pt (mT g) 1 [.ref o, .int (nI j)] M (fun v M' => (v = some (.long (bL8 f p)) ∧ M = M')) := by
  refine pt_in (b := mb_1 g) rfl (fun kf => ?_)
  show pl (mT g) kf (mb_1 g).2 (0, [(0, .ref o), (1, .int (nI j))], [], M) _
  obtain ⟨hL9, H, m, qq, F, cc, hP9, -, -, hb9, -⟩ := id hV
  have h_q := hP9.1
  have hN9 := hb9.2.2
  have htl9 := tg_lt f E j
  refine ps_st (S' := (1, [(0, .ref o), (1, .int (nI j))], [.ref o], M)) rfl rfl rfl ?_
  refine ps_get (S' := (4, [(0, .ref o), (1, .int (nI j))], [.ref c], M)) rfl h_o rfl rfl ?_
  refine ps_st (S' := (9, [(0, .ref o), (1, .int (nI j))], [], M)) rfl rfl rfl ?_
  refine ps_st (S' := (10, [(0, .ref o), (1, .int (nI j))], [.ref o], M)) rfl rfl rfl ?_
  refine ps_get (S' := (13, [(0, .ref o), (1, .int (nI j))], [.ref c], M)) rfl h_o rfl rfl ?_
  refine ps_get (S' := (16, [(0, .ref o), (1, .int (nI j))], [.ref q], M)) rfl h_c rfl rfl ?_
  refine ps_st (S' := (17, [(0, .ref o), (1, .int (nI j))], [.int (nI j), .ref q], M)) rfl rfl rfl ?_
  refine pl_call (a := [.ref q, .int (nI j)]) (rest := []) rfl rfl rfl (dy_tagOf (f := f) (n := n) (N := N) (q := q) (E := E) (j := j) (hV) (hj)) (fun v1 M2 q3 => ?_)
  obtain ⟨rfl, rfl⟩ := q3
  show pl _ _ _ (20, [(0, .ref o), (1, .int (nI j))], [.int (nI (tg f E j))], M) _
  refine ps_st (S' := (21, [(2, .int (nI (tg f E j))), (0, .ref o), (1, .int (nI j))], [], M)) rfl rfl rfl ?_
  refine ps_st (S' := (22, [(2, .int (nI (tg f E j))), (0, .ref o), (1, .int (nI j))], [.ref o], M)) rfl rfl rfl ?_
  refine ps_get (S' := (25, [(2, .int (nI (tg f E j))), (0, .ref o), (1, .int (nI j))], [.ref c], M)) rfl h_o rfl rfl ?_
  refine ps_get (S' := (28, [(2, .int (nI (tg f E j))), (0, .ref o), (1, .int (nI j))], [.ref q], M)) rfl h_c rfl rfl ?_
  refine ps_st (S' := (29, [(2, .int (nI (tg f E j))), (0, .ref o), (1, .int (nI j))], [.int (nI j), .ref q], M)) rfl rfl rfl ?_
  refine pl_call (a := [.ref q, .int (nI j)]) (rest := []) rfl rfl rfl (dy_tagPlace (f := f) (n := n) (N := N) (q := q) (E := E) (j := j) (p := p) (hV) (hj) (hp) (by omega)) (fun v4 M5 q6 => ?_)
  obtain ⟨rfl, rfl⟩ := q6
  show pl _ _ _ (32, [(2, .int (nI (tg f E j))), (0, .ref o), (1, .int (nI j))], [.int (nI (p))], M) _
  refine ps_st (S' := (33, [(2, .int (nI (tg f E j))), (0, .ref o), (1, .int (nI j))], [.int 1, .int (nI (p))], M)) rfl rfl rfl ?_
  refine ps_st (S' := (34, [(2, .int (nI (tg f E j))), (0, .ref o), (1, .int (nI j))], [.int ((nI (p)) + 1)], M)) rfl rfl rfl ?_
  rw [nI_add1 (p := p) (k := 1) (x := 1) rfl (by omega)]
  show pl _ _ _ (_, [(2, .int (nI (tg f E j))), (0, .ref o), (1, .int (nI j))], [.int (nI (p + 1))], M) _
  refine ps_st (S' := (35, [(3, .int (nI (p + 1))), (2, .int (nI (tg f E j))), (0, .ref o), (1, .int (nI j))], [], M)) rfl rfl rfl ?_
  refine ps_st (S' := (36, [(3, .int (nI (p + 1))), (2, .int (nI (tg f E j))), (0, .ref o), (1, .int (nI j))], [.int (nI (tg f E j))], M)) rfl rfl rfl ?_
  refine ps_st (S' := (37, [(3, .int (nI (p + 1))), (2, .int (nI (tg f E j))), (0, .ref o), (1, .int (nI j))], [.int 3, .int (nI (tg f E j))], M)) rfl rfl rfl ?_
  refine ps_if2 (S1 := (45, [(0, .ref o), (3, .int (nI (p + 1)))], [], M)) (S2 := (40, [(3, .int (nI (p + 1))), (2, .int (nI (tg f E j))), (0, .ref o), (1, .int (nI j))], [], M)) rfl rfl rfl (fun c_37 => ?_) (fun c_37 => ?_)
  · exact absurd (of_decide_eq_true c_37) (show ¬ ((nI (tg f E j)) = 3) from fun h9 => absurd ((eq_nI (p := tg f E j) (n := 3) (Nat.lt_trans (tg_lt _ _ _) (by decide)) (by decide)).mp h9) (by omega))
  refine ps_st (S' := (41, [(3, .int (nI (p + 1))), (2, .int (nI (tg f E j))), (0, .ref o), (1, .int (nI j))], [.int (nI (tg f E j))], M)) rfl rfl rfl ?_
  refine ps_st (S' := (42, [(3, .int (nI (p + 1))), (2, .int (nI (tg f E j))), (0, .ref o), (1, .int (nI j))], [.int 4, .int (nI (tg f E j))], M)) rfl rfl rfl ?_
  refine ps_if2 (S1 := (58, [(3, .int (nI (p + 1))), (2, .int (nI (tg f E j))), (0, .ref o), (1, .int (nI j))], [], M)) (S2 := (45, [(0, .ref o), (3, .int (nI (p + 1)))], [], M)) rfl rfl rfl (fun c_42 => ?_) (fun c_42 => ?_)
  rotate_left
  · exact absurd (show ¬ ((nI (tg f E j)) = 4) from fun h9 => absurd ((eq_nI (p := tg f E j) (n := 4) (Nat.lt_trans (tg_lt _ _ _) (by decide)) (by decide)).mp h9) (by omega)) (of_decide_eq_false c_42)
  refine ps_st (S' := (59, [(3, .int (nI (p + 1))), (2, .int (nI (tg f E j))), (0, .ref o), (1, .int (nI j))], [.int (nI (tg f E j))], M)) rfl rfl rfl ?_
  refine ps_st (S' := (60, [(3, .int (nI (p + 1))), (2, .int (nI (tg f E j))), (0, .ref o), (1, .int (nI j))], [.int 5, .int (nI (tg f E j))], M)) rfl rfl rfl ?_
  refine ps_if2 (S1 := (69, [(0, .ref o), (3, .int (nI (p + 1)))], [], M)) (S2 := (63, [(3, .int (nI (p + 1))), (2, .int (nI (tg f E j))), (0, .ref o), (1, .int (nI j))], [], M)) rfl rfl rfl (fun c_60 => ?_) (fun c_60 => ?_)
  · have c_60 : (nI (tg f E j)) = 5 := of_decide_eq_true c_60
    have n_60 : tg f E j = 5 := (eq_nI (p := tg f E j) (n := 5) (Nat.lt_trans (tg_lt _ _ _) (by decide)) (by decide)).mp c_60
    refine ps_st (S' := (70, [(0, .ref o), (3, .int (nI (p + 1)))], [.ref o], M)) rfl rfl rfl ?_
    refine ps_get (S' := (73, [(0, .ref o), (3, .int (nI (p + 1)))], [.ref c], M)) rfl h_o rfl rfl ?_
    refine ps_get (S' := (76, [(0, .ref o), (3, .int (nI (p + 1)))], [.ref b], M)) rfl h_c rfl rfl ?_
    refine ps_st (S' := (77, [(0, .ref o), (3, .int (nI (p + 1)))], [.int (nI (p + 1)), .ref b], M)) rfl rfl rfl ?_
    refine pl_call (a := [.ref b, .int (nI (p + 1))]) (rest := []) rfl rfl rfl (dk_u4 (f := f) (n := n) (b := b) (da := da) (p := (p + 1)) h_b h_da (hn) (by omega)) (fun v7 M8 q9 => ?_)
    obtain ⟨rfl, rfl⟩ := q9
    show pl _ _ _ (80, [(0, .ref o), (3, .int (nI (p + 1)))], [.int (nI (by4 f (p + 1)))], M) _
    refine ps_st (S' := (81, [(0, .ref o), (3, .int (nI (p + 1)))], [.long (Int32.toInt64 (nI (by4 f (p + 1))))], M)) rfl rfl rfl ?_
    refine ps_st (S' := (83, [(0, .ref o), (3, .int (nI (p + 1)))], [.int 32, .long (Int32.toInt64 (nI (by4 f (p + 1))))], M)) rfl rfl rfl ?_
    refine ps_st (S' := (84, [(0, .ref o), (3, .int (nI (p + 1)))], [.long ((Int32.toInt64 (nI (by4 f (p + 1)))) <<< (Int32.toInt64 32 &&& 63))], M)) rfl rfl rfl ?_
    refine ps_st (S' := (85, [(0, .ref o), (3, .int (nI (p + 1)))], [.ref o, .long ((Int32.toInt64 (nI (by4 f (p + 1)))) <<< (Int32.toInt64 32 &&& 63))], M)) rfl rfl rfl ?_
    refine ps_get (S' := (88, [(0, .ref o), (3, .int (nI (p + 1)))], [.ref c, .long ((Int32.toInt64 (nI (by4 f (p + 1)))) <<< (Int32.toInt64 32 &&& 63))], M)) rfl h_o rfl rfl ?_
    refine ps_get (S' := (91, [(0, .ref o), (3, .int (nI (p + 1)))], [.ref b, .long ((Int32.toInt64 (nI (by4 f (p + 1)))) <<< (Int32.toInt64 32 &&& 63))], M)) rfl h_c rfl rfl ?_
    refine ps_st (S' := (92, [(0, .ref o), (3, .int (nI (p + 1)))], [.int (nI (p + 1)), .ref b, .long ((Int32.toInt64 (nI (by4 f (p + 1)))) <<< (Int32.toInt64 32 &&& 63))], M)) rfl rfl rfl ?_
    refine ps_st (S' := (93, [(0, .ref o), (3, .int (nI (p + 1)))], [.int 4, .int (nI (p + 1)), .ref b, .long ((Int32.toInt64 (nI (by4 f (p + 1)))) <<< (Int32.toInt64 32 &&& 63))], M)) rfl rfl rfl ?_
    refine ps_st (S' := (94, [(0, .ref o), (3, .int (nI (p + 1)))], [.int ((nI (p + 1)) + 4), .ref b, .long ((Int32.toInt64 (nI (by4 f (p + 1)))) <<< (Int32.toInt64 32 &&& 63))], M)) rfl rfl rfl ?_
    rw [nI_add1 (p := p + 1) (k := 4) (x := 4) rfl (by omega)]
    show pl _ _ _ (_, [(0, .ref o), (3, .int (nI (p + 1)))], [.int (nI (p + 5)), .ref b, .long ((Int32.toInt64 (nI (by4 f (p + 1)))) <<< (Int32.toInt64 32 &&& 63))], M) _
    refine pl_call (a := [.ref b, .int (nI (p + 5))]) (rest := [.long ((Int32.toInt64 (nI (by4 f (p + 1)))) <<< (Int32.toInt64 32 &&& 63))]) rfl rfl rfl (dk_u4 (f := f) (n := n) (b := b) (da := da) (p := (p + 5)) h_b h_da (hn) (by omega)) (fun v10 M11 q12 => ?_)
    obtain ⟨rfl, rfl⟩ := q12
    show pl _ _ _ (97, [(0, .ref o), (3, .int (nI (p + 1)))], [.int (nI (by4 f (p + 5))), .long ((Int32.toInt64 (nI (by4 f (p + 1)))) <<< (Int32.toInt64 32 &&& 63))], M) _
    refine ps_st (S' := (98, [(0, .ref o), (3, .int (nI (p + 1)))], [.long (Int32.toInt64 (nI (by4 f (p + 5)))), .long ((Int32.toInt64 (nI (by4 f (p + 1)))) <<< (Int32.toInt64 32 &&& 63))], M)) rfl rfl rfl ?_
    refine ps_st (S' := (101, [(0, .ref o), (3, .int (nI (p + 1)))], [.long 4294967295, .long (Int32.toInt64 (nI (by4 f (p + 5)))), .long ((Int32.toInt64 (nI (by4 f (p + 1)))) <<< (Int32.toInt64 32 &&& 63))], M)) rfl rfl rfl ?_
    refine ps_st (S' := (102, [(0, .ref o), (3, .int (nI (p + 1)))], [.long ((Int32.toInt64 (nI (by4 f (p + 5)))) &&& 4294967295), .long ((Int32.toInt64 (nI (by4 f (p + 1)))) <<< (Int32.toInt64 32 &&& 63))], M)) rfl rfl rfl ?_
    refine ps_st (S' := (103, [(0, .ref o), (3, .int (nI (p + 1)))], [.long (((Int32.toInt64 (nI (by4 f (p + 1)))) <<< (Int32.toInt64 32 &&& 63)) ||| ((Int32.toInt64 (nI (by4 f (p + 5)))) &&& 4294967295))], M)) rfl rfl rfl ?_
    exact ps_ret rfl rfl (⟨congrArg (fun x => some (Value.long x)) (bits8 (by4_lt _ _) (by4_lt _ _)), rfl⟩)
  · have c_60 : ¬ ((nI (tg f E j)) = 5) := of_decide_eq_false c_60
    have n_60 : ¬ (tg f E j = 5) := fun h9 => c_60 ((eq_nI (p := tg f E j) (n := 5) (Nat.lt_trans (tg_lt _ _ _) (by decide)) (by decide)).mpr h9)
    refine ps_st (S' := (64, [(3, .int (nI (p + 1))), (2, .int (nI (tg f E j))), (0, .ref o), (1, .int (nI j))], [.int (nI (tg f E j))], M)) rfl rfl rfl ?_
    refine ps_st (S' := (66, [(3, .int (nI (p + 1))), (2, .int (nI (tg f E j))), (0, .ref o), (1, .int (nI j))], [.int 6, .int (nI (tg f E j))], M)) rfl rfl rfl ?_
    refine ps_if2 (S1 := (104, [(3, .int (nI (p + 1))), (2, .int (nI (tg f E j))), (0, .ref o), (1, .int (nI j))], [], M)) (S2 := (69, [(0, .ref o), (3, .int (nI (p + 1)))], [], M)) rfl rfl rfl (fun c_66 => ?_) (fun c_66 => ?_)
    · exact absurd (of_decide_eq_true c_66) (fun h9 => h9 ((eq_nI (p := tg f E j) (n := 6) (Nat.lt_trans (tg_lt _ _ _) (by decide)) (by decide)).mpr (by omega)))
    refine ps_st (S' := (70, [(0, .ref o), (3, .int (nI (p + 1)))], [.ref o], M)) rfl rfl rfl ?_
    refine ps_get (S' := (73, [(0, .ref o), (3, .int (nI (p + 1)))], [.ref c], M)) rfl h_o rfl rfl ?_
    refine ps_get (S' := (76, [(0, .ref o), (3, .int (nI (p + 1)))], [.ref b], M)) rfl h_c rfl rfl ?_
    refine ps_st (S' := (77, [(0, .ref o), (3, .int (nI (p + 1)))], [.int (nI (p + 1)), .ref b], M)) rfl rfl rfl ?_
    refine pl_call (a := [.ref b, .int (nI (p + 1))]) (rest := []) rfl rfl rfl (dk_u4 (f := f) (n := n) (b := b) (da := da) (p := (p + 1)) h_b h_da (hn) (by omega)) (fun v13 M14 q15 => ?_)
    obtain ⟨rfl, rfl⟩ := q15
    show pl _ _ _ (80, [(0, .ref o), (3, .int (nI (p + 1)))], [.int (nI (by4 f (p + 1)))], M) _
    refine ps_st (S' := (81, [(0, .ref o), (3, .int (nI (p + 1)))], [.long (Int32.toInt64 (nI (by4 f (p + 1))))], M)) rfl rfl rfl ?_
    refine ps_st (S' := (83, [(0, .ref o), (3, .int (nI (p + 1)))], [.int 32, .long (Int32.toInt64 (nI (by4 f (p + 1))))], M)) rfl rfl rfl ?_
    refine ps_st (S' := (84, [(0, .ref o), (3, .int (nI (p + 1)))], [.long ((Int32.toInt64 (nI (by4 f (p + 1)))) <<< (Int32.toInt64 32 &&& 63))], M)) rfl rfl rfl ?_
    refine ps_st (S' := (85, [(0, .ref o), (3, .int (nI (p + 1)))], [.ref o, .long ((Int32.toInt64 (nI (by4 f (p + 1)))) <<< (Int32.toInt64 32 &&& 63))], M)) rfl rfl rfl ?_
    refine ps_get (S' := (88, [(0, .ref o), (3, .int (nI (p + 1)))], [.ref c, .long ((Int32.toInt64 (nI (by4 f (p + 1)))) <<< (Int32.toInt64 32 &&& 63))], M)) rfl h_o rfl rfl ?_
    refine ps_get (S' := (91, [(0, .ref o), (3, .int (nI (p + 1)))], [.ref b, .long ((Int32.toInt64 (nI (by4 f (p + 1)))) <<< (Int32.toInt64 32 &&& 63))], M)) rfl h_c rfl rfl ?_
    refine ps_st (S' := (92, [(0, .ref o), (3, .int (nI (p + 1)))], [.int (nI (p + 1)), .ref b, .long ((Int32.toInt64 (nI (by4 f (p + 1)))) <<< (Int32.toInt64 32 &&& 63))], M)) rfl rfl rfl ?_
    refine ps_st (S' := (93, [(0, .ref o), (3, .int (nI (p + 1)))], [.int 4, .int (nI (p + 1)), .ref b, .long ((Int32.toInt64 (nI (by4 f (p + 1)))) <<< (Int32.toInt64 32 &&& 63))], M)) rfl rfl rfl ?_
    refine ps_st (S' := (94, [(0, .ref o), (3, .int (nI (p + 1)))], [.int ((nI (p + 1)) + 4), .ref b, .long ((Int32.toInt64 (nI (by4 f (p + 1)))) <<< (Int32.toInt64 32 &&& 63))], M)) rfl rfl rfl ?_
    rw [nI_add1 (p := p + 1) (k := 4) (x := 4) rfl (by omega)]
    show pl _ _ _ (_, [(0, .ref o), (3, .int (nI (p + 1)))], [.int (nI (p + 5)), .ref b, .long ((Int32.toInt64 (nI (by4 f (p + 1)))) <<< (Int32.toInt64 32 &&& 63))], M) _
    refine pl_call (a := [.ref b, .int (nI (p + 5))]) (rest := [.long ((Int32.toInt64 (nI (by4 f (p + 1)))) <<< (Int32.toInt64 32 &&& 63))]) rfl rfl rfl (dk_u4 (f := f) (n := n) (b := b) (da := da) (p := (p + 5)) h_b h_da (hn) (by omega)) (fun v16 M17 q18 => ?_)
    obtain ⟨rfl, rfl⟩ := q18
    show pl _ _ _ (97, [(0, .ref o), (3, .int (nI (p + 1)))], [.int (nI (by4 f (p + 5))), .long ((Int32.toInt64 (nI (by4 f (p + 1)))) <<< (Int32.toInt64 32 &&& 63))], M) _
    refine ps_st (S' := (98, [(0, .ref o), (3, .int (nI (p + 1)))], [.long (Int32.toInt64 (nI (by4 f (p + 5)))), .long ((Int32.toInt64 (nI (by4 f (p + 1)))) <<< (Int32.toInt64 32 &&& 63))], M)) rfl rfl rfl ?_
    refine ps_st (S' := (101, [(0, .ref o), (3, .int (nI (p + 1)))], [.long 4294967295, .long (Int32.toInt64 (nI (by4 f (p + 5)))), .long ((Int32.toInt64 (nI (by4 f (p + 1)))) <<< (Int32.toInt64 32 &&& 63))], M)) rfl rfl rfl ?_
    refine ps_st (S' := (102, [(0, .ref o), (3, .int (nI (p + 1)))], [.long ((Int32.toInt64 (nI (by4 f (p + 5)))) &&& 4294967295), .long ((Int32.toInt64 (nI (by4 f (p + 1)))) <<< (Int32.toInt64 32 &&& 63))], M)) rfl rfl rfl ?_
    refine ps_st (S' := (103, [(0, .ref o), (3, .int (nI (p + 1)))], [.long (((Int32.toInt64 (nI (by4 f (p + 1)))) <<< (Int32.toInt64 32 &&& 63)) ||| ((Int32.toInt64 (nI (by4 f (p + 5)))) &&& 4294967295))], M)) rfl rfl rfl ?_
    exact ps_ret rfl rfl (⟨congrArg (fun x => some (Value.long x)) (bits8 (by4_lt _ _) (by4_lt _ _)), rfl⟩)
theorem dk_bits {g : xe_G} {M : mi_H} {ko : Option (Nat × (Nat → Int32))} {kv : Value} {cm o fl : Nat} {cn wp k : Int32} (hx : M.1 o = some (ob 11 [.ref cm, .int cn, .ref fl, kv, .int wp])) (hK : KPC g ko kv cm M) : pt (mT g) 1 [.ref o, .int k] M (fun v M' => v = some (.long (biK ko k)) ∧ M = M') := by
  cases ko with
  | none =>
    have e : kv = .null := hK
    subst e
    exact dk_bits0 hx
  | some r =>
    obtain ⟨c, da, rfl, ⟨b, q, N, E, p1, pF, pM, pA, w, h1, h2, h3, h4, h5, rfl, h6, h7⟩, -, -⟩ := hK
    rw [biK_is h5]
    have hpl := whole_in h5
    have h0 := tg_0 hpl
    by_cases ht : 3 ≤ tg r.2 E k.toNatClampNeg ∧ tg r.2 E k.toNatClampNeg ≤ 6
    · have hk0 : ¬ k < 0 := fun h9 => by rw [i32_cl h9, h0] at ht; omega
      have e := i32_nn hk0
      unfold biI
      obtain ⟨j, ej⟩ : ∃ j, j = k.toNatClampNeg := ⟨_, rfl⟩
      rw [← ej] at e ht ⊢
      have hj : j < 65536 := by
        obtain ⟨hL9, H, m, qq, F, cc, hP9, hT9, -, hb9, hVF, -⟩ := id h4
        refine Nat.not_le.mp (fun h9 => ?_)
        have h8 := hVF.2.1 j (by omega)
        omega
      subst e
      obtain ⟨p, hk9, hb9⟩ := tg_lk (f := r.2) (E := E) (k := j) (by omega)
      obtain ⟨u1, u2⟩ := nums_of hpl hk9
      rw [plc_of hk9]
      by_cases h34 : tg r.2 E j = 3 ∨ tg r.2 E j = 4
      · rw [if_pos h34]
        exact dk_bits4 hx h1 h2 h3 h4 hj h7 hk9 h34 (u1 (by omega))
      · have h56 : tg r.2 E j = 5 ∨ tg r.2 E j = 6 := by omega
        rw [if_neg h34, if_pos h56]
        exact dk_bits8 hx h1 h2 h3 h4 hj h7 hk9 h56 (u2 (by omega))
    · have e : biI r.2 E k = 0 := by
        unfold biI
        rw [if_neg (by omega), if_neg (by omega)]
      rw [e]
      exact dk_bitsT hx h1 h4 h0 ht
end
section
set_option maxHeartbeats 1000000 in
theorem rd_bits0 {g : xe_G} {m0 : Nat} {q : Nat → Nat} {z : Nat × Nat} {I : rI} {R : rR} {M : mi_H} {kn k : Int32} (hR : RS g m0 q z I R M) (hi18 : I 18 = some kn)  (hk : kn < 0) : pt (mT g) 183 [.ref m0, .int k] M (fun v M' => (∃  (I' : rI) (R' : rR), v = some (.long 0) ∧ RS g m0 q z I' R' M' ∧ eqI [0] I I' ∧ eqR [] R R' ∧ I' 0 = some 0)) := by
  refine pt_in (b := mb_183 g) rfl (fun kf => ?_)
  show pl (mT g) kf (mb_183 g).2 (0, [(0, .ref m0), (1, .int k)], [], M) _
  have hEI : eqI [0] I I := eqI.rf
  have hER : eqR [] R R := eqR.rf
  refine ps_st (S' := (1, [(0, .ref m0), (1, .int k)], [.ref m0], M)) rfl rfl rfl ?_
  refine ps_st (S' := (2, [(0, .ref m0), (1, .int k)], [.int 0, .ref m0], M)) rfl rfl rfl ?_
  refine pr_put (j := 0) rfl hR rfl (fun M1 I2 hR3 hi4 hI5 => ?_)
  have hi6 := (hI5 18 (by decide)).trans hi18
  have hEI7 := hEI.put hI5 (by decide)
  show pl _ _ _ (5, [(0, .ref m0), (1, .int k)], [], M1) _
  refine ps_st (S' := (6, [(0, .ref m0), (1, .int k)], [.ref m0], M1)) rfl rfl rfl ?_
  refine pr_int (j := 18) (S' := (9, [(0, .ref m0), (1, .int k)], [.int kn], M1)) rfl hR3 rfl hi6 rfl ?_
  refine ps_if (S1 := (14, [(0, .ref m0), (1, .int k)], [], M1)) (S2 := (12, [(0, .ref m0), (1, .int k)], [], M1)) rfl rfl rfl (fun c_9 => ?_) (fun c_9 => ?_)
  · exact absurd (of_decide_eq_true c_9) (Int32.not_le.mpr hk)
  refine ps_st (S' := (13, [(0, .ref m0), (1, .int k)], [.long 0], M1)) rfl rfl rfl ?_
  exact ps_ret rfl rfl (⟨I2, R, rfl, hR3, hEI7, hER, hi4⟩)
set_option maxHeartbeats 1000000 in
theorem rd_bitsT {g : xe_G} {m0 : Nat} {q : Nat → Nat} {z : Nat × Nat} {I : rI} {R : rR} {M : mi_H} {n : Nat} {f : Nat → Int32} {tx : List (List Nat)} {cN : Nat} {A : Nat → Nat} {N mj : Nat} {E : List (Nat × Nat)} {n2 : Nat} {k : Int32} (hR : RS g m0 q z I R M) (hi18 : I 18 = some (nI n2)) (hi51 : I 51 = some 0) (hi52 : I 52 = some (nI N)) (hi53 : I 53 = some (nI mj)) (hF : FK n f I R) (hY : SYT tx cN A I R) (hP : RPV f n E tx N I R) (hEP : EP f n E) (hN : N < 65536) (hmj : mj < 65536) (hn2 : n2 ≤ 65540) (h0 : tg f E 0 = 0) (ht : ¬ (3 ≤ tg f E k.toNatClampNeg ∧ tg f E k.toNatClampNeg ≤ 6)) : pt (mT g) 183 [.ref m0, .int k] M (fun v M' => (∃  (I' : rI) (R' : rR), v = some (.long 0) ∧ RS g m0 q z I' R' M' ∧ eqI [0] I I' ∧ eqR [] R R' ∧ I' 0 = some 0)) := by
  refine pt_in (b := mb_183 g) rfl (fun kf => ?_)
  show pl (mT g) kf (mb_183 g).2 (0, [(0, .ref m0), (1, .int k)], [], M) _
  have hEI : eqI [0] I I := eqI.rf
  have hER : eqR [] R R := eqR.rf
  refine ps_st (S' := (1, [(0, .ref m0), (1, .int k)], [.ref m0], M)) rfl rfl rfl ?_
  refine ps_st (S' := (2, [(0, .ref m0), (1, .int k)], [.int 0, .ref m0], M)) rfl rfl rfl ?_
  refine pr_put (j := 0) rfl hR rfl (fun M1 I2 hR3 hi4 hI5 => ?_)
  have hi6 := (hI5 18 (by decide)).trans hi18
  have hi7 := (hI5 51 (by decide)).trans hi51
  have hi8 := (hI5 52 (by decide)).trans hi52
  have hi9 := (hI5 53 (by decide)).trans hi53
  have hF_10 := hF.mono (pIx hI5 (by decide)) (fun _ _ => rfl)
  have hY_11 := hY.mono (pIx hI5 (by decide)) (fun _ _ => rfl)
  have hP_12 := hP.mono (pIx hI5 (by decide)) (fun _ _ => rfl)
  have hEI13 := hEI.put hI5 (by decide)
  show pl _ _ _ (5, [(0, .ref m0), (1, .int k)], [], M1) _
  refine ps_st (S' := (6, [(0, .ref m0), (1, .int k)], [.ref m0], M1)) rfl rfl rfl ?_
  refine pr_int (j := 18) (S' := (9, [(0, .ref m0), (1, .int k)], [.int (nI n2)], M1)) rfl hR3 rfl hi6 rfl ?_
  refine ps_if (S1 := (14, [(0, .ref m0), (1, .int k)], [], M1)) (S2 := (12, [(0, .ref m0), (1, .int k)], [], M1)) rfl rfl rfl (fun c_9 => ?_) (fun c_9 => ?_)
  rotate_left
  · exact absurd ((le_nI (p := 0) (n := n2) (by decide) (by omega)).mpr (by omega)) (of_decide_eq_false c_9)
  refine ps_st (S' := (15, [(0, .ref m0), (1, .int k)], [.ref m0], M1)) rfl rfl rfl ?_
  refine ps_st (S' := (16, [(0, .ref m0), (1, .int k)], [.int k, .ref m0], M1)) rfl rfl rfl ?_
  refine pl_call (a := [.ref m0, .int k]) (rest := []) rfl rfl rfl (rd_tagR (n := n) (f := f) (tx := tx) (cN := cN) (A := A) (N := N) (mj := mj) (E := E) (k := k) hR3 hi7 hi8 hi9 hF_10 hY_11 hP_12 (hEP) (hN) (hmj) (h0)) (fun v14 M15 q16 => ?_)
  obtain ⟨rfl, rfl⟩ := q16
  show pl _ _ _ (19, [(0, .ref m0), (1, .int k)], [.int (nI (tg f E k.toNatClampNeg))], M1) _
  have htg9 := tg_lt f E k.toNatClampNeg
  refine ps_st (S' := (20, [(2, .int (nI (tg f E k.toNatClampNeg))), (0, .ref m0), (1, .int k)], [], M1)) rfl rfl rfl ?_
  refine ps_st (S' := (21, [(2, .int (nI (tg f E k.toNatClampNeg))), (0, .ref m0), (1, .int k)], [.int (nI (tg f E k.toNatClampNeg))], M1)) rfl rfl rfl ?_
  refine ps_st (S' := (22, [(2, .int (nI (tg f E k.toNatClampNeg))), (0, .ref m0), (1, .int k)], [.int 3, .int (nI (tg f E k.toNatClampNeg))], M1)) rfl rfl rfl ?_
  refine ps_if2 (S1 := (30, [(0, .ref m0), (1, .int k)], [], M1)) (S2 := (25, [(2, .int (nI (tg f E k.toNatClampNeg))), (0, .ref m0), (1, .int k)], [], M1)) rfl rfl rfl (fun c_22 => ?_) (fun c_22 => ?_)
  · exact absurd (of_decide_eq_true c_22) (fun h9 => ht (by have h8 := (eq_nI (p := tg f E k.toNatClampNeg) (n := 3) (by omega) (by decide)).mp h9; omega))
  refine ps_st (S' := (26, [(2, .int (nI (tg f E k.toNatClampNeg))), (0, .ref m0), (1, .int k)], [.int (nI (tg f E k.toNatClampNeg))], M1)) rfl rfl rfl ?_
  refine ps_st (S' := (27, [(2, .int (nI (tg f E k.toNatClampNeg))), (0, .ref m0), (1, .int k)], [.int 4, .int (nI (tg f E k.toNatClampNeg))], M1)) rfl rfl rfl ?_
  refine ps_if2 (S1 := (45, [(2, .int (nI (tg f E k.toNatClampNeg))), (0, .ref m0), (1, .int k)], [], M1)) (S2 := (30, [(0, .ref m0), (1, .int k)], [], M1)) rfl rfl rfl (fun c_27 => ?_) (fun c_27 => ?_)
  rotate_left
  · exact absurd (show ¬ (nI (tg f E k.toNatClampNeg)) = 4 from fun h9 => ht (by have h8 := (eq_nI (p := tg f E k.toNatClampNeg) (n := 4) (by omega) (by decide)).mp h9; omega)) (of_decide_eq_false c_27)
  refine ps_st (S' := (46, [(2, .int (nI (tg f E k.toNatClampNeg))), (0, .ref m0), (1, .int k)], [.int (nI (tg f E k.toNatClampNeg))], M1)) rfl rfl rfl ?_
  refine ps_st (S' := (47, [(2, .int (nI (tg f E k.toNatClampNeg))), (0, .ref m0), (1, .int k)], [.int 5, .int (nI (tg f E k.toNatClampNeg))], M1)) rfl rfl rfl ?_
  refine ps_if2 (S1 := (56, [(0, .ref m0), (1, .int k)], [], M1)) (S2 := (50, [(2, .int (nI (tg f E k.toNatClampNeg))), (0, .ref m0), (1, .int k)], [], M1)) rfl rfl rfl (fun c_47 => ?_) (fun c_47 => ?_)
  · exact absurd (of_decide_eq_true c_47) (fun h9 => ht (by have h8 := (eq_nI (p := tg f E k.toNatClampNeg) (n := 5) (by omega) (by decide)).mp h9; omega))
  refine ps_st (S' := (51, [(2, .int (nI (tg f E k.toNatClampNeg))), (0, .ref m0), (1, .int k)], [.int (nI (tg f E k.toNatClampNeg))], M1)) rfl rfl rfl ?_
  refine ps_st (S' := (53, [(2, .int (nI (tg f E k.toNatClampNeg))), (0, .ref m0), (1, .int k)], [.int 6, .int (nI (tg f E k.toNatClampNeg))], M1)) rfl rfl rfl ?_
  refine ps_if2 (S1 := (85, [(2, .int (nI (tg f E k.toNatClampNeg))), (0, .ref m0), (1, .int k)], [], M1)) (S2 := (56, [(0, .ref m0), (1, .int k)], [], M1)) rfl rfl rfl (fun c_53 => ?_) (fun c_53 => ?_)
  rotate_left
  · exact absurd (show ¬ (nI (tg f E k.toNatClampNeg)) = 6 from fun h9 => ht (by have h8 := (eq_nI (p := tg f E k.toNatClampNeg) (n := 6) (by omega) (by decide)).mp h9; omega)) (of_decide_eq_false c_53)
  refine ps_st (S' := (86, [(2, .int (nI (tg f E k.toNatClampNeg))), (0, .ref m0), (1, .int k)], [.long 0], M1)) rfl rfl rfl ?_
  exact ps_ret rfl rfl (⟨I2, R, rfl, hR3, hEI13, hER, hi4⟩)
set_option maxHeartbeats 1000000 in
theorem rd_bits4 {g : xe_G} {m0 : Nat} {q : Nat → Nat} {z : Nat × Nat} {I : rI} {R : rR} {M : mi_H} {n : Nat} {f : Nat → Int32} {tx : List (List Nat)} {cN : Nat} {A : Nat → Nat} {N mj : Nat} {E : List (Nat × Nat)} {n2 : Nat} {j p : Nat} (hR : RS g m0 q z I R M) (hi18 : I 18 = some (nI n2)) (hi51 : I 51 = some 0) (hi52 : I 52 = some (nI N)) (hi53 : I 53 = some (nI mj)) (hF : FK n f I R) (hY : SYT tx cN A I R) (hP : RPV f n E tx N I R) (hEP : EP f n E) (hN : N < 65536) (hmj : mj < 65536) (hn2 : n2 ≤ 65540) (hj : j < 65536) (hk9 : lk E j = some p) (htt : tg f E j = 3 ∨ tg f E j = 4) (hin : p + 5 ≤ n) : pt (mT g) 183 [.ref m0, .int (nI j)] M (fun v M' => (∃  (I' : rI) (R' : rR), v = some (.long (bL4 f p)) ∧ RS g m0 q z I' R' M' ∧ eqI [0] I I' ∧ eqR [] R R' ∧ I' 0 = some 0)) := by
  refine pt_in (b := mb_183 g) rfl (fun kf => ?_)
  show pl (mT g) kf (mb_183 g).2 (0, [(0, .ref m0), (1, .int (nI j))], [], M) _
  have hEI : eqI [0] I I := eqI.rf
  have hER : eqR [] R R := eqR.rf
  have hn := hF.1
  have htl9 := tg_lt f E j
  refine ps_st (S' := (1, [(0, .ref m0), (1, .int (nI j))], [.ref m0], M)) rfl rfl rfl ?_
  refine ps_st (S' := (2, [(0, .ref m0), (1, .int (nI j))], [.int 0, .ref m0], M)) rfl rfl rfl ?_
  refine pr_put (j := 0) rfl hR rfl (fun M1 I2 hR3 hi4 hI5 => ?_)
  have hi6 := (hI5 18 (by decide)).trans hi18
  have hi7 := (hI5 51 (by decide)).trans hi51
  have hi8 := (hI5 52 (by decide)).trans hi52
  have hi9 := (hI5 53 (by decide)).trans hi53
  have hF_10 := hF.mono (pIx hI5 (by decide)) (fun _ _ => rfl)
  have hY_11 := hY.mono (pIx hI5 (by decide)) (fun _ _ => rfl)
  have hP_12 := hP.mono (pIx hI5 (by decide)) (fun _ _ => rfl)
  have hEI13 := hEI.put hI5 (by decide)
  show pl _ _ _ (5, [(0, .ref m0), (1, .int (nI j))], [], M1) _
  refine ps_st (S' := (6, [(0, .ref m0), (1, .int (nI j))], [.ref m0], M1)) rfl rfl rfl ?_
  refine pr_int (j := 18) (S' := (9, [(0, .ref m0), (1, .int (nI j))], [.int (nI n2)], M1)) rfl hR3 rfl hi6 rfl ?_
  refine ps_if (S1 := (14, [(0, .ref m0), (1, .int (nI j))], [], M1)) (S2 := (12, [(0, .ref m0), (1, .int (nI j))], [], M1)) rfl rfl rfl (fun c_9 => ?_) (fun c_9 => ?_)
  rotate_left
  · exact absurd ((le_nI (p := 0) (n := n2) (by decide) (by omega)).mpr (by omega)) (of_decide_eq_false c_9)
  refine ps_st (S' := (15, [(0, .ref m0), (1, .int (nI j))], [.ref m0], M1)) rfl rfl rfl ?_
  refine ps_st (S' := (16, [(0, .ref m0), (1, .int (nI j))], [.int (nI j), .ref m0], M1)) rfl rfl rfl ?_
  refine pl_call (a := [.ref m0, .int (nI j)]) (rest := []) rfl rfl rfl (rd_tag (n := n) (f := f) (tx := tx) (cN := cN) (A := A) (N := N) (mj := mj) (E := E) (k := j) hR3 hi7 hi8 hi9 hF_10 hY_11 hP_12 (hEP) (hN) (hmj) (by omega)) (fun v14 M15 q16 => ?_)
  obtain ⟨rfl, rfl⟩ := q16
  show pl _ _ _ (19, [(0, .ref m0), (1, .int (nI j))], [.int (nI (tg f E j))], M1) _
  have htg_16 := tg_lt f E j
  refine ps_st (S' := (20, [(2, .int (nI (tg f E j))), (0, .ref m0), (1, .int (nI j))], [], M1)) rfl rfl rfl ?_
  refine ps_st (S' := (21, [(2, .int (nI (tg f E j))), (0, .ref m0), (1, .int (nI j))], [.int (nI (tg f E j))], M1)) rfl rfl rfl ?_
  refine ps_st (S' := (22, [(2, .int (nI (tg f E j))), (0, .ref m0), (1, .int (nI j))], [.int 3, .int (nI (tg f E j))], M1)) rfl rfl rfl ?_
  refine ps_if2 (S1 := (30, [(0, .ref m0), (1, .int (nI j))], [], M1)) (S2 := (25, [(2, .int (nI (tg f E j))), (0, .ref m0), (1, .int (nI j))], [], M1)) rfl rfl rfl (fun c_22 => ?_) (fun c_22 => ?_)
  · have c_22 : (nI (tg f E j)) = 3 := of_decide_eq_true c_22
    have n_22 : tg f E j = 3 := (eq_nI (p := tg f E j) (n := 3) (Nat.lt_trans (tg_lt _ _ _) (by decide)) (by decide)).mp c_22
    refine ps_st (S' := (31, [(0, .ref m0), (1, .int (nI j))], [.ref m0], M1)) rfl rfl rfl ?_
    refine ps_st (S' := (32, [(0, .ref m0), (1, .int (nI j))], [.ref m0, .ref m0], M1)) rfl rfl rfl ?_
    refine pr_ref (j := 21) (S' := (35, [(0, .ref m0), (1, .int (nI j))], [.ref (q 21), .ref m0], M1)) rfl hR3 rfl rfl ?_
    refine ps_st (S' := (36, [(0, .ref m0), (1, .int (nI j))], [.int (nI j), .ref (q 21), .ref m0], M1)) rfl rfl rfl ?_
    refine pr_ld (a := 21) (j := j) (y := (nI p)) (S' := (37, [(0, .ref m0), (1, .int (nI j))], [.int (nI p), .ref m0], M1)) rfl hR3 rfl (by omega) (fun _ => (hP_12.at hk9).2.2) rfl (fun i1_36 => ?_)
    refine ps_st (S' := (38, [(0, .ref m0), (1, .int (nI j))], [.int 1, .int (nI p), .ref m0], M1)) rfl rfl rfl ?_
    refine ps_st (S' := (39, [(0, .ref m0), (1, .int (nI j))], [.int ((nI p) + 1), .ref m0], M1)) rfl rfl rfl ?_
    rw [nI_add1 (p := p) (k := 1) (x := 1) rfl (by omega)]
    show pl _ _ _ (_, [(0, .ref m0), (1, .int (nI j))], [.int (nI (p + 1)), .ref m0], M1) _
    refine pl_call (a := [.ref m0, .int (nI (p + 1))]) (rest := []) rfl rfl rfl (rd_u4 (n := n) (f := f) (p := (p + 1)) hR3 hF_10 (by omega)) (fun v17 M18 q19 => ?_)
    obtain ⟨rfl, rfl⟩ := q19
    show pl _ _ _ (42, [(0, .ref m0), (1, .int (nI j))], [.long (nL (by4 f (p + 1)))], M1) _
    have hu_39 := by4_lt f (p + 1)
    refine ps_st (S' := (43, [(0, .ref m0), (1, .int (nI j))], [.int (Int64.toInt32 (nL (by4 f (p + 1))))], M1)) rfl rfl rfl ?_
    refine ps_st (S' := (44, [(0, .ref m0), (1, .int (nI j))], [.long (Int32.toInt64 (Int64.toInt32 (nL (by4 f (p + 1)))))], M1)) rfl rfl rfl ?_
    exact ps_ret rfl rfl (⟨I2, R, by rw [l2i_all]; rfl, hR3, hEI13, hER, hi4⟩)
  · have c_22 : ¬ ((nI (tg f E j)) = 3) := of_decide_eq_false c_22
    have n_22 : ¬ (tg f E j = 3) := fun h9 => c_22 ((eq_nI (p := tg f E j) (n := 3) (Nat.lt_trans (tg_lt _ _ _) (by decide)) (by decide)).mpr h9)
    refine ps_st (S' := (26, [(2, .int (nI (tg f E j))), (0, .ref m0), (1, .int (nI j))], [.int (nI (tg f E j))], M1)) rfl rfl rfl ?_
    refine ps_st (S' := (27, [(2, .int (nI (tg f E j))), (0, .ref m0), (1, .int (nI j))], [.int 4, .int (nI (tg f E j))], M1)) rfl rfl rfl ?_
    refine ps_if2 (S1 := (45, [(2, .int (nI (tg f E j))), (0, .ref m0), (1, .int (nI j))], [], M1)) (S2 := (30, [(0, .ref m0), (1, .int (nI j))], [], M1)) rfl rfl rfl (fun c_27 => ?_) (fun c_27 => ?_)
    · exact absurd (of_decide_eq_true c_27) (fun h9 => h9 ((eq_nI (p := tg f E j) (n := 4) (Nat.lt_trans (tg_lt _ _ _) (by decide)) (by decide)).mpr (by omega)))
    refine ps_st (S' := (31, [(0, .ref m0), (1, .int (nI j))], [.ref m0], M1)) rfl rfl rfl ?_
    refine ps_st (S' := (32, [(0, .ref m0), (1, .int (nI j))], [.ref m0, .ref m0], M1)) rfl rfl rfl ?_
    refine pr_ref (j := 21) (S' := (35, [(0, .ref m0), (1, .int (nI j))], [.ref (q 21), .ref m0], M1)) rfl hR3 rfl rfl ?_
    refine ps_st (S' := (36, [(0, .ref m0), (1, .int (nI j))], [.int (nI j), .ref (q 21), .ref m0], M1)) rfl rfl rfl ?_
    refine pr_ld (a := 21) (j := j) (y := (nI p)) (S' := (37, [(0, .ref m0), (1, .int (nI j))], [.int (nI p), .ref m0], M1)) rfl hR3 rfl (by omega) (fun _ => (hP_12.at hk9).2.2) rfl (fun i1_36 => ?_)
    refine ps_st (S' := (38, [(0, .ref m0), (1, .int (nI j))], [.int 1, .int (nI p), .ref m0], M1)) rfl rfl rfl ?_
    refine ps_st (S' := (39, [(0, .ref m0), (1, .int (nI j))], [.int ((nI p) + 1), .ref m0], M1)) rfl rfl rfl ?_
    rw [nI_add1 (p := p) (k := 1) (x := 1) rfl (by omega)]
    show pl _ _ _ (_, [(0, .ref m0), (1, .int (nI j))], [.int (nI (p + 1)), .ref m0], M1) _
    refine pl_call (a := [.ref m0, .int (nI (p + 1))]) (rest := []) rfl rfl rfl (rd_u4 (n := n) (f := f) (p := (p + 1)) hR3 hF_10 (by omega)) (fun v20 M21 q22 => ?_)
    obtain ⟨rfl, rfl⟩ := q22
    show pl _ _ _ (42, [(0, .ref m0), (1, .int (nI j))], [.long (nL (by4 f (p + 1)))], M1) _
    have hu_39 := by4_lt f (p + 1)
    refine ps_st (S' := (43, [(0, .ref m0), (1, .int (nI j))], [.int (Int64.toInt32 (nL (by4 f (p + 1))))], M1)) rfl rfl rfl ?_
    refine ps_st (S' := (44, [(0, .ref m0), (1, .int (nI j))], [.long (Int32.toInt64 (Int64.toInt32 (nL (by4 f (p + 1)))))], M1)) rfl rfl rfl ?_
    exact ps_ret rfl rfl (⟨I2, R, by rw [l2i_all]; rfl, hR3, hEI13, hER, hi4⟩)
set_option maxHeartbeats 1000000 in
theorem rd_bits8 {g : xe_G} {m0 : Nat} {q : Nat → Nat} {z : Nat × Nat} {I : rI} {R : rR} {M : mi_H} {n : Nat} {f : Nat → Int32} {tx : List (List Nat)} {cN : Nat} {A : Nat → Nat} {N mj : Nat} {E : List (Nat × Nat)} {n2 : Nat} {j p : Nat} (hR : RS g m0 q z I R M) (hi18 : I 18 = some (nI n2)) (hi51 : I 51 = some 0) (hi52 : I 52 = some (nI N)) (hi53 : I 53 = some (nI mj)) (hF : FK n f I R) (hY : SYT tx cN A I R) (hP : RPV f n E tx N I R) (hEP : EP f n E) (hN : N < 65536) (hmj : mj < 65536) (hn2 : n2 ≤ 65540) (hj : j < 65536) (hk9 : lk E j = some p) (htt : tg f E j = 5 ∨ tg f E j = 6) (hin : p + 9 ≤ n) : pt (mT g) 183 [.ref m0, .int (nI j)] M (fun v M' => (∃  (I' : rI) (R' : rR), v = some (.long (bL8 f p)) ∧ RS g m0 q z I' R' M' ∧ eqI [0] I I' ∧ eqR [] R R' ∧ I' 0 = some 0)) := by
  refine pt_in (b := mb_183 g) rfl (fun kf => ?_)
  show pl (mT g) kf (mb_183 g).2 (0, [(0, .ref m0), (1, .int (nI j))], [], M) _
  have hEI : eqI [0] I I := eqI.rf
  have hER : eqR [] R R := eqR.rf
  have hn := hF.1
  have htl9 := tg_lt f E j
  refine ps_st (S' := (1, [(0, .ref m0), (1, .int (nI j))], [.ref m0], M)) rfl rfl rfl ?_
  refine ps_st (S' := (2, [(0, .ref m0), (1, .int (nI j))], [.int 0, .ref m0], M)) rfl rfl rfl ?_
  refine pr_put (j := 0) rfl hR rfl (fun M1 I2 hR3 hi4 hI5 => ?_)
  have hi6 := (hI5 18 (by decide)).trans hi18
  have hi7 := (hI5 51 (by decide)).trans hi51
  have hi8 := (hI5 52 (by decide)).trans hi52
  have hi9 := (hI5 53 (by decide)).trans hi53
  have hF_10 := hF.mono (pIx hI5 (by decide)) (fun _ _ => rfl)
  have hY_11 := hY.mono (pIx hI5 (by decide)) (fun _ _ => rfl)
  have hP_12 := hP.mono (pIx hI5 (by decide)) (fun _ _ => rfl)
  have hEI13 := hEI.put hI5 (by decide)
  show pl _ _ _ (5, [(0, .ref m0), (1, .int (nI j))], [], M1) _
  refine ps_st (S' := (6, [(0, .ref m0), (1, .int (nI j))], [.ref m0], M1)) rfl rfl rfl ?_
  refine pr_int (j := 18) (S' := (9, [(0, .ref m0), (1, .int (nI j))], [.int (nI n2)], M1)) rfl hR3 rfl hi6 rfl ?_
  refine ps_if (S1 := (14, [(0, .ref m0), (1, .int (nI j))], [], M1)) (S2 := (12, [(0, .ref m0), (1, .int (nI j))], [], M1)) rfl rfl rfl (fun c_9 => ?_) (fun c_9 => ?_)
  rotate_left
  · exact absurd ((le_nI (p := 0) (n := n2) (by decide) (by omega)).mpr (by omega)) (of_decide_eq_false c_9)
  refine ps_st (S' := (15, [(0, .ref m0), (1, .int (nI j))], [.ref m0], M1)) rfl rfl rfl ?_
  refine ps_st (S' := (16, [(0, .ref m0), (1, .int (nI j))], [.int (nI j), .ref m0], M1)) rfl rfl rfl ?_
  refine pl_call (a := [.ref m0, .int (nI j)]) (rest := []) rfl rfl rfl (rd_tag (n := n) (f := f) (tx := tx) (cN := cN) (A := A) (N := N) (mj := mj) (E := E) (k := j) hR3 hi7 hi8 hi9 hF_10 hY_11 hP_12 (hEP) (hN) (hmj) (by omega)) (fun v14 M15 q16 => ?_)
  obtain ⟨rfl, rfl⟩ := q16
  show pl _ _ _ (19, [(0, .ref m0), (1, .int (nI j))], [.int (nI (tg f E j))], M1) _
  have htg_16 := tg_lt f E j
  refine ps_st (S' := (20, [(2, .int (nI (tg f E j))), (0, .ref m0), (1, .int (nI j))], [], M1)) rfl rfl rfl ?_
  refine ps_st (S' := (21, [(2, .int (nI (tg f E j))), (0, .ref m0), (1, .int (nI j))], [.int (nI (tg f E j))], M1)) rfl rfl rfl ?_
  refine ps_st (S' := (22, [(2, .int (nI (tg f E j))), (0, .ref m0), (1, .int (nI j))], [.int 3, .int (nI (tg f E j))], M1)) rfl rfl rfl ?_
  refine ps_if2 (S1 := (30, [(0, .ref m0), (1, .int (nI j))], [], M1)) (S2 := (25, [(2, .int (nI (tg f E j))), (0, .ref m0), (1, .int (nI j))], [], M1)) rfl rfl rfl (fun c_22 => ?_) (fun c_22 => ?_)
  · exact absurd (of_decide_eq_true c_22) (show ¬ ((nI (tg f E j)) = 3) from fun h9 => absurd ((eq_nI (p := tg f E j) (n := 3) (Nat.lt_trans (tg_lt _ _ _) (by decide)) (by decide)).mp h9) (by omega))
  refine ps_st (S' := (26, [(2, .int (nI (tg f E j))), (0, .ref m0), (1, .int (nI j))], [.int (nI (tg f E j))], M1)) rfl rfl rfl ?_
  refine ps_st (S' := (27, [(2, .int (nI (tg f E j))), (0, .ref m0), (1, .int (nI j))], [.int 4, .int (nI (tg f E j))], M1)) rfl rfl rfl ?_
  refine ps_if2 (S1 := (45, [(2, .int (nI (tg f E j))), (0, .ref m0), (1, .int (nI j))], [], M1)) (S2 := (30, [(0, .ref m0), (1, .int (nI j))], [], M1)) rfl rfl rfl (fun c_27 => ?_) (fun c_27 => ?_)
  rotate_left
  · exact absurd (show ¬ ((nI (tg f E j)) = 4) from fun h9 => absurd ((eq_nI (p := tg f E j) (n := 4) (Nat.lt_trans (tg_lt _ _ _) (by decide)) (by decide)).mp h9) (by omega)) (of_decide_eq_false c_27)
  refine ps_st (S' := (46, [(2, .int (nI (tg f E j))), (0, .ref m0), (1, .int (nI j))], [.int (nI (tg f E j))], M1)) rfl rfl rfl ?_
  refine ps_st (S' := (47, [(2, .int (nI (tg f E j))), (0, .ref m0), (1, .int (nI j))], [.int 5, .int (nI (tg f E j))], M1)) rfl rfl rfl ?_
  refine ps_if2 (S1 := (56, [(0, .ref m0), (1, .int (nI j))], [], M1)) (S2 := (50, [(2, .int (nI (tg f E j))), (0, .ref m0), (1, .int (nI j))], [], M1)) rfl rfl rfl (fun c_47 => ?_) (fun c_47 => ?_)
  · have c_47 : (nI (tg f E j)) = 5 := of_decide_eq_true c_47
    have n_47 : tg f E j = 5 := (eq_nI (p := tg f E j) (n := 5) (Nat.lt_trans (tg_lt _ _ _) (by decide)) (by decide)).mp c_47
    refine ps_st (S' := (57, [(0, .ref m0), (1, .int (nI j))], [.ref m0], M1)) rfl rfl rfl ?_
    refine ps_st (S' := (58, [(0, .ref m0), (1, .int (nI j))], [.ref m0, .ref m0], M1)) rfl rfl rfl ?_
    refine pr_ref (j := 21) (S' := (61, [(0, .ref m0), (1, .int (nI j))], [.ref (q 21), .ref m0], M1)) rfl hR3 rfl rfl ?_
    refine ps_st (S' := (62, [(0, .ref m0), (1, .int (nI j))], [.int (nI j), .ref (q 21), .ref m0], M1)) rfl rfl rfl ?_
    refine pr_ld (a := 21) (j := j) (y := (nI p)) (S' := (63, [(0, .ref m0), (1, .int (nI j))], [.int (nI p), .ref m0], M1)) rfl hR3 rfl (by omega) (fun _ => (hP_12.at hk9).2.2) rfl (fun i1_62 => ?_)
    refine ps_st (S' := (64, [(0, .ref m0), (1, .int (nI j))], [.int 1, .int (nI p), .ref m0], M1)) rfl rfl rfl ?_
    refine ps_st (S' := (65, [(0, .ref m0), (1, .int (nI j))], [.int ((nI p) + 1), .ref m0], M1)) rfl rfl rfl ?_
    rw [nI_add1 (p := p) (k := 1) (x := 1) rfl (by omega)]
    show pl _ _ _ (_, [(0, .ref m0), (1, .int (nI j))], [.int (nI (p + 1)), .ref m0], M1) _
    refine pl_call (a := [.ref m0, .int (nI (p + 1))]) (rest := []) rfl rfl rfl (rd_u4 (n := n) (f := f) (p := (p + 1)) hR3 hF_10 (by omega)) (fun v17 M18 q19 => ?_)
    obtain ⟨rfl, rfl⟩ := q19
    show pl _ _ _ (68, [(0, .ref m0), (1, .int (nI j))], [.long (nL (by4 f (p + 1)))], M1) _
    have hu_65 := by4_lt f (p + 1)
    refine ps_st (S' := (70, [(0, .ref m0), (1, .int (nI j))], [.int 32, .long (nL (by4 f (p + 1)))], M1)) rfl rfl rfl ?_
    refine ps_st (S' := (71, [(0, .ref m0), (1, .int (nI j))], [.long ((nL (by4 f (p + 1))) <<< (Int32.toInt64 32 &&& 63))], M1)) rfl rfl rfl ?_
    refine ps_st (S' := (72, [(0, .ref m0), (1, .int (nI j))], [.ref m0, .long ((nL (by4 f (p + 1))) <<< (Int32.toInt64 32 &&& 63))], M1)) rfl rfl rfl ?_
    refine ps_st (S' := (73, [(0, .ref m0), (1, .int (nI j))], [.ref m0, .ref m0, .long ((nL (by4 f (p + 1))) <<< (Int32.toInt64 32 &&& 63))], M1)) rfl rfl rfl ?_
    refine pr_ref (j := 21) (S' := (76, [(0, .ref m0), (1, .int (nI j))], [.ref (q 21), .ref m0, .long ((nL (by4 f (p + 1))) <<< (Int32.toInt64 32 &&& 63))], M1)) rfl hR3 rfl rfl ?_
    refine ps_st (S' := (77, [(0, .ref m0), (1, .int (nI j))], [.int (nI j), .ref (q 21), .ref m0, .long ((nL (by4 f (p + 1))) <<< (Int32.toInt64 32 &&& 63))], M1)) rfl rfl rfl ?_
    refine pr_ld (a := 21) (j := j) (y := (nI p)) (S' := (78, [(0, .ref m0), (1, .int (nI j))], [.int (nI p), .ref m0, .long ((nL (by4 f (p + 1))) <<< (Int32.toInt64 32 &&& 63))], M1)) rfl hR3 rfl (by omega) (fun _ => (hP_12.at hk9).2.2) rfl (fun i1_77 => ?_)
    refine ps_st (S' := (79, [(0, .ref m0), (1, .int (nI j))], [.int 5, .int (nI p), .ref m0, .long ((nL (by4 f (p + 1))) <<< (Int32.toInt64 32 &&& 63))], M1)) rfl rfl rfl ?_
    refine ps_st (S' := (80, [(0, .ref m0), (1, .int (nI j))], [.int ((nI p) + 5), .ref m0, .long ((nL (by4 f (p + 1))) <<< (Int32.toInt64 32 &&& 63))], M1)) rfl rfl rfl ?_
    rw [nI_add1 (p := p) (k := 5) (x := 5) rfl (by omega)]
    show pl _ _ _ (_, [(0, .ref m0), (1, .int (nI j))], [.int (nI (p + 5)), .ref m0, .long ((nL (by4 f (p + 1))) <<< (Int32.toInt64 32 &&& 63))], M1) _
    refine pl_call (a := [.ref m0, .int (nI (p + 5))]) (rest := [.long ((nL (by4 f (p + 1))) <<< (Int32.toInt64 32 &&& 63))]) rfl rfl rfl (rd_u4 (n := n) (f := f) (p := (p + 5)) hR3 hF_10 (by omega)) (fun v20 M21 q22 => ?_)
    obtain ⟨rfl, rfl⟩ := q22
    show pl _ _ _ (83, [(0, .ref m0), (1, .int (nI j))], [.long (nL (by4 f (p + 5))), .long ((nL (by4 f (p + 1))) <<< (Int32.toInt64 32 &&& 63))], M1) _
    have hu_80 := by4_lt f (p + 5)
    refine ps_st (S' := (84, [(0, .ref m0), (1, .int (nI j))], [.long (((nL (by4 f (p + 1))) <<< (Int32.toInt64 32 &&& 63)) ||| (nL (by4 f (p + 5))))], M1)) rfl rfl rfl ?_
    exact ps_ret rfl rfl (⟨I2, R, rfl, hR3, hEI13, hER, hi4⟩)
  · have c_47 : ¬ ((nI (tg f E j)) = 5) := of_decide_eq_false c_47
    have n_47 : ¬ (tg f E j = 5) := fun h9 => c_47 ((eq_nI (p := tg f E j) (n := 5) (Nat.lt_trans (tg_lt _ _ _) (by decide)) (by decide)).mpr h9)
    refine ps_st (S' := (51, [(2, .int (nI (tg f E j))), (0, .ref m0), (1, .int (nI j))], [.int (nI (tg f E j))], M1)) rfl rfl rfl ?_
    refine ps_st (S' := (53, [(2, .int (nI (tg f E j))), (0, .ref m0), (1, .int (nI j))], [.int 6, .int (nI (tg f E j))], M1)) rfl rfl rfl ?_
    refine ps_if2 (S1 := (85, [(2, .int (nI (tg f E j))), (0, .ref m0), (1, .int (nI j))], [], M1)) (S2 := (56, [(0, .ref m0), (1, .int (nI j))], [], M1)) rfl rfl rfl (fun c_53 => ?_) (fun c_53 => ?_)
    · exact absurd (of_decide_eq_true c_53) (fun h9 => h9 ((eq_nI (p := tg f E j) (n := 6) (Nat.lt_trans (tg_lt _ _ _) (by decide)) (by decide)).mpr (by omega)))
    refine ps_st (S' := (57, [(0, .ref m0), (1, .int (nI j))], [.ref m0], M1)) rfl rfl rfl ?_
    refine ps_st (S' := (58, [(0, .ref m0), (1, .int (nI j))], [.ref m0, .ref m0], M1)) rfl rfl rfl ?_
    refine pr_ref (j := 21) (S' := (61, [(0, .ref m0), (1, .int (nI j))], [.ref (q 21), .ref m0], M1)) rfl hR3 rfl rfl ?_
    refine ps_st (S' := (62, [(0, .ref m0), (1, .int (nI j))], [.int (nI j), .ref (q 21), .ref m0], M1)) rfl rfl rfl ?_
    refine pr_ld (a := 21) (j := j) (y := (nI p)) (S' := (63, [(0, .ref m0), (1, .int (nI j))], [.int (nI p), .ref m0], M1)) rfl hR3 rfl (by omega) (fun _ => (hP_12.at hk9).2.2) rfl (fun i1_62 => ?_)
    refine ps_st (S' := (64, [(0, .ref m0), (1, .int (nI j))], [.int 1, .int (nI p), .ref m0], M1)) rfl rfl rfl ?_
    refine ps_st (S' := (65, [(0, .ref m0), (1, .int (nI j))], [.int ((nI p) + 1), .ref m0], M1)) rfl rfl rfl ?_
    rw [nI_add1 (p := p) (k := 1) (x := 1) rfl (by omega)]
    show pl _ _ _ (_, [(0, .ref m0), (1, .int (nI j))], [.int (nI (p + 1)), .ref m0], M1) _
    refine pl_call (a := [.ref m0, .int (nI (p + 1))]) (rest := []) rfl rfl rfl (rd_u4 (n := n) (f := f) (p := (p + 1)) hR3 hF_10 (by omega)) (fun v23 M24 q25 => ?_)
    obtain ⟨rfl, rfl⟩ := q25
    show pl _ _ _ (68, [(0, .ref m0), (1, .int (nI j))], [.long (nL (by4 f (p + 1)))], M1) _
    have hu_65 := by4_lt f (p + 1)
    refine ps_st (S' := (70, [(0, .ref m0), (1, .int (nI j))], [.int 32, .long (nL (by4 f (p + 1)))], M1)) rfl rfl rfl ?_
    refine ps_st (S' := (71, [(0, .ref m0), (1, .int (nI j))], [.long ((nL (by4 f (p + 1))) <<< (Int32.toInt64 32 &&& 63))], M1)) rfl rfl rfl ?_
    refine ps_st (S' := (72, [(0, .ref m0), (1, .int (nI j))], [.ref m0, .long ((nL (by4 f (p + 1))) <<< (Int32.toInt64 32 &&& 63))], M1)) rfl rfl rfl ?_
    refine ps_st (S' := (73, [(0, .ref m0), (1, .int (nI j))], [.ref m0, .ref m0, .long ((nL (by4 f (p + 1))) <<< (Int32.toInt64 32 &&& 63))], M1)) rfl rfl rfl ?_
    refine pr_ref (j := 21) (S' := (76, [(0, .ref m0), (1, .int (nI j))], [.ref (q 21), .ref m0, .long ((nL (by4 f (p + 1))) <<< (Int32.toInt64 32 &&& 63))], M1)) rfl hR3 rfl rfl ?_
    refine ps_st (S' := (77, [(0, .ref m0), (1, .int (nI j))], [.int (nI j), .ref (q 21), .ref m0, .long ((nL (by4 f (p + 1))) <<< (Int32.toInt64 32 &&& 63))], M1)) rfl rfl rfl ?_
    refine pr_ld (a := 21) (j := j) (y := (nI p)) (S' := (78, [(0, .ref m0), (1, .int (nI j))], [.int (nI p), .ref m0, .long ((nL (by4 f (p + 1))) <<< (Int32.toInt64 32 &&& 63))], M1)) rfl hR3 rfl (by omega) (fun _ => (hP_12.at hk9).2.2) rfl (fun i1_77 => ?_)
    refine ps_st (S' := (79, [(0, .ref m0), (1, .int (nI j))], [.int 5, .int (nI p), .ref m0, .long ((nL (by4 f (p + 1))) <<< (Int32.toInt64 32 &&& 63))], M1)) rfl rfl rfl ?_
    refine ps_st (S' := (80, [(0, .ref m0), (1, .int (nI j))], [.int ((nI p) + 5), .ref m0, .long ((nL (by4 f (p + 1))) <<< (Int32.toInt64 32 &&& 63))], M1)) rfl rfl rfl ?_
    rw [nI_add1 (p := p) (k := 5) (x := 5) rfl (by omega)]
    show pl _ _ _ (_, [(0, .ref m0), (1, .int (nI j))], [.int (nI (p + 5)), .ref m0, .long ((nL (by4 f (p + 1))) <<< (Int32.toInt64 32 &&& 63))], M1) _
    refine pl_call (a := [.ref m0, .int (nI (p + 5))]) (rest := [.long ((nL (by4 f (p + 1))) <<< (Int32.toInt64 32 &&& 63))]) rfl rfl rfl (rd_u4 (n := n) (f := f) (p := (p + 5)) hR3 hF_10 (by omega)) (fun v26 M27 q28 => ?_)
    obtain ⟨rfl, rfl⟩ := q28
    show pl _ _ _ (83, [(0, .ref m0), (1, .int (nI j))], [.long (nL (by4 f (p + 5))), .long ((nL (by4 f (p + 1))) <<< (Int32.toInt64 32 &&& 63))], M1) _
    have hu_80 := by4_lt f (p + 5)
    refine ps_st (S' := (84, [(0, .ref m0), (1, .int (nI j))], [.long (((nL (by4 f (p + 1))) <<< (Int32.toInt64 32 &&& 63)) ||| (nL (by4 f (p + 5))))], M1)) rfl rfl rfl ?_
    exact ps_ret rfl rfl (⟨I2, R, rfl, hR3, hEI13, hER, hi4⟩)
theorem rd_bits {g : xe_G} {m0 : Nat} {q : Nat → Nat} {z : Nat × Nat} {I : rI} {R : rR} {M : mi_H} {ko : Option (Nat × (Nat → Int32))} {k : Int32} (hR : RS g m0 q z I R M) (hK : KPR ko I R) : pt (mT g) 183 [.ref m0, .int k] M (fun v M' => ∃ (I' : rI) (R' : rR), v = some (.long (biK ko k)) ∧ RS g m0 q z I' R' M' ∧ eqI [0] I I' ∧ eqR [] R R' ∧ I' 0 = some 0) := by
  cases ko with
  | none =>
    obtain ⟨kn, h1, h2⟩ := hK
    exact rd_bits0 hR h1 h2
  | some r =>
    obtain ⟨h1, h2, -, -, tx, cN, A, E, N, mj, p1, pF, pM, pA, k1, k2, k3, k4, k5, k6, k7, rfl, rfl⟩ := hK
    rw [biK_is k7]
    have hN := by2_lt r.2 8
    have hpl := whole_in k7
    have hEP := (EP_of hpl).1
    have h0 := tg_0 hpl
    by_cases ht : 3 ≤ tg r.2 E k.toNatClampNeg ∧ tg r.2 E k.toNatClampNeg ≤ 6
    · have hk0 : ¬ k < 0 := fun h9 => by rw [i32_cl h9, h0] at ht; omega
      have e := i32_nn hk0
      unfold biI
      obtain ⟨j, ej⟩ : ∃ j, j = k.toNatClampNeg := ⟨_, rfl⟩
      rw [← ej] at e ht ⊢
      have hj : j < 65536 := Nat.not_le.mp (fun h9 => by
        unfold tg at ht
        rw [lk_hi k3.1 (Or.inr (by omega))] at ht
        dsimp only at ht
        omega)
      subst e
      obtain ⟨p, hk9, hb9⟩ := tg_lk (f := r.2) (E := E) (k := j) (by omega)
      obtain ⟨u1, u2⟩ := nums_of hpl hk9
      rw [plc_of hk9]
      by_cases h34 : tg r.2 E j = 3 ∨ tg r.2 E j = 4
      · rw [if_pos h34]
        exact rd_bits4 hR h1 k4 k5 k6 k1 k2 k3 hEP hN (by2_lt _ _) h2 hj hk9 h34 (u1 (by omega))
      · have h56 : tg r.2 E j = 5 ∨ tg r.2 E j = 6 := by omega
        rw [if_neg h34, if_pos h56]
        exact rd_bits8 hR h1 k4 k5 k6 k1 k2 k3 hEP hN (by2_lt _ _) h2 hj hk9 h56 (u2 (by omega))
    · have e : biI r.2 E k = 0 := by
        unfold biI
        rw [if_neg (by omega), if_neg (by omega)]
      rw [e]
      exact rd_bitsT hR h1 k4 k5 k6 k1 k2 k3 hEP hN (by2_lt _ _) h2 h0 ht
end
