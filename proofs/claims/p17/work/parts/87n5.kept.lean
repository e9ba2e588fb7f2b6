section
/-! what the class keeps (my own text) -/
theorem ob_511 {l l2 : List Value} : ¬ (ob 5 l = ob 11 l2) := fun e => by
  simp only [ob, Sum.inr.injEq, Prod.mk.injEq] at e
  exact absurd e.1 (by decide)
section KCA
variable {g : xe_G} {f : Nat → Int32} {n N q c da : Nat} {E : List (Nat × Nat)} {M M' : mi_H}
/-- members, whatever became of what isn't theirs -/
theorem MV.mov3 {B : List Nat} {mm k : Nat} {G : Nat → Nat} (h : MV f B mm G k M) (hz : M.2.1 ≤ M'.2.1) (hm : ∀ z c', z < M.2.1 → M.1 z = some c' → (∀ o, c' = .inr o → o.1 = 6) → (∀ k F, c' ≠ ar .byte k F) → M'.1 z = some c') : MV f B mm G k M' :=
  h.move hz (fun C n R e => (hm mm _ h.1 e (fun o h9 => by cases h9) (fun k F h9 => by
    simp only [ar, ro, Sum.inl.injEq, Prod.mk.injEq] at h9
    exact absurd h9.1 (fun e9 => by cases e9))).trans e.symm) (fun i hi x1 x2 x3 x4 v e => ⟨x1, x2, x3, x4, v, hm _ _ (h.2.2.2 i hi).1 e (fun o h9 => by cases h9; rfl) (fun k F h9 => by cases h9), fun _ => ⟨rfl, rfl, rfl, rfl, rfl⟩⟩)
/-- what a kept file tells of its members and its attributes -/
def KCM (f : Nat → Int32) (n : Nat) (E : List (Nat × Nat)) (p1 pF pM pA q b : Nat) (w : List Value) (M : mi_H) : Prop := ∃ (fr mr : Nat) (G1 G2 : Nat → Nat) (k1 k2 bc : Nat) (K : KT), w = [.int (nI (by2 f 4)), .int (nI (by2 f 6)), .int (nI p1), .int (nI (by2 f (p1 + 6))), .ref fr, .ref mr, .int (nI (by2 f pA)), .int (nI (pA + 2)), .int (nI K.1), .int (nI bc), .int (nI K.2.1), .int (nI K.2.2.1), .int (nI K.2.2.2.1), .int (nI K.2.2.2.2.1), .int K.2.2.2.2.2] ∧ MV f (mbs f n (by2 f pF) (pF + 2)) fr G1 k1 M ∧ MV f (mbs f n (by2 f pM) (pM + 2)) mr G2 k2 M ∧ s_class f n p1 = .inr pF ∧ s_mbs f n pF = .inr pM ∧ s_mbs f n pM = .inr pA ∧ s_attributes f n pA = .inr n ∧ clS f n E (by2 f p1) (by2 f 6) (by2 f pA) (pA + 2) 0 0 = .inr bc ∧ clU f n E (by2 f 6) (by2 f pA) (pA + 2) (0, 0, 0, 0, 0, -1) = K ∧ DF f n E (mbs f n (by2 f pF) (pF + 2)) G1 (mbs f n (by2 f pF) (pF + 2)).length M ∧ DM8 f n E (by2 f 6) q b (mbs f n (by2 f pM) (pM + 2)) G2 M
theorem KCM.mov3 {p1 pF pM pA q b : Nat} {w : List Value} (h : KCM f n E p1 pF pM pA q b w M) (hz : M.2.1 ≤ M'.2.1) (hm : ∀ z c', z < M.2.1 → M.1 z = some c' → (∀ o, c' = .inr o → o.1 = 6) → (∀ k F, c' ≠ ar .byte k F) → M'.1 z = some c') (hq : H45 M M') : KCM f n E p1 pF pM pA q b w M' := by
  obtain ⟨fr, mr, G1, G2, k1, k2, bc, K, h1, h2, h3, g1, g2, g3, g4, g5, g6, g7, g8⟩ := h
  exact ⟨fr, mr, G1, G2, k1, k2, bc, K, h1, h2.mov3 hz hm, h3.mov3 hz hm, g1, g2, g3, g4, g5, g6, g7.mov3 hz hm, g8.mov3 hz hm hq⟩
/-- a file that is kept: its bytes, its pool -/
def KC (g : xe_G) (f : Nat → Int32) (n c da : Nat) (M : mi_H) : Prop := ∃ (b q N : Nat) (E : List (Nat × Nat)) (p1 pF pM pA : Nat) (w : List Value), M.1 c = some (ob 3 (.ref b :: .ref q :: w)) ∧ M.1 b = some (ob 1 [.ref da]) ∧ M.1 da = some (ar .byte n f) ∧ PV g f n N E q M ∧ s_whole f n = .inr (E, p1, pF, pM, pA) ∧ N = by2 f 8 ∧ (c < M.2.1 ∧ b < M.2.1 ∧ da < M.2.1) ∧ n ≤ 65540 ∧ KCM f n E p1 pF pM pA q b w M
/-- bytes may change, and objects but for pools and literals -/
theorem PV.mov2 (h : PV g f n N E q M) (hz : M.2.1 ≤ M'.2.1) (hm : ∀ z c, z < M.2.1 → M.1 z = some c → (∀ o, c = .inr o → o.1 = 7 ∨ 100 ≤ o.1) → (∀ k F, c ≠ ar .byte k F) → M'.1 z = some c) : PV g f n N E q M' := by
  obtain ⟨hL, H, m, qq, F, cc, ⟨a0, a1, a6⟩, hT, ⟨b0, b1⟩, h3⟩ := h
  have hi : ∀ {z k : Nat} {F : Nat → Int32}, z < M.2.1 → M.1 z = some (ar .int k F) → M'.1 z = some (ar .int k F) := fun hl hc => hm _ _ hl hc (fun o h9 => by cases h9) (fun k F h9 => by simp [ar] at h9)
  have hc : ∀ {z k : Nat} {F : Nat → Int32}, z < M.2.1 → M.1 z = some (ar .char k F) → M'.1 z = some (ar .char k F) := fun hl hc => hm _ _ hl hc (fun o h9 => by cases h9) (fun k F h9 => by simp [ar] at h9)
  have h7 := hm q _ b0 a0 (fun o h9 => by cases h9; exact Or.inl rfl) (fun k F h9 => by cases h9)
  refine ⟨fun k hk => ?_, H, m, qq, F, cc, ⟨h7, fun i h1 h2 => hi (b1 i h1 (by omega)) (a1 i h1 h2), hc (b1 6 (by decide) (by decide)) a6⟩, hT, ⟨by omega, fun i h1 h2 => Nat.lt_of_lt_of_le (b1 i h1 h2) hz⟩, h3⟩
  obtain ⟨k1, k', fl, k2, k3, k4⟩ := hL k hk
  exact ⟨by omega, k', fl, k2, hm _ _ k1 k3 (fun o h9 => by cases h9; exact Or.inr (Nat.le_add_right _ _)) (fun k F h9 => by cases h9), k4⟩
theorem KC.mov2 (h : KC g f n c da M) (hz : M.2.1 ≤ M'.2.1) (hm : ∀ z c', z < M.2.1 → M.1 z = some c' → (∀ o, c' = .inr o → o.1 = 7 ∨ o.1 = 3 ∨ o.1 = 1 ∨ 100 ≤ o.1 ∨ o.1 = 6) → (∀ k F, c' = ar .byte k F → z = da) → M'.1 z = some c') (hq : H45 M M') : KC g f n c da M' := by
  obtain ⟨b, q, N, E, p1, pF, pM, pA, w, h1, h2, h3, h4, h5, h6, ⟨l1, l2, l3⟩, h8⟩ := h
  exact ⟨b, q, N, E, p1, pF, pM, pA, w, hm c _ l1 h1 (fun o h9 => by cases h9; exact Or.inr (Or.inl rfl)) (fun k F h9 => by cases h9), hm b _ l2 h2 (fun o h9 => by cases h9; exact Or.inr (Or.inr (Or.inl rfl))) (fun k F h9 => by cases h9), hm da _ l3 h3 (fun o h9 => by cases h9) (fun k F h9 => rfl), h4.mov2 hz (fun z c' hl hc ho hb => hm z c' hl hc (fun o h9 => (ho o h9).elim Or.inl (fun h => Or.inr (Or.inr (Or.inr (Or.inl h))))) (fun k F h9 => absurd h9 (hb k F))), h5, h6, ⟨by omega, by omega, by omega⟩, h8.1, h8.2.mov3 hz (fun z c' hl hc ho hb => hm z c' hl hc (fun o h9 => Or.inr (Or.inr (Or.inr (Or.inr (ho o h9))))) (fun k F h9 => absurd h9 (hb k F))) hq⟩
theorem KC.gmk {S : List Nat} (h : KC g f n c da M) (hf : gm S M M') (hs : ∀ z ∈ S, (∃ l, M.1 z = some (ob 11 l)) ∨ (z ≠ da ∧ ∃ k F, M.1 z = some (ar .byte k F))) : KC g f n c da M' :=
  h.mov2 hf.2 (fun z c' hl hc ho hb => (hf.1 z hl (fun hz => by
    rcases hs z hz with ⟨l, e⟩ | ⟨e1, k, F, e⟩
    · rw [hc] at e
      have h1 := ho _ (Option.some.inj e)
      dsimp only at h1
      omega
    · rw [hc] at e
      exact e1 (hb k F (Option.some.inj e)))).trans hc) (fun z l hl => ⟨fun hc => (hf.1 z hl (fun hz => by
    rcases hs z hz with ⟨l2, e⟩ | ⟨-, k, F, e⟩
    · rw [hc] at e
      exact ob_411 (Option.some.inj e)
    · rw [hc] at e
      cases e)).trans hc, fun hc => (hf.1 z hl (fun hz => by
    rcases hs z hz with ⟨l2, e⟩ | ⟨-, k, F, e⟩
    · rw [hc] at e
      exact ob_511 (Option.some.inj e)
    · rw [hc] at e
      cases e)).trans hc⟩)
/-- the same cells, others beside them -/
theorem KC.sp {F : Nat → Option mi_C} (h : KC g f n c da M) (hs : spR F M M') : KC g f n c da M' := by
  have ez : M'.2.1 = M.2.1 := by rw [hs.1]
  obtain ⟨b, q, N, E, p1, pF, pM, pA, w, h1, h2, h3, ⟨hL, H, m, qq, F', cc, ⟨a0, a1, a6⟩, hT, ⟨b0, b1⟩, h4⟩, h5, h6, ⟨l1, l2, l3⟩, h8⟩ := h
  refine ⟨b, q, N, E, p1, pF, pM, pA, w, hs.get h1, hs.get h2, hs.get h3, ⟨fun k hk => ?_, H, m, qq, F', cc, ⟨hs.get a0, fun i h1 h2 => hs.get (a1 i h1 h2), hs.get a6⟩, hT, ⟨by omega, fun i h1 h2 => by rw [ez]; exact b1 i h1 h2⟩, h4⟩, h5, h6, ⟨by omega, by omega, by omega⟩, h8.1, h8.2.mov3 (by omega) (fun z c' _ hc _ _ => hs.get hc) (fun z l _ => ⟨fun hc => hs.get hc, fun hc => hs.get hc⟩)⟩
  obtain ⟨k1, k', fl, k2, k3, k4⟩ := hL k hk
  exact ⟨by omega, k', fl, k2, hs.get k3, k4⟩
/-- what is kept, if anything is -/
def KPC (g : xe_G) (ko : Option (Nat × (Nat → Int32))) (kv : Value) (cm : Nat) (M : mi_H) : Prop := match ko with
  | none => kv = .null
  | some p => ∃ c da, kv = .ref c ∧ KC g p.2 p.1 c da M ∧ da ≠ cm ∧ s_read p.2 p.1 = none
variable {ko : Option (Nat × (Nat → Int32))} {kv : Value} {cm x : Nat}
theorem KPC.mov (h : KPC g ko kv cm M) (hz : M.2.1 ≤ M'.2.1) (hm : ∀ a c', a < M.2.1 → M.1 a = some c' → (∀ l, c' ≠ ob 11 l) → M'.1 a = some c') : KPC g ko kv cm M' := by
  cases ko with
  | none => exact h
  | some p =>
    obtain ⟨c, da, h1, h2, h3, h4⟩ := h
    refine ⟨c, da, h1, h2.mov2 hz (fun z c' hl hc ho _ => hm z c' hl hc (fun l e => ?_)) (fun z l hl => ⟨fun hc => hm z _ hl hc (fun l2 e => ob_411 e), fun hc => hm z _ hl hc (fun l2 e => ob_511 e)⟩), h3, h4⟩
    have h9 := ho (11, fun i => l[i]?) e
    dsimp only at h9
    omega
theorem KPC.gmk {S : List Nat} (h : KPC g ko kv cm M) (hf : gm S M M') (hs : ∀ z ∈ S, ∃ l, M.1 z = some (ob 11 l)) : KPC g ko kv cm M' := by
  cases ko with
  | none => exact h
  | some p =>
    obtain ⟨c, da, h1, h2, h3, h4⟩ := h
    exact ⟨c, da, h1, h2.gmk hf (fun z hz => Or.inl (hs z hz)), h3, h4⟩
theorem KPC.gmk2 {cm2 m : Nat} {C : Nat → Int32} {l : List Value} (h : KPC g ko kv cm M) (hf : gm [x, cm] M M') (hx : M.1 x = some (ob 11 l)) (hc : M.1 cm = some (ar .byte m C)) (hd : cm2 = cm ∨ M.2.1 ≤ cm2) : KPC g ko kv cm2 M' := by
  cases ko with
  | none => exact h
  | some p =>
    obtain ⟨c, da, h1, h2, h3, h4⟩ := h
    have hl : da < M.2.1 := by
      obtain ⟨b, q, N, E, p1, pF, pM, pA, w, -, -, -, -, -, -, ⟨-, -, l3⟩, -⟩ := h2
      exact l3
    refine ⟨c, da, h1, h2.gmk hf (fun z hz => ?_), fun e => ?_, h4⟩
    · simp only [List.mem_cons, List.not_mem_nil, or_false] at hz
      rcases hz with rfl | rfl
      · exact Or.inl ⟨l, hx⟩
      · exact Or.inr ⟨fun e => h3 e.symm, m, C, hc⟩
    · rcases hd with e2 | e2
      · exact h3 (e.trans e2)
      · omega
end KCA
set_option maxHeartbeats 1000000 in
theorem dk_holds2_c {g : xe_G} {M : mi_H} {f : Nat → Int32} {n N q : Nat} {E : List (Nat × Nat)} {ox ac o z9 c b da vd fr mr fa ic mj na pa e0 : Nat} {s1 mi ru wa k1 : Int32} {B1 B2 : List Nat} {G1 G2 : Nat → Nat} {og ga gf : Nat} {gn gw : Int32} {gk : Value} (h_ox : M.1 ox = some (ob 8 [.ref q, .int (nI mj), .ref vd])) (h_ac : M.1 ac = some (ob 0 [.ref c, .ref b, .ref q, .ref vd, .int s1])) (h_o : M.1 o = some (ob 2 [.ref c, .ref b, .ref q, .ref vd, .ref ac])) (h_c : M.1 c = some (ob 3 [.ref b, .ref q, .int mi, .int (nI mj), .int (nI fa), .int (nI ic), .ref fr, .ref mr, .int (nI na), .int (nI pa), .int k1, .int 0, .int 0, .int 0, .int 0, .int 0, .int (-1)])) (h_b : M.1 b = some (ob 1 [.ref da])) (h_da : M.1 da = some (ar .byte n f)) (h_vd : M.1 vd = some (ob 10 [.int ru, .int wa])) (h_og : M.1 og = some (ob 11 [.ref ga, .int gn, .ref gf, gk, .int gw])) (hn : n ≤ 65540) (hmj : mj < 65536) (hfa : fa + 8 ≤ n) (hic : fa + 8 + 2 * ic ≤ n) (hic2 : ic < 65536) (hna : na < 65536 ∧ pa ≤ n) (hat : s_atts f n na pa = .inr e0) (hB91 : B1.length < 65536) (hB92 : B2.length < 65536) (hB1 : ∀ i, i < B1.length → B1.getD i 0 + 8 ≤ n ∧ ∃ e0, s_atts f n (by2 f (B1.getD i 0 + 6)) (B1.getD i 0 + 8) = .inr e0) (hB2 : ∀ i, i < B2.length → B2.getD i 0 + 8 ≤ n ∧ ∃ e0, s_atts f n (by2 f (B2.getD i 0 + 6)) (B2.getD i 0 + 8) = .inr e0) (hDs : ∀ i j, i < B1.length → j < B2.length → ¬ G1 i = G2 j) (l_c : c < M.2.1) (l_b : b < M.2.1) (l_da : da < M.2.1) (l_vd : vd < M.2.1) (l_q : q < M.2.1) (l_og : og < M.2.1) (l_ox : ox < M.2.1) (l_ac : ac < M.2.1) (l_o : o < M.2.1) (hz9 : z9 ≤ M.2.1) (hq40 : chkP f n E mj (N - 1) 1 = none) (hq48 : hdS f n E fa = none) (hq56 : ifS f n E (fa + 8) ic 0 = none) (hq64 : flS f n E (by2 f fa) B1 B1.length 0 = none) (hq72 : mtS f n E (by2 f fa) mj B2 B2.length 0 = none) (hV : PV g f n N E q M) (hM1 : MV f B1 fr G1 B1.length M) (hM2 : MV f B2 mr G2 B2.length M) (hDF : DF f n E B1 G1 B1.length M) (hDM : DMe f n E mj q b B2 G2 M) (kf : Nat) : pl (mT g) kf (mb_11 g).2 (78, [(4, .ref o), (3, .ref ac), (2, .ref ox), (0, .ref c), (1, .ref vd)], [], M) (fun v M' => (∃ (bc : Nat) (K : KT), (s_chk f n N E mj fa ic B1 B2 na pa = none) ∧ (clS f n E (by2 f fa) mj na pa 0 0 = .inr bc) ∧ (clU f n E mj na pa (0, 0, 0, 0, 0, -1) = K) ∧ (PV g f n N E q M') ∧ (MV f B1 fr G1 B1.length M') ∧ (MV f B2 mr G2 B2.length M') ∧ (DF f n E B1 G1 B1.length M') ∧ (DMe f n E mj q b B2 G2 M') ∧ v = some (.int 1) ∧ M'.1 vd = some (ob 10 [.int ru, .int wa]) ∧ M'.1 og = some (ob 11 [.ref ga, .int gn, .ref gf, gk, .int gw]) ∧ M'.1 c = some (ob 3 [.ref b, .ref q, .int mi, .int (nI mj), .int (nI fa), .int (nI ic), .ref fr, .ref mr, .int (nI na), .int (nI pa), .int (nI K.1), .int (nI bc), .int (nI K.2.1), .int (nI K.2.2.1), .int (nI K.2.2.2.1), .int (nI K.2.2.2.2.1), .int K.2.2.2.2.2]) ∧ M'.1 b = some (ob 1 [.ref da]) ∧ M'.1 da = some (ar .byte n f) ∧ z9 ≤ M'.2.1) ∨ (∃ (e9 : Nat × Nat), (s_chk f n N E mj fa ic B1 B2 na pa = some e9) ∧ v = some (.int 0) ∧ M'.1 vd = some (ob 10 [.int (nI e9.1), .int (nI e9.2)]) ∧ M'.1 og = some (ob 11 [.ref ga, .int gn, .ref gf, gk, .int gw]) ∧ z9 ≤ M'.2.1)) := by
  obtain ⟨z0, tp0⟩ : ∃ z0, M.2.1 = z0 := ⟨_, rfl⟩
  refine ps_st (S' := (79, [(4, .ref o), (3, .ref ac), (2, .ref ox), (0, .ref c), (1, .ref vd)], [.ref ac], M)) rfl rfl rfl ?_
  refine pl_call (a := [.ref ac]) (rest := []) rfl rfl rfl (dk_ofClass (f := f) (n := n) (N := N) (q := q) (E := E) (ac := ac) (c := c) (b := b) (da := da) (vd := vd) (fr := fr) (mr := mr) (fa := fa) (ic := ic) (mj := mj) (na := na) (pa := pa) (mi := mi) (ru := ru) (wa := wa) (s1 := s1) (k1 := k1) (e0 := e0) (bc0 := 0) (K0 := (0, 0, 0, 0, 0, -1)) h_ac h_b h_da h_c h_vd (hn) (hmj) (hfa) (hna) (by decide) (hat) (rfl) (hV)) (fun v1 M2 q3 => ?_)
  rcases q3 with q3 | q3
  · skip
    obtain ⟨bc4, K5, s26, q79_s, q79_l, q79_U, rfl, h7, h8, h9, f10⟩ := q3
    have h12 := (f10.1 ox (nin3 (ob_ne h_ox h_ac (by decide)) (ob_ne h_ox h_vd (by decide)) (ob_ne h_ox h_c (by decide)))).trans h_ox
    have h13 := (f10.1 o (nin3 (ob_ne h_o h_ac (by decide)) (ob_ne h_o h_vd (by decide)) (ob_ne h_o h_c (by decide)))).trans h_o
    have h14 := (f10.1 b (nin3 (ob_ne h_b h_ac (by decide)) (ob_ne h_b h_vd (by decide)) (ob_ne h_b h_c (by decide)))).trans h_b
    have h15 := (f10.1 da (nin3 (Ne.symm (ob_ar h_ac h_da)) (Ne.symm (ob_ar h_vd h_da)) (Ne.symm (ob_ar h_c h_da)))).trans h_da
    have h16 := (f10.1 og (nin3 (ob_ne h_og h_ac (by decide)) (ob_ne h_og h_vd (by decide)) (ob_ne h_og h_c (by decide)))).trans h_og
    have tp18 : M2.2.1 = z0 := by rw [f10.2]; exact tp0
    have hV19 := hV.keep f10.gm (n7c h_ac (by decide) (n7c h_vd (by decide) (n7c h_c (by decide) (n7nil))))
    have hV20 := hM1.keep f10.gm (n6o h_ac (by decide) (n6o h_vd (by decide) (n6o h_c (by decide) (n6on))))
    have hV21 := hM2.keep f10.gm (n6o h_ac (by decide) (n6o h_vd (by decide) (n6o h_c (by decide) (n6on))))
    have hV22 := hDF.keep f10.gm (nDc h_ac (by decide) (nDc h_vd (by decide) (nDc h_c (by decide) (nDn))))
    have hV23 := hDM.keep f10.gm (nDc h_ac (by decide) (nDc h_vd (by decide) (nDc h_c (by decide) (nDn))))
    show pl _ _ _ (82, [(4, .ref o), (3, .ref ac), (2, .ref ox), (0, .ref c), (1, .ref vd)], [.int 1], M2) _
    clear h_ox h_ac h_o h_c h_b h_da h_vd h_og hV hM1 hM2 hDF hDM f10
    refine ps_if (S1 := (100, [], [], M2)) (S2 := (85, [(4, .ref o), (3, .ref ac), (2, .ref ox), (0, .ref c), (1, .ref vd)], [], M2)) rfl rfl rfl (fun c_82 => ?_) (fun c_82 => ?_)
    · exact absurd (of_decide_eq_true c_82) (by decide)
    refine ps_st (S' := (86, [(4, .ref o), (3, .ref ac), (2, .ref ox), (0, .ref c), (1, .ref vd)], [.ref ox], M2)) rfl rfl rfl ?_
    refine ps_st (S' := (87, [(4, .ref o), (3, .ref ac), (2, .ref ox), (0, .ref c), (1, .ref vd)], [.ref c, .ref ox], M2)) rfl rfl rfl ?_
    refine ps_get (S' := (90, [(4, .ref o), (3, .ref ac), (2, .ref ox), (0, .ref c), (1, .ref vd)], [.int (nI bc4), .ref ox], M2)) rfl h9 rfl rfl ?_
    refine pl_call (a := [.ref ox, .int (nI bc4)]) (rest := []) rfl rfl rfl (dk_bootstrapsHold (f := f) (n := n) (N := N) (q := q) (E := E) (o := ox) (vd := vd) (mj := mj) (bc := bc4) (ru := ru) (wa := wa) h12 h7 (hmj) (q79_l) (hV19)) (fun v24 M25 q26 => ?_)
    rcases q26 with q26 | q26
    · skip
      obtain ⟨q90_s, rfl, h27, f28⟩ := q26
      have h30 := (f28.1 ox (nin1 (ob_ne h12 h7 (by decide)))).trans h12
      have h31 := (f28.1 ac (nin1 (ob_ne h8 h7 (by decide)))).trans h8
      have h32 := (f28.1 o (nin1 (ob_ne h13 h7 (by decide)))).trans h13
      have h33 := (f28.1 c (nin1 (ob_ne h9 h7 (by decide)))).trans h9
      have h34 := (f28.1 b (nin1 (ob_ne h14 h7 (by decide)))).trans h14
      have h35 := (f28.1 da (nin1 (Ne.symm (ob_ar h7 h15)))).trans h15
      have h36 := (f28.1 og (nin1 (ob_ne h16 h7 (by decide)))).trans h16
      have tp38 : M25.2.1 = z0 := by rw [f28.2]; exact tp18
      have hV39 := hV19.keep f28.gm (n7c h7 (by decide) (n7nil))
      have hV40 := hV20.keep f28.gm (n6o h7 (by decide) (n6on))
      have hV41 := hV21.keep f28.gm (n6o h7 (by decide) (n6on))
      have hV42 := hV22.keep f28.gm (nDc h7 (by decide) (nDn))
      have hV43 := hV23.keep f28.gm (nDc h7 (by decide) (nDn))
      show pl _ _ _ (93, [(4, .ref o), (3, .ref ac), (2, .ref ox), (0, .ref c), (1, .ref vd)], [.int 1], M25) _
      clear h12 h8 h13 h9 h14 h15 h7 h16 hV19 hV20 hV21 hV22 hV23 f28
      refine ps_if (S1 := (100, [], [], M25)) (S2 := (96, [(4, .ref o), (3, .ref ac), (2, .ref ox), (0, .ref c), (1, .ref vd)], [], M25)) rfl rfl rfl (fun c_93 => ?_) (fun c_93 => ?_)
      · exact absurd (of_decide_eq_true c_93) (by decide)
      refine ps_st (S' := (97, [(4, .ref o), (3, .ref ac), (2, .ref ox), (0, .ref c), (1, .ref vd)], [.int 1], M25)) rfl rfl rfl ?_
      refine ps_st (S' := (101, [], [.int 1], M25)) rfl rfl rfl ?_
      exact ps_ret rfl rfl (Or.inl ⟨bc4, K5, by
          unfold s_chk
          rw [hq40]
          try dsimp only
          rw [hq48]
          try dsimp only
          rw [hq56]
          try dsimp only
          rw [hq64]
          try dsimp only
          rw [hq72]
          try dsimp only
          rw [q79_s]
          try dsimp only
          rw [q90_s]
          try dsimp only
          first | done | rfl, q79_s, q79_U, hV39, hV40, hV41, hV42, hV43, rfl, h27, h36, h33, h34, h35, by omega⟩)
    · skip
      obtain ⟨e44, q90_s, rfl, h45, f46⟩ := q26
      have h48 := (f46.1 ox (nin1 (ob_ne h12 h7 (by decide)))).trans h12
      have h49 := (f46.1 ac (nin1 (ob_ne h8 h7 (by decide)))).trans h8
      have h50 := (f46.1 o (nin1 (ob_ne h13 h7 (by decide)))).trans h13
      have h51 := (f46.1 c (nin1 (ob_ne h9 h7 (by decide)))).trans h9
      have h52 := (f46.1 b (nin1 (ob_ne h14 h7 (by decide)))).trans h14
      have h53 := (f46.1 da (nin1 (Ne.symm (ob_ar h7 h15)))).trans h15
      have h54 := (f46.1 og (nin1 (ob_ne h16 h7 (by decide)))).trans h16
      have tp56 : M25.2.1 = z0 := by rw [f46.2]; exact tp18
      have hV57 := hV19.keep f46.gm (n7c h7 (by decide) (n7nil))
      have hV58 := hV20.keep f46.gm (n6o h7 (by decide) (n6on))
      have hV59 := hV21.keep f46.gm (n6o h7 (by decide) (n6on))
      have hV60 := hV22.keep f46.gm (nDc h7 (by decide) (nDn))
      have hV61 := hV23.keep f46.gm (nDc h7 (by decide) (nDn))
      show pl _ _ _ (93, [(4, .ref o), (3, .ref ac), (2, .ref ox), (0, .ref c), (1, .ref vd)], [.int 0], M25) _
      clear h12 h8 h13 h9 h14 h15 h7 h16 hV19 hV20 hV21 hV22 hV23 f46
      refine ps_if (S1 := (100, [], [], M25)) (S2 := (96, [(4, .ref o), (3, .ref ac), (2, .ref ox), (0, .ref c), (1, .ref vd)], [], M25)) rfl rfl rfl (fun c_93 => ?_) (fun c_93 => ?_)
      rotate_left
      · exact absurd (by decide) (of_decide_eq_false c_93)
      refine ps_st (S' := (101, [], [.int 0], M25)) rfl rfl rfl ?_
      exact ps_ret rfl rfl (Or.inr ⟨e44, by
          unfold s_chk
          rw [hq40]
          try dsimp only
          rw [hq48]
          try dsimp only
          rw [hq56]
          try dsimp only
          rw [hq64]
          try dsimp only
          rw [hq72]
          try dsimp only
          rw [q79_s]
          try dsimp only
          rw [q90_s]
          try dsimp only
          first | done | rfl, rfl, h45, h54, by omega⟩)
  · skip
    obtain ⟨e962, q79_s, rfl, h63, f64⟩ := q3
    have h66 := (f64.1 ox (nin3 (ob_ne h_ox h_ac (by decide)) (ob_ne h_ox h_vd (by decide)) (ob_ne h_ox h_c (by decide)))).trans h_ox
    have h67 := (f64.1 o (nin3 (ob_ne h_o h_ac (by decide)) (ob_ne h_o h_vd (by decide)) (ob_ne h_o h_c (by decide)))).trans h_o
    have h68 := (f64.1 b (nin3 (ob_ne h_b h_ac (by decide)) (ob_ne h_b h_vd (by decide)) (ob_ne h_b h_c (by decide)))).trans h_b
    have h69 := (f64.1 da (nin3 (Ne.symm (ob_ar h_ac h_da)) (Ne.symm (ob_ar h_vd h_da)) (Ne.symm (ob_ar h_c h_da)))).trans h_da
    have h70 := (f64.1 og (nin3 (ob_ne h_og h_ac (by decide)) (ob_ne h_og h_vd (by decide)) (ob_ne h_og h_c (by decide)))).trans h_og
    have tp72 : M2.2.1 = z0 := by rw [f64.2]; exact tp0
    have hV73 := hV.keep f64.gm (n7c h_ac (by decide) (n7c h_vd (by decide) (n7c h_c (by decide) (n7nil))))
    have hV74 := hM1.keep f64.gm (n6o h_ac (by decide) (n6o h_vd (by decide) (n6o h_c (by decide) (n6on))))
    have hV75 := hM2.keep f64.gm (n6o h_ac (by decide) (n6o h_vd (by decide) (n6o h_c (by decide) (n6on))))
    have hV76 := hDF.keep f64.gm (nDc h_ac (by decide) (nDc h_vd (by decide) (nDc h_c (by decide) (nDn))))
    have hV77 := hDM.keep f64.gm (nDc h_ac (by decide) (nDc h_vd (by decide) (nDc h_c (by decide) (nDn))))
    show pl _ _ _ (82, [(4, .ref o), (3, .ref ac), (2, .ref ox), (0, .ref c), (1, .ref vd)], [.int 0], M2) _
    clear h_ox h_ac h_o h_c h_b h_da h_vd h_og hV hM1 hM2 hDF hDM f64
    refine ps_if (S1 := (100, [], [], M2)) (S2 := (85, [(4, .ref o), (3, .ref ac), (2, .ref ox), (0, .ref c), (1, .ref vd)], [], M2)) rfl rfl rfl (fun c_82 => ?_) (fun c_82 => ?_)
    rotate_left
    · exact absurd (by decide) (of_decide_eq_false c_82)
    refine ps_st (S' := (101, [], [.int 0], M2)) rfl rfl rfl ?_
    exact ps_ret rfl rfl (Or.inr ⟨e962, by
        unfold s_chk
        rw [hq40]
        try dsimp only
        rw [hq48]
        try dsimp only
        rw [hq56]
        try dsimp only
        rw [hq64]
        try dsimp only
        rw [hq72]
        try dsimp only
        rw [q79_s]
        try dsimp only
        first | done | rfl, rfl, h63, h70, by omega⟩)
set_option maxHeartbeats 1000000 in
theorem dk_holds2_b {g : xe_G} {M : mi_H} {f : Nat → Int32} {n N q : Nat} {E : List (Nat × Nat)} {ox ac o z9 c b da vd fr mr fa ic mj na pa e0 : Nat} {s1 mi ru wa k1 : Int32} {B1 B2 : List Nat} {G1 G2 : Nat → Nat} {og ga gf : Nat} {gn gw : Int32} {gk : Value} (h_ox : M.1 ox = some (ob 8 [.ref q, .int (nI mj), .ref vd])) (h_ac : M.1 ac = some (ob 0 [.ref c, .ref b, .ref q, .ref vd, .int s1])) (h_o : M.1 o = some (ob 2 [.ref c, .ref b, .ref q, .ref vd, .ref ac])) (h_c : M.1 c = some (ob 3 [.ref b, .ref q, .int mi, .int (nI mj), .int (nI fa), .int (nI ic), .ref fr, .ref mr, .int (nI na), .int (nI pa), .int k1, .int 0, .int 0, .int 0, .int 0, .int 0, .int (-1)])) (h_b : M.1 b = some (ob 1 [.ref da])) (h_da : M.1 da = some (ar .byte n f)) (h_vd : M.1 vd = some (ob 10 [.int ru, .int wa])) (h_og : M.1 og = some (ob 11 [.ref ga, .int gn, .ref gf, gk, .int gw])) (hn : n ≤ 65540) (hmj : mj < 65536) (hfa : fa + 8 ≤ n) (hic : fa + 8 + 2 * ic ≤ n) (hic2 : ic < 65536) (hna : na < 65536 ∧ pa ≤ n) (hat : s_atts f n na pa = .inr e0) (hB91 : B1.length < 65536) (hB92 : B2.length < 65536) (hB1 : ∀ i, i < B1.length → B1.getD i 0 + 8 ≤ n ∧ ∃ e0, s_atts f n (by2 f (B1.getD i 0 + 6)) (B1.getD i 0 + 8) = .inr e0) (hB2 : ∀ i, i < B2.length → B2.getD i 0 + 8 ≤ n ∧ ∃ e0, s_atts f n (by2 f (B2.getD i 0 + 6)) (B2.getD i 0 + 8) = .inr e0) (hDs : ∀ i j, i < B1.length → j < B2.length → ¬ G1 i = G2 j) (l_c : c < M.2.1) (l_b : b < M.2.1) (l_da : da < M.2.1) (l_vd : vd < M.2.1) (l_q : q < M.2.1) (l_og : og < M.2.1) (l_ox : ox < M.2.1) (l_ac : ac < M.2.1) (l_o : o < M.2.1) (hz9 : z9 ≤ M.2.1) (hq40 : chkP f n E mj (N - 1) 1 = none) (hq48 : hdS f n E fa = none) (hq56 : ifS f n E (fa + 8) ic 0 = none) (hV : PV g f n N E q M) (hM1 : MV f B1 fr G1 0 M) (hM2 : MV f B2 mr G2 0 M) (kf : Nat) : pl (mT g) kf (mb_11 g).2 (62, [(4, .ref o), (3, .ref ac), (2, .ref ox), (0, .ref c), (1, .ref vd)], [], M) (fun v M' => (∃ (bc : Nat) (K : KT), (s_chk f n N E mj fa ic B1 B2 na pa = none) ∧ (clS f n E (by2 f fa) mj na pa 0 0 = .inr bc) ∧ (clU f n E mj na pa (0, 0, 0, 0, 0, -1) = K) ∧ (PV g f n N E q M') ∧ (MV f B1 fr G1 B1.length M') ∧ (MV f B2 mr G2 B2.length M') ∧ (DF f n E B1 G1 B1.length M') ∧ (DMe f n E mj q b B2 G2 M') ∧ v = some (.int 1) ∧ M'.1 vd = some (ob 10 [.int ru, .int wa]) ∧ M'.1 og = some (ob 11 [.ref ga, .int gn, .ref gf, gk, .int gw]) ∧ M'.1 c = some (ob 3 [.ref b, .ref q, .int mi, .int (nI mj), .int (nI fa), .int (nI ic), .ref fr, .ref mr, .int (nI na), .int (nI pa), .int (nI K.1), .int (nI bc), .int (nI K.2.1), .int (nI K.2.2.1), .int (nI K.2.2.2.1), .int (nI K.2.2.2.2.1), .int K.2.2.2.2.2]) ∧ M'.1 b = some (ob 1 [.ref da]) ∧ M'.1 da = some (ar .byte n f) ∧ z9 ≤ M'.2.1) ∨ (∃ (e9 : Nat × Nat), (s_chk f n N E mj fa ic B1 B2 na pa = some e9) ∧ v = some (.int 0) ∧ M'.1 vd = some (ob 10 [.int (nI e9.1), .int (nI e9.2)]) ∧ M'.1 og = some (ob 11 [.ref ga, .int gn, .ref gf, gk, .int gw]) ∧ z9 ≤ M'.2.1)) := by
  obtain ⟨z0, tp0⟩ : ∃ z0, M.2.1 = z0 := ⟨_, rfl⟩
  refine ps_st (S' := (64, [(4, .ref o), (3, .ref ac), (2, .ref ox), (0, .ref c), (1, .ref vd)], [.ref o], M)) rfl rfl rfl ?_
  refine pl_call (a := [.ref o]) (rest := []) rfl rfl rfl (dk_fieldsHold7 (f := f) (n := n) (N := N) (q := q) (E := E) (o := o) (c := c) (b := b) (da := da) (vd := vd) (ac := ac) (mr := mr) (fa := fa) (ic := ic) (mj := mj) (na := na) (pa := pa) (mi := mi) (ru := ru) (wa := wa) (k1 := k1) (k2 := 0) (k3 := 0) (k4 := 0) (k5 := 0) (k6 := 0) (k7 := (-1)) (ox := ox) (og := og) (ga := ga) (gf := gf) (gn := gn) (gw := gw) (gk := gk) (s1 := s1) (B := B1) (G := G1) (mm := fr) (B2 := B2) (G2 := G2) (m2 := mr) (kk2 := 0) h_ox h_og h_o h_c h_b h_da h_vd h_ac (hn) (hmj) (hfa) (hB91) (hB1) (hDs) (by omega) (by omega) (by omega) (by omega) (by omega) (by omega) (by omega) (by omega) (by omega) (hV) (hM1) (hM2)) (fun v1 M2 q3 => ?_)
  rcases q3 with q3 | q3
  · skip
    obtain ⟨s24, q64_s, q64_V, q64_W, q64_X, q64_D, rfl, h5, h6, h7, h8, h9, h10, h11, h12, tp14⟩ := q3
    obtain ⟨t15, tp16⟩ : ∃ t9, M2.2.1 = t9 := ⟨_, rfl⟩
    rw [tp0, tp16] at tp14
    show pl _ _ _ (67, [(4, .ref o), (3, .ref ac), (2, .ref ox), (0, .ref c), (1, .ref vd)], [.int 1], M2) _
    refine ps_if (S1 := (100, [], [], M2)) (S2 := (70, [(4, .ref o), (3, .ref ac), (2, .ref ox), (0, .ref c), (1, .ref vd)], [], M2)) rfl rfl rfl (fun c_67 => ?_) (fun c_67 => ?_)
    · exact absurd (of_decide_eq_true c_67) (by decide)
    refine ps_st (S' := (72, [(4, .ref o), (3, .ref ac), (2, .ref ox), (0, .ref c), (1, .ref vd)], [.ref o], M2)) rfl rfl rfl ?_
    refine pl_call (a := [.ref o]) (rest := []) rfl rfl rfl (dk_methodsHold7 (f := f) (n := n) (N := N) (q := q) (E := E) (o := o) (c := c) (b := b) (da := da) (vd := vd) (ac := ac) (fr := fr) (fa := fa) (ic := ic) (mj := mj) (na := na) (pa := pa) (mi := mi) (ru := ru) (wa := wa) (k1 := k1) (k2 := 0) (k3 := 0) (k4 := 0) (k5 := 0) (k6 := 0) (k7 := (-1)) (ox := ox) (og := og) (ga := ga) (gf := gf) (gn := gn) (gw := gw) (gk := gk) (s1 := s24) (B := B2) (G := G2) (mm := mr) (B2 := B1) (G2 := G1) (m2 := fr) (kk2 := B1.length) h5 h6 h7 h8 h9 h10 h11 h12 (hn) (hmj) (hfa) (hB92) (hB2) (fun i j hi hj e9 => hDs j i hj hi e9.symm) (by omega) (by omega) (by omega) (by omega) (by omega) (by omega) (by omega) (by omega) (by omega) (q64_V) (q64_W) (q64_X) (q64_D)) (fun v17 M18 q19 => ?_)
    rcases q19 with q19 | q19
    · skip
      obtain ⟨s220, q72_s, q72_V, q72_W, q72_X, q72_D, q72_O, rfl, h21, h22, h23, h24, h25, h26, h27, h28, tp30⟩ := q19
      obtain ⟨t31, tp32⟩ : ∃ t9, M18.2.1 = t9 := ⟨_, rfl⟩
      rw [tp16, tp32] at tp30
      show pl _ _ _ (75, [(4, .ref o), (3, .ref ac), (2, .ref ox), (0, .ref c), (1, .ref vd)], [.int 1], M18) _
      have hDM9 : DMe f n E mj q b B2 G2 M18 := ⟨_, q72_D⟩
      refine ps_if (S1 := (100, [], [], M18)) (S2 := (78, [(4, .ref o), (3, .ref ac), (2, .ref ox), (0, .ref c), (1, .ref vd)], [], M18)) rfl rfl rfl (fun c_75 => ?_) (fun c_75 => ?_)
      · exact absurd (of_decide_eq_true c_75) (by decide)
      exact dk_holds2_c (z9 := z9) (e0 := e0) h21 h28 h23 h24 h25 h26 h27 h22 hn hmj hfa hic hic2 hna hat hB91 hB92 hB1 hB2 hDs (by omega) (by omega) (by omega) (by omega) (by omega) (by omega) (by omega) (by omega) (by omega) (by omega) hq40 hq48 hq56 q64_s q72_s q72_V q72_W q72_X q72_O hDM9 kf
    · skip
      obtain ⟨e933, q72_s, rfl, h34, h35, tp37⟩ := q19
      obtain ⟨t38, tp39⟩ : ∃ t9, M18.2.1 = t9 := ⟨_, rfl⟩
      rw [tp16, tp39] at tp37
      show pl _ _ _ (75, [(4, .ref o), (3, .ref ac), (2, .ref ox), (0, .ref c), (1, .ref vd)], [.int 0], M18) _
      refine ps_if (S1 := (100, [], [], M18)) (S2 := (78, [(4, .ref o), (3, .ref ac), (2, .ref ox), (0, .ref c), (1, .ref vd)], [], M18)) rfl rfl rfl (fun c_75 => ?_) (fun c_75 => ?_)
      rotate_left
      · exact absurd (by decide) (of_decide_eq_false c_75)
      refine ps_st (S' := (101, [], [.int 0], M18)) rfl rfl rfl ?_
      exact ps_ret rfl rfl (Or.inr ⟨e933, by
          unfold s_chk
          rw [hq40]
          try dsimp only
          rw [hq48]
          try dsimp only
          rw [hq56]
          try dsimp only
          rw [q64_s]
          try dsimp only
          rw [q72_s]
          try dsimp only
          first | done | rfl, rfl, h34, h35, by omega⟩)
  · skip
    obtain ⟨e940, q64_s, rfl, h41, h42, tp44⟩ := q3
    obtain ⟨t45, tp46⟩ : ∃ t9, M2.2.1 = t9 := ⟨_, rfl⟩
    rw [tp0, tp46] at tp44
    show pl _ _ _ (67, [(4, .ref o), (3, .ref ac), (2, .ref ox), (0, .ref c), (1, .ref vd)], [.int 0], M2) _
    refine ps_if (S1 := (100, [], [], M2)) (S2 := (70, [(4, .ref o), (3, .ref ac), (2, .ref ox), (0, .ref c), (1, .ref vd)], [], M2)) rfl rfl rfl (fun c_67 => ?_) (fun c_67 => ?_)
    rotate_left
    · exact absurd (by decide) (of_decide_eq_false c_67)
    refine ps_st (S' := (101, [], [.int 0], M2)) rfl rfl rfl ?_
    exact ps_ret rfl rfl (Or.inr ⟨e940, by
        unfold s_chk
        rw [hq40]
        try dsimp only
        rw [hq48]
        try dsimp only
        rw [hq56]
        try dsimp only
        rw [q64_s]
        try dsimp only
        first | done | rfl, rfl, h41, h42, by omega⟩)
set_option maxHeartbeats 1000000 in
theorem dk_holds2 {g : xe_G} {M : mi_H} {f : Nat → Int32} {n N q : Nat} {E : List (Nat × Nat)} {c b da vd fr mr fa ic mj na pa e0 : Nat} {mi ru wa k1 : Int32} {B1 B2 : List Nat} {G1 G2 : Nat → Nat} {og ga gf : Nat} {gn gw : Int32} {gk : Value} (h_c : M.1 c = some (ob 3 [.ref b, .ref q, .int mi, .int (nI mj), .int (nI fa), .int (nI ic), .ref fr, .ref mr, .int (nI na), .int (nI pa), .int k1, .int 0, .int 0, .int 0, .int 0, .int 0, .int (-1)])) (h_b : M.1 b = some (ob 1 [.ref da])) (h_da : M.1 da = some (ar .byte n f)) (h_vd : M.1 vd = some (ob 10 [.int ru, .int wa])) (h_og : M.1 og = some (ob 11 [.ref ga, .int gn, .ref gf, gk, .int gw])) (hn : n ≤ 65540) (hmj : mj < 65536) (hfa : fa + 8 ≤ n) (hic : fa + 8 + 2 * ic ≤ n) (hic2 : ic < 65536) (hna : na < 65536 ∧ pa ≤ n) (hat : s_atts f n na pa = .inr e0) (hB91 : B1.length < 65536) (hB92 : B2.length < 65536) (hB1 : ∀ i, i < B1.length → B1.getD i 0 + 8 ≤ n ∧ ∃ e0, s_atts f n (by2 f (B1.getD i 0 + 6)) (B1.getD i 0 + 8) = .inr e0) (hB2 : ∀ i, i < B2.length → B2.getD i 0 + 8 ≤ n ∧ ∃ e0, s_atts f n (by2 f (B2.getD i 0 + 6)) (B2.getD i 0 + 8) = .inr e0) (hDs : ∀ i j, i < B1.length → j < B2.length → ¬ G1 i = G2 j) (l_c : c < M.2.1) (l_b : b < M.2.1) (l_da : da < M.2.1) (l_vd : vd < M.2.1) (l_q : q < M.2.1) (l_og : og < M.2.1) (hW : PW g f n N E q M) (hM1 : MV f B1 fr G1 0 M) (hM2 : MV f B2 mr G2 0 M) : pt (mT g) 11 [.ref c, .ref vd] M (fun v M' => (∃ (bc : Nat) (K : KT), (s_chk f n N E mj fa ic B1 B2 na pa = none) ∧ (clS f n E (by2 f fa) mj na pa 0 0 = .inr bc) ∧ (clU f n E mj na pa (0, 0, 0, 0, 0, -1) = K) ∧ (PV g f n N E q M') ∧ (MV f B1 fr G1 B1.length M') ∧ (MV f B2 mr G2 B2.length M') ∧ (DF f n E B1 G1 B1.length M') ∧ (DMe f n E mj q b B2 G2 M') ∧ v = some (.int 1) ∧ M'.1 vd = some (ob 10 [.int ru, .int wa]) ∧ M'.1 og = some (ob 11 [.ref ga, .int gn, .ref gf, gk, .int gw]) ∧ M'.1 c = some (ob 3 [.ref b, .ref q, .int mi, .int (nI mj), .int (nI fa), .int (nI ic), .ref fr, .ref mr, .int (nI na), .int (nI pa), .int (nI K.1), .int (nI bc), .int (nI K.2.1), .int (nI K.2.2.1), .int (nI K.2.2.2.1), .int (nI K.2.2.2.2.1), .int K.2.2.2.2.2]) ∧ M'.1 b = some (ob 1 [.ref da]) ∧ M'.1 da = some (ar .byte n f) ∧ M.2.1 ≤ M'.2.1) ∨ (∃ (e9 : Nat × Nat), (s_chk f n N E mj fa ic B1 B2 na pa = some e9) ∧ v = some (.int 0) ∧ M'.1 vd = some (ob 10 [.int (nI e9.1), .int (nI e9.2)]) ∧ M'.1 og = some (ob 11 [.ref ga, .int gn, .ref gf, gk, .int gw]) ∧ M.2.1 ≤ M'.2.1)) := by
  refine pt_in (b := mb_11 g) rfl (fun kf => ?_)
  show pl (mT g) kf (mb_11 g).2 (0, [(0, .ref c), (1, .ref vd)], [], M) _
  obtain ⟨z0, tp0⟩ : ∃ z0, M.2.1 = z0 := ⟨_, rfl⟩
  obtain ⟨hL, H, m, qq, F, cc, hP, hT, hBd, hb, hVF, hD⟩ := hW
  have h_q := hP.1
  have h_qq_1 := hP.2.1 1 (by decide) (by decide)
  have h_qq_2 := hP.2.1 2 (by decide) (by decide)
  have h_qq_3 := hP.2.1 3 (by decide) (by decide)
  have h_qq_4 := hP.2.1 4 (by decide) (by decide)
  have h_qq_5 := hP.2.1 5 (by decide) (by decide)
  have h_qq_6 := hP.2.2
  have l_qq_1 := hBd.2 1 (by decide) (by decide)
  have l_qq_2 := hBd.2 2 (by decide) (by decide)
  have l_qq_3 := hBd.2 3 (by decide) (by decide)
  have l_qq_4 := hBd.2 4 (by decide) (by decide)
  have l_qq_5 := hBd.2 5 (by decide) (by decide)
  have l_qq_6 := hBd.2 6 (by decide) (by decide)
  have l_fr := hM1.1
  have l_mr := hM2.1
  refine ps_st (S' := (1, [(0, .ref c), (1, .ref vd)], [.ref c], M)) rfl rfl rfl ?_
  refine ps_get (S' := (4, [(0, .ref c), (1, .ref vd)], [.ref q], M)) rfl h_c rfl rfl ?_
  refine pl_call (a := [.ref q]) (rest := []) rfl rfl rfl (dk_describeTexts (f := f) (n := n) (N := N) (H := H) (m := m) (q := q) (E := E) (qq := qq) (F := F) (cc := cc) h_q h_qq_1 h_qq_2 h_qq_3 h_qq_4 h_qq_5 h_qq_6 (by omega) (hVF) (hD)) (fun v1 M2 q3 => ?_)
  obtain ⟨G54, q4_s, rfl, h5, f6⟩ := q3
  have h8 := (f6.1 c (nin1 (ob_ar h_c h_qq_5))).trans h_c
  have h9 := (f6.1 b (nin1 (ob_ar h_b h_qq_5))).trans h_b
  have h10 := (f6.1 da (nin1 (ar_ne h_da h_qq_5 (by decide)))).trans h_da
  have h11 := (f6.1 vd (nin1 (ob_ar h_vd h_qq_5))).trans h_vd
  have h12 := (f6.1 og (nin1 (ob_ar h_og h_qq_5))).trans h_og
  have h13 := (f6.1 q (nin1 (ob_ar h_q h_qq_5))).trans h_q
  have h14 := (f6.1 (qq 1) (nin1 (hD 1 (by decide) (by decide)))).trans h_qq_1
  have h15 := (f6.1 (qq 2) (nin1 (hD 2 (by decide) (by decide)))).trans h_qq_2
  have h16 := (f6.1 (qq 3) (nin1 (hD 3 (by decide) (by decide)))).trans h_qq_3
  have h17 := (f6.1 (qq 4) (nin1 (hD 4 (by decide) (by decide)))).trans h_qq_4
  have h18 := (f6.1 (qq 6) (nin1 (ar_ne h_qq_6 h_qq_5 (by decide)))).trans h_qq_6
  have tp20 : M2.2.1 = z0 := by rw [f6.2]; exact tp0
  show pl _ _ _ (7, [(0, .ref c), (1, .ref vd)], [], M2) _
  have hV21 := hM1.keepX f6.gm h_qq_5 (by decide)
  have hV22 := hM2.keepX f6.gm h_qq_5 (by decide)
  have hV23 := hL.keepX f6.gm h_qq_5
  have hV : PV g f n N E q M2 := PV_of hV23 (PL5 h13 h14 h15 h16 h17 h5 h18) hT hBd f6.2 hb hVF q4_s
  clear h_c h_b h_da h_vd h_og h_q h_qq_1 h_qq_2 h_qq_3 h_qq_4 h_qq_5 h_qq_6 hM1 hM2 hL f6
  refine ps_newz rfl tp20 (fun M24 h25 f26 tp27 => ?_)
  have h28 := (f26 c (show c ≠ z0 by omega)).trans h8
  have h29 := (f26 b (show b ≠ z0 by omega)).trans h9
  have h30 := (f26 da (show da ≠ z0 by omega)).trans h10
  have h31 := (f26 vd (show vd ≠ z0 by omega)).trans h11
  have h32 := (f26 og (show og ≠ z0 by omega)).trans h12
  have hV33 := hV.new tp20 f26 tp27
  have hV34 := hV21.new tp20 f26 tp27
  have hV35 := hV22.new tp20 f26 tp27
  clear h8 h9 h10 h11 h12 hV hV21 hV22 f26
  show pl _ _ _ (10, [(0, .ref c), (1, .ref vd)], [.ref z0], M24) _
  refine ps_st (S' := (11, [(0, .ref c), (1, .ref vd)], [.ref z0, .ref z0], M24)) rfl rfl rfl ?_
  refine ps_st (S' := (12, [(0, .ref c), (1, .ref vd)], [.ref c, .ref z0, .ref z0], M24)) rfl rfl rfl ?_
  refine ps_st (S' := (13, [(0, .ref c), (1, .ref vd)], [.ref vd, .ref c, .ref z0, .ref z0], M24)) rfl rfl rfl ?_
  refine pl_call (a := [.ref z0, .ref c, .ref vd]) (rest := [.ref z0]) rfl rfl rfl (dk_poolCheck0 (q := q) (c := c) (b := b) (fr := fr) (mr := mr) (fa := fa) (ic := ic) (mj := mj) (na := na) (pa := pa) (vd := vd) (o8 := z0) (mi := mi) (k1 := k1) (k2 := 0) (k3 := 0) (k4 := 0) (k5 := 0) (k6 := 0) (k7 := (-1)) h25 h28) (fun v37 M38 q39 => ?_)
  obtain ⟨rfl, h40, f41⟩ := q39
  have h43 := (f41.1 c (nin1 (show c ≠ z0 by omega))).trans h28
  have h44 := (f41.1 b (nin1 (show b ≠ z0 by omega))).trans h29
  have h45 := (f41.1 da (nin1 (show da ≠ z0 by omega))).trans h30
  have h46 := (f41.1 vd (nin1 (show vd ≠ z0 by omega))).trans h31
  have h47 := (f41.1 og (nin1 (show og ≠ z0 by omega))).trans h32
  have tp49 : M38.2.1 = z0 + 1 := by rw [f41.2]; exact tp27
  have hV50 := hV33.keep f41.gm (n7c h25 (by decide) (n7nil))
  have hV51 := hV34.keep f41.gm (n6o h25 (by decide) (n6on))
  have hV52 := hV35.keep f41.gm (n6o h25 (by decide) (n6on))
  show pl _ _ _ (16, [(0, .ref c), (1, .ref vd)], [.ref z0], M38) _
  clear h28 h29 h30 h31 h32 h25 hV33 hV34 hV35 f41
  refine ps_st (S' := (17, [(2, .ref z0), (0, .ref c), (1, .ref vd)], [], M38)) rfl rfl rfl ?_
  refine ps_newz rfl tp49 (fun M53 h54 f55 tp56 => ?_)
  have h57 := (f55 c (show c ≠ (z0 + 1) by omega)).trans h43
  have h58 := (f55 b (show b ≠ (z0 + 1) by omega)).trans h44
  have h59 := (f55 da (show da ≠ (z0 + 1) by omega)).trans h45
  have h60 := (f55 vd (show vd ≠ (z0 + 1) by omega)).trans h46
  have h61 := (f55 og (show og ≠ (z0 + 1) by omega)).trans h47
  have h62 := (f55 z0 (show z0 ≠ (z0 + 1) by omega)).trans h40
  have hV63 := hV50.new tp49 f55 tp56
  have hV64 := hV51.new tp49 f55 tp56
  have hV65 := hV52.new tp49 f55 tp56
  clear h43 h44 h45 h46 h47 h40 hV50 hV51 hV52 f55
  show pl _ _ _ (20, [(2, .ref z0), (0, .ref c), (1, .ref vd)], [.ref (z0 + 1)], M53) _
  refine ps_st (S' := (21, [(2, .ref z0), (0, .ref c), (1, .ref vd)], [.ref (z0 + 1), .ref (z0 + 1)], M53)) rfl rfl rfl ?_
  refine ps_st (S' := (22, [(2, .ref z0), (0, .ref c), (1, .ref vd)], [.ref c, .ref (z0 + 1), .ref (z0 + 1)], M53)) rfl rfl rfl ?_
  refine ps_st (S' := (23, [(2, .ref z0), (0, .ref c), (1, .ref vd)], [.ref vd, .ref c, .ref (z0 + 1), .ref (z0 + 1)], M53)) rfl rfl rfl ?_
  refine pl_call (a := [.ref (z0 + 1), .ref c, .ref vd]) (rest := [.ref (z0 + 1)]) rfl rfl rfl (dk_attrCheck0 (q := q) (c := c) (b := b) (fr := fr) (mr := mr) (fa := fa) (ic := ic) (mj := mj) (na := na) (pa := pa) (vd := vd) (o0 := (z0 + 1)) (mi := mi) (k1 := k1) (k2 := 0) (k3 := 0) (k4 := 0) (k5 := 0) (k6 := 0) (k7 := (-1)) h54 h57) (fun v67 M68 q69 => ?_)
  obtain ⟨rfl, h70, f71⟩ := q69
  have h73 := (f71.1 c (nin1 (show c ≠ (z0 + 1) by omega))).trans h57
  have h74 := (f71.1 b (nin1 (show b ≠ (z0 + 1) by omega))).trans h58
  have h75 := (f71.1 da (nin1 (show da ≠ (z0 + 1) by omega))).trans h59
  have h76 := (f71.1 vd (nin1 (show vd ≠ (z0 + 1) by omega))).trans h60
  have h77 := (f71.1 og (nin1 (show og ≠ (z0 + 1) by omega))).trans h61
  have h78 := (f71.1 z0 (nin1 (show z0 ≠ (z0 + 1) by omega))).trans h62
  have tp80 : M68.2.1 = z0 + 2 := by rw [f71.2]; exact tp56
  have hV81 := hV63.keep f71.gm (n7c h54 (by decide) (n7nil))
  have hV82 := hV64.keep f71.gm (n6o h54 (by decide) (n6on))
  have hV83 := hV65.keep f71.gm (n6o h54 (by decide) (n6on))
  show pl _ _ _ (26, [(2, .ref z0), (0, .ref c), (1, .ref vd)], [.ref (z0 + 1)], M68) _
  clear h57 h58 h59 h60 h61 h62 h54 hV63 hV64 hV65 f71
  refine ps_st (S' := (27, [(3, .ref (z0 + 1)), (2, .ref z0), (0, .ref c), (1, .ref vd)], [], M68)) rfl rfl rfl ?_
  refine ps_newz rfl tp80 (fun M84 h85 f86 tp87 => ?_)
  have h88 := (f86 c (show c ≠ (z0 + 2) by omega)).trans h73
  have h89 := (f86 b (show b ≠ (z0 + 2) by omega)).trans h74
  have h90 := (f86 da (show da ≠ (z0 + 2) by omega)).trans h75
  have h91 := (f86 vd (show vd ≠ (z0 + 2) by omega)).trans h76
  have h92 := (f86 og (show og ≠ (z0 + 2) by omega)).trans h77
  have h93 := (f86 z0 (show z0 ≠ (z0 + 2) by omega)).trans h78
  have h94 := (f86 (z0 + 1) (show (z0 + 1) ≠ (z0 + 2) by omega)).trans h70
  have hV95 := hV81.new tp80 f86 tp87
  have hV96 := hV82.new tp80 f86 tp87
  have hV97 := hV83.new tp80 f86 tp87
  clear h73 h74 h75 h76 h77 h78 h70 hV81 hV82 hV83 f86
  show pl _ _ _ (30, [(3, .ref (z0 + 1)), (2, .ref z0), (0, .ref c), (1, .ref vd)], [.ref (z0 + 2)], M84) _
  refine ps_st (S' := (31, [(3, .ref (z0 + 1)), (2, .ref z0), (0, .ref c), (1, .ref vd)], [.ref (z0 + 2), .ref (z0 + 2)], M84)) rfl rfl rfl ?_
  refine ps_st (S' := (32, [(3, .ref (z0 + 1)), (2, .ref z0), (0, .ref c), (1, .ref vd)], [.ref c, .ref (z0 + 2), .ref (z0 + 2)], M84)) rfl rfl rfl ?_
  refine ps_st (S' := (33, [(3, .ref (z0 + 1)), (2, .ref z0), (0, .ref c), (1, .ref vd)], [.ref vd, .ref c, .ref (z0 + 2), .ref (z0 + 2)], M84)) rfl rfl rfl ?_
  refine ps_st (S' := (34, [(3, .ref (z0 + 1)), (2, .ref z0), (0, .ref c), (1, .ref vd)], [.ref (z0 + 1), .ref vd, .ref c, .ref (z0 + 2), .ref (z0 + 2)], M84)) rfl rfl rfl ?_
  refine pl_call (a := [.ref (z0 + 2), .ref c, .ref vd, .ref (z0 + 1)]) (rest := [.ref (z0 + 2)]) rfl rfl rfl (dk_classCheck0 (q := q) (c := c) (b := b) (fr := fr) (mr := mr) (fa := fa) (ic := ic) (mj := mj) (na := na) (pa := pa) (vd := vd) (o2 := (z0 + 2)) (ac := (z0 + 1)) (mi := mi) (k1 := k1) (k2 := 0) (k3 := 0) (k4 := 0) (k5 := 0) (k6 := 0) (k7 := (-1)) h85 h88) (fun v99 M100 q101 => ?_)
  obtain ⟨rfl, h102, f103⟩ := q101
  have h105 := (f103.1 c (nin1 (show c ≠ (z0 + 2) by omega))).trans h88
  have h106 := (f103.1 b (nin1 (show b ≠ (z0 + 2) by omega))).trans h89
  have h107 := (f103.1 da (nin1 (show da ≠ (z0 + 2) by omega))).trans h90
  have h108 := (f103.1 vd (nin1 (show vd ≠ (z0 + 2) by omega))).trans h91
  have h109 := (f103.1 og (nin1 (show og ≠ (z0 + 2) by omega))).trans h92
  have h110 := (f103.1 z0 (nin1 (show z0 ≠ (z0 + 2) by omega))).trans h93
  have h111 := (f103.1 (z0 + 1) (nin1 (show (z0 + 1) ≠ (z0 + 2) by omega))).trans h94
  have tp113 : M100.2.1 = z0 + 3 := by rw [f103.2]; exact tp87
  have hV114 := hV95.keep f103.gm (n7c h85 (by decide) (n7nil))
  have hV115 := hV96.keep f103.gm (n6o h85 (by decide) (n6on))
  have hV116 := hV97.keep f103.gm (n6o h85 (by decide) (n6on))
  show pl _ _ _ (37, [(3, .ref (z0 + 1)), (2, .ref z0), (0, .ref c), (1, .ref vd)], [.ref (z0 + 2)], M100) _
  clear h88 h89 h90 h91 h92 h93 h94 h85 hV95 hV96 hV97 f103
  refine ps_st (S' := (39, [(4, .ref (z0 + 2)), (3, .ref (z0 + 1)), (2, .ref z0), (0, .ref c), (1, .ref vd)], [], M100)) rfl rfl rfl ?_
  refine ps_st (S' := (40, [(4, .ref (z0 + 2)), (3, .ref (z0 + 1)), (2, .ref z0), (0, .ref c), (1, .ref vd)], [.ref z0], M100)) rfl rfl rfl ?_
  refine pl_call (a := [.ref z0]) (rest := []) rfl rfl rfl (dk_entriesHold (f := f) (n := n) (N := N) (q := q) (E := E) (o := z0) (vd := vd) (mj := mj) (ru := ru) (wa := wa) h110 h108 (hmj) (hV114)) (fun v117 M118 q119 => ?_)
  rcases q119 with q119 | q119
  · skip
    obtain ⟨q40_s, rfl, h120, f121⟩ := q119
    have h123 := (f121.1 c (nin1 (ob_ne h105 h108 (by decide)))).trans h105
    have h124 := (f121.1 b (nin1 (ob_ne h106 h108 (by decide)))).trans h106
    have h125 := (f121.1 da (nin1 (Ne.symm (ob_ar h108 h107)))).trans h107
    have h126 := (f121.1 og (nin1 (ob_ne h109 h108 (by decide)))).trans h109
    have h127 := (f121.1 z0 (nin1 (show z0 ≠ vd by omega))).trans h110
    have h128 := (f121.1 (z0 + 1) (nin1 (show (z0 + 1) ≠ vd by omega))).trans h111
    have h129 := (f121.1 (z0 + 2) (nin1 (show (z0 + 2) ≠ vd by omega))).trans h102
    have tp131 : M118.2.1 = z0 + 3 := by rw [f121.2]; exact tp113
    have hV132 := hV114.keep f121.gm (n7c h108 (by decide) (n7nil))
    have hV133 := hV115.keep f121.gm (n6o h108 (by decide) (n6on))
    have hV134 := hV116.keep f121.gm (n6o h108 (by decide) (n6on))
    show pl _ _ _ (43, [(4, .ref (z0 + 2)), (3, .ref (z0 + 1)), (2, .ref z0), (0, .ref c), (1, .ref vd)], [.int 1], M118) _
    clear h105 h106 h107 h108 h109 h110 h111 h102 hV114 hV115 hV116 f121
    refine ps_if (S1 := (100, [], [], M118)) (S2 := (46, [(4, .ref (z0 + 2)), (3, .ref (z0 + 1)), (2, .ref z0), (0, .ref c), (1, .ref vd)], [], M118)) rfl rfl rfl (fun c_43 => ?_) (fun c_43 => ?_)
    · exact absurd (of_decide_eq_true c_43) (by decide)
    refine ps_st (S' := (48, [(4, .ref (z0 + 2)), (3, .ref (z0 + 1)), (2, .ref z0), (0, .ref c), (1, .ref vd)], [.ref (z0 + 2)], M118)) rfl rfl rfl ?_
    refine pl_call (a := [.ref (z0 + 2)]) (rest := []) rfl rfl rfl (dk_headHolds (f := f) (n := n) (N := N) (q := q) (E := E) (o := (z0 + 2)) (c := c) (b := b) (da := da) (vd := vd) (ac := (z0 + 1)) (fr := fr) (mr := mr) (fa := fa) (ic := ic) (mj := mj) (na := na) (pa := pa) (mi := mi) (ru := ru) (wa := wa) (k1 := k1) (k2 := 0) (k3 := 0) (k4 := 0) (k5 := 0) (k6 := 0) (k7 := (-1)) h129 h123 h124 h125 h120 (hn) (hmj) (hfa) (hV132)) (fun v135 M136 q137 => ?_)
    rcases q137 with q137 | q137
    · skip
      obtain ⟨q48_s, rfl, h138, f139⟩ := q137
      have h141 := (f139.1 c (nin1 (ob_ne h123 h120 (by decide)))).trans h123
      have h142 := (f139.1 b (nin1 (ob_ne h124 h120 (by decide)))).trans h124
      have h143 := (f139.1 da (nin1 (Ne.symm (ob_ar h120 h125)))).trans h125
      have h144 := (f139.1 og (nin1 (ob_ne h126 h120 (by decide)))).trans h126
      have h145 := (f139.1 z0 (nin1 (show z0 ≠ vd by omega))).trans h127
      have h146 := (f139.1 (z0 + 1) (nin1 (show (z0 + 1) ≠ vd by omega))).trans h128
      have h147 := (f139.1 (z0 + 2) (nin1 (show (z0 + 2) ≠ vd by omega))).trans h129
      have tp149 : M136.2.1 = z0 + 3 := by rw [f139.2]; exact tp131
      have hV150 := hV132.keep f139.gm (n7c h120 (by decide) (n7nil))
      have hV151 := hV133.keep f139.gm (n6o h120 (by decide) (n6on))
      have hV152 := hV134.keep f139.gm (n6o h120 (by decide) (n6on))
      show pl _ _ _ (51, [(4, .ref (z0 + 2)), (3, .ref (z0 + 1)), (2, .ref z0), (0, .ref c), (1, .ref vd)], [.int 1], M136) _
      clear h123 h124 h125 h120 h126 h127 h128 h129 hV132 hV133 hV134 f139
      refine ps_if (S1 := (100, [], [], M136)) (S2 := (54, [(4, .ref (z0 + 2)), (3, .ref (z0 + 1)), (2, .ref z0), (0, .ref c), (1, .ref vd)], [], M136)) rfl rfl rfl (fun c_51 => ?_) (fun c_51 => ?_)
      · exact absurd (of_decide_eq_true c_51) (by decide)
      refine ps_st (S' := (56, [(4, .ref (z0 + 2)), (3, .ref (z0 + 1)), (2, .ref z0), (0, .ref c), (1, .ref vd)], [.ref (z0 + 2)], M136)) rfl rfl rfl ?_
      refine pl_call (a := [.ref (z0 + 2)]) (rest := []) rfl rfl rfl (dk_interfacesHold (f := f) (n := n) (N := N) (q := q) (E := E) (o := (z0 + 2)) (c := c) (b := b) (da := da) (vd := vd) (ac := (z0 + 1)) (fr := fr) (mr := mr) (fa := fa) (ic := ic) (mj := mj) (na := na) (pa := pa) (mi := mi) (ru := ru) (wa := wa) (k1 := k1) (k2 := 0) (k3 := 0) (k4 := 0) (k5 := 0) (k6 := 0) (k7 := (-1)) h147 h141 h142 h143 h138 (hn) (hmj) (hfa) (hic) (hV150)) (fun v153 M154 q155 => ?_)
      rcases q155 with q155 | q155
      · skip
        obtain ⟨q56_s, rfl, h156, f157⟩ := q155
        have h159 := (f157.1 c (nin1 (ob_ne h141 h138 (by decide)))).trans h141
        have h160 := (f157.1 b (nin1 (ob_ne h142 h138 (by decide)))).trans h142
        have h161 := (f157.1 da (nin1 (Ne.symm (ob_ar h138 h143)))).trans h143
        have h162 := (f157.1 og (nin1 (ob_ne h144 h138 (by decide)))).trans h144
        have h163 := (f157.1 z0 (nin1 (show z0 ≠ vd by omega))).trans h145
        have h164 := (f157.1 (z0 + 1) (nin1 (show (z0 + 1) ≠ vd by omega))).trans h146
        have h165 := (f157.1 (z0 + 2) (nin1 (show (z0 + 2) ≠ vd by omega))).trans h147
        have tp167 : M154.2.1 = z0 + 3 := by rw [f157.2]; exact tp149
        have hV168 := hV150.keep f157.gm (n7c h138 (by decide) (n7nil))
        have hV169 := hV151.keep f157.gm (n6o h138 (by decide) (n6on))
        have hV170 := hV152.keep f157.gm (n6o h138 (by decide) (n6on))
        show pl _ _ _ (59, [(4, .ref (z0 + 2)), (3, .ref (z0 + 1)), (2, .ref z0), (0, .ref c), (1, .ref vd)], [.int 1], M154) _
        clear h141 h142 h143 h138 h144 h145 h146 h147 hV150 hV151 hV152 f157
        refine ps_if (S1 := (100, [], [], M154)) (S2 := (62, [(4, .ref (z0 + 2)), (3, .ref (z0 + 1)), (2, .ref z0), (0, .ref c), (1, .ref vd)], [], M154)) rfl rfl rfl (fun c_59 => ?_) (fun c_59 => ?_)
        · exact absurd (of_decide_eq_true c_59) (by decide)
        exact dk_holds2_b (z9 := M.2.1) (e0 := e0) h163 h164 h165 h159 h160 h161 h156 h162 hn hmj hfa hic hic2 hna hat hB91 hB92 hB1 hB2 hDs (by omega) (by omega) (by omega) (by omega) (by omega) (by omega) (by omega) (by omega) (by omega) (by omega) q40_s q48_s q56_s hV168 hV169 hV170 kf
      · skip
        obtain ⟨e171, q56_s, rfl, h172, f173⟩ := q155
        have h175 := (f173.1 c (nin1 (ob_ne h141 h138 (by decide)))).trans h141
        have h176 := (f173.1 b (nin1 (ob_ne h142 h138 (by decide)))).trans h142
        have h177 := (f173.1 da (nin1 (Ne.symm (ob_ar h138 h143)))).trans h143
        have h178 := (f173.1 og (nin1 (ob_ne h144 h138 (by decide)))).trans h144
        have h179 := (f173.1 z0 (nin1 (show z0 ≠ vd by omega))).trans h145
        have h180 := (f173.1 (z0 + 1) (nin1 (show (z0 + 1) ≠ vd by omega))).trans h146
        have h181 := (f173.1 (z0 + 2) (nin1 (show (z0 + 2) ≠ vd by omega))).trans h147
        have tp183 : M154.2.1 = z0 + 3 := by rw [f173.2]; exact tp149
        have hV184 := hV150.keep f173.gm (n7c h138 (by decide) (n7nil))
        have hV185 := hV151.keep f173.gm (n6o h138 (by decide) (n6on))
        have hV186 := hV152.keep f173.gm (n6o h138 (by decide) (n6on))
        show pl _ _ _ (59, [(4, .ref (z0 + 2)), (3, .ref (z0 + 1)), (2, .ref z0), (0, .ref c), (1, .ref vd)], [.int 0], M154) _
        clear h141 h142 h143 h138 h144 h145 h146 h147 hV150 hV151 hV152 f173
        refine ps_if (S1 := (100, [], [], M154)) (S2 := (62, [(4, .ref (z0 + 2)), (3, .ref (z0 + 1)), (2, .ref z0), (0, .ref c), (1, .ref vd)], [], M154)) rfl rfl rfl (fun c_59 => ?_) (fun c_59 => ?_)
        rotate_left
        · exact absurd (by decide) (of_decide_eq_false c_59)
        refine ps_st (S' := (101, [], [.int 0], M154)) rfl rfl rfl ?_
        exact ps_ret rfl rfl (Or.inr ⟨e171, by
            unfold s_chk
            rw [q40_s]
            try dsimp only
            rw [q48_s]
            try dsimp only
            rw [q56_s]
            try dsimp only
            first | done | rfl, rfl, h172, h178, by omega⟩)
    · skip
      obtain ⟨e187, q48_s, rfl, h188, f189⟩ := q137
      have h191 := (f189.1 c (nin1 (ob_ne h123 h120 (by decide)))).trans h123
      have h192 := (f189.1 b (nin1 (ob_ne h124 h120 (by decide)))).trans h124
      have h193 := (f189.1 da (nin1 (Ne.symm (ob_ar h120 h125)))).trans h125
      have h194 := (f189.1 og (nin1 (ob_ne h126 h120 (by decide)))).trans h126
      have h195 := (f189.1 z0 (nin1 (show z0 ≠ vd by omega))).trans h127
      have h196 := (f189.1 (z0 + 1) (nin1 (show (z0 + 1) ≠ vd by omega))).trans h128
      have h197 := (f189.1 (z0 + 2) (nin1 (show (z0 + 2) ≠ vd by omega))).trans h129
      have tp199 : M136.2.1 = z0 + 3 := by rw [f189.2]; exact tp131
      have hV200 := hV132.keep f189.gm (n7c h120 (by decide) (n7nil))
      have hV201 := hV133.keep f189.gm (n6o h120 (by decide) (n6on))
      have hV202 := hV134.keep f189.gm (n6o h120 (by decide) (n6on))
      show pl _ _ _ (51, [(4, .ref (z0 + 2)), (3, .ref (z0 + 1)), (2, .ref z0), (0, .ref c), (1, .ref vd)], [.int 0], M136) _
      clear h123 h124 h125 h120 h126 h127 h128 h129 hV132 hV133 hV134 f189
      refine ps_if (S1 := (100, [], [], M136)) (S2 := (54, [(4, .ref (z0 + 2)), (3, .ref (z0 + 1)), (2, .ref z0), (0, .ref c), (1, .ref vd)], [], M136)) rfl rfl rfl (fun c_51 => ?_) (fun c_51 => ?_)
      rotate_left
      · exact absurd (by decide) (of_decide_eq_false c_51)
      refine ps_st (S' := (101, [], [.int 0], M136)) rfl rfl rfl ?_
      exact ps_ret rfl rfl (Or.inr ⟨e187, by
          unfold s_chk
          rw [q40_s]
          try dsimp only
          rw [q48_s]
          try dsimp only
          first | done | rfl, rfl, h188, h194, by omega⟩)
  · skip
    obtain ⟨e203, q40_s, rfl, h204, f205⟩ := q119
    have h207 := (f205.1 c (nin1 (ob_ne h105 h108 (by decide)))).trans h105
    have h208 := (f205.1 b (nin1 (ob_ne h106 h108 (by decide)))).trans h106
    have h209 := (f205.1 da (nin1 (Ne.symm (ob_ar h108 h107)))).trans h107
    have h210 := (f205.1 og (nin1 (ob_ne h109 h108 (by decide)))).trans h109
    have h211 := (f205.1 z0 (nin1 (show z0 ≠ vd by omega))).trans h110
    have h212 := (f205.1 (z0 + 1) (nin1 (show (z0 + 1) ≠ vd by omega))).trans h111
    have h213 := (f205.1 (z0 + 2) (nin1 (show (z0 + 2) ≠ vd by omega))).trans h102
    have tp215 : M118.2.1 = z0 + 3 := by rw [f205.2]; exact tp113
    have hV216 := hV114.keep f205.gm (n7c h108 (by decide) (n7nil))
    have hV217 := hV115.keep f205.gm (n6o h108 (by decide) (n6on))
    have hV218 := hV116.keep f205.gm (n6o h108 (by decide) (n6on))
    show pl _ _ _ (43, [(4, .ref (z0 + 2)), (3, .ref (z0 + 1)), (2, .ref z0), (0, .ref c), (1, .ref vd)], [.int 0], M118) _
    clear h105 h106 h107 h108 h109 h110 h111 h102 hV114 hV115 hV116 f205
    refine ps_if (S1 := (100, [], [], M118)) (S2 := (46, [(4, .ref (z0 + 2)), (3, .ref (z0 + 1)), (2, .ref z0), (0, .ref c), (1, .ref vd)], [], M118)) rfl rfl rfl (fun c_43 => ?_) (fun c_43 => ?_)
    rotate_left
    · exact absurd (by decide) (of_decide_eq_false c_43)
    refine ps_st (S' := (101, [], [.int 0], M118)) rfl rfl rfl ?_
    exact ps_ret rfl rfl (Or.inr ⟨e203, by
        unfold s_chk
        rw [q40_s]
        try dsimp only
        first | done | rfl, rfl, h204, h210, by omega⟩)
set_option maxHeartbeats 1000000 in
theorem dk_read2 {g : xe_G} {M : mi_H} {f : Nat → Int32} {n o ca da : Nat} {cn wp : Int32} {kv : Value} (h_o : M.1 o = some (ob 11 [.ref ca, .int cn, .ref da, kv, .int wp])) (h_da : M.1 da = some (ar .byte n f)) (hn : n ≤ 65540) (l_o : o < M.2.1) (l_da : da < M.2.1) (hL : LT g M) : pt (mT g) 18 [.ref o] M (fun v M' => (∃ (c2 : Nat), (s_read f n = none) ∧ (KC g f n c2 da M') ∧ (M.2.1 ≤ c2) ∧ v = some (.int 0) ∧ M'.1 o = some (ob 11 [.ref ca, .int cn, .ref g.1, .ref c2, .int (-1)]) ∧ M.2.1 ≤ M'.2.1) ∨ (∃ (e9 : Nat × Nat), (s_read f n = some e9) ∧ v = some (.int (nI e9.1)) ∧ M'.1 o = some (ob 11 [.ref ca, .int cn, .ref g.1, kv, .int (nI e9.2)]) ∧ M.2.1 ≤ M'.2.1)) := by
  refine pt_in (b := mb_18 g) rfl (fun kf => ?_)
  show pl (mT g) kf (mb_18 g).2 (0, [(0, .ref o)], [], M) _
  obtain ⟨z0, tp0⟩ : ∃ z0, M.2.1 = z0 := ⟨_, rfl⟩
  refine ps_newz rfl tp0 (fun M1 h2 f3 tp4 => ?_)
  have h5 := (f3 o (show o ≠ z0 by omega)).trans h_o
  have h6 := (f3 da (show da ≠ z0 by omega)).trans h_da
  have hV7 := hL.new tp0 f3 tp4
  clear h_o h_da hL f3
  show pl _ _ _ (3, [(0, .ref o)], [.ref z0], M1) _
  refine ps_st (S' := (4, [(0, .ref o)], [.ref z0, .ref z0], M1)) rfl rfl rfl ?_
  refine ps_newz rfl tp4 (fun M9 h10 f11 tp12 => ?_)
  have h13 := (f11 o (show o ≠ (z0 + 1) by omega)).trans h5
  have h14 := (f11 da (show da ≠ (z0 + 1) by omega)).trans h6
  have h15 := (f11 z0 (show z0 ≠ (z0 + 1) by omega)).trans h2
  have hV16 := hV7.new tp4 f11 tp12
  clear h5 h6 h2 hV7 f11
  show pl _ _ _ (7, [(0, .ref o)], [.ref (z0 + 1), .ref z0, .ref z0], M9) _
  refine ps_st (S' := (8, [(0, .ref o)], [.ref (z0 + 1), .ref (z0 + 1), .ref z0, .ref z0], M9)) rfl rfl rfl ?_
  refine ps_st (S' := (9, [(0, .ref o)], [.ref o, .ref (z0 + 1), .ref (z0 + 1), .ref z0, .ref z0], M9)) rfl rfl rfl ?_
  refine ps_get (S' := (12, [(0, .ref o)], [.ref da, .ref (z0 + 1), .ref (z0 + 1), .ref z0, .ref z0], M9)) rfl h13 rfl rfl ?_
  refine pl_call (a := [.ref (z0 + 1), .ref da]) (rest := [.ref (z0 + 1), .ref z0, .ref z0]) rfl rfl rfl (dk_bytes0 (o1 := (z0 + 1)) (da := da) h10) (fun v18 M19 q20 => ?_)
  obtain ⟨rfl, h21, f22⟩ := q20
  have h24 := (f22.1 o (nin1 (show o ≠ (z0 + 1) by omega))).trans h13
  have h25 := (f22.1 da (nin1 (show da ≠ (z0 + 1) by omega))).trans h14
  have h26 := (f22.1 z0 (nin1 (show z0 ≠ (z0 + 1) by omega))).trans h15
  have tp28 : M19.2.1 = z0 + 2 := by rw [f22.2]; exact tp12
  have hV29 := hV16.keep f22.gm (n7c h10 (by decide) (n7nil))
  show pl _ _ _ (15, [(0, .ref o)], [.ref (z0 + 1), .ref z0, .ref z0], M19) _
  clear h13 h14 h15 h10 hV16 f22
  refine pl_call (a := [.ref z0, .ref (z0 + 1)]) (rest := [.ref z0]) rfl rfl rfl (dk_classFile0 (o3 := z0) (b := (z0 + 1)) h26 (by omega)) (fun v30 M31 q32 => ?_)
  obtain ⟨u133, u634, u735, rfl, h36, f37, tp38⟩ := q32
  have h39 := (f37.1 o (by omega) (nin1 (show o ≠ z0 by omega))).trans h24
  have h40 := (f37.1 da (by omega) (nin1 (show da ≠ z0 by omega))).trans h25
  have h41 := (f37.1 (z0 + 1) (by omega) (nin1 (show (z0 + 1) ≠ z0 by omega))).trans h21
  obtain ⟨t43, tp44⟩ : ∃ t9, M31.2.1 = t9 := ⟨_, rfl⟩
  rw [tp28, tp44] at tp38
  have hV45 := hV29.keep f37 (n7c h26 (by decide) (n7nil))
  show pl _ _ _ (18, [(0, .ref o)], [.ref z0], M31) _
  clear h24 h25 h26 h21 hV29 f37
  refine ps_st (S' := (19, [(1, .ref z0), (0, .ref o)], [], M31)) rfl rfl rfl ?_
  refine ps_newz rfl tp44 (fun M46 h47 f48 tp49 => ?_)
  have h50 := (f48 o (show o ≠ t43 by omega)).trans h39
  have h51 := (f48 da (show da ≠ t43 by omega)).trans h40
  have h52 := (f48 z0 (show z0 ≠ t43 by omega)).trans h36
  have h53 := (f48 (z0 + 1) (show (z0 + 1) ≠ t43 by omega)).trans h41
  have hV54 := hV45.new tp44 f48 tp49
  clear h39 h40 h36 h41 hV45 f48
  show pl _ _ _ (22, [(1, .ref z0), (0, .ref o)], [.ref t43], M46) _
  refine ps_st (S' := (23, [(1, .ref z0), (0, .ref o)], [.ref t43, .ref t43], M46)) rfl rfl rfl ?_
  refine pl_call (a := [.ref t43]) (rest := [.ref t43]) rfl rfl rfl (dk_verdict0 (o10 := t43) h47) (fun v56 M57 q58 => ?_)
  obtain ⟨rfl, h59, f60⟩ := q58
  have h62 := (f60.1 o (nin1 (show o ≠ t43 by omega))).trans h50
  have h63 := (f60.1 da (nin1 (show da ≠ t43 by omega))).trans h51
  have h64 := (f60.1 z0 (nin1 (show z0 ≠ t43 by omega))).trans h52
  have h65 := (f60.1 (z0 + 1) (nin1 (show (z0 + 1) ≠ t43 by omega))).trans h53
  have tp67 : M57.2.1 = t43 + 1 := by rw [f60.2]; exact tp49
  have hV68 := hV54.keep f60.gm (n7c h47 (by decide) (n7nil))
  show pl _ _ _ (26, [(1, .ref z0), (0, .ref o)], [.ref t43], M57) _
  clear h50 h51 h52 h53 h47 hV54 f60
  refine ps_st (S' := (27, [(2, .ref t43), (1, .ref z0), (0, .ref o)], [], M57)) rfl rfl rfl ?_
  refine ps_st (S' := (28, [(2, .ref t43), (1, .ref z0), (0, .ref o)], [.ref o], M57)) rfl rfl rfl ?_
  refine ps_st (S' := (31, [(2, .ref t43), (1, .ref z0), (0, .ref o)], [.ref g.1, .ref o], M57)) rfl rfl rfl ?_
  refine ps_put (l' := [.ref ca, .int cn, .ref g.1, kv, .int wp]) rfl h62 rfl rfl (fun M69 h70 f71 z72 => ?_)
  have h73 := (f71 da (Ne.symm (ob_ar h62 h63))).trans h63
  have h74 := (f71 z0 (show z0 ≠ o by omega)).trans h64
  have h75 := (f71 (z0 + 1) (show (z0 + 1) ≠ o by omega)).trans h65
  have h76 := (f71 t43 (show t43 ≠ o by omega)).trans h59
  have hV77 := hV68.put h62 (by decide) f71 z72
  have tp79 : M69.2.1 = t43 + 1 := by rw [z72]; exact tp67
  clear h62 h63 h64 h65 h59 hV68 f71
  show pl _ _ _ (34, [(2, .ref t43), (1, .ref z0), (0, .ref o)], [], M69) _
  refine ps_st (S' := (35, [(2, .ref t43), (1, .ref z0), (0, .ref o)], [.ref z0], M69)) rfl rfl rfl ?_
  refine ps_st (S' := (36, [(2, .ref t43), (1, .ref z0), (0, .ref o)], [.ref t43, .ref z0], M69)) rfl rfl rfl ?_
  refine pl_call (a := [.ref z0, .ref t43]) (rest := []) rfl rfl rfl (dk_isWhole (f := f) (n := n) (c := z0) (b := (z0 + 1)) (da := da) (vd := t43) (ru := 0) (wa := (-1)) (mi := 0) (ma := 0) (fa := 0) (ic := 0) (ac := 0) (aa := 0) (k1 := 0) (k2 := 0) (k3 := 0) (k4 := 0) (k5 := 0) (k6 := 0) (k7 := (-1)) (u1 := u133) (u6 := u634) (u7 := u735) (og := o) (ga := ca) (gf := g.1) (gn := cn) (gw := wp) (gk := kv) h74 h75 h73 h76 h70 (hn) (by omega) (by omega) (by omega) (by omega) (by omega) (hV77)) (fun v80 M81 q82 => ?_)
  rcases q82 with q82 | q82
  · skip
    obtain ⟨E83, q84, p185, pF86, pM87, pA88, m189, m290, G191, G292, q36_s, q36_b, q36_c, q36_f, q36_m, q36_a, q36_V, q36_M1, q36_M2, q36_D, rfl, h93, h94, h95, h96, h97, tp99⟩ := q82
    obtain ⟨t100, tp101⟩ : ∃ t9, M81.2.1 = t9 := ⟨_, rfl⟩
    rw [tp79, tp101] at tp99
    show pl _ _ _ (39, [(2, .ref t43), (1, .ref z0), (0, .ref o)], [.int 1], M81) _
    refine ps_if (S1 := (55, [(0, .ref o), (2, .ref t43)], [], M81)) (S2 := (42, [(2, .ref t43), (1, .ref z0), (0, .ref o)], [], M81)) rfl rfl rfl (fun c_39 => ?_) (fun c_39 => ?_)
    · exact absurd (of_decide_eq_true c_39) (by decide)
    refine ps_st (S' := (43, [(2, .ref t43), (1, .ref z0), (0, .ref o)], [.ref z0], M81)) rfl rfl rfl ?_
    refine ps_st (S' := (44, [(2, .ref t43), (1, .ref z0), (0, .ref o)], [.ref t43, .ref z0], M81)) rfl rfl rfl ?_
    have hb1 := mbs_of q36_f
    have hb2 := mbs_of q36_m
    have hc9 := s_class_in q36_c
    obtain ⟨ha8, ha9⟩ := s_atts_of q36_a
    have hu1 := by2_lt f pF86
    have hu2 := by2_lt f pM87
    refine pl_call (a := [.ref z0, .ref t43]) (rest := []) rfl rfl rfl (dk_holds2 (f := f) (n := n) (N := (by2 f 8)) (q := q84) (E := E83) (c := z0) (b := (z0 + 1)) (da := da) (vd := t43) (fr := m189) (mr := m290) (fa := p185) (ic := (by2 f (p185 + 6))) (mj := (by2 f 6)) (na := (by2 f pA88)) (pa := (pA88 + 2)) (e0 := n) (mi := (nI (by2 f 4))) (ru := 0) (wa := (-1)) (k1 := 0) (B1 := (mbs f n (by2 f pF86) (pF86 + 2))) (B2 := (mbs f n (by2 f pM87) (pM87 + 2))) (G1 := G191) (G2 := G292) (og := o) (ga := ca) (gf := g.1) (gn := cn) (gw := wp) (gk := kv) h93 h94 h95 h96 h97 (hn) (by2_lt _ _) (by omega) (by omega) (by2_lt _ _) (⟨by2_lt _ _, by omega⟩) (ha9) (by omega) (by omega) (hb1.2) (hb2.2) (q36_D) (by omega) (by omega) (by omega) (by omega) (by omega) (by omega) (q36_V) (q36_M1) (q36_M2)) (fun v102 M103 q104 => ?_)
    rcases q104 with q104 | q104
    · skip
      obtain ⟨bc105, K106, q44_s, q44_B, q44_U, q44_V, q44_M1, q44_M2, q44_D1, q44_D2, rfl, h107, h108, h109, h110, h111, tp113⟩ := q104
      obtain ⟨t114, tp115⟩ : ∃ t9, M103.2.1 = t9 := ⟨_, rfl⟩
      rw [tp101, tp115] at tp113
      show pl _ _ _ (47, [(2, .ref t43), (1, .ref z0), (0, .ref o)], [.int 1], M103) _
      refine ps_if (S1 := (55, [(0, .ref o), (2, .ref t43)], [], M103)) (S2 := (50, [(2, .ref t43), (1, .ref z0), (0, .ref o)], [], M103)) rfl rfl rfl (fun c_47 => ?_) (fun c_47 => ?_)
      · exact absurd (of_decide_eq_true c_47) (by decide)
      refine ps_st (S' := (51, [(2, .ref t43), (1, .ref z0), (0, .ref o)], [.ref o], M103)) rfl rfl rfl ?_
      refine ps_st (S' := (52, [(2, .ref t43), (1, .ref z0), (0, .ref o)], [.ref z0, .ref o], M103)) rfl rfl rfl ?_
      refine ps_put (l' := [.ref ca, .int cn, .ref g.1, .ref z0, .int wp]) rfl h108 rfl rfl (fun M116 h117 f118 z119 => ?_)
      have h120 := (f118 t43 (show t43 ≠ o by omega)).trans h107
      have h121 := (f118 z0 (show z0 ≠ o by omega)).trans h109
      have h122 := (f118 (z0 + 1) (show (z0 + 1) ≠ o by omega)).trans h110
      have h123 := (f118 da (Ne.symm (ob_ar h108 h111))).trans h111
      have hV124 := q44_V.put h108 (by decide) f118 z119
      have hV125 := q44_M1.put h108 (by decide) f118 z119
      have hV126 := q44_M2.put h108 (by decide) f118 z119
      have hV127 := q44_D1.put h108 (by decide) f118 z119
      have hV128 := q44_D2.put h108 (by decide) f118 z119
      have tp130 : M116.2.1 = t114 := by rw [z119]; exact tp115
      clear h107 h108 h109 h110 h111 q44_V q44_M1 q44_M2 q44_D1 q44_D2 f118
      show pl _ _ _ (55, [(0, .ref o), (2, .ref t43)], [], M116) _
      refine ps_st (S' := (56, [(0, .ref o), (2, .ref t43)], [.ref o], M116)) rfl rfl rfl ?_
      refine ps_st (S' := (57, [(0, .ref o), (2, .ref t43)], [.ref t43, .ref o], M116)) rfl rfl rfl ?_
      refine ps_get (S' := (60, [(0, .ref o), (2, .ref t43)], [.int (-1), .ref o], M116)) rfl h120 rfl rfl ?_
      refine ps_put (l' := [.ref ca, .int cn, .ref g.1, .ref z0, .int (-1)]) rfl h117 rfl rfl (fun M131 h132 f133 z134 => ?_)
      have h135 := (f133 t43 (show t43 ≠ o by omega)).trans h120
      have h136 := (f133 z0 (show z0 ≠ o by omega)).trans h121
      have h137 := (f133 (z0 + 1) (show (z0 + 1) ≠ o by omega)).trans h122
      have h138 := (f133 da (Ne.symm (ob_ar h117 h123))).trans h123
      have hV139 := hV124.put h117 (by decide) f133 z134
      have hV140 := hV125.put h117 (by decide) f133 z134
      have hV141 := hV126.put h117 (by decide) f133 z134
      have hV142 := hV127.put h117 (by decide) f133 z134
      have hV143 := hV128.put h117 (by decide) f133 z134
      have tp145 : M131.2.1 = t114 := by rw [z134]; exact tp130
      clear h120 h117 h121 h122 h123 hV124 hV125 hV126 hV127 hV128 f133
      show pl _ _ _ (63, [(0, .ref o), (2, .ref t43)], [], M131) _
      refine ps_st (S' := (64, [(0, .ref o), (2, .ref t43)], [.ref t43], M131)) rfl rfl rfl ?_
      refine ps_get (S' := (67, [(0, .ref o), (2, .ref t43)], [.int 0], M131)) rfl h135 rfl rfl ?_
      have hrd : s_read f n = none := s_read_2 q36_s q44_s
      exact ps_ret rfl rfl (Or.inl ⟨z0, hrd, ⟨z0 + 1, q84, by2 f 8, E83, p185, pF86, pM87, pA88, _, h136, h137, h138, hV139, q36_s, rfl, ⟨by omega, by omega, by omega⟩, hn, ⟨m189, m290, G191, G292, _, _, _, _, rfl, hV140, hV141, q36_c, q36_f, q36_m, q36_a, q44_B, q44_U, hV142, hV143.k8⟩⟩, by omega, rfl, h132, by omega⟩)
    · skip
      obtain ⟨e9146, q44_s, rfl, h147, h148, tp150⟩ := q104
      obtain ⟨t151, tp152⟩ : ∃ t9, M103.2.1 = t9 := ⟨_, rfl⟩
      rw [tp101, tp152] at tp150
      show pl _ _ _ (47, [(2, .ref t43), (1, .ref z0), (0, .ref o)], [.int 0], M103) _
      refine ps_if (S1 := (55, [(0, .ref o), (2, .ref t43)], [], M103)) (S2 := (50, [(2, .ref t43), (1, .ref z0), (0, .ref o)], [], M103)) rfl rfl rfl (fun c_47 => ?_) (fun c_47 => ?_)
      rotate_left
      · exact absurd (by decide) (of_decide_eq_false c_47)
      refine ps_st (S' := (56, [(0, .ref o), (2, .ref t43)], [.ref o], M103)) rfl rfl rfl ?_
      refine ps_st (S' := (57, [(0, .ref o), (2, .ref t43)], [.ref t43, .ref o], M103)) rfl rfl rfl ?_
      refine ps_get (S' := (60, [(0, .ref o), (2, .ref t43)], [.int (nI e9146.2), .ref o], M103)) rfl h147 rfl rfl ?_
      refine ps_put (l' := [.ref ca, .int cn, .ref g.1, kv, .int (nI e9146.2)]) rfl h148 rfl rfl (fun M153 h154 f155 z156 => ?_)
      have h157 := (f155 t43 (show t43 ≠ o by omega)).trans h147
      have tp159 : M153.2.1 = t151 := by rw [z156]; exact tp152
      clear h147 h148 f155
      show pl _ _ _ (63, [(0, .ref o), (2, .ref t43)], [], M153) _
      refine ps_st (S' := (64, [(0, .ref o), (2, .ref t43)], [.ref t43], M153)) rfl rfl rfl ?_
      refine ps_get (S' := (67, [(0, .ref o), (2, .ref t43)], [.int (nI e9146.1)], M153)) rfl h157 rfl rfl ?_
      exact ps_reti rfl (Or.inr ⟨e9146, s_read_2 q36_s q44_s, rfl, h154, by omega⟩)
  · skip
    obtain ⟨e9160, q36_s, rfl, h161, h162, tp164⟩ := q82
    obtain ⟨t165, tp166⟩ : ∃ t9, M81.2.1 = t9 := ⟨_, rfl⟩
    rw [tp79, tp166] at tp164
    show pl _ _ _ (39, [(2, .ref t43), (1, .ref z0), (0, .ref o)], [.int 0], M81) _
    refine ps_if (S1 := (55, [(0, .ref o), (2, .ref t43)], [], M81)) (S2 := (42, [(2, .ref t43), (1, .ref z0), (0, .ref o)], [], M81)) rfl rfl rfl (fun c_39 => ?_) (fun c_39 => ?_)
    rotate_left
    · exact absurd (by decide) (of_decide_eq_false c_39)
    refine ps_st (S' := (56, [(0, .ref o), (2, .ref t43)], [.ref o], M81)) rfl rfl rfl ?_
    refine ps_st (S' := (57, [(0, .ref o), (2, .ref t43)], [.ref t43, .ref o], M81)) rfl rfl rfl ?_
    refine ps_get (S' := (60, [(0, .ref o), (2, .ref t43)], [.int (nI e9160.2), .ref o], M81)) rfl h161 rfl rfl ?_
    refine ps_put (l' := [.ref ca, .int cn, .ref g.1, kv, .int (nI e9160.2)]) rfl h162 rfl rfl (fun M167 h168 f169 z170 => ?_)
    have h171 := (f169 t43 (show t43 ≠ o by omega)).trans h161
    have tp173 : M167.2.1 = t165 := by rw [z170]; exact tp166
    clear h161 h162 f169
    show pl _ _ _ (63, [(0, .ref o), (2, .ref t43)], [], M167) _
    refine ps_st (S' := (64, [(0, .ref o), (2, .ref t43)], [.ref t43], M167)) rfl rfl rfl ?_
    refine ps_get (S' := (67, [(0, .ref o), (2, .ref t43)], [.int (nI e9160.1)], M167)) rfl h171 rfl rfl ?_
    exact ps_reti rfl (Or.inr ⟨e9160, s_read_1 q36_s, rfl, h168, by omega⟩)
end
section
/-! what the reference keeps (my own text) -/
section XKA
variable {f : Nat → Int32} {n : Nat} {I I' : rI} {R R' : rR}
/-- its members: how many, their names and descriptors -/
def XKM (f : Nat → Int32) (n : Nat) (tx : List (List Nat)) (E : List (Nat × Nat)) (p1 pF pM pA : Nat) (I : rI) (R : rR) : Prop := I 25 = some (nI (mbs f n (by2 f pF) (pF + 2)).length) ∧ I 26 = some (nI (mbs f n (by2 f pM) (pM + 2)).length) ∧ FN 28 29 f n E tx (mbs f n (by2 f pF) (pF + 2)) 0 (mbs f n (by2 f pF) (pF + 2)).length I R ∧ FN 35 36 f n E tx (mbs f n (by2 f pM) (pM + 2)) 0 (mbs f n (by2 f pM) (pM + 2)).length I R ∧ s_mbs f n pF = .inr pM ∧ s_mbs f n pM = .inr pA ∧ s_class f n p1 = .inr pF ∧ s_attributes f n pA = .inr n ∧ (I 54 = some (nI p1) ∧ I 58 = some (nI (by2 f p1)) ∧ I 61 = some (nI (by2 f (p1 + 6))) ∧ FQ f n E (mbs f n (by2 f pF) (pF + 2)) 0 (mbs f n (by2 f pF) (pF + 2)).length I R ∧ MQX f n E (mbs f n (by2 f pM) (pM + 2)) 0 (mbs f n (by2 f pM) (pM + 2)).length I R ∧ ∃ s9, I 9 = some (nI s9) ∧ s9 < tx.length ∧ tx.getD s9 [] = ltx 14) ∧ ∃ (bc : Nat) (K : KT), clS f n E (by2 f p1) (by2 f 6) (by2 f pA) (pA + 2) 0 0 = .inr bc ∧ clU f n E (by2 f 6) (by2 f pA) (pA + 2) (0, 0, 0, 0, 0, -1) = K ∧ I 71 = some (nI bc) ∧ I 66 = some (nI K.1) ∧ I 65 = some (nI K.2.2.1) ∧ I 68 = some (nI K.2.2.2.1) ∧ I 69 = some (nI K.2.2.2.2.1) ∧ I 70 = some (b7 K) ∧ I 72 = some K.2.2.2.2.2
theorem XKM.mono {tx : List (List Nat)} {E : List (Nat × Nat)} {p1 pF pM pA : Nat} (h : XKM f n tx E p1 pF pM pA I R) (hI : ∀ k, k ∈ [3, 8, 16, 49, 51, 52, 53, 25, 26, 54, 58, 61, 65, 66, 68, 69, 70, 71, 72, 9] → I' k = I k) (hR : ∀ k, k ∈ [1, 4, 5, 6, 7, 12, 21, 22, 28, 29, 35, 36, 27, 30, 31, 32, 33, 34, 37, 38, 39, 40, 41, 42, 43, 44, 45, 46] → R' k = R k) : XKM f n tx E p1 pF pM pA I' R' := by
  obtain ⟨h1, h2, h3, h4, h5, h6, h7, h8, ⟨a1, a2, a3, a4, a5, s9, a6, a7⟩, bc, K, h9, h10, g1, g2, g3, g4, g5, g6, g7⟩ := h
  exact ⟨(hI 25 (by decide)).trans h1, (hI 26 (by decide)).trans h2, h3.mono (fun k hk => by cases hk) (fun k hk => hR k (by revert k; decide)), h4.mono (fun k hk => by cases hk) (fun k hk => hR k (by revert k; decide)), h5, h6, h7, h8, ⟨(hI 54 (by decide)).trans a1, (hI 58 (by decide)).trans a2, (hI 61 (by decide)).trans a3, a4.mono (fun k hk => by cases hk) (fun k hk => hR k (by revert k; decide)), a5.mono (fun k hk => by cases hk) (fun k hk => hR k (by revert k; decide)), s9, (hI 9 (by decide)).trans a6, a7⟩, bc, K, h9, h10, (hI 71 (by decide)).trans g1, (hI 66 (by decide)).trans g2, (hI 65 (by decide)).trans g3, (hI 68 (by decide)).trans g4, (hI 69 (by decide)).trans g5, (hI 70 (by decide)).trans g6, (hI 72 (by decide)).trans g7⟩
/-- a file that is kept, as it was parsed -/
def XKV (f : Nat → Int32) (n : Nat) (I : rI) (R : rR) : Prop := ∃ (tx : List (List Nat)) (cN : Nat) (A : Nat → Nat) (E : List (Nat × Nat)) (N mj p1 pF pM pA : Nat), FK n f I R ∧ SYT tx cN A I R ∧ RPV f n E tx N I R ∧ I 51 = some 0 ∧ I 52 = some (nI N) ∧ I 53 = some (nI mj) ∧ s_whole f n = .inr (E, p1, pF, pM, pA) ∧ N = by2 f 8 ∧ mj = by2 f 6 ∧ XKM f n tx E p1 pF pM pA I R
theorem XKV.mono (h : XKV f n I R) (hI : ∀ k, k ∈ [3, 8, 16, 49, 51, 52, 53, 25, 26, 54, 58, 61, 65, 66, 68, 69, 70, 71, 72, 9] → I' k = I k) (hR : ∀ k, k ∈ [1, 4, 5, 6, 7, 12, 21, 22, 28, 29, 35, 36, 27, 30, 31, 32, 33, 34, 37, 38, 39, 40, 41, 42, 43, 44, 45, 46] → R' k = R k) : XKV f n I' R' := by
  obtain ⟨tx, cN, A, E, N, mj, p1, pF, pM, pA, h1, h2, h3, h4, h5, h6, h7, h8, h9, h10⟩ := h
  refine ⟨tx, cN, A, E, N, mj, p1, pF, pM, pA, h1.mono (fun k hk => hI k (by revert k; decide)) (fun k hk => hR k (by revert k; decide)), h2.mono (fun k hk => hI k (by revert k; decide)) (fun k hk => hR k (by revert k; decide)), h3.mono (fun k hk => by cases hk) (fun k hk => hR k (by revert k; decide)), (hI 51 (by decide)).trans h4, (hI 52 (by decide)).trans h5, (hI 53 (by decide)).trans h6, h7, h8, h9, h10.mono hI hR⟩
/-- what is kept, if anything is -/
def KPR (ko : Option (Nat × (Nat → Int32))) (I : rI) (R : rR) : Prop := match ko with
  | none => ∃ kn : Int32, I 18 = some kn ∧ kn < 0
  | some p => I 18 = some (nI p.1) ∧ p.1 ≤ 65540 ∧ (BX 14 p.1 p.2 I R ∧ CU8 p.2 p.1 I R) ∧ s_read p.2 p.1 = none ∧ XKV p.2 p.1 I R
theorem KPR.mono {ko : Option (Nat × (Nat → Int32))} (h : KPR ko I R) (hI : ∀ k, k ∈ [18, 3, 8, 16, 49, 51, 52, 53, 25, 26, 54, 58, 61, 65, 66, 68, 69, 70, 71, 72, 9, 74, 75, 76, 77, 78, 79] → I' k = I k) (hR : ∀ k, k ∈ [14, 1, 4, 5, 6, 7, 12, 21, 22, 28, 29, 35, 36, 27, 30, 31, 32, 33, 34, 37, 38, 39, 40, 41, 42, 43, 44, 45, 46, 80, 81] → R' k = R k) : KPR ko I' R' := by
  cases ko with
  | none =>
    obtain ⟨kn, h1, h2⟩ := h
    exact ⟨kn, (hI 18 (by decide)).trans h1, h2⟩
  | some p =>
    obtain ⟨h1, h2, ⟨h3, h6⟩, h4, h5⟩ := h
    exact ⟨(hI 18 (by decide)).trans h1, h2, ⟨h3.mono (fun k hk => by cases hk) (fun k hk => hR k (by revert k; decide)), h6.mono (fun k hk => hI k (by revert k; decide)) (fun k hk => hR k (by revert k; decide))⟩, h4, h5.mono (fun k hk => hI k (by revert k; decide)) (fun k hk => hR k (by revert k; decide))⟩
/-- the same, with another cut -/
theorem KPR.re8 {ko : Option (Nat × (Nat → Int32))} (h : KPR ko I R) (hI : ∀ k, k ∈ [18, 3, 8, 16, 49, 51, 52, 53, 25, 26, 54, 58, 61, 65, 66, 68, 69, 70, 71, 72, 9] → I' k = I k) (hR : ∀ k, k ∈ [14, 1, 4, 5, 6, 7, 12, 21, 22, 28, 29, 35, 36, 27, 30, 31, 32, 33, 34, 37, 38, 39, 40, 41, 42, 43, 44, 45, 46] → R' k = R k) (h8 : ∀ p, ko = some p → CU8 p.2 p.1 I' R') : KPR ko I' R' := by
  cases ko with
  | none =>
    obtain ⟨kn, h1, h2⟩ := h
    exact ⟨kn, (hI 18 (by decide)).trans h1, h2⟩
  | some p =>
    obtain ⟨h1, h2, ⟨h3, -⟩, h4, h5⟩ := h
    exact ⟨(hI 18 (by decide)).trans h1, h2, ⟨h3.mono (fun k hk => by cases hk) (fun k hk => hR k (by revert k; decide)), h8 p rfl⟩, h4, h5.mono (fun k hk => hI k (by revert k; decide)) (fun k hk => hR k (by revert k; decide))⟩
end XKA
set_option maxHeartbeats 4000000 in
theorem rd_checkFile2 {g : xe_G} {m0 : Nat} {q : Nat → Nat} {z : Nat × Nat} {I : rI} {R : rR} {M : mi_H} {n : Nat} {f : Nat → Int32} {tx : List (List Nat)} {cN : Nat} {A : Nat → Nat} {s1 s2 s3 : Nat} (hR : RS g m0 q z I R M) (hi20 : I 20 = some 0) (hi25 : I 25 = some 0) (hi26 : I 26 = some 0) (hi9 : I 9 = some (nI s1)) (hi10 : I 10 = some (nI s2)) (hi11 : I 11 = some (nI s3)) (hF : FK n f I R) (hY : SYT tx cN A I R) (hK : KX I R) (hs1 : s1 < tx.length ∧ tx.getD s1 [] = ltx 25) (hs2 : s2 < tx.length ∧ tx.getD s2 [] = ltx 26) (hs3 : s3 < tx.length ∧ tx.getD s3 [] = ltx 27) : pt (mT g) 190 [.ref m0] M (fun v M' => (∃  (I' : rI) (R' : rR), (s_read f n = none) ∧ v = some (.int 1) ∧ RS g m0 q z I' R' M' ∧ eqI [3, 8, 20, 25, 26, 47, 48, 50, 51, 52, 53, 54, 55, 56, 57, 58, 59, 60, 61, 65, 66, 67, 68, 69, 70, 71, 72] I I' ∧ eqR [1, 2, 4, 5, 6, 7, 21, 22, 27, 28, 29, 30, 31, 32, 33, 34, 35, 36, 37, 38, 39, 40, 41, 42, 43, 44, 45, 46] R R' ∧ XKV f n I' R') ∨ (∃ (e9 : Nat × Nat) (I' : rI) (R' : rR), (s_read f n = some e9) ∧ v = some (.int 0) ∧ RS g m0 q z I' R' M' ∧ eqI [3, 8, 20, 25, 26, 47, 48, 50, 51, 52, 53, 54, 55, 56, 57, 58, 59, 60, 61, 65, 66, 67, 68, 69, 70, 71, 72] I I' ∧ eqR [1, 2, 4, 5, 6, 7, 21, 22, 27, 28, 29, 30, 31, 32, 33, 34, 35, 36, 37, 38, 39, 40, 41, 42, 43, 44, 45, 46] R R' ∧ I' 47 = some (nI e9.1) ∧ I' 48 = some (nI e9.2))) := by
  refine pt_in (b := mb_190 g) rfl (fun kf => ?_)
  show pl (mT g) kf (mb_190 g).2 (0, [(0, .ref m0)], [], M) _
  have hEI : eqI [3, 8, 20, 25, 26, 47, 48, 50, 51, 52, 53, 54, 55, 56, 57, 58, 59, 60, 61, 65, 66, 67, 68, 69, 70, 71, 72] I I := eqI.rf
  have hER : eqR [1, 2, 4, 5, 6, 7, 21, 22, 27, 28, 29, 30, 31, 32, 33, 34, 35, 36, 37, 38, 39, 40, 41, 42, 43, 44, 45, 46] R R := eqR.rf
  have hn := hF.1
  have LL : ∀ (kf : Nat), (∀ (N mj p1 pF pM pA : Nat) (E : List (Nat × Nat)) (tx : List (List Nat)) (cN : Nat) (A : Nat → Nat) (M1 : mi_H) (I1 : rI) (R1 : rR), (RS g m0 q z I1 R1 M1) → (eqI [3, 8, 20, 25, 26, 47, 48, 50, 51, 52, 53, 54, 55, 56, 57, 58, 59, 60, 61, 65, 66, 67, 68, 69, 70, 71, 72] I I1) → (eqR [1, 2, 4, 5, 6, 7, 21, 22, 27, 28, 29, 30, 31, 32, 33, 34, 35, 36, 37, 38, 39, 40, 41, 42, 43, 44, 45, 46] R R1) → (I1 51 = some 0) → (I1 52 = some (nI N)) → (I1 53 = some (nI mj)) → (I1 54 = some (nI p1)) → (I1 55 = some (nI pF)) → (I1 56 = some (nI pM)) → (I1 57 = some (nI pA)) → (I1 25 = some (nI 0)) → (I1 26 = some (nI 0)) → (I1 71 = some (nI 0)) → (I1 66 = some 0) → (I1 65 = some (nI 0)) → (I1 68 = some (nI 0)) → (I1 69 = some (nI 0)) → (I1 70 = some (-1)) → (I1 72 = some (-1)) → (I1 9 = some (nI s1)) → (I1 10 = some (nI s2)) → (I1 11 = some (nI s3)) → (FK n f I1 R1) → (SYT tx cN A I1 R1) → (RPV f n E tx N I1 R1) → (KX I1 R1) → (N = by2 f 8) → (mj = by2 f 6) → (s_whole f n = .inr (E, p1, pF, pM, pA)) → (s1 < tx.length ∧ tx.getD s1 [] = ltx 25) → (s2 < tx.length ∧ tx.getD s2 [] = ltx 26) → (s3 < tx.length ∧ tx.getD s3 [] = ltx 27) → (s_class f n p1 = .inr pF) → (s_mbs f n pF = .inr pM) → (s_mbs f n pM = .inr pA) → (s_attributes f n pA = .inr n) →  pl (mT g) kf (mb_190 g).2 (47, [(0, .ref m0)], [], M1) (fun v M' => (∃  (I' : rI) (R' : rR), (s_read f n = none) ∧ v = some (.int 1) ∧ RS g m0 q z I' R' M' ∧ eqI [3, 8, 20, 25, 26, 47, 48, 50, 51, 52, 53, 54, 55, 56, 57, 58, 59, 60, 61, 65, 66, 67, 68, 69, 70, 71, 72] I I' ∧ eqR [1, 2, 4, 5, 6, 7, 21, 22, 27, 28, 29, 30, 31, 32, 33, 34, 35, 36, 37, 38, 39, 40, 41, 42, 43, 44, 45, 46] R R' ∧ XKV f n I' R') ∨ (∃ (e9 : Nat × Nat) (I' : rI) (R' : rR), (s_read f n = some e9) ∧ v = some (.int 0) ∧ RS g m0 q z I' R' M' ∧ eqI [3, 8, 20, 25, 26, 47, 48, 50, 51, 52, 53, 54, 55, 56, 57, 58, 59, 60, 61, 65, 66, 67, 68, 69, 70, 71, 72] I I' ∧ eqR [1, 2, 4, 5, 6, 7, 21, 22, 27, 28, 29, 30, 31, 32, 33, 34, 35, 36, 37, 38, 39, 40, 41, 42, 43, 44, 45, 46] R R' ∧ I' 47 = some (nI e9.1) ∧ I' 48 = some (nI e9.2)))) ∧ (∀ (N mj bc k p1 pF pM pA : Nat) (K : KT) (E : List (Nat × Nat)) (tx : List (List Nat)) (cN : Nat) (A : Nat → Nat) (M1 : mi_H) (I1 : rI) (R1 : rR), (RS g m0 q z I1 R1 M1) → (eqI [3, 8, 20, 25, 26, 47, 48, 50, 51, 52, 53, 54, 55, 56, 57, 58, 59, 60, 61, 65, 66, 67, 68, 69, 70, 71, 72] I I1) → (eqR [1, 2, 4, 5, 6, 7, 21, 22, 27, 28, 29, 30, 31, 32, 33, 34, 35, 36, 37, 38, 39, 40, 41, 42, 43, 44, 45, 46] R R1) → (I1 51 = some 0) → (I1 52 = some (nI N)) → (I1 53 = some (nI mj)) → (I1 9 = some (nI s1)) → (I1 71 = some (nI bc)) → (I1 25 = some (nI (0 + (mbs f n (by2 f pF) (pF + 2)).length))) → (I1 26 = some (nI (0 + (mbs f n (by2 f pM) (pM + 2)).length))) → (I1 54 = some (nI p1)) → (I1 58 = some (nI (by2 f p1))) → (I1 61 = some (nI (by2 f (p1 + 6)))) → (I1 66 = some (nI K.1)) → (I1 65 = some (nI K.2.2.1)) → (I1 68 = some (nI K.2.2.2.1)) → (I1 69 = some (nI K.2.2.2.2.1)) → (I1 70 = some (b7 K)) → (I1 72 = some K.2.2.2.2.2) → (FK n f I1 R1) → (SYT tx cN A I1 R1) → (RPV f n E tx N I1 R1) → (FN 28 29 f n E tx (mbs f n (by2 f pF) (pF + 2)) 0 (mbs f n (by2 f pF) (pF + 2)).length I1 R1) → (FN 35 36 f n E tx (mbs f n (by2 f pM) (pM + 2)) 0 (mbs f n (by2 f pM) (pM + 2)).length I1 R1) → (FQ f n E (mbs f n (by2 f pF) (pF + 2)) 0 (mbs f n (by2 f pF) (pF + 2)).length I1 R1) → (MQX f n E (mbs f n (by2 f pM) (pM + 2)) 0 (mbs f n (by2 f pM) (pM + 2)).length I1 R1) → (EP f n E) → (N < 65536) → (mj < 65536) → (bc < 65536) → (1 ≤ k ∧ k ≤ N) → (s_read f n = chkB f E bc (N - 1) 1) → (chkB f E bc (N - k) k = chkB f E bc (N - 1) 1) → (N = by2 f 8) → (mj = by2 f 6) → (s_whole f n = .inr (E, p1, pF, pM, pA)) → (s_class f n p1 = .inr pF) → (s_mbs f n pF = .inr pM) → (s_mbs f n pM = .inr pA) → (s_attributes f n pA = .inr n) → (clS f n E (by2 f p1) mj (by2 f pA) (pA + 2) 0 0 = .inr bc) → (clU f n E mj (by2 f pA) (pA + 2) (0, 0, 0, 0, 0, -1) = K) → (s1 < tx.length ∧ tx.getD s1 [] = ltx 25) →  pl (mT g) kf (mb_190 g).2 (94, [(0, .ref m0), (1, .int (nI k))], [], M1) (fun v M' => (∃  (I' : rI) (R' : rR), (s_read f n = none) ∧ v = some (.int 1) ∧ RS g m0 q z I' R' M' ∧ eqI [3, 8, 20, 25, 26, 47, 48, 50, 51, 52, 53, 54, 55, 56, 57, 58, 59, 60, 61, 65, 66, 67, 68, 69, 70, 71, 72] I I' ∧ eqR [1, 2, 4, 5, 6, 7, 21, 22, 27, 28, 29, 30, 31, 32, 33, 34, 35, 36, 37, 38, 39, 40, 41, 42, 43, 44, 45, 46] R R' ∧ XKV f n I' R') ∨ (∃ (e9 : Nat × Nat) (I' : rI) (R' : rR), (s_read f n = some e9) ∧ v = some (.int 0) ∧ RS g m0 q z I' R' M' ∧ eqI [3, 8, 20, 25, 26, 47, 48, 50, 51, 52, 53, 54, 55, 56, 57, 58, 59, 60, 61, 65, 66, 67, 68, 69, 70, 71, 72] I I' ∧ eqR [1, 2, 4, 5, 6, 7, 21, 22, 27, 28, 29, 30, 31, 32, 33, 34, 35, 36, 37, 38, 39, 40, 41, 42, 43, 44, 45, 46] R R' ∧ I' 47 = some (nI e9.1) ∧ I' 48 = some (nI e9.2)))) := by
    intro kf
    induction kf with
    | zero => exact ⟨by intros; exact pl_0, by intros; exact pl_0⟩
    | succ kf ih =>
      refine ⟨?_, ?_⟩
      · skip
        intro N mj p1 pF pM pA E tx cN A M1 I1 R1 hR1 hEI1 hER1 hl51 hl52 hl53 hl54 hl55 hl56 hl57 hl25 hl26 hl71 hl66 hl65 hl68 hl69 hl70 hl72 hl9 hl10 hl11 hF1 hY1 hP1 hK1 hN8 hm6 hwh hs1 hs2 hs3 hc hf hm ha
        have hn := hF1.1
        obtain ⟨hEP, hN0⟩ := EP_of (whole_in hwh)
        have hN : N < 65536 := by rw [hN8]; exact by2_lt _ _
        have hmj : mj < 65536 := by rw [hm6]; exact by2_lt _ _
        have hN1 : 1 ≤ N := by omega
        have hin := (s_class_in hc).1
        have hMF := MBS_of hf
        have hMM := MBS_of hm
        have hat := atE_at ha
        have hb1 := by2_lt f pF
        have hb2 := by2_lt f pM
        have hcf := by2_lt f p1
        refine ps_st1 (S' := (48, [(0, .ref m0)], [.ref m0], M1)) rfl rfl rfl ?_
        refine pl_call (a := [.ref m0]) (rest := []) rfl rfl rfl (rd_checkPool (n := n) (f := f) (tx := tx) (cN := cN) (A := A) (N := N) (mj := mj) (E := E) (s1 := s1) hR1 hl51 hl52 hl53 hl9 hF1 hY1 hP1 (hEP) (hN) (hmj) (hs1) (hN1)) (fun v1 M2 q3 => ?_)
        rcases q3 with q3 | q3
        · skip
          obtain ⟨I4, R5, q48_s, rfl, hR6, hI7, hX8⟩ := q3
          have hi12 := (hI7 51 (by decide)).trans hl51
          have hi13 := (hI7 52 (by decide)).trans hl52
          have hi14 := (hI7 53 (by decide)).trans hl53
          have hi15 := (hI7 54 (by decide)).trans hl54
          have hi16 := (hI7 55 (by decide)).trans hl55
          have hi17 := (hI7 56 (by decide)).trans hl56
          have hi18 := (hI7 57 (by decide)).trans hl57
          have hi19 := (hI7 25 (by decide)).trans hl25
          have hi21 := (hI7 26 (by decide)).trans hl26
          have hi22 := (hI7 71 (by decide)).trans hl71
          have hi23 := (hI7 66 (by decide)).trans hl66
          have hi24 := (hI7 65 (by decide)).trans hl65
          have hi27 := (hI7 68 (by decide)).trans hl68
          have hi28 := (hI7 69 (by decide)).trans hl69
          have hi29 := (hI7 70 (by decide)).trans hl70
          have hi30 := (hI7 72 (by decide)).trans hl72
          have hi31 := (hI7 9 (by decide)).trans hl9
          have hi32 := (hI7 10 (by decide)).trans hl10
          have hi33 := (hI7 11 (by decide)).trans hl11
          have hF_34 := hF1.mono (cIx hI7 (by decide)) (cRx hX8 (by decide))
          have hY_35 := hY1.mono (cIx hI7 (by decide)) (cRx hX8 (by decide))
          have hP_36 := hP1.mono (cIx hI7 (by decide)) (cRx hX8 (by decide))
          have hK_37 := hK1.mono (cIx hI7 (by decide)) (cRx hX8 (by decide))
          have hEI38 := hEI1.tr hI7 (by decide)
          have hER39 := hER1.tr hX8 (by decide)
          show pl _ _ _ (51, [(0, .ref m0)], [.int 1], M2) _
          have hCP := CP_of q48_s hP1.1
          refine ps_if (S1 := (75, [], [], M2)) (S2 := (54, [(0, .ref m0)], [], M2)) rfl rfl rfl (fun c_51 => ?_) (fun c_51 => ?_)
          · exact absurd (of_decide_eq_true c_51) (by decide)
          refine ps_st (S' := (55, [(0, .ref m0)], [.ref m0], M2)) rfl rfl rfl ?_
          refine pl_call (a := [.ref m0]) (rest := []) rfl rfl rfl (rd_checkClass (n := n) (f := f) (tx := tx) (cN := cN) (A := A) (N := N) (mj := mj) (E := E) (hA := p1) (s3 := s3) hR6 hi15 hi33 hi12 hi13 hi14 hF_34 hY_35 hP_36 (hEP) (hN) (hmj) (hs3) (hCP) (hin)) (fun v40 M41 q42 => ?_)
          rcases q42 with q42 | q42
          · skip
            obtain ⟨I43, R44, q55_s, rfl, hR45, hI46, hX47, hi48, hi49⟩ := q42
            have hi50 := (hI46 51 (by decide)).trans hi12
            have hi51 := (hI46 52 (by decide)).trans hi13
            have hi52 := (hI46 53 (by decide)).trans hi14
            have hi53 := (hI46 54 (by decide)).trans hi15
            have hi54 := (hI46 55 (by decide)).trans hi16
            have hi55 := (hI46 56 (by decide)).trans hi17
            have hi56 := (hI46 57 (by decide)).trans hi18
            have hi57 := (hI46 25 (by decide)).trans hi19
            have hi58 := (hI46 26 (by decide)).trans hi21
            have hi59 := (hI46 71 (by decide)).trans hi22
            have hi60 := (hI46 66 (by decide)).trans hi23
            have hi61 := (hI46 65 (by decide)).trans hi24
            have hi62 := (hI46 68 (by decide)).trans hi27
            have hi63 := (hI46 69 (by decide)).trans hi28
            have hi64 := (hI46 70 (by decide)).trans hi29
            have hi65 := (hI46 72 (by decide)).trans hi30
            have hi66 := (hI46 9 (by decide)).trans hi31
            have hi67 := (hI46 10 (by decide)).trans hi32
            have hi68 := (hI46 11 (by decide)).trans hi33
            have hF_69 := hF_34.mono (cIx hI46 (by decide)) (cRx hX47 (by decide))
            have hY_70 := hY_35.mono (cIx hI46 (by decide)) (cRx hX47 (by decide))
            have hP_71 := hP_36.mono (cIx hI46 (by decide)) (cRx hX47 (by decide))
            have hK_72 := hK_37.mono (cIx hI46 (by decide)) (cRx hX47 (by decide))
            have hEI73 := hEI38.tr hI46 (by decide)
            have hER74 := hER39.tr hX47 (by decide)
            show pl _ _ _ (58, [(0, .ref m0)], [.int 1], M41) _
            refine ps_if (S1 := (75, [], [], M41)) (S2 := (61, [(0, .ref m0)], [], M41)) rfl rfl rfl (fun c_58 => ?_) (fun c_58 => ?_)
            · exact absurd (of_decide_eq_true c_58) (by decide)
            refine ps_st (S' := (62, [(0, .ref m0)], [.ref m0], M41)) rfl rfl rfl ?_
            refine pl_call (a := [.ref m0]) (rest := []) rfl rfl rfl (rd_checkFields7 (n := n) (f := f) (tx := tx) (cN := cN) (A := A) (N := N) (mj := mj) (E := E) (pF := pF) (f0 := 0) (cf := (by2 f p1)) (B := (mbs f n (by2 f pF) (pF + 2))) (E1 := (fun i => mE f n ((mbs f n (by2 f pF) (pF + 2)).getD i 0))) hR45 hi50 hi51 hi52 hi48 hi54 hi57 hF_69 hY_70 hP_71 hK_72 (hEP) (hN) (hmj) (hMF) (by omega) (hcf)) (fun v75 M76 q77 => ?_)
            rcases q77 with q77 | q77
            · skip
              obtain ⟨I78, R79, q62_s, rfl, hR80, hI81, hX82, hi83, hN9_84, hQ_85⟩ := q77
              have hi86 := (hI81 51 (by decide)).trans hi50
              have hi87 := (hI81 52 (by decide)).trans hi51
              have hi88 := (hI81 53 (by decide)).trans hi52
              have hi89 := (hI81 54 (by decide)).trans hi53
              have hi90 := (hI81 55 (by decide)).trans hi54
              have hi91 := (hI81 56 (by decide)).trans hi55
              have hi92 := (hI81 57 (by decide)).trans hi56
              have hi93 := (hI81 26 (by decide)).trans hi58
              have hi94 := (hI81 71 (by decide)).trans hi59
              have hi95 := (hI81 66 (by decide)).trans hi60
              have hi96 := (hI81 65 (by decide)).trans hi61
              have hi97 := (hI81 68 (by decide)).trans hi62
              have hi98 := (hI81 69 (by decide)).trans hi63
              have hi99 := (hI81 70 (by decide)).trans hi64
              have hi100 := (hI81 72 (by decide)).trans hi65
              have hi101 := (hI81 9 (by decide)).trans hi66
              have hi102 := (hI81 10 (by decide)).trans hi67
              have hi103 := (hI81 11 (by decide)).trans hi68
              have hi104 := (hI81 58 (by decide)).trans hi48
              have hi105 := (hI81 61 (by decide)).trans hi49
              have hF_106 := hF_69.mono (cIx hI81 (by decide)) (cRx hX82 (by decide))
              have hY_107 := hY_70.mono (cIx hI81 (by decide)) (cRx hX82 (by decide))
              have hP_108 := hP_71.mono (cIx hI81 (by decide)) (cRx hX82 (by decide))
              have hK_109 := hK_72.mono (cIx hI81 (by decide)) (cRx hX82 (by decide))
              have hEI110 := hEI73.tr hI81 (by decide)
              have hER111 := hER74.tr hX82 (by decide)
              show pl _ _ _ (65, [(0, .ref m0)], [.int 1], M76) _
              refine ps_if (S1 := (75, [], [], M76)) (S2 := (68, [(0, .ref m0)], [], M76)) rfl rfl rfl (fun c_65 => ?_) (fun c_65 => ?_)
              · exact absurd (of_decide_eq_true c_65) (by decide)
              refine ps_st (S' := (69, [(0, .ref m0)], [.ref m0], M76)) rfl rfl rfl ?_
              refine pl_call (a := [.ref m0]) (rest := []) rfl rfl rfl (rd_checkMethods7 (n := n) (f := f) (tx := tx) (cN := cN) (A := A) (N := N) (mj := mj) (E := E) (pM := pM) (f0 := 0) (cf := (by2 f p1)) (si := s1) (sc := s2) (B := (mbs f n (by2 f pM) (pM + 2))) (E1 := (fun i => mE f n ((mbs f n (by2 f pM) (pM + 2)).getD i 0))) hR80 hi86 hi87 hi88 hi104 hi91 hi93 hi101 hi102 hF_106 hY_107 hP_108 hK_109 (hEP) (hN) (hmj) (hMM) (by omega) (hcf) (⟨hs1.1, hs1.2.trans lt_eq.2.1⟩) (⟨hs2.1, hs2.2.trans lt_eq.2.2.1⟩)) (fun v112 M113 q114 => ?_)
              rcases q114 with q114 | q114
              · skip
                obtain ⟨I115, R116, q69_s, rfl, hR117, hI118, hX119, hi120, hN9_121, hQ_122⟩ := q114
                have hi123 := (hI118 51 (by decide)).trans hi86
                have hi124 := (hI118 52 (by decide)).trans hi87
                have hi125 := (hI118 53 (by decide)).trans hi88
                have hi126 := (hI118 54 (by decide)).trans hi89
                have hi127 := (hI118 55 (by decide)).trans hi90
                have hi128 := (hI118 56 (by decide)).trans hi91
                have hi129 := (hI118 57 (by decide)).trans hi92
                have hi130 := (hI118 71 (by decide)).trans hi94
                have hi131 := (hI118 66 (by decide)).trans hi95
                have hi132 := (hI118 65 (by decide)).trans hi96
                have hi133 := (hI118 68 (by decide)).trans hi97
                have hi134 := (hI118 69 (by decide)).trans hi98
                have hi135 := (hI118 70 (by decide)).trans hi99
                have hi136 := (hI118 72 (by decide)).trans hi100
                have hi137 := (hI118 9 (by decide)).trans hi101
                have hi138 := (hI118 10 (by decide)).trans hi102
                have hi139 := (hI118 11 (by decide)).trans hi103
                have hi140 := (hI118 58 (by decide)).trans hi104
                have hi141 := (hI118 61 (by decide)).trans hi105
                have hi142 := (hI118 25 (by decide)).trans hi83
                have hF_143 := hF_106.mono (cIx hI118 (by decide)) (cRx hX119 (by decide))
                have hY_144 := hY_107.mono (cIx hI118 (by decide)) (cRx hX119 (by decide))
                have hP_145 := hP_108.mono (cIx hI118 (by decide)) (cRx hX119 (by decide))
                have hK_146 := hK_109.mono (cIx hI118 (by decide)) (cRx hX119 (by decide))
                have hN1_147 := hN9_84.mono (cIx hI118 (by decide)) (cRx hX119 (by decide))
                have hQ1_148 := hQ_85.mono (cIx hI118 (by decide)) (cRx hX119 (by decide))
                have hEI149 := hEI110.tr hI118 (by decide)
                have hER150 := hER111.tr hX119 (by decide)
                show pl _ _ _ (72, [(0, .ref m0)], [.int 1], M113) _
                refine ps_if (S1 := (77, [(0, .ref m0)], [], M113)) (S2 := (75, [], [], M113)) rfl rfl rfl (fun c_72 => ?_) (fun c_72 => ?_)
                rotate_left
                · exact absurd (by decide) (of_decide_eq_false c_72)
                refine ps_st (S' := (78, [(0, .ref m0)], [.ref m0], M113)) rfl rfl rfl ?_
                refine ps_st (S' := (79, [(0, .ref m0)], [.ref m0, .ref m0], M113)) rfl rfl rfl ?_
                refine pr_int (j := 57) (S' := (82, [(0, .ref m0)], [.int (nI pA), .ref m0], M113)) rfl hR117 rfl hi129 rfl ?_
                refine ps_st (S' := (83, [(0, .ref m0)], [.int 4, .int (nI pA), .ref m0], M113)) rfl rfl rfl ?_
                refine ps_st (S' := (84, [(0, .ref m0)], [.int 0, .int 4, .int (nI pA), .ref m0], M113)) rfl rfl rfl ?_
                refine pl_call (a := [.ref m0, .int (nI pA), .int 4, .int 0]) (rest := []) rfl rfl rfl (rd_checkAttributes4 (n := n) (f := f) (tx := tx) (cN := cN) (A := A) (N := N) (mj := mj) (E := E) (p1 := pA) (e := n) (x := 0) (fl := (by2 f p1)) hR117 hi123 hi124 hi125 hi140 hi130 hi131 hi132 hi133 hi134 hi135 hi136 hF_143 hY_144 hP_145 hK_146 (hEP) (hN) (hmj) (⟨hat.1, hat.2.1⟩) (hat.2.2) (hcf)) (fun v151 M152 q153 => ?_)
                rcases q153 with q153 | q153
                · skip
                  obtain ⟨e9154, I155, R156, q84_s, rfl, hR157, hI158, hX159, hi160, hi161⟩ := q153
                  have hi162 := (hI158 51 (by decide)).trans hi123
                  have hi163 := (hI158 52 (by decide)).trans hi124
                  have hi164 := (hI158 53 (by decide)).trans hi125
                  have hi165 := (hI158 54 (by decide)).trans hi126
                  have hi166 := (hI158 55 (by decide)).trans hi127
                  have hi167 := (hI158 56 (by decide)).trans hi128
                  have hi168 := (hI158 57 (by decide)).trans hi129
                  have hi169 := (hI158 9 (by decide)).trans hi137
                  have hi170 := (hI158 10 (by decide)).trans hi138
                  have hi171 := (hI158 11 (by decide)).trans hi139
                  have hi172 := (hI158 58 (by decide)).trans hi140
                  have hi173 := (hI158 61 (by decide)).trans hi141
                  have hi174 := (hI158 25 (by decide)).trans hi142
                  have hi175 := (hI158 26 (by decide)).trans hi120
                  have hF_176 := hF_143.mono (cIx hI158 (by decide)) (cRx hX159 (by decide))
                  have hY_177 := hY_144.mono (cIx hI158 (by decide)) (cRx hX159 (by decide))
                  have hP_178 := hP_145.mono (cIx hI158 (by decide)) (cRx hX159 (by decide))
                  have hK_179 := hK_146.mono (cIx hI158 (by decide)) (cRx hX159 (by decide))
                  have hN1_180 := hN1_147.mono (cIx hI158 (by decide)) (cRx hX159 (by decide))
                  have hQ1_181 := hQ1_148.mono (cIx hI158 (by decide)) (cRx hX159 (by decide))
                  have hN2_182 := hN9_121.mono (cIx hI158 (by decide)) (cRx hX159 (by decide))
                  have hQ2_183 := hQ_122.mono (cIx hI158 (by decide)) (cRx hX159 (by decide))
                  have hEI184 := hEI149.tr hI158 (by decide)
                  have hER185 := hER150.tr hX159 (by decide)
                  show pl _ _ _ (87, [(0, .ref m0)], [.int (-1)], M152) _
                  refine ps_if (S1 := (92, [(0, .ref m0)], [], M152)) (S2 := (90, [(0, .ref m0)], [], M152)) rfl rfl rfl (fun c_87 => ?_) (fun c_87 => ?_)
                  · exact absurd (of_decide_eq_true c_87) (by decide)
                  refine ps_st (S' := (91, [(0, .ref m0)], [.int 0], M152)) rfl rfl rfl ?_
                  exact ps_ret rfl rfl (Or.inr ⟨e9154, I155, R156, by
                      refine s_read_2 hwh ?_
                      rw [← hN8, ← hm6]
                      unfold s_chk
                      rw [q48_s]
                      dsimp only
                      obtain ⟨hh9, hh8⟩ := cc_none q55_s
                      rw [hh9]
                      dsimp only
                      rw [hh8]
                      dsimp only
                      rw [q62_s]
                      dsimp only
                      rw [q69_s]
                      dsimp only
                      rw [q84_s], rfl, hR157, hEI184, hER185, hi160, hi161⟩)
                · skip
                  obtain ⟨bc186, K187, I188, R189, q84_s, q84_U, rfl, hR190, hI191, hX192, hi193, hi194, hi195, hi196, hi197, hi198, hi199⟩ := q153
                  have hi200 := (hI191 51 (by decide)).trans hi123
                  have hi201 := (hI191 52 (by decide)).trans hi124
                  have hi202 := (hI191 53 (by decide)).trans hi125
                  have hi203 := (hI191 54 (by decide)).trans hi126
                  have hi204 := (hI191 55 (by decide)).trans hi127
                  have hi205 := (hI191 56 (by decide)).trans hi128
                  have hi206 := (hI191 57 (by decide)).trans hi129
                  have hi207 := (hI191 9 (by decide)).trans hi137
                  have hi208 := (hI191 10 (by decide)).trans hi138
                  have hi209 := (hI191 11 (by decide)).trans hi139
                  have hi210 := (hI191 58 (by decide)).trans hi140
                  have hi211 := (hI191 61 (by decide)).trans hi141
                  have hi212 := (hI191 25 (by decide)).trans hi142
                  have hi213 := (hI191 26 (by decide)).trans hi120
                  have hF_214 := hF_143.mono (cIx hI191 (by decide)) (cRx hX192 (by decide))
                  have hY_215 := hY_144.mono (cIx hI191 (by decide)) (cRx hX192 (by decide))
                  have hP_216 := hP_145.mono (cIx hI191 (by decide)) (cRx hX192 (by decide))
                  have hK_217 := hK_146.mono (cIx hI191 (by decide)) (cRx hX192 (by decide))
                  have hN1_218 := hN1_147.mono (cIx hI191 (by decide)) (cRx hX192 (by decide))
                  have hQ1_219 := hQ1_148.mono (cIx hI191 (by decide)) (cRx hX192 (by decide))
                  have hN2_220 := hN9_121.mono (cIx hI191 (by decide)) (cRx hX192 (by decide))
                  have hQ2_221 := hQ_122.mono (cIx hI191 (by decide)) (cRx hX192 (by decide))
                  have hEI222 := hEI149.tr hI191 (by decide)
                  have hER223 := hER150.tr hX192 (by decide)
                  show pl _ _ _ (87, [(0, .ref m0)], [.int (nI n)], M152) _
                  refine ps_if (S1 := (92, [(0, .ref m0)], [], M152)) (S2 := (90, [(0, .ref m0)], [], M152)) rfl rfl rfl (fun c_87 => ?_) (fun c_87 => ?_)
                  rotate_left
                  · exact absurd ((le_nI (p := 0) (n := n) (by decide) (by omega)).mpr (by omega)) (of_decide_eq_false c_87)
                  refine ps_st (S' := (93, [(0, .ref m0)], [.int 1], M152)) rfl rfl rfl ?_
                  refine ps_st (S' := (94, [(0, .ref m0), (1, .int 1)], [], M152)) rfl rfl rfl ?_
                  exact ih.2 (N) (mj) (bc186) (1) (p1) (pF) (pM) (pA) (K187) (E) (tx) (cN) (A) M152 I188 R189 hR190 hEI222 hER223 hi200 hi201 hi202 hi207 hi193 hi212 hi213 hi203 hi210 hi211 hi194 hi195 hi196 hi197 hi198 hi199 hF_214 hY_215 hP_216 hN1_218 hN2_220 hQ1_219 hQ2_221 (hEP) (hN) (hmj) (clS_bc q84_s) (⟨Nat.le_refl _, hN1⟩) (by
                      refine s_read_2 hwh ?_
                      rw [← hN8, ← hm6]
                      unfold s_chk
                      rw [q48_s]
                      dsimp only
                      obtain ⟨hh9, hh8⟩ := cc_none q55_s
                      rw [hh9]
                      dsimp only
                      rw [hh8]
                      dsimp only
                      rw [q62_s]
                      dsimp only
                      rw [q69_s]
                      dsimp only
                      rw [q84_s]) (rfl) (hN8) (hm6) (hwh) (hc) (hf) (hm) (ha) (q84_s) (q84_U) (hs1)
              · skip
                obtain ⟨e9224, I225, R226, q69_s, rfl, hR227, hI228, hX229, hi230, hi231⟩ := q114
                have hi232 := (hI228 51 (by decide)).trans hi86
                have hi233 := (hI228 52 (by decide)).trans hi87
                have hi234 := (hI228 53 (by decide)).trans hi88
                have hi235 := (hI228 54 (by decide)).trans hi89
                have hi236 := (hI228 55 (by decide)).trans hi90
                have hi237 := (hI228 56 (by decide)).trans hi91
                have hi238 := (hI228 57 (by decide)).trans hi92
                have hi239 := (hI228 71 (by decide)).trans hi94
                have hi240 := (hI228 66 (by decide)).trans hi95
                have hi241 := (hI228 65 (by decide)).trans hi96
                have hi242 := (hI228 68 (by decide)).trans hi97
                have hi243 := (hI228 69 (by decide)).trans hi98
                have hi244 := (hI228 70 (by decide)).trans hi99
                have hi245 := (hI228 72 (by decide)).trans hi100
                have hi246 := (hI228 9 (by decide)).trans hi101
                have hi247 := (hI228 10 (by decide)).trans hi102
                have hi248 := (hI228 11 (by decide)).trans hi103
                have hi249 := (hI228 58 (by decide)).trans hi104
                have hi250 := (hI228 61 (by decide)).trans hi105
                have hi251 := (hI228 25 (by decide)).trans hi83
                have hF_252 := hF_106.mono (cIx hI228 (by decide)) (cRx hX229 (by decide))
                have hY_253 := hY_107.mono (cIx hI228 (by decide)) (cRx hX229 (by decide))
                have hP_254 := hP_108.mono (cIx hI228 (by decide)) (cRx hX229 (by decide))
                have hK_255 := hK_109.mono (cIx hI228 (by decide)) (cRx hX229 (by decide))
                have hN1_256 := hN9_84.mono (cIx hI228 (by decide)) (cRx hX229 (by decide))
                have hQ1_257 := hQ_85.mono (cIx hI228 (by decide)) (cRx hX229 (by decide))
                have hEI258 := hEI110.tr hI228 (by decide)
                have hER259 := hER111.tr hX229 (by decide)
                show pl _ _ _ (72, [(0, .ref m0)], [.int 0], M113) _
                refine ps_if (S1 := (77, [(0, .ref m0)], [], M113)) (S2 := (75, [], [], M113)) rfl rfl rfl (fun c_72 => ?_) (fun c_72 => ?_)
                · exact absurd (of_decide_eq_true c_72) (by decide)
                refine ps_st (S' := (76, [], [.int 0], M113)) rfl rfl rfl ?_
                exact ps_ret rfl rfl (Or.inr ⟨e9224, I225, R226, by
                    refine s_read_2 hwh ?_
                    rw [← hN8, ← hm6]
                    unfold s_chk
                    rw [q48_s]
                    dsimp only
                    obtain ⟨hh9, hh8⟩ := cc_none q55_s
                    rw [hh9]
                    dsimp only
                    rw [hh8]
                    dsimp only
                    rw [q62_s]
                    dsimp only
                    rw [q69_s], rfl, hR227, hEI258, hER259, hi230, hi231⟩)
            · skip
              obtain ⟨e9260, I261, R262, q62_s, rfl, hR263, hI264, hX265, hi266, hi267⟩ := q77
              have hi268 := (hI264 51 (by decide)).trans hi50
              have hi269 := (hI264 52 (by decide)).trans hi51
              have hi270 := (hI264 53 (by decide)).trans hi52
              have hi271 := (hI264 54 (by decide)).trans hi53
              have hi272 := (hI264 55 (by decide)).trans hi54
              have hi273 := (hI264 56 (by decide)).trans hi55
              have hi274 := (hI264 57 (by decide)).trans hi56
              have hi275 := (hI264 26 (by decide)).trans hi58
              have hi276 := (hI264 71 (by decide)).trans hi59
              have hi277 := (hI264 66 (by decide)).trans hi60
              have hi278 := (hI264 65 (by decide)).trans hi61
              have hi279 := (hI264 68 (by decide)).trans hi62
              have hi280 := (hI264 69 (by decide)).trans hi63
              have hi281 := (hI264 70 (by decide)).trans hi64
              have hi282 := (hI264 72 (by decide)).trans hi65
              have hi283 := (hI264 9 (by decide)).trans hi66
              have hi284 := (hI264 10 (by decide)).trans hi67
              have hi285 := (hI264 11 (by decide)).trans hi68
              have hi286 := (hI264 58 (by decide)).trans hi48
              have hi287 := (hI264 61 (by decide)).trans hi49
              have hF_288 := hF_69.mono (cIx hI264 (by decide)) (cRx hX265 (by decide))
              have hY_289 := hY_70.mono (cIx hI264 (by decide)) (cRx hX265 (by decide))
              have hP_290 := hP_71.mono (cIx hI264 (by decide)) (cRx hX265 (by decide))
              have hK_291 := hK_72.mono (cIx hI264 (by decide)) (cRx hX265 (by decide))
              have hEI292 := hEI73.tr hI264 (by decide)
              have hER293 := hER74.tr hX265 (by decide)
              show pl _ _ _ (65, [(0, .ref m0)], [.int 0], M76) _
              refine ps_if (S1 := (75, [], [], M76)) (S2 := (68, [(0, .ref m0)], [], M76)) rfl rfl rfl (fun c_65 => ?_) (fun c_65 => ?_)
              rotate_left
              · exact absurd (by decide) (of_decide_eq_false c_65)
              refine ps_st (S' := (76, [], [.int 0], M76)) rfl rfl rfl ?_
              exact ps_ret rfl rfl (Or.inr ⟨e9260, I261, R262, by
                  refine s_read_2 hwh ?_
                  rw [← hN8, ← hm6]
                  unfold s_chk
                  rw [q48_s]
                  dsimp only
                  obtain ⟨hh9, hh8⟩ := cc_none q55_s
                  rw [hh9]
                  dsimp only
                  rw [hh8]
                  dsimp only
                  rw [q62_s], rfl, hR263, hEI292, hER293, hi266, hi267⟩)
          · skip
            obtain ⟨e294, I295, R296, q55_s, rfl, hR297, hI298, hX299, hi300, hi301⟩ := q42
            have hi302 := (hI298 51 (by decide)).trans hi12
            have hi303 := (hI298 52 (by decide)).trans hi13
            have hi304 := (hI298 53 (by decide)).trans hi14
            have hi305 := (hI298 54 (by decide)).trans hi15
            have hi306 := (hI298 55 (by decide)).trans hi16
            have hi307 := (hI298 56 (by decide)).trans hi17
            have hi308 := (hI298 57 (by decide)).trans hi18
            have hi309 := (hI298 25 (by decide)).trans hi19
            have hi310 := (hI298 26 (by decide)).trans hi21
            have hi311 := (hI298 71 (by decide)).trans hi22
            have hi312 := (hI298 66 (by decide)).trans hi23
            have hi313 := (hI298 65 (by decide)).trans hi24
            have hi314 := (hI298 68 (by decide)).trans hi27
            have hi315 := (hI298 69 (by decide)).trans hi28
            have hi316 := (hI298 70 (by decide)).trans hi29
            have hi317 := (hI298 72 (by decide)).trans hi30
            have hi318 := (hI298 9 (by decide)).trans hi31
            have hi319 := (hI298 10 (by decide)).trans hi32
            have hi320 := (hI298 11 (by decide)).trans hi33
            have hF_321 := hF_34.mono (cIx hI298 (by decide)) (cRx hX299 (by decide))
            have hY_322 := hY_35.mono (cIx hI298 (by decide)) (cRx hX299 (by decide))
            have hP_323 := hP_36.mono (cIx hI298 (by decide)) (cRx hX299 (by decide))
            have hK_324 := hK_37.mono (cIx hI298 (by decide)) (cRx hX299 (by decide))
            have hEI325 := hEI38.tr hI298 (by decide)
            have hER326 := hER39.tr hX299 (by decide)
            show pl _ _ _ (58, [(0, .ref m0)], [.int 0], M41) _
            refine ps_if (S1 := (75, [], [], M41)) (S2 := (61, [(0, .ref m0)], [], M41)) rfl rfl rfl (fun c_58 => ?_) (fun c_58 => ?_)
            rotate_left
            · exact absurd (by decide) (of_decide_eq_false c_58)
            refine ps_st (S' := (76, [], [.int 0], M41)) rfl rfl rfl ?_
            exact ps_ret rfl rfl (Or.inr ⟨e294, I295, R296, by
                refine s_read_2 hwh ?_
                rw [← hN8, ← hm6]
                unfold s_chk
                rw [q48_s]
                dsimp only
                exact cc_some q55_s, rfl, hR297, hEI325, hER326, hi300, hi301⟩)
        · skip
          obtain ⟨e327, I328, R329, q48_s, rfl, hR330, hI331, hX332, hi333, hi334⟩ := q3
          have hi335 := (hI331 51 (by decide)).trans hl51
          have hi336 := (hI331 52 (by decide)).trans hl52
          have hi337 := (hI331 53 (by decide)).trans hl53
          have hi338 := (hI331 54 (by decide)).trans hl54
          have hi339 := (hI331 55 (by decide)).trans hl55
          have hi340 := (hI331 56 (by decide)).trans hl56
          have hi341 := (hI331 57 (by decide)).trans hl57
          have hi342 := (hI331 25 (by decide)).trans hl25
          have hi343 := (hI331 26 (by decide)).trans hl26
          have hi344 := (hI331 71 (by decide)).trans hl71
          have hi345 := (hI331 66 (by decide)).trans hl66
          have hi346 := (hI331 65 (by decide)).trans hl65
          have hi347 := (hI331 68 (by decide)).trans hl68
          have hi348 := (hI331 69 (by decide)).trans hl69
          have hi349 := (hI331 70 (by decide)).trans hl70
          have hi350 := (hI331 72 (by decide)).trans hl72
          have hi351 := (hI331 9 (by decide)).trans hl9
          have hi352 := (hI331 10 (by decide)).trans hl10
          have hi353 := (hI331 11 (by decide)).trans hl11
          have hF_354 := hF1.mono (cIx hI331 (by decide)) (cRx hX332 (by decide))
          have hY_355 := hY1.mono (cIx hI331 (by decide)) (cRx hX332 (by decide))
          have hP_356 := hP1.mono (cIx hI331 (by decide)) (cRx hX332 (by decide))
          have hK_357 := hK1.mono (cIx hI331 (by decide)) (cRx hX332 (by decide))
          have hEI358 := hEI1.tr hI331 (by decide)
          have hER359 := hER1.tr hX332 (by decide)
          show pl _ _ _ (51, [(0, .ref m0)], [.int 0], M2) _
          refine ps_if (S1 := (75, [], [], M2)) (S2 := (54, [(0, .ref m0)], [], M2)) rfl rfl rfl (fun c_51 => ?_) (fun c_51 => ?_)
          rotate_left
          · exact absurd (by decide) (of_decide_eq_false c_51)
          refine ps_st (S' := (76, [], [.int 0], M2)) rfl rfl rfl ?_
          exact ps_ret rfl rfl (Or.inr ⟨e327, I328, R329, by
              refine s_read_2 hwh ?_
              rw [← hN8, ← hm6]
              unfold s_chk
              rw [q48_s], rfl, hR330, hEI358, hER359, hi333, hi334⟩)
      · skip
        intro N mj bc k p1 pF pM pA K E tx cN A M1 I1 R1 hR1 hEI1 hER1 hl51 hl52 hl53 hl9 hl71 hl25 hl26 hl54 hl58 hl61 hl66 hl65 hl68 hl69 hl70 hl72 hF1 hY1 hP1 hN11 hN21 hQ11 hQ21 hEP hN hmj hbc hk hr hs hN8 hm6 hwh hc hf hm ha hB hU hs1
        have hn := hF1.1
        refine ps_st1 (S' := (95, [(0, .ref m0), (1, .int (nI k))], [.int (nI k)], M1)) rfl rfl rfl ?_
        refine ps_st (S' := (96, [(0, .ref m0), (1, .int (nI k))], [.ref m0, .int (nI k)], M1)) rfl rfl rfl ?_
        refine pr_int (j := 52) (S' := (99, [(0, .ref m0), (1, .int (nI k))], [.int (nI N), .int (nI k)], M1)) rfl hR1 rfl hl52 rfl ?_
        refine ps_if2 (S1 := (157, [(0, .ref m0), (1, .int (nI k))], [], M1)) (S2 := (102, [(0, .ref m0), (1, .int (nI k))], [], M1)) rfl rfl rfl (fun c_99 => ?_) (fun c_99 => ?_)
        · have c_99 : (nI N) ≤ (nI k) := of_decide_eq_true c_99
          have n_99 : N ≤ k := (le_nI (p := N) (n := k) (by omega) (by omega)).mp c_99
          refine ps_st (S' := (158, [(0, .ref m0), (1, .int (nI k))], [.int 1], M1)) rfl rfl rfl ?_
          exact ps_ret rfl rfl (Or.inl ⟨I1, R1, by
              rw [hr, ← hs, show N - k = 0 by omega]
              rfl, rfl, hR1, hEI1, hER1, ⟨tx, cN, A, E, N, mj, p1, pF, pM, pA, hF1, hY1, hP1, hl51, hl52, hl53, hwh, hN8, hm6, by rw [← Nat.zero_add (mbs f n (by2 f pF) (pF + 2)).length]; exact hl25, by rw [← Nat.zero_add (mbs f n (by2 f pM) (pM + 2)).length]; exact hl26, hN11, hN21, hf, hm, hc, ha, ⟨hl54, hl58, hl61, hQ11, hQ21, s1, hl9, hs1.1, hs1.2.trans lt_eq.2.1⟩, bc, K, by rw [← hm6]; exact hB, by rw [← hm6]; exact hU, hl71, hl66, hl65, hl68, hl69, hl70, hl72⟩⟩)
        · have c_99 : ¬ ((nI N) ≤ (nI k)) := of_decide_eq_false c_99
          have n_99 : ¬ (N ≤ k) := fun h9 => c_99 ((le_nI (p := N) (n := k) (by omega) (by omega)).mpr h9)
          refine ps_st (S' := (103, [(0, .ref m0), (1, .int (nI k))], [.ref m0], M1)) rfl rfl rfl ?_
          refine ps_st (S' := (104, [(0, .ref m0), (1, .int (nI k))], [.int (nI k), .ref m0], M1)) rfl rfl rfl ?_
          refine pl_call (a := [.ref m0, .int (nI k)]) (rest := []) rfl rfl rfl (rd_tag (n := n) (f := f) (tx := tx) (cN := cN) (A := A) (N := N) (mj := mj) (E := E) (k := k) hR1 hl51 hl52 hl53 hF1 hY1 hP1 (hEP) (hN) (hmj) (by omega)) (fun v360 M361 q362 => ?_)
          obtain ⟨rfl, rfl⟩ := q362
          show pl _ _ _ (107, [(0, .ref m0), (1, .int (nI k))], [.int (nI (tg f E k))], M1) _
          have htg_104 := tg_lt f E k
          refine ps_st (S' := (108, [(2, .int (nI (tg f E k))), (0, .ref m0), (1, .int (nI k))], [], M1)) rfl rfl rfl ?_
          refine ps_st (S' := (109, [(2, .int (nI (tg f E k))), (0, .ref m0), (1, .int (nI k))], [.int (nI (tg f E k))], M1)) rfl rfl rfl ?_
          refine ps_st (S' := (111, [(2, .int (nI (tg f E k))), (0, .ref m0), (1, .int (nI k))], [.int 17, .int (nI (tg f E k))], M1)) rfl rfl rfl ?_
          refine ps_if2 (S1 := (120, [(0, .ref m0), (1, .int (nI k))], [], M1)) (S2 := (114, [(2, .int (nI (tg f E k))), (0, .ref m0), (1, .int (nI k))], [], M1)) rfl rfl rfl (fun c_111 => ?_) (fun c_111 => ?_)
          · have c_111 : (nI (tg f E k)) = 17 := of_decide_eq_true c_111
            have n_111 : tg f E k = 17 := (eq_nI (p := tg f E k) (n := 17) (Nat.lt_trans (tg_lt _ _ _) (by decide)) (by decide)).mp c_111
            refine ps_st (S' := (121, [(0, .ref m0), (1, .int (nI k))], [.ref m0], M1)) rfl rfl rfl ?_
            refine ps_st (S' := (122, [(0, .ref m0), (1, .int (nI k))], [.int (nI k), .ref m0], M1)) rfl rfl rfl ?_
            refine ps_st (S' := (123, [(0, .ref m0), (1, .int (nI k))], [.int 1, .int (nI k), .ref m0], M1)) rfl rfl rfl ?_
            refine pl_call (a := [.ref m0, .int (nI k), .int 1]) (rest := []) rfl rfl rfl (rd_idx1 (n := n) (f := f) (tx := tx) (cN := cN) (A := A) (N := N) (mj := mj) (E := E) (k := k) hR1 hl51 hl52 hl53 hF1 hY1 hP1 (hEP) (hN) (hmj) (by omega)) (fun v363 M364 q365 => ?_)
            obtain ⟨rfl, rfl⟩ := q365
            show pl _ _ _ (126, [(0, .ref m0), (1, .int (nI k))], [.int (nI (fi f E k))], M1) _
            have hix_123 := fi_lt f E k
            refine ps_st (S' := (127, [(0, .ref m0), (1, .int (nI k))], [.ref m0, .int (nI (fi f E k))], M1)) rfl rfl rfl ?_
            refine pr_int (j := 71) (S' := (130, [(0, .ref m0), (1, .int (nI k))], [.int (nI bc), .int (nI (fi f E k))], M1)) rfl hR1 rfl hl71 rfl ?_
            refine ps_if2 (S1 := (151, [(0, .ref m0), (1, .int (nI k))], [], M1)) (S2 := (133, [(0, .ref m0), (1, .int (nI k))], [], M1)) rfl rfl rfl (fun c_130 => ?_) (fun c_130 => ?_)
            · have c_130 : (nI (fi f E k)) < (nI bc) := of_decide_eq_true c_130
              have n_130 : fi f E k < bc := (lt_nI (p := fi f E k) (n := bc) (Nat.lt_trans (fi_lt _ _ _) (by decide)) (by omega)).mp c_130
              refine ps_st (S' := (154, [(1, .int ((nI k) + 1)), (0, .ref m0)], [], M1)) rfl rfl rfl ?_
              rw [nI_add1 (p := k) (k := 1) (x := 1) rfl (by omega)]
              show pl _ _ _ (_, [(1, .int (nI (k + 1))), (0, .ref m0)], [], M1) _
              refine ps_st (S' := (94, [(0, .ref m0), (1, .int (nI (k + 1)))], [], M1)) rfl rfl rfl ?_
              exact ih.2 (N) (mj) (bc) (k + 1) (p1) (pF) (pM) (pA) (K) (E) (tx) (cN) (A) M1 I1 R1 hR1 hEI1 hER1 hl51 hl52 hl53 hl9 hl71 hl25 hl26 hl54 hl58 hl61 hl66 hl65 hl68 hl69 hl70 hl72 hF1 hY1 hP1 hN11 hN21 hQ11 hQ21 (hEP) (hN) (hmj) (hbc) (by omega) (hr) (by
                  rw [← hs, chkB_st (k := k) (by omega), if_neg (by omega)]) (hN8) (hm6) (hwh) (hc) (hf) (hm) (ha) (hB) (hU) (hs1)
            · have c_130 : ¬ ((nI (fi f E k)) < (nI bc)) := of_decide_eq_false c_130
              have n_130 : ¬ (fi f E k < bc) := fun h9 => c_130 ((lt_nI (p := fi f E k) (n := bc) (Nat.lt_trans (fi_lt _ _ _) (by decide)) (by omega)).mpr h9)
              obtain ⟨p, hk9, hb9⟩ := tg_lk (f := f) (E := E) (k := k) (by omega)
              have hep9 := hEP k p hk9
              refine ps_st (S' := (134, [(0, .ref m0), (1, .int (nI k))], [.ref m0], M1)) rfl rfl rfl ?_
              refine ps_st (S' := (136, [(0, .ref m0), (1, .int (nI k))], [.int 40, .ref m0], M1)) rfl rfl rfl ?_
              refine ps_st (S' := (137, [(0, .ref m0), (1, .int (nI k))], [.ref m0, .int 40, .ref m0], M1)) rfl rfl rfl ?_
              refine pr_ref (j := 21) (S' := (140, [(0, .ref m0), (1, .int (nI k))], [.ref (q 21), .int 40, .ref m0], M1)) rfl hR1 rfl rfl ?_
              refine ps_st (S' := (141, [(0, .ref m0), (1, .int (nI k))], [.ref m0, .ref (q 21), .int 40, .ref m0], M1)) rfl rfl rfl ?_
              refine pr_int (j := 51) (S' := (144, [(0, .ref m0), (1, .int (nI k))], [.int 0, .ref (q 21), .int 40, .ref m0], M1)) rfl hR1 rfl hl51 rfl ?_
              refine ps_st (S' := (145, [(0, .ref m0), (1, .int (nI k))], [.int (nI k), .int 0, .ref (q 21), .int 40, .ref m0], M1)) rfl rfl rfl ?_
              refine ps_st (S' := (146, [(0, .ref m0), (1, .int (nI k))], [.int (0 + (nI k)), .ref (q 21), .int 40, .ref m0], M1)) rfl rfl rfl ?_
              rw [show (0 : Int32) + (nI k) = (nI k) from Int32.zero_add _]
              show pl _ _ _ (_, [(0, .ref m0), (1, .int (nI k))], [.int (nI k), .ref (q 21), .int 40, .ref m0], M1) _
              refine pr_ld (a := 21) (j := k) (y := (nI p)) (S' := (147, [(0, .ref m0), (1, .int (nI k))], [.int (nI p), .int 40, .ref m0], M1)) rfl hR1 rfl (by omega) (fun _ => by rw [hP1.2.1 k (by omega), hk9]; rfl) rfl (fun i1_146 => ?_)
              refine pl_call (a := [.ref m0, .int 40, .int (nI p)]) (rest := []) rfl rfl rfl (rd_wrong (x1 := 40) (x2 := (nI p)) hR1) (fun v366 M367 q368 => ?_)
              obtain ⟨I369, R370, rfl, hR371, hI372, hX373, hi374, hi375⟩ := q368
              have hi376 := (hI372 51 (by decide)).trans hl51
              have hi377 := (hI372 52 (by decide)).trans hl52
              have hi378 := (hI372 53 (by decide)).trans hl53
              have hi379 := (hI372 9 (by decide)).trans hl9
              have hi380 := (hI372 71 (by decide)).trans hl71
              have hi381 := (hI372 25 (by decide)).trans hl25
              have hi382 := (hI372 26 (by decide)).trans hl26
              have hi383 := (hI372 54 (by decide)).trans hl54
              have hi384 := (hI372 58 (by decide)).trans hl58
              have hi385 := (hI372 61 (by decide)).trans hl61
              have hi386 := (hI372 66 (by decide)).trans hl66
              have hi387 := (hI372 65 (by decide)).trans hl65
              have hi388 := (hI372 68 (by decide)).trans hl68
              have hi389 := (hI372 69 (by decide)).trans hl69
              have hi390 := (hI372 70 (by decide)).trans hl70
              have hi391 := (hI372 72 (by decide)).trans hl72
              have hF_392 := hF1.mono (cIx hI372 (by decide)) (cRx hX373 (by decide))
              have hY_393 := hY1.mono (cIx hI372 (by decide)) (cRx hX373 (by decide))
              have hP_394 := hP1.mono (cIx hI372 (by decide)) (cRx hX373 (by decide))
              have hN1_395 := hN11.mono (cIx hI372 (by decide)) (cRx hX373 (by decide))
              have hN2_396 := hN21.mono (cIx hI372 (by decide)) (cRx hX373 (by decide))
              have hQ1_397 := hQ11.mono (cIx hI372 (by decide)) (cRx hX373 (by decide))
              have hQ2_398 := hQ21.mono (cIx hI372 (by decide)) (cRx hX373 (by decide))
              have hEI399 := hEI1.tr hI372 (by decide)
              have hER400 := hER1.tr hX373 (by decide)
              show pl _ _ _ (150, [(0, .ref m0), (1, .int (nI k))], [.int 0], M367) _
              exact ps_ret rfl rfl (Or.inr ⟨(40, p), I369, R370, by
                  rw [hr, ← hs, chkB_st (k := k) (by omega), if_pos (by omega), tp_is hk9], rfl, hR371, hEI399, hER400, hi374, hi375⟩)
          · have c_111 : ¬ ((nI (tg f E k)) = 17) := of_decide_eq_false c_111
            have n_111 : ¬ (tg f E k = 17) := fun h9 => c_111 ((eq_nI (p := tg f E k) (n := 17) (Nat.lt_trans (tg_lt _ _ _) (by decide)) (by decide)).mpr h9)
            refine ps_st (S' := (115, [(2, .int (nI (tg f E k))), (0, .ref m0), (1, .int (nI k))], [.int (nI (tg f E k))], M1)) rfl rfl rfl ?_
            refine ps_st (S' := (117, [(2, .int (nI (tg f E k))), (0, .ref m0), (1, .int (nI k))], [.int 18, .int (nI (tg f E k))], M1)) rfl rfl rfl ?_
            refine ps_if2 (S1 := (151, [(0, .ref m0), (1, .int (nI k))], [], M1)) (S2 := (120, [(0, .ref m0), (1, .int (nI k))], [], M1)) rfl rfl rfl (fun c_117 => ?_) (fun c_117 => ?_)
            · have c_117 : ¬ (nI (tg f E k)) = 18 := of_decide_eq_true c_117
              have n_117 : ¬ (tg f E k = 18) := fun h9 => c_117 ((eq_nI (p := tg f E k) (n := 18) (Nat.lt_trans (tg_lt _ _ _) (by decide)) (by decide)).mpr h9)
              refine ps_st (S' := (154, [(1, .int ((nI k) + 1)), (0, .ref m0)], [], M1)) rfl rfl rfl ?_
              rw [nI_add1 (p := k) (k := 1) (x := 1) rfl (by omega)]
              show pl _ _ _ (_, [(1, .int (nI (k + 1))), (0, .ref m0)], [], M1) _
              refine ps_st (S' := (94, [(0, .ref m0), (1, .int (nI (k + 1)))], [], M1)) rfl rfl rfl ?_
              exact ih.2 (N) (mj) (bc) (k + 1) (p1) (pF) (pM) (pA) (K) (E) (tx) (cN) (A) M1 I1 R1 hR1 hEI1 hER1 hl51 hl52 hl53 hl9 hl71 hl25 hl26 hl54 hl58 hl61 hl66 hl65 hl68 hl69 hl70 hl72 hF1 hY1 hP1 hN11 hN21 hQ11 hQ21 (hEP) (hN) (hmj) (hbc) (by omega) (hr) (by
                  rw [← hs, chkB_st (k := k) (by omega), if_neg (by omega)]) (hN8) (hm6) (hwh) (hc) (hf) (hm) (ha) (hB) (hU) (hs1)
            · have c_117 : ¬ (¬ (nI (tg f E k)) = 18) := of_decide_eq_false c_117
              have n_117 : tg f E k = 18 := (eq_nI (p := tg f E k) (n := 18) (Nat.lt_trans (tg_lt _ _ _) (by decide)) (by decide)).mp (Decidable.not_not.mp c_117)
              refine ps_st (S' := (121, [(0, .ref m0), (1, .int (nI k))], [.ref m0], M1)) rfl rfl rfl ?_
              refine ps_st (S' := (122, [(0, .ref m0), (1, .int (nI k))], [.int (nI k), .ref m0], M1)) rfl rfl rfl ?_
              refine ps_st (S' := (123, [(0, .ref m0), (1, .int (nI k))], [.int 1, .int (nI k), .ref m0], M1)) rfl rfl rfl ?_
              refine pl_call (a := [.ref m0, .int (nI k), .int 1]) (rest := []) rfl rfl rfl (rd_idx1 (n := n) (f := f) (tx := tx) (cN := cN) (A := A) (N := N) (mj := mj) (E := E) (k := k) hR1 hl51 hl52 hl53 hF1 hY1 hP1 (hEP) (hN) (hmj) (by omega)) (fun v401 M402 q403 => ?_)
              obtain ⟨rfl, rfl⟩ := q403
              show pl _ _ _ (126, [(0, .ref m0), (1, .int (nI k))], [.int (nI (fi f E k))], M1) _
              have hix_123 := fi_lt f E k
              refine ps_st (S' := (127, [(0, .ref m0), (1, .int (nI k))], [.ref m0, .int (nI (fi f E k))], M1)) rfl rfl rfl ?_
              refine pr_int (j := 71) (S' := (130, [(0, .ref m0), (1, .int (nI k))], [.int (nI bc), .int (nI (fi f E k))], M1)) rfl hR1 rfl hl71 rfl ?_
              refine ps_if2 (S1 := (151, [(0, .ref m0), (1, .int (nI k))], [], M1)) (S2 := (133, [(0, .ref m0), (1, .int (nI k))], [], M1)) rfl rfl rfl (fun c_130 => ?_) (fun c_130 => ?_)
              · have c_130 : (nI (fi f E k)) < (nI bc) := of_decide_eq_true c_130
                have n_130 : fi f E k < bc := (lt_nI (p := fi f E k) (n := bc) (Nat.lt_trans (fi_lt _ _ _) (by decide)) (by omega)).mp c_130
                refine ps_st (S' := (154, [(1, .int ((nI k) + 1)), (0, .ref m0)], [], M1)) rfl rfl rfl ?_
                rw [nI_add1 (p := k) (k := 1) (x := 1) rfl (by omega)]
                show pl _ _ _ (_, [(1, .int (nI (k + 1))), (0, .ref m0)], [], M1) _
                refine ps_st (S' := (94, [(0, .ref m0), (1, .int (nI (k + 1)))], [], M1)) rfl rfl rfl ?_
                exact ih.2 (N) (mj) (bc) (k + 1) (p1) (pF) (pM) (pA) (K) (E) (tx) (cN) (A) M1 I1 R1 hR1 hEI1 hER1 hl51 hl52 hl53 hl9 hl71 hl25 hl26 hl54 hl58 hl61 hl66 hl65 hl68 hl69 hl70 hl72 hF1 hY1 hP1 hN11 hN21 hQ11 hQ21 (hEP) (hN) (hmj) (hbc) (by omega) (hr) (by
                    rw [← hs, chkB_st (k := k) (by omega), if_neg (by omega)]) (hN8) (hm6) (hwh) (hc) (hf) (hm) (ha) (hB) (hU) (hs1)
              · have c_130 : ¬ ((nI (fi f E k)) < (nI bc)) := of_decide_eq_false c_130
                have n_130 : ¬ (fi f E k < bc) := fun h9 => c_130 ((lt_nI (p := fi f E k) (n := bc) (Nat.lt_trans (fi_lt _ _ _) (by decide)) (by omega)).mpr h9)
                obtain ⟨p, hk9, hb9⟩ := tg_lk (f := f) (E := E) (k := k) (by omega)
                have hep9 := hEP k p hk9
                refine ps_st (S' := (134, [(0, .ref m0), (1, .int (nI k))], [.ref m0], M1)) rfl rfl rfl ?_
                refine ps_st (S' := (136, [(0, .ref m0), (1, .int (nI k))], [.int 40, .ref m0], M1)) rfl rfl rfl ?_
                refine ps_st (S' := (137, [(0, .ref m0), (1, .int (nI k))], [.ref m0, .int 40, .ref m0], M1)) rfl rfl rfl ?_
                refine pr_ref (j := 21) (S' := (140, [(0, .ref m0), (1, .int (nI k))], [.ref (q 21), .int 40, .ref m0], M1)) rfl hR1 rfl rfl ?_
                refine ps_st (S' := (141, [(0, .ref m0), (1, .int (nI k))], [.ref m0, .ref (q 21), .int 40, .ref m0], M1)) rfl rfl rfl ?_
                refine pr_int (j := 51) (S' := (144, [(0, .ref m0), (1, .int (nI k))], [.int 0, .ref (q 21), .int 40, .ref m0], M1)) rfl hR1 rfl hl51 rfl ?_
                refine ps_st (S' := (145, [(0, .ref m0), (1, .int (nI k))], [.int (nI k), .int 0, .ref (q 21), .int 40, .ref m0], M1)) rfl rfl rfl ?_
                refine ps_st (S' := (146, [(0, .ref m0), (1, .int (nI k))], [.int (0 + (nI k)), .ref (q 21), .int 40, .ref m0], M1)) rfl rfl rfl ?_
                rw [show (0 : Int32) + (nI k) = (nI k) from Int32.zero_add _]
                show pl _ _ _ (_, [(0, .ref m0), (1, .int (nI k))], [.int (nI k), .ref (q 21), .int 40, .ref m0], M1) _
                refine pr_ld (a := 21) (j := k) (y := (nI p)) (S' := (147, [(0, .ref m0), (1, .int (nI k))], [.int (nI p), .int 40, .ref m0], M1)) rfl hR1 rfl (by omega) (fun _ => by rw [hP1.2.1 k (by omega), hk9]; rfl) rfl (fun i1_146 => ?_)
                refine pl_call (a := [.ref m0, .int 40, .int (nI p)]) (rest := []) rfl rfl rfl (rd_wrong (x1 := 40) (x2 := (nI p)) hR1) (fun v404 M405 q406 => ?_)
                obtain ⟨I407, R408, rfl, hR409, hI410, hX411, hi412, hi413⟩ := q406
                have hi414 := (hI410 51 (by decide)).trans hl51
                have hi415 := (hI410 52 (by decide)).trans hl52
                have hi416 := (hI410 53 (by decide)).trans hl53
                have hi417 := (hI410 9 (by decide)).trans hl9
                have hi418 := (hI410 71 (by decide)).trans hl71
                have hi419 := (hI410 25 (by decide)).trans hl25
                have hi420 := (hI410 26 (by decide)).trans hl26
                have hi421 := (hI410 54 (by decide)).trans hl54
                have hi422 := (hI410 58 (by decide)).trans hl58
                have hi423 := (hI410 61 (by decide)).trans hl61
                have hi424 := (hI410 66 (by decide)).trans hl66
                have hi425 := (hI410 65 (by decide)).trans hl65
                have hi426 := (hI410 68 (by decide)).trans hl68
                have hi427 := (hI410 69 (by decide)).trans hl69
                have hi428 := (hI410 70 (by decide)).trans hl70
                have hi429 := (hI410 72 (by decide)).trans hl72
                have hF_430 := hF1.mono (cIx hI410 (by decide)) (cRx hX411 (by decide))
                have hY_431 := hY1.mono (cIx hI410 (by decide)) (cRx hX411 (by decide))
                have hP_432 := hP1.mono (cIx hI410 (by decide)) (cRx hX411 (by decide))
                have hN1_433 := hN11.mono (cIx hI410 (by decide)) (cRx hX411 (by decide))
                have hN2_434 := hN21.mono (cIx hI410 (by decide)) (cRx hX411 (by decide))
                have hQ1_435 := hQ11.mono (cIx hI410 (by decide)) (cRx hX411 (by decide))
                have hQ2_436 := hQ21.mono (cIx hI410 (by decide)) (cRx hX411 (by decide))
                have hEI437 := hEI1.tr hI410 (by decide)
                have hER438 := hER1.tr hX411 (by decide)
                show pl _ _ _ (150, [(0, .ref m0), (1, .int (nI k))], [.int 0], M405) _
                exact ps_ret rfl rfl (Or.inr ⟨(40, p), I407, R408, by
                    rw [hr, ← hs, chkB_st (k := k) (by omega), if_pos (by omega), tp_is hk9], rfl, hR409, hEI437, hER438, hi412, hi413⟩)
  refine ps_st (S' := (1, [(0, .ref m0)], [.ref m0], M)) rfl rfl rfl ?_
  refine ps_st (S' := (2, [(0, .ref m0)], [.int (-1), .ref m0], M)) rfl rfl rfl ?_
  refine pr_put (j := 67) rfl hR rfl (fun M439 I440 hR441 hi442 hI443 => ?_)
  have hi444 := (hI443 20 (by decide)).trans hi20
  have hi445 := (hI443 25 (by decide)).trans hi25
  have hi446 := (hI443 26 (by decide)).trans hi26
  have hi447 := (hI443 9 (by decide)).trans hi9
  have hi448 := (hI443 10 (by decide)).trans hi10
  have hi449 := (hI443 11 (by decide)).trans hi11
  have hF_450 := hF.mono (pIx hI443 (by decide)) (fun _ _ => rfl)
  have hY_451 := hY.mono (pIx hI443 (by decide)) (fun _ _ => rfl)
  have hK_452 := hK.mono (pIx hI443 (by decide)) (fun _ _ => rfl)
  have hEI453 := hEI.put hI443 (by decide)
  show pl _ _ _ (5, [(0, .ref m0)], [], M439) _
  refine ps_st (S' := (6, [(0, .ref m0)], [.ref m0], M439)) rfl rfl rfl ?_
  refine ps_st (S' := (7, [(0, .ref m0)], [.int 0, .ref m0], M439)) rfl rfl rfl ?_
  refine pr_put (j := 68) rfl hR441 rfl (fun M454 I455 hR456 hi457 hI458 => ?_)
  have hi459 := (hI458 20 (by decide)).trans hi444
  have hi460 := (hI458 25 (by decide)).trans hi445
  have hi461 := (hI458 26 (by decide)).trans hi446
  have hi462 := (hI458 9 (by decide)).trans hi447
  have hi463 := (hI458 10 (by decide)).trans hi448
  have hi464 := (hI458 11 (by decide)).trans hi449
  have hi465 := (hI458 67 (by decide)).trans hi442
  have hF_466 := hF_450.mono (pIx hI458 (by decide)) (fun _ _ => rfl)
  have hY_467 := hY_451.mono (pIx hI458 (by decide)) (fun _ _ => rfl)
  have hK_468 := hK_452.mono (pIx hI458 (by decide)) (fun _ _ => rfl)
  have hEI469 := hEI453.put hI458 (by decide)
  show pl _ _ _ (10, [(0, .ref m0)], [], M454) _
  refine ps_st (S' := (11, [(0, .ref m0)], [.ref m0], M454)) rfl rfl rfl ?_
  refine ps_st (S' := (12, [(0, .ref m0)], [.int 0, .ref m0], M454)) rfl rfl rfl ?_
  refine pr_put (j := 69) rfl hR456 rfl (fun M470 I471 hR472 hi473 hI474 => ?_)
  have hi475 := (hI474 20 (by decide)).trans hi459
  have hi476 := (hI474 25 (by decide)).trans hi460
  have hi477 := (hI474 26 (by decide)).trans hi461
  have hi478 := (hI474 9 (by decide)).trans hi462
  have hi479 := (hI474 10 (by decide)).trans hi463
  have hi480 := (hI474 11 (by decide)).trans hi464
  have hi481 := (hI474 67 (by decide)).trans hi465
  have hi482 := (hI474 68 (by decide)).trans hi457
  have hF_483 := hF_466.mono (pIx hI474 (by decide)) (fun _ _ => rfl)
  have hY_484 := hY_467.mono (pIx hI474 (by decide)) (fun _ _ => rfl)
  have hK_485 := hK_468.mono (pIx hI474 (by decide)) (fun _ _ => rfl)
  have hEI486 := hEI469.put hI474 (by decide)
  show pl _ _ _ (15, [(0, .ref m0)], [], M470) _
  refine ps_st (S' := (16, [(0, .ref m0)], [.ref m0], M470)) rfl rfl rfl ?_
  refine ps_st (S' := (17, [(0, .ref m0)], [.int 0, .ref m0], M470)) rfl rfl rfl ?_
  refine pr_put (j := 65) rfl hR472 rfl (fun M487 I488 hR489 hi490 hI491 => ?_)
  have hi492 := (hI491 20 (by decide)).trans hi475
  have hi493 := (hI491 25 (by decide)).trans hi476
  have hi494 := (hI491 26 (by decide)).trans hi477
  have hi495 := (hI491 9 (by decide)).trans hi478
  have hi496 := (hI491 10 (by decide)).trans hi479
  have hi497 := (hI491 11 (by decide)).trans hi480
  have hi498 := (hI491 67 (by decide)).trans hi481
  have hi499 := (hI491 68 (by decide)).trans hi482
  have hi500 := (hI491 69 (by decide)).trans hi473
  have hF_501 := hF_483.mono (pIx hI491 (by decide)) (fun _ _ => rfl)
  have hY_502 := hY_484.mono (pIx hI491 (by decide)) (fun _ _ => rfl)
  have hK_503 := hK_485.mono (pIx hI491 (by decide)) (fun _ _ => rfl)
  have hEI504 := hEI486.put hI491 (by decide)
  show pl _ _ _ (20, [(0, .ref m0)], [], M487) _
  refine ps_st (S' := (21, [(0, .ref m0)], [.ref m0], M487)) rfl rfl rfl ?_
  refine ps_st (S' := (22, [(0, .ref m0)], [.int 0, .ref m0], M487)) rfl rfl rfl ?_
  refine pr_put (j := 66) rfl hR489 rfl (fun M505 I506 hR507 hi508 hI509 => ?_)
  have hi510 := (hI509 20 (by decide)).trans hi492
  have hi511 := (hI509 25 (by decide)).trans hi493
  have hi512 := (hI509 26 (by decide)).trans hi494
  have hi513 := (hI509 9 (by decide)).trans hi495
  have hi514 := (hI509 10 (by decide)).trans hi496
  have hi515 := (hI509 11 (by decide)).trans hi497
  have hi516 := (hI509 67 (by decide)).trans hi498
  have hi517 := (hI509 68 (by decide)).trans hi499
  have hi518 := (hI509 69 (by decide)).trans hi500
  have hi519 := (hI509 65 (by decide)).trans hi490
  have hF_520 := hF_501.mono (pIx hI509 (by decide)) (fun _ _ => rfl)
  have hY_521 := hY_502.mono (pIx hI509 (by decide)) (fun _ _ => rfl)
  have hK_522 := hK_503.mono (pIx hI509 (by decide)) (fun _ _ => rfl)
  have hEI523 := hEI504.put hI509 (by decide)
  show pl _ _ _ (25, [(0, .ref m0)], [], M505) _
  refine ps_st (S' := (26, [(0, .ref m0)], [.ref m0], M505)) rfl rfl rfl ?_
  refine ps_st (S' := (27, [(0, .ref m0)], [.int (-1), .ref m0], M505)) rfl rfl rfl ?_
  refine pr_put (j := 70) rfl hR507 rfl (fun M524 I525 hR526 hi527 hI528 => ?_)
  have hi529 := (hI528 20 (by decide)).trans hi510
  have hi530 := (hI528 25 (by decide)).trans hi511
  have hi531 := (hI528 26 (by decide)).trans hi512
  have hi532 := (hI528 9 (by decide)).trans hi513
  have hi533 := (hI528 10 (by decide)).trans hi514
  have hi534 := (hI528 11 (by decide)).trans hi515
  have hi535 := (hI528 67 (by decide)).trans hi516
  have hi536 := (hI528 68 (by decide)).trans hi517
  have hi537 := (hI528 69 (by decide)).trans hi518
  have hi538 := (hI528 65 (by decide)).trans hi519
  have hi539 := (hI528 66 (by decide)).trans hi508
  have hF_540 := hF_520.mono (pIx hI528 (by decide)) (fun _ _ => rfl)
  have hY_541 := hY_521.mono (pIx hI528 (by decide)) (fun _ _ => rfl)
  have hK_542 := hK_522.mono (pIx hI528 (by decide)) (fun _ _ => rfl)
  have hEI543 := hEI523.put hI528 (by decide)
  show pl _ _ _ (30, [(0, .ref m0)], [], M524) _
  refine ps_st (S' := (31, [(0, .ref m0)], [.ref m0], M524)) rfl rfl rfl ?_
  refine ps_st (S' := (32, [(0, .ref m0)], [.int 0, .ref m0], M524)) rfl rfl rfl ?_
  refine pr_put (j := 71) rfl hR526 rfl (fun M544 I545 hR546 hi547 hI548 => ?_)
  have hi549 := (hI548 20 (by decide)).trans hi529
  have hi550 := (hI548 25 (by decide)).trans hi530
  have hi551 := (hI548 26 (by decide)).trans hi531
  have hi552 := (hI548 9 (by decide)).trans hi532
  have hi553 := (hI548 10 (by decide)).trans hi533
  have hi554 := (hI548 11 (by decide)).trans hi534
  have hi555 := (hI548 67 (by decide)).trans hi535
  have hi556 := (hI548 68 (by decide)).trans hi536
  have hi557 := (hI548 69 (by decide)).trans hi537
  have hi558 := (hI548 65 (by decide)).trans hi538
  have hi559 := (hI548 66 (by decide)).trans hi539
  have hi560 := (hI548 70 (by decide)).trans hi527
  have hF_561 := hF_540.mono (pIx hI548 (by decide)) (fun _ _ => rfl)
  have hY_562 := hY_541.mono (pIx hI548 (by decide)) (fun _ _ => rfl)
  have hK_563 := hK_542.mono (pIx hI548 (by decide)) (fun _ _ => rfl)
  have hEI564 := hEI543.put hI548 (by decide)
  show pl _ _ _ (35, [(0, .ref m0)], [], M544) _
  refine ps_st (S' := (36, [(0, .ref m0)], [.ref m0], M544)) rfl rfl rfl ?_
  refine ps_st (S' := (37, [(0, .ref m0)], [.int (-1), .ref m0], M544)) rfl rfl rfl ?_
  refine pr_put (j := 72) rfl hR546 rfl (fun M565 I566 hR567 hi568 hI569 => ?_)
  have hi570 := (hI569 20 (by decide)).trans hi549
  have hi571 := (hI569 25 (by decide)).trans hi550
  have hi572 := (hI569 26 (by decide)).trans hi551
  have hi573 := (hI569 9 (by decide)).trans hi552
  have hi574 := (hI569 10 (by decide)).trans hi553
  have hi575 := (hI569 11 (by decide)).trans hi554
  have hi576 := (hI569 67 (by decide)).trans hi555
  have hi577 := (hI569 68 (by decide)).trans hi556
  have hi578 := (hI569 69 (by decide)).trans hi557
  have hi579 := (hI569 65 (by decide)).trans hi558
  have hi580 := (hI569 66 (by decide)).trans hi559
  have hi581 := (hI569 70 (by decide)).trans hi560
  have hi582 := (hI569 71 (by decide)).trans hi547
  have hF_583 := hF_561.mono (pIx hI569 (by decide)) (fun _ _ => rfl)
  have hY_584 := hY_562.mono (pIx hI569 (by decide)) (fun _ _ => rfl)
  have hK_585 := hK_563.mono (pIx hI569 (by decide)) (fun _ _ => rfl)
  have hEI586 := hEI564.put hI569 (by decide)
  show pl _ _ _ (40, [(0, .ref m0)], [], M565) _
  refine ps_st (S' := (41, [(0, .ref m0)], [.ref m0], M565)) rfl rfl rfl ?_
  refine pl_call (a := [.ref m0]) (rest := []) rfl rfl rfl (rd_readFile (n := n) (f := f) (tx := tx) (cN := cN) (A := A) hR567 hi570 hF_583 hY_584) (fun v587 M588 q589 => ?_)
  rcases q589 with q589 | q589
  · skip
    obtain ⟨E590, p1591, pF592, pM593, pA594, tx1595, cN1596, A1597, I598, R599, q41_s, q41_k, q41_c, q41_f, q41_m, q41_a, rfl, hR600, hI601, hX602, hi603, hi604, hi605, hi606, hi607, hi608, hi609, hY_610, hP_611⟩ := q589
    have hi612 := (hI601 25 (by decide)).trans hi571
    have hi613 := (hI601 26 (by decide)).trans hi572
    have hi614 := (hI601 9 (by decide)).trans hi573
    have hi615 := (hI601 10 (by decide)).trans hi574
    have hi616 := (hI601 11 (by decide)).trans hi575
    have hi617 := (hI601 67 (by decide)).trans hi576
    have hi618 := (hI601 68 (by decide)).trans hi577
    have hi619 := (hI601 69 (by decide)).trans hi578
    have hi620 := (hI601 65 (by decide)).trans hi579
    have hi621 := (hI601 66 (by decide)).trans hi580
    have hi622 := (hI601 70 (by decide)).trans hi581
    have hi623 := (hI601 71 (by decide)).trans hi582
    have hi624 := (hI601 72 (by decide)).trans hi568
    have hF_625 := hF_583.mono (cIx hI601 (by decide)) (cRx hX602 (by decide))
    have hK_626 := hK_585.mono (cIx hI601 (by decide)) (cRx hX602 (by decide))
    have hEI627 := hEI586.tr hI601 (by decide)
    have hER628 := hER.tr hX602 (by decide)
    show pl _ _ _ (44, [(0, .ref m0)], [.int 1], M588) _
    refine ps_if (S1 := (75, [], [], M588)) (S2 := (47, [(0, .ref m0)], [], M588)) rfl rfl rfl (fun c_44 => ?_) (fun c_44 => ?_)
    · exact absurd (of_decide_eq_true c_44) (by decide)
    exact (LL kf).1 (by2 f 8) (by2 f 6) (p1591) (pF592) (pM593) (pA594) (E590) (tx1595) (cN1596) (A1597) M588 I598 R599 hR600 hEI627 hER628 hi603 hi604 hi605 hi606 hi607 hi608 hi609 hi612 hi613 hi623 hi621 hi620 hi618 hi619 hi622 hi624 hi614 hi615 hi616 hF_625 hY_610 hP_611 hK_626 (rfl) (rfl) (q41_s) (⟨Nat.lt_of_lt_of_le hs1.1 q41_k.1, (q41_k.2 _ hs1.1).trans hs1.2⟩) (⟨Nat.lt_of_lt_of_le hs2.1 q41_k.1, (q41_k.2 _ hs2.1).trans hs2.2⟩) (⟨Nat.lt_of_lt_of_le hs3.1 q41_k.1, (q41_k.2 _ hs3.1).trans hs3.2⟩) (q41_c) (q41_f) (q41_m) (q41_a)
  · skip
    obtain ⟨e629, I630, R631, q41_s, rfl, hR632, hI633, hX634, hi635, hi636⟩ := q589
    have hi637 := (hI633 25 (by decide)).trans hi571
    have hi638 := (hI633 26 (by decide)).trans hi572
    have hi639 := (hI633 9 (by decide)).trans hi573
    have hi640 := (hI633 10 (by decide)).trans hi574
    have hi641 := (hI633 11 (by decide)).trans hi575
    have hi642 := (hI633 67 (by decide)).trans hi576
    have hi643 := (hI633 68 (by decide)).trans hi577
    have hi644 := (hI633 69 (by decide)).trans hi578
    have hi645 := (hI633 65 (by decide)).trans hi579
    have hi646 := (hI633 66 (by decide)).trans hi580
    have hi647 := (hI633 70 (by decide)).trans hi581
    have hi648 := (hI633 71 (by decide)).trans hi582
    have hi649 := (hI633 72 (by decide)).trans hi568
    have hF_650 := hF_583.mono (cIx hI633 (by decide)) (cRx hX634 (by decide))
    have hK_651 := hK_585.mono (cIx hI633 (by decide)) (cRx hX634 (by decide))
    have hEI652 := hEI586.tr hI633 (by decide)
    have hER653 := hER.tr hX634 (by decide)
    show pl _ _ _ (44, [(0, .ref m0)], [.int 0], M588) _
    refine ps_if (S1 := (75, [], [], M588)) (S2 := (47, [(0, .ref m0)], [], M588)) rfl rfl rfl (fun c_44 => ?_) (fun c_44 => ?_)
    rotate_left
    · exact absurd (by decide) (of_decide_eq_false c_44)
    refine ps_st (S' := (76, [], [.int 0], M588)) rfl rfl rfl ?_
    exact ps_ret rfl rfl (Or.inr ⟨e629, I630, R631, by
        exact s_read_1 q41_s, rfl, hR632, hEI652, hER653, hi635, hi636⟩)
set_option maxHeartbeats 4000000 in
theorem rd_parse13b {g : xe_G} {m0 : Nat} {q : Nat → Nat} {z : Nat × Nat} {I : rI} {R : rR} {M : mi_H} {n : Nat} {f : Nat → Int32} (hR : RS g m0 q z I R M) (hi49 : I 49 = some 0) (hB : BX 13 n f I R) (hK : KX I R) (hn : n ≤ 65540) : pt (mT g) 230 [.ref m0, .ref (q 13), .int (nI n)] M (fun v M' => (∃  (I' : rI) (R' : rR), (s_read f n = none) ∧ v = some (.int 1) ∧ RS g m0 q z I' R' M' ∧ eqI [3, 8, 9, 10, 11, 16, 20, 25, 26, 47, 48, 50, 51, 52, 53, 54, 55, 56, 57, 58, 59, 60, 61, 65, 66, 67, 68, 69, 70, 71, 72] I I' ∧ eqR [1, 2, 4, 5, 6, 7, 12, 21, 22, 27, 28, 29, 30, 31, 32, 33, 34, 35, 36, 37, 38, 39, 40, 41, 42, 43, 44, 45, 46] R R' ∧ XKV f n I' R') ∨ (∃ (e9 : Nat × Nat) (I' : rI) (R' : rR), (s_read f n = some e9) ∧ v = some (.int 0) ∧ RS g m0 q z I' R' M' ∧ eqI [3, 8, 9, 10, 11, 16, 20, 25, 26, 47, 48, 50, 51, 52, 53, 54, 55, 56, 57, 58, 59, 60, 61, 65, 66, 67, 68, 69, 70, 71, 72] I I' ∧ eqR [1, 2, 4, 5, 6, 7, 12, 21, 22, 27, 28, 29, 30, 31, 32, 33, 34, 35, 36, 37, 38, 39, 40, 41, 42, 43, 44, 45, 46] R R' ∧ I' 47 = some (nI e9.1) ∧ I' 48 = some (nI e9.2))) := by
  refine pt_in (b := mb_230 g) rfl (fun kf => ?_)
  show pl (mT g) kf (mb_230 g).2 (0, [(0, .ref m0), (1, .ref (q 13)), (2, .int (nI n))], [], M) _
  have hEI : eqI [3, 8, 9, 10, 11, 16, 20, 25, 26, 47, 48, 50, 51, 52, 53, 54, 55, 56, 57, 58, 59, 60, 61, 65, 66, 67, 68, 69, 70, 71, 72] I I := eqI.rf
  have hER : eqR [1, 2, 4, 5, 6, 7, 12, 21, 22, 27, 28, 29, 30, 31, 32, 33, 34, 35, 36, 37, 38, 39, 40, 41, 42, 43, 44, 45, 46] R R := eqR.rf
  have LL : ∀ (kf : Nat), (∀ (i : Nat) (tx : List (List Nat)) (cN : Nat) (A : Nat → Nat) (s1 s2 s3 : Nat) (M1 : mi_H) (I1 : rI) (R1 : rR), (RS g m0 q z I1 R1 M1) → (eqI [3, 8, 9, 10, 11, 16, 20, 25, 26, 47, 48, 50, 51, 52, 53, 54, 55, 56, 57, 58, 59, 60, 61, 65, 66, 67, 68, 69, 70, 71, 72] I I1) → (eqR [1, 2, 4, 5, 6, 7, 12, 21, 22, 27, 28, 29, 30, 31, 32, 33, 34, 35, 36, 37, 38, 39, 40, 41, 42, 43, 44, 45, 46] R R1) → (I1 49 = some 0) → (I1 16 = some (nI n)) → (I1 20 = some 0) → (I1 25 = some 0) → (I1 26 = some 0) → (I1 9 = some (nI s1)) → (I1 10 = some (nI s2)) → (I1 11 = some (nI s3)) → (BX 13 n f I1 R1) → (KX I1 R1) → (SYT tx cN A I1 R1) → (BX 12 i f I1 R1) → (i ≤ n) → (s1 < tx.length ∧ tx.getD s1 [] = ltx 25) → (s2 < tx.length ∧ tx.getD s2 [] = ltx 26) → (s3 < tx.length ∧ tx.getD s3 [] = ltx 27) →  pl (mT g) kf (mb_230 g).2 (11, [(0, .ref m0), (1, .ref (q 13)), (2, .int (nI n)), (3, .int (nI i))], [], M1) (fun v M' => (∃  (I' : rI) (R' : rR), (s_read f n = none) ∧ v = some (.int 1) ∧ RS g m0 q z I' R' M' ∧ eqI [3, 8, 9, 10, 11, 16, 20, 25, 26, 47, 48, 50, 51, 52, 53, 54, 55, 56, 57, 58, 59, 60, 61, 65, 66, 67, 68, 69, 70, 71, 72] I I' ∧ eqR [1, 2, 4, 5, 6, 7, 12, 21, 22, 27, 28, 29, 30, 31, 32, 33, 34, 35, 36, 37, 38, 39, 40, 41, 42, 43, 44, 45, 46] R R' ∧ XKV f n I' R') ∨ (∃ (e9 : Nat × Nat) (I' : rI) (R' : rR), (s_read f n = some e9) ∧ v = some (.int 0) ∧ RS g m0 q z I' R' M' ∧ eqI [3, 8, 9, 10, 11, 16, 20, 25, 26, 47, 48, 50, 51, 52, 53, 54, 55, 56, 57, 58, 59, 60, 61, 65, 66, 67, 68, 69, 70, 71, 72] I I' ∧ eqR [1, 2, 4, 5, 6, 7, 12, 21, 22, 27, 28, 29, 30, 31, 32, 33, 34, 35, 36, 37, 38, 39, 40, 41, 42, 43, 44, 45, 46] R R' ∧ I' 47 = some (nI e9.1) ∧ I' 48 = some (nI e9.2)))) := by
    intro kf
    induction kf with
    | zero => exact (by intros; exact pl_0)
    | succ kf ih =>
      intro i tx cN A s1 s2 s3 M1 I1 R1 hR1 hEI1 hER1 hl49 hl16 hl20 hl25 hl26 hl9 hl10 hl11 hB1 hK1 hY1 hC1 hi hs1 hs2 hs3
      refine ps_st1 (S' := (12, [(0, .ref m0), (1, .ref (q 13)), (2, .int (nI n)), (3, .int (nI i))], [.int (nI i)], M1)) rfl rfl rfl ?_
      refine ps_st (S' := (13, [(0, .ref m0), (1, .ref (q 13)), (2, .int (nI n)), (3, .int (nI i))], [.int (nI n), .int (nI i)], M1)) rfl rfl rfl ?_
      refine ps_if2 (S1 := (31, [(0, .ref m0), (1, .ref (q 13)), (2, .int (nI n)), (3, .int (nI i))], [], M1)) (S2 := (16, [(0, .ref m0), (1, .ref (q 13)), (2, .int (nI n)), (3, .int (nI i))], [], M1)) rfl rfl rfl (fun c_13 => ?_) (fun c_13 => ?_)
      · have c_13 : (nI n) ≤ (nI i) := of_decide_eq_true c_13
        have n_13 : n ≤ i := (le_nI (p := n) (n := i) (by omega) (by omega)).mp c_13
        refine ps_st (S' := (32, [(0, .ref m0), (1, .ref (q 13)), (2, .int (nI n)), (3, .int (nI i))], [.ref m0], M1)) rfl rfl rfl ?_
        have hF9 : FK n f I1 R1 := ⟨hn, hl49, hl16, fun i9 h9 => (hC1 i9 (by omega)).1⟩
        refine pl_call (a := [.ref m0]) (rest := []) rfl rfl rfl (rd_checkFile2 (n := n) (f := f) (tx := tx) (cN := cN) (A := A) (s1 := s1) (s2 := s2) (s3 := s3) hR1 hl20 hl25 hl26 hl9 hl10 hl11 hF9 hY1 hK1 (hs1) (hs2) (hs3)) (fun v1 M2 q3 => ?_)
        rcases q3 with q3 | q3
        · skip
          obtain ⟨I4, R5, q32_s, rfl, hR6, hI7, hX8, hX_9⟩ := q3
          have hi10 := (hI7 49 (by decide)).trans hl49
          have hi11 := (hI7 16 (by decide)).trans hl16
          have hi12 := (hI7 9 (by decide)).trans hl9
          have hi13 := (hI7 10 (by decide)).trans hl10
          have hi14 := (hI7 11 (by decide)).trans hl11
          have hB_15 := hB1.mono (cIx hI7 (by decide)) (cRx hX8 (by decide))
          have hK_16 := hK1.mono (cIx hI7 (by decide)) (cRx hX8 (by decide))
          have hC_17 := hC1.mono (cIx hI7 (by decide)) (cRx hX8 (by decide))
          have hF_18 := hF9.mono (cIx hI7 (by decide)) (cRx hX8 (by decide))
          have hEI19 := hEI1.tr hI7 (by decide)
          have hER20 := hER1.tr hX8 (by decide)
          show pl _ _ _ (35, [(0, .ref m0), (1, .ref (q 13)), (2, .int (nI n)), (3, .int (nI i))], [.int 1], M2) _
          exact ps_ret rfl rfl (Or.inl ⟨I4, R5, q32_s, rfl, hR6, hEI19, hER20, hX_9⟩)
        · skip
          obtain ⟨e921, I22, R23, q32_s, rfl, hR24, hI25, hX26, hi27, hi28⟩ := q3
          have hi29 := (hI25 49 (by decide)).trans hl49
          have hi30 := (hI25 16 (by decide)).trans hl16
          have hi31 := (hI25 9 (by decide)).trans hl9
          have hi32 := (hI25 10 (by decide)).trans hl10
          have hi33 := (hI25 11 (by decide)).trans hl11
          have hB_34 := hB1.mono (cIx hI25 (by decide)) (cRx hX26 (by decide))
          have hK_35 := hK1.mono (cIx hI25 (by decide)) (cRx hX26 (by decide))
          have hC_36 := hC1.mono (cIx hI25 (by decide)) (cRx hX26 (by decide))
          have hF_37 := hF9.mono (cIx hI25 (by decide)) (cRx hX26 (by decide))
          have hEI38 := hEI1.tr hI25 (by decide)
          have hER39 := hER1.tr hX26 (by decide)
          show pl _ _ _ (35, [(0, .ref m0), (1, .ref (q 13)), (2, .int (nI n)), (3, .int (nI i))], [.int 0], M2) _
          exact ps_ret rfl rfl (Or.inr ⟨e921, I22, R23, q32_s, rfl, hR24, hEI38, hER39, hi27, hi28⟩)
      · have c_13 : ¬ ((nI n) ≤ (nI i)) := of_decide_eq_false c_13
        have n_13 : ¬ (n ≤ i) := fun h9 => c_13 ((le_nI (p := n) (n := i) (by omega) (by omega)).mpr h9)
        refine ps_st (S' := (17, [(0, .ref m0), (1, .ref (q 13)), (2, .int (nI n)), (3, .int (nI i))], [.ref m0], M1)) rfl rfl rfl ?_
        refine pr_ref (j := 12) (S' := (20, [(0, .ref m0), (1, .ref (q 13)), (2, .int (nI n)), (3, .int (nI i))], [.ref (q 12)], M1)) rfl hR1 rfl rfl ?_
        refine ps_st (S' := (21, [(0, .ref m0), (1, .ref (q 13)), (2, .int (nI n)), (3, .int (nI i))], [.int (nI i), .ref (q 12)], M1)) rfl rfl rfl ?_
        refine ps_st (S' := (22, [(0, .ref m0), (1, .ref (q 13)), (2, .int (nI n)), (3, .int (nI i))], [.ref (q 13), .int (nI i), .ref (q 12)], M1)) rfl rfl rfl ?_
        refine ps_st (S' := (23, [(0, .ref m0), (1, .ref (q 13)), (2, .int (nI n)), (3, .int (nI i))], [.int (nI i), .ref (q 13), .int (nI i), .ref (q 12)], M1)) rfl rfl rfl ?_
        refine pr_ld (a := 13) (j := i) (y := (f i)) (S' := (24, [(0, .ref m0), (1, .ref (q 13)), (2, .int (nI n)), (3, .int (nI i))], [.int (f i), .int (nI i), .ref (q 12)], M1)) rfl hR1 rfl (by omega) (fun _ => (hB1 i (by omega)).1) rfl (fun i1_23 => ?_)
        refine pr_st (a := 12) (j := i) rfl hR1 rfl (by omega) (fun M40 R41 i1_24 hR42 hS43 => ?_)
        have hB_44 := hB1.mono (fun _ _ => rfl) (rRx hS43 (by decide))
        have hK_45 := hK1.mono (fun _ _ => rfl) (rRx hS43 (by decide))
        have hY_46 := hY1.mono (fun _ _ => rfl) (rRx hS43 (by decide))
        have hER47 := hER1.st hS43 (by decide)
        show pl _ _ _ (25, [(0, .ref m0), (1, .ref (q 13)), (2, .int (nI n)), (3, .int (nI i))], [], M40) _
        have hC_48 : BX 12 (i + 1) f I1 R41 := BX.st hC1 hS43 (hB1 i (by omega)).2 rfl
        refine ps_st (S' := (28, [(3, .int ((nI i) + 1)), (0, .ref m0), (1, .ref (q 13)), (2, .int (nI n))], [], M40)) rfl rfl rfl ?_
        rw [nI_add1 (p := i) (k := 1) (x := 1) rfl (by omega)]
        show pl _ _ _ (_, [(3, .int (nI (i + 1))), (0, .ref m0), (1, .ref (q 13)), (2, .int (nI n))], [], M40) _
        refine ps_st (S' := (11, [(0, .ref m0), (1, .ref (q 13)), (2, .int (nI n)), (3, .int (nI (i + 1)))], [], M40)) rfl rfl rfl ?_
        exact ih (i + 1) (tx) (cN) (A) (s1) (s2) (s3) M40 I1 R41 hR42 hEI1 hER47 hl49 hl16 hl20 hl25 hl26 hl9 hl10 hl11 hB_44 hK_45 hY_46 hC_48 (by omega) (hs1) (hs2) (hs3)
  refine ps_st (S' := (1, [(0, .ref m0), (1, .ref (q 13)), (2, .int (nI n))], [.ref m0], M)) rfl rfl rfl ?_
  refine pl_call (a := [.ref m0]) (rest := []) rfl rfl rfl (rd_clear hR) (fun v49 M50 q51 => ?_)
  obtain ⟨tx52, cN53, A54, s155, s256, s357, I58, R59, q1_s, rfl, hR60, hI61, hX62, hi63, hi64, hi65, hi66, hi67, hi68, hY_69⟩ := q51
  have hi70 := (hI61 49 (by decide)).trans hi49
  have hB_71 := hB.mono (cIx hI61 (by decide)) (cRx hX62 (by decide))
  have hK_72 := hK.mono (cIx hI61 (by decide)) (cRx hX62 (by decide))
  have hEI73 := hEI.tr hI61 (by decide)
  have hER74 := hER.tr hX62 (by decide)
  show pl _ _ _ (4, [(0, .ref m0), (1, .ref (q 13)), (2, .int (nI n))], [], M50) _
  refine ps_st (S' := (5, [(0, .ref m0), (1, .ref (q 13)), (2, .int (nI n))], [.ref m0], M50)) rfl rfl rfl ?_
  refine ps_st (S' := (6, [(0, .ref m0), (1, .ref (q 13)), (2, .int (nI n))], [.int (nI n), .ref m0], M50)) rfl rfl rfl ?_
  refine pr_put (j := 16) rfl hR60 rfl (fun M75 I76 hR77 hi78 hI79 => ?_)
  have hi80 := (hI79 49 (by decide)).trans hi70
  have hi81 := (hI79 9 (by decide)).trans hi63
  have hi82 := (hI79 10 (by decide)).trans hi64
  have hi83 := (hI79 11 (by decide)).trans hi65
  have hi84 := (hI79 20 (by decide)).trans hi66
  have hi85 := (hI79 25 (by decide)).trans hi67
  have hi86 := (hI79 26 (by decide)).trans hi68
  have hB_87 := hB_71.mono (pIx hI79 (by decide)) (fun _ _ => rfl)
  have hK_88 := hK_72.mono (pIx hI79 (by decide)) (fun _ _ => rfl)
  have hY_89 := hY_69.mono (pIx hI79 (by decide)) (fun _ _ => rfl)
  have hEI90 := hEI73.put hI79 (by decide)
  show pl _ _ _ (9, [(0, .ref m0), (1, .ref (q 13)), (2, .int (nI n))], [], M75) _
  refine ps_st (S' := (10, [(0, .ref m0), (1, .ref (q 13)), (2, .int (nI n))], [.int 0], M75)) rfl rfl rfl ?_
  refine ps_st (S' := (11, [(0, .ref m0), (1, .ref (q 13)), (2, .int (nI n)), (3, .int 0)], [], M75)) rfl rfl rfl ?_
  have hC0 : BX 12 0 f I76 R59 := fun i9 h9 => absurd h9 (Nat.not_lt_zero _)
  exact (LL kf) (0) (tx52) (cN53) (A54) (s155) (s256) (s357) M75 I76 R59 hR77 hEI90 hER74 hi80 hi78 hi84 hi85 hi86 hi81 hi82 hi83 hB_87 hK_88 hY_89 hC0 (by omega) (⟨q1_s.1, q1_s.2.1⟩) (⟨q1_s.2.2.1, q1_s.2.2.2.1⟩) (⟨q1_s.2.2.2.2.1, q1_s.2.2.2.2.2⟩)
set_option maxHeartbeats 4000000 in
theorem rd_parse14b {g : xe_G} {m0 : Nat} {q : Nat → Nat} {z : Nat × Nat} {I : rI} {R : rR} {M : mi_H} {n : Nat} {f : Nat → Int32} (hR : RS g m0 q z I R M) (hi49 : I 49 = some 0) (hB : BX 14 n f I R) (hK : KX I R) (hn : n ≤ 65540) : pt (mT g) 230 [.ref m0, .ref (q 14), .int (nI n)] M (fun v M' => (∃  (I' : rI) (R' : rR), (s_read f n = none) ∧ v = some (.int 1) ∧ RS g m0 q z I' R' M' ∧ eqI [3, 8, 9, 10, 11, 16, 20, 25, 26, 47, 48, 50, 51, 52, 53, 54, 55, 56, 57, 58, 59, 60, 61, 65, 66, 67, 68, 69, 70, 71, 72] I I' ∧ eqR [1, 2, 4, 5, 6, 7, 12, 21, 22, 27, 28, 29, 30, 31, 32, 33, 34, 35, 36, 37, 38, 39, 40, 41, 42, 43, 44, 45, 46] R R' ∧ XKV f n I' R') ∨ (∃ (e9 : Nat × Nat) (I' : rI) (R' : rR), (s_read f n = some e9) ∧ v = some (.int 0) ∧ RS g m0 q z I' R' M' ∧ eqI [3, 8, 9, 10, 11, 16, 20, 25, 26, 47, 48, 50, 51, 52, 53, 54, 55, 56, 57, 58, 59, 60, 61, 65, 66, 67, 68, 69, 70, 71, 72] I I' ∧ eqR [1, 2, 4, 5, 6, 7, 12, 21, 22, 27, 28, 29, 30, 31, 32, 33, 34, 35, 36, 37, 38, 39, 40, 41, 42, 43, 44, 45, 46] R R' ∧ I' 47 = some (nI e9.1) ∧ I' 48 = some (nI e9.2))) := by
  refine pt_in (b := mb_230 g) rfl (fun kf => ?_)
  show pl (mT g) kf (mb_230 g).2 (0, [(0, .ref m0), (1, .ref (q 14)), (2, .int (nI n))], [], M) _
  have hEI : eqI [3, 8, 9, 10, 11, 16, 20, 25, 26, 47, 48, 50, 51, 52, 53, 54, 55, 56, 57, 58, 59, 60, 61, 65, 66, 67, 68, 69, 70, 71, 72] I I := eqI.rf
  have hER : eqR [1, 2, 4, 5, 6, 7, 12, 21, 22, 27, 28, 29, 30, 31, 32, 33, 34, 35, 36, 37, 38, 39, 40, 41, 42, 43, 44, 45, 46] R R := eqR.rf
  have LL : ∀ (kf : Nat), (∀ (i : Nat) (tx : List (List Nat)) (cN : Nat) (A : Nat → Nat) (s1 s2 s3 : Nat) (M1 : mi_H) (I1 : rI) (R1 : rR), (RS g m0 q z I1 R1 M1) → (eqI [3, 8, 9, 10, 11, 16, 20, 25, 26, 47, 48, 50, 51, 52, 53, 54, 55, 56, 57, 58, 59, 60, 61, 65, 66, 67, 68, 69, 70, 71, 72] I I1) → (eqR [1, 2, 4, 5, 6, 7, 12, 21, 22, 27, 28, 29, 30, 31, 32, 33, 34, 35, 36, 37, 38, 39, 40, 41, 42, 43, 44, 45, 46] R R1) → (I1 49 = some 0) → (I1 16 = some (nI n)) → (I1 20 = some 0) → (I1 25 = some 0) → (I1 26 = some 0) → (I1 9 = some (nI s1)) → (I1 10 = some (nI s2)) → (I1 11 = some (nI s3)) → (BX 14 n f I1 R1) → (KX I1 R1) → (SYT tx cN A I1 R1) → (BX 12 i f I1 R1) → (i ≤ n) → (s1 < tx.length ∧ tx.getD s1 [] = ltx 25) → (s2 < tx.length ∧ tx.getD s2 [] = ltx 26) → (s3 < tx.length ∧ tx.getD s3 [] = ltx 27) →  pl (mT g) kf (mb_230 g).2 (11, [(0, .ref m0), (1, .ref (q 14)), (2, .int (nI n)), (3, .int (nI i))], [], M1) (fun v M' => (∃  (I' : rI) (R' : rR), (s_read f n = none) ∧ v = some (.int 1) ∧ RS g m0 q z I' R' M' ∧ eqI [3, 8, 9, 10, 11, 16, 20, 25, 26, 47, 48, 50, 51, 52, 53, 54, 55, 56, 57, 58, 59, 60, 61, 65, 66, 67, 68, 69, 70, 71, 72] I I' ∧ eqR [1, 2, 4, 5, 6, 7, 12, 21, 22, 27, 28, 29, 30, 31, 32, 33, 34, 35, 36, 37, 38, 39, 40, 41, 42, 43, 44, 45, 46] R R' ∧ XKV f n I' R') ∨ (∃ (e9 : Nat × Nat) (I' : rI) (R' : rR), (s_read f n = some e9) ∧ v = some (.int 0) ∧ RS g m0 q z I' R' M' ∧ eqI [3, 8, 9, 10, 11, 16, 20, 25, 26, 47, 48, 50, 51, 52, 53, 54, 55, 56, 57, 58, 59, 60, 61, 65, 66, 67, 68, 69, 70, 71, 72] I I' ∧ eqR [1, 2, 4, 5, 6, 7, 12, 21, 22, 27, 28, 29, 30, 31, 32, 33, 34, 35, 36, 37, 38, 39, 40, 41, 42, 43, 44, 45, 46] R R' ∧ I' 47 = some (nI e9.1) ∧ I' 48 = some (nI e9.2)))) := by
    intro kf
    induction kf with
    | zero => exact (by intros; exact pl_0)
    | succ kf ih =>
      intro i tx cN A s1 s2 s3 M1 I1 R1 hR1 hEI1 hER1 hl49 hl16 hl20 hl25 hl26 hl9 hl10 hl11 hB1 hK1 hY1 hC1 hi hs1 hs2 hs3
      refine ps_st1 (S' := (12, [(0, .ref m0), (1, .ref (q 14)), (2, .int (nI n)), (3, .int (nI i))], [.int (nI i)], M1)) rfl rfl rfl ?_
      refine ps_st (S' := (13, [(0, .ref m0), (1, .ref (q 14)), (2, .int (nI n)), (3, .int (nI i))], [.int (nI n), .int (nI i)], M1)) rfl rfl rfl ?_
      refine ps_if2 (S1 := (31, [(0, .ref m0), (1, .ref (q 14)), (2, .int (nI n)), (3, .int (nI i))], [], M1)) (S2 := (16, [(0, .ref m0), (1, .ref (q 14)), (2, .int (nI n)), (3, .int (nI i))], [], M1)) rfl rfl rfl (fun c_13 => ?_) (fun c_13 => ?_)
      · have c_13 : (nI n) ≤ (nI i) := of_decide_eq_true c_13
        have n_13 : n ≤ i := (le_nI (p := n) (n := i) (by omega) (by omega)).mp c_13
        refine ps_st (S' := (32, [(0, .ref m0), (1, .ref (q 14)), (2, .int (nI n)), (3, .int (nI i))], [.ref m0], M1)) rfl rfl rfl ?_
        have hF9 : FK n f I1 R1 := ⟨hn, hl49, hl16, fun i9 h9 => (hC1 i9 (by omega)).1⟩
        refine pl_call (a := [.ref m0]) (rest := []) rfl rfl rfl (rd_checkFile2 (n := n) (f := f) (tx := tx) (cN := cN) (A := A) (s1 := s1) (s2 := s2) (s3 := s3) hR1 hl20 hl25 hl26 hl9 hl10 hl11 hF9 hY1 hK1 (hs1) (hs2) (hs3)) (fun v1 M2 q3 => ?_)
        rcases q3 with q3 | q3
        · skip
          obtain ⟨I4, R5, q32_s, rfl, hR6, hI7, hX8, hX_9⟩ := q3
          have hi10 := (hI7 49 (by decide)).trans hl49
          have hi11 := (hI7 16 (by decide)).trans hl16
          have hi12 := (hI7 9 (by decide)).trans hl9
          have hi13 := (hI7 10 (by decide)).trans hl10
          have hi14 := (hI7 11 (by decide)).trans hl11
          have hB_15 := hB1.mono (cIx hI7 (by decide)) (cRx hX8 (by decide))
          have hK_16 := hK1.mono (cIx hI7 (by decide)) (cRx hX8 (by decide))
          have hC_17 := hC1.mono (cIx hI7 (by decide)) (cRx hX8 (by decide))
          have hF_18 := hF9.mono (cIx hI7 (by decide)) (cRx hX8 (by decide))
          have hEI19 := hEI1.tr hI7 (by decide)
          have hER20 := hER1.tr hX8 (by decide)
          show pl _ _ _ (35, [(0, .ref m0), (1, .ref (q 14)), (2, .int (nI n)), (3, .int (nI i))], [.int 1], M2) _
          exact ps_ret rfl rfl (Or.inl ⟨I4, R5, q32_s, rfl, hR6, hEI19, hER20, hX_9⟩)
        · skip
          obtain ⟨e921, I22, R23, q32_s, rfl, hR24, hI25, hX26, hi27, hi28⟩ := q3
          have hi29 := (hI25 49 (by decide)).trans hl49
          have hi30 := (hI25 16 (by decide)).trans hl16
          have hi31 := (hI25 9 (by decide)).trans hl9
          have hi32 := (hI25 10 (by decide)).trans hl10
          have hi33 := (hI25 11 (by decide)).trans hl11
          have hB_34 := hB1.mono (cIx hI25 (by decide)) (cRx hX26 (by decide))
          have hK_35 := hK1.mono (cIx hI25 (by decide)) (cRx hX26 (by decide))
          have hC_36 := hC1.mono (cIx hI25 (by decide)) (cRx hX26 (by decide))
          have hF_37 := hF9.mono (cIx hI25 (by decide)) (cRx hX26 (by decide))
          have hEI38 := hEI1.tr hI25 (by decide)
          have hER39 := hER1.tr hX26 (by decide)
          show pl _ _ _ (35, [(0, .ref m0), (1, .ref (q 14)), (2, .int (nI n)), (3, .int (nI i))], [.int 0], M2) _
          exact ps_ret rfl rfl (Or.inr ⟨e921, I22, R23, q32_s, rfl, hR24, hEI38, hER39, hi27, hi28⟩)
      · have c_13 : ¬ ((nI n) ≤ (nI i)) := of_decide_eq_false c_13
        have n_13 : ¬ (n ≤ i) := fun h9 => c_13 ((le_nI (p := n) (n := i) (by omega) (by omega)).mpr h9)
        refine ps_st (S' := (17, [(0, .ref m0), (1, .ref (q 14)), (2, .int (nI n)), (3, .int (nI i))], [.ref m0], M1)) rfl rfl rfl ?_
        refine pr_ref (j := 12) (S' := (20, [(0, .ref m0), (1, .ref (q 14)), (2, .int (nI n)), (3, .int (nI i))], [.ref (q 12)], M1)) rfl hR1 rfl rfl ?_
        refine ps_st (S' := (21, [(0, .ref m0), (1, .ref (q 14)), (2, .int (nI n)), (3, .int (nI i))], [.int (nI i), .ref (q 12)], M1)) rfl rfl rfl ?_
        refine ps_st (S' := (22, [(0, .ref m0), (1, .ref (q 14)), (2, .int (nI n)), (3, .int (nI i))], [.ref (q 14), .int (nI i), .ref (q 12)], M1)) rfl rfl rfl ?_
        refine ps_st (S' := (23, [(0, .ref m0), (1, .ref (q 14)), (2, .int (nI n)), (3, .int (nI i))], [.int (nI i), .ref (q 14), .int (nI i), .ref (q 12)], M1)) rfl rfl rfl ?_
        refine pr_ld (a := 14) (j := i) (y := (f i)) (S' := (24, [(0, .ref m0), (1, .ref (q 14)), (2, .int (nI n)), (3, .int (nI i))], [.int (f i), .int (nI i), .ref (q 12)], M1)) rfl hR1 rfl (by omega) (fun _ => (hB1 i (by omega)).1) rfl (fun i1_23 => ?_)
        refine pr_st (a := 12) (j := i) rfl hR1 rfl (by omega) (fun M40 R41 i1_24 hR42 hS43 => ?_)
        have hB_44 := hB1.mono (fun _ _ => rfl) (rRx hS43 (by decide))
        have hK_45 := hK1.mono (fun _ _ => rfl) (rRx hS43 (by decide))
        have hY_46 := hY1.mono (fun _ _ => rfl) (rRx hS43 (by decide))
        have hER47 := hER1.st hS43 (by decide)
        show pl _ _ _ (25, [(0, .ref m0), (1, .ref (q 14)), (2, .int (nI n)), (3, .int (nI i))], [], M40) _
        have hC_48 : BX 12 (i + 1) f I1 R41 := BX.st hC1 hS43 (hB1 i (by omega)).2 rfl
        refine ps_st (S' := (28, [(3, .int ((nI i) + 1)), (0, .ref m0), (1, .ref (q 14)), (2, .int (nI n))], [], M40)) rfl rfl rfl ?_
        rw [nI_add1 (p := i) (k := 1) (x := 1) rfl (by omega)]
        show pl _ _ _ (_, [(3, .int (nI (i + 1))), (0, .ref m0), (1, .ref (q 14)), (2, .int (nI n))], [], M40) _
        refine ps_st (S' := (11, [(0, .ref m0), (1, .ref (q 14)), (2, .int (nI n)), (3, .int (nI (i + 1)))], [], M40)) rfl rfl rfl ?_
        exact ih (i + 1) (tx) (cN) (A) (s1) (s2) (s3) M40 I1 R41 hR42 hEI1 hER47 hl49 hl16 hl20 hl25 hl26 hl9 hl10 hl11 hB_44 hK_45 hY_46 hC_48 (by omega) (hs1) (hs2) (hs3)
  refine ps_st (S' := (1, [(0, .ref m0), (1, .ref (q 14)), (2, .int (nI n))], [.ref m0], M)) rfl rfl rfl ?_
  refine pl_call (a := [.ref m0]) (rest := []) rfl rfl rfl (rd_clear hR) (fun v49 M50 q51 => ?_)
  obtain ⟨tx52, cN53, A54, s155, s256, s357, I58, R59, q1_s, rfl, hR60, hI61, hX62, hi63, hi64, hi65, hi66, hi67, hi68, hY_69⟩ := q51
  have hi70 := (hI61 49 (by decide)).trans hi49
  have hB_71 := hB.mono (cIx hI61 (by decide)) (cRx hX62 (by decide))
  have hK_72 := hK.mono (cIx hI61 (by decide)) (cRx hX62 (by decide))
  have hEI73 := hEI.tr hI61 (by decide)
  have hER74 := hER.tr hX62 (by decide)
  show pl _ _ _ (4, [(0, .ref m0), (1, .ref (q 14)), (2, .int (nI n))], [], M50) _
  refine ps_st (S' := (5, [(0, .ref m0), (1, .ref (q 14)), (2, .int (nI n))], [.ref m0], M50)) rfl rfl rfl ?_
  refine ps_st (S' := (6, [(0, .ref m0), (1, .ref (q 14)), (2, .int (nI n))], [.int (nI n), .ref m0], M50)) rfl rfl rfl ?_
  refine pr_put (j := 16) rfl hR60 rfl (fun M75 I76 hR77 hi78 hI79 => ?_)
  have hi80 := (hI79 49 (by decide)).trans hi70
  have hi81 := (hI79 9 (by decide)).trans hi63
  have hi82 := (hI79 10 (by decide)).trans hi64
  have hi83 := (hI79 11 (by decide)).trans hi65
  have hi84 := (hI79 20 (by decide)).trans hi66
  have hi85 := (hI79 25 (by decide)).trans hi67
  have hi86 := (hI79 26 (by decide)).trans hi68
  have hB_87 := hB_71.mono (pIx hI79 (by decide)) (fun _ _ => rfl)
  have hK_88 := hK_72.mono (pIx hI79 (by decide)) (fun _ _ => rfl)
  have hY_89 := hY_69.mono (pIx hI79 (by decide)) (fun _ _ => rfl)
  have hEI90 := hEI73.put hI79 (by decide)
  show pl _ _ _ (9, [(0, .ref m0), (1, .ref (q 14)), (2, .int (nI n))], [], M75) _
  refine ps_st (S' := (10, [(0, .ref m0), (1, .ref (q 14)), (2, .int (nI n))], [.int 0], M75)) rfl rfl rfl ?_
  refine ps_st (S' := (11, [(0, .ref m0), (1, .ref (q 14)), (2, .int (nI n)), (3, .int 0)], [], M75)) rfl rfl rfl ?_
  have hC0 : BX 12 0 f I76 R59 := fun i9 h9 => absurd h9 (Nat.not_lt_zero _)
  exact (LL kf) (0) (tx52) (cN53) (A54) (s155) (s256) (s357) M75 I76 R59 hR77 hEI90 hER74 hi80 hi78 hi84 hi85 hi86 hi81 hi82 hi83 hB_87 hK_88 hY_89 hC0 (by omega) (⟨q1_s.1, q1_s.2.1⟩) (⟨q1_s.2.2.1, q1_s.2.2.2.1⟩) (⟨q1_s.2.2.2.2.1, q1_s.2.2.2.2.2⟩)
set_option maxHeartbeats 4000000 in
theorem rd_read2a {g : xe_G} {m0 : Nat} {q : Nat → Nat} {z : Nat × Nat} {I : rI} {R : rR} {M : mi_H} {n : Nat} {f : Nat → Int32} {kn : Int32} (hR : RS g m0 q z I R M) (hi49 : I 49 = some 0) (hi17 : I 17 = some (nI n)) (hi18 : I 18 = some kn) (hB : BX 13 n f I R) (hK : KX I R) (hn : n ≤ 65540) (hk : kn < 0) : pt (mT g) 236 [.ref m0] M (fun v M' => (∃  (I' : rI) (R' : rR), (s_read f n = none) ∧ v = some (.int 0) ∧ RS g m0 q z I' R' M' ∧ eqI [0, 3, 8, 9, 10, 11, 16, 17, 18, 20, 25, 26, 47, 48, 50, 51, 52, 53, 54, 55, 56, 57, 58, 59, 60, 61, 65, 66, 67, 68, 69, 70, 71, 72, 73, 74] I I' ∧ eqR [1, 2, 4, 5, 6, 7, 12, 14, 21, 22, 27, 28, 29, 30, 31, 32, 33, 34, 35, 36, 37, 38, 39, 40, 41, 42, 43, 44, 45, 46] R R' ∧ I' 73 = some (-1) ∧ I' 17 = some (nI 0) ∧ I' 18 = some (nI n) ∧ I' 74 = some (-1) ∧ XKV f n I' R' ∧ BX 14 n f I' R') ∨ (∃ (e9 : Nat × Nat) (I' : rI) (R' : rR), (s_read f n = some e9) ∧ v = some (.int (nI e9.1)) ∧ RS g m0 q z I' R' M' ∧ eqI [0, 3, 8, 9, 10, 11, 16, 17, 18, 20, 25, 26, 47, 48, 50, 51, 52, 53, 54, 55, 56, 57, 58, 59, 60, 61, 65, 66, 67, 68, 69, 70, 71, 72, 73, 74] I I' ∧ eqR [1, 2, 4, 5, 6, 7, 12, 14, 21, 22, 27, 28, 29, 30, 31, 32, 33, 34, 35, 36, 37, 38, 39, 40, 41, 42, 43, 44, 45, 46] R R' ∧ I' 73 = some (nI e9.2) ∧ I' 17 = some (nI 0) ∧ I' 18 = some kn ∧ I' 74 = some (-1))) := by
  refine pt_in (b := mb_236 g) rfl (fun kf => ?_)
  show pl (mT g) kf (mb_236 g).2 (0, [(0, .ref m0)], [], M) _
  have hEI : eqI [0, 3, 8, 9, 10, 11, 16, 17, 18, 20, 25, 26, 47, 48, 50, 51, 52, 53, 54, 55, 56, 57, 58, 59, 60, 61, 65, 66, 67, 68, 69, 70, 71, 72, 73, 74] I I := eqI.rf
  have hER : eqR [1, 2, 4, 5, 6, 7, 12, 14, 21, 22, 27, 28, 29, 30, 31, 32, 33, 34, 35, 36, 37, 38, 39, 40, 41, 42, 43, 44, 45, 46] R R := eqR.rf
  have LL : ∀ (kf : Nat), (∀ (i : Nat) (M1 : mi_H) (I1 : rI) (R1 : rR), (RS g m0 q z I1 R1 M1) → (eqI [0, 3, 8, 9, 10, 11, 16, 17, 18, 20, 25, 26, 47, 48, 50, 51, 52, 53, 54, 55, 56, 57, 58, 59, 60, 61, 65, 66, 67, 68, 69, 70, 71, 72, 73, 74] I I1) → (eqR [1, 2, 4, 5, 6, 7, 12, 14, 21, 22, 27, 28, 29, 30, 31, 32, 33, 34, 35, 36, 37, 38, 39, 40, 41, 42, 43, 44, 45, 46] R R1) → (I1 17 = some (nI n)) → (I1 73 = some (-1)) → (BX 13 n f I1 R1) → (BX 14 i f I1 R1) → (XKV f n I1 R1) → (i ≤ n) → (s_read f n = none) →  pl (mT g) kf (mb_236 g).2 (53, [(0, .ref m0), (2, .int 0), (3, .int (nI i))], [], M1) (fun v M' => (∃  (I' : rI) (R' : rR), (s_read f n = none) ∧ v = some (.int 0) ∧ RS g m0 q z I' R' M' ∧ eqI [0, 3, 8, 9, 10, 11, 16, 17, 18, 20, 25, 26, 47, 48, 50, 51, 52, 53, 54, 55, 56, 57, 58, 59, 60, 61, 65, 66, 67, 68, 69, 70, 71, 72, 73, 74] I I' ∧ eqR [1, 2, 4, 5, 6, 7, 12, 14, 21, 22, 27, 28, 29, 30, 31, 32, 33, 34, 35, 36, 37, 38, 39, 40, 41, 42, 43, 44, 45, 46] R R' ∧ I' 73 = some (-1) ∧ I' 17 = some (nI 0) ∧ I' 18 = some (nI n) ∧ I' 74 = some (-1) ∧ XKV f n I' R' ∧ BX 14 n f I' R') ∨ (∃ (e9 : Nat × Nat) (I' : rI) (R' : rR), (s_read f n = some e9) ∧ v = some (.int (nI e9.1)) ∧ RS g m0 q z I' R' M' ∧ eqI [0, 3, 8, 9, 10, 11, 16, 17, 18, 20, 25, 26, 47, 48, 50, 51, 52, 53, 54, 55, 56, 57, 58, 59, 60, 61, 65, 66, 67, 68, 69, 70, 71, 72, 73, 74] I I' ∧ eqR [1, 2, 4, 5, 6, 7, 12, 14, 21, 22, 27, 28, 29, 30, 31, 32, 33, 34, 35, 36, 37, 38, 39, 40, 41, 42, 43, 44, 45, 46] R R' ∧ I' 73 = some (nI e9.2) ∧ I' 17 = some (nI 0) ∧ I' 18 = some kn ∧ I' 74 = some (-1)))) := by
    intro kf
    induction kf with
    | zero => exact (by intros; exact pl_0)
    | succ kf ih =>
      intro i M1 I1 R1 hR1 hEI1 hER1 hl17 hl73 hB1 hD1 hX1 hi hr
      refine ps_st1 (S' := (54, [(0, .ref m0), (2, .int 0), (3, .int (nI i))], [.int (nI i)], M1)) rfl rfl rfl ?_
      refine ps_st (S' := (55, [(0, .ref m0), (2, .int 0), (3, .int (nI i))], [.ref m0, .int (nI i)], M1)) rfl rfl rfl ?_
      refine pr_int (j := 17) (S' := (58, [(0, .ref m0), (2, .int 0), (3, .int (nI i))], [.int (nI n), .int (nI i)], M1)) rfl hR1 rfl hl17 rfl ?_
      refine ps_if2 (S1 := (79, [(0, .ref m0), (2, .int 0), (3, .int (nI i))], [], M1)) (S2 := (61, [(0, .ref m0), (2, .int 0), (3, .int (nI i))], [], M1)) rfl rfl rfl (fun c_58 => ?_) (fun c_58 => ?_)
      · have c_58 : (nI n) ≤ (nI i) := of_decide_eq_true c_58
        have n_58 : n ≤ i := (le_nI (p := n) (n := i) (by omega) (by omega)).mp c_58
        refine ps_st (S' := (80, [(0, .ref m0), (2, .int 0), (3, .int (nI i))], [.ref m0], M1)) rfl rfl rfl ?_
        refine ps_st (S' := (81, [(0, .ref m0), (2, .int 0), (3, .int (nI i))], [.ref m0, .ref m0], M1)) rfl rfl rfl ?_
        refine pr_int (j := 17) (S' := (84, [(0, .ref m0), (2, .int 0), (3, .int (nI i))], [.int (nI n), .ref m0], M1)) rfl hR1 rfl hl17 rfl ?_
        refine pr_put (j := 18) rfl hR1 rfl (fun M1 I2 hR3 hi4 hI5 => ?_)
        have hi6 := (hI5 17 (by decide)).trans hl17
        have hi7 := (hI5 73 (by decide)).trans hl73
        have hB_8 := hB1.mono (pIx hI5 (by decide)) (fun _ _ => rfl)
        have hD_9 := hD1.mono (pIx hI5 (by decide)) (fun _ _ => rfl)
        have hX_10 := hX1.mono (pIx hI5 (by decide)) (fun _ _ => rfl)
        have hEI11 := hEI1.put hI5 (by decide)
        show pl _ _ _ (87, [(0, .ref m0), (2, .int 0), (3, .int (nI i))], [], M1) _
        refine ps_st (S' := (110, [(0, .ref m0), (2, .int 0)], [], M1)) rfl rfl rfl ?_
        refine ps_st (S' := (111, [(0, .ref m0), (2, .int 0)], [.ref m0], M1)) rfl rfl rfl ?_
        refine ps_st (S' := (112, [(0, .ref m0), (2, .int 0)], [.int (-1), .ref m0], M1)) rfl rfl rfl ?_
        refine pr_put (j := 74) rfl hR3 rfl (fun M12 I13 hR14 hi15 hI16 => ?_)
        have hi19 := (hI16 17 (by decide)).trans hi6
        have hi20 := (hI16 73 (by decide)).trans hi7
        have hi21 := (hI16 18 (by decide)).trans hi4
        have hB_22 := hB_8.mono (pIx hI16 (by decide)) (fun _ _ => rfl)
        have hD_23 := hD_9.mono (pIx hI16 (by decide)) (fun _ _ => rfl)
        have hX_24 := hX_10.mono (pIx hI16 (by decide)) (fun _ _ => rfl)
        have hEI25 := hEI11.put hI16 (by decide)
        show pl _ _ _ (115, [(0, .ref m0), (2, .int 0)], [], M12) _
        refine ps_st (S' := (116, [(0, .ref m0), (2, .int 0)], [.ref m0], M12)) rfl rfl rfl ?_
        refine ps_st (S' := (117, [(0, .ref m0), (2, .int 0)], [.int 0, .ref m0], M12)) rfl rfl rfl ?_
        refine pr_put (j := 17) rfl hR14 rfl (fun M26 I27 hR28 hi29 hI30 => ?_)
        have hi31 := (hI30 73 (by decide)).trans hi20
        have hi32 := (hI30 18 (by decide)).trans hi21
        have hi33 := (hI30 74 (by decide)).trans hi15
        have hB_34 := hB_22.mono (pIx hI30 (by decide)) (fun _ _ => rfl)
        have hD_35 := hD_23.mono (pIx hI30 (by decide)) (fun _ _ => rfl)
        have hX_36 := hX_24.mono (pIx hI30 (by decide)) (fun _ _ => rfl)
        have hEI37 := hEI25.put hI30 (by decide)
        show pl _ _ _ (120, [(0, .ref m0), (2, .int 0)], [], M26) _
        refine ps_st (S' := (121, [(0, .ref m0), (2, .int 0)], [.int 0], M26)) rfl rfl rfl ?_
        exact ps_ret rfl rfl (Or.inl ⟨I27, R1, hr, rfl, hR28, hEI37, hER1, hi31, hi29, hi32, hi33, hX_36, BX.le hD_35 (by omega)⟩)
      · have c_58 : ¬ ((nI n) ≤ (nI i)) := of_decide_eq_false c_58
        have n_58 : ¬ (n ≤ i) := fun h9 => c_58 ((le_nI (p := n) (n := i) (by omega) (by omega)).mpr h9)
        refine ps_st (S' := (62, [(0, .ref m0), (2, .int 0), (3, .int (nI i))], [.ref m0], M1)) rfl rfl rfl ?_
        refine pr_ref (j := 14) (S' := (65, [(0, .ref m0), (2, .int 0), (3, .int (nI i))], [.ref (q 14)], M1)) rfl hR1 rfl rfl ?_
        refine ps_st (S' := (66, [(0, .ref m0), (2, .int 0), (3, .int (nI i))], [.int (nI i), .ref (q 14)], M1)) rfl rfl rfl ?_
        refine ps_st (S' := (67, [(0, .ref m0), (2, .int 0), (3, .int (nI i))], [.ref m0, .int (nI i), .ref (q 14)], M1)) rfl rfl rfl ?_
        refine pr_ref (j := 13) (S' := (70, [(0, .ref m0), (2, .int 0), (3, .int (nI i))], [.ref (q 13), .int (nI i), .ref (q 14)], M1)) rfl hR1 rfl rfl ?_
        refine ps_st (S' := (71, [(0, .ref m0), (2, .int 0), (3, .int (nI i))], [.int (nI i), .ref (q 13), .int (nI i), .ref (q 14)], M1)) rfl rfl rfl ?_
        refine pr_ld (a := 13) (j := i) (y := (f i)) (S' := (72, [(0, .ref m0), (2, .int 0), (3, .int (nI i))], [.int (f i), .int (nI i), .ref (q 14)], M1)) rfl hR1 rfl (by omega) (fun _ => (hB1 i (by omega)).1) rfl (fun i1_71 => ?_)
        refine pr_st (a := 14) (j := i) rfl hR1 rfl (by omega) (fun M38 R39 i1_72 hR40 hS41 => ?_)
        have hB_42 := hB1.mono (fun _ _ => rfl) (rRx hS41 (by decide))
        have hX_43 := hX1.mono (fun _ _ => rfl) (rRx hS41 (by decide))
        have hER44 := hER1.st hS41 (by decide)
        show pl _ _ _ (73, [(0, .ref m0), (2, .int 0), (3, .int (nI i))], [], M38) _
        have hD_45 : BX 14 (i + 1) f I1 R39 := BX.st hD1 hS41 (hB1 i (by omega)).2 rfl
        refine ps_st (S' := (76, [(3, .int ((nI i) + 1)), (0, .ref m0), (2, .int 0)], [], M38)) rfl rfl rfl ?_
        rw [nI_add1 (p := i) (k := 1) (x := 1) rfl (by omega)]
        show pl _ _ _ (_, [(3, .int (nI (i + 1))), (0, .ref m0), (2, .int 0)], [], M38) _
        refine ps_st (S' := (53, [(0, .ref m0), (2, .int 0), (3, .int (nI (i + 1)))], [], M38)) rfl rfl rfl ?_
        exact ih (i + 1) M38 I1 R39 hR40 hEI1 hER44 hl17 hl73 hB_42 hD_45 hX_43 (by omega) (hr)
  refine ps_st (S' := (1, [(0, .ref m0)], [.ref m0], M)) rfl rfl rfl ?_
  refine ps_st (S' := (2, [(0, .ref m0)], [.int 0, .ref m0], M)) rfl rfl rfl ?_
  refine pr_put (j := 0) rfl hR rfl (fun M46 I47 hR48 hi50 hI51 => ?_)
  have hi52 := (hI51 49 (by decide)).trans hi49
  have hi53 := (hI51 17 (by decide)).trans hi17
  have hi54 := (hI51 18 (by decide)).trans hi18
  have hB_55 := hB.mono (pIx hI51 (by decide)) (fun _ _ => rfl)
  have hK_56 := hK.mono (pIx hI51 (by decide)) (fun _ _ => rfl)
  have hEI57 := hEI.put hI51 (by decide)
  show pl _ _ _ (5, [(0, .ref m0)], [], M46) _
  refine ps_st (S' := (6, [(0, .ref m0)], [.ref m0], M46)) rfl rfl rfl ?_
  refine ps_st (S' := (7, [(0, .ref m0)], [.ref m0, .ref m0], M46)) rfl rfl rfl ?_
  refine pr_ref (j := 13) (S' := (10, [(0, .ref m0)], [.ref (q 13), .ref m0], M46)) rfl hR48 rfl rfl ?_
  refine ps_st (S' := (11, [(0, .ref m0)], [.ref m0, .ref (q 13), .ref m0], M46)) rfl rfl rfl ?_
  refine pr_int (j := 17) (S' := (14, [(0, .ref m0)], [.int (nI n), .ref (q 13), .ref m0], M46)) rfl hR48 rfl hi53 rfl ?_
  refine pl_call (a := [.ref m0, .ref (q 13), .int (nI n)]) (rest := []) rfl rfl rfl (rd_parse13b (n := n) (f := f) hR48 hi52 hB_55 hK_56 (hn)) (fun v58 M59 q60 => ?_)
  rcases q60 with q60 | q60
  · skip
    obtain ⟨I61, R62, q14_s, rfl, hR63, hI64, hX65, hX_66⟩ := q60
    have hi67 := (hI64 49 (by decide)).trans hi52
    have hi68 := (hI64 17 (by decide)).trans hi53
    have hi69 := (hI64 18 (by decide)).trans hi54
    have hi70 := (hI64 0 (by decide)).trans hi50
    have hB_71 := hB_55.mono (cIx hI64 (by decide)) (cRx hX65 (by decide))
    have hK_72 := hK_56.mono (cIx hI64 (by decide)) (cRx hX65 (by decide))
    have hEI73 := hEI57.tr hI64 (by decide)
    have hER74 := hER.tr hX65 (by decide)
    show pl _ _ _ (17, [(0, .ref m0)], [.int 1], M59) _
    refine ps_st (S' := (18, [(1, .int 1), (0, .ref m0)], [], M59)) rfl rfl rfl ?_
    refine ps_st (S' := (19, [(1, .int 1), (0, .ref m0)], [.ref m0], M59)) rfl rfl rfl ?_
    refine ps_st (S' := (20, [(1, .int 1), (0, .ref m0)], [.int 1, .ref m0], M59)) rfl rfl rfl ?_
    refine ps_if (S1 := (27, [(1, .int 1), (0, .ref m0)], [.ref m0], M59)) (S2 := (23, [(1, .int 1), (0, .ref m0)], [.ref m0], M59)) rfl rfl rfl (fun c_20 => ?_) (fun c_20 => ?_)
    · exact absurd (of_decide_eq_true c_20) (by decide)
    refine ps_st (S' := (24, [(1, .int 1), (0, .ref m0)], [.int (-1), .ref m0], M59)) rfl rfl rfl ?_
    refine ps_st (S' := (31, [(0, .ref m0), (1, .int 1)], [.int (-1), .ref m0], M59)) rfl rfl rfl ?_
    refine pr_put (j := 73) rfl hR63 rfl (fun M75 I76 hR77 hi78 hI79 => ?_)
    have hi80 := (hI79 49 (by decide)).trans hi67
    have hi81 := (hI79 17 (by decide)).trans hi68
    have hi82 := (hI79 18 (by decide)).trans hi69
    have hi83 := (hI79 0 (by decide)).trans hi70
    have hB_84 := hB_71.mono (pIx hI79 (by decide)) (fun _ _ => rfl)
    have hK_85 := hK_72.mono (pIx hI79 (by decide)) (fun _ _ => rfl)
    have hX_86 := hX_66.mono (pIx hI79 (by decide)) (fun _ _ => rfl)
    have hEI87 := hEI73.put hI79 (by decide)
    show pl _ _ _ (34, [(0, .ref m0), (1, .int 1)], [], M75) _
    refine ps_st (S' := (35, [(0, .ref m0), (1, .int 1)], [.int 1], M75)) rfl rfl rfl ?_
    refine ps_if (S1 := (42, [(0, .ref m0), (1, .int 1)], [], M75)) (S2 := (38, [(0, .ref m0), (1, .int 1)], [], M75)) rfl rfl rfl (fun c_35 => ?_) (fun c_35 => ?_)
    · exact absurd (of_decide_eq_true c_35) (by decide)
    refine ps_st (S' := (39, [(0, .ref m0), (1, .int 1)], [.int 0], M75)) rfl rfl rfl ?_
    refine ps_st (S' := (46, [(0, .ref m0), (1, .int 1)], [.int 0], M75)) rfl rfl rfl ?_
    refine ps_st (S' := (47, [(2, .int 0), (0, .ref m0), (1, .int 1)], [], M75)) rfl rfl rfl ?_
    refine ps_st (S' := (48, [(2, .int 0), (0, .ref m0), (1, .int 1)], [.int 1], M75)) rfl rfl rfl ?_
    refine ps_if (S1 := (90, [(2, .int 0), (0, .ref m0), (1, .int 1)], [], M75)) (S2 := (51, [(2, .int 0), (0, .ref m0), (1, .int 1)], [], M75)) rfl rfl rfl (fun c_48 => ?_) (fun c_48 => ?_)
    · exact absurd (of_decide_eq_true c_48) (by decide)
    refine ps_st (S' := (52, [(2, .int 0), (0, .ref m0), (1, .int 1)], [.int 0], M75)) rfl rfl rfl ?_
    refine ps_st (S' := (53, [(0, .ref m0), (2, .int 0), (3, .int 0)], [], M75)) rfl rfl rfl ?_
    have hD0 : BX 14 0 f I76 R62 := fun i9 h9 => absurd h9 (Nat.not_lt_zero _)
    exact (LL kf) (0) M75 I76 R62 hR77 hEI87 hER74 hi81 hi78 hB_84 hD0 hX_86 (by omega) (q14_s)
  · skip
    obtain ⟨e988, I89, R90, q14_s, rfl, hR91, hI92, hX93, hi94, hi95⟩ := q60
    have hi96 := (hI92 49 (by decide)).trans hi52
    have hi97 := (hI92 17 (by decide)).trans hi53
    have hi98 := (hI92 18 (by decide)).trans hi54
    have hi99 := (hI92 0 (by decide)).trans hi50
    have hB_100 := hB_55.mono (cIx hI92 (by decide)) (cRx hX93 (by decide))
    have hK_101 := hK_56.mono (cIx hI92 (by decide)) (cRx hX93 (by decide))
    have hEI102 := hEI57.tr hI92 (by decide)
    have hER103 := hER.tr hX93 (by decide)
    show pl _ _ _ (17, [(0, .ref m0)], [.int 0], M59) _
    refine ps_st (S' := (18, [(1, .int 0), (0, .ref m0)], [], M59)) rfl rfl rfl ?_
    refine ps_st (S' := (19, [(1, .int 0), (0, .ref m0)], [.ref m0], M59)) rfl rfl rfl ?_
    refine ps_st (S' := (20, [(1, .int 0), (0, .ref m0)], [.int 0, .ref m0], M59)) rfl rfl rfl ?_
    refine ps_if (S1 := (27, [(1, .int 0), (0, .ref m0)], [.ref m0], M59)) (S2 := (23, [(1, .int 0), (0, .ref m0)], [.ref m0], M59)) rfl rfl rfl (fun c_20 => ?_) (fun c_20 => ?_)
    rotate_left
    · exact absurd (by decide) (of_decide_eq_false c_20)
    refine ps_st (S' := (28, [(1, .int 0), (0, .ref m0)], [.ref m0, .ref m0], M59)) rfl rfl rfl ?_
    refine pr_int (j := 48) (S' := (31, [(0, .ref m0), (1, .int 0)], [.int (nI e988.2), .ref m0], M59)) rfl hR91 rfl hi95 rfl ?_
    refine pr_put (j := 73) rfl hR91 rfl (fun M104 I105 hR106 hi107 hI108 => ?_)
    have hi109 := (hI108 49 (by decide)).trans hi96
    have hi110 := (hI108 17 (by decide)).trans hi97
    have hi111 := (hI108 18 (by decide)).trans hi98
    have hi112 := (hI108 0 (by decide)).trans hi99
    have hi113 := (hI108 47 (by decide)).trans hi94
    have hi114 := (hI108 48 (by decide)).trans hi95
    have hB_115 := hB_100.mono (pIx hI108 (by decide)) (fun _ _ => rfl)
    have hK_116 := hK_101.mono (pIx hI108 (by decide)) (fun _ _ => rfl)
    have hEI117 := hEI102.put hI108 (by decide)
    show pl _ _ _ (34, [(0, .ref m0), (1, .int 0)], [], M104) _
    refine ps_st (S' := (35, [(0, .ref m0), (1, .int 0)], [.int 0], M104)) rfl rfl rfl ?_
    refine ps_if (S1 := (42, [(0, .ref m0), (1, .int 0)], [], M104)) (S2 := (38, [(0, .ref m0), (1, .int 0)], [], M104)) rfl rfl rfl (fun c_35 => ?_) (fun c_35 => ?_)
    rotate_left
    · exact absurd (by decide) (of_decide_eq_false c_35)
    refine ps_st (S' := (43, [(0, .ref m0), (1, .int 0)], [.ref m0], M104)) rfl rfl rfl ?_
    refine pr_int (j := 47) (S' := (46, [(0, .ref m0), (1, .int 0)], [.int (nI e988.1)], M104)) rfl hR106 rfl hi113 rfl ?_
    refine ps_st (S' := (47, [(2, .int (nI e988.1)), (0, .ref m0), (1, .int 0)], [], M104)) rfl rfl rfl ?_
    refine ps_st (S' := (48, [(2, .int (nI e988.1)), (0, .ref m0), (1, .int 0)], [.int 0], M104)) rfl rfl rfl ?_
    refine ps_if (S1 := (90, [(2, .int (nI e988.1)), (0, .ref m0), (1, .int 0)], [], M104)) (S2 := (51, [(2, .int (nI e988.1)), (0, .ref m0), (1, .int 0)], [], M104)) rfl rfl rfl (fun c_48 => ?_) (fun c_48 => ?_)
    rotate_left
    · exact absurd (by decide) (of_decide_eq_false c_48)
    refine ps_st (S' := (91, [(2, .int (nI e988.1)), (0, .ref m0), (1, .int 0)], [.ref m0], M104)) rfl rfl rfl ?_
    refine pr_int (j := 18) (S' := (94, [(2, .int (nI e988.1)), (0, .ref m0), (1, .int 0)], [.int kn], M104)) rfl hR106 rfl hi111 rfl ?_
    refine ps_if (S1 := (110, [(0, .ref m0), (2, .int (nI e988.1))], [], M104)) (S2 := (97, [(2, .int (nI e988.1)), (0, .ref m0), (1, .int 0)], [], M104)) rfl rfl rfl (fun c_94 => ?_) (fun c_94 => ?_)
    rotate_left
    · exact absurd (hk) (of_decide_eq_false c_94)
    refine ps_st (S' := (111, [(0, .ref m0), (2, .int (nI e988.1))], [.ref m0], M104)) rfl rfl rfl ?_
    refine ps_st (S' := (112, [(0, .ref m0), (2, .int (nI e988.1))], [.int (-1), .ref m0], M104)) rfl rfl rfl ?_
    refine pr_put (j := 74) rfl hR106 rfl (fun M118 I119 hR120 hi121 hI122 => ?_)
    have hi123 := (hI122 49 (by decide)).trans hi109
    have hi124 := (hI122 17 (by decide)).trans hi110
    have hi125 := (hI122 18 (by decide)).trans hi111
    have hi126 := (hI122 0 (by decide)).trans hi112
    have hi127 := (hI122 47 (by decide)).trans hi113
    have hi128 := (hI122 48 (by decide)).trans hi114
    have hi129 := (hI122 73 (by decide)).trans hi107
    have hB_130 := hB_115.mono (pIx hI122 (by decide)) (fun _ _ => rfl)
    have hK_131 := hK_116.mono (pIx hI122 (by decide)) (fun _ _ => rfl)
    have hEI132 := hEI117.put hI122 (by decide)
    show pl _ _ _ (115, [(0, .ref m0), (2, .int (nI e988.1))], [], M118) _
    refine ps_st (S' := (116, [(0, .ref m0), (2, .int (nI e988.1))], [.ref m0], M118)) rfl rfl rfl ?_
    refine ps_st (S' := (117, [(0, .ref m0), (2, .int (nI e988.1))], [.int 0, .ref m0], M118)) rfl rfl rfl ?_
    refine pr_put (j := 17) rfl hR120 rfl (fun M133 I134 hR135 hi136 hI137 => ?_)
    have hi138 := (hI137 49 (by decide)).trans hi123
    have hi139 := (hI137 18 (by decide)).trans hi125
    have hi140 := (hI137 0 (by decide)).trans hi126
    have hi141 := (hI137 47 (by decide)).trans hi127
    have hi142 := (hI137 48 (by decide)).trans hi128
    have hi143 := (hI137 73 (by decide)).trans hi129
    have hi144 := (hI137 74 (by decide)).trans hi121
    have hB_145 := hB_130.mono (pIx hI137 (by decide)) (fun _ _ => rfl)
    have hK_146 := hK_131.mono (pIx hI137 (by decide)) (fun _ _ => rfl)
    have hEI147 := hEI132.put hI137 (by decide)
    show pl _ _ _ (120, [(0, .ref m0), (2, .int (nI e988.1))], [], M133) _
    refine ps_st (S' := (121, [(0, .ref m0), (2, .int (nI e988.1))], [.int (nI e988.1)], M133)) rfl rfl rfl ?_
    exact ps_reti rfl (Or.inr ⟨e988, I134, R90, q14_s, rfl, hR135, hEI147, hER103, hi143, hi136, hi139, hi144⟩)
set_option maxHeartbeats 4000000 in
theorem rd_read2b {g : xe_G} {m0 : Nat} {q : Nat → Nat} {z : Nat × Nat} {I : rI} {R : rR} {M : mi_H} {n : Nat} {f : Nat → Int32} {n2 : Nat} {f2 : Nat → Int32} (hR : RS g m0 q z I R M) (hi49 : I 49 = some 0) (hi17 : I 17 = some (nI n)) (hi18 : I 18 = some (nI n2)) (hB : BX 13 n f I R) (hK : KX I R) (hQ : BX 14 n2 f2 I R) (hn : n ≤ 65540) (hk2 : n2 ≤ 65540) (hr2 : s_read f2 n2 = none) : pt (mT g) 236 [.ref m0] M (fun v M' => (∃  (I' : rI) (R' : rR), (s_read f n = none) ∧ v = some (.int 0) ∧ RS g m0 q z I' R' M' ∧ eqI [0, 3, 8, 9, 10, 11, 16, 17, 18, 20, 25, 26, 47, 48, 50, 51, 52, 53, 54, 55, 56, 57, 58, 59, 60, 61, 65, 66, 67, 68, 69, 70, 71, 72, 73, 74] I I' ∧ eqR [1, 2, 4, 5, 6, 7, 12, 14, 21, 22, 27, 28, 29, 30, 31, 32, 33, 34, 35, 36, 37, 38, 39, 40, 41, 42, 43, 44, 45, 46] R R' ∧ I' 73 = some (-1) ∧ I' 17 = some (nI 0) ∧ I' 18 = some (nI n) ∧ I' 74 = some (-1) ∧ XKV f n I' R' ∧ BX 14 n f I' R') ∨ (∃ (e9 : Nat × Nat) (I' : rI) (R' : rR), (s_read f n = some e9) ∧ v = some (.int (nI e9.1)) ∧ RS g m0 q z I' R' M' ∧ eqI [0, 3, 8, 9, 10, 11, 16, 17, 18, 20, 25, 26, 47, 48, 50, 51, 52, 53, 54, 55, 56, 57, 58, 59, 60, 61, 65, 66, 67, 68, 69, 70, 71, 72, 73, 74] I I' ∧ eqR [1, 2, 4, 5, 6, 7, 12, 14, 21, 22, 27, 28, 29, 30, 31, 32, 33, 34, 35, 36, 37, 38, 39, 40, 41, 42, 43, 44, 45, 46] R R' ∧ I' 73 = some (nI e9.2) ∧ I' 17 = some (nI 0) ∧ I' 18 = some (nI n2) ∧ I' 74 = some (-1) ∧ XKV f2 n2 I' R' ∧ BX 14 n2 f2 I' R')) := by
  refine pt_in (b := mb_236 g) rfl (fun kf => ?_)
  show pl (mT g) kf (mb_236 g).2 (0, [(0, .ref m0)], [], M) _
  have hEI : eqI [0, 3, 8, 9, 10, 11, 16, 17, 18, 20, 25, 26, 47, 48, 50, 51, 52, 53, 54, 55, 56, 57, 58, 59, 60, 61, 65, 66, 67, 68, 69, 70, 71, 72, 73, 74] I I := eqI.rf
  have hER : eqR [1, 2, 4, 5, 6, 7, 12, 14, 21, 22, 27, 28, 29, 30, 31, 32, 33, 34, 35, 36, 37, 38, 39, 40, 41, 42, 43, 44, 45, 46] R R := eqR.rf
  have LL : ∀ (kf : Nat), (∀ (i : Nat) (M1 : mi_H) (I1 : rI) (R1 : rR), (RS g m0 q z I1 R1 M1) → (eqI [0, 3, 8, 9, 10, 11, 16, 17, 18, 20, 25, 26, 47, 48, 50, 51, 52, 53, 54, 55, 56, 57, 58, 59, 60, 61, 65, 66, 67, 68, 69, 70, 71, 72, 73, 74] I I1) → (eqR [1, 2, 4, 5, 6, 7, 12, 14, 21, 22, 27, 28, 29, 30, 31, 32, 33, 34, 35, 36, 37, 38, 39, 40, 41, 42, 43, 44, 45, 46] R R1) → (I1 17 = some (nI n)) → (I1 73 = some (-1)) → (BX 13 n f I1 R1) → (BX 14 i f I1 R1) → (XKV f n I1 R1) → (i ≤ n) → (s_read f n = none) →  pl (mT g) kf (mb_236 g).2 (53, [(0, .ref m0), (2, .int 0), (3, .int (nI i))], [], M1) (fun v M' => (∃  (I' : rI) (R' : rR), (s_read f n = none) ∧ v = some (.int 0) ∧ RS g m0 q z I' R' M' ∧ eqI [0, 3, 8, 9, 10, 11, 16, 17, 18, 20, 25, 26, 47, 48, 50, 51, 52, 53, 54, 55, 56, 57, 58, 59, 60, 61, 65, 66, 67, 68, 69, 70, 71, 72, 73, 74] I I' ∧ eqR [1, 2, 4, 5, 6, 7, 12, 14, 21, 22, 27, 28, 29, 30, 31, 32, 33, 34, 35, 36, 37, 38, 39, 40, 41, 42, 43, 44, 45, 46] R R' ∧ I' 73 = some (-1) ∧ I' 17 = some (nI 0) ∧ I' 18 = some (nI n) ∧ I' 74 = some (-1) ∧ XKV f n I' R' ∧ BX 14 n f I' R') ∨ (∃ (e9 : Nat × Nat) (I' : rI) (R' : rR), (s_read f n = some e9) ∧ v = some (.int (nI e9.1)) ∧ RS g m0 q z I' R' M' ∧ eqI [0, 3, 8, 9, 10, 11, 16, 17, 18, 20, 25, 26, 47, 48, 50, 51, 52, 53, 54, 55, 56, 57, 58, 59, 60, 61, 65, 66, 67, 68, 69, 70, 71, 72, 73, 74] I I' ∧ eqR [1, 2, 4, 5, 6, 7, 12, 14, 21, 22, 27, 28, 29, 30, 31, 32, 33, 34, 35, 36, 37, 38, 39, 40, 41, 42, 43, 44, 45, 46] R R' ∧ I' 73 = some (nI e9.2) ∧ I' 17 = some (nI 0) ∧ I' 18 = some (nI n2) ∧ I' 74 = some (-1) ∧ XKV f2 n2 I' R' ∧ BX 14 n2 f2 I' R'))) := by
    intro kf
    induction kf with
    | zero => exact (by intros; exact pl_0)
    | succ kf ih =>
      intro i M1 I1 R1 hR1 hEI1 hER1 hl17 hl73 hB1 hD1 hX1 hi hr
      refine ps_st1 (S' := (54, [(0, .ref m0), (2, .int 0), (3, .int (nI i))], [.int (nI i)], M1)) rfl rfl rfl ?_
      refine ps_st (S' := (55, [(0, .ref m0), (2, .int 0), (3, .int (nI i))], [.ref m0, .int (nI i)], M1)) rfl rfl rfl ?_
      refine pr_int (j := 17) (S' := (58, [(0, .ref m0), (2, .int 0), (3, .int (nI i))], [.int (nI n), .int (nI i)], M1)) rfl hR1 rfl hl17 rfl ?_
      refine ps_if2 (S1 := (79, [(0, .ref m0), (2, .int 0), (3, .int (nI i))], [], M1)) (S2 := (61, [(0, .ref m0), (2, .int 0), (3, .int (nI i))], [], M1)) rfl rfl rfl (fun c_58 => ?_) (fun c_58 => ?_)
      · have c_58 : (nI n) ≤ (nI i) := of_decide_eq_true c_58
        have n_58 : n ≤ i := (le_nI (p := n) (n := i) (by omega) (by omega)).mp c_58
        refine ps_st (S' := (80, [(0, .ref m0), (2, .int 0), (3, .int (nI i))], [.ref m0], M1)) rfl rfl rfl ?_
        refine ps_st (S' := (81, [(0, .ref m0), (2, .int 0), (3, .int (nI i))], [.ref m0, .ref m0], M1)) rfl rfl rfl ?_
        refine pr_int (j := 17) (S' := (84, [(0, .ref m0), (2, .int 0), (3, .int (nI i))], [.int (nI n), .ref m0], M1)) rfl hR1 rfl hl17 rfl ?_
        refine pr_put (j := 18) rfl hR1 rfl (fun M1 I2 hR3 hi4 hI5 => ?_)
        have hi6 := (hI5 17 (by decide)).trans hl17
        have hi7 := (hI5 73 (by decide)).trans hl73
        have hB_8 := hB1.mono (pIx hI5 (by decide)) (fun _ _ => rfl)
        have hD_9 := hD1.mono (pIx hI5 (by decide)) (fun _ _ => rfl)
        have hX_10 := hX1.mono (pIx hI5 (by decide)) (fun _ _ => rfl)
        have hEI11 := hEI1.put hI5 (by decide)
        show pl _ _ _ (87, [(0, .ref m0), (2, .int 0), (3, .int (nI i))], [], M1) _
        refine ps_st (S' := (110, [(0, .ref m0), (2, .int 0)], [], M1)) rfl rfl rfl ?_
        refine ps_st (S' := (111, [(0, .ref m0), (2, .int 0)], [.ref m0], M1)) rfl rfl rfl ?_
        refine ps_st (S' := (112, [(0, .ref m0), (2, .int 0)], [.int (-1), .ref m0], M1)) rfl rfl rfl ?_
        refine pr_put (j := 74) rfl hR3 rfl (fun M12 I13 hR14 hi15 hI16 => ?_)
        have hi19 := (hI16 17 (by decide)).trans hi6
        have hi20 := (hI16 73 (by decide)).trans hi7
        have hi21 := (hI16 18 (by decide)).trans hi4
        have hB_22 := hB_8.mono (pIx hI16 (by decide)) (fun _ _ => rfl)
        have hD_23 := hD_9.mono (pIx hI16 (by decide)) (fun _ _ => rfl)
        have hX_24 := hX_10.mono (pIx hI16 (by decide)) (fun _ _ => rfl)
        have hEI25 := hEI11.put hI16 (by decide)
        show pl _ _ _ (115, [(0, .ref m0), (2, .int 0)], [], M12) _
        refine ps_st (S' := (116, [(0, .ref m0), (2, .int 0)], [.ref m0], M12)) rfl rfl rfl ?_
        refine ps_st (S' := (117, [(0, .ref m0), (2, .int 0)], [.int 0, .ref m0], M12)) rfl rfl rfl ?_
        refine pr_put (j := 17) rfl hR14 rfl (fun M26 I27 hR28 hi29 hI30 => ?_)
        have hi31 := (hI30 73 (by decide)).trans hi20
        have hi32 := (hI30 18 (by decide)).trans hi21
        have hi33 := (hI30 74 (by decide)).trans hi15
        have hB_34 := hB_22.mono (pIx hI30 (by decide)) (fun _ _ => rfl)
        have hD_35 := hD_23.mono (pIx hI30 (by decide)) (fun _ _ => rfl)
        have hX_36 := hX_24.mono (pIx hI30 (by decide)) (fun _ _ => rfl)
        have hEI37 := hEI25.put hI30 (by decide)
        show pl _ _ _ (120, [(0, .ref m0), (2, .int 0)], [], M26) _
        refine ps_st (S' := (121, [(0, .ref m0), (2, .int 0)], [.int 0], M26)) rfl rfl rfl ?_
        exact ps_ret rfl rfl (Or.inl ⟨I27, R1, hr, rfl, hR28, hEI37, hER1, hi31, hi29, hi32, hi33, hX_36, BX.le hD_35 (by omega)⟩)
      · have c_58 : ¬ ((nI n) ≤ (nI i)) := of_decide_eq_false c_58
        have n_58 : ¬ (n ≤ i) := fun h9 => c_58 ((le_nI (p := n) (n := i) (by omega) (by omega)).mpr h9)
        refine ps_st (S' := (62, [(0, .ref m0), (2, .int 0), (3, .int (nI i))], [.ref m0], M1)) rfl rfl rfl ?_
        refine pr_ref (j := 14) (S' := (65, [(0, .ref m0), (2, .int 0), (3, .int (nI i))], [.ref (q 14)], M1)) rfl hR1 rfl rfl ?_
        refine ps_st (S' := (66, [(0, .ref m0), (2, .int 0), (3, .int (nI i))], [.int (nI i), .ref (q 14)], M1)) rfl rfl rfl ?_
        refine ps_st (S' := (67, [(0, .ref m0), (2, .int 0), (3, .int (nI i))], [.ref m0, .int (nI i), .ref (q 14)], M1)) rfl rfl rfl ?_
        refine pr_ref (j := 13) (S' := (70, [(0, .ref m0), (2, .int 0), (3, .int (nI i))], [.ref (q 13), .int (nI i), .ref (q 14)], M1)) rfl hR1 rfl rfl ?_
        refine ps_st (S' := (71, [(0, .ref m0), (2, .int 0), (3, .int (nI i))], [.int (nI i), .ref (q 13), .int (nI i), .ref (q 14)], M1)) rfl rfl rfl ?_
        refine pr_ld (a := 13) (j := i) (y := (f i)) (S' := (72, [(0, .ref m0), (2, .int 0), (3, .int (nI i))], [.int (f i), .int (nI i), .ref (q 14)], M1)) rfl hR1 rfl (by omega) (fun _ => (hB1 i (by omega)).1) rfl (fun i1_71 => ?_)
        refine pr_st (a := 14) (j := i) rfl hR1 rfl (by omega) (fun M38 R39 i1_72 hR40 hS41 => ?_)
        have hB_42 := hB1.mono (fun _ _ => rfl) (rRx hS41 (by decide))
        have hX_43 := hX1.mono (fun _ _ => rfl) (rRx hS41 (by decide))
        have hER44 := hER1.st hS41 (by decide)
        show pl _ _ _ (73, [(0, .ref m0), (2, .int 0), (3, .int (nI i))], [], M38) _
        have hD_45 : BX 14 (i + 1) f I1 R39 := BX.st hD1 hS41 (hB1 i (by omega)).2 rfl
        refine ps_st (S' := (76, [(3, .int ((nI i) + 1)), (0, .ref m0), (2, .int 0)], [], M38)) rfl rfl rfl ?_
        rw [nI_add1 (p := i) (k := 1) (x := 1) rfl (by omega)]
        show pl _ _ _ (_, [(3, .int (nI (i + 1))), (0, .ref m0), (2, .int 0)], [], M38) _
        refine ps_st (S' := (53, [(0, .ref m0), (2, .int 0), (3, .int (nI (i + 1)))], [], M38)) rfl rfl rfl ?_
        exact ih (i + 1) M38 I1 R39 hR40 hEI1 hER44 hl17 hl73 hB_42 hD_45 hX_43 (by omega) (hr)
  refine ps_st (S' := (1, [(0, .ref m0)], [.ref m0], M)) rfl rfl rfl ?_
  refine ps_st (S' := (2, [(0, .ref m0)], [.int 0, .ref m0], M)) rfl rfl rfl ?_
  refine pr_put (j := 0) rfl hR rfl (fun M46 I47 hR48 hi50 hI51 => ?_)
  have hi52 := (hI51 49 (by decide)).trans hi49
  have hi53 := (hI51 17 (by decide)).trans hi17
  have hi54 := (hI51 18 (by decide)).trans hi18
  have hB_55 := hB.mono (pIx hI51 (by decide)) (fun _ _ => rfl)
  have hK_56 := hK.mono (pIx hI51 (by decide)) (fun _ _ => rfl)
  have hQ_57 := hQ.mono (pIx hI51 (by decide)) (fun _ _ => rfl)
  have hEI58 := hEI.put hI51 (by decide)
  show pl _ _ _ (5, [(0, .ref m0)], [], M46) _
  refine ps_st (S' := (6, [(0, .ref m0)], [.ref m0], M46)) rfl rfl rfl ?_
  refine ps_st (S' := (7, [(0, .ref m0)], [.ref m0, .ref m0], M46)) rfl rfl rfl ?_
  refine pr_ref (j := 13) (S' := (10, [(0, .ref m0)], [.ref (q 13), .ref m0], M46)) rfl hR48 rfl rfl ?_
  refine ps_st (S' := (11, [(0, .ref m0)], [.ref m0, .ref (q 13), .ref m0], M46)) rfl rfl rfl ?_
  refine pr_int (j := 17) (S' := (14, [(0, .ref m0)], [.int (nI n), .ref (q 13), .ref m0], M46)) rfl hR48 rfl hi53 rfl ?_
  refine pl_call (a := [.ref m0, .ref (q 13), .int (nI n)]) (rest := []) rfl rfl rfl (rd_parse13b (n := n) (f := f) hR48 hi52 hB_55 hK_56 (hn)) (fun v59 M60 q61 => ?_)
  rcases q61 with q61 | q61
  · skip
    obtain ⟨I62, R63, q14_s, rfl, hR64, hI65, hX66, hX_67⟩ := q61
    have hi68 := (hI65 49 (by decide)).trans hi52
    have hi69 := (hI65 17 (by decide)).trans hi53
    have hi70 := (hI65 18 (by decide)).trans hi54
    have hi71 := (hI65 0 (by decide)).trans hi50
    have hB_72 := hB_55.mono (cIx hI65 (by decide)) (cRx hX66 (by decide))
    have hK_73 := hK_56.mono (cIx hI65 (by decide)) (cRx hX66 (by decide))
    have hQ_74 := hQ_57.mono (cIx hI65 (by decide)) (cRx hX66 (by decide))
    have hEI75 := hEI58.tr hI65 (by decide)
    have hER76 := hER.tr hX66 (by decide)
    show pl _ _ _ (17, [(0, .ref m0)], [.int 1], M60) _
    refine ps_st (S' := (18, [(1, .int 1), (0, .ref m0)], [], M60)) rfl rfl rfl ?_
    refine ps_st (S' := (19, [(1, .int 1), (0, .ref m0)], [.ref m0], M60)) rfl rfl rfl ?_
    refine ps_st (S' := (20, [(1, .int 1), (0, .ref m0)], [.int 1, .ref m0], M60)) rfl rfl rfl ?_
    refine ps_if (S1 := (27, [(1, .int 1), (0, .ref m0)], [.ref m0], M60)) (S2 := (23, [(1, .int 1), (0, .ref m0)], [.ref m0], M60)) rfl rfl rfl (fun c_20 => ?_) (fun c_20 => ?_)
    · exact absurd (of_decide_eq_true c_20) (by decide)
    refine ps_st (S' := (24, [(1, .int 1), (0, .ref m0)], [.int (-1), .ref m0], M60)) rfl rfl rfl ?_
    refine ps_st (S' := (31, [(0, .ref m0), (1, .int 1)], [.int (-1), .ref m0], M60)) rfl rfl rfl ?_
    refine pr_put (j := 73) rfl hR64 rfl (fun M77 I78 hR79 hi80 hI81 => ?_)
    have hi82 := (hI81 49 (by decide)).trans hi68
    have hi83 := (hI81 17 (by decide)).trans hi69
    have hi84 := (hI81 18 (by decide)).trans hi70
    have hi85 := (hI81 0 (by decide)).trans hi71
    have hB_86 := hB_72.mono (pIx hI81 (by decide)) (fun _ _ => rfl)
    have hK_87 := hK_73.mono (pIx hI81 (by decide)) (fun _ _ => rfl)
    have hQ_88 := hQ_74.mono (pIx hI81 (by decide)) (fun _ _ => rfl)
    have hX_89 := hX_67.mono (pIx hI81 (by decide)) (fun _ _ => rfl)
    have hEI90 := hEI75.put hI81 (by decide)
    show pl _ _ _ (34, [(0, .ref m0), (1, .int 1)], [], M77) _
    refine ps_st (S' := (35, [(0, .ref m0), (1, .int 1)], [.int 1], M77)) rfl rfl rfl ?_
    refine ps_if (S1 := (42, [(0, .ref m0), (1, .int 1)], [], M77)) (S2 := (38, [(0, .ref m0), (1, .int 1)], [], M77)) rfl rfl rfl (fun c_35 => ?_) (fun c_35 => ?_)
    · exact absurd (of_decide_eq_true c_35) (by decide)
    refine ps_st (S' := (39, [(0, .ref m0), (1, .int 1)], [.int 0], M77)) rfl rfl rfl ?_
    refine ps_st (S' := (46, [(0, .ref m0), (1, .int 1)], [.int 0], M77)) rfl rfl rfl ?_
    refine ps_st (S' := (47, [(2, .int 0), (0, .ref m0), (1, .int 1)], [], M77)) rfl rfl rfl ?_
    refine ps_st (S' := (48, [(2, .int 0), (0, .ref m0), (1, .int 1)], [.int 1], M77)) rfl rfl rfl ?_
    refine ps_if (S1 := (90, [(2, .int 0), (0, .ref m0), (1, .int 1)], [], M77)) (S2 := (51, [(2, .int 0), (0, .ref m0), (1, .int 1)], [], M77)) rfl rfl rfl (fun c_48 => ?_) (fun c_48 => ?_)
    · exact absurd (of_decide_eq_true c_48) (by decide)
    refine ps_st (S' := (52, [(2, .int 0), (0, .ref m0), (1, .int 1)], [.int 0], M77)) rfl rfl rfl ?_
    refine ps_st (S' := (53, [(0, .ref m0), (2, .int 0), (3, .int 0)], [], M77)) rfl rfl rfl ?_
    have hD0 : BX 14 0 f I78 R63 := fun i9 h9 => absurd h9 (Nat.not_lt_zero _)
    exact (LL kf) (0) M77 I78 R63 hR79 hEI90 hER76 hi83 hi80 hB_86 hD0 hX_89 (by omega) (q14_s)
  · skip
    obtain ⟨e991, I92, R93, q14_s, rfl, hR94, hI95, hX96, hi97, hi98⟩ := q61
    have hi99 := (hI95 49 (by decide)).trans hi52
    have hi100 := (hI95 17 (by decide)).trans hi53
    have hi101 := (hI95 18 (by decide)).trans hi54
    have hi102 := (hI95 0 (by decide)).trans hi50
    have hB_103 := hB_55.mono (cIx hI95 (by decide)) (cRx hX96 (by decide))
    have hK_104 := hK_56.mono (cIx hI95 (by decide)) (cRx hX96 (by decide))
    have hQ_105 := hQ_57.mono (cIx hI95 (by decide)) (cRx hX96 (by decide))
    have hEI106 := hEI58.tr hI95 (by decide)
    have hER107 := hER.tr hX96 (by decide)
    show pl _ _ _ (17, [(0, .ref m0)], [.int 0], M60) _
    refine ps_st (S' := (18, [(1, .int 0), (0, .ref m0)], [], M60)) rfl rfl rfl ?_
    refine ps_st (S' := (19, [(1, .int 0), (0, .ref m0)], [.ref m0], M60)) rfl rfl rfl ?_
    refine ps_st (S' := (20, [(1, .int 0), (0, .ref m0)], [.int 0, .ref m0], M60)) rfl rfl rfl ?_
    refine ps_if (S1 := (27, [(1, .int 0), (0, .ref m0)], [.ref m0], M60)) (S2 := (23, [(1, .int 0), (0, .ref m0)], [.ref m0], M60)) rfl rfl rfl (fun c_20 => ?_) (fun c_20 => ?_)
    rotate_left
    · exact absurd (by decide) (of_decide_eq_false c_20)
    refine ps_st (S' := (28, [(1, .int 0), (0, .ref m0)], [.ref m0, .ref m0], M60)) rfl rfl rfl ?_
    refine pr_int (j := 48) (S' := (31, [(0, .ref m0), (1, .int 0)], [.int (nI e991.2), .ref m0], M60)) rfl hR94 rfl hi98 rfl ?_
    refine pr_put (j := 73) rfl hR94 rfl (fun M108 I109 hR110 hi111 hI112 => ?_)
    have hi113 := (hI112 49 (by decide)).trans hi99
    have hi114 := (hI112 17 (by decide)).trans hi100
    have hi115 := (hI112 18 (by decide)).trans hi101
    have hi116 := (hI112 0 (by decide)).trans hi102
    have hi117 := (hI112 47 (by decide)).trans hi97
    have hi118 := (hI112 48 (by decide)).trans hi98
    have hB_119 := hB_103.mono (pIx hI112 (by decide)) (fun _ _ => rfl)
    have hK_120 := hK_104.mono (pIx hI112 (by decide)) (fun _ _ => rfl)
    have hQ_121 := hQ_105.mono (pIx hI112 (by decide)) (fun _ _ => rfl)
    have hEI122 := hEI106.put hI112 (by decide)
    show pl _ _ _ (34, [(0, .ref m0), (1, .int 0)], [], M108) _
    refine ps_st (S' := (35, [(0, .ref m0), (1, .int 0)], [.int 0], M108)) rfl rfl rfl ?_
    refine ps_if (S1 := (42, [(0, .ref m0), (1, .int 0)], [], M108)) (S2 := (38, [(0, .ref m0), (1, .int 0)], [], M108)) rfl rfl rfl (fun c_35 => ?_) (fun c_35 => ?_)
    rotate_left
    · exact absurd (by decide) (of_decide_eq_false c_35)
    refine ps_st (S' := (43, [(0, .ref m0), (1, .int 0)], [.ref m0], M108)) rfl rfl rfl ?_
    refine pr_int (j := 47) (S' := (46, [(0, .ref m0), (1, .int 0)], [.int (nI e991.1)], M108)) rfl hR110 rfl hi117 rfl ?_
    refine ps_st (S' := (47, [(2, .int (nI e991.1)), (0, .ref m0), (1, .int 0)], [], M108)) rfl rfl rfl ?_
    refine ps_st (S' := (48, [(2, .int (nI e991.1)), (0, .ref m0), (1, .int 0)], [.int 0], M108)) rfl rfl rfl ?_
    refine ps_if (S1 := (90, [(2, .int (nI e991.1)), (0, .ref m0), (1, .int 0)], [], M108)) (S2 := (51, [(2, .int (nI e991.1)), (0, .ref m0), (1, .int 0)], [], M108)) rfl rfl rfl (fun c_48 => ?_) (fun c_48 => ?_)
    rotate_left
    · exact absurd (by decide) (of_decide_eq_false c_48)
    refine ps_st (S' := (91, [(2, .int (nI e991.1)), (0, .ref m0), (1, .int 0)], [.ref m0], M108)) rfl rfl rfl ?_
    refine pr_int (j := 18) (S' := (94, [(2, .int (nI e991.1)), (0, .ref m0), (1, .int 0)], [.int (nI n2)], M108)) rfl hR110 rfl hi115 rfl ?_
    refine ps_if (S1 := (110, [(0, .ref m0), (2, .int (nI e991.1))], [], M108)) (S2 := (97, [(2, .int (nI e991.1)), (0, .ref m0), (1, .int 0)], [], M108)) rfl rfl rfl (fun c_94 => ?_) (fun c_94 => ?_)
    · exact absurd (of_decide_eq_true c_94) (show ¬ ((nI n2) < 0) from fun h9 => absurd ((lt_nI (p := n2) (n := 0) (by omega) (by decide)).mp h9) (by omega))
    refine ps_st (S' := (98, [(2, .int (nI e991.1)), (0, .ref m0), (1, .int 0)], [.ref m0], M108)) rfl rfl rfl ?_
    refine ps_st (S' := (99, [(2, .int (nI e991.1)), (0, .ref m0), (1, .int 0)], [.ref m0, .ref m0], M108)) rfl rfl rfl ?_
    refine pr_ref (j := 14) (S' := (102, [(2, .int (nI e991.1)), (0, .ref m0), (1, .int 0)], [.ref (q 14), .ref m0], M108)) rfl hR110 rfl rfl ?_
    refine ps_st (S' := (103, [(2, .int (nI e991.1)), (0, .ref m0), (1, .int 0)], [.ref m0, .ref (q 14), .ref m0], M108)) rfl rfl rfl ?_
    refine pr_int (j := 18) (S' := (106, [(2, .int (nI e991.1)), (0, .ref m0), (1, .int 0)], [.int (nI n2), .ref (q 14), .ref m0], M108)) rfl hR110 rfl hi115 rfl ?_
    refine pl_call (a := [.ref m0, .ref (q 14), .int (nI n2)]) (rest := []) rfl rfl rfl (rd_parse14b (n := n2) (f := f2) hR110 hi113 hQ_121 hK_120 (hk2)) (fun v123 M124 q125 => ?_)
    rcases q125 with q125 | q125
    · skip
      obtain ⟨I126, R127, q106_s, rfl, hR128, hI129, hX130, hX_131⟩ := q125
      have hi132 := (hI129 49 (by decide)).trans hi113
      have hi133 := (hI129 17 (by decide)).trans hi114
      have hi134 := (hI129 18 (by decide)).trans hi115
      have hi135 := (hI129 0 (by decide)).trans hi116
      have hi136 := (hI129 73 (by decide)).trans hi111
      have hB_137 := hB_119.mono (cIx hI129 (by decide)) (cRx hX130 (by decide))
      have hK_138 := hK_120.mono (cIx hI129 (by decide)) (cRx hX130 (by decide))
      have hQ_139 := hQ_121.mono (cIx hI129 (by decide)) (cRx hX130 (by decide))
      have hEI140 := hEI122.tr hI129 (by decide)
      have hER141 := hER107.tr hX130 (by decide)
      show pl _ _ _ (109, [(2, .int (nI e991.1)), (0, .ref m0), (1, .int 0)], [.int 1], M124) _
      refine ps_st (S' := (110, [(0, .ref m0), (2, .int (nI e991.1))], [], M124)) rfl rfl rfl ?_
      refine ps_st (S' := (111, [(0, .ref m0), (2, .int (nI e991.1))], [.ref m0], M124)) rfl rfl rfl ?_
      refine ps_st (S' := (112, [(0, .ref m0), (2, .int (nI e991.1))], [.int (-1), .ref m0], M124)) rfl rfl rfl ?_
      refine pr_put (j := 74) rfl hR128 rfl (fun M142 I143 hR144 hi145 hI146 => ?_)
      have hi147 := (hI146 49 (by decide)).trans hi132
      have hi148 := (hI146 17 (by decide)).trans hi133
      have hi149 := (hI146 18 (by decide)).trans hi134
      have hi150 := (hI146 0 (by decide)).trans hi135
      have hi151 := (hI146 73 (by decide)).trans hi136
      have hB_152 := hB_137.mono (pIx hI146 (by decide)) (fun _ _ => rfl)
      have hK_153 := hK_138.mono (pIx hI146 (by decide)) (fun _ _ => rfl)
      have hQ_154 := hQ_139.mono (pIx hI146 (by decide)) (fun _ _ => rfl)
      have hX_155 := hX_131.mono (pIx hI146 (by decide)) (fun _ _ => rfl)
      have hEI156 := hEI140.put hI146 (by decide)
      show pl _ _ _ (115, [(0, .ref m0), (2, .int (nI e991.1))], [], M142) _
      refine ps_st (S' := (116, [(0, .ref m0), (2, .int (nI e991.1))], [.ref m0], M142)) rfl rfl rfl ?_
      refine ps_st (S' := (117, [(0, .ref m0), (2, .int (nI e991.1))], [.int 0, .ref m0], M142)) rfl rfl rfl ?_
      refine pr_put (j := 17) rfl hR144 rfl (fun M157 I158 hR159 hi160 hI161 => ?_)
      have hi162 := (hI161 49 (by decide)).trans hi147
      have hi163 := (hI161 18 (by decide)).trans hi149
      have hi164 := (hI161 0 (by decide)).trans hi150
      have hi165 := (hI161 73 (by decide)).trans hi151
      have hi166 := (hI161 74 (by decide)).trans hi145
      have hB_167 := hB_152.mono (pIx hI161 (by decide)) (fun _ _ => rfl)
      have hK_168 := hK_153.mono (pIx hI161 (by decide)) (fun _ _ => rfl)
      have hQ_169 := hQ_154.mono (pIx hI161 (by decide)) (fun _ _ => rfl)
      have hX_170 := hX_155.mono (pIx hI161 (by decide)) (fun _ _ => rfl)
      have hEI171 := hEI156.put hI161 (by decide)
      show pl _ _ _ (120, [(0, .ref m0), (2, .int (nI e991.1))], [], M157) _
      refine ps_st (S' := (121, [(0, .ref m0), (2, .int (nI e991.1))], [.int (nI e991.1)], M157)) rfl rfl rfl ?_
      exact ps_reti rfl (Or.inr ⟨e991, I158, R127, q14_s, rfl, hR159, hEI171, hER141, hi165, hi160, hi163, hi166, hX_170, hQ_169⟩)
    · skip
      obtain ⟨e9172, I173, R174, q106_s, rfl, hR175, hI176, hX177, hi178, hi179⟩ := q125
      have hi180 := (hI176 49 (by decide)).trans hi113
      have hi181 := (hI176 17 (by decide)).trans hi114
      have hi182 := (hI176 18 (by decide)).trans hi115
      have hi183 := (hI176 0 (by decide)).trans hi116
      have hi184 := (hI176 73 (by decide)).trans hi111
      have hB_185 := hB_119.mono (cIx hI176 (by decide)) (cRx hX177 (by decide))
      have hK_186 := hK_120.mono (cIx hI176 (by decide)) (cRx hX177 (by decide))
      have hQ_187 := hQ_121.mono (cIx hI176 (by decide)) (cRx hX177 (by decide))
      have hEI188 := hEI122.tr hI176 (by decide)
      have hER189 := hER107.tr hX177 (by decide)
      show pl _ _ _ (109, [(2, .int (nI e991.1)), (0, .ref m0), (1, .int 0)], [.int 0], M124) _
      exact absurd (hr2.symm.trans q106_s) (fun h9 => by cases h9)
end
section
/-! an entry of the pool, as both sides tell it (my own text) -/
section ENA
variable {f : Nat → Int32} {n : Nat} {E : List (Nat × Nat)} {k mj : Nat}
/-- part 0 of entry j is its tag, 1 and 2 its indexes -/
def enN (f : Nat → Int32) (E : List (Nat × Nat)) (j p : Nat) : Nat := if p = 0 then tg f E j else if p = 1 then fi f E j else se f E j
def enI (f : Nat → Int32) (E : List (Nat × Nat)) (N : Nat) (k p : Int32) : Int32 := if k < 0 ∨ nI N ≤ k then -1 else nI (enN f E k.toNatClampNeg p.toNatClampNeg)
/-- what is kept tells it -/
def enK (ko : Option (Nat × (Nat → Int32))) (k p : Int32) : Int32 := match ko with
  | none => -1
  | some r => match s_whole r.2 r.1 with
    | .inl _ => -1
    | .inr y => enI r.2 y.1 (by2 r.2 8) k p
theorem enK_is {r : Nat × (Nat → Int32)} {k p : Int32} {y : Nat × Nat × Nat × Nat} (h : s_whole r.2 r.1 = .inr (E, y)) : enK (some r) k p = enI r.2 E (by2 r.2 8) k p := by
  show (match s_whole r.2 r.1 with | .inl _ => -1 | .inr y => enI r.2 y.1 (by2 r.2 8) k p) = _
  rw [h]
theorem i32_3 {p : Int32} (h0 : ¬ p < 0) (h1 : p ≤ 2) : p = 0 ∨ p = 1 ∨ p = 2 := by
  have a := Int32.le_iff_toInt_le.mp (Int32.not_lt.mp h0)
  have b := Int32.le_iff_toInt_le.mp h1
  have e0 : (0 : Int32).toInt = 0 := rfl
  have e1 : (1 : Int32).toInt = 1 := rfl
  have e2 : (2 : Int32).toInt = 2 := rfl
  rcases (show p.toInt = 0 ∨ p.toInt = 1 ∨ p.toInt = 2 by omega) with h | h | h
  · exact Or.inl (Int32.toInt_inj.mp (by omega))
  · exact Or.inr (Or.inl (Int32.toInt_inj.mp (by omega)))
  · exact Or.inr (Or.inr (Int32.toInt_inj.mp (by omega)))
/-- a number that isn't below 0 -/
theorem i32_nn {k : Int32} (h : ¬ k < 0) : k = nI k.toNatClampNeg := (mi_nI h).symm
theorem i32_in {N : Nat} {k : Int32} (hN : N < 65536) (h : ¬ (k < 0 ∨ nI N ≤ k)) : k = nI k.toNatClampNeg ∧ k.toNatClampNeg < N := by
  have h0 : ¬ k < 0 := fun q => h (Or.inl q)
  have e := i32_nn h0
  refine ⟨e, ?_⟩
  have h1 := Int32.lt_iff_toInt_lt.mp (Int32.not_le.mp (fun q => h (Or.inr q)))
  rw [nI_val (by omega)] at h1
  have h2 := Int32.le_iff_toInt_le.mp (Int32.not_lt.mp h0)
  have e0 : (0 : Int32).toInt = 0 := rfl
  show k.toInt.toNat < N
  omega
end ENA
set_option maxHeartbeats 1000000 in
theorem dk_entry0 {g : xe_G} {M : mi_H} {o ca fl : Nat} {cn wp k p : Int32} (h_o : M.1 o = some (ob 11 [.ref ca, .int cn, .ref fl, .null, .int wp])) (hp0 : ¬ p < 0) (hp1 : p ≤ 2) : pt (mT g) 8 [.ref o, .int k, .int p] M (fun v M' => (v = some (.int (-1)) ∧ M = M')) := by
  refine pt_in (b := mb_8 g) rfl (fun kf => ?_)
  show pl (mT g) kf (mb_8 g).2 (0, [(0, .ref o), (1, .int k), (2, .int p)], [], M) _
  refine ps_st (S' := (1, [(0, .ref o), (1, .int k), (2, .int p)], [.int p], M)) rfl rfl rfl ?_
  refine ps_if (S1 := (9, [(0, .ref o), (1, .int k), (2, .int p)], [], M)) (S2 := (4, [(0, .ref o), (1, .int k), (2, .int p)], [], M)) rfl rfl rfl (fun c_1 => ?_) (fun c_1 => ?_)
  · exact absurd (of_decide_eq_true c_1) (hp0)
  refine ps_st (S' := (5, [(0, .ref o), (1, .int k), (2, .int p)], [.int p], M)) rfl rfl rfl ?_
  refine ps_st (S' := (6, [(0, .ref o), (1, .int k), (2, .int p)], [.int 2, .int p], M)) rfl rfl rfl ?_
  refine ps_if2 (S1 := (19, [(0, .ref o), (1, .int k), (2, .int p)], [], M)) (S2 := (9, [(0, .ref o), (1, .int k), (2, .int p)], [], M)) rfl rfl rfl (fun c_6 => ?_) (fun c_6 => ?_)
  rotate_left
  · exact absurd (hp1) (of_decide_eq_false c_6)
  refine ps_st (S' := (20, [(0, .ref o), (1, .int k), (2, .int p)], [.ref o], M)) rfl rfl rfl ?_
  refine ps_get (S' := (23, [(0, .ref o), (1, .int k), (2, .int p)], [.null], M)) rfl h_o rfl rfl ?_
  refine ps_st (S' := (44, [], [], M)) rfl rfl rfl ?_
  refine ps_st (S' := (45, [], [.int (-1)], M)) rfl rfl rfl ?_
  exact ps_ret rfl rfl (⟨rfl, rfl⟩)
set_option maxHeartbeats 1000000 in
theorem dk_entryN {g : xe_G} {M : mi_H} {f : Nat → Int32} {n N q : Nat} {E : List (Nat × Nat)} {o ca fl c b : Nat} {cn wp : Int32} {w : List Value} {k p : Int32} (h_o : M.1 o = some (ob 11 [.ref ca, .int cn, .ref fl, .ref c, .int wp])) (h_c : M.1 c = some (ob 3 (.ref b :: .ref q :: w))) (hp0 : ¬ p < 0) (hp1 : p ≤ 2) (hV : PV g f n N E q M) (hk : k < 0 ∨ nI N ≤ k) : pt (mT g) 8 [.ref o, .int k, .int p] M (fun v M' => (v = some (.int (-1)) ∧ M = M')) := by
  refine pt_in (b := mb_8 g) rfl (fun kf => ?_)
  show pl (mT g) kf (mb_8 g).2 (0, [(0, .ref o), (1, .int k), (2, .int p)], [], M) _
  obtain ⟨hL9, H, m, qq, F, cc, hP9, -, -, hb9, -⟩ := id hV
  have h_q := hP9.1
  have hN9 := hb9.2.2.1
  refine ps_st (S' := (1, [(0, .ref o), (1, .int k), (2, .int p)], [.int p], M)) rfl rfl rfl ?_
  refine ps_if (S1 := (9, [(0, .ref o), (1, .int k), (2, .int p)], [], M)) (S2 := (4, [(0, .ref o), (1, .int k), (2, .int p)], [], M)) rfl rfl rfl (fun c_1 => ?_) (fun c_1 => ?_)
  · exact absurd (of_decide_eq_true c_1) (hp0)
  refine ps_st (S' := (5, [(0, .ref o), (1, .int k), (2, .int p)], [.int p], M)) rfl rfl rfl ?_
  refine ps_st (S' := (6, [(0, .ref o), (1, .int k), (2, .int p)], [.int 2, .int p], M)) rfl rfl rfl ?_
  refine ps_if2 (S1 := (19, [(0, .ref o), (1, .int k), (2, .int p)], [], M)) (S2 := (9, [(0, .ref o), (1, .int k), (2, .int p)], [], M)) rfl rfl rfl (fun c_6 => ?_) (fun c_6 => ?_)
  rotate_left
  · exact absurd (hp1) (of_decide_eq_false c_6)
  refine ps_st (S' := (20, [(0, .ref o), (1, .int k), (2, .int p)], [.ref o], M)) rfl rfl rfl ?_
  refine ps_get (S' := (23, [(0, .ref o), (1, .int k), (2, .int p)], [.ref c], M)) rfl h_o rfl rfl ?_
  refine ps_st (S' := (26, [(0, .ref o), (1, .int k), (2, .int p)], [], M)) rfl rfl rfl ?_
  refine ps_st (S' := (27, [(0, .ref o), (1, .int k), (2, .int p)], [.int k], M)) rfl rfl rfl ?_
  refine ps_if (S1 := (44, [], [], M)) (S2 := (30, [(0, .ref o), (1, .int k), (2, .int p)], [], M)) rfl rfl rfl (fun c_27 => ?_) (fun c_27 => ?_)
  · have c_27 : k < 0 := of_decide_eq_true c_27
    refine ps_st (S' := (45, [], [.int (-1)], M)) rfl rfl rfl ?_
    exact ps_ret rfl rfl (⟨rfl, rfl⟩)
  · have c_27 : ¬ (k < 0) := of_decide_eq_false c_27
    refine ps_st (S' := (31, [(0, .ref o), (1, .int k), (2, .int p)], [.int k], M)) rfl rfl rfl ?_
    refine ps_st (S' := (32, [(0, .ref o), (1, .int k), (2, .int p)], [.ref o, .int k], M)) rfl rfl rfl ?_
    refine ps_get (S' := (35, [(0, .ref o), (1, .int k), (2, .int p)], [.ref c, .int k], M)) rfl h_o rfl rfl ?_
    refine ps_get (S' := (38, [(0, .ref o), (1, .int k), (2, .int p)], [.ref q, .int k], M)) rfl h_c rfl rfl ?_
    refine ps_get (S' := (41, [(0, .ref o), (1, .int k), (2, .int p)], [.int (nI N), .int k], M)) rfl h_q rfl rfl ?_
    refine ps_if2 (S1 := (46, [(0, .ref o), (1, .int k), (2, .int p)], [], M)) (S2 := (44, [], [], M)) rfl rfl rfl (fun c_41 => ?_) (fun c_41 => ?_)
    · exact absurd (of_decide_eq_true c_41) (Int32.not_lt.mpr (hk.resolve_left c_27))
    refine ps_st (S' := (45, [], [.int (-1)], M)) rfl rfl rfl ?_
    exact ps_ret rfl rfl (⟨rfl, rfl⟩)
set_option maxHeartbeats 1000000 in
theorem dk_entry_0 {g : xe_G} {M : mi_H} {f : Nat → Int32} {n N q : Nat} {E : List (Nat × Nat)} {o ca fl c b : Nat} {cn wp : Int32} {w : List Value} {j : Nat} (h_o : M.1 o = some (ob 11 [.ref ca, .int cn, .ref fl, .ref c, .int wp])) (h_c : M.1 c = some (ob 3 (.ref b :: .ref q :: w))) (hV : PV g f n N E q M) (hj : j < N) : pt (mT g) 8 [.ref o, .int (nI j), .int 0] M (fun v M' => (v = some (.int (nI (tg f E j))) ∧ M = M')) := by
  refine pt_in (b := mb_8 g) rfl (fun kf => ?_)
  show pl (mT g) kf (mb_8 g).2 (0, [(0, .ref o), (1, .int (nI j)), (2, .int 0)], [], M) _
  obtain ⟨hL9, H, m, qq, F, cc, hP9, -, -, hb9, -⟩ := id hV
  have h_q := hP9.1
  have hN9 := hb9.2.2.1
  refine ps_st (S' := (1, [(0, .ref o), (1, .int (nI j)), (2, .int 0)], [.int 0], M)) rfl rfl rfl ?_
  refine ps_if (S1 := (9, [(0, .ref o), (1, .int (nI j)), (2, .int 0)], [], M)) (S2 := (4, [(0, .ref o), (1, .int (nI j)), (2, .int 0)], [], M)) rfl rfl rfl (fun c_1 => ?_) (fun c_1 => ?_)
  · exact absurd (of_decide_eq_true c_1) (by decide)
  refine ps_st (S' := (5, [(0, .ref o), (1, .int (nI j)), (2, .int 0)], [.int 0], M)) rfl rfl rfl ?_
  refine ps_st (S' := (6, [(0, .ref o), (1, .int (nI j)), (2, .int 0)], [.int 2, .int 0], M)) rfl rfl rfl ?_
  refine ps_if2 (S1 := (19, [(0, .ref o), (1, .int (nI j)), (2, .int 0)], [], M)) (S2 := (9, [(0, .ref o), (1, .int (nI j)), (2, .int 0)], [], M)) rfl rfl rfl (fun c_6 => ?_) (fun c_6 => ?_)
  rotate_left
  · exact absurd (by decide) (of_decide_eq_false c_6)
  refine ps_st (S' := (20, [(0, .ref o), (1, .int (nI j)), (2, .int 0)], [.ref o], M)) rfl rfl rfl ?_
  refine ps_get (S' := (23, [(0, .ref o), (1, .int (nI j)), (2, .int 0)], [.ref c], M)) rfl h_o rfl rfl ?_
  refine ps_st (S' := (26, [(0, .ref o), (1, .int (nI j)), (2, .int 0)], [], M)) rfl rfl rfl ?_
  refine ps_st (S' := (27, [(0, .ref o), (1, .int (nI j)), (2, .int 0)], [.int (nI j)], M)) rfl rfl rfl ?_
  refine ps_if (S1 := (44, [], [], M)) (S2 := (30, [(0, .ref o), (1, .int (nI j)), (2, .int 0)], [], M)) rfl rfl rfl (fun c_27 => ?_) (fun c_27 => ?_)
  · exact absurd (of_decide_eq_true c_27) (show ¬ ((nI j) < 0) from fun h9 => absurd ((lt_nI (p := j) (n := 0) (by omega) (by decide)).mp h9) (by omega))
  refine ps_st (S' := (31, [(0, .ref o), (1, .int (nI j)), (2, .int 0)], [.int (nI j)], M)) rfl rfl rfl ?_
  refine ps_st (S' := (32, [(0, .ref o), (1, .int (nI j)), (2, .int 0)], [.ref o, .int (nI j)], M)) rfl rfl rfl ?_
  refine ps_get (S' := (35, [(0, .ref o), (1, .int (nI j)), (2, .int 0)], [.ref c, .int (nI j)], M)) rfl h_o rfl rfl ?_
  refine ps_get (S' := (38, [(0, .ref o), (1, .int (nI j)), (2, .int 0)], [.ref q, .int (nI j)], M)) rfl h_c rfl rfl ?_
  refine ps_get (S' := (41, [(0, .ref o), (1, .int (nI j)), (2, .int 0)], [.int (nI N), .int (nI j)], M)) rfl h_q rfl rfl ?_
  refine ps_if2 (S1 := (46, [(0, .ref o), (1, .int (nI j)), (2, .int 0)], [], M)) (S2 := (44, [], [], M)) rfl rfl rfl (fun c_41 => ?_) (fun c_41 => ?_)
  rotate_left
  · exact absurd ((lt_nI (by omega) (by omega)).mpr hj) (of_decide_eq_false c_41)
  refine ps_st (S' := (47, [(0, .ref o), (1, .int (nI j)), (2, .int 0)], [.int 0], M)) rfl rfl rfl ?_
  refine ps_if (S1 := (62, [(0, .ref o), (1, .int (nI j)), (2, .int 0)], [], M)) (S2 := (50, [(0, .ref o), (1, .int (nI j)), (2, .int 0)], [], M)) rfl rfl rfl (fun c_47 => ?_) (fun c_47 => ?_)
  · exact absurd (of_decide_eq_true c_47) (by decide)
  refine ps_st (S' := (51, [(0, .ref o), (1, .int (nI j)), (2, .int 0)], [.ref o], M)) rfl rfl rfl ?_
  refine ps_get (S' := (54, [(0, .ref o), (1, .int (nI j)), (2, .int 0)], [.ref c], M)) rfl h_o rfl rfl ?_
  refine ps_get (S' := (57, [(0, .ref o), (1, .int (nI j)), (2, .int 0)], [.ref q], M)) rfl h_c rfl rfl ?_
  refine ps_st (S' := (58, [(0, .ref o), (1, .int (nI j)), (2, .int 0)], [.int (nI j), .ref q], M)) rfl rfl rfl ?_
  refine pl_call (a := [.ref q, .int (nI j)]) (rest := []) rfl rfl rfl (dy_tagOf (f := f) (n := n) (N := N) (q := q) (E := E) (j := j) (hV) (by omega)) (fun v1 M2 q3 => ?_)
  obtain ⟨rfl, rfl⟩ := q3
  show pl _ _ _ (61, [(0, .ref o), (1, .int (nI j)), (2, .int 0)], [.int (nI (tg f E j))], M) _
  exact ps_reti rfl (⟨rfl, rfl⟩)
set_option maxHeartbeats 1000000 in
theorem dk_entry_1 {g : xe_G} {M : mi_H} {f : Nat → Int32} {n N q : Nat} {E : List (Nat × Nat)} {o ca fl c b : Nat} {cn wp : Int32} {w : List Value} {j : Nat} (h_o : M.1 o = some (ob 11 [.ref ca, .int cn, .ref fl, .ref c, .int wp])) (h_c : M.1 c = some (ob 3 (.ref b :: .ref q :: w))) (hV : PV g f n N E q M) (hj : j < N) : pt (mT g) 8 [.ref o, .int (nI j), .int 1] M (fun v M' => (v = some (.int (nI (fi f E j))) ∧ M = M')) := by
  refine pt_in (b := mb_8 g) rfl (fun kf => ?_)
  show pl (mT g) kf (mb_8 g).2 (0, [(0, .ref o), (1, .int (nI j)), (2, .int 1)], [], M) _
  obtain ⟨hL9, H, m, qq, F, cc, hP9, -, -, hb9, -⟩ := id hV
  have h_q := hP9.1
  have hN9 := hb9.2.2.1
  refine ps_st (S' := (1, [(0, .ref o), (1, .int (nI j)), (2, .int 1)], [.int 1], M)) rfl rfl rfl ?_
  refine ps_if (S1 := (9, [(0, .ref o), (1, .int (nI j)), (2, .int 1)], [], M)) (S2 := (4, [(0, .ref o), (1, .int (nI j)), (2, .int 1)], [], M)) rfl rfl rfl (fun c_1 => ?_) (fun c_1 => ?_)
  · exact absurd (of_decide_eq_true c_1) (by decide)
  refine ps_st (S' := (5, [(0, .ref o), (1, .int (nI j)), (2, .int 1)], [.int 1], M)) rfl rfl rfl ?_
  refine ps_st (S' := (6, [(0, .ref o), (1, .int (nI j)), (2, .int 1)], [.int 2, .int 1], M)) rfl rfl rfl ?_
  refine ps_if2 (S1 := (19, [(0, .ref o), (1, .int (nI j)), (2, .int 1)], [], M)) (S2 := (9, [(0, .ref o), (1, .int (nI j)), (2, .int 1)], [], M)) rfl rfl rfl (fun c_6 => ?_) (fun c_6 => ?_)
  rotate_left
  · exact absurd (by decide) (of_decide_eq_false c_6)
  refine ps_st (S' := (20, [(0, .ref o), (1, .int (nI j)), (2, .int 1)], [.ref o], M)) rfl rfl rfl ?_
  refine ps_get (S' := (23, [(0, .ref o), (1, .int (nI j)), (2, .int 1)], [.ref c], M)) rfl h_o rfl rfl ?_
  refine ps_st (S' := (26, [(0, .ref o), (1, .int (nI j)), (2, .int 1)], [], M)) rfl rfl rfl ?_
  refine ps_st (S' := (27, [(0, .ref o), (1, .int (nI j)), (2, .int 1)], [.int (nI j)], M)) rfl rfl rfl ?_
  refine ps_if (S1 := (44, [], [], M)) (S2 := (30, [(0, .ref o), (1, .int (nI j)), (2, .int 1)], [], M)) rfl rfl rfl (fun c_27 => ?_) (fun c_27 => ?_)
  · exact absurd (of_decide_eq_true c_27) (show ¬ ((nI j) < 0) from fun h9 => absurd ((lt_nI (p := j) (n := 0) (by omega) (by decide)).mp h9) (by omega))
  refine ps_st (S' := (31, [(0, .ref o), (1, .int (nI j)), (2, .int 1)], [.int (nI j)], M)) rfl rfl rfl ?_
  refine ps_st (S' := (32, [(0, .ref o), (1, .int (nI j)), (2, .int 1)], [.ref o, .int (nI j)], M)) rfl rfl rfl ?_
  refine ps_get (S' := (35, [(0, .ref o), (1, .int (nI j)), (2, .int 1)], [.ref c, .int (nI j)], M)) rfl h_o rfl rfl ?_
  refine ps_get (S' := (38, [(0, .ref o), (1, .int (nI j)), (2, .int 1)], [.ref q, .int (nI j)], M)) rfl h_c rfl rfl ?_
  refine ps_get (S' := (41, [(0, .ref o), (1, .int (nI j)), (2, .int 1)], [.int (nI N), .int (nI j)], M)) rfl h_q rfl rfl ?_
  refine ps_if2 (S1 := (46, [(0, .ref o), (1, .int (nI j)), (2, .int 1)], [], M)) (S2 := (44, [], [], M)) rfl rfl rfl (fun c_41 => ?_) (fun c_41 => ?_)
  rotate_left
  · exact absurd ((lt_nI (by omega) (by omega)).mpr hj) (of_decide_eq_false c_41)
  refine ps_st (S' := (47, [(0, .ref o), (1, .int (nI j)), (2, .int 1)], [.int 1], M)) rfl rfl rfl ?_
  refine ps_if (S1 := (62, [(0, .ref o), (1, .int (nI j)), (2, .int 1)], [], M)) (S2 := (50, [(0, .ref o), (1, .int (nI j)), (2, .int 1)], [], M)) rfl rfl rfl (fun c_47 => ?_) (fun c_47 => ?_)
  rotate_left
  · exact absurd (by decide) (of_decide_eq_false c_47)
  refine ps_st (S' := (63, [(0, .ref o), (1, .int (nI j)), (2, .int 1)], [.int 1], M)) rfl rfl rfl ?_
  refine ps_st (S' := (64, [(0, .ref o), (1, .int (nI j)), (2, .int 1)], [.int 1, .int 1], M)) rfl rfl rfl ?_
  refine ps_if2 (S1 := (81, [(0, .ref o), (1, .int (nI j)), (2, .int 1)], [], M)) (S2 := (67, [(0, .ref o), (1, .int (nI j)), (2, .int 1)], [], M)) rfl rfl rfl (fun c_64 => ?_) (fun c_64 => ?_)
  · exact absurd (of_decide_eq_true c_64) (by decide)
  refine ps_st (S' := (68, [(0, .ref o), (1, .int (nI j)), (2, .int 1)], [.ref o], M)) rfl rfl rfl ?_
  refine ps_get (S' := (71, [(0, .ref o), (1, .int (nI j)), (2, .int 1)], [.ref c], M)) rfl h_o rfl rfl ?_
  refine ps_get (S' := (74, [(0, .ref o), (1, .int (nI j)), (2, .int 1)], [.ref q], M)) rfl h_c rfl rfl ?_
  refine ps_st (S' := (75, [(0, .ref o), (1, .int (nI j)), (2, .int 1)], [.int (nI j), .ref q], M)) rfl rfl rfl ?_
  refine pl_call (a := [.ref q, .int (nI j)]) (rest := []) rfl rfl rfl (dy_firstIndex (f := f) (n := n) (N := N) (q := q) (E := E) (j := j) (hV) (by omega)) (fun v1 M2 q3 => ?_)
  obtain ⟨rfl, rfl⟩ := q3
  show pl _ _ _ (78, [(0, .ref o), (1, .int (nI j)), (2, .int 1)], [.int (nI (fi f E j))], M) _
  refine ps_st (S' := (92, [], [.int (nI (fi f E j))], M)) rfl rfl rfl ?_
  exact ps_reti rfl (⟨rfl, rfl⟩)
set_option maxHeartbeats 1000000 in
theorem dk_entry_2 {g : xe_G} {M : mi_H} {f : Nat → Int32} {n N q : Nat} {E : List (Nat × Nat)} {o ca fl c b : Nat} {cn wp : Int32} {w : List Value} {j : Nat} (h_o : M.1 o = some (ob 11 [.ref ca, .int cn, .ref fl, .ref c, .int wp])) (h_c : M.1 c = some (ob 3 (.ref b :: .ref q :: w))) (hV : PV g f n N E q M) (hj : j < N) : pt (mT g) 8 [.ref o, .int (nI j), .int 2] M (fun v M' => (v = some (.int (nI (se f E j))) ∧ M = M')) := by
  refine pt_in (b := mb_8 g) rfl (fun kf => ?_)
  show pl (mT g) kf (mb_8 g).2 (0, [(0, .ref o), (1, .int (nI j)), (2, .int 2)], [], M) _
  obtain ⟨hL9, H, m, qq, F, cc, hP9, -, -, hb9, -⟩ := id hV
  have h_q := hP9.1
  have hN9 := hb9.2.2.1
  refine ps_st (S' := (1, [(0, .ref o), (1, .int (nI j)), (2, .int 2)], [.int 2], M)) rfl rfl rfl ?_
  refine ps_if (S1 := (9, [(0, .ref o), (1, .int (nI j)), (2, .int 2)], [], M)) (S2 := (4, [(0, .ref o), (1, .int (nI j)), (2, .int 2)], [], M)) rfl rfl rfl (fun c_1 => ?_) (fun c_1 => ?_)
  · exact absurd (of_decide_eq_true c_1) (by decide)
  refine ps_st (S' := (5, [(0, .ref o), (1, .int (nI j)), (2, .int 2)], [.int 2], M)) rfl rfl rfl ?_
  refine ps_st (S' := (6, [(0, .ref o), (1, .int (nI j)), (2, .int 2)], [.int 2, .int 2], M)) rfl rfl rfl ?_
  refine ps_if2 (S1 := (19, [(0, .ref o), (1, .int (nI j)), (2, .int 2)], [], M)) (S2 := (9, [(0, .ref o), (1, .int (nI j)), (2, .int 2)], [], M)) rfl rfl rfl (fun c_6 => ?_) (fun c_6 => ?_)
  rotate_left
  · exact absurd (by decide) (of_decide_eq_false c_6)
  refine ps_st (S' := (20, [(0, .ref o), (1, .int (nI j)), (2, .int 2)], [.ref o], M)) rfl rfl rfl ?_
  refine ps_get (S' := (23, [(0, .ref o), (1, .int (nI j)), (2, .int 2)], [.ref c], M)) rfl h_o rfl rfl ?_
  refine ps_st (S' := (26, [(0, .ref o), (1, .int (nI j)), (2, .int 2)], [], M)) rfl rfl rfl ?_
  refine ps_st (S' := (27, [(0, .ref o), (1, .int (nI j)), (2, .int 2)], [.int (nI j)], M)) rfl rfl rfl ?_
  refine ps_if (S1 := (44, [], [], M)) (S2 := (30, [(0, .ref o), (1, .int (nI j)), (2, .int 2)], [], M)) rfl rfl rfl (fun c_27 => ?_) (fun c_27 => ?_)
  · exact absurd (of_decide_eq_true c_27) (show ¬ ((nI j) < 0) from fun h9 => absurd ((lt_nI (p := j) (n := 0) (by omega) (by decide)).mp h9) (by omega))
  refine ps_st (S' := (31, [(0, .ref o), (1, .int (nI j)), (2, .int 2)], [.int (nI j)], M)) rfl rfl rfl ?_
  refine ps_st (S' := (32, [(0, .ref o), (1, .int (nI j)), (2, .int 2)], [.ref o, .int (nI j)], M)) rfl rfl rfl ?_
  refine ps_get (S' := (35, [(0, .ref o), (1, .int (nI j)), (2, .int 2)], [.ref c, .int (nI j)], M)) rfl h_o rfl rfl ?_
  refine ps_get (S' := (38, [(0, .ref o), (1, .int (nI j)), (2, .int 2)], [.ref q, .int (nI j)], M)) rfl h_c rfl rfl ?_
  refine ps_get (S' := (41, [(0, .ref o), (1, .int (nI j)), (2, .int 2)], [.int (nI N), .int (nI j)], M)) rfl h_q rfl rfl ?_
  refine ps_if2 (S1 := (46, [(0, .ref o), (1, .int (nI j)), (2, .int 2)], [], M)) (S2 := (44, [], [], M)) rfl rfl rfl (fun c_41 => ?_) (fun c_41 => ?_)
  rotate_left
  · exact absurd ((lt_nI (by omega) (by omega)).mpr hj) (of_decide_eq_false c_41)
  refine ps_st (S' := (47, [(0, .ref o), (1, .int (nI j)), (2, .int 2)], [.int 2], M)) rfl rfl rfl ?_
  refine ps_if (S1 := (62, [(0, .ref o), (1, .int (nI j)), (2, .int 2)], [], M)) (S2 := (50, [(0, .ref o), (1, .int (nI j)), (2, .int 2)], [], M)) rfl rfl rfl (fun c_47 => ?_) (fun c_47 => ?_)
  rotate_left
  · exact absurd (by decide) (of_decide_eq_false c_47)
  refine ps_st (S' := (63, [(0, .ref o), (1, .int (nI j)), (2, .int 2)], [.int 2], M)) rfl rfl rfl ?_
  refine ps_st (S' := (64, [(0, .ref o), (1, .int (nI j)), (2, .int 2)], [.int 1, .int 2], M)) rfl rfl rfl ?_
  refine ps_if2 (S1 := (81, [(0, .ref o), (1, .int (nI j)), (2, .int 2)], [], M)) (S2 := (67, [(0, .ref o), (1, .int (nI j)), (2, .int 2)], [], M)) rfl rfl rfl (fun c_64 => ?_) (fun c_64 => ?_)
  rotate_left
  · exact absurd (by decide) (of_decide_eq_false c_64)
  refine ps_st (S' := (82, [(0, .ref o), (1, .int (nI j)), (2, .int 2)], [.ref o], M)) rfl rfl rfl ?_
  refine ps_get (S' := (85, [(0, .ref o), (1, .int (nI j)), (2, .int 2)], [.ref c], M)) rfl h_o rfl rfl ?_
  refine ps_get (S' := (88, [(0, .ref o), (1, .int (nI j)), (2, .int 2)], [.ref q], M)) rfl h_c rfl rfl ?_
  refine ps_st (S' := (89, [(0, .ref o), (1, .int (nI j)), (2, .int 2)], [.int (nI j), .ref q], M)) rfl rfl rfl ?_
  refine pl_call (a := [.ref q, .int (nI j)]) (rest := []) rfl rfl rfl (dy_secondIndex (f := f) (n := n) (N := N) (q := q) (E := E) (j := j) (hV) (by omega)) (fun v1 M2 q3 => ?_)
  obtain ⟨rfl, rfl⟩ := q3
  show pl _ _ _ (92, [], [.int (nI (se f E j))], M) _
  exact ps_reti rfl (⟨rfl, rfl⟩)
theorem dk_entry {g : xe_G} {M : mi_H} {ko : Option (Nat × (Nat → Int32))} {kv : Value} {cm o fl : Nat} {cn wp k p : Int32} (hx : M.1 o = some (ob 11 [.ref cm, .int cn, .ref fl, kv, .int wp])) (hK : KPC g ko kv cm M) (hp0 : ¬ p < 0) (hp1 : p ≤ 2) : pt (mT g) 8 [.ref o, .int k, .int p] M (fun v M' => v = some (.int (enK ko k p)) ∧ M = M') := by
  cases ko with
  | none =>
    have e : kv = .null := hK
    subst e
    exact dk_entry0 hx hp0 hp1
  | some r =>
    obtain ⟨c, da, rfl, ⟨b, q, N, E, p1, pF, pM, pA, w, h1, h2, h3, h4, h5, rfl, -⟩, -, -⟩ := hK
    rw [enK_is h5]
    have hN := by2_lt r.2 8
    unfold enI
    by_cases hk : k < 0 ∨ nI (by2 r.2 8) ≤ k
    · rw [if_pos hk]
      exact dk_entryN hx h1 hp0 hp1 h4 hk
    · rw [if_neg hk]
      obtain ⟨e, hj⟩ := i32_in hN hk
      obtain ⟨j, ej⟩ : ∃ j, j = k.toNatClampNeg := ⟨_, rfl⟩
      rw [← ej] at e hj ⊢
      subst e
      rcases i32_3 hp0 hp1 with rfl | rfl | rfl
      · exact dk_entry_0 hx h1 h4 hj
      · exact dk_entry_1 hx h1 h4 hj
      · exact dk_entry_2 hx h1 h4 hj
end
section

end
section
/-! a character of a text, as both sides tell it (my own text) -/
section CHA
variable {f : Nat → Int32} {n H m N : Nat} {E : List (Nat × Nat)} {F : Nat → Nat → Int32}
def chI (f : Nat → Int32) (n : Nat) (E : List (Nat × Nat)) (k i : Int32) : Int32 := if tg f E k.toNatClampNeg = 1 ∧ ¬ i < 0 ∧ i.toNatClampNeg < (tX f n E k.toNatClampNeg).length then nI ((tX f n E k.toNatClampNeg).getD i.toNatClampNeg 0) else -1
def chK (ko : Option (Nat × (Nat → Int32))) (k i : Int32) : Int32 := match ko with
  | none => -1
  | some r => match s_whole r.2 r.1 with
    | .inl _ => -1
    | .inr y => chI r.2 r.1 y.1 k i
theorem chK_is {r : Nat × (Nat → Int32)} {k p : Int32} {y : Nat × Nat × Nat × Nat} (h : s_whole r.2 r.1 = .inr (E, y)) : chK (some r) k p = chI r.2 r.1 E k p := by
  show (match s_whole r.2 r.1 with | .inl _ => -1 | .inr y => chI r.2 r.1 y.1 k p) = _
  rw [h]
theorem i32_cl {k : Int32} (h : k < 0) : k.toNatClampNeg = 0 := by
  have h1 := Int32.lt_iff_toInt_lt.mp h
  have e0 : (0 : Int32).toInt = 0 := rfl
  show k.toInt.toNat = 0
  omega
theorem i32_to {k : Int32} (h : ¬ k < 0) : (k.toNatClampNeg : Int) = k.toInt := by
  have h1 := Int32.le_iff_toInt_le.mp (Int32.not_lt.mp h)
  have e0 : (0 : Int32).toInt = 0 := rfl
  show ((k.toInt.toNat : Nat) : Int) = _
  omega
theorem i32_ge {k : Int32} {N : Nat} (hN : N ≤ 65540) (h0 : ¬ k < 0) (h : ¬ k < nI N) : N ≤ k.toNatClampNeg := by
  have h1 := Int32.le_iff_toInt_le.mp (Int32.not_lt.mp h)
  rw [nI_val (by omega)] at h1
  have h2 := i32_to h0
  omega
theorem i32_lt {k : Int32} {N : Nat} (hN : N ≤ 65540) (h0 : ¬ k < 0) (h : k.toNatClampNeg < N) : k < nI N := by
  apply Int32.lt_iff_toInt_lt.mpr
  rw [nI_val (by omega)]
  have h2 := i32_to h0
  omega
theorem VF.tagR (h : VF f n E H m F) (hH : H ≤ 65536) (h0 : tg f E 0 = 0) (k : Int32) : sp_tagOf H m F k = nI (tg f E k.toNatClampNeg) := by
  unfold sp_tagOf
  by_cases h1 : k < 0
  · rw [if_pos h1, i32_cl h1, h0]
    rfl
  · rw [if_neg h1]
    by_cases h2 : k < nI H
    · rw [if_pos h2]
      exact h.1 _
    · rw [if_neg h2, h.2.1 _ (i32_ge (by omega) h1 h2)]
      rfl
theorem VF.charR (h : VF f n E H m F) (hH : H ≤ 65536) (hm : m ≤ 65540) (h0 : tg f E 0 = 0) (k i : Int32) : sp_characterAt H m F k i = chI f n E k i := by
  unfold sp_characterAt chI
  rw [h.tagR hH h0 k]
  obtain ⟨j, hj⟩ : ∃ j, j = k.toNatClampNeg := ⟨_, rfl⟩
  rw [← hj]
  by_cases h1 : tg f E j = 1
  · obtain ⟨c, a1, a2, a3, a4⟩ := h.2.2.2.2 j h1
    rw [if_neg (by rw [h1]; exact fun q => q rfl)]
    by_cases h2 : i < 0
    · rw [if_pos h2, if_neg (fun q => q.2.1 h2)]
    · rw [if_neg h2, a2, a1]
      have hl := tx_len f n E j
      by_cases h3 : i.toNatClampNeg < (tX f n E j).length
      · rw [if_pos (i32_lt (by omega) h2 h3), if_pos ⟨h1, h2, h3⟩]
        have e := i32_nn h2
        obtain ⟨t, ht⟩ : ∃ t, t = i.toNatClampNeg := ⟨_, rfl⟩
        rw [← ht] at h3 e ⊢
        rw [e, nI_add1 rfl (by omega), nI_toNat (by omega), a4 t h3]
      · rw [if_neg (fun q => h3 ?_), if_neg (fun q => h3 q.2.2)]
        have h4 := Int32.lt_iff_toInt_lt.mp q
        rw [nI_val (by omega)] at h4
        have h5 := i32_to h2
        omega
  · rw [if_pos (show ¬ nI (tg f E j) = 1 from fun q => h1 ((eq_nI (p := tg f E j) (n := 1) (Nat.lt_trans (tg_lt _ _ _) (by decide)) (by decide)).mp q)), if_neg (fun q => h1 q.1)]
theorem s_ents_1 {mj : Nat} : ∀ {r k p p' : Nat} {E0 E : List (Nat × Nat)}, 1 ≤ k → (∀ q ∈ E0, 1 ≤ q.1) → s_ents f n mj N r k p E0 = .inr (p', E) → ∀ q ∈ E, 1 ≤ q.1 := by
  intro r
  induction r with
  | zero => intro k p p' E0 E hk h0 h; cases h; exact h0
  | succ r ih =>
    intro k p p' E0 E hk h0 h
    unfold s_ents at h
    split at h
    · cases h; exact h0
    · cases he : s_entry f n mj N k p with
      | inl e => rw [he] at h; cases h
      | inr y =>
        obtain ⟨p2, x⟩ := y
        rw [he] at h
        refine ih (k := if by1 f p = 5 ∨ by1 f p = 6 then k + 2 else k + 1) ?_ ?_ h
        · split <;> omega
        · intro q hq
          rcases List.mem_append.mp hq with hq | hq
          · exact h0 q hq
          · have e : q = (k, p) := by simpa using hq
            rw [e]
            exact hk
/-- number 0 is no entry's -/
theorem tg_0 {mj p' : Nat} (h : s_pool f n mj = .inr (p', E)) : tg f E 0 = 0 := by
  unfold s_pool at h
  split at h
  · cases h
  · split at h
    · cases h
    · unfold tg
      cases hk : lk E 0 with
      | none => rfl
      | some p => exact absurd (s_ents_1 (by decide) (fun q hq => by cases hq) h _ (lk_in hk)) (show ¬ 1 ≤ 0 by decide)
end CHA
theorem dz_characterAt {g : xe_G} {M : mi_H} {f : Nat → Int32} {n N q : Nat} {E : List (Nat × Nat)} {k i : Int32}  (hV : PV g f n N E q M) (h0 : tg f E 0 = 0) : pt (mT g) 113 [.ref q, .int k, .int i] M (fun v M' => (v = some (.int (chI f n E k i)) ∧ M = M')) := by
  obtain ⟨hL9, H, m, qq, F, cc, hP9, hT9, -, hb9, hVF, -⟩ := id hV
  exact ((ct_characterAt hP9 hT9 (by omega) (d := 2) (Nat.le_refl _)).pt).mono (fun v M' h => ⟨by rw [h.1, hVF.charR hb9.1 hb9.2.1 h0], h.2.symm⟩)
set_option maxHeartbeats 1000000 in
theorem dk_character0 {g : xe_G} {M : mi_H} {o ca fl : Nat} {cn wp k i : Int32} (h_o : M.1 o = some (ob 11 [.ref ca, .int cn, .ref fl, .null, .int wp]))  : pt (mT g) 3 [.ref o, .int k, .int i] M (fun v M' => (v = some (.int (-1)) ∧ M = M')) := by
  refine pt_in (b := mb_3 g) rfl (fun kf => ?_)
  show pl (mT g) kf (mb_3 g).2 (0, [(0, .ref o), (1, .int k), (2, .int i)], [], M) _
  refine ps_st (S' := (1, [(0, .ref o), (1, .int k), (2, .int i)], [.ref o], M)) rfl rfl rfl ?_
  refine ps_get (S' := (4, [(0, .ref o), (1, .int k), (2, .int i)], [.null], M)) rfl h_o rfl rfl ?_
  refine ps_st (S' := (7, [(0, .ref o), (1, .int k), (2, .int i)], [], M)) rfl rfl rfl ?_
  refine ps_st (S' := (8, [(0, .ref o), (1, .int k), (2, .int i)], [.int (-1)], M)) rfl rfl rfl ?_
  refine ps_st (S' := (23, [], [.int (-1)], M)) rfl rfl rfl ?_
  exact ps_ret rfl rfl (⟨rfl, rfl⟩)
set_option maxHeartbeats 1000000 in
theorem dk_characterK {g : xe_G} {M : mi_H} {f : Nat → Int32} {n N q : Nat} {E : List (Nat × Nat)} {o ca fl c b : Nat} {cn wp : Int32} {w : List Value} {k i : Int32} (h_o : M.1 o = some (ob 11 [.ref ca, .int cn, .ref fl, .ref c, .int wp])) (h_c : M.1 c = some (ob 3 (.ref b :: .ref q :: w))) (hV : PV g f n N E q M) (h0 : tg f E 0 = 0) : pt (mT g) 3 [.ref o, .int k, .int i] M (fun v M' => (v = some (.int (chI f n E k i)) ∧ M = M')) := by
  refine pt_in (b := mb_3 g) rfl (fun kf => ?_)
  show pl (mT g) kf (mb_3 g).2 (0, [(0, .ref o), (1, .int k), (2, .int i)], [], M) _
  obtain ⟨hL9, H, m, qq, F, cc, hP9, -, -, hb9, -⟩ := id hV
  have h_q := hP9.1
  have hN9 := hb9.2.2.1
  refine ps_st (S' := (1, [(0, .ref o), (1, .int k), (2, .int i)], [.ref o], M)) rfl rfl rfl ?_
  refine ps_get (S' := (4, [(0, .ref o), (1, .int k), (2, .int i)], [.ref c], M)) rfl h_o rfl rfl ?_
  refine ps_st (S' := (11, [(0, .ref o), (1, .int k), (2, .int i)], [], M)) rfl rfl rfl ?_
  refine ps_st (S' := (12, [(0, .ref o), (1, .int k), (2, .int i)], [.ref o], M)) rfl rfl rfl ?_
  refine ps_get (S' := (15, [(0, .ref o), (1, .int k), (2, .int i)], [.ref c], M)) rfl h_o rfl rfl ?_
  refine ps_get (S' := (18, [(0, .ref o), (1, .int k), (2, .int i)], [.ref q], M)) rfl h_c rfl rfl ?_
  refine ps_st (S' := (19, [(0, .ref o), (1, .int k), (2, .int i)], [.int k, .ref q], M)) rfl rfl rfl ?_
  refine ps_st (S' := (20, [(0, .ref o), (1, .int k), (2, .int i)], [.int i, .int k, .ref q], M)) rfl rfl rfl ?_
  refine pl_call (a := [.ref q, .int k, .int i]) (rest := []) rfl rfl rfl (dz_characterAt (f := f) (n := n) (N := N) (q := q) (E := E) (k := k) (i := i) (hV) (h0)) (fun v1 M2 q3 => ?_)
  obtain ⟨rfl, rfl⟩ := q3
  show pl _ _ _ (23, [], [.int (chI f n E k i)], M) _
  exact ps_reti rfl (⟨rfl, rfl⟩)
theorem dk_character {g : xe_G} {M : mi_H} {ko : Option (Nat × (Nat → Int32))} {kv : Value} {cm o fl : Nat} {cn wp k i : Int32} (hx : M.1 o = some (ob 11 [.ref cm, .int cn, .ref fl, kv, .int wp])) (hK : KPC g ko kv cm M) : pt (mT g) 3 [.ref o, .int k, .int i] M (fun v M' => v = some (.int (chK ko k i)) ∧ M = M') := by
  cases ko with
  | none =>
    have e : kv = .null := hK
    subst e
    exact dk_character0 hx
  | some r =>
    obtain ⟨c, da, rfl, ⟨b, q, N, E, p1, pF, pM, pA, w, h1, h2, h3, h4, h5, rfl, -⟩, -, -⟩ := hK
    rw [chK_is h5]
    exact dk_characterK hx h1 h4 (tg_0 (whole_in h5))
end
section
set_option maxHeartbeats 1000000 in
theorem rd_tagO {g : xe_G} {m0 : Nat} {q : Nat → Nat} {z : Nat × Nat} {I : rI} {R : rR} {M : mi_H} {n : Nat} {f : Nat → Int32} {tx : List (List Nat)} {cN : Nat} {A : Nat → Nat} {N mj : Nat} {E : List (Nat × Nat)} {k : Int32} (hR : RS g m0 q z I R M) (hi51 : I 51 = some 0) (hi52 : I 52 = some (nI N)) (hi53 : I 53 = some (nI mj)) (hF : FK n f I R) (hY : SYT tx cN A I R) (hP : RPV f n E tx N I R) (hEP : EP f n E) (hN : N < 65536) (hk : k ≤ 0 ∨ nI N ≤ k) : pt (mT g) 247 [.ref m0, .int k] M (fun v M' => (v = some (.int 0) ∧ M = M')) := by
  refine pt_in (b := mb_247 g) rfl (fun kf => ?_)
  show pl (mT g) kf (mb_247 g).2 (0, [(0, .ref m0), (1, .int k)], [], M) _
  refine ps_st (S' := (1, [(0, .ref m0), (1, .int k)], [.int k], M)) rfl rfl rfl ?_
  refine ps_if (S1 := (26, [], [], M)) (S2 := (4, [(0, .ref m0), (1, .int k)], [], M)) rfl rfl rfl (fun c_1 => ?_) (fun c_1 => ?_)
  · have c_1 : k ≤ 0 := of_decide_eq_true c_1
    refine ps_st (S' := (27, [], [.int 0], M)) rfl rfl rfl ?_
    refine ps_st (S' := (45, [], [.int 0], M)) rfl rfl rfl ?_
    exact ps_ret rfl rfl (⟨rfl, rfl⟩)
  · have c_1 : ¬ (k ≤ 0) := of_decide_eq_false c_1
    refine ps_st (S' := (5, [(0, .ref m0), (1, .int k)], [.int k], M)) rfl rfl rfl ?_
    refine ps_st (S' := (6, [(0, .ref m0), (1, .int k)], [.ref m0, .int k], M)) rfl rfl rfl ?_
    refine pr_int (j := 52) (S' := (9, [(0, .ref m0), (1, .int k)], [.int (nI N), .int k], M)) rfl hR rfl hi52 rfl ?_
    refine ps_if2 (S1 := (26, [], [], M)) (S2 := (12, [(0, .ref m0), (1, .int k)], [], M)) rfl rfl rfl (fun c_9 => ?_) (fun c_9 => ?_)
    · have c_9 : (nI N) ≤ k := of_decide_eq_true c_9
      refine ps_st (S' := (27, [], [.int 0], M)) rfl rfl rfl ?_
      refine ps_st (S' := (45, [], [.int 0], M)) rfl rfl rfl ?_
      exact ps_ret rfl rfl (⟨rfl, rfl⟩)
    · have c_9 : ¬ ((nI N) ≤ k) := of_decide_eq_false c_9
      exfalso
      rcases hk with h9 | h9
      · exact absurd h9 (by assumption)
      · exact absurd h9 (by assumption)
theorem rd_tagR {g : xe_G} {m0 : Nat} {q : Nat → Nat} {z : Nat × Nat} {I : rI} {R : rR} {M : mi_H} {n : Nat} {f : Nat → Int32} {tx : List (List Nat)} {cN : Nat} {A : Nat → Nat} {N mj : Nat} {E : List (Nat × Nat)} {k : Int32} (hR : RS g m0 q z I R M) (hi51 : I 51 = some 0) (hi52 : I 52 = some (nI N)) (hi53 : I 53 = some (nI mj)) (hF : FK n f I R) (hY : SYT tx cN A I R) (hP : RPV f n E tx N I R) (hEP : EP f n E) (hN : N < 65536) (hmj : mj < 65536) (h0 : tg f E 0 = 0) : pt (mT g) 247 [.ref m0, .int k] M (fun v M' => (v = some (.int (nI (tg f E k.toNatClampNeg))) ∧ M = M')) := by
  by_cases hk : k ≤ 0 ∨ nI N ≤ k
  · have e : tg f E k.toNatClampNeg = 0 := by
      by_cases h1 : k < 0
      · rw [i32_cl h1]
        exact h0
      · rcases hk with h2 | h2
        · have h3 : k = 0 := Int32.le_antisymm h2 (Int32.not_lt.mp h1)
          rw [h3]
          exact h0
        · have h3 := i32_ge (N := N) (by omega) h1 (Int32.not_lt.mpr h2)
          unfold tg
          rw [lk_hi hP.1 (Or.inr h3)]
    rw [e]
    exact rd_tagO hR hi51 hi52 hi53 hF hY hP hEP hN hk
  · have h1 : ¬ k < 0 := fun h9 => hk (Or.inl (Int32.le_of_lt h9))
    obtain ⟨e, hj⟩ := i32_in hN (fun h9 => h9.elim h1 (fun h8 => hk (Or.inr h8)))
    obtain ⟨j, ej⟩ : ∃ j, j = k.toNatClampNeg := ⟨_, rfl⟩
    rw [← ej] at e hj ⊢
    subst e
    exact rd_tag hR hi51 hi52 hi53 hF hY hP hEP hN hmj (by omega)
set_option maxHeartbeats 1000000 in
theorem rd_character0 {g : xe_G} {m0 : Nat} {q : Nat → Nat} {z : Nat × Nat} {I : rI} {R : rR} {M : mi_H} {kn k i : Int32} (hR : RS g m0 q z I R M) (hi18 : I 18 = some kn)  (hk : kn < 0) : pt (mT g) 186 [.ref m0, .int k, .int i] M (fun v M' => (∃  (I' : rI) (R' : rR), v = some (.int (-1)) ∧ RS g m0 q z I' R' M' ∧ eqI [0] I I' ∧ eqR [] R R' ∧ I' 0 = some 0)) := by
  refine pt_in (b := mb_186 g) rfl (fun kf => ?_)
  show pl (mT g) kf (mb_186 g).2 (0, [(0, .ref m0), (1, .int k), (2, .int i)], [], M) _
  have hEI : eqI [0] I I := eqI.rf
  have hER : eqR [] R R := eqR.rf
  refine ps_st (S' := (1, [(0, .ref m0), (1, .int k), (2, .int i)], [.ref m0], M)) rfl rfl rfl ?_
  refine ps_st (S' := (2, [(0, .ref m0), (1, .int k), (2, .int i)], [.int 0, .ref m0], M)) rfl rfl rfl ?_
  refine pr_put (j := 0) rfl hR rfl (fun M1 I2 hR3 hi4 hI5 => ?_)
  have hi6 := (hI5 18 (by decide)).trans hi18
  have hEI7 := hEI.put hI5 (by decide)
  show pl _ _ _ (5, [(0, .ref m0), (1, .int k), (2, .int i)], [], M1) _
  refine ps_st (S' := (6, [(0, .ref m0), (1, .int k), (2, .int i)], [.ref m0], M1)) rfl rfl rfl ?_
  refine pr_int (j := 18) (S' := (9, [(0, .ref m0), (1, .int k), (2, .int i)], [.int kn], M1)) rfl hR3 rfl hi6 rfl ?_
  refine ps_if (S1 := (38, [], [], M1)) (S2 := (12, [(0, .ref m0), (1, .int k), (2, .int i)], [], M1)) rfl rfl rfl (fun c_9 => ?_) (fun c_9 => ?_)
  rotate_left
  · exact absurd (hk) (of_decide_eq_false c_9)
  refine ps_st (S' := (39, [], [.int (-1)], M1)) rfl rfl rfl ?_
  refine ps_st (S' := (52, [], [.int (-1)], M1)) rfl rfl rfl ?_
  exact ps_ret rfl rfl (⟨I2, R, rfl, hR3, hEI7, hER, hi4⟩)
set_option maxHeartbeats 1000000 in
theorem rd_characterT {g : xe_G} {m0 : Nat} {q : Nat → Nat} {z : Nat × Nat} {I : rI} {R : rR} {M : mi_H} {n : Nat} {f : Nat → Int32} {tx : List (List Nat)} {cN : Nat} {A : Nat → Nat} {N mj : Nat} {E : List (Nat × Nat)} {n2 : Nat} {k i : Int32} (hR : RS g m0 q z I R M) (hi18 : I 18 = some (nI n2)) (hi51 : I 51 = some 0) (hi52 : I 52 = some (nI N)) (hi53 : I 53 = some (nI mj)) (hF : FK n f I R) (hY : SYT tx cN A I R) (hP : RPV f n E tx N I R) (hEP : EP f n E) (hN : N < 65536) (hmj : mj < 65536) (hn2 : n2 ≤ 65540) (h0 : tg f E 0 = 0) (ht : ¬ tg f E k.toNatClampNeg = 1) : pt (mT g) 186 [.ref m0, .int k, .int i] M (fun v M' => (∃  (I' : rI) (R' : rR), v = some (.int (-1)) ∧ RS g m0 q z I' R' M' ∧ eqI [0] I I' ∧ eqR [] R R' ∧ I' 0 = some 0)) := by
  refine pt_in (b := mb_186 g) rfl (fun kf => ?_)
  show pl (mT g) kf (mb_186 g).2 (0, [(0, .ref m0), (1, .int k), (2, .int i)], [], M) _
  have hEI : eqI [0] I I := eqI.rf
  have hER : eqR [] R R := eqR.rf
  refine ps_st (S' := (1, [(0, .ref m0), (1, .int k), (2, .int i)], [.ref m0], M)) rfl rfl rfl ?_
  refine ps_st (S' := (2, [(0, .ref m0), (1, .int k), (2, .int i)], [.int 0, .ref m0], M)) rfl rfl rfl ?_
  refine pr_put (j := 0) rfl hR rfl (fun M1 I2 hR3 hi4 hI5 => ?_)
  have hi6 := (hI5 18 (by decide)).trans hi18
  have hi7 := (hI5 51 (by decide)).trans hi51
  have hi8 := (hI5 52 (by decide)).trans hi52
  have hi9 := (hI5 53 (by decide)).trans hi53
  have hF_10 := hF.mono (pIx hI5 (by decide)) (fun _ _ => rfl)
  have hY_11 := hY.mono (pIx hI5 (by decide)) (fun _ _ => rfl)
  have hP_12 := hP.mono (pIx hI5 (by decide)) (fun _ _ => rfl)
  have hEI13 := hEI.put hI5 (by decide)
  show pl _ _ _ (5, [(0, .ref m0), (1, .int k), (2, .int i)], [], M1) _
  refine ps_st (S' := (6, [(0, .ref m0), (1, .int k), (2, .int i)], [.ref m0], M1)) rfl rfl rfl ?_
  refine pr_int (j := 18) (S' := (9, [(0, .ref m0), (1, .int k), (2, .int i)], [.int (nI n2)], M1)) rfl hR3 rfl hi6 rfl ?_
  refine ps_if (S1 := (38, [], [], M1)) (S2 := (12, [(0, .ref m0), (1, .int k), (2, .int i)], [], M1)) rfl rfl rfl (fun c_9 => ?_) (fun c_9 => ?_)
  · exact absurd (of_decide_eq_true c_9) (show ¬ ((nI n2) < 0) from fun h9 => absurd ((lt_nI (p := n2) (n := 0) (by omega) (by decide)).mp h9) (by omega))
  refine ps_st (S' := (13, [(0, .ref m0), (1, .int k), (2, .int i)], [.ref m0], M1)) rfl rfl rfl ?_
  refine ps_st (S' := (14, [(0, .ref m0), (1, .int k), (2, .int i)], [.int k, .ref m0], M1)) rfl rfl rfl ?_
  refine pl_call (a := [.ref m0, .int k]) (rest := []) rfl rfl rfl (rd_tagR (n := n) (f := f) (tx := tx) (cN := cN) (A := A) (N := N) (mj := mj) (E := E) (k := k) hR3 hi7 hi8 hi9 hF_10 hY_11 hP_12 (hEP) (hN) (hmj) (h0)) (fun v14 M15 q16 => ?_)
  obtain ⟨rfl, rfl⟩ := q16
  show pl _ _ _ (17, [(0, .ref m0), (1, .int k), (2, .int i)], [.int (nI (tg f E k.toNatClampNeg))], M1) _
  have htg9 := tg_lt f E k.toNatClampNeg
  refine ps_st (S' := (18, [(0, .ref m0), (1, .int k), (2, .int i)], [.int 1, .int (nI (tg f E k.toNatClampNeg))], M1)) rfl rfl rfl ?_
  refine ps_if2 (S1 := (38, [], [], M1)) (S2 := (21, [(0, .ref m0), (1, .int k), (2, .int i)], [], M1)) rfl rfl rfl (fun c_18 => ?_) (fun c_18 => ?_)
  rotate_left
  · exact absurd (show ¬ (nI (tg f E k.toNatClampNeg)) = 1 from fun h9 => ht ((eq_nI (p := tg f E k.toNatClampNeg) (n := 1) (by omega) (by decide)).mp h9)) (of_decide_eq_false c_18)
  refine ps_st (S' := (39, [], [.int (-1)], M1)) rfl rfl rfl ?_
  refine ps_st (S' := (52, [], [.int (-1)], M1)) rfl rfl rfl ?_
  exact ps_ret rfl rfl (⟨I2, R, rfl, hR3, hEI13, hER, hi4⟩)
set_option maxHeartbeats 1000000 in
theorem rd_characterN {g : xe_G} {m0 : Nat} {q : Nat → Nat} {z : Nat × Nat} {I : rI} {R : rR} {M : mi_H} {n : Nat} {f : Nat → Int32} {tx : List (List Nat)} {cN : Nat} {A : Nat → Nat} {N mj : Nat} {E : List (Nat × Nat)} {n2 : Nat} {j : Nat} {i : Int32} (hR : RS g m0 q z I R M) (hi18 : I 18 = some (nI n2)) (hi51 : I 51 = some 0) (hi52 : I 52 = some (nI N)) (hi53 : I 53 = some (nI mj)) (hF : FK n f I R) (hY : SYT tx cN A I R) (hP : RPV f n E tx N I R) (hEP : EP f n E) (hN : N < 65536) (hmj : mj < 65536) (hn2 : n2 ≤ 65540) (hj : j < 65536) (h1t : tg f E j = 1) (hi : i < 0 ∨ ¬ i < nI (tX f n E j).length) : pt (mT g) 186 [.ref m0, .int (nI j), .int i] M (fun v M' => (∃  (I' : rI) (R' : rR), v = some (.int (-1)) ∧ RS g m0 q z I' R' M' ∧ eqI [0] I I' ∧ eqR [] R R' ∧ I' 0 = some 0)) := by
  refine pt_in (b := mb_186 g) rfl (fun kf => ?_)
  show pl (mT g) kf (mb_186 g).2 (0, [(0, .ref m0), (1, .int (nI j)), (2, .int i)], [], M) _
  have hEI : eqI [0] I I := eqI.rf
  have hER : eqR [] R R := eqR.rf
  have hn := hF.1
  have hlx := tx_len f n E j
  refine ps_st (S' := (1, [(0, .ref m0), (1, .int (nI j)), (2, .int i)], [.ref m0], M)) rfl rfl rfl ?_
  refine ps_st (S' := (2, [(0, .ref m0), (1, .int (nI j)), (2, .int i)], [.int 0, .ref m0], M)) rfl rfl rfl ?_
  refine pr_put (j := 0) rfl hR rfl (fun M1 I2 hR3 hi4 hI5 => ?_)
  have hi6 := (hI5 18 (by decide)).trans hi18
  have hi7 := (hI5 51 (by decide)).trans hi51
  have hi8 := (hI5 52 (by decide)).trans hi52
  have hi9 := (hI5 53 (by decide)).trans hi53
  have hF_10 := hF.mono (pIx hI5 (by decide)) (fun _ _ => rfl)
  have hY_11 := hY.mono (pIx hI5 (by decide)) (fun _ _ => rfl)
  have hP_12 := hP.mono (pIx hI5 (by decide)) (fun _ _ => rfl)
  have hEI13 := hEI.put hI5 (by decide)
  show pl _ _ _ (5, [(0, .ref m0), (1, .int (nI j)), (2, .int i)], [], M1) _
  refine ps_st (S' := (6, [(0, .ref m0), (1, .int (nI j)), (2, .int i)], [.ref m0], M1)) rfl rfl rfl ?_
  refine pr_int (j := 18) (S' := (9, [(0, .ref m0), (1, .int (nI j)), (2, .int i)], [.int (nI n2)], M1)) rfl hR3 rfl hi6 rfl ?_
  refine ps_if (S1 := (38, [], [], M1)) (S2 := (12, [(0, .ref m0), (1, .int (nI j)), (2, .int i)], [], M1)) rfl rfl rfl (fun c_9 => ?_) (fun c_9 => ?_)
  · exact absurd (of_decide_eq_true c_9) (show ¬ ((nI n2) < 0) from fun h9 => absurd ((lt_nI (p := n2) (n := 0) (by omega) (by decide)).mp h9) (by omega))
  refine ps_st (S' := (13, [(0, .ref m0), (1, .int (nI j)), (2, .int i)], [.ref m0], M1)) rfl rfl rfl ?_
  refine ps_st (S' := (14, [(0, .ref m0), (1, .int (nI j)), (2, .int i)], [.int (nI j), .ref m0], M1)) rfl rfl rfl ?_
  refine pl_call (a := [.ref m0, .int (nI j)]) (rest := []) rfl rfl rfl (rd_tag (n := n) (f := f) (tx := tx) (cN := cN) (A := A) (N := N) (mj := mj) (E := E) (k := j) hR3 hi7 hi8 hi9 hF_10 hY_11 hP_12 (hEP) (hN) (hmj) (by omega)) (fun v14 M15 q16 => ?_)
  obtain ⟨rfl, rfl⟩ := q16
  show pl _ _ _ (17, [(0, .ref m0), (1, .int (nI j)), (2, .int i)], [.int (nI (tg f E j))], M1) _
  have htg_14 := tg_lt f E j
  refine ps_st (S' := (18, [(0, .ref m0), (1, .int (nI j)), (2, .int i)], [.int 1, .int (nI (tg f E j))], M1)) rfl rfl rfl ?_
  refine ps_if2 (S1 := (38, [], [], M1)) (S2 := (21, [(0, .ref m0), (1, .int (nI j)), (2, .int i)], [], M1)) rfl rfl rfl (fun c_18 => ?_) (fun c_18 => ?_)
  · exact absurd (of_decide_eq_true c_18) (fun h9 => h9 (by rw [h1t]; rfl))
  refine ps_st (S' := (22, [(0, .ref m0), (1, .int (nI j)), (2, .int i)], [.int i], M1)) rfl rfl rfl ?_
  refine ps_if (S1 := (38, [], [], M1)) (S2 := (25, [(0, .ref m0), (1, .int (nI j)), (2, .int i)], [], M1)) rfl rfl rfl (fun c_22 => ?_) (fun c_22 => ?_)
  · have c_22 : i < 0 := of_decide_eq_true c_22
    refine ps_st (S' := (39, [], [.int (-1)], M1)) rfl rfl rfl ?_
    refine ps_st (S' := (52, [], [.int (-1)], M1)) rfl rfl rfl ?_
    exact ps_ret rfl rfl (⟨I2, R, rfl, hR3, hEI13, hER, hi4⟩)
  · have c_22 : ¬ (i < 0) := of_decide_eq_false c_22
    refine ps_st (S' := (26, [(0, .ref m0), (1, .int (nI j)), (2, .int i)], [.int i], M1)) rfl rfl rfl ?_
    refine ps_st (S' := (27, [(0, .ref m0), (1, .int (nI j)), (2, .int i)], [.ref m0, .int i], M1)) rfl rfl rfl ?_
    refine ps_st (S' := (28, [(0, .ref m0), (1, .int (nI j)), (2, .int i)], [.ref m0, .ref m0, .int i], M1)) rfl rfl rfl ?_
    refine ps_st (S' := (29, [(0, .ref m0), (1, .int (nI j)), (2, .int i)], [.int (nI j), .ref m0, .ref m0, .int i], M1)) rfl rfl rfl ?_
    refine pl_call (a := [.ref m0, .int (nI j)]) (rest := [.ref m0, .int i]) rfl rfl rfl (rd_symOf (n := n) (f := f) (tx := tx) (cN := cN) (A := A) (N := N) (mj := mj) (E := E) (k := j) hR3 hi7 hi8 hi9 hF_10 hY_11 hP_12 (hEP) (hN) (hmj) (by omega)) (fun v17 M18 q19 => ?_)
    obtain ⟨s20, q29_s, rfl, rfl⟩ := q19
    show pl _ _ _ (32, [(0, .ref m0), (1, .int (nI j)), (2, .int i)], [.int (nI s20), .ref m0, .int i], M1) _
    have hsl_29 := q29_s.1
    have htl_29 := hY_11.1.2.2.1
    refine pl_call (a := [.ref m0, .int (nI s20)]) (rest := [.int i]) rfl rfl rfl (rd_length (tx := tx) (cN := cN) (A := A) (s := s20) (l := (tX f n E j)) hR3 hY_11 (q29_s)) (fun v21 M22 q23 => ?_)
    obtain ⟨rfl, rfl⟩ := q23
    show pl _ _ _ (35, [(0, .ref m0), (1, .int (nI j)), (2, .int i)], [.int (nI ((tX f n E j).length)), .int i], M1) _
    refine ps_if2 (S1 := (42, [(0, .ref m0), (1, .int (nI j)), (2, .int i)], [], M1)) (S2 := (38, [], [], M1)) rfl rfl rfl (fun c_35 => ?_) (fun c_35 => ?_)
    · exact absurd (of_decide_eq_true c_35) (hi.resolve_left c_22)
    refine ps_st (S' := (39, [], [.int (-1)], M1)) rfl rfl rfl ?_
    refine ps_st (S' := (52, [], [.int (-1)], M1)) rfl rfl rfl ?_
    exact ps_ret rfl rfl (⟨I2, R, rfl, hR3, hEI13, hER, hi4⟩)
set_option maxHeartbeats 1000000 in
theorem rd_characterI {g : xe_G} {m0 : Nat} {q : Nat → Nat} {z : Nat × Nat} {I : rI} {R : rR} {M : mi_H} {n : Nat} {f : Nat → Int32} {tx : List (List Nat)} {cN : Nat} {A : Nat → Nat} {N mj : Nat} {E : List (Nat × Nat)} {n2 : Nat} {j t : Nat} (hR : RS g m0 q z I R M) (hi18 : I 18 = some (nI n2)) (hi51 : I 51 = some 0) (hi52 : I 52 = some (nI N)) (hi53 : I 53 = some (nI mj)) (hF : FK n f I R) (hY : SYT tx cN A I R) (hP : RPV f n E tx N I R) (hEP : EP f n E) (hN : N < 65536) (hmj : mj < 65536) (hn2 : n2 ≤ 65540) (hj : j < 65536) (h1t : tg f E j = 1) (ht : t < (tX f n E j).length) : pt (mT g) 186 [.ref m0, .int (nI j), .int (nI t)] M (fun v M' => (∃  (I' : rI) (R' : rR), v = some (.int (nI ((tX f n E j).getD t 0))) ∧ RS g m0 q z I' R' M' ∧ eqI [0] I I' ∧ eqR [] R R' ∧ I' 0 = some 0)) := by
  refine pt_in (b := mb_186 g) rfl (fun kf => ?_)
  show pl (mT g) kf (mb_186 g).2 (0, [(0, .ref m0), (1, .int (nI j)), (2, .int (nI t))], [], M) _
  have hEI : eqI [0] I I := eqI.rf
  have hER : eqR [] R R := eqR.rf
  have hn := hF.1
  have hlx := tx_len f n E j
  refine ps_st (S' := (1, [(0, .ref m0), (1, .int (nI j)), (2, .int (nI t))], [.ref m0], M)) rfl rfl rfl ?_
  refine ps_st (S' := (2, [(0, .ref m0), (1, .int (nI j)), (2, .int (nI t))], [.int 0, .ref m0], M)) rfl rfl rfl ?_
  refine pr_put (j := 0) rfl hR rfl (fun M1 I2 hR3 hi4 hI5 => ?_)
  have hi6 := (hI5 18 (by decide)).trans hi18
  have hi7 := (hI5 51 (by decide)).trans hi51
  have hi8 := (hI5 52 (by decide)).trans hi52
  have hi9 := (hI5 53 (by decide)).trans hi53
  have hF_10 := hF.mono (pIx hI5 (by decide)) (fun _ _ => rfl)
  have hY_11 := hY.mono (pIx hI5 (by decide)) (fun _ _ => rfl)
  have hP_12 := hP.mono (pIx hI5 (by decide)) (fun _ _ => rfl)
  have hEI13 := hEI.put hI5 (by decide)
  show pl _ _ _ (5, [(0, .ref m0), (1, .int (nI j)), (2, .int (nI t))], [], M1) _
  refine ps_st (S' := (6, [(0, .ref m0), (1, .int (nI j)), (2, .int (nI t))], [.ref m0], M1)) rfl rfl rfl ?_
  refine pr_int (j := 18) (S' := (9, [(0, .ref m0), (1, .int (nI j)), (2, .int (nI t))], [.int (nI n2)], M1)) rfl hR3 rfl hi6 rfl ?_
  refine ps_if (S1 := (38, [], [], M1)) (S2 := (12, [(0, .ref m0), (1, .int (nI j)), (2, .int (nI t))], [], M1)) rfl rfl rfl (fun c_9 => ?_) (fun c_9 => ?_)
  · exact absurd (of_decide_eq_true c_9) (show ¬ ((nI n2) < 0) from fun h9 => absurd ((lt_nI (p := n2) (n := 0) (by omega) (by decide)).mp h9) (by omega))
  refine ps_st (S' := (13, [(0, .ref m0), (1, .int (nI j)), (2, .int (nI t))], [.ref m0], M1)) rfl rfl rfl ?_
  refine ps_st (S' := (14, [(0, .ref m0), (1, .int (nI j)), (2, .int (nI t))], [.int (nI j), .ref m0], M1)) rfl rfl rfl ?_
  refine pl_call (a := [.ref m0, .int (nI j)]) (rest := []) rfl rfl rfl (rd_tag (n := n) (f := f) (tx := tx) (cN := cN) (A := A) (N := N) (mj := mj) (E := E) (k := j) hR3 hi7 hi8 hi9 hF_10 hY_11 hP_12 (hEP) (hN) (hmj) (by omega)) (fun v14 M15 q16 => ?_)
  obtain ⟨rfl, rfl⟩ := q16
  show pl _ _ _ (17, [(0, .ref m0), (1, .int (nI j)), (2, .int (nI t))], [.int (nI (tg f E j))], M1) _
  have htg_14 := tg_lt f E j
  refine ps_st (S' := (18, [(0, .ref m0), (1, .int (nI j)), (2, .int (nI t))], [.int 1, .int (nI (tg f E j))], M1)) rfl rfl rfl ?_
  refine ps_if2 (S1 := (38, [], [], M1)) (S2 := (21, [(0, .ref m0), (1, .int (nI j)), (2, .int (nI t))], [], M1)) rfl rfl rfl (fun c_18 => ?_) (fun c_18 => ?_)
  · exact absurd (of_decide_eq_true c_18) (fun h9 => h9 (by rw [h1t]; rfl))
  refine ps_st (S' := (22, [(0, .ref m0), (1, .int (nI j)), (2, .int (nI t))], [.int (nI t)], M1)) rfl rfl rfl ?_
  refine ps_if (S1 := (38, [], [], M1)) (S2 := (25, [(0, .ref m0), (1, .int (nI j)), (2, .int (nI t))], [], M1)) rfl rfl rfl (fun c_22 => ?_) (fun c_22 => ?_)
  · exact absurd (of_decide_eq_true c_22) (show ¬ ((nI t) < 0) from fun h9 => absurd ((lt_nI (p := t) (n := 0) (by omega) (by decide)).mp h9) (by omega))
  refine ps_st (S' := (26, [(0, .ref m0), (1, .int (nI j)), (2, .int (nI t))], [.int (nI t)], M1)) rfl rfl rfl ?_
  refine ps_st (S' := (27, [(0, .ref m0), (1, .int (nI j)), (2, .int (nI t))], [.ref m0, .int (nI t)], M1)) rfl rfl rfl ?_
  refine ps_st (S' := (28, [(0, .ref m0), (1, .int (nI j)), (2, .int (nI t))], [.ref m0, .ref m0, .int (nI t)], M1)) rfl rfl rfl ?_
  refine ps_st (S' := (29, [(0, .ref m0), (1, .int (nI j)), (2, .int (nI t))], [.int (nI j), .ref m0, .ref m0, .int (nI t)], M1)) rfl rfl rfl ?_
  refine pl_call (a := [.ref m0, .int (nI j)]) (rest := [.ref m0, .int (nI t)]) rfl rfl rfl (rd_symOf (n := n) (f := f) (tx := tx) (cN := cN) (A := A) (N := N) (mj := mj) (E := E) (k := j) hR3 hi7 hi8 hi9 hF_10 hY_11 hP_12 (hEP) (hN) (hmj) (by omega)) (fun v17 M18 q19 => ?_)
  obtain ⟨s20, q29_s, rfl, rfl⟩ := q19
  show pl _ _ _ (32, [(0, .ref m0), (1, .int (nI j)), (2, .int (nI t))], [.int (nI s20), .ref m0, .int (nI t)], M1) _
  have hsl_29 := q29_s.1
  have htl_29 := hY_11.1.2.2.1
  refine pl_call (a := [.ref m0, .int (nI s20)]) (rest := [.int (nI t)]) rfl rfl rfl (rd_length (tx := tx) (cN := cN) (A := A) (s := s20) (l := (tX f n E j)) hR3 hY_11 (q29_s)) (fun v21 M22 q23 => ?_)
  obtain ⟨rfl, rfl⟩ := q23
  show pl _ _ _ (35, [(0, .ref m0), (1, .int (nI j)), (2, .int (nI t))], [.int (nI ((tX f n E j).length)), .int (nI t)], M1) _
  refine ps_if2 (S1 := (42, [(0, .ref m0), (1, .int (nI j)), (2, .int (nI t))], [], M1)) (S2 := (38, [], [], M1)) rfl rfl rfl (fun c_35 => ?_) (fun c_35 => ?_)
  rotate_left
  · exact absurd ((lt_nI (by omega) (by omega)).mpr ht) (of_decide_eq_false c_35)
  refine ps_st (S' := (43, [(0, .ref m0), (1, .int (nI j)), (2, .int (nI t))], [.ref m0], M1)) rfl rfl rfl ?_
  refine ps_st (S' := (44, [(0, .ref m0), (1, .int (nI j)), (2, .int (nI t))], [.ref m0, .ref m0], M1)) rfl rfl rfl ?_
  refine ps_st (S' := (45, [(0, .ref m0), (1, .int (nI j)), (2, .int (nI t))], [.int (nI j), .ref m0, .ref m0], M1)) rfl rfl rfl ?_
  refine pl_call (a := [.ref m0, .int (nI j)]) (rest := [.ref m0]) rfl rfl rfl (rd_symOf (n := n) (f := f) (tx := tx) (cN := cN) (A := A) (N := N) (mj := mj) (E := E) (k := j) hR3 hi7 hi8 hi9 hF_10 hY_11 hP_12 (hEP) (hN) (hmj) (by omega)) (fun v24 M25 q26 => ?_)
  obtain ⟨s27, q45_s, rfl, rfl⟩ := q26
  show pl _ _ _ (48, [(0, .ref m0), (1, .int (nI j)), (2, .int (nI t))], [.int (nI s27), .ref m0], M1) _
  have hsl_45 := q45_s.1
  have htl_45 := hY_11.1.2.2.1
  refine ps_st (S' := (49, [(0, .ref m0), (1, .int (nI j)), (2, .int (nI t))], [.int (nI t), .int (nI s27), .ref m0], M1)) rfl rfl rfl ?_
  refine pl_call (a := [.ref m0, .int (nI s27), .int (nI t)]) (rest := []) rfl rfl rfl (rd_at (tx := tx) (cN := cN) (A := A) (s := s27) (l := (tX f n E j)) (k := t) hR3 hY_11 (q45_s) (ht)) (fun v28 M29 q30 => ?_)
  obtain ⟨rfl, rfl⟩ := q30
  show pl _ _ _ (52, [], [.int (nI ((tX f n E j).getD t 0))], M1) _
  exact ps_reti rfl (⟨I2, R, rfl, hR3, hEI13, hER, hi4⟩)
theorem rd_character {g : xe_G} {m0 : Nat} {q : Nat → Nat} {z : Nat × Nat} {I : rI} {R : rR} {M : mi_H} {ko : Option (Nat × (Nat → Int32))} {k i : Int32} (hR : RS g m0 q z I R M) (hK : KPR ko I R) : pt (mT g) 186 [.ref m0, .int k, .int i] M (fun v M' => ∃ (I' : rI) (R' : rR), v = some (.int (chK ko k i)) ∧ RS g m0 q z I' R' M' ∧ eqI [0] I I' ∧ eqR [] R R' ∧ I' 0 = some 0) := by
  cases ko with
  | none =>
    obtain ⟨kn, h1, h2⟩ := hK
    exact rd_character0 hR h1 h2
  | some r =>
    obtain ⟨h1, h2, -, -, tx, cN, A, E, N, mj, p1, pF, pM, pA, k1, k2, k3, k4, k5, k6, k7, rfl, rfl, -⟩ := hK
    rw [chK_is k7]
    have hN := by2_lt r.2 8
    have hpl := whole_in k7
    have hEP := (EP_of hpl).1
    have h0 := tg_0 hpl
    unfold chI
    by_cases ht : tg r.2 E k.toNatClampNeg = 1
    · have hk0 : ¬ k < 0 := fun h9 => by rw [i32_cl h9, h0] at ht; cases ht
      have e := i32_nn hk0
      obtain ⟨j, ej⟩ : ∃ j, j = k.toNatClampNeg := ⟨_, rfl⟩
      rw [← ej] at e ht ⊢
      have hj : j < 65536 := Nat.not_le.mp (fun h9 => by
        unfold tg at ht
        rw [lk_hi k3.1 (Or.inr (by omega))] at ht
        cases ht)
      subst e
      have hl := tx_len r.2 r.1 E j
      by_cases hi : i < 0 ∨ ¬ i < nI (tX r.2 r.1 E j).length
      · rw [if_neg (fun q => hi.elim q.2.1 (fun h9 => h9 (i32_lt (by omega) q.2.1 q.2.2)))]
        exact rd_characterN hR h1 k4 k5 k6 k1 k2 k3 hEP hN (by2_lt _ _) h2 hj ht hi
      · have hi0 : ¬ i < 0 := fun h9 => hi (Or.inl h9)
        have hi1 : i.toNatClampNeg < (tX r.2 r.1 E j).length := Nat.not_le.mp (fun h9 => hi (Or.inr (fun h8 => by
          have h7 := Int32.lt_iff_toInt_lt.mp h8
          rw [nI_val (by omega)] at h7
          have h6 := i32_to hi0
          omega)))
        rw [if_pos ⟨ht, hi0, hi1⟩]
        have e2 := i32_nn hi0
        obtain ⟨t, et⟩ : ∃ t, t = i.toNatClampNeg := ⟨_, rfl⟩
        rw [← et] at e2 hi1 ⊢
        subst e2
        exact rd_characterI hR h1 k4 k5 k6 k1 k2 k3 hEP hN (by2_lt _ _) h2 hj ht hi1
    · rw [if_neg (fun q => ht q.1)]
      exact rd_characterT hR h1 k4 k5 k6 k1 k2 k3 hEP hN (by2_lt _ _) h2 h0 ht
end
section
/-! the bits of a number, as both sides tell them (my own text) -/
section BIA
variable {f : Nat → Int32} {n : Nat} {E : List (Nat × Nat)} {j : Nat}
def bL4 (f : Nat → Int32) (p : Nat) : Int64 := Int32.toInt64 (nI (by4 f (p + 1)))
def bL8 (f : Nat → Int32) (p : Nat) : Int64 := (nL (by4 f (p + 1)) <<< (Int32.toInt64 32 &&& 63)) ||| nL (by4 f (p + 5))
def plc (E : List (Nat × Nat)) (j : Nat) : Nat := (lk E j).getD 0
def biI (f : Nat → Int32) (E : List (Nat × Nat)) (k : Int32) : Int64 := if tg f E k.toNatClampNeg = 3 ∨ tg f E k.toNatClampNeg = 4 then bL4 f (plc E k.toNatClampNeg) else if tg f E k.toNatClampNeg = 5 ∨ tg f E k.toNatClampNeg = 6 then bL8 f (plc E k.toNatClampNeg) else 0
/-- what is kept tells it -/
def biK (ko : Option (Nat × (Nat → Int32))) (k : Int32) : Int64 := match ko with
  | none => 0
  | some r => match s_whole r.2 r.1 with
    | .inl _ => 0
    | .inr y => biI r.2 y.1 k
theorem biK_is {r : Nat × (Nat → Int32)} {k : Int32} {y : Nat × Nat × Nat × Nat} (h : s_whole r.2 r.1 = .inr (E, y)) : biK (some r) k = biI r.2 E k := by
  show (match s_whole r.2 r.1 with | .inl _ => 0 | .inr y => biI r.2 y.1 k) = _
  rw [h]
theorem nL_bv {x : Nat} : (nL x).toBitVec = BitVec.ofNat 64 x := rfl
theorem l2i_all {p : Nat} : Int64.toInt32 (nL p) = nI p := by
  apply Int32.toBitVec_inj.mp
  rw [Int64.toBitVec_toInt32, nL_bv, nI_bv, BitVec.signExtend_eq_setWidth_of_le _ (by decide)]
  apply BitVec.eq_of_toNat_eq
  simp only [BitVec.toNat_setWidth, BitVec.toNat_ofNat]
  omega
theorem msk32 (i : Nat) (h : i < 64) : (4294967295 : Int64).toBitVec.getLsbD i = decide (i < 32) := by
  have e : (4294967295 : Int64).toBitVec = BitVec.ofNat 64 (2 ^ 32 - 1) := by decide
  rw [e, BitVec.getLsbD_ofNat, Nat.testBit_two_pow_sub_one]
  simp only [h, decide_true, Bool.true_and]
theorem bits8 {a b : Nat} (ha : a < 4294967296) (hb : b < 4294967296) : ((Int32.toInt64 (nI a)) <<< (Int32.toInt64 32 &&& 63)) ||| ((Int32.toInt64 (nI b)) &&& 4294967295) = (nL a <<< (Int32.toInt64 32 &&& 63)) ||| nL b := by
  apply Int64.toBitVec_inj.mp
  have e32 : (Int32.toInt64 32 &&& 63).toBitVec.smod 64 = 32#64 := by decide
  rw [Int64.toBitVec_or, Int64.toBitVec_or, Int64.toBitVec_and, Int64.toBitVec_shiftLeft, Int64.toBitVec_shiftLeft, Int32.toBitVec_toInt64, Int32.toBitVec_toInt64, nI_bv, nI_bv, nL_bv, nL_bv, e32]
  apply BitVec.eq_of_getLsbD_eq
  intro i hi
  have e3 : (32#64).toNat = 32 := by decide
  rw [BitVec.getLsbD_or, BitVec.getLsbD_or, BitVec.getLsbD_and, msk32 i hi, BitVec.shiftLeft_eq', BitVec.shiftLeft_eq', e3, BitVec.getLsbD_shiftLeft, BitVec.getLsbD_shiftLeft]
  by_cases h : i < 32
  · have h2 : (BitVec.signExtend 64 (BitVec.ofNat 32 b)).getLsbD i = (BitVec.ofNat 64 b).getLsbD i := by
      rw [BitVec.getLsbD_signExtend, BitVec.getLsbD_ofNat, BitVec.getLsbD_ofNat]
      simp only [h, hi, decide_true, Bool.true_and, if_true]
    rw [h2]
    simp only [h, decide_true, Bool.not_true, Bool.and_false, Bool.false_and, Bool.false_or, Bool.and_true]
  · have h3 : (BitVec.ofNat 64 b).getLsbD i = false := by
      rw [BitVec.getLsbD_ofNat, Nat.testBit_lt_two_pow (Nat.lt_of_lt_of_le hb (by
        have : 2 ^ 32 ≤ 2 ^ i := Nat.pow_le_pow_right (by decide) (by omega)
        omega))]
      exact Bool.and_false _
    have h4 : (BitVec.signExtend 64 (BitVec.ofNat 32 a)).getLsbD (i - 32) = (BitVec.ofNat 64 a).getLsbD (i - 32) := by
      have q1 : i - 32 < 32 := by omega
      have q2 : i - 32 < 64 := by omega
      rw [BitVec.getLsbD_signExtend, BitVec.getLsbD_ofNat, BitVec.getLsbD_ofNat]
      simp only [q1, q2, decide_true, Bool.true_and, if_true]
    rw [h3, h4]
    simp only [h, decide_false, Bool.and_false, Bool.or_false]
/-- numbers lie within the file -/
def nu1 (f : Nat → Int32) (n p : Nat) : Prop := (by1 f p = 3 ∨ by1 f p = 4 → p + 5 ≤ n) ∧ (by1 f p = 5 ∨ by1 f p = 6 → p + 9 ≤ n)
theorem nums_ok {mj N : Nat} : ∀ {r k p p' : Nat} {E0 E : List (Nat × Nat)}, (∀ q ∈ E0, nu1 f n q.2) → s_ents f n mj N r k p E0 = .inr (p', E) → ∀ q ∈ E, nu1 f n q.2 := by
  intro r
  induction r with
  | zero => intro k p p' E0 E h0 h; cases h; exact h0
  | succ r ih =>
    intro k p p' E0 E h0 h
    unfold s_ents at h
    split at h
    · cases h; exact h0
    · cases he : s_entry f n mj N k p with
      | inl e => rw [he] at h; cases h
      | inr y =>
        obtain ⟨p2, x⟩ := y
        rw [he] at h
        refine ih ?_ h
        intro q hq
        rcases List.mem_append.mp hq with hq | hq
        · exact h0 q hq
        · have e : q = (k, p) := by simpa using hq
          rw [e]
          refine ⟨fun h9 => ?_, fun h9 => ?_⟩
          · refine Nat.not_lt.mp (fun h8 => ?_)
            dsimp only at h9 h8
            unfold s_entry at he
            rw [if_neg (show ¬ ((by1 f p = 5 ∨ by1 f p = 6) ∧ N ≤ k + 1) by omega), if_neg (show ¬ by1 f p = 1 by omega), if_pos h9, if_pos h8] at he
            split at he
            · cases he
            · split at he <;> cases he
          · refine Nat.not_lt.mp (fun h8 => ?_)
            dsimp only at h9 h8
            unfold s_entry at he
            rw [if_neg (show ¬ by1 f p = 1 by omega), if_neg (show ¬ (by1 f p = 3 ∨ by1 f p = 4) by omega), if_pos h9] at he
            repeat' split at he
            all_goals first | cases he | omega
theorem nums_of {mj p' p : Nat} (h : s_pool f n mj = .inr (p', E)) (hp : lk E j = some p) : nu1 f n p := by
  unfold s_pool at h
  split at h
  · cases h
  · split at h
    · cases h
    · exact nums_ok (fun q hq => by cases hq) h _ (lk_in hp)
theorem plc_of {p : Nat} (h : lk E j = some p) : plc E j = p := by
  unfold plc
  rw [h]
  rfl
end BIA
theorem dz_tagOf {g : xe_G} {M : mi_H} {f : Nat → Int32} {n N q : Nat} {E : List (Nat × Nat)} {k : Int32}  (hV : PV g f n N E q M) (h0 : tg f E 0 = 0) : pt (mT g) 138 [.ref q, .int k] M (fun v M' => (v = some (.int (nI (tg f E k.toNatClampNeg))) ∧ M = M')) := by
  obtain ⟨hL9, H, m, qq, F, cc, hP9, hT9, -, hb9, hVF, -⟩ := id hV
  exact (ct_tagOf hP9 (d := 3) (by decide)).pt.mono (fun v M' h => ⟨by rw [h.1, hVF.tagR hb9.1 h0], h.2.symm⟩)
theorem dz_tagPlace {g : xe_G} {M : mi_H} {f : Nat → Int32} {n N q : Nat} {E : List (Nat × Nat)} {k : Int32}  (hV : PV g f n N E q M) : pt (mT g) 139 [.ref q, .int k] M (fun v M' => (∃ (x : Int32), v = some (.int x) ∧ M = M')) := by
  obtain ⟨hL9, H, m, qq, F, cc, hP9, hT9, -, hb9, hVF, -⟩ := id hV
  exact (ct_tagPlace hP9 (d := 3) (by decide)).pt.mono (fun v M' h => ⟨_, h.1, h.2.symm⟩)
set_option maxHeartbeats 1000000 in
theorem dk_bits0 {g : xe_G} {M : mi_H} {o ca fl : Nat} {cn wp k : Int32} (h_o : M.1 o = some (ob 11 [.ref ca, .int cn, .ref fl, .null, .int wp]))  : pt (mT g) 1 [.ref o, .int k] M (fun v M' => (v = some (.long 0) ∧ M = M')) := by
  refine pt_in (b := mb_1 g) rfl (fun kf => ?_)
  show pl (mT g) kf (mb_1 g).2 (0, [(0, .ref o), (1, .int k)], [], M) _
  refine ps_st (S' := (1, [(0, .ref o), (1, .int k)], [.ref o], M)) rfl rfl rfl ?_
  refine ps_get (S' := (4, [(0, .ref o), (1, .int k)], [.null], M)) rfl h_o rfl rfl ?_
  refine ps_st (S' := (7, [(0, .ref o), (1, .int k)], [], M)) rfl rfl rfl ?_
  refine ps_st (S' := (8, [(0, .ref o), (1, .int k)], [.long 0], M)) rfl rfl rfl ?_
  exact ps_ret rfl rfl (⟨rfl, rfl⟩)
set_option maxHeartbeats 1000000 in
theorem dk_bitsT {g : xe_G} {M : mi_H} {f : Nat → Int32} {n N q : Nat} {E : List (Nat × Nat)} {o ca fl c b : Nat} {cn wp : Int32} {w : List Value} {k : Int32} (h_o : M.1 o = some (ob 11 [.ref ca, .int cn, .ref fl, .ref c, .int wp])) (h_c : M.1 c = some (ob 3 (.ref b :: .ref q :: w))) (hV : PV g f n N E q M) (h0 : tg f E 0 = 0) (ht : ¬ (3 ≤ tg f E k.toNatClampNeg ∧ tg f E k.toNatClampNeg ≤ 6)) : pt (mT g) 1 [.ref o, .int k] M (fun v M' => (v = some (.long 0) ∧ M = M')) := by
  refine pt_in (b := mb_1 g) rfl (fun kf => ?_)
  show pl (mT g) kf (mb_1 g).2 (0, [(0, .ref o), (1, .int k)], [], M) _
  obtain ⟨hL9, H, m, qq, F, cc, hP9, -, -, hb9, -⟩ := id hV
  have h_q := hP9.1
  have hN9 := hb9.2.2.1
  have htl9 := tg_lt f E k.toNatClampNeg
  refine ps_st (S' := (1, [(0, .ref o), (1, .int k)], [.ref o], M)) rfl rfl rfl ?_
  refine ps_get (S' := (4, [(0, .ref o), (1, .int k)], [.ref c], M)) rfl h_o rfl rfl ?_
  refine ps_st (S' := (9, [(0, .ref o), (1, .int k)], [], M)) rfl rfl rfl ?_
  refine ps_st (S' := (10, [(0, .ref o), (1, .int k)], [.ref o], M)) rfl rfl rfl ?_
  refine ps_get (S' := (13, [(0, .ref o), (1, .int k)], [.ref c], M)) rfl h_o rfl rfl ?_
  refine ps_get (S' := (16, [(0, .ref o), (1, .int k)], [.ref q], M)) rfl h_c rfl rfl ?_
  refine ps_st (S' := (17, [(0, .ref o), (1, .int k)], [.int k, .ref q], M)) rfl rfl rfl ?_
  refine pl_call (a := [.ref q, .int k]) (rest := []) rfl rfl rfl (dz_tagOf (f := f) (n := n) (N := N) (q := q) (E := E) (k := k) (hV) (h0)) (fun v1 M2 q3 => ?_)
  obtain ⟨rfl, rfl⟩ := q3
  show pl _ _ _ (20, [(0, .ref o), (1, .int k)], [.int (nI (tg f E k.toNatClampNeg))], M) _
  refine ps_st (S' := (21, [(2, .int (nI (tg f E k.toNatClampNeg))), (0, .ref o), (1, .int k)], [], M)) rfl rfl rfl ?_
  refine ps_st (S' := (22, [(2, .int (nI (tg f E k.toNatClampNeg))), (0, .ref o), (1, .int k)], [.ref o], M)) rfl rfl rfl ?_
  refine ps_get (S' := (25, [(2, .int (nI (tg f E k.toNatClampNeg))), (0, .ref o), (1, .int k)], [.ref c], M)) rfl h_o rfl rfl ?_
  refine ps_get (S' := (28, [(2, .int (nI (tg f E k.toNatClampNeg))), (0, .ref o), (1, .int k)], [.ref q], M)) rfl h_c rfl rfl ?_
  refine ps_st (S' := (29, [(2, .int (nI (tg f E k.toNatClampNeg))), (0, .ref o), (1, .int k)], [.int k, .ref q], M)) rfl rfl rfl ?_
  refine pl_call (a := [.ref q, .int k]) (rest := []) rfl rfl rfl (dz_tagPlace (f := f) (n := n) (N := N) (q := q) (E := E) (k := k) (hV)) (fun v4 M5 q6 => ?_)
  obtain ⟨x7, rfl, rfl⟩ := q6
  show pl _ _ _ (32, [(2, .int (nI (tg f E k.toNatClampNeg))), (0, .ref o), (1, .int k)], [.int x7], M) _
  refine ps_st (S' := (33, [(2, .int (nI (tg f E k.toNatClampNeg))), (0, .ref o), (1, .int k)], [.int 1, .int x7], M)) rfl rfl rfl ?_
  refine ps_st (S' := (34, [(2, .int (nI (tg f E k.toNatClampNeg))), (0, .ref o), (1, .int k)], [.int (x7 + 1)], M)) rfl rfl rfl ?_
  refine ps_st (S' := (35, [(3, .int (x7 + 1)), (2, .int (nI (tg f E k.toNatClampNeg))), (0, .ref o), (1, .int k)], [], M)) rfl rfl rfl ?_
  refine ps_st (S' := (36, [(3, .int (x7 + 1)), (2, .int (nI (tg f E k.toNatClampNeg))), (0, .ref o), (1, .int k)], [.int (nI (tg f E k.toNatClampNeg))], M)) rfl rfl rfl ?_
  refine ps_st (S' := (37, [(3, .int (x7 + 1)), (2, .int (nI (tg f E k.toNatClampNeg))), (0, .ref o), (1, .int k)], [.int 3, .int (nI (tg f E k.toNatClampNeg))], M)) rfl rfl rfl ?_
  refine ps_if2 (S1 := (45, [(0, .ref o), (3, .int (x7 + 1))], [], M)) (S2 := (40, [(3, .int (x7 + 1)), (2, .int (nI (tg f E k.toNatClampNeg))), (0, .ref o), (1, .int k)], [], M)) rfl rfl rfl (fun c_37 => ?_) (fun c_37 => ?_)
  · exact absurd (of_decide_eq_true c_37) (fun h9 => ht (by have h8 := (eq_nI (p := tg f E k.toNatClampNeg) (n := 3) (by omega) (by decide)).mp h9; omega))
  refine ps_st (S' := (41, [(3, .int (x7 + 1)), (2, .int (nI (tg f E k.toNatClampNeg))), (0, .ref o), (1, .int k)], [.int (nI (tg f E k.toNatClampNeg))], M)) rfl rfl rfl ?_
  refine ps_st (S' := (42, [(3, .int (x7 + 1)), (2, .int (nI (tg f E k.toNatClampNeg))), (0, .ref o), (1, .int k)], [.int 4, .int (nI (tg f E k.toNatClampNeg))], M)) rfl rfl rfl ?_
  refine ps_if2 (S1 := (58, [(3, .int (x7 + 1)), (2, .int (nI (tg f E k.toNatClampNeg))), (0, .ref o), (1, .int k)], [], M)) (S2 := (45, [(0, .ref o), (3, .int (x7 + 1))], [], M)) rfl rfl rfl (fun c_42 => ?_) (fun c_42 => ?_)
  rotate_left
  · exact absurd (show ¬ (nI (tg f E k.toNatClampNeg)) = 4 from fun h9 => ht (by have h8 := (eq_nI (p := tg f E k.toNatClampNeg) (n := 4) (by omega) (by decide)).mp h9; omega)) (of_decide_eq_false c_42)
  refine ps_st (S' := (59, [(3, .int (x7 + 1)), (2, .int (nI (tg f E k.toNatClampNeg))), (0, .ref o), (1, .int k)], [.int (nI (tg f E k.toNatClampNeg))], M)) rfl rfl rfl ?_
  refine ps_st (S' := (60, [(3, .int (x7 + 1)), (2, .int (nI (tg f E k.toNatClampNeg))), (0, .ref o), (1, .int k)], [.int 5, .int (nI (tg f E k.toNatClampNeg))], M)) rfl rfl rfl ?_
  refine ps_if2 (S1 := (69, [(0, .ref o), (3, .int (x7 + 1))], [], M)) (S2 := (63, [(3, .int (x7 + 1)), (2, .int (nI (tg f E k.toNatClampNeg))), (0, .ref o), (1, .int k)], [], M)) rfl rfl rfl (fun c_60 => ?_) (fun c_60 => ?_)
  · exact absurd (of_decide_eq_true c_60) (fun h9 => ht (by have h8 := (eq_nI (p := tg f E k.toNatClampNeg) (n := 5) (by omega) (by decide)).mp h9; omega))
  refine ps_st (S' := (64, [(3, .int (x7 + 1)), (2, .int (nI (tg f E k.toNatClampNeg))), (0, .ref o), (1, .int k)], [.int (nI (tg f E k.toNatClampNeg))], M)) rfl rfl rfl ?_
  refine ps_st (S' := (66, [(3, .int (x7 + 1)), (2, .int (nI (tg f E k.toNatClampNeg))), (0, .ref o), (1, .int k)], [.int 6, .int (nI (tg f E k.toNatClampNeg))], M)) rfl rfl rfl ?_
  refine ps_if2 (S1 := (104, [(3, .int (x7 + 1)), (2, .int (nI (tg f E k.toNatClampNeg))), (0, .ref o), (1, .int k)], [], M)) (S2 := (69, [(0, .ref o), (3, .int (x7 + 1))], [], M)) rfl rfl rfl (fun c_66 => ?_) (fun c_66 => ?_)
  rotate_left
  · exact absurd (show ¬ (nI (tg f E k.toNatClampNeg)) = 6 from fun h9 => ht (by have h8 := (eq_nI (p := tg f E k.toNatClampNeg) (n := 6) (by omega) (by decide)).mp h9; omega)) (of_decide_eq_false c_66)
  refine ps_st (S' := (105, [(3, .int (x7 + 1)), (2, .int (nI (tg f E k.toNatClampNeg))), (0, .ref o), (1, .int k)], [.long 0], M)) rfl rfl rfl ?_
  exact ps_ret rfl rfl (⟨rfl, rfl⟩)
set_option maxHeartbeats 1000000 in
theorem dk_bits4 {g : xe_G} {M : mi_H} {f : Nat → Int32} {n N q : Nat} {E : List (Nat × Nat)} {o ca fl c b : Nat} {cn wp : Int32} {w : List Value} {da j p : Nat} (h_o : M.1 o = some (ob 11 [.ref ca, .int cn, .ref fl, .ref c, .int wp])) (h_c : M.1 c = some (ob 3 (.ref b :: .ref q :: w))) (h_b : M.1 b = some (ob 1 [.ref da])) (h_da : M.1 da = some (ar .byte n f)) (hV : PV g f n N E q M) (hj : j < 65536) (hn : n ≤ 65540) (hp : lk E j = some p) (htt : tg f E j = 3 ∨ tg f E j = 4) (hin : p + 5 ≤ n) : pt (mT g) 1 [.ref o, .int (nI j)] M (fun v M' => (v = some (.long (bL4 f p)) ∧ M = M')) := by
  refine pt_in (b := mb_1 g) rfl (fun kf => ?_)
  show pl (mT g) kf (mb_1 g).2 (0, [(0, .ref o), (1, .int (nI j))], [], M) _
  obtain ⟨hL9, H, m, qq, F, cc, hP9, -, -, hb9, -⟩ := id hV
  have h_q := hP9.1
  have hN9 := hb9.2.2.1
  have htl9 := tg_lt f E j
  refine ps_st (S' := (1, [(0, .ref o), (1, .int (nI j))], [.ref o], M)) rfl rfl rfl ?_
  refine ps_get (S' := (4, [(0, .ref o), (1, .int (nI j))], [.ref c], M)) rfl h_o rfl rfl ?_
  refine ps_st (S' := (9, [(0, .ref o), (1, .int (nI j))], [], M)) rfl rfl rfl ?_
  refine ps_st (S' := (10, [(0, .ref o), (1, .int (nI j))], [.ref o], M)) rfl rfl rfl ?_
  refine ps_get (S' := (13, [(0, .ref o), (1, .int (nI j))], [.ref c], M)) rfl h_o rfl rfl ?_
  refine ps_get (S' := (16, [(0, .ref o), (1, .int (nI j))], [.ref q], M)) rfl h_c rfl rfl ?_
  refine ps_st (S' := (17, [(0, .ref o), (1, .int (nI j))], [.int (nI j), .ref q], M)) rfl rfl rfl ?_
  refine pl_call (a := [.ref q, .int (nI j)]) (rest := []) rfl rfl rfl (dy_tagOf (f := f) (n := n) (N := N) (q := q) (E := E) (j := j) (hV) (hj)) (fun v1 M2 q3 => ?_)
  obtain ⟨rfl, rfl⟩ := q3
  show pl _ _ _ (20, [(0, .ref o), (1, .int (nI j))], [.int (nI (tg f E j))], M) _
  refine ps_st (S' := (21, [(2, .int (nI (tg f E j))), (0, .ref o), (1, .int (nI j))], [], M)) rfl rfl rfl ?_
  refine ps_st (S' := (22, [(2, .int (nI (tg f E j))), (0, .ref o), (1, .int (nI j))], [.ref o], M)) rfl rfl rfl ?_
  refine ps_get (S' := (25, [(2, .int (nI (tg f E j))), (0, .ref o), (1, .int (nI j))], [.ref c], M)) rfl h_o rfl rfl ?_
  refine ps_get (S' := (28, [(2, .int (nI (tg f E j))), (0, .ref o), (1, .int (nI j))], [.ref q], M)) rfl h_c rfl rfl ?_
  refine ps_st (S' := (29, [(2, .int (nI (tg f E j))), (0, .ref o), (1, .int (nI j))], [.int (nI j), .ref q], M)) rfl rfl rfl ?_
  refine pl_call (a := [.ref q, .int (nI j)]) (rest := []) rfl rfl rfl (dy_tagPlace (f := f) (n := n) (N := N) (q := q) (E := E) (j := j) (p := p) (hV) (hj) (hp) (by omega)) (fun v4 M5 q6 => ?_)
  obtain ⟨rfl, rfl⟩ := q6
  show pl _ _ _ (32, [(2, .int (nI (tg f E j))), (0, .ref o), (1, .int (nI j))], [.int (nI (p))], M) _
  refine ps_st (S' := (33, [(2, .int (nI (tg f E j))), (0, .ref o), (1, .int (nI j))], [.int 1, .int (nI (p))], M)) rfl rfl rfl ?_
  refine ps_st (S' := (34, [(2, .int (nI (tg f E j))), (0, .ref o), (1, .int (nI j))], [.int ((nI (p)) + 1)], M)) rfl rfl rfl ?_
  rw [nI_add1 (p := p) (k := 1) (x := 1) rfl (by omega)]
  show pl _ _ _ (_, [(2, .int (nI (tg f E j))), (0, .ref o), (1, .int (nI j))], [.int (nI (p + 1))], M) _
  refine ps_st (S' := (35, [(3, .int (nI (p + 1))), (2, .int (nI (tg f E j))), (0, .ref o), (1, .int (nI j))], [], M)) rfl rfl rfl ?_
  refine ps_st (S' := (36, [(3, .int (nI (p + 1))), (2, .int (nI (tg f E j))), (0, .ref o), (1, .int (nI j))], [.int (nI (tg f E j))], M)) rfl rfl rfl ?_
  refine ps_st (S' := (37, [(3, .int (nI (p + 1))), (2, .int (nI (tg f E j))), (0, .ref o), (1, .int (nI j))], [.int 3, .int (nI (tg f E j))], M)) rfl rfl rfl ?_
  refine ps_if2 (S1 := (45, [(0, .ref o), (3, .int (nI (p + 1)))], [], M)) (S2 := (40, [(3, .int (nI (p + 1))), (2, .int (nI (tg f E j))), (0, .ref o), (1, .int (nI j))], [], M)) rfl rfl rfl (fun c_37 => ?_) (fun c_37 => ?_)
  · have c_37 : (nI (tg f E j)) = 3 := of_decide_eq_true c_37
    have n_37 : tg f E j = 3 := (eq_nI (p := tg f E j) (n := 3) (Nat.lt_trans (tg_lt _ _ _) (by decide)) (by decide)).mp c_37
    refine ps_st (S' := (46, [(0, .ref o), (3, .int (nI (p + 1)))], [.ref o], M)) rfl rfl rfl ?_
    refine ps_get (S' := (49, [(0, .ref o), (3, .int (nI (p + 1)))], [.ref c], M)) rfl h_o rfl rfl ?_
    refine ps_get (S' := (52, [(0, .ref o), (3, .int (nI (p + 1)))], [.ref b], M)) rfl h_c rfl rfl ?_
    refine ps_st (S' := (53, [(0, .ref o), (3, .int (nI (p + 1)))], [.int (nI (p + 1)), .ref b], M)) rfl rfl rfl ?_
    refine pl_call (a := [.ref b, .int (nI (p + 1))]) (rest := []) rfl rfl rfl (dk_u4 (f := f) (n := n) (b := b) (da := da) (p := (p + 1)) h_b h_da (hn) (by omega)) (fun v7 M8 q9 => ?_)
    obtain ⟨rfl, rfl⟩ := q9
    show pl _ _ _ (56, [(0, .ref o), (3, .int (nI (p + 1)))], [.int (nI (by4 f (p + 1)))], M) _
    refine ps_st (S' := (57, [(0, .ref o), (3, .int (nI (p + 1)))], [.long (Int32.toInt64 (nI (by4 f (p + 1))))], M)) rfl rfl rfl ?_
    exact ps_ret rfl rfl (⟨rfl, rfl⟩)
  · have c_37 : ¬ ((nI (tg f E j)) = 3) := of_decide_eq_false c_37
    have n_37 : ¬ (tg f E j = 3) := fun h9 => c_37 ((eq_nI (p := tg f E j) (n := 3) (Nat.lt_trans (tg_lt _ _ _) (by decide)) (by decide)).mpr h9)
    refine ps_st (S' := (41, [(3, .int (nI (p + 1))), (2, .int (nI (tg f E j))), (0, .ref o), (1, .int (nI j))], [.int (nI (tg f E j))], M)) rfl rfl rfl ?_
    refine ps_st (S' := (42, [(3, .int (nI (p + 1))), (2, .int (nI (tg f E j))), (0, .ref o), (1, .int (nI j))], [.int 4, .int (nI (tg f E j))], M)) rfl rfl rfl ?_
    refine ps_if2 (S1 := (58, [(3, .int (nI (p + 1))), (2, .int (nI (tg f E j))), (0, .ref o), (1, .int (nI j))], [], M)) (S2 := (45, [(0, .ref o), (3, .int (nI (p + 1)))], [], M)) rfl rfl rfl (fun c_42 => ?_) (fun c_42 => ?_)
    · exact absurd (of_decide_eq_true c_42) (fun h9 => h9 ((eq_nI (p := tg f E j) (n := 4) (Nat.lt_trans (tg_lt _ _ _) (by decide)) (by decide)).mpr (by omega)))
    refine ps_st (S' := (46, [(0, .ref o), (3, .int (nI (p + 1)))], [.ref o], M)) rfl rfl rfl ?_
    refine ps_get (S' := (49, [(0, .ref o), (3, .int (nI (p + 1)))], [.ref c], M)) rfl h_o rfl rfl ?_
    refine ps_get (S' := (52, [(0, .ref o), (3, .int (nI (p + 1)))], [.ref b], M)) rfl h_c rfl rfl ?_
    refine ps_st (S' := (53, [(0, .ref o), (3, .int (nI (p + 1)))], [.int (nI (p + 1)), .ref b], M)) rfl rfl rfl ?_
    refine pl_call (a := [.ref b, .int (nI (p + 1))]) (rest := []) rfl rfl rfl (dk_u4 (f := f) (n := n) (b := b) (da := da) (p := (p + 1)) h_b h_da (hn) (by omega)) (fun v10 M11 q12 => ?_)
    obtain ⟨rfl, rfl⟩ := q12
    show pl _ _ _ (56, [(0, .ref o), (3, .int (nI (p + 1)))], [.int (nI (by4 f (p + 1)))], M) _
    refine ps_st (S' := (57, [(0, .ref o), (3, .int (nI (p + 1)))], [.long (Int32.toInt64 (nI (by4 f (p + 1))))], M)) rfl rfl rfl ?_
    exact ps_ret rfl rfl (⟨rfl, rfl⟩)
set_option maxHeartbeats 1000000 in
theorem dk_bits8 {g : xe_G} {M : mi_H} {f : Nat → Int32} {n N q : Nat} {E : List (Nat × Nat)} {o ca fl c b : Nat} {cn wp : Int32} {w : List Value} {da j p : Nat} (h_o : M.1 o = some (ob 11 [.ref ca, .int cn, .ref fl, .ref c, .int wp])) (h_c : M.1 c = some (ob 3 (.ref b :: .ref q :: w))) (h_b : M.1 b = some (ob 1 [.ref da])) (h_da : M.1 da = some (ar .byte n f)) (hV : PV g f n N E q M) (hj : j < 65536) (hn : n ≤ 65540) (hp : lk E j = some p) (htt : tg f E j = 5 ∨ tg f E j = 6) (hin : p + 9 ≤ n) : pt (mT g) 1 [.ref o, .int (nI j)] M (fun v M' => (v = some (.long (bL8 f p)) ∧ M = M')) := by
  refine pt_in (b := mb_1 g) rfl (fun kf => ?_)
  show pl (mT g) kf (mb_1 g).2 (0, [(0, .ref o), (1, .int (nI j))], [], M) _
  obtain ⟨hL9, H, m, qq, F, cc, hP9, -, -, hb9, -⟩ := id hV
  have h_q := hP9.1
  have hN9 := hb9.2.2.1
  have htl9 := tg_lt f E j
  refine ps_st (S' := (1, [(0, .ref o), (1, .int (nI j))], [.ref o], M)) rfl rfl rfl ?_
  refine ps_get (S' := (4, [(0, .ref o), (1, .int (nI j))], [.ref c], M)) rfl h_o rfl rfl ?_
  refine ps_st (S' := (9, [(0, .ref o), (1, .int (nI j))], [], M)) rfl rfl rfl ?_
  refine ps_st (S' := (10, [(0, .ref o), (1, .int (nI j))], [.ref o], M)) rfl rfl rfl ?_
  refine ps_get (S' := (13, [(0, .ref o), (1, .int (nI j))], [.ref c], M)) rfl h_o rfl rfl ?_
  refine ps_get (S' := (16, [(0, .ref o), (1, .int (nI j))], [.ref q], M)) rfl h_c rfl rfl ?_
  refine ps_st (S' := (17, [(0, .ref o), (1, .int (nI j))], [.int (nI j), .ref q], M)) rfl rfl rfl ?_
  refine pl_call (a := [.ref q, .int (nI j)]) (rest := []) rfl rfl rfl (dy_tagOf (f := f) (n := n) (N := N) (q := q) (E := E) (j := j) (hV) (hj)) (fun v1 M2 q3 => ?_)
  obtain ⟨rfl, rfl⟩ := q3
  show pl _ _ _ (20, [(0, .ref o), (1, .int (nI j))], [.int (nI (tg f E j))], M) _
  refine ps_st (S' := (21, [(2, .int (nI (tg f E j))), (0, .ref o), (1, .int (nI j))], [], M)) rfl rfl rfl ?_
  refine ps_st (S' := (22, [(2, .int (nI (tg f E j))), (0, .ref o), (1, .int (nI j))], [.ref o], M)) rfl rfl rfl ?_
  refine ps_get (S' := (25, [(2, .int (nI (tg f E j))), (0, .ref o), (1, .int (nI j))], [.ref c], M)) rfl h_o rfl rfl ?_
  refine ps_get (S' := (28, [(2, .int (nI (tg f E j))), (0, .ref o), (1, .int (nI j))], [.ref q], M)) rfl h_c rfl rfl ?_
  refine ps_st (S' := (29, [(2, .int (nI (tg f E j))), (0, .ref o), (1, .int (nI j))], [.int (nI j), .ref q], M)) rfl rfl rfl ?_
  refine pl_call (a := [.ref q, .int (nI j)]) (rest := []) rfl rfl rfl (dy_tagPlace (f := f) (n := n) (N := N) (q := q) (E := E) (j := j) (p := p) (hV) (hj) (hp) (by omega)) (fun v4 M5 q6 => ?_)
  obtain ⟨rfl, rfl⟩ := q6
  show pl _ _ _ (32, [(2, .int (nI (tg f E j))), (0, .ref o), (1, .int (nI j))], [.int (nI (p))], M) _
  refine ps_st (S' := (33, [(2, .int (nI (tg f E j))), (0, .ref o), (1, .int (nI j))], [.int 1, .int (nI (p))], M)) rfl rfl rfl ?_
  refine ps_st (S' := (34, [(2, .int (nI (tg f E j))), (0, .ref o), (1, .int (nI j))], [.int ((nI (p)) + 1)], M)) rfl rfl rfl ?_
  rw [nI_add1 (p := p) (k := 1) (x := 1) rfl (by omega)]
  show pl _ _ _ (_, [(2, .int (nI (tg f E j))), (0, .ref o), (1, .int (nI j))], [.int (nI (p + 1))], M) _
  refine ps_st (S' := (35, [(3, .int (nI (p + 1))), (2, .int (nI (tg f E j))), (0, .ref o), (1, .int (nI j))], [], M)) rfl rfl rfl ?_
  refine ps_st (S' := (36, [(3, .int (nI (p + 1))), (2, .int (nI (tg f E j))), (0, .ref o), (1, .int (nI j))], [.int (nI (tg f E j))], M)) rfl rfl rfl ?_
  refine ps_st (S' := (37, [(3, .int (nI (p + 1))), (2, .int (nI (tg f E j))), (0, .ref o), (1, .int (nI j))], [.int 3, .int (nI (tg f E j))], M)) rfl rfl rfl ?_
  refine ps_if2 (S1 := (45, [(0, .ref o), (3, .int (nI (p + 1)))], [], M)) (S2 := (40, [(3, .int (nI (p + 1))), (2, .int (nI (tg f E j))), (0, .ref o), (1, .int (nI j))], [], M)) rfl rfl rfl (fun c_37 => ?_) (fun c_37 => ?_)
  · exact absurd (of_decide_eq_true c_37) (show ¬ ((nI (tg f E j)) = 3) from fun h9 => absurd ((eq_nI (p := tg f E j) (n := 3) (Nat.lt_trans (tg_lt _ _ _) (by decide)) (by decide)).mp h9) (by omega))
  refine ps_st (S' := (41, [(3, .int (nI (p + 1))), (2, .int (nI (tg f E j))), (0, .ref o), (1, .int (nI j))], [.int (nI (tg f E j))], M)) rfl rfl rfl ?_
  refine ps_st (S' := (42, [(3, .int (nI (p + 1))), (2, .int (nI (tg f E j))), (0, .ref o), (1, .int (nI j))], [.int 4, .int (nI (tg f E j))], M)) rfl rfl rfl ?_
  refine ps_if2 (S1 := (58, [(3, .int (nI (p + 1))), (2, .int (nI (tg f E j))), (0, .ref o), (1, .int (nI j))], [], M)) (S2 := (45, [(0, .ref o), (3, .int (nI (p + 1)))], [], M)) rfl rfl rfl (fun c_42 => ?_) (fun c_42 => ?_)
  rotate_left
  · exact absurd (show ¬ ((nI (tg f E j)) = 4) from fun h9 => absurd ((eq_nI (p := tg f E j) (n := 4) (Nat.lt_trans (tg_lt _ _ _) (by decide)) (by decide)).mp h9) (by omega)) (of_decide_eq_false c_42)
  refine ps_st (S' := (59, [(3, .int (nI (p + 1))), (2, .int (nI (tg f E j))), (0, .ref o), (1, .int (nI j))], [.int (nI (tg f E j))], M)) rfl rfl rfl ?_
  refine ps_st (S' := (60, [(3, .int (nI (p + 1))), (2, .int (nI (tg f E j))), (0, .ref o), (1, .int (nI j))], [.int 5, .int (nI (tg f E j))], M)) rfl rfl rfl ?_
  refine ps_if2 (S1 := (69, [(0, .ref o), (3, .int (nI (p + 1)))], [], M)) (S2 := (63, [(3, .int (nI (p + 1))), (2, .int (nI (tg f E j))), (0, .ref o), (1, .int (nI j))], [], M)) rfl rfl rfl (fun c_60 => ?_) (fun c_60 => ?_)
  · have c_60 : (nI (tg f E j)) = 5 := of_decide_eq_true c_60
    have n_60 : tg f E j = 5 := (eq_nI (p := tg f E j) (n := 5) (Nat.lt_trans (tg_lt _ _ _) (by decide)) (by decide)).mp c_60
    refine ps_st (S' := (70, [(0, .ref o), (3, .int (nI (p + 1)))], [.ref o], M)) rfl rfl rfl ?_
    refine ps_get (S' := (73, [(0, .ref o), (3, .int (nI (p + 1)))], [.ref c], M)) rfl h_o rfl rfl ?_
    refine ps_get (S' := (76, [(0, .ref o), (3, .int (nI (p + 1)))], [.ref b], M)) rfl h_c rfl rfl ?_
    refine ps_st (S' := (77, [(0, .ref o), (3, .int (nI (p + 1)))], [.int (nI (p + 1)), .ref b], M)) rfl rfl rfl ?_
    refine pl_call (a := [.ref b, .int (nI (p + 1))]) (rest := []) rfl rfl rfl (dk_u4 (f := f) (n := n) (b := b) (da := da) (p := (p + 1)) h_b h_da (hn) (by omega)) (fun v7 M8 q9 => ?_)
    obtain ⟨rfl, rfl⟩ := q9
    show pl _ _ _ (80, [(0, .ref o), (3, .int (nI (p + 1)))], [.int (nI (by4 f (p + 1)))], M) _
    refine ps_st (S' := (81, [(0, .ref o), (3, .int (nI (p + 1)))], [.long (Int32.toInt64 (nI (by4 f (p + 1))))], M)) rfl rfl rfl ?_
    refine ps_st (S' := (83, [(0, .ref o), (3, .int (nI (p + 1)))], [.int 32, .long (Int32.toInt64 (nI (by4 f (p + 1))))], M)) rfl rfl rfl ?_
    refine ps_st (S' := (84, [(0, .ref o), (3, .int (nI (p + 1)))], [.long ((Int32.toInt64 (nI (by4 f (p + 1)))) <<< (Int32.toInt64 32 &&& 63))], M)) rfl rfl rfl ?_
    refine ps_st (S' := (85, [(0, .ref o), (3, .int (nI (p + 1)))], [.ref o, .long ((Int32.toInt64 (nI (by4 f (p + 1)))) <<< (Int32.toInt64 32 &&& 63))], M)) rfl rfl rfl ?_
    refine ps_get (S' := (88, [(0, .ref o), (3, .int (nI (p + 1)))], [.ref c, .long ((Int32.toInt64 (nI (by4 f (p + 1)))) <<< (Int32.toInt64 32 &&& 63))], M)) rfl h_o rfl rfl ?_
    refine ps_get (S' := (91, [(0, .ref o), (3, .int (nI (p + 1)))], [.ref b, .long ((Int32.toInt64 (nI (by4 f (p + 1)))) <<< (Int32.toInt64 32 &&& 63))], M)) rfl h_c rfl rfl ?_
    refine ps_st (S' := (92, [(0, .ref o), (3, .int (nI (p + 1)))], [.int (nI (p + 1)), .ref b, .long ((Int32.toInt64 (nI (by4 f (p + 1)))) <<< (Int32.toInt64 32 &&& 63))], M)) rfl rfl rfl ?_
    refine ps_st (S' := (93, [(0, .ref o), (3, .int (nI (p + 1)))], [.int 4, .int (nI (p + 1)), .ref b, .long ((Int32.toInt64 (nI (by4 f (p + 1)))) <<< (Int32.toInt64 32 &&& 63))], M)) rfl rfl rfl ?_
    refine ps_st (S' := (94, [(0, .ref o), (3, .int (nI (p + 1)))], [.int ((nI (p + 1)) + 4), .ref b, .long ((Int32.toInt64 (nI (by4 f (p + 1)))) <<< (Int32.toInt64 32 &&& 63))], M)) rfl rfl rfl ?_
    rw [nI_add1 (p := p + 1) (k := 4) (x := 4) rfl (by omega)]
    show pl _ _ _ (_, [(0, .ref o), (3, .int (nI (p + 1)))], [.int (nI (p + 5)), .ref b, .long ((Int32.toInt64 (nI (by4 f (p + 1)))) <<< (Int32.toInt64 32 &&& 63))], M) _
    refine pl_call (a := [.ref b, .int (nI (p + 5))]) (rest := [.long ((Int32.toInt64 (nI (by4 f (p + 1)))) <<< (Int32.toInt64 32 &&& 63))]) rfl rfl rfl (dk_u4 (f := f) (n := n) (b := b) (da := da) (p := (p + 5)) h_b h_da (hn) (by omega)) (fun v10 M11 q12 => ?_)
    obtain ⟨rfl, rfl⟩ := q12
    show pl _ _ _ (97, [(0, .ref o), (3, .int (nI (p + 1)))], [.int (nI (by4 f (p + 5))), .long ((Int32.toInt64 (nI (by4 f (p + 1)))) <<< (Int32.toInt64 32 &&& 63))], M) _
    refine ps_st (S' := (98, [(0, .ref o), (3, .int (nI (p + 1)))], [.long (Int32.toInt64 (nI (by4 f (p + 5)))), .long ((Int32.toInt64 (nI (by4 f (p + 1)))) <<< (Int32.toInt64 32 &&& 63))], M)) rfl rfl rfl ?_
    refine ps_st (S' := (101, [(0, .ref o), (3, .int (nI (p + 1)))], [.long 4294967295, .long (Int32.toInt64 (nI (by4 f (p + 5)))), .long ((Int32.toInt64 (nI (by4 f (p + 1)))) <<< (Int32.toInt64 32 &&& 63))], M)) rfl rfl rfl ?_
    refine ps_st (S' := (102, [(0, .ref o), (3, .int (nI (p + 1)))], [.long ((Int32.toInt64 (nI (by4 f (p + 5)))) &&& 4294967295), .long ((Int32.toInt64 (nI (by4 f (p + 1)))) <<< (Int32.toInt64 32 &&& 63))], M)) rfl rfl rfl ?_
    refine ps_st (S' := (103, [(0, .ref o), (3, .int (nI (p + 1)))], [.long (((Int32.toInt64 (nI (by4 f (p + 1)))) <<< (Int32.toInt64 32 &&& 63)) ||| ((Int32.toInt64 (nI (by4 f (p + 5)))) &&& 4294967295))], M)) rfl rfl rfl ?_
    exact ps_ret rfl rfl (⟨congrArg (fun x => some (Value.long x)) (bits8 (by4_lt _ _) (by4_lt _ _)), rfl⟩)
  · have c_60 : ¬ ((nI (tg f E j)) = 5) := of_decide_eq_false c_60
    have n_60 : ¬ (tg f E j = 5) := fun h9 => c_60 ((eq_nI (p := tg f E j) (n := 5) (Nat.lt_trans (tg_lt _ _ _) (by decide)) (by decide)).mpr h9)
    refine ps_st (S' := (64, [(3, .int (nI (p + 1))), (2, .int (nI (tg f E j))), (0, .ref o), (1, .int (nI j))], [.int (nI (tg f E j))], M)) rfl rfl rfl ?_
    refine ps_st (S' := (66, [(3, .int (nI (p + 1))), (2, .int (nI (tg f E j))), (0, .ref o), (1, .int (nI j))], [.int 6, .int (nI (tg f E j))], M)) rfl rfl rfl ?_
    refine ps_if2 (S1 := (104, [(3, .int (nI (p + 1))), (2, .int (nI (tg f E j))), (0, .ref o), (1, .int (nI j))], [], M)) (S2 := (69, [(0, .ref o), (3, .int (nI (p + 1)))], [], M)) rfl rfl rfl (fun c_66 => ?_) (fun c_66 => ?_)
    · exact absurd (of_decide_eq_true c_66) (fun h9 => h9 ((eq_nI (p := tg f E j) (n := 6) (Nat.lt_trans (tg_lt _ _ _) (by decide)) (by decide)).mpr (by omega)))
    refine ps_st (S' := (70, [(0, .ref o), (3, .int (nI (p + 1)))], [.ref o], M)) rfl rfl rfl ?_
    refine ps_get (S' := (73, [(0, .ref o), (3, .int (nI (p + 1)))], [.ref c], M)) rfl h_o rfl rfl ?_
    refine ps_get (S' := (76, [(0, .ref o), (3, .int (nI (p + 1)))], [.ref b], M)) rfl h_c rfl rfl ?_
    refine ps_st (S' := (77, [(0, .ref o), (3, .int (nI (p + 1)))], [.int (nI (p + 1)), .ref b], M)) rfl rfl rfl ?_
    refine pl_call (a := [.ref b, .int (nI (p + 1))]) (rest := []) rfl rfl rfl (dk_u4 (f := f) (n := n) (b := b) (da := da) (p := (p + 1)) h_b h_da (hn) (by omega)) (fun v13 M14 q15 => ?_)
    obtain ⟨rfl, rfl⟩ := q15
    show pl _ _ _ (80, [(0, .ref o), (3, .int (nI (p + 1)))], [.int (nI (by4 f (p + 1)))], M) _
    refine ps_st (S' := (81, [(0, .ref o), (3, .int (nI (p + 1)))], [.long (Int32.toInt64 (nI (by4 f (p + 1))))], M)) rfl rfl rfl ?_
    refine ps_st (S' := (83, [(0, .ref o), (3, .int (nI (p + 1)))], [.int 32, .long (Int32.toInt64 (nI (by4 f (p + 1))))], M)) rfl rfl rfl ?_
    refine ps_st (S' := (84, [(0, .ref o), (3, .int (nI (p + 1)))], [.long ((Int32.toInt64 (nI (by4 f (p + 1)))) <<< (Int32.toInt64 32 &&& 63))], M)) rfl rfl rfl ?_
    refine ps_st (S' := (85, [(0, .ref o), (3, .int (nI (p + 1)))], [.ref o, .long ((Int32.toInt64 (nI (by4 f (p + 1)))) <<< (Int32.toInt64 32 &&& 63))], M)) rfl rfl rfl ?_
    refine ps_get (S' := (88, [(0, .ref o), (3, .int (nI (p + 1)))], [.ref c, .long ((Int32.toInt64 (nI (by4 f (p + 1)))) <<< (Int32.toInt64 32 &&& 63))], M)) rfl h_o rfl rfl ?_
    refine ps_get (S' := (91, [(0, .ref o), (3, .int (nI (p + 1)))], [.ref b, .long ((Int32.toInt64 (nI (by4 f (p + 1)))) <<< (Int32.toInt64 32 &&& 63))], M)) rfl h_c rfl rfl ?_
    refine ps_st (S' := (92, [(0, .ref o), (3, .int (nI (p + 1)))], [.int (nI (p + 1)), .ref b, .long ((Int32.toInt64 (nI (by4 f (p + 1)))) <<< (Int32.toInt64 32 &&& 63))], M)) rfl rfl rfl ?_
    refine ps_st (S' := (93, [(0, .ref o), (3, .int (nI (p + 1)))], [.int 4, .int (nI (p + 1)), .ref b, .long ((Int32.toInt64 (nI (by4 f (p + 1)))) <<< (Int32.toInt64 32 &&& 63))], M)) rfl rfl rfl ?_
    refine ps_st (S' := (94, [(0, .ref o), (3, .int (nI (p + 1)))], [.int ((nI (p + 1)) + 4), .ref b, .long ((Int32.toInt64 (nI (by4 f (p + 1)))) <<< (Int32.toInt64 32 &&& 63))], M)) rfl rfl rfl ?_
    rw [nI_add1 (p := p + 1) (k := 4) (x := 4) rfl (by omega)]
    show pl _ _ _ (_, [(0, .ref o), (3, .int (nI (p + 1)))], [.int (nI (p + 5)), .ref b, .long ((Int32.toInt64 (nI (by4 f (p + 1)))) <<< (Int32.toInt64 32 &&& 63))], M) _
    refine pl_call (a := [.ref b, .int (nI (p + 5))]) (rest := [.long ((Int32.toInt64 (nI (by4 f (p + 1)))) <<< (Int32.toInt64 32 &&& 63))]) rfl rfl rfl (dk_u4 (f := f) (n := n) (b := b) (da := da) (p := (p + 5)) h_b h_da (hn) (by omega)) (fun v16 M17 q18 => ?_)
    obtain ⟨rfl, rfl⟩ := q18
    show pl _ _ _ (97, [(0, .ref o), (3, .int (nI (p + 1)))], [.int (nI (by4 f (p + 5))), .long ((Int32.toInt64 (nI (by4 f (p + 1)))) <<< (Int32.toInt64 32 &&& 63))], M) _
    refine ps_st (S' := (98, [(0, .ref o), (3, .int (nI (p + 1)))], [.long (Int32.toInt64 (nI (by4 f (p + 5)))), .long ((Int32.toInt64 (nI (by4 f (p + 1)))) <<< (Int32.toInt64 32 &&& 63))], M)) rfl rfl rfl ?_
    refine ps_st (S' := (101, [(0, .ref o), (3, .int (nI (p + 1)))], [.long 4294967295, .long (Int32.toInt64 (nI (by4 f (p + 5)))), .long ((Int32.toInt64 (nI (by4 f (p + 1)))) <<< (Int32.toInt64 32 &&& 63))], M)) rfl rfl rfl ?_
    refine ps_st (S' := (102, [(0, .ref o), (3, .int (nI (p + 1)))], [.long ((Int32.toInt64 (nI (by4 f (p + 5)))) &&& 4294967295), .long ((Int32.toInt64 (nI (by4 f (p + 1)))) <<< (Int32.toInt64 32 &&& 63))], M)) rfl rfl rfl ?_
    refine ps_st (S' := (103, [(0, .ref o), (3, .int (nI (p + 1)))], [.long (((Int32.toInt64 (nI (by4 f (p + 1)))) <<< (Int32.toInt64 32 &&& 63)) ||| ((Int32.toInt64 (nI (by4 f (p + 5)))) &&& 4294967295))], M)) rfl rfl rfl ?_
    exact ps_ret rfl rfl (⟨congrArg (fun x => some (Value.long x)) (bits8 (by4_lt _ _) (by4_lt _ _)), rfl⟩)
theorem dk_bits {g : xe_G} {M : mi_H} {ko : Option (Nat × (Nat → Int32))} {kv : Value} {cm o fl : Nat} {cn wp k : Int32} (hx : M.1 o = some (ob 11 [.ref cm, .int cn, .ref fl, kv, .int wp])) (hK : KPC g ko kv cm M) : pt (mT g) 1 [.ref o, .int k] M (fun v M' => v = some (.long (biK ko k)) ∧ M = M') := by
  cases ko with
  | none =>
    have e : kv = .null := hK
    subst e
    exact dk_bits0 hx
  | some r =>
    obtain ⟨c, da, rfl, ⟨b, q, N, E, p1, pF, pM, pA, w, h1, h2, h3, h4, h5, rfl, h6, h7, -⟩, -, -⟩ := hK
    rw [biK_is h5]
    have hpl := whole_in h5
    have h0 := tg_0 hpl
    by_cases ht : 3 ≤ tg r.2 E k.toNatClampNeg ∧ tg r.2 E k.toNatClampNeg ≤ 6
    · have hk0 : ¬ k < 0 := fun h9 => by rw [i32_cl h9, h0] at ht; omega
      have e := i32_nn hk0
      unfold biI
      obtain ⟨j, ej⟩ : ∃ j, j = k.toNatClampNeg := ⟨_, rfl⟩
      rw [← ej] at e ht ⊢
      have hj : j < 65536 := by
        obtain ⟨hL9, H, m, qq, F, cc, hP9, hT9, -, hb9, hVF, -⟩ := id h4
        refine Nat.not_le.mp (fun h9 => ?_)
        have h8 := hVF.2.1 j (by omega)
        omega
      subst e
      obtain ⟨p, hk9, hb9⟩ := tg_lk (f := r.2) (E := E) (k := j) (by omega)
      obtain ⟨u1, u2⟩ := nums_of hpl hk9
      rw [plc_of hk9]
      by_cases h34 : tg r.2 E j = 3 ∨ tg r.2 E j = 4
      · rw [if_pos h34]
        exact dk_bits4 hx h1 h2 h3 h4 hj h7 hk9 h34 (u1 (by omega))
      · have h56 : tg r.2 E j = 5 ∨ tg r.2 E j = 6 := by omega
        rw [if_neg h34, if_pos h56]
        exact dk_bits8 hx h1 h2 h3 h4 hj h7 hk9 h56 (u2 (by omega))
    · have e : biI r.2 E k = 0 := by
        unfold biI
        rw [if_neg (by omega), if_neg (by omega)]
      rw [e]
      exact dk_bitsT hx h1 h4 h0 ht
end
section
set_option maxHeartbeats 1000000 in
theorem rd_bits0 {g : xe_G} {m0 : Nat} {q : Nat → Nat} {z : Nat × Nat} {I : rI} {R : rR} {M : mi_H} {kn k : Int32} (hR : RS g m0 q z I R M) (hi18 : I 18 = some kn)  (hk : kn < 0) : pt (mT g) 183 [.ref m0, .int k] M (fun v M' => (∃  (I' : rI) (R' : rR), v = some (.long 0) ∧ RS g m0 q z I' R' M' ∧ eqI [0] I I' ∧ eqR [] R R' ∧ I' 0 = some 0)) := by
  refine pt_in (b := mb_183 g) rfl (fun kf => ?_)
  show pl (mT g) kf (mb_183 g).2 (0, [(0, .ref m0), (1, .int k)], [], M) _
  have hEI : eqI [0] I I := eqI.rf
  have hER : eqR [] R R := eqR.rf
  refine ps_st (S' := (1, [(0, .ref m0), (1, .int k)], [.ref m0], M)) rfl rfl rfl ?_
  refine ps_st (S' := (2, [(0, .ref m0), (1, .int k)], [.int 0, .ref m0], M)) rfl rfl rfl ?_
  refine pr_put (j := 0) rfl hR rfl (fun M1 I2 hR3 hi4 hI5 => ?_)
  have hi6 := (hI5 18 (by decide)).trans hi18
  have hEI7 := hEI.put hI5 (by decide)
  show pl _ _ _ (5, [(0, .ref m0), (1, .int k)], [], M1) _
  refine ps_st (S' := (6, [(0, .ref m0), (1, .int k)], [.ref m0], M1)) rfl rfl rfl ?_
  refine pr_int (j := 18) (S' := (9, [(0, .ref m0), (1, .int k)], [.int kn], M1)) rfl hR3 rfl hi6 rfl ?_
  refine ps_if (S1 := (14, [(0, .ref m0), (1, .int k)], [], M1)) (S2 := (12, [(0, .ref m0), (1, .int k)], [], M1)) rfl rfl rfl (fun c_9 => ?_) (fun c_9 => ?_)
  · exact absurd (of_decide_eq_true c_9) (Int32.not_le.mpr hk)
  refine ps_st (S' := (13, [(0, .ref m0), (1, .int k)], [.long 0], M1)) rfl rfl rfl ?_
  exact ps_ret rfl rfl (⟨I2, R, rfl, hR3, hEI7, hER, hi4⟩)
set_option maxHeartbeats 1000000 in
theorem rd_bitsT {g : xe_G} {m0 : Nat} {q : Nat → Nat} {z : Nat × Nat} {I : rI} {R : rR} {M : mi_H} {n : Nat} {f : Nat → Int32} {tx : List (List Nat)} {cN : Nat} {A : Nat → Nat} {N mj : Nat} {E : List (Nat × Nat)} {n2 : Nat} {k : Int32} (hR : RS g m0 q z I R M) (hi18 : I 18 = some (nI n2)) (hi51 : I 51 = some 0) (hi52 : I 52 = some (nI N)) (hi53 : I 53 = some (nI mj)) (hF : FK n f I R) (hY : SYT tx cN A I R) (hP : RPV f n E tx N I R) (hEP : EP f n E) (hN : N < 65536) (hmj : mj < 65536) (hn2 : n2 ≤ 65540) (h0 : tg f E 0 = 0) (ht : ¬ (3 ≤ tg f E k.toNatClampNeg ∧ tg f E k.toNatClampNeg ≤ 6)) : pt (mT g) 183 [.ref m0, .int k] M (fun v M' => (∃  (I' : rI) (R' : rR), v = some (.long 0) ∧ RS g m0 q z I' R' M' ∧ eqI [0] I I' ∧ eqR [] R R' ∧ I' 0 = some 0)) := by
  refine pt_in (b := mb_183 g) rfl (fun kf => ?_)
  show pl (mT g) kf (mb_183 g).2 (0, [(0, .ref m0), (1, .int k)], [], M) _
  have hEI : eqI [0] I I := eqI.rf
  have hER : eqR [] R R := eqR.rf
  refine ps_st (S' := (1, [(0, .ref m0), (1, .int k)], [.ref m0], M)) rfl rfl rfl ?_
  refine ps_st (S' := (2, [(0, .ref m0), (1, .int k)], [.int 0, .ref m0], M)) rfl rfl rfl ?_
  refine pr_put (j := 0) rfl hR rfl (fun M1 I2 hR3 hi4 hI5 => ?_)
  have hi6 := (hI5 18 (by decide)).trans hi18
  have hi7 := (hI5 51 (by decide)).trans hi51
  have hi8 := (hI5 52 (by decide)).trans hi52
  have hi9 := (hI5 53 (by decide)).trans hi53
  have hF_10 := hF.mono (pIx hI5 (by decide)) (fun _ _ => rfl)
  have hY_11 := hY.mono (pIx hI5 (by decide)) (fun _ _ => rfl)
  have hP_12 := hP.mono (pIx hI5 (by decide)) (fun _ _ => rfl)
  have hEI13 := hEI.put hI5 (by decide)
  show pl _ _ _ (5, [(0, .ref m0), (1, .int k)], [], M1) _
  refine ps_st (S' := (6, [(0, .ref m0), (1, .int k)], [.ref m0], M1)) rfl rfl rfl ?_
  refine pr_int (j := 18) (S' := (9, [(0, .ref m0), (1, .int k)], [.int (nI n2)], M1)) rfl hR3 rfl hi6 rfl ?_
  refine ps_if (S1 := (14, [(0, .ref m0), (1, .int k)], [], M1)) (S2 := (12, [(0, .ref m0), (1, .int k)], [], M1)) rfl rfl rfl (fun c_9 => ?_) (fun c_9 => ?_)
  rotate_left
  · exact absurd ((le_nI (p := 0) (n := n2) (by decide) (by omega)).mpr (by omega)) (of_decide_eq_false c_9)
  refine ps_st (S' := (15, [(0, .ref m0), (1, .int k)], [.ref m0], M1)) rfl rfl rfl ?_
  refine ps_st (S' := (16, [(0, .ref m0), (1, .int k)], [.int k, .ref m0], M1)) rfl rfl rfl ?_
  refine pl_call (a := [.ref m0, .int k]) (rest := []) rfl rfl rfl (rd_tagR (n := n) (f := f) (tx := tx) (cN := cN) (A := A) (N := N) (mj := mj) (E := E) (k := k) hR3 hi7 hi8 hi9 hF_10 hY_11 hP_12 (hEP) (hN) (hmj) (h0)) (fun v14 M15 q16 => ?_)
  obtain ⟨rfl, rfl⟩ := q16
  show pl _ _ _ (19, [(0, .ref m0), (1, .int k)], [.int (nI (tg f E k.toNatClampNeg))], M1) _
  have htg9 := tg_lt f E k.toNatClampNeg
  refine ps_st (S' := (20, [(2, .int (nI (tg f E k.toNatClampNeg))), (0, .ref m0), (1, .int k)], [], M1)) rfl rfl rfl ?_
  refine ps_st (S' := (21, [(2, .int (nI (tg f E k.toNatClampNeg))), (0, .ref m0), (1, .int k)], [.int (nI (tg f E k.toNatClampNeg))], M1)) rfl rfl rfl ?_
  refine ps_st (S' := (22, [(2, .int (nI (tg f E k.toNatClampNeg))), (0, .ref m0), (1, .int k)], [.int 3, .int (nI (tg f E k.toNatClampNeg))], M1)) rfl rfl rfl ?_
  refine ps_if2 (S1 := (30, [(0, .ref m0), (1, .int k)], [], M1)) (S2 := (25, [(2, .int (nI (tg f E k.toNatClampNeg))), (0, .ref m0), (1, .int k)], [], M1)) rfl rfl rfl (fun c_22 => ?_) (fun c_22 => ?_)
  · exact absurd (of_decide_eq_true c_22) (fun h9 => ht (by have h8 := (eq_nI (p := tg f E k.toNatClampNeg) (n := 3) (by omega) (by decide)).mp h9; omega))
  refine ps_st (S' := (26, [(2, .int (nI (tg f E k.toNatClampNeg))), (0, .ref m0), (1, .int k)], [.int (nI (tg f E k.toNatClampNeg))], M1)) rfl rfl rfl ?_
  refine ps_st (S' := (27, [(2, .int (nI (tg f E k.toNatClampNeg))), (0, .ref m0), (1, .int k)], [.int 4, .int (nI (tg f E k.toNatClampNeg))], M1)) rfl rfl rfl ?_
  refine ps_if2 (S1 := (45, [(2, .int (nI (tg f E k.toNatClampNeg))), (0, .ref m0), (1, .int k)], [], M1)) (S2 := (30, [(0, .ref m0), (1, .int k)], [], M1)) rfl rfl rfl (fun c_27 => ?_) (fun c_27 => ?_)
  rotate_left
  · exact absurd (show ¬ (nI (tg f E k.toNatClampNeg)) = 4 from fun h9 => ht (by have h8 := (eq_nI (p := tg f E k.toNatClampNeg) (n := 4) (by omega) (by decide)).mp h9; omega)) (of_decide_eq_false c_27)
  refine ps_st (S' := (46, [(2, .int (nI (tg f E k.toNatClampNeg))), (0, .ref m0), (1, .int k)], [.int (nI (tg f E k.toNatClampNeg))], M1)) rfl rfl rfl ?_
  refine ps_st (S' := (47, [(2, .int (nI (tg f E k.toNatClampNeg))), (0, .ref m0), (1, .int k)], [.int 5, .int (nI (tg f E k.toNatClampNeg))], M1)) rfl rfl rfl ?_
  refine ps_if2 (S1 := (56, [(0, .ref m0), (1, .int k)], [], M1)) (S2 := (50, [(2, .int (nI (tg f E k.toNatClampNeg))), (0, .ref m0), (1, .int k)], [], M1)) rfl rfl rfl (fun c_47 => ?_) (fun c_47 => ?_)
  · exact absurd (of_decide_eq_true c_47) (fun h9 => ht (by have h8 := (eq_nI (p := tg f E k.toNatClampNeg) (n := 5) (by omega) (by decide)).mp h9; omega))
  refine ps_st (S' := (51, [(2, .int (nI (tg f E k.toNatClampNeg))), (0, .ref m0), (1, .int k)], [.int (nI (tg f E k.toNatClampNeg))], M1)) rfl rfl rfl ?_
  refine ps_st (S' := (53, [(2, .int (nI (tg f E k.toNatClampNeg))), (0, .ref m0), (1, .int k)], [.int 6, .int (nI (tg f E k.toNatClampNeg))], M1)) rfl rfl rfl ?_
  refine ps_if2 (S1 := (85, [(2, .int (nI (tg f E k.toNatClampNeg))), (0, .ref m0), (1, .int k)], [], M1)) (S2 := (56, [(0, .ref m0), (1, .int k)], [], M1)) rfl rfl rfl (fun c_53 => ?_) (fun c_53 => ?_)
  rotate_left
  · exact absurd (show ¬ (nI (tg f E k.toNatClampNeg)) = 6 from fun h9 => ht (by have h8 := (eq_nI (p := tg f E k.toNatClampNeg) (n := 6) (by omega) (by decide)).mp h9; omega)) (of_decide_eq_false c_53)
  refine ps_st (S' := (86, [(2, .int (nI (tg f E k.toNatClampNeg))), (0, .ref m0), (1, .int k)], [.long 0], M1)) rfl rfl rfl ?_
  exact ps_ret rfl rfl (⟨I2, R, rfl, hR3, hEI13, hER, hi4⟩)
set_option maxHeartbeats 1000000 in
theorem rd_bits4 {g : xe_G} {m0 : Nat} {q : Nat → Nat} {z : Nat × Nat} {I : rI} {R : rR} {M : mi_H} {n : Nat} {f : Nat → Int32} {tx : List (List Nat)} {cN : Nat} {A : Nat → Nat} {N mj : Nat} {E : List (Nat × Nat)} {n2 : Nat} {j p : Nat} (hR : RS g m0 q z I R M) (hi18 : I 18 = some (nI n2)) (hi51 : I 51 = some 0) (hi52 : I 52 = some (nI N)) (hi53 : I 53 = some (nI mj)) (hF : FK n f I R) (hY : SYT tx cN A I R) (hP : RPV f n E tx N I R) (hEP : EP f n E) (hN : N < 65536) (hmj : mj < 65536) (hn2 : n2 ≤ 65540) (hj : j < 65536) (hk9 : lk E j = some p) (htt : tg f E j = 3 ∨ tg f E j = 4) (hin : p + 5 ≤ n) : pt (mT g) 183 [.ref m0, .int (nI j)] M (fun v M' => (∃  (I' : rI) (R' : rR), v = some (.long (bL4 f p)) ∧ RS g m0 q z I' R' M' ∧ eqI [0] I I' ∧ eqR [] R R' ∧ I' 0 = some 0)) := by
  refine pt_in (b := mb_183 g) rfl (fun kf => ?_)
  show pl (mT g) kf (mb_183 g).2 (0, [(0, .ref m0), (1, .int (nI j))], [], M) _
  have hEI : eqI [0] I I := eqI.rf
  have hER : eqR [] R R := eqR.rf
  have hn := hF.1
  have htl9 := tg_lt f E j
  refine ps_st (S' := (1, [(0, .ref m0), (1, .int (nI j))], [.ref m0], M)) rfl rfl rfl ?_
  refine ps_st (S' := (2, [(0, .ref m0), (1, .int (nI j))], [.int 0, .ref m0], M)) rfl rfl rfl ?_
  refine pr_put (j := 0) rfl hR rfl (fun M1 I2 hR3 hi4 hI5 => ?_)
  have hi6 := (hI5 18 (by decide)).trans hi18
  have hi7 := (hI5 51 (by decide)).trans hi51
  have hi8 := (hI5 52 (by decide)).trans hi52
  have hi9 := (hI5 53 (by decide)).trans hi53
  have hF_10 := hF.mono (pIx hI5 (by decide)) (fun _ _ => rfl)
  have hY_11 := hY.mono (pIx hI5 (by decide)) (fun _ _ => rfl)
  have hP_12 := hP.mono (pIx hI5 (by decide)) (fun _ _ => rfl)
  have hEI13 := hEI.put hI5 (by decide)
  show pl _ _ _ (5, [(0, .ref m0), (1, .int (nI j))], [], M1) _
  refine ps_st (S' := (6, [(0, .ref m0), (1, .int (nI j))], [.ref m0], M1)) rfl rfl rfl ?_
  refine pr_int (j := 18) (S' := (9, [(0, .ref m0), (1, .int (nI j))], [.int (nI n2)], M1)) rfl hR3 rfl hi6 rfl ?_
  refine ps_if (S1 := (14, [(0, .ref m0), (1, .int (nI j))], [], M1)) (S2 := (12, [(0, .ref m0), (1, .int (nI j))], [], M1)) rfl rfl rfl (fun c_9 => ?_) (fun c_9 => ?_)
  rotate_left
  · exact absurd ((le_nI (p := 0) (n := n2) (by decide) (by omega)).mpr (by omega)) (of_decide_eq_false c_9)
  refine ps_st (S' := (15, [(0, .ref m0), (1, .int (nI j))], [.ref m0], M1)) rfl rfl rfl ?_
  refine ps_st (S' := (16, [(0, .ref m0), (1, .int (nI j))], [.int (nI j), .ref m0], M1)) rfl rfl rfl ?_
  refine pl_call (a := [.ref m0, .int (nI j)]) (rest := []) rfl rfl rfl (rd_tag (n := n) (f := f) (tx := tx) (cN := cN) (A := A) (N := N) (mj := mj) (E := E) (k := j) hR3 hi7 hi8 hi9 hF_10 hY_11 hP_12 (hEP) (hN) (hmj) (by omega)) (fun v14 M15 q16 => ?_)
  obtain ⟨rfl, rfl⟩ := q16
  show pl _ _ _ (19, [(0, .ref m0), (1, .int (nI j))], [.int (nI (tg f E j))], M1) _
  have htg_16 := tg_lt f E j
  refine ps_st (S' := (20, [(2, .int (nI (tg f E j))), (0, .ref m0), (1, .int (nI j))], [], M1)) rfl rfl rfl ?_
  refine ps_st (S' := (21, [(2, .int (nI (tg f E j))), (0, .ref m0), (1, .int (nI j))], [.int (nI (tg f E j))], M1)) rfl rfl rfl ?_
  refine ps_st (S' := (22, [(2, .int (nI (tg f E j))), (0, .ref m0), (1, .int (nI j))], [.int 3, .int (nI (tg f E j))], M1)) rfl rfl rfl ?_
  refine ps_if2 (S1 := (30, [(0, .ref m0), (1, .int (nI j))], [], M1)) (S2 := (25, [(2, .int (nI (tg f E j))), (0, .ref m0), (1, .int (nI j))], [], M1)) rfl rfl rfl (fun c_22 => ?_) (fun c_22 => ?_)
  · have c_22 : (nI (tg f E j)) = 3 := of_decide_eq_true c_22
    have n_22 : tg f E j = 3 := (eq_nI (p := tg f E j) (n := 3) (Nat.lt_trans (tg_lt _ _ _) (by decide)) (by decide)).mp c_22
    refine ps_st (S' := (31, [(0, .ref m0), (1, .int (nI j))], [.ref m0], M1)) rfl rfl rfl ?_
    refine ps_st (S' := (32, [(0, .ref m0), (1, .int (nI j))], [.ref m0, .ref m0], M1)) rfl rfl rfl ?_
    refine pr_ref (j := 21) (S' := (35, [(0, .ref m0), (1, .int (nI j))], [.ref (q 21), .ref m0], M1)) rfl hR3 rfl rfl ?_
    refine ps_st (S' := (36, [(0, .ref m0), (1, .int (nI j))], [.int (nI j), .ref (q 21), .ref m0], M1)) rfl rfl rfl ?_
    refine pr_ld (a := 21) (j := j) (y := (nI p)) (S' := (37, [(0, .ref m0), (1, .int (nI j))], [.int (nI p), .ref m0], M1)) rfl hR3 rfl (by omega) (fun _ => (hP_12.at hk9).2.2) rfl (fun i1_36 => ?_)
    refine ps_st (S' := (38, [(0, .ref m0), (1, .int (nI j))], [.int 1, .int (nI p), .ref m0], M1)) rfl rfl rfl ?_
    refine ps_st (S' := (39, [(0, .ref m0), (1, .int (nI j))], [.int ((nI p) + 1), .ref m0], M1)) rfl rfl rfl ?_
    rw [nI_add1 (p := p) (k := 1) (x := 1) rfl (by omega)]
    show pl _ _ _ (_, [(0, .ref m0), (1, .int (nI j))], [.int (nI (p + 1)), .ref m0], M1) _
    refine pl_call (a := [.ref m0, .int (nI (p + 1))]) (rest := []) rfl rfl rfl (rd_u4 (n := n) (f := f) (p := (p + 1)) hR3 hF_10 (by omega)) (fun v17 M18 q19 => ?_)
    obtain ⟨rfl, rfl⟩ := q19
    show pl _ _ _ (42, [(0, .ref m0), (1, .int (nI j))], [.long (nL (by4 f (p + 1)))], M1) _
    have hu_39 := by4_lt f (p + 1)
    refine ps_st (S' := (43, [(0, .ref m0), (1, .int (nI j))], [.int (Int64.toInt32 (nL (by4 f (p + 1))))], M1)) rfl rfl rfl ?_
    refine ps_st (S' := (44, [(0, .ref m0), (1, .int (nI j))], [.long (Int32.toInt64 (Int64.toInt32 (nL (by4 f (p + 1)))))], M1)) rfl rfl rfl ?_
    exact ps_ret rfl rfl (⟨I2, R, by rw [l2i_all]; rfl, hR3, hEI13, hER, hi4⟩)
  · have c_22 : ¬ ((nI (tg f E j)) = 3) := of_decide_eq_false c_22
    have n_22 : ¬ (tg f E j = 3) := fun h9 => c_22 ((eq_nI (p := tg f E j) (n := 3) (Nat.lt_trans (tg_lt _ _ _) (by decide)) (by decide)).mpr h9)
    refine ps_st (S' := (26, [(2, .int (nI (tg f E j))), (0, .ref m0), (1, .int (nI j))], [.int (nI (tg f E j))], M1)) rfl rfl rfl ?_
    refine ps_st (S' := (27, [(2, .int (nI (tg f E j))), (0, .ref m0), (1, .int (nI j))], [.int 4, .int (nI (tg f E j))], M1)) rfl rfl rfl ?_
    refine ps_if2 (S1 := (45, [(2, .int (nI (tg f E j))), (0, .ref m0), (1, .int (nI j))], [], M1)) (S2 := (30, [(0, .ref m0), (1, .int (nI j))], [], M1)) rfl rfl rfl (fun c_27 => ?_) (fun c_27 => ?_)
    · exact absurd (of_decide_eq_true c_27) (fun h9 => h9 ((eq_nI (p := tg f E j) (n := 4) (Nat.lt_trans (tg_lt _ _ _) (by decide)) (by decide)).mpr (by omega)))
    refine ps_st (S' := (31, [(0, .ref m0), (1, .int (nI j))], [.ref m0], M1)) rfl rfl rfl ?_
    refine ps_st (S' := (32, [(0, .ref m0), (1, .int (nI j))], [.ref m0, .ref m0], M1)) rfl rfl rfl ?_
    refine pr_ref (j := 21) (S' := (35, [(0, .ref m0), (1, .int (nI j))], [.ref (q 21), .ref m0], M1)) rfl hR3 rfl rfl ?_
    refine ps_st (S' := (36, [(0, .ref m0), (1, .int (nI j))], [.int (nI j), .ref (q 21), .ref m0], M1)) rfl rfl rfl ?_
    refine pr_ld (a := 21) (j := j) (y := (nI p)) (S' := (37, [(0, .ref m0), (1, .int (nI j))], [.int (nI p), .ref m0], M1)) rfl hR3 rfl (by omega) (fun _ => (hP_12.at hk9).2.2) rfl (fun i1_36 => ?_)
    refine ps_st (S' := (38, [(0, .ref m0), (1, .int (nI j))], [.int 1, .int (nI p), .ref m0], M1)) rfl rfl rfl ?_
    refine ps_st (S' := (39, [(0, .ref m0), (1, .int (nI j))], [.int ((nI p) + 1), .ref m0], M1)) rfl rfl rfl ?_
    rw [nI_add1 (p := p) (k := 1) (x := 1) rfl (by omega)]
    show pl _ _ _ (_, [(0, .ref m0), (1, .int (nI j))], [.int (nI (p + 1)), .ref m0], M1) _
    refine pl_call (a := [.ref m0, .int (nI (p + 1))]) (rest := []) rfl rfl rfl (rd_u4 (n := n) (f := f) (p := (p + 1)) hR3 hF_10 (by omega)) (fun v20 M21 q22 => ?_)
    obtain ⟨rfl, rfl⟩ := q22
    show pl _ _ _ (42, [(0, .ref m0), (1, .int (nI j))], [.long (nL (by4 f (p + 1)))], M1) _
    have hu_39 := by4_lt f (p + 1)
    refine ps_st (S' := (43, [(0, .ref m0), (1, .int (nI j))], [.int (Int64.toInt32 (nL (by4 f (p + 1))))], M1)) rfl rfl rfl ?_
    refine ps_st (S' := (44, [(0, .ref m0), (1, .int (nI j))], [.long (Int32.toInt64 (Int64.toInt32 (nL (by4 f (p + 1)))))], M1)) rfl rfl rfl ?_
    exact ps_ret rfl rfl (⟨I2, R, by rw [l2i_all]; rfl, hR3, hEI13, hER, hi4⟩)
set_option maxHeartbeats 1000000 in
theorem rd_bits8 {g : xe_G} {m0 : Nat} {q : Nat → Nat} {z : Nat × Nat} {I : rI} {R : rR} {M : mi_H} {n : Nat} {f : Nat → Int32} {tx : List (List Nat)} {cN : Nat} {A : Nat → Nat} {N mj : Nat} {E : List (Nat × Nat)} {n2 : Nat} {j p : Nat} (hR : RS g m0 q z I R M) (hi18 : I 18 = some (nI n2)) (hi51 : I 51 = some 0) (hi52 : I 52 = some (nI N)) (hi53 : I 53 = some (nI mj)) (hF : FK n f I R) (hY : SYT tx cN A I R) (hP : RPV f n E tx N I R) (hEP : EP f n E) (hN : N < 65536) (hmj : mj < 65536) (hn2 : n2 ≤ 65540) (hj : j < 65536) (hk9 : lk E j = some p) (htt : tg f E j = 5 ∨ tg f E j = 6) (hin : p + 9 ≤ n) : pt (mT g) 183 [.ref m0, .int (nI j)] M (fun v M' => (∃  (I' : rI) (R' : rR), v = some (.long (bL8 f p)) ∧ RS g m0 q z I' R' M' ∧ eqI [0] I I' ∧ eqR [] R R' ∧ I' 0 = some 0)) := by
  refine pt_in (b := mb_183 g) rfl (fun kf => ?_)
  show pl (mT g) kf (mb_183 g).2 (0, [(0, .ref m0), (1, .int (nI j))], [], M) _
  have hEI : eqI [0] I I := eqI.rf
  have hER : eqR [] R R := eqR.rf
  have hn := hF.1
  have htl9 := tg_lt f E j
  refine ps_st (S' := (1, [(0, .ref m0), (1, .int (nI j))], [.ref m0], M)) rfl rfl rfl ?_
  refine ps_st (S' := (2, [(0, .ref m0), (1, .int (nI j))], [.int 0, .ref m0], M)) rfl rfl rfl ?_
  refine pr_put (j := 0) rfl hR rfl (fun M1 I2 hR3 hi4 hI5 => ?_)
  have hi6 := (hI5 18 (by decide)).trans hi18
  have hi7 := (hI5 51 (by decide)).trans hi51
  have hi8 := (hI5 52 (by decide)).trans hi52
  have hi9 := (hI5 53 (by decide)).trans hi53
  have hF_10 := hF.mono (pIx hI5 (by decide)) (fun _ _ => rfl)
  have hY_11 := hY.mono (pIx hI5 (by decide)) (fun _ _ => rfl)
  have hP_12 := hP.mono (pIx hI5 (by decide)) (fun _ _ => rfl)
  have hEI13 := hEI.put hI5 (by decide)
  show pl _ _ _ (5, [(0, .ref m0), (1, .int (nI j))], [], M1) _
  refine ps_st (S' := (6, [(0, .ref m0), (1, .int (nI j))], [.ref m0], M1)) rfl rfl rfl ?_
  refine pr_int (j := 18) (S' := (9, [(0, .ref m0), (1, .int (nI j))], [.int (nI n2)], M1)) rfl hR3 rfl hi6 rfl ?_
  refine ps_if (S1 := (14, [(0, .ref m0), (1, .int (nI j))], [], M1)) (S2 := (12, [(0, .ref m0), (1, .int (nI j))], [], M1)) rfl rfl rfl (fun c_9 => ?_) (fun c_9 => ?_)
  rotate_left
  · exact absurd ((le_nI (p := 0) (n := n2) (by decide) (by omega)).mpr (by omega)) (of_decide_eq_false c_9)
  refine ps_st (S' := (15, [(0, .ref m0), (1, .int (nI j))], [.ref m0], M1)) rfl rfl rfl ?_
  refine ps_st (S' := (16, [(0, .ref m0), (1, .int (nI j))], [.int (nI j), .ref m0], M1)) rfl rfl rfl ?_
  refine pl_call (a := [.ref m0, .int (nI j)]) (rest := []) rfl rfl rfl (rd_tag (n := n) (f := f) (tx := tx) (cN := cN) (A := A) (N := N) (mj := mj) (E := E) (k := j) hR3 hi7 hi8 hi9 hF_10 hY_11 hP_12 (hEP) (hN) (hmj) (by omega)) (fun v14 M15 q16 => ?_)
  obtain ⟨rfl, rfl⟩ := q16
  show pl _ _ _ (19, [(0, .ref m0), (1, .int (nI j))], [.int (nI (tg f E j))], M1) _
  have htg_16 := tg_lt f E j
  refine ps_st (S' := (20, [(2, .int (nI (tg f E j))), (0, .ref m0), (1, .int (nI j))], [], M1)) rfl rfl rfl ?_
  refine ps_st (S' := (21, [(2, .int (nI (tg f E j))), (0, .ref m0), (1, .int (nI j))], [.int (nI (tg f E j))], M1)) rfl rfl rfl ?_
  refine ps_st (S' := (22, [(2, .int (nI (tg f E j))), (0, .ref m0), (1, .int (nI j))], [.int 3, .int (nI (tg f E j))], M1)) rfl rfl rfl ?_
  refine ps_if2 (S1 := (30, [(0, .ref m0), (1, .int (nI j))], [], M1)) (S2 := (25, [(2, .int (nI (tg f E j))), (0, .ref m0), (1, .int (nI j))], [], M1)) rfl rfl rfl (fun c_22 => ?_) (fun c_22 => ?_)
  · exact absurd (of_decide_eq_true c_22) (show ¬ ((nI (tg f E j)) = 3) from fun h9 => absurd ((eq_nI (p := tg f E j) (n := 3) (Nat.lt_trans (tg_lt _ _ _) (by decide)) (by decide)).mp h9) (by omega))
  refine ps_st (S' := (26, [(2, .int (nI (tg f E j))), (0, .ref m0), (1, .int (nI j))], [.int (nI (tg f E j))], M1)) rfl rfl rfl ?_
  refine ps_st (S' := (27, [(2, .int (nI (tg f E j))), (0, .ref m0), (1, .int (nI j))], [.int 4, .int (nI (tg f E j))], M1)) rfl rfl rfl ?_
  refine ps_if2 (S1 := (45, [(2, .int (nI (tg f E j))), (0, .ref m0), (1, .int (nI j))], [], M1)) (S2 := (30, [(0, .ref m0), (1, .int (nI j))], [], M1)) rfl rfl rfl (fun c_27 => ?_) (fun c_27 => ?_)
  rotate_left
  · exact absurd (show ¬ ((nI (tg f E j)) = 4) from fun h9 => absurd ((eq_nI (p := tg f E j) (n := 4) (Nat.lt_trans (tg_lt _ _ _) (by decide)) (by decide)).mp h9) (by omega)) (of_decide_eq_false c_27)
  refine ps_st (S' := (46, [(2, .int (nI (tg f E j))), (0, .ref m0), (1, .int (nI j))], [.int (nI (tg f E j))], M1)) rfl rfl rfl ?_
  refine ps_st (S' := (47, [(2, .int (nI (tg f E j))), (0, .ref m0), (1, .int (nI j))], [.int 5, .int (nI (tg f E j))], M1)) rfl rfl rfl ?_
  refine ps_if2 (S1 := (56, [(0, .ref m0), (1, .int (nI j))], [], M1)) (S2 := (50, [(2, .int (nI (tg f E j))), (0, .ref m0), (1, .int (nI j))], [], M1)) rfl rfl rfl (fun c_47 => ?_) (fun c_47 => ?_)
  · have c_47 : (nI (tg f E j)) = 5 := of_decide_eq_true c_47
    have n_47 : tg f E j = 5 := (eq_nI (p := tg f E j) (n := 5) (Nat.lt_trans (tg_lt _ _ _) (by decide)) (by decide)).mp c_47
    refine ps_st (S' := (57, [(0, .ref m0), (1, .int (nI j))], [.ref m0], M1)) rfl rfl rfl ?_
    refine ps_st (S' := (58, [(0, .ref m0), (1, .int (nI j))], [.ref m0, .ref m0], M1)) rfl rfl rfl ?_
    refine pr_ref (j := 21) (S' := (61, [(0, .ref m0), (1, .int (nI j))], [.ref (q 21), .ref m0], M1)) rfl hR3 rfl rfl ?_
    refine ps_st (S' := (62, [(0, .ref m0), (1, .int (nI j))], [.int (nI j), .ref (q 21), .ref m0], M1)) rfl rfl rfl ?_
    refine pr_ld (a := 21) (j := j) (y := (nI p)) (S' := (63, [(0, .ref m0), (1, .int (nI j))], [.int (nI p), .ref m0], M1)) rfl hR3 rfl (by omega) (fun _ => (hP_12.at hk9).2.2) rfl (fun i1_62 => ?_)
    refine ps_st (S' := (64, [(0, .ref m0), (1, .int (nI j))], [.int 1, .int (nI p), .ref m0], M1)) rfl rfl rfl ?_
    refine ps_st (S' := (65, [(0, .ref m0), (1, .int (nI j))], [.int ((nI p) + 1), .ref m0], M1)) rfl rfl rfl ?_
    rw [nI_add1 (p := p) (k := 1) (x := 1) rfl (by omega)]
    show pl _ _ _ (_, [(0, .ref m0), (1, .int (nI j))], [.int (nI (p + 1)), .ref m0], M1) _
    refine pl_call (a := [.ref m0, .int (nI (p + 1))]) (rest := []) rfl rfl rfl (rd_u4 (n := n) (f := f) (p := (p + 1)) hR3 hF_10 (by omega)) (fun v17 M18 q19 => ?_)
    obtain ⟨rfl, rfl⟩ := q19
    show pl _ _ _ (68, [(0, .ref m0), (1, .int (nI j))], [.long (nL (by4 f (p + 1)))], M1) _
    have hu_65 := by4_lt f (p + 1)
    refine ps_st (S' := (70, [(0, .ref m0), (1, .int (nI j))], [.int 32, .long (nL (by4 f (p + 1)))], M1)) rfl rfl rfl ?_
    refine ps_st (S' := (71, [(0, .ref m0), (1, .int (nI j))], [.long ((nL (by4 f (p + 1))) <<< (Int32.toInt64 32 &&& 63))], M1)) rfl rfl rfl ?_
    refine ps_st (S' := (72, [(0, .ref m0), (1, .int (nI j))], [.ref m0, .long ((nL (by4 f (p + 1))) <<< (Int32.toInt64 32 &&& 63))], M1)) rfl rfl rfl ?_
    refine ps_st (S' := (73, [(0, .ref m0), (1, .int (nI j))], [.ref m0, .ref m0, .long ((nL (by4 f (p + 1))) <<< (Int32.toInt64 32 &&& 63))], M1)) rfl rfl rfl ?_
    refine pr_ref (j := 21) (S' := (76, [(0, .ref m0), (1, .int (nI j))], [.ref (q 21), .ref m0, .long ((nL (by4 f (p + 1))) <<< (Int32.toInt64 32 &&& 63))], M1)) rfl hR3 rfl rfl ?_
    refine ps_st (S' := (77, [(0, .ref m0), (1, .int (nI j))], [.int (nI j), .ref (q 21), .ref m0, .long ((nL (by4 f (p + 1))) <<< (Int32.toInt64 32 &&& 63))], M1)) rfl rfl rfl ?_
    refine pr_ld (a := 21) (j := j) (y := (nI p)) (S' := (78, [(0, .ref m0), (1, .int (nI j))], [.int (nI p), .ref m0, .long ((nL (by4 f (p + 1))) <<< (Int32.toInt64 32 &&& 63))], M1)) rfl hR3 rfl (by omega) (fun _ => (hP_12.at hk9).2.2) rfl (fun i1_77 => ?_)
    refine ps_st (S' := (79, [(0, .ref m0), (1, .int (nI j))], [.int 5, .int (nI p), .ref m0, .long ((nL (by4 f (p + 1))) <<< (Int32.toInt64 32 &&& 63))], M1)) rfl rfl rfl ?_
    refine ps_st (S' := (80, [(0, .ref m0), (1, .int (nI j))], [.int ((nI p) + 5), .ref m0, .long ((nL (by4 f (p + 1))) <<< (Int32.toInt64 32 &&& 63))], M1)) rfl rfl rfl ?_
    rw [nI_add1 (p := p) (k := 5) (x := 5) rfl (by omega)]
    show pl _ _ _ (_, [(0, .ref m0), (1, .int (nI j))], [.int (nI (p + 5)), .ref m0, .long ((nL (by4 f (p + 1))) <<< (Int32.toInt64 32 &&& 63))], M1) _
    refine pl_call (a := [.ref m0, .int (nI (p + 5))]) (rest := [.long ((nL (by4 f (p + 1))) <<< (Int32.toInt64 32 &&& 63))]) rfl rfl rfl (rd_u4 (n := n) (f := f) (p := (p + 5)) hR3 hF_10 (by omega)) (fun v20 M21 q22 => ?_)
    obtain ⟨rfl, rfl⟩ := q22
    show pl _ _ _ (83, [(0, .ref m0), (1, .int (nI j))], [.long (nL (by4 f (p + 5))), .long ((nL (by4 f (p + 1))) <<< (Int32.toInt64 32 &&& 63))], M1) _
    have hu_80 := by4_lt f (p + 5)
    refine ps_st (S' := (84, [(0, .ref m0), (1, .int (nI j))], [.long (((nL (by4 f (p + 1))) <<< (Int32.toInt64 32 &&& 63)) ||| (nL (by4 f (p + 5))))], M1)) rfl rfl rfl ?_
    exact ps_ret rfl rfl (⟨I2, R, rfl, hR3, hEI13, hER, hi4⟩)
  · have c_47 : ¬ ((nI (tg f E j)) = 5) := of_decide_eq_false c_47
    have n_47 : ¬ (tg f E j = 5) := fun h9 => c_47 ((eq_nI (p := tg f E j) (n := 5) (Nat.lt_trans (tg_lt _ _ _) (by decide)) (by decide)).mpr h9)
    refine ps_st (S' := (51, [(2, .int (nI (tg f E j))), (0, .ref m0), (1, .int (nI j))], [.int (nI (tg f E j))], M1)) rfl rfl rfl ?_
    refine ps_st (S' := (53, [(2, .int (nI (tg f E j))), (0, .ref m0), (1, .int (nI j))], [.int 6, .int (nI (tg f E j))], M1)) rfl rfl rfl ?_
    refine ps_if2 (S1 := (85, [(2, .int (nI (tg f E j))), (0, .ref m0), (1, .int (nI j))], [], M1)) (S2 := (56, [(0, .ref m0), (1, .int (nI j))], [], M1)) rfl rfl rfl (fun c_53 => ?_) (fun c_53 => ?_)
    · exact absurd (of_decide_eq_true c_53) (fun h9 => h9 ((eq_nI (p := tg f E j) (n := 6) (Nat.lt_trans (tg_lt _ _ _) (by decide)) (by decide)).mpr (by omega)))
    refine ps_st (S' := (57, [(0, .ref m0), (1, .int (nI j))], [.ref m0], M1)) rfl rfl rfl ?_
    refine ps_st (S' := (58, [(0, .ref m0), (1, .int (nI j))], [.ref m0, .ref m0], M1)) rfl rfl rfl ?_
    refine pr_ref (j := 21) (S' := (61, [(0, .ref m0), (1, .int (nI j))], [.ref (q 21), .ref m0], M1)) rfl hR3 rfl rfl ?_
    refine ps_st (S' := (62, [(0, .ref m0), (1, .int (nI j))], [.int (nI j), .ref (q 21), .ref m0], M1)) rfl rfl rfl ?_
    refine pr_ld (a := 21) (j := j) (y := (nI p)) (S' := (63, [(0, .ref m0), (1, .int (nI j))], [.int (nI p), .ref m0], M1)) rfl hR3 rfl (by omega) (fun _ => (hP_12.at hk9).2.2) rfl (fun i1_62 => ?_)
    refine ps_st (S' := (64, [(0, .ref m0), (1, .int (nI j))], [.int 1, .int (nI p), .ref m0], M1)) rfl rfl rfl ?_
    refine ps_st (S' := (65, [(0, .ref m0), (1, .int (nI j))], [.int ((nI p) + 1), .ref m0], M1)) rfl rfl rfl ?_
    rw [nI_add1 (p := p) (k := 1) (x := 1) rfl (by omega)]
    show pl _ _ _ (_, [(0, .ref m0), (1, .int (nI j))], [.int (nI (p + 1)), .ref m0], M1) _
    refine pl_call (a := [.ref m0, .int (nI (p + 1))]) (rest := []) rfl rfl rfl (rd_u4 (n := n) (f := f) (p := (p + 1)) hR3 hF_10 (by omega)) (fun v23 M24 q25 => ?_)
    obtain ⟨rfl, rfl⟩ := q25
    show pl _ _ _ (68, [(0, .ref m0), (1, .int (nI j))], [.long (nL (by4 f (p + 1)))], M1) _
    have hu_65 := by4_lt f (p + 1)
    refine ps_st (S' := (70, [(0, .ref m0), (1, .int (nI j))], [.int 32, .long (nL (by4 f (p + 1)))], M1)) rfl rfl rfl ?_
    refine ps_st (S' := (71, [(0, .ref m0), (1, .int (nI j))], [.long ((nL (by4 f (p + 1))) <<< (Int32.toInt64 32 &&& 63))], M1)) rfl rfl rfl ?_
    refine ps_st (S' := (72, [(0, .ref m0), (1, .int (nI j))], [.ref m0, .long ((nL (by4 f (p + 1))) <<< (Int32.toInt64 32 &&& 63))], M1)) rfl rfl rfl ?_
    refine ps_st (S' := (73, [(0, .ref m0), (1, .int (nI j))], [.ref m0, .ref m0, .long ((nL (by4 f (p + 1))) <<< (Int32.toInt64 32 &&& 63))], M1)) rfl rfl rfl ?_
    refine pr_ref (j := 21) (S' := (76, [(0, .ref m0), (1, .int (nI j))], [.ref (q 21), .ref m0, .long ((nL (by4 f (p + 1))) <<< (Int32.toInt64 32 &&& 63))], M1)) rfl hR3 rfl rfl ?_
    refine ps_st (S' := (77, [(0, .ref m0), (1, .int (nI j))], [.int (nI j), .ref (q 21), .ref m0, .long ((nL (by4 f (p + 1))) <<< (Int32.toInt64 32 &&& 63))], M1)) rfl rfl rfl ?_
    refine pr_ld (a := 21) (j := j) (y := (nI p)) (S' := (78, [(0, .ref m0), (1, .int (nI j))], [.int (nI p), .ref m0, .long ((nL (by4 f (p + 1))) <<< (Int32.toInt64 32 &&& 63))], M1)) rfl hR3 rfl (by omega) (fun _ => (hP_12.at hk9).2.2) rfl (fun i1_77 => ?_)
    refine ps_st (S' := (79, [(0, .ref m0), (1, .int (nI j))], [.int 5, .int (nI p), .ref m0, .long ((nL (by4 f (p + 1))) <<< (Int32.toInt64 32 &&& 63))], M1)) rfl rfl rfl ?_
    refine ps_st (S' := (80, [(0, .ref m0), (1, .int (nI j))], [.int ((nI p) + 5), .ref m0, .long ((nL (by4 f (p + 1))) <<< (Int32.toInt64 32 &&& 63))], M1)) rfl rfl rfl ?_
    rw [nI_add1 (p := p) (k := 5) (x := 5) rfl (by omega)]
    show pl _ _ _ (_, [(0, .ref m0), (1, .int (nI j))], [.int (nI (p + 5)), .ref m0, .long ((nL (by4 f (p + 1))) <<< (Int32.toInt64 32 &&& 63))], M1) _
    refine pl_call (a := [.ref m0, .int (nI (p + 5))]) (rest := [.long ((nL (by4 f (p + 1))) <<< (Int32.toInt64 32 &&& 63))]) rfl rfl rfl (rd_u4 (n := n) (f := f) (p := (p + 5)) hR3 hF_10 (by omega)) (fun v26 M27 q28 => ?_)
    obtain ⟨rfl, rfl⟩ := q28
    show pl _ _ _ (83, [(0, .ref m0), (1, .int (nI j))], [.long (nL (by4 f (p + 5))), .long ((nL (by4 f (p + 1))) <<< (Int32.toInt64 32 &&& 63))], M1) _
    have hu_80 := by4_lt f (p + 5)
    refine ps_st (S' := (84, [(0, .ref m0), (1, .int (nI j))], [.long (((nL (by4 f (p + 1))) <<< (Int32.toInt64 32 &&& 63)) ||| (nL (by4 f (p + 5))))], M1)) rfl rfl rfl ?_
    exact ps_ret rfl rfl (⟨I2, R, rfl, hR3, hEI13, hER, hi4⟩)
theorem rd_bits {g : xe_G} {m0 : Nat} {q : Nat → Nat} {z : Nat × Nat} {I : rI} {R : rR} {M : mi_H} {ko : Option (Nat × (Nat → Int32))} {k : Int32} (hR : RS g m0 q z I R M) (hK : KPR ko I R) : pt (mT g) 183 [.ref m0, .int k] M (fun v M' => ∃ (I' : rI) (R' : rR), v = some (.long (biK ko k)) ∧ RS g m0 q z I' R' M' ∧ eqI [0] I I' ∧ eqR [] R R' ∧ I' 0 = some 0) := by
  cases ko with
  | none =>
    obtain ⟨kn, h1, h2⟩ := hK
    exact rd_bits0 hR h1 h2
  | some r =>
    obtain ⟨h1, h2, -, -, tx, cN, A, E, N, mj, p1, pF, pM, pA, k1, k2, k3, k4, k5, k6, k7, rfl, rfl, -⟩ := hK
    rw [biK_is k7]
    have hN := by2_lt r.2 8
    have hpl := whole_in k7
    have hEP := (EP_of hpl).1
    have h0 := tg_0 hpl
    by_cases ht : 3 ≤ tg r.2 E k.toNatClampNeg ∧ tg r.2 E k.toNatClampNeg ≤ 6
    · have hk0 : ¬ k < 0 := fun h9 => by rw [i32_cl h9, h0] at ht; omega
      have e := i32_nn hk0
      unfold biI
      obtain ⟨j, ej⟩ : ∃ j, j = k.toNatClampNeg := ⟨_, rfl⟩
      rw [← ej] at e ht ⊢
      have hj : j < 65536 := Nat.not_le.mp (fun h9 => by
        unfold tg at ht
        rw [lk_hi k3.1 (Or.inr (by omega))] at ht
        dsimp only at ht
        omega)
      subst e
      obtain ⟨p, hk9, hb9⟩ := tg_lk (f := r.2) (E := E) (k := j) (by omega)
      obtain ⟨u1, u2⟩ := nums_of hpl hk9
      rw [plc_of hk9]
      by_cases h34 : tg r.2 E j = 3 ∨ tg r.2 E j = 4
      · rw [if_pos h34]
        exact rd_bits4 hR h1 k4 k5 k6 k1 k2 k3 hEP hN (by2_lt _ _) h2 hj hk9 h34 (u1 (by omega))
      · have h56 : tg r.2 E j = 5 ∨ tg r.2 E j = 6 := by omega
        rw [if_neg h34, if_pos h56]
        exact rd_bits8 hR h1 k4 k5 k6 k1 k2 k3 hEP hN (by2_lt _ _) h2 hj hk9 h56 (u2 (by omega))
    · have e : biI r.2 E k = 0 := by
        unfold biI
        rw [if_neg (by omega), if_neg (by omega)]
      rw [e]
      exact rd_bitsT hR h1 k4 k5 k6 k1 k2 k3 hEP hN (by2_lt _ _) h2 h0 ht
end
section
/-! places of a descriptor, as both sides tell them (my own text) -/
section PLA
variable {f : Nat → Int32} {n H m : Nat} {E : List (Nat × Nat)} {F : Nat → Nat → Int32} {l : List Nat}
/-- what is kept tells it -/
def plK (ko : Option (Nat × (Nat → Int32))) (k : Int32) : Int32 := match ko with
  | none => -1
  | some r => match s_whole r.2 r.1 with
    | .inl _ => -1
    | .inr y => plX r.2 r.1 y.1 k
theorem plK_is {r : Nat × (Nat → Int32)} {k : Int32} {y : Nat × Nat × Nat × Nat} (h : s_whole r.2 r.1 = .inr (E, y)) : plK (some r) k = plX r.2 r.1 E k := by
  show (match s_whole r.2 r.1 with | .inl _ => -1 | .inr y => plX r.2 r.1 y.1 k) = _
  rw [h]
theorem VF.plaR (h : VF f n E H m F) (hs : VS f n E F) (hH : H ≤ 65536) (h0 : tg f E 0 = 0) (k : Int32) : sp_placesTold H m F k = plX f n E k := by
  unfold sp_placesTold plX
  rw [h.tagR hH h0 k]
  obtain ⟨j, hj⟩ : ∃ j, j = k.toNatClampNeg := ⟨_, rfl⟩
  rw [← hj]
  by_cases h1 : tg f E j = 1
  · rw [if_neg (by rw [h1]; exact fun q => q rfl), if_pos h1, hs j h1]
    have hl := shN_lt (tX f n E j)
    unfold plT shI
    by_cases h2 : shN (tX f n E j) = 0
    · rw [if_pos h2, if_pos h2, if_neg (fun q => q rfl)]
    · rw [if_neg h2, if_neg h2, if_pos (fun q => absurd (congrArg Int32.toInt q) (by rw [nI_val (by omega)]; show ¬ ((shN (tX f n E j) : Nat) : Int) = -1; omega)), nI_rem (a := shN (tX f n E j)) (x := 4096) (k := 4096) rfl rfl (by decide) (by omega)]
  · rw [if_pos (show ¬ nI (tg f E j) = 1 from fun q => h1 ((eq_nI (p := tg f E j) (n := 1) (Nat.lt_trans (tg_lt _ _ _) (by decide)) (by decide)).mp q)), if_neg h1]
def wdN (x : Nat) : Nat := if x = 74 ∨ x = 68 then 1 else 0
theorem le1_wd (x : Nat) : wdN x < 2 := by unfold wdN; split <;> omega
theorem pW_wd (x : Nat) : pW x = wdN x + 1 := by unfold pW wdN; split <;> rfl
theorem fld_sh (h : ¬ fldN l = 0) : shN l = pW (l.getD 0 0) ∧ 0 < l.length := by
  have h1 : 0 < shN l ∧ shN l < 4096 := Decidable.byContradiction (fun q => h (if_neg q))
  by_cases h0 : l.length = 0
  · unfold shN s_sh at h1
    rw [if_pos h0] at h1
    omega
  · refine ⟨?_, by omega⟩
    by_cases h2 : l.getD 0 0 = 40
    · have h3 := mth_sh (l := l) (by omega) h2
      unfold s_ms at h3
      repeat' split at h3
      all_goals omega
    · have h3 : shN l = if s_ty (fun i => l.getD i 0) l.length 0 = some l.length then pW (l.getD 0 0) else 0 := by
        unfold shN s_sh
        rw [if_neg h0, if_neg h2]
      by_cases h4 : s_ty (fun i => l.getD i 0) l.length 0 = some l.length
      · rw [if_pos h4] at h3
        exact h3
      · rw [if_neg h4] at h3
        omega
theorem plT_f {t : Nat} {x : Int32} (h : ¬ fldN l = 0) (ht : t = pW (l.getD 0 0)) (hx : x = nI t) : x = plT l := by
  have h1 := (fld_sh h).1
  have h2 := pW_le (l.getD 0 0)
  have h3 := pW_wd (l.getD 0 0)
  unfold plT
  rw [if_neg (by omega), h1, ← ht, hx, Nat.mod_eq_of_lt (by omega)]
theorem plT_n (h : fldN l = 0) (h2 : mthN l = 0) : plT l = -1 := by
  have e : shN l = 0 := by
    unfold fldN at h
    unfold mthN at h2
    by_cases a : 4096 ≤ shN l
    · rw [if_pos a] at h2
      cases h2
    · by_cases b : 0 < shN l ∧ shN l < 4096
      · rw [if_pos b] at h
        cases h
      · omega
  unfold plT
  rw [if_pos e]
theorem plT_v {k W t : Nat} {x : Int32} (hm : ¬ mthN l = 0) (h : s_pl (fun i => l.getD i 0) l.length (l.length - 1) 1 0 = some (k, W)) (ht : t = if l.getD (l.length - 1) 0 = 86 ∧ l.length - 1 = k + 1 then 0 else pW (l.getD (k + 1) 0)) (hx : x = nI (1024 * t)) : nI W + x = plT l := by
  obtain ⟨h1, h2, k', W', hp, a1, a2, a3, a4, -, -⟩ := mth_in hm
  rw [h] at hp
  cases hp
  have hlow : 4096 ≤ shN l := Decidable.byContradiction (fun q => hm (if_neg q))
  have e := mth_sh h1 h2
  rw [ms_pl h, if_neg (by omega)] at e
  by_cases b : l.getD (k + 1) 0 = 86 ∧ k + 2 = l.length
  · rw [if_pos b] at e
    have ht0 : t = 0 := by
      rw [ht, if_pos ⟨by rw [show l.length - 1 = k + 1 by omega]; exact b.1, by omega⟩]
    unfold plT
    rw [e, if_neg (by omega), hx, ht0, show (4096 + W) % 4096 = W + 1024 * 0 by omega]
    exact nI_add1 rfl (by omega)
  · rw [if_neg b] at e
    by_cases d : s_ty (fun i => l.getD i 0) l.length (k + 1) = some l.length
    · rw [if_pos d] at e
      have e : shN l = 4096 + 1024 * pW (l.getD (k + 1) 0) + W := e
      have ht1 : t = pW (l.getD (k + 1) 0) := by
        rw [ht, if_neg (fun q => b ⟨by rw [← q.2]; exact q.1, by omega⟩)]
      have hw := pW_le (l.getD (k + 1) 0)
      unfold plT
      rw [e, if_neg (by omega), hx, ht1, show (4096 + 1024 * pW (l.getD (k + 1) 0) + W) % 4096 = W + 1024 * pW (l.getD (k + 1) 0) by omega]
      exact nI_add1 rfl (by omega)
    · rw [if_neg d] at e
      omega
end PLA
theorem dz_placesTold {g : xe_G} {M : mi_H} {f : Nat → Int32} {n N q : Nat} {E : List (Nat × Nat)} {k : Int32}  (hV : PV g f n N E q M) (h0 : tg f E 0 = 0) : pt (mT g) 131 [.ref q, .int k] M (fun v M' => (v = some (.int (plX f n E k)) ∧ M = M')) := by
  obtain ⟨hL9, H, m, qq, F, cc, hP9, hT9, -, hb9, hVF, hVS⟩ := id hV
  exact (ct_placesTold hP9 (d := 3) (by decide)).pt.mono (fun v M' h => ⟨by rw [h.1, hVF.plaR hVS hb9.1 h0], h.2.symm⟩)
set_option maxHeartbeats 1000000 in
theorem dk_places0 {g : xe_G} {M : mi_H} {o ca fl : Nat} {cn wp k : Int32} (h_o : M.1 o = some (ob 11 [.ref ca, .int cn, .ref fl, .null, .int wp]))  : pt (mT g) 17 [.ref o, .int k] M (fun v M' => (v = some (.int (-1)) ∧ M = M')) := by
  refine pt_in (b := mb_17 g) rfl (fun kf => ?_)
  show pl (mT g) kf (mb_17 g).2 (0, [(0, .ref o), (1, .int k)], [], M) _
  refine ps_st (S' := (1, [(0, .ref o), (1, .int k)], [.ref o], M)) rfl rfl rfl ?_
  refine ps_get (S' := (4, [(0, .ref o), (1, .int k)], [.null], M)) rfl h_o rfl rfl ?_
  refine ps_st (S' := (7, [(0, .ref o), (1, .int k)], [], M)) rfl rfl rfl ?_
  refine ps_st (S' := (8, [(0, .ref o), (1, .int k)], [.int (-1)], M)) rfl rfl rfl ?_
  refine ps_st (S' := (22, [], [.int (-1)], M)) rfl rfl rfl ?_
  exact ps_ret rfl rfl (⟨rfl, rfl⟩)
set_option maxHeartbeats 1000000 in
theorem dk_placesK {g : xe_G} {M : mi_H} {f : Nat → Int32} {n N q : Nat} {E : List (Nat × Nat)} {o ca fl c b : Nat} {cn wp : Int32} {w : List Value} {k : Int32} (h_o : M.1 o = some (ob 11 [.ref ca, .int cn, .ref fl, .ref c, .int wp])) (h_c : M.1 c = some (ob 3 (.ref b :: .ref q :: w))) (hV : PV g f n N E q M) (h0 : tg f E 0 = 0) : pt (mT g) 17 [.ref o, .int k] M (fun v M' => (v = some (.int (plX f n E k)) ∧ M = M')) := by
  refine pt_in (b := mb_17 g) rfl (fun kf => ?_)
  show pl (mT g) kf (mb_17 g).2 (0, [(0, .ref o), (1, .int k)], [], M) _
  obtain ⟨hL9, H, m, qq, F, cc, hP9, -, -, hb9, -⟩ := id hV
  have h_q := hP9.1
  have hN9 := hb9.2.2.1
  refine ps_st (S' := (1, [(0, .ref o), (1, .int k)], [.ref o], M)) rfl rfl rfl ?_
  refine ps_get (S' := (4, [(0, .ref o), (1, .int k)], [.ref c], M)) rfl h_o rfl rfl ?_
  refine ps_st (S' := (11, [(0, .ref o), (1, .int k)], [], M)) rfl rfl rfl ?_
  refine ps_st (S' := (12, [(0, .ref o), (1, .int k)], [.ref o], M)) rfl rfl rfl ?_
  refine ps_get (S' := (15, [(0, .ref o), (1, .int k)], [.ref c], M)) rfl h_o rfl rfl ?_
  refine ps_get (S' := (18, [(0, .ref o), (1, .int k)], [.ref q], M)) rfl h_c rfl rfl ?_
  refine ps_st (S' := (19, [(0, .ref o), (1, .int k)], [.int k, .ref q], M)) rfl rfl rfl ?_
  refine pl_call (a := [.ref q, .int k]) (rest := []) rfl rfl rfl (dz_placesTold (f := f) (n := n) (N := N) (q := q) (E := E) (k := k) (hV) (h0)) (fun v1 M2 q3 => ?_)
  obtain ⟨rfl, rfl⟩ := q3
  show pl _ _ _ (22, [], [.int (plX f n E k)], M) _
  exact ps_reti rfl (⟨rfl, rfl⟩)
theorem dk_places {g : xe_G} {M : mi_H} {ko : Option (Nat × (Nat → Int32))} {kv : Value} {cm o fl : Nat} {cn wp k : Int32} (hx : M.1 o = some (ob 11 [.ref cm, .int cn, .ref fl, kv, .int wp])) (hK : KPC g ko kv cm M) : pt (mT g) 17 [.ref o, .int k] M (fun v M' => v = some (.int (plK ko k)) ∧ M = M') := by
  cases ko with
  | none =>
    have e : kv = .null := hK
    subst e
    exact dk_places0 hx
  | some r =>
    obtain ⟨c, da, rfl, ⟨b, q, N, E, p1, pF, pM, pA, w, h1, h2, h3, h4, h5, rfl, -⟩, -, -⟩ := hK
    rw [plK_is h5]
    exact dk_placesK hx h1 h4 (tg_0 (whole_in h5))
end
section
set_option maxHeartbeats 1000000 in
theorem rd_wide {g : xe_G} {m0 : Nat} {q : Nat → Nat} {z : Nat × Nat} {I : rI} {R : rR} {M : mi_H} {tx : List (List Nat)} {cN : Nat} {A : Nat → Nat} {s : Nat} {l : List Nat} {k : Nat} (hR : RS g m0 q z I R M)  (hY : SYT tx cN A I R) (hs : s < tx.length ∧ tx.getD s [] = l) (hk : k < l.length) : pt (mT g) 255 [.ref m0, .int (nI s), .int (nI k)] M (fun v M' => (v = some (.int (nI (wdN (l.getD k 0)))) ∧ M = M')) := by
  refine pt_in (b := mb_255 g) rfl (fun kf => ?_)
  show pl (mT g) kf (mb_255 g).2 (0, [(0, .ref m0), (1, .int (nI s)), (2, .int (nI k))], [], M) _
  have hln := hY.ln hs
  have hts := hY.1.2.2
  refine ps_st (S' := (1, [(0, .ref m0), (1, .int (nI s)), (2, .int (nI k))], [.ref m0], M)) rfl rfl rfl ?_
  refine ps_st (S' := (2, [(0, .ref m0), (1, .int (nI s)), (2, .int (nI k))], [.int (nI s), .ref m0], M)) rfl rfl rfl ?_
  refine ps_st (S' := (3, [(0, .ref m0), (1, .int (nI s)), (2, .int (nI k))], [.int (nI k), .int (nI s), .ref m0], M)) rfl rfl rfl ?_
  refine pl_call (a := [.ref m0, .int (nI s), .int (nI k)]) (rest := []) rfl rfl rfl (rd_at (tx := tx) (cN := cN) (A := A) (s := s) (l := l) (k := k) hR hY (hs) (by omega)) (fun v1 M2 q3 => ?_)
  obtain ⟨rfl, rfl⟩ := q3
  show pl _ _ _ (6, [(0, .ref m0), (1, .int (nI s)), (2, .int (nI k))], [.int (nI (l.getD k 0))], M) _
  have hc_3 := hY.ch hs (k := k) (by omega)
  refine ps_st (S' := (8, [(0, .ref m0), (1, .int (nI s)), (2, .int (nI k))], [.int 74, .int (nI (l.getD k 0))], M)) rfl rfl rfl ?_
  refine ps_if2 (S1 := (22, [], [], M)) (S2 := (11, [(0, .ref m0), (1, .int (nI s)), (2, .int (nI k))], [], M)) rfl rfl rfl (fun c_8 => ?_) (fun c_8 => ?_)
  · have c_8 : (nI (l.getD k 0)) = 74 := of_decide_eq_true c_8
    have n_8 : l.getD k 0 = 74 := (eq_nI (p := l.getD k 0) (n := 74) (by omega) (by decide)).mp c_8
    refine ps_st (S' := (23, [], [.int 1], M)) rfl rfl rfl ?_
    refine ps_st (S' := (27, [], [.int 1], M)) rfl rfl rfl ?_
    exact ps_ret rfl rfl (⟨congrArg (fun x => some (Value.int (nI x))) (show 1 = wdN (l.getD k 0) from by
        unfold wdN
        rw [if_pos (by omega)]), rfl⟩)
  · have c_8 : ¬ ((nI (l.getD k 0)) = 74) := of_decide_eq_false c_8
    have n_8 : ¬ (l.getD k 0 = 74) := fun h9 => c_8 ((eq_nI (p := l.getD k 0) (n := 74) (by omega) (by decide)).mpr h9)
    refine ps_st (S' := (12, [(0, .ref m0), (1, .int (nI s)), (2, .int (nI k))], [.ref m0], M)) rfl rfl rfl ?_
    refine ps_st (S' := (13, [(0, .ref m0), (1, .int (nI s)), (2, .int (nI k))], [.int (nI s), .ref m0], M)) rfl rfl rfl ?_
    refine ps_st (S' := (14, [(0, .ref m0), (1, .int (nI s)), (2, .int (nI k))], [.int (nI k), .int (nI s), .ref m0], M)) rfl rfl rfl ?_
    refine pl_call (a := [.ref m0, .int (nI s), .int (nI k)]) (rest := []) rfl rfl rfl (rd_at (tx := tx) (cN := cN) (A := A) (s := s) (l := l) (k := k) hR hY (hs) (by omega)) (fun v4 M5 q6 => ?_)
    obtain ⟨rfl, rfl⟩ := q6
    show pl _ _ _ (17, [(0, .ref m0), (1, .int (nI s)), (2, .int (nI k))], [.int (nI (l.getD k 0))], M) _
    have hc_14 := hY.ch hs (k := k) (by omega)
    refine ps_st (S' := (19, [(0, .ref m0), (1, .int (nI s)), (2, .int (nI k))], [.int 68, .int (nI (l.getD k 0))], M)) rfl rfl rfl ?_
    refine ps_if2 (S1 := (26, [(0, .ref m0), (1, .int (nI s)), (2, .int (nI k))], [], M)) (S2 := (22, [], [], M)) rfl rfl rfl (fun c_19 => ?_) (fun c_19 => ?_)
    · have c_19 : ¬ (nI (l.getD k 0)) = 68 := of_decide_eq_true c_19
      have n_19 : ¬ (l.getD k 0 = 68) := fun h9 => c_19 ((eq_nI (p := l.getD k 0) (n := 68) (by omega) (by decide)).mpr h9)
      refine ps_st (S' := (27, [], [.int 0], M)) rfl rfl rfl ?_
      exact ps_ret rfl rfl (⟨congrArg (fun x => some (Value.int (nI x))) (show 0 = wdN (l.getD k 0) from by
          unfold wdN
          rw [if_neg (by omega)]), rfl⟩)
    · have c_19 : ¬ (¬ (nI (l.getD k 0)) = 68) := of_decide_eq_false c_19
      have n_19 : l.getD k 0 = 68 := (eq_nI (p := l.getD k 0) (n := 68) (by omega) (by decide)).mp (Decidable.not_not.mp c_19)
      refine ps_st (S' := (23, [], [.int 1], M)) rfl rfl rfl ?_
      refine ps_st (S' := (27, [], [.int 1], M)) rfl rfl rfl ?_
      exact ps_ret rfl rfl (⟨congrArg (fun x => some (Value.int (nI x))) (show 1 = wdN (l.getD k 0) from by
          unfold wdN
          rw [if_pos (by omega)]), rfl⟩)
set_option maxHeartbeats 1000000 in
theorem rd_placesk {g : xe_G} {m0 : Nat} {q : Nat → Nat} {z : Nat × Nat} {I : rI} {R : rR} {M : mi_H} {kn k : Int32} (hR : RS g m0 q z I R M) (hi18 : I 18 = some kn)  (hk : kn < 0) : pt (mT g) 232 [.ref m0, .int k] M (fun v M' => (∃  (I' : rI) (R' : rR), v = some (.int (-1)) ∧ RS g m0 q z I' R' M' ∧ eqI [0] I I' ∧ eqR [] R R' ∧ I' 0 = some 0)) := by
  refine pt_in (b := mb_232 g) rfl (fun kf => ?_)
  show pl (mT g) kf (mb_232 g).2 (0, [(0, .ref m0), (1, .int k)], [], M) _
  have hEI : eqI [0] I I := eqI.rf
  have hER : eqR [] R R := eqR.rf
  refine ps_st (S' := (1, [(0, .ref m0), (1, .int k)], [.ref m0], M)) rfl rfl rfl ?_
  refine ps_st (S' := (2, [(0, .ref m0), (1, .int k)], [.int 0, .ref m0], M)) rfl rfl rfl ?_
  refine pr_put (j := 0) rfl hR rfl (fun M1 I2 hR3 hi4 hI5 => ?_)
  have hi6 := (hI5 18 (by decide)).trans hi18
  have hEI7 := hEI.put hI5 (by decide)
  show pl _ _ _ (5, [(0, .ref m0), (1, .int k)], [], M1) _
  refine ps_st (S' := (6, [(0, .ref m0), (1, .int k)], [.ref m0], M1)) rfl rfl rfl ?_
  refine pr_int (j := 18) (S' := (9, [(0, .ref m0), (1, .int k)], [.int kn], M1)) rfl hR3 rfl hi6 rfl ?_
  refine ps_if (S1 := (21, [], [], M1)) (S2 := (12, [(0, .ref m0), (1, .int k)], [], M1)) rfl rfl rfl (fun c_9 => ?_) (fun c_9 => ?_)
  rotate_left
  · exact absurd (hk) (of_decide_eq_false c_9)
  refine ps_st (S' := (22, [], [.int (-1)], M1)) rfl rfl rfl ?_
  exact ps_ret rfl rfl (⟨I2, R, rfl, hR3, hEI7, hER, hi4⟩)
set_option maxHeartbeats 1000000 in
theorem rd_placesT {g : xe_G} {m0 : Nat} {q : Nat → Nat} {z : Nat × Nat} {I : rI} {R : rR} {M : mi_H} {n : Nat} {f : Nat → Int32} {tx : List (List Nat)} {cN : Nat} {A : Nat → Nat} {N mj : Nat} {E : List (Nat × Nat)} {n2 : Nat} {k : Int32} (hR : RS g m0 q z I R M) (hi18 : I 18 = some (nI n2)) (hi51 : I 51 = some 0) (hi52 : I 52 = some (nI N)) (hi53 : I 53 = some (nI mj)) (hF : FK n f I R) (hY : SYT tx cN A I R) (hP : RPV f n E tx N I R) (hEP : EP f n E) (hN : N < 65536) (hmj : mj < 65536) (hn2 : n2 ≤ 65540) (h0 : tg f E 0 = 0) (ht : ¬ tg f E k.toNatClampNeg = 1) : pt (mT g) 232 [.ref m0, .int k] M (fun v M' => (∃  (I' : rI) (R' : rR), v = some (.int (-1)) ∧ RS g m0 q z I' R' M' ∧ eqI [0] I I' ∧ eqR [] R R' ∧ I' 0 = some 0)) := by
  refine pt_in (b := mb_232 g) rfl (fun kf => ?_)
  show pl (mT g) kf (mb_232 g).2 (0, [(0, .ref m0), (1, .int k)], [], M) _
  have hEI : eqI [0] I I := eqI.rf
  have hER : eqR [] R R := eqR.rf
  refine ps_st (S' := (1, [(0, .ref m0), (1, .int k)], [.ref m0], M)) rfl rfl rfl ?_
  refine ps_st (S' := (2, [(0, .ref m0), (1, .int k)], [.int 0, .ref m0], M)) rfl rfl rfl ?_
  refine pr_put (j := 0) rfl hR rfl (fun M1 I2 hR3 hi4 hI5 => ?_)
  have hi6 := (hI5 18 (by decide)).trans hi18
  have hi7 := (hI5 51 (by decide)).trans hi51
  have hi8 := (hI5 52 (by decide)).trans hi52
  have hi9 := (hI5 53 (by decide)).trans hi53
  have hF_10 := hF.mono (pIx hI5 (by decide)) (fun _ _ => rfl)
  have hY_11 := hY.mono (pIx hI5 (by decide)) (fun _ _ => rfl)
  have hP_12 := hP.mono (pIx hI5 (by decide)) (fun _ _ => rfl)
  have hEI13 := hEI.put hI5 (by decide)
  show pl _ _ _ (5, [(0, .ref m0), (1, .int k)], [], M1) _
  refine ps_st (S' := (6, [(0, .ref m0), (1, .int k)], [.ref m0], M1)) rfl rfl rfl ?_
  refine pr_int (j := 18) (S' := (9, [(0, .ref m0), (1, .int k)], [.int (nI n2)], M1)) rfl hR3 rfl hi6 rfl ?_
  refine ps_if (S1 := (21, [], [], M1)) (S2 := (12, [(0, .ref m0), (1, .int k)], [], M1)) rfl rfl rfl (fun c_9 => ?_) (fun c_9 => ?_)
  · exact absurd (of_decide_eq_true c_9) (show ¬ ((nI n2) < 0) from fun h9 => absurd ((lt_nI (p := n2) (n := 0) (by omega) (by decide)).mp h9) (by omega))
  refine ps_st (S' := (13, [(0, .ref m0), (1, .int k)], [.ref m0], M1)) rfl rfl rfl ?_
  refine ps_st (S' := (14, [(0, .ref m0), (1, .int k)], [.int k, .ref m0], M1)) rfl rfl rfl ?_
  refine pl_call (a := [.ref m0, .int k]) (rest := []) rfl rfl rfl (rd_tagR (n := n) (f := f) (tx := tx) (cN := cN) (A := A) (N := N) (mj := mj) (E := E) (k := k) hR3 hi7 hi8 hi9 hF_10 hY_11 hP_12 (hEP) (hN) (hmj) (h0)) (fun v14 M15 q16 => ?_)
  obtain ⟨rfl, rfl⟩ := q16
  show pl _ _ _ (17, [(0, .ref m0), (1, .int k)], [.int (nI (tg f E k.toNatClampNeg))], M1) _
  have htg9 := tg_lt f E k.toNatClampNeg
  refine ps_st (S' := (18, [(0, .ref m0), (1, .int k)], [.int 1, .int (nI (tg f E k.toNatClampNeg))], M1)) rfl rfl rfl ?_
  refine ps_if2 (S1 := (23, [(0, .ref m0), (1, .int k)], [], M1)) (S2 := (21, [], [], M1)) rfl rfl rfl (fun c_18 => ?_) (fun c_18 => ?_)
  · exact absurd (of_decide_eq_true c_18) (fun h9 => ht ((eq_nI (p := tg f E k.toNatClampNeg) (n := 1) (by omega) (by decide)).mp h9))
  refine ps_st (S' := (22, [], [.int (-1)], M1)) rfl rfl rfl ?_
  exact ps_ret rfl rfl (⟨I2, R, rfl, hR3, hEI13, hER, hi4⟩)
set_option maxHeartbeats 1000000 in
theorem rd_placesN {g : xe_G} {m0 : Nat} {q : Nat → Nat} {z : Nat × Nat} {I : rI} {R : rR} {M : mi_H} {n : Nat} {f : Nat → Int32} {tx : List (List Nat)} {cN : Nat} {A : Nat → Nat} {N mj : Nat} {E : List (Nat × Nat)} {n2 : Nat} {j : Nat} (hR : RS g m0 q z I R M) (hi18 : I 18 = some (nI n2)) (hi51 : I 51 = some 0) (hi52 : I 52 = some (nI N)) (hi53 : I 53 = some (nI mj)) (hF : FK n f I R) (hY : SYT tx cN A I R) (hP : RPV f n E tx N I R) (hEP : EP f n E) (hN : N < 65536) (hmj : mj < 65536) (hn2 : n2 ≤ 65540) (hj : j < 65536) (h1t : tg f E j = 1) (hfl : fldN (tX f n E j) = 0) (hm : mthN (tX f n E j) = 0) : pt (mT g) 232 [.ref m0, .int (nI j)] M (fun v M' => (∃  (I' : rI) (R' : rR), v = some (.int (plT (tX f n E j))) ∧ RS g m0 q z I' R' M' ∧ eqI [0] I I' ∧ eqR [] R R' ∧ I' 0 = some 0)) := by
  refine pt_in (b := mb_232 g) rfl (fun kf => ?_)
  show pl (mT g) kf (mb_232 g).2 (0, [(0, .ref m0), (1, .int (nI j))], [], M) _
  have hEI : eqI [0] I I := eqI.rf
  have hER : eqR [] R R := eqR.rf
  have hn := hF.1
  have hlx := tx_len f n E j
  refine ps_st (S' := (1, [(0, .ref m0), (1, .int (nI j))], [.ref m0], M)) rfl rfl rfl ?_
  refine ps_st (S' := (2, [(0, .ref m0), (1, .int (nI j))], [.int 0, .ref m0], M)) rfl rfl rfl ?_
  refine pr_put (j := 0) rfl hR rfl (fun M1 I2 hR3 hi4 hI5 => ?_)
  have hi6 := (hI5 18 (by decide)).trans hi18
  have hi7 := (hI5 51 (by decide)).trans hi51
  have hi8 := (hI5 52 (by decide)).trans hi52
  have hi9 := (hI5 53 (by decide)).trans hi53
  have hF_10 := hF.mono (pIx hI5 (by decide)) (fun _ _ => rfl)
  have hY_11 := hY.mono (pIx hI5 (by decide)) (fun _ _ => rfl)
  have hP_12 := hP.mono (pIx hI5 (by decide)) (fun _ _ => rfl)
  have hEI13 := hEI.put hI5 (by decide)
  show pl _ _ _ (5, [(0, .ref m0), (1, .int (nI j))], [], M1) _
  refine ps_st (S' := (6, [(0, .ref m0), (1, .int (nI j))], [.ref m0], M1)) rfl rfl rfl ?_
  refine pr_int (j := 18) (S' := (9, [(0, .ref m0), (1, .int (nI j))], [.int (nI n2)], M1)) rfl hR3 rfl hi6 rfl ?_
  refine ps_if (S1 := (21, [], [], M1)) (S2 := (12, [(0, .ref m0), (1, .int (nI j))], [], M1)) rfl rfl rfl (fun c_9 => ?_) (fun c_9 => ?_)
  · exact absurd (of_decide_eq_true c_9) (show ¬ ((nI n2) < 0) from fun h9 => absurd ((lt_nI (p := n2) (n := 0) (by omega) (by decide)).mp h9) (by omega))
  refine ps_st (S' := (13, [(0, .ref m0), (1, .int (nI j))], [.ref m0], M1)) rfl rfl rfl ?_
  refine ps_st (S' := (14, [(0, .ref m0), (1, .int (nI j))], [.int (nI j), .ref m0], M1)) rfl rfl rfl ?_
  refine pl_call (a := [.ref m0, .int (nI j)]) (rest := []) rfl rfl rfl (rd_tag (n := n) (f := f) (tx := tx) (cN := cN) (A := A) (N := N) (mj := mj) (E := E) (k := j) hR3 hi7 hi8 hi9 hF_10 hY_11 hP_12 (hEP) (hN) (hmj) (by omega)) (fun v14 M15 q16 => ?_)
  obtain ⟨rfl, rfl⟩ := q16
  show pl _ _ _ (17, [(0, .ref m0), (1, .int (nI j))], [.int (nI (tg f E j))], M1) _
  have htg_14 := tg_lt f E j
  refine ps_st (S' := (18, [(0, .ref m0), (1, .int (nI j))], [.int 1, .int (nI (tg f E j))], M1)) rfl rfl rfl ?_
  refine ps_if2 (S1 := (23, [(0, .ref m0), (1, .int (nI j))], [], M1)) (S2 := (21, [], [], M1)) rfl rfl rfl (fun c_18 => ?_) (fun c_18 => ?_)
  rotate_left
  · exact absurd (by rw [h1t]; rfl) (of_decide_eq_false c_18)
  refine ps_st (S' := (24, [(0, .ref m0), (1, .int (nI j))], [.ref m0], M1)) rfl rfl rfl ?_
  refine ps_st (S' := (25, [(0, .ref m0), (1, .int (nI j))], [.int (nI j), .ref m0], M1)) rfl rfl rfl ?_
  refine pl_call (a := [.ref m0, .int (nI j)]) (rest := []) rfl rfl rfl (rd_symOf (n := n) (f := f) (tx := tx) (cN := cN) (A := A) (N := N) (mj := mj) (E := E) (k := j) hR3 hi7 hi8 hi9 hF_10 hY_11 hP_12 (hEP) (hN) (hmj) (by omega)) (fun v17 M18 q19 => ?_)
  obtain ⟨s20, q25_s, rfl, rfl⟩ := q19
  show pl _ _ _ (28, [(0, .ref m0), (1, .int (nI j))], [.int (nI s20)], M1) _
  have hsl_25 := q25_s.1
  have htl_25 := hY_11.1.2.2.1
  refine ps_st (S' := (29, [(2, .int (nI s20)), (0, .ref m0), (1, .int (nI j))], [], M1)) rfl rfl rfl ?_
  refine ps_st (S' := (30, [(2, .int (nI s20)), (0, .ref m0), (1, .int (nI j))], [.ref m0], M1)) rfl rfl rfl ?_
  refine ps_st (S' := (31, [(2, .int (nI s20)), (0, .ref m0), (1, .int (nI j))], [.int (nI s20), .ref m0], M1)) rfl rfl rfl ?_
  refine pl_call (a := [.ref m0, .int (nI s20)]) (rest := []) rfl rfl rfl (rd_isField (tx := tx) (cN := cN) (A := A) (s := s20) (l := (tX f n E j)) hR3 hY_11 (q25_s)) (fun v21 M22 q23 => ?_)
  obtain ⟨rfl, rfl⟩ := q23
  show pl _ _ _ (34, [(2, .int (nI s20)), (0, .ref m0), (1, .int (nI j))], [.int (nI (fldN (tX f n E j)))], M1) _
  refine ps_if (S1 := (52, [(2, .int (nI s20)), (0, .ref m0), (1, .int (nI j))], [], M1)) (S2 := (37, [(2, .int (nI s20)), (0, .ref m0), (1, .int (nI j))], [], M1)) rfl rfl rfl (fun c_34 => ?_) (fun c_34 => ?_)
  rotate_left
  · exact absurd ((eq_nI (p := fldN (tX f n E j)) (n := 0) (Nat.lt_trans (le1_fld _) (by decide)) (by decide)).mpr (by omega)) (of_decide_eq_false c_34)
  refine ps_st (S' := (53, [(2, .int (nI s20)), (0, .ref m0), (1, .int (nI j))], [.ref m0], M1)) rfl rfl rfl ?_
  refine ps_st (S' := (54, [(2, .int (nI s20)), (0, .ref m0), (1, .int (nI j))], [.int (nI s20), .ref m0], M1)) rfl rfl rfl ?_
  refine pl_call (a := [.ref m0, .int (nI s20)]) (rest := []) rfl rfl rfl (rd_isMethod (tx := tx) (cN := cN) (A := A) (s := s20) (l := (tX f n E j)) hR3 hY_11 (q25_s)) (fun v24 M25 q26 => ?_)
  obtain ⟨rfl, rfl⟩ := q26
  show pl _ _ _ (57, [(2, .int (nI s20)), (0, .ref m0), (1, .int (nI j))], [.int (nI (mthN (tX f n E j)))], M1) _
  refine ps_if (S1 := (62, [(2, .int (nI s20)), (0, .ref m0), (1, .int (nI j))], [], M1)) (S2 := (60, [(2, .int (nI s20)), (0, .ref m0), (1, .int (nI j))], [], M1)) rfl rfl rfl (fun c_57 => ?_) (fun c_57 => ?_)
  · exact absurd (of_decide_eq_true c_57) (fun h9 => h9 ((eq_nI (p := mthN (tX f n E j)) (n := 0) (Nat.lt_trans (le1_mth _) (by decide)) (by decide)).mpr (by omega)))
  refine ps_st (S' := (61, [(2, .int (nI s20)), (0, .ref m0), (1, .int (nI j))], [.int (-1)], M1)) rfl rfl rfl ?_
  exact ps_ret rfl rfl (⟨I2, R, congrArg (fun x => some (Value.int x)) (plT_n hfl hm).symm, hR3, hEI13, hER, hi4⟩)
set_option maxHeartbeats 1000000 in
theorem rd_placesF {g : xe_G} {m0 : Nat} {q : Nat → Nat} {z : Nat × Nat} {I : rI} {R : rR} {M : mi_H} {n : Nat} {f : Nat → Int32} {tx : List (List Nat)} {cN : Nat} {A : Nat → Nat} {N mj : Nat} {E : List (Nat × Nat)} {n2 : Nat} {j : Nat} (hR : RS g m0 q z I R M) (hi18 : I 18 = some (nI n2)) (hi51 : I 51 = some 0) (hi52 : I 52 = some (nI N)) (hi53 : I 53 = some (nI mj)) (hF : FK n f I R) (hY : SYT tx cN A I R) (hP : RPV f n E tx N I R) (hEP : EP f n E) (hN : N < 65536) (hmj : mj < 65536) (hn2 : n2 ≤ 65540) (hj : j < 65536) (h1t : tg f E j = 1) (hfl : ¬ fldN (tX f n E j) = 0) : pt (mT g) 232 [.ref m0, .int (nI j)] M (fun v M' => (∃  (I' : rI) (R' : rR), v = some (.int (plT (tX f n E j))) ∧ RS g m0 q z I' R' M' ∧ eqI [0] I I' ∧ eqR [] R R' ∧ I' 0 = some 0)) := by
  refine pt_in (b := mb_232 g) rfl (fun kf => ?_)
  show pl (mT g) kf (mb_232 g).2 (0, [(0, .ref m0), (1, .int (nI j))], [], M) _
  have hEI : eqI [0] I I := eqI.rf
  have hER : eqR [] R R := eqR.rf
  have hn := hF.1
  have hlx := tx_len f n E j
  have hf9 := (fld_sh hfl).2
  refine ps_st (S' := (1, [(0, .ref m0), (1, .int (nI j))], [.ref m0], M)) rfl rfl rfl ?_
  refine ps_st (S' := (2, [(0, .ref m0), (1, .int (nI j))], [.int 0, .ref m0], M)) rfl rfl rfl ?_
  refine pr_put (j := 0) rfl hR rfl (fun M1 I2 hR3 hi4 hI5 => ?_)
  have hi6 := (hI5 18 (by decide)).trans hi18
  have hi7 := (hI5 51 (by decide)).trans hi51
  have hi8 := (hI5 52 (by decide)).trans hi52
  have hi9 := (hI5 53 (by decide)).trans hi53
  have hF_10 := hF.mono (pIx hI5 (by decide)) (fun _ _ => rfl)
  have hY_11 := hY.mono (pIx hI5 (by decide)) (fun _ _ => rfl)
  have hP_12 := hP.mono (pIx hI5 (by decide)) (fun _ _ => rfl)
  have hEI13 := hEI.put hI5 (by decide)
  show pl _ _ _ (5, [(0, .ref m0), (1, .int (nI j))], [], M1) _
  refine ps_st (S' := (6, [(0, .ref m0), (1, .int (nI j))], [.ref m0], M1)) rfl rfl rfl ?_
  refine pr_int (j := 18) (S' := (9, [(0, .ref m0), (1, .int (nI j))], [.int (nI n2)], M1)) rfl hR3 rfl hi6 rfl ?_
  refine ps_if (S1 := (21, [], [], M1)) (S2 := (12, [(0, .ref m0), (1, .int (nI j))], [], M1)) rfl rfl rfl (fun c_9 => ?_) (fun c_9 => ?_)
  · exact absurd (of_decide_eq_true c_9) (show ¬ ((nI n2) < 0) from fun h9 => absurd ((lt_nI (p := n2) (n := 0) (by omega) (by decide)).mp h9) (by omega))
  refine ps_st (S' := (13, [(0, .ref m0), (1, .int (nI j))], [.ref m0], M1)) rfl rfl rfl ?_
  refine ps_st (S' := (14, [(0, .ref m0), (1, .int (nI j))], [.int (nI j), .ref m0], M1)) rfl rfl rfl ?_
  refine pl_call (a := [.ref m0, .int (nI j)]) (rest := []) rfl rfl rfl (rd_tag (n := n) (f := f) (tx := tx) (cN := cN) (A := A) (N := N) (mj := mj) (E := E) (k := j) hR3 hi7 hi8 hi9 hF_10 hY_11 hP_12 (hEP) (hN) (hmj) (by omega)) (fun v14 M15 q16 => ?_)
  obtain ⟨rfl, rfl⟩ := q16
  show pl _ _ _ (17, [(0, .ref m0), (1, .int (nI j))], [.int (nI (tg f E j))], M1) _
  have htg_14 := tg_lt f E j
  refine ps_st (S' := (18, [(0, .ref m0), (1, .int (nI j))], [.int 1, .int (nI (tg f E j))], M1)) rfl rfl rfl ?_
  refine ps_if2 (S1 := (23, [(0, .ref m0), (1, .int (nI j))], [], M1)) (S2 := (21, [], [], M1)) rfl rfl rfl (fun c_18 => ?_) (fun c_18 => ?_)
  rotate_left
  · exact absurd (by rw [h1t]; rfl) (of_decide_eq_false c_18)
  refine ps_st (S' := (24, [(0, .ref m0), (1, .int (nI j))], [.ref m0], M1)) rfl rfl rfl ?_
  refine ps_st (S' := (25, [(0, .ref m0), (1, .int (nI j))], [.int (nI j), .ref m0], M1)) rfl rfl rfl ?_
  refine pl_call (a := [.ref m0, .int (nI j)]) (rest := []) rfl rfl rfl (rd_symOf (n := n) (f := f) (tx := tx) (cN := cN) (A := A) (N := N) (mj := mj) (E := E) (k := j) hR3 hi7 hi8 hi9 hF_10 hY_11 hP_12 (hEP) (hN) (hmj) (by omega)) (fun v17 M18 q19 => ?_)
  obtain ⟨s20, q25_s, rfl, rfl⟩ := q19
  show pl _ _ _ (28, [(0, .ref m0), (1, .int (nI j))], [.int (nI s20)], M1) _
  have hsl_25 := q25_s.1
  have htl_25 := hY_11.1.2.2.1
  refine ps_st (S' := (29, [(2, .int (nI s20)), (0, .ref m0), (1, .int (nI j))], [], M1)) rfl rfl rfl ?_
  refine ps_st (S' := (30, [(2, .int (nI s20)), (0, .ref m0), (1, .int (nI j))], [.ref m0], M1)) rfl rfl rfl ?_
  refine ps_st (S' := (31, [(2, .int (nI s20)), (0, .ref m0), (1, .int (nI j))], [.int (nI s20), .ref m0], M1)) rfl rfl rfl ?_
  refine pl_call (a := [.ref m0, .int (nI s20)]) (rest := []) rfl rfl rfl (rd_isField (tx := tx) (cN := cN) (A := A) (s := s20) (l := (tX f n E j)) hR3 hY_11 (q25_s)) (fun v21 M22 q23 => ?_)
  obtain ⟨rfl, rfl⟩ := q23
  show pl _ _ _ (34, [(2, .int (nI s20)), (0, .ref m0), (1, .int (nI j))], [.int (nI (fldN (tX f n E j)))], M1) _
  refine ps_if (S1 := (52, [(2, .int (nI s20)), (0, .ref m0), (1, .int (nI j))], [], M1)) (S2 := (37, [(2, .int (nI s20)), (0, .ref m0), (1, .int (nI j))], [], M1)) rfl rfl rfl (fun c_34 => ?_) (fun c_34 => ?_)
  · exact absurd (of_decide_eq_true c_34) (show ¬ ((nI (fldN (tX f n E j))) = 0) from fun h9 => absurd ((eq_nI (p := fldN (tX f n E j)) (n := 0) (Nat.lt_trans (le1_fld _) (by decide)) (by decide)).mp h9) (by omega))
  refine ps_st (S' := (38, [(2, .int (nI s20)), (0, .ref m0), (1, .int (nI j))], [.ref m0], M1)) rfl rfl rfl ?_
  refine ps_st (S' := (39, [(2, .int (nI s20)), (0, .ref m0), (1, .int (nI j))], [.int (nI s20), .ref m0], M1)) rfl rfl rfl ?_
  refine ps_st (S' := (40, [(2, .int (nI s20)), (0, .ref m0), (1, .int (nI j))], [.int 0, .int (nI s20), .ref m0], M1)) rfl rfl rfl ?_
  refine pl_call (a := [.ref m0, .int (nI s20), .int 0]) (rest := []) rfl rfl rfl (rd_wide (tx := tx) (cN := cN) (A := A) (s := s20) (l := (tX f n E j)) (k := 0) hR3 hY_11 (q25_s) (by omega)) (fun v24 M25 q26 => ?_)
  obtain ⟨rfl, rfl⟩ := q26
  show pl _ _ _ (43, [(2, .int (nI s20)), (0, .ref m0), (1, .int (nI j))], [.int (nI (wdN ((tX f n E j).getD 0 0)))], M1) _
  have hw_40 := le1_wd ((tX f n E j).getD 0 0)
  refine ps_if (S1 := (50, [(2, .int (nI s20)), (0, .ref m0), (1, .int (nI j))], [], M1)) (S2 := (46, [(2, .int (nI s20)), (0, .ref m0), (1, .int (nI j))], [], M1)) rfl rfl rfl (fun c_43 => ?_) (fun c_43 => ?_)
  · have c_43 : (nI (wdN ((tX f n E j).getD 0 0))) = 0 := of_decide_eq_true c_43
    have n_43 : wdN ((tX f n E j).getD 0 0) = 0 := (eq_nI (p := wdN ((tX f n E j).getD 0 0)) (n := 0) (Nat.lt_trans (le1_wd _) (by decide)) (by decide)).mp c_43
    refine ps_st (S' := (51, [], [.int 1], M1)) rfl rfl rfl ?_
    exact ps_ret rfl rfl (⟨I2, R, congrArg (fun x => some (Value.int x)) (plT_f (t := 1) hfl (by rw [pW_wd]; omega) rfl), hR3, hEI13, hER, hi4⟩)
  · have c_43 : ¬ ((nI (wdN ((tX f n E j).getD 0 0))) = 0) := of_decide_eq_false c_43
    have n_43 : ¬ (wdN ((tX f n E j).getD 0 0) = 0) := fun h9 => c_43 ((eq_nI (p := wdN ((tX f n E j).getD 0 0)) (n := 0) (Nat.lt_trans (le1_wd _) (by decide)) (by decide)).mpr h9)
    refine ps_st (S' := (47, [(2, .int (nI s20)), (0, .ref m0), (1, .int (nI j))], [.int 2], M1)) rfl rfl rfl ?_
    refine ps_st (S' := (51, [], [.int 2], M1)) rfl rfl rfl ?_
    exact ps_ret rfl rfl (⟨I2, R, congrArg (fun x => some (Value.int x)) (plT_f (t := 2) hfl (by rw [pW_wd]; omega) rfl), hR3, hEI13, hER, hi4⟩)
set_option maxHeartbeats 1000000 in
theorem rd_placesM {g : xe_G} {m0 : Nat} {q : Nat → Nat} {z : Nat × Nat} {I : rI} {R : rR} {M : mi_H} {n : Nat} {f : Nat → Int32} {tx : List (List Nat)} {cN : Nat} {A : Nat → Nat} {N mj : Nat} {E : List (Nat × Nat)} {n2 : Nat} {j k0 W : Nat} (hR : RS g m0 q z I R M) (hi18 : I 18 = some (nI n2)) (hi51 : I 51 = some 0) (hi52 : I 52 = some (nI N)) (hi53 : I 53 = some (nI mj)) (hF : FK n f I R) (hY : SYT tx cN A I R) (hP : RPV f n E tx N I R) (hEP : EP f n E) (hN : N < 65536) (hmj : mj < 65536) (hn2 : n2 ≤ 65540) (hj : j < 65536) (h1t : tg f E j = 1) (hfl : fldN (tX f n E j) = 0) (hm : ¬ mthN (tX f n E j) = 0) (hpl : s_pl (fun i => (tX f n E j).getD i 0) (tX f n E j).length ((tX f n E j).length - 1) 1 0 = some (k0, W)) (hk0 : k0 + 1 < (tX f n E j).length ∧ 1 ≤ k0 ∧ (tX f n E j).getD k0 0 = 41) (hW : W ≤ 255) : pt (mT g) 232 [.ref m0, .int (nI j)] M (fun v M' => (∃  (I' : rI) (R' : rR), v = some (.int (plT (tX f n E j))) ∧ RS g m0 q z I' R' M' ∧ eqI [0] I I' ∧ eqR [] R R' ∧ I' 0 = some 0)) := by
  refine pt_in (b := mb_232 g) rfl (fun kf => ?_)
  show pl (mT g) kf (mb_232 g).2 (0, [(0, .ref m0), (1, .int (nI j))], [], M) _
  have hEI : eqI [0] I I := eqI.rf
  have hER : eqR [] R R := eqR.rf
  have hn := hF.1
  have hlx := tx_len f n E j
  have LL : ∀ (kf : Nat), (∀ (s r w : Nat) (M1 : mi_H) (I1 : rI) (R1 : rR), (RS g m0 q z I1 R1 M1) → (eqI [0] I I1) → (eqR [] R R1) → (I1 0 = some 0) → (SYT tx cN A I1 R1) → (s < tx.length ∧ tx.getD s [] = tX f n E j) → (1 ≤ r ∧ r ≤ (tX f n E j).length) → (s_pl (fun i => (tX f n E j).getD i 0) (tX f n E j).length ((tX f n E j).length - r) r w = some (k0, W)) →  pl (mT g) kf (mb_232 g).2 (73, [(0, .ref m0), (2, .int (nI s)), (3, .int (nI ((tX f n E j).length - 1))), (4, .int (nI r))], [], M1) (fun v M' => (∃  (I' : rI) (R' : rR), v = some (.int (plT (tX f n E j))) ∧ RS g m0 q z I' R' M' ∧ eqI [0] I I' ∧ eqR [] R R' ∧ I' 0 = some 0))) := by
    intro kf
    induction kf with
    | zero => exact (by intros; exact pl_0)
    | succ kf ih =>
      intro s r w M1 I1 R1 hR1 hEI1 hER1 hl0 hY1 hs hr hp
      have hlt : r < (tX f n E j).length := Nat.not_le.mp (fun h9 => by rw [s_pl_0 (by omega)] at hp; cases hp; omega)
      have hts := hY1.1.2.2
      refine ps_st1 (S' := (74, [(0, .ref m0), (2, .int (nI s)), (3, .int (nI ((tX f n E j).length - 1))), (4, .int (nI r))], [.ref m0], M1)) rfl rfl rfl ?_
      refine ps_st (S' := (75, [(0, .ref m0), (2, .int (nI s)), (3, .int (nI ((tX f n E j).length - 1))), (4, .int (nI r))], [.int (nI s), .ref m0], M1)) rfl rfl rfl ?_
      refine ps_st (S' := (77, [(0, .ref m0), (2, .int (nI s)), (3, .int (nI ((tX f n E j).length - 1))), (4, .int (nI r))], [.int (nI r), .int (nI s), .ref m0], M1)) rfl rfl rfl ?_
      refine pl_call (a := [.ref m0, .int (nI s), .int (nI r)]) (rest := []) rfl rfl rfl (rd_at (tx := tx) (cN := cN) (A := A) (s := s) (l := (tX f n E j)) (k := r) hR1 hY1 (hs) (by omega)) (fun v1 M2 q3 => ?_)
      obtain ⟨rfl, rfl⟩ := q3
      show pl _ _ _ (80, [(0, .ref m0), (2, .int (nI s)), (3, .int (nI ((tX f n E j).length - 1))), (4, .int (nI r))], [.int (nI ((tX f n E j).getD r 0))], M1) _
      have hc_77 := hY1.ch hs (k := r) (by omega)
      refine ps_st (S' := (82, [(0, .ref m0), (2, .int (nI s)), (3, .int (nI ((tX f n E j).length - 1))), (4, .int (nI r))], [.int 41, .int (nI ((tX f n E j).getD r 0))], M1)) rfl rfl rfl ?_
      refine ps_if2 (S1 := (97, [(0, .ref m0), (2, .int (nI s)), (3, .int (nI ((tX f n E j).length - 1))), (4, .int (nI r))], [], M1)) (S2 := (85, [(0, .ref m0), (2, .int (nI s)), (3, .int (nI ((tX f n E j).length - 1))), (4, .int (nI r))], [], M1)) rfl rfl rfl (fun c_82 => ?_) (fun c_82 => ?_)
      · have c_82 : (nI ((tX f n E j).getD r 0)) = 41 := of_decide_eq_true c_82
        have n_82 : (tX f n E j).getD r 0 = 41 := (eq_nI (p := (tX f n E j).getD r 0) (n := 41) (Nat.lt_trans (tx_ch _ _ _ _ _) (by decide)) (by decide)).mp c_82
        have er9 : r = k0 ∧ w = W := by rw [s_pl_0 (by omega)] at hp; cases hp; exact ⟨rfl, rfl⟩
        refine ps_st (S' := (98, [(0, .ref m0), (2, .int (nI s)), (3, .int (nI ((tX f n E j).length - 1))), (4, .int (nI r))], [.ref m0], M1)) rfl rfl rfl ?_
        refine ps_st (S' := (99, [(0, .ref m0), (2, .int (nI s)), (3, .int (nI ((tX f n E j).length - 1))), (4, .int (nI r))], [.int (nI s), .ref m0], M1)) rfl rfl rfl ?_
        refine pl_call (a := [.ref m0, .int (nI s)]) (rest := []) rfl rfl rfl (rd_places0 (tx := tx) (cN := cN) (A := A) (s := s) (l := (tX f n E j)) (k0 := k0) (W := W) hR1 hY1 (hs) (hpl) (⟨by omega, hk0.2.2⟩)) (fun v4 M5 q6 => ?_)
        obtain ⟨rfl, rfl⟩ := q6
        show pl _ _ _ (102, [(0, .ref m0), (2, .int (nI s)), (3, .int (nI ((tX f n E j).length - 1))), (4, .int (nI r))], [.int (nI (W))], M1) _
        refine ps_st (S' := (105, [(0, .ref m0), (2, .int (nI s)), (3, .int (nI ((tX f n E j).length - 1))), (4, .int (nI r))], [.int 1024, .int (nI (W))], M1)) rfl rfl rfl ?_
        refine ps_st (S' := (106, [(0, .ref m0), (2, .int (nI s)), (3, .int (nI ((tX f n E j).length - 1))), (4, .int (nI r))], [.ref m0, .int 1024, .int (nI (W))], M1)) rfl rfl rfl ?_
        refine ps_st (S' := (107, [(0, .ref m0), (2, .int (nI s)), (3, .int (nI ((tX f n E j).length - 1))), (4, .int (nI r))], [.int (nI s), .ref m0, .int 1024, .int (nI (W))], M1)) rfl rfl rfl ?_
        refine ps_st (S' := (108, [(0, .ref m0), (2, .int (nI s)), (3, .int (nI ((tX f n E j).length - 1))), (4, .int (nI r))], [.int (nI ((tX f n E j).length - 1)), .int (nI s), .ref m0, .int 1024, .int (nI (W))], M1)) rfl rfl rfl ?_
        refine pl_call (a := [.ref m0, .int (nI s), .int (nI ((tX f n E j).length - 1))]) (rest := [.int 1024, .int (nI (W))]) rfl rfl rfl (rd_at (tx := tx) (cN := cN) (A := A) (s := s) (l := (tX f n E j)) (k := ((tX f n E j).length - 1)) hR1 hY1 (hs) (by omega)) (fun v7 M8 q9 => ?_)
        obtain ⟨rfl, rfl⟩ := q9
        show pl _ _ _ (111, [(0, .ref m0), (2, .int (nI s)), (3, .int (nI ((tX f n E j).length - 1))), (4, .int (nI r))], [.int (nI ((tX f n E j).getD ((tX f n E j).length - 1) 0)), .int 1024, .int (nI (W))], M1) _
        have hc_108 := hY1.ch hs (k := (tX f n E j).length - 1) (by omega)
        refine ps_st (S' := (113, [(0, .ref m0), (2, .int (nI s)), (3, .int (nI ((tX f n E j).length - 1))), (4, .int (nI r))], [.int 86, .int (nI ((tX f n E j).getD ((tX f n E j).length - 1) 0)), .int 1024, .int (nI (W))], M1)) rfl rfl rfl ?_
        refine ps_if2 (S1 := (128, [(0, .ref m0), (2, .int (nI s)), (4, .int (nI r))], [.int 1024, .int (nI (W))], M1)) (S2 := (116, [(0, .ref m0), (2, .int (nI s)), (3, .int (nI ((tX f n E j).length - 1))), (4, .int (nI r))], [.int 1024, .int (nI (W))], M1)) rfl rfl rfl (fun c_113 => ?_) (fun c_113 => ?_)
        · have c_113 : ¬ (nI ((tX f n E j).getD ((tX f n E j).length - 1) 0)) = 86 := of_decide_eq_true c_113
          have n_113 : ¬ ((tX f n E j).getD ((tX f n E j).length - 1) 0 = 86) := fun h9 => c_113 ((eq_nI (p := (tX f n E j).getD ((tX f n E j).length - 1) 0) (n := 86) (by omega) (by decide)).mpr h9)
          refine ps_st (S' := (129, [(0, .ref m0), (2, .int (nI s)), (4, .int (nI r))], [.ref m0, .int 1024, .int (nI (W))], M1)) rfl rfl rfl ?_
          refine ps_st (S' := (130, [(0, .ref m0), (2, .int (nI s)), (4, .int (nI r))], [.int (nI s), .ref m0, .int 1024, .int (nI (W))], M1)) rfl rfl rfl ?_
          refine ps_st (S' := (132, [(0, .ref m0), (2, .int (nI s)), (4, .int (nI r))], [.int (nI r), .int (nI s), .ref m0, .int 1024, .int (nI (W))], M1)) rfl rfl rfl ?_
          refine ps_st (S' := (133, [(0, .ref m0), (2, .int (nI s)), (4, .int (nI r))], [.int 1, .int (nI r), .int (nI s), .ref m0, .int 1024, .int (nI (W))], M1)) rfl rfl rfl ?_
          refine ps_st (S' := (134, [(0, .ref m0), (2, .int (nI s)), (4, .int (nI r))], [.int ((nI r) + 1), .int (nI s), .ref m0, .int 1024, .int (nI (W))], M1)) rfl rfl rfl ?_
          rw [nI_add1 (p := r) (k := 1) (x := 1) rfl (by omega)]
          show pl _ _ _ (_, [(0, .ref m0), (2, .int (nI s)), (4, .int (nI r))], [.int (nI (r + 1)), .int (nI s), .ref m0, .int 1024, .int (nI (W))], M1) _
          refine pl_call (a := [.ref m0, .int (nI s), .int (nI (r + 1))]) (rest := [.int 1024, .int (nI (W))]) rfl rfl rfl (rd_wide (tx := tx) (cN := cN) (A := A) (s := s) (l := (tX f n E j)) (k := (r + 1)) hR1 hY1 (hs) (by omega)) (fun v10 M11 q12 => ?_)
          obtain ⟨rfl, rfl⟩ := q12
          show pl _ _ _ (137, [(0, .ref m0), (2, .int (nI s)), (4, .int (nI r))], [.int (nI (wdN ((tX f n E j).getD (r + 1) 0))), .int 1024, .int (nI (W))], M1) _
          have hw_134 := le1_wd ((tX f n E j).getD (r + 1) 0)
          refine ps_if (S1 := (144, [(0, .ref m0), (2, .int (nI s)), (4, .int (nI r))], [.int 1024, .int (nI (W))], M1)) (S2 := (140, [(0, .ref m0), (2, .int (nI s)), (4, .int (nI r))], [.int 1024, .int (nI (W))], M1)) rfl rfl rfl (fun c_137 => ?_) (fun c_137 => ?_)
          · have c_137 : (nI (wdN ((tX f n E j).getD (r + 1) 0))) = 0 := of_decide_eq_true c_137
            have n_137 : wdN ((tX f n E j).getD (r + 1) 0) = 0 := (eq_nI (p := wdN ((tX f n E j).getD (r + 1) 0)) (n := 0) (Nat.lt_trans (le1_wd _) (by decide)) (by decide)).mp c_137
            refine ps_st (S' := (145, [], [.int 1, .int 1024, .int (nI (W))], M1)) rfl rfl rfl ?_
            refine ps_st (S' := (146, [], [.int (1024 * 1), .int (nI (W))], M1)) rfl rfl rfl ?_
            refine ps_st (S' := (147, [], [.int ((nI (W)) + (1024 * 1))], M1)) rfl rfl rfl ?_
            exact ps_reti rfl (⟨I1, R1, congrArg (fun x => some (Value.int x)) (plT_v (t := 1) hm (show s_pl (fun i => (tX f n E j).getD i 0) (tX f n E j).length ((tX f n E j).length - 1) 1 0 = some (r, W) from by rw [hpl, er9.1]) (by rw [if_neg (by omega), pW_wd]; omega) rfl), hR1, hEI1, hER1, hl0⟩)
          · have c_137 : ¬ ((nI (wdN ((tX f n E j).getD (r + 1) 0))) = 0) := of_decide_eq_false c_137
            have n_137 : ¬ (wdN ((tX f n E j).getD (r + 1) 0) = 0) := fun h9 => c_137 ((eq_nI (p := wdN ((tX f n E j).getD (r + 1) 0)) (n := 0) (Nat.lt_trans (le1_wd _) (by decide)) (by decide)).mpr h9)
            refine ps_st (S' := (141, [(0, .ref m0), (2, .int (nI s)), (4, .int (nI r))], [.int 2, .int 1024, .int (nI (W))], M1)) rfl rfl rfl ?_
            refine ps_st (S' := (145, [], [.int 2, .int 1024, .int (nI (W))], M1)) rfl rfl rfl ?_
            refine ps_st (S' := (146, [], [.int (1024 * 2), .int (nI (W))], M1)) rfl rfl rfl ?_
            refine ps_st (S' := (147, [], [.int ((nI (W)) + (1024 * 2))], M1)) rfl rfl rfl ?_
            exact ps_reti rfl (⟨I1, R1, congrArg (fun x => some (Value.int x)) (plT_v (t := 2) hm (show s_pl (fun i => (tX f n E j).getD i 0) (tX f n E j).length ((tX f n E j).length - 1) 1 0 = some (r, W) from by rw [hpl, er9.1]) (by rw [if_neg (by omega), pW_wd]; omega) rfl), hR1, hEI1, hER1, hl0⟩)
        · have c_113 : ¬ (¬ (nI ((tX f n E j).getD ((tX f n E j).length - 1) 0)) = 86) := of_decide_eq_false c_113
          have n_113 : (tX f n E j).getD ((tX f n E j).length - 1) 0 = 86 := (eq_nI (p := (tX f n E j).getD ((tX f n E j).length - 1) 0) (n := 86) (by omega) (by decide)).mp (Decidable.not_not.mp c_113)
          refine ps_st (S' := (117, [(0, .ref m0), (2, .int (nI s)), (3, .int (nI ((tX f n E j).length - 1))), (4, .int (nI r))], [.int (nI ((tX f n E j).length - 1)), .int 1024, .int (nI (W))], M1)) rfl rfl rfl ?_
          refine ps_st (S' := (119, [(0, .ref m0), (2, .int (nI s)), (3, .int (nI ((tX f n E j).length - 1))), (4, .int (nI r))], [.int (nI r), .int (nI ((tX f n E j).length - 1)), .int 1024, .int (nI (W))], M1)) rfl rfl rfl ?_
          refine ps_st (S' := (120, [(0, .ref m0), (2, .int (nI s)), (3, .int (nI ((tX f n E j).length - 1))), (4, .int (nI r))], [.int 1, .int (nI r), .int (nI ((tX f n E j).length - 1)), .int 1024, .int (nI (W))], M1)) rfl rfl rfl ?_
          refine ps_st (S' := (121, [(0, .ref m0), (2, .int (nI s)), (3, .int (nI ((tX f n E j).length - 1))), (4, .int (nI r))], [.int ((nI r) + 1), .int (nI ((tX f n E j).length - 1)), .int 1024, .int (nI (W))], M1)) rfl rfl rfl ?_
          rw [nI_add1 (p := r) (k := 1) (x := 1) rfl (by omega)]
          show pl _ _ _ (_, [(0, .ref m0), (2, .int (nI s)), (3, .int (nI ((tX f n E j).length - 1))), (4, .int (nI r))], [.int (nI (r + 1)), .int (nI ((tX f n E j).length - 1)), .int 1024, .int (nI (W))], M1) _
          refine ps_if2 (S1 := (128, [(0, .ref m0), (2, .int (nI s)), (4, .int (nI r))], [.int 1024, .int (nI (W))], M1)) (S2 := (124, [(0, .ref m0), (2, .int (nI s)), (3, .int (nI ((tX f n E j).length - 1))), (4, .int (nI r))], [.int 1024, .int (nI (W))], M1)) rfl rfl rfl (fun c_121 => ?_) (fun c_121 => ?_)
          · have c_121 : ¬ (nI ((tX f n E j).length - 1)) = (nI (r + 1)) := of_decide_eq_true c_121
            have n_121 : ¬ ((tX f n E j).length - 1 = r + 1) := fun h9 => c_121 ((eq_nI (p := (tX f n E j).length - 1) (n := r + 1) (by omega) (by omega)).mpr h9)
            refine ps_st (S' := (129, [(0, .ref m0), (2, .int (nI s)), (4, .int (nI r))], [.ref m0, .int 1024, .int (nI (W))], M1)) rfl rfl rfl ?_
            refine ps_st (S' := (130, [(0, .ref m0), (2, .int (nI s)), (4, .int (nI r))], [.int (nI s), .ref m0, .int 1024, .int (nI (W))], M1)) rfl rfl rfl ?_
            refine ps_st (S' := (132, [(0, .ref m0), (2, .int (nI s)), (4, .int (nI r))], [.int (nI r), .int (nI s), .ref m0, .int 1024, .int (nI (W))], M1)) rfl rfl rfl ?_
            refine ps_st (S' := (133, [(0, .ref m0), (2, .int (nI s)), (4, .int (nI r))], [.int 1, .int (nI r), .int (nI s), .ref m0, .int 1024, .int (nI (W))], M1)) rfl rfl rfl ?_
            refine ps_st (S' := (134, [(0, .ref m0), (2, .int (nI s)), (4, .int (nI r))], [.int ((nI r) + 1), .int (nI s), .ref m0, .int 1024, .int (nI (W))], M1)) rfl rfl rfl ?_
            rw [nI_add1 (p := r) (k := 1) (x := 1) rfl (by omega)]
            show pl _ _ _ (_, [(0, .ref m0), (2, .int (nI s)), (4, .int (nI r))], [.int (nI (r + 1)), .int (nI s), .ref m0, .int 1024, .int (nI (W))], M1) _
            refine pl_call (a := [.ref m0, .int (nI s), .int (nI (r + 1))]) (rest := [.int 1024, .int (nI (W))]) rfl rfl rfl (rd_wide (tx := tx) (cN := cN) (A := A) (s := s) (l := (tX f n E j)) (k := (r + 1)) hR1 hY1 (hs) (by omega)) (fun v13 M14 q15 => ?_)
            obtain ⟨rfl, rfl⟩ := q15
            show pl _ _ _ (137, [(0, .ref m0), (2, .int (nI s)), (4, .int (nI r))], [.int (nI (wdN ((tX f n E j).getD (r + 1) 0))), .int 1024, .int (nI (W))], M1) _
            have hw_134 := le1_wd ((tX f n E j).getD (r + 1) 0)
            refine ps_if (S1 := (144, [(0, .ref m0), (2, .int (nI s)), (4, .int (nI r))], [.int 1024, .int (nI (W))], M1)) (S2 := (140, [(0, .ref m0), (2, .int (nI s)), (4, .int (nI r))], [.int 1024, .int (nI (W))], M1)) rfl rfl rfl (fun c_137 => ?_) (fun c_137 => ?_)
            · have c_137 : (nI (wdN ((tX f n E j).getD (r + 1) 0))) = 0 := of_decide_eq_true c_137
              have n_137 : wdN ((tX f n E j).getD (r + 1) 0) = 0 := (eq_nI (p := wdN ((tX f n E j).getD (r + 1) 0)) (n := 0) (Nat.lt_trans (le1_wd _) (by decide)) (by decide)).mp c_137
              refine ps_st (S' := (145, [], [.int 1, .int 1024, .int (nI (W))], M1)) rfl rfl rfl ?_
              refine ps_st (S' := (146, [], [.int (1024 * 1), .int (nI (W))], M1)) rfl rfl rfl ?_
              refine ps_st (S' := (147, [], [.int ((nI (W)) + (1024 * 1))], M1)) rfl rfl rfl ?_
              exact ps_reti rfl (⟨I1, R1, congrArg (fun x => some (Value.int x)) (plT_v (t := 1) hm (show s_pl (fun i => (tX f n E j).getD i 0) (tX f n E j).length ((tX f n E j).length - 1) 1 0 = some (r, W) from by rw [hpl, er9.1]) (by rw [if_neg (by omega), pW_wd]; omega) rfl), hR1, hEI1, hER1, hl0⟩)
            · have c_137 : ¬ ((nI (wdN ((tX f n E j).getD (r + 1) 0))) = 0) := of_decide_eq_false c_137
              have n_137 : ¬ (wdN ((tX f n E j).getD (r + 1) 0) = 0) := fun h9 => c_137 ((eq_nI (p := wdN ((tX f n E j).getD (r + 1) 0)) (n := 0) (Nat.lt_trans (le1_wd _) (by decide)) (by decide)).mpr h9)
              refine ps_st (S' := (141, [(0, .ref m0), (2, .int (nI s)), (4, .int (nI r))], [.int 2, .int 1024, .int (nI (W))], M1)) rfl rfl rfl ?_
              refine ps_st (S' := (145, [], [.int 2, .int 1024, .int (nI (W))], M1)) rfl rfl rfl ?_
              refine ps_st (S' := (146, [], [.int (1024 * 2), .int (nI (W))], M1)) rfl rfl rfl ?_
              refine ps_st (S' := (147, [], [.int ((nI (W)) + (1024 * 2))], M1)) rfl rfl rfl ?_
              exact ps_reti rfl (⟨I1, R1, congrArg (fun x => some (Value.int x)) (plT_v (t := 2) hm (show s_pl (fun i => (tX f n E j).getD i 0) (tX f n E j).length ((tX f n E j).length - 1) 1 0 = some (r, W) from by rw [hpl, er9.1]) (by rw [if_neg (by omega), pW_wd]; omega) rfl), hR1, hEI1, hER1, hl0⟩)
          · have c_121 : ¬ (¬ (nI ((tX f n E j).length - 1)) = (nI (r + 1))) := of_decide_eq_false c_121
            have n_121 : (tX f n E j).length - 1 = r + 1 := (eq_nI (p := (tX f n E j).length - 1) (n := r + 1) (by omega) (by omega)).mp (Decidable.not_not.mp c_121)
            refine ps_st (S' := (125, [(0, .ref m0), (2, .int (nI s)), (3, .int (nI ((tX f n E j).length - 1))), (4, .int (nI r))], [.int 0, .int 1024, .int (nI (W))], M1)) rfl rfl rfl ?_
            refine ps_st (S' := (145, [], [.int 0, .int 1024, .int (nI (W))], M1)) rfl rfl rfl ?_
            refine ps_st (S' := (146, [], [.int (1024 * 0), .int (nI (W))], M1)) rfl rfl rfl ?_
            refine ps_st (S' := (147, [], [.int ((nI (W)) + (1024 * 0))], M1)) rfl rfl rfl ?_
            exact ps_reti rfl (⟨I1, R1, congrArg (fun x => some (Value.int x)) (plT_v (t := 0) hm (show s_pl (fun i => (tX f n E j).getD i 0) (tX f n E j).length ((tX f n E j).length - 1) 1 0 = some (r, W) from by rw [hpl, er9.1]) ((if_pos ⟨by omega, by omega⟩).symm) rfl), hR1, hEI1, hER1, hl0⟩)
      · have c_82 : ¬ ((nI ((tX f n E j).getD r 0)) = 41) := of_decide_eq_false c_82
        have n_82 : ¬ ((tX f n E j).getD r 0 = 41) := fun h9 => c_82 ((eq_nI (p := (tX f n E j).getD r 0) (n := 41) (Nat.lt_trans (tx_ch _ _ _ _ _) (by decide)) (by decide)).mpr h9)
        refine ps_st (S' := (86, [(0, .ref m0), (2, .int (nI s)), (3, .int (nI ((tX f n E j).length - 1))), (4, .int (nI r))], [.ref m0], M1)) rfl rfl rfl ?_
        refine ps_st (S' := (87, [(0, .ref m0), (2, .int (nI s)), (3, .int (nI ((tX f n E j).length - 1))), (4, .int (nI r))], [.int (nI s), .ref m0], M1)) rfl rfl rfl ?_
        refine ps_st (S' := (89, [(0, .ref m0), (2, .int (nI s)), (3, .int (nI ((tX f n E j).length - 1))), (4, .int (nI r))], [.int (nI r), .int (nI s), .ref m0], M1)) rfl rfl rfl ?_
        refine pl_call (a := [.ref m0, .int (nI s), .int (nI r)]) (rest := []) rfl rfl rfl (rd_fieldText (tx := tx) (cN := cN) (A := A) (s := s) (l := (tX f n E j)) (a := r) hR1 hY1 (hs) (by omega)) (fun v16 M17 q18 => ?_)
        rcases q18 with q18 | q18
        · skip
          obtain ⟨q89_s, rfl, rfl⟩ := q18
          show pl _ _ _ (92, [(0, .ref m0), (2, .int (nI s)), (3, .int (nI ((tX f n E j).length - 1))), (4, .int (nI r))], [.int (-1)], M1) _
          rw [s_pl_bad (by omega) q89_s] at hp
          cases hp
        · skip
          obtain ⟨x19, q89_s, q89_l, rfl, rfl⟩ := q18
          show pl _ _ _ (92, [(0, .ref m0), (2, .int (nI s)), (3, .int (nI ((tX f n E j).length - 1))), (4, .int (nI r))], [.int (nI x19)], M1) _
          refine ps_st (S' := (94, [(4, .int (nI x19)), (0, .ref m0), (2, .int (nI s)), (3, .int (nI ((tX f n E j).length - 1)))], [], M1)) rfl rfl rfl ?_
          refine ps_st (S' := (73, [(0, .ref m0), (2, .int (nI s)), (3, .int (nI ((tX f n E j).length - 1))), (4, .int (nI x19))], [], M1)) rfl rfl rfl ?_
          exact ih (s) (x19) (w + pW ((tX f n E j).getD r 0)) M1 I1 R1 hR1 hEI1 hER1 hl0 hY1 (hs) (by omega) (by
              rw [← hp, s_pl_step (by omega) q89_s])
  refine ps_st (S' := (1, [(0, .ref m0), (1, .int (nI j))], [.ref m0], M)) rfl rfl rfl ?_
  refine ps_st (S' := (2, [(0, .ref m0), (1, .int (nI j))], [.int 0, .ref m0], M)) rfl rfl rfl ?_
  refine pr_put (j := 0) rfl hR rfl (fun M20 I21 hR22 hi23 hI24 => ?_)
  have hi25 := (hI24 18 (by decide)).trans hi18
  have hi26 := (hI24 51 (by decide)).trans hi51
  have hi27 := (hI24 52 (by decide)).trans hi52
  have hi28 := (hI24 53 (by decide)).trans hi53
  have hF_29 := hF.mono (pIx hI24 (by decide)) (fun _ _ => rfl)
  have hY_30 := hY.mono (pIx hI24 (by decide)) (fun _ _ => rfl)
  have hP_31 := hP.mono (pIx hI24 (by decide)) (fun _ _ => rfl)
  have hEI32 := hEI.put hI24 (by decide)
  show pl _ _ _ (5, [(0, .ref m0), (1, .int (nI j))], [], M20) _
  refine ps_st (S' := (6, [(0, .ref m0), (1, .int (nI j))], [.ref m0], M20)) rfl rfl rfl ?_
  refine pr_int (j := 18) (S' := (9, [(0, .ref m0), (1, .int (nI j))], [.int (nI n2)], M20)) rfl hR22 rfl hi25 rfl ?_
  refine ps_if (S1 := (21, [], [], M20)) (S2 := (12, [(0, .ref m0), (1, .int (nI j))], [], M20)) rfl rfl rfl (fun c_9 => ?_) (fun c_9 => ?_)
  · exact absurd (of_decide_eq_true c_9) (show ¬ ((nI n2) < 0) from fun h9 => absurd ((lt_nI (p := n2) (n := 0) (by omega) (by decide)).mp h9) (by omega))
  refine ps_st (S' := (13, [(0, .ref m0), (1, .int (nI j))], [.ref m0], M20)) rfl rfl rfl ?_
  refine ps_st (S' := (14, [(0, .ref m0), (1, .int (nI j))], [.int (nI j), .ref m0], M20)) rfl rfl rfl ?_
  refine pl_call (a := [.ref m0, .int (nI j)]) (rest := []) rfl rfl rfl (rd_tag (n := n) (f := f) (tx := tx) (cN := cN) (A := A) (N := N) (mj := mj) (E := E) (k := j) hR22 hi26 hi27 hi28 hF_29 hY_30 hP_31 (hEP) (hN) (hmj) (by omega)) (fun v33 M34 q35 => ?_)
  obtain ⟨rfl, rfl⟩ := q35
  show pl _ _ _ (17, [(0, .ref m0), (1, .int (nI j))], [.int (nI (tg f E j))], M20) _
  have htg_14 := tg_lt f E j
  refine ps_st (S' := (18, [(0, .ref m0), (1, .int (nI j))], [.int 1, .int (nI (tg f E j))], M20)) rfl rfl rfl ?_
  refine ps_if2 (S1 := (23, [(0, .ref m0), (1, .int (nI j))], [], M20)) (S2 := (21, [], [], M20)) rfl rfl rfl (fun c_18 => ?_) (fun c_18 => ?_)
  rotate_left
  · exact absurd (by rw [h1t]; rfl) (of_decide_eq_false c_18)
  refine ps_st (S' := (24, [(0, .ref m0), (1, .int (nI j))], [.ref m0], M20)) rfl rfl rfl ?_
  refine ps_st (S' := (25, [(0, .ref m0), (1, .int (nI j))], [.int (nI j), .ref m0], M20)) rfl rfl rfl ?_
  refine pl_call (a := [.ref m0, .int (nI j)]) (rest := []) rfl rfl rfl (rd_symOf (n := n) (f := f) (tx := tx) (cN := cN) (A := A) (N := N) (mj := mj) (E := E) (k := j) hR22 hi26 hi27 hi28 hF_29 hY_30 hP_31 (hEP) (hN) (hmj) (by omega)) (fun v36 M37 q38 => ?_)
  obtain ⟨s39, q25_s, rfl, rfl⟩ := q38
  show pl _ _ _ (28, [(0, .ref m0), (1, .int (nI j))], [.int (nI s39)], M20) _
  have hsl_25 := q25_s.1
  have htl_25 := hY_30.1.2.2.1
  refine ps_st (S' := (29, [(2, .int (nI s39)), (0, .ref m0), (1, .int (nI j))], [], M20)) rfl rfl rfl ?_
  refine ps_st (S' := (30, [(2, .int (nI s39)), (0, .ref m0), (1, .int (nI j))], [.ref m0], M20)) rfl rfl rfl ?_
  refine ps_st (S' := (31, [(2, .int (nI s39)), (0, .ref m0), (1, .int (nI j))], [.int (nI s39), .ref m0], M20)) rfl rfl rfl ?_
  refine pl_call (a := [.ref m0, .int (nI s39)]) (rest := []) rfl rfl rfl (rd_isField (tx := tx) (cN := cN) (A := A) (s := s39) (l := (tX f n E j)) hR22 hY_30 (q25_s)) (fun v40 M41 q42 => ?_)
  obtain ⟨rfl, rfl⟩ := q42
  show pl _ _ _ (34, [(2, .int (nI s39)), (0, .ref m0), (1, .int (nI j))], [.int (nI (fldN (tX f n E j)))], M20) _
  refine ps_if (S1 := (52, [(2, .int (nI s39)), (0, .ref m0), (1, .int (nI j))], [], M20)) (S2 := (37, [(2, .int (nI s39)), (0, .ref m0), (1, .int (nI j))], [], M20)) rfl rfl rfl (fun c_34 => ?_) (fun c_34 => ?_)
  rotate_left
  · exact absurd ((eq_nI (p := fldN (tX f n E j)) (n := 0) (Nat.lt_trans (le1_fld _) (by decide)) (by decide)).mpr (by omega)) (of_decide_eq_false c_34)
  refine ps_st (S' := (53, [(2, .int (nI s39)), (0, .ref m0), (1, .int (nI j))], [.ref m0], M20)) rfl rfl rfl ?_
  refine ps_st (S' := (54, [(2, .int (nI s39)), (0, .ref m0), (1, .int (nI j))], [.int (nI s39), .ref m0], M20)) rfl rfl rfl ?_
  refine pl_call (a := [.ref m0, .int (nI s39)]) (rest := []) rfl rfl rfl (rd_isMethod (tx := tx) (cN := cN) (A := A) (s := s39) (l := (tX f n E j)) hR22 hY_30 (q25_s)) (fun v43 M44 q45 => ?_)
  obtain ⟨rfl, rfl⟩ := q45
  show pl _ _ _ (57, [(2, .int (nI s39)), (0, .ref m0), (1, .int (nI j))], [.int (nI (mthN (tX f n E j)))], M20) _
  refine ps_if (S1 := (62, [(2, .int (nI s39)), (0, .ref m0), (1, .int (nI j))], [], M20)) (S2 := (60, [(2, .int (nI s39)), (0, .ref m0), (1, .int (nI j))], [], M20)) rfl rfl rfl (fun c_57 => ?_) (fun c_57 => ?_)
  rotate_left
  · exact absurd (show ¬ ((nI (mthN (tX f n E j))) = 0) from fun h9 => absurd ((eq_nI (p := mthN (tX f n E j)) (n := 0) (Nat.lt_trans (le1_mth _) (by decide)) (by decide)).mp h9) (by omega)) (of_decide_eq_false c_57)
  refine ps_st (S' := (63, [(2, .int (nI s39)), (0, .ref m0), (1, .int (nI j))], [.ref m0], M20)) rfl rfl rfl ?_
  refine ps_st (S' := (64, [(2, .int (nI s39)), (0, .ref m0), (1, .int (nI j))], [.int (nI s39), .ref m0], M20)) rfl rfl rfl ?_
  refine pl_call (a := [.ref m0, .int (nI s39)]) (rest := []) rfl rfl rfl (rd_length (tx := tx) (cN := cN) (A := A) (s := s39) (l := (tX f n E j)) hR22 hY_30 (q25_s)) (fun v46 M47 q48 => ?_)
  obtain ⟨rfl, rfl⟩ := q48
  show pl _ _ _ (67, [(2, .int (nI s39)), (0, .ref m0), (1, .int (nI j))], [.int (nI ((tX f n E j).length))], M20) _
  refine ps_st (S' := (68, [(2, .int (nI s39)), (0, .ref m0), (1, .int (nI j))], [.int 1, .int (nI ((tX f n E j).length))], M20)) rfl rfl rfl ?_
  refine ps_st (S' := (69, [(2, .int (nI s39)), (0, .ref m0), (1, .int (nI j))], [.int ((nI ((tX f n E j).length)) - 1)], M20)) rfl rfl rfl ?_
  rw [nI_sub1 (p := (tX f n E j).length) (k := 1) (x := 1) rfl (by omega) (by omega)]
  show pl _ _ _ (_, [(2, .int (nI s39)), (0, .ref m0), (1, .int (nI j))], [.int (nI (((tX f n E j).length) - 1))], M20) _
  refine ps_st (S' := (70, [(3, .int (nI (((tX f n E j).length) - 1))), (2, .int (nI s39)), (0, .ref m0), (1, .int (nI j))], [], M20)) rfl rfl rfl ?_
  refine ps_st (S' := (71, [(3, .int (nI (((tX f n E j).length) - 1))), (2, .int (nI s39)), (0, .ref m0), (1, .int (nI j))], [.int 1], M20)) rfl rfl rfl ?_
  refine ps_st (S' := (73, [(0, .ref m0), (2, .int (nI s39)), (3, .int (nI (((tX f n E j).length) - 1))), (4, .int 1)], [], M20)) rfl rfl rfl ?_
  exact (LL kf) (s39) (1) (0) M20 I21 R hR22 hEI32 hER hi23 hY_30 (q25_s) (by omega) (hpl)
theorem rd_places {g : xe_G} {m0 : Nat} {q : Nat → Nat} {z : Nat × Nat} {I : rI} {R : rR} {M : mi_H} {ko : Option (Nat × (Nat → Int32))} {k : Int32} (hR : RS g m0 q z I R M) (hK : KPR ko I R) : pt (mT g) 232 [.ref m0, .int k] M (fun v M' => ∃ (I' : rI) (R' : rR), v = some (.int (plK ko k)) ∧ RS g m0 q z I' R' M' ∧ eqI [0] I I' ∧ eqR [] R R' ∧ I' 0 = some 0) := by
  cases ko with
  | none =>
    obtain ⟨kn, h1, h2⟩ := hK
    exact rd_placesk hR h1 h2
  | some r =>
    obtain ⟨h1, h2, -, -, tx, cN, A, E, N, mj, p1, pF, pM, pA, k1, k2, k3, k4, k5, k6, k7, rfl, rfl, -⟩ := hK
    rw [plK_is k7]
    have hN := by2_lt r.2 8
    have hpl := whole_in k7
    have hEP := (EP_of hpl).1
    have h0 := tg_0 hpl
    unfold plX
    by_cases ht : tg r.2 E k.toNatClampNeg = 1
    · have hk0 : ¬ k < 0 := fun h9 => by rw [i32_cl h9, h0] at ht; cases ht
      have e := i32_nn hk0
      obtain ⟨j, ej⟩ : ∃ j, j = k.toNatClampNeg := ⟨_, rfl⟩
      rw [← ej] at e ht ⊢
      have hj : j < 65536 := Nat.not_le.mp (fun h9 => by
        unfold tg at ht
        rw [lk_hi k3.1 (Or.inr (by omega))] at ht
        cases ht)
      subst e
      rw [if_pos ht]
      by_cases hf : fldN (tX r.2 r.1 E j) = 0
      · by_cases hm : mthN (tX r.2 r.1 E j) = 0
        · exact rd_placesN hR h1 k4 k5 k6 k1 k2 k3 hEP hN (by2_lt _ _) h2 hj ht hf hm
        · obtain ⟨a1, a2, k0, W, a3, a4, a5, a6, a7, -⟩ := mth_in hm
          exact rd_placesM hR h1 k4 k5 k6 k1 k2 k3 hEP hN (by2_lt _ _) h2 hj ht hf hm a3 ⟨a4, a6, a7⟩ a5
      · exact rd_placesF hR h1 k4 k5 k6 k1 k2 k3 hEP hN (by2_lt _ _) h2 hj ht hf
    · rw [if_neg ht]
      exact rd_placesT hR h1 k4 k5 k6 k1 k2 k3 hEP hN (by2_lt _ _) h2 h0 ht
end
section
/-! a member by its name and its descriptor, as both sides find it (my own text) -/
section FDA
variable {f : Nat → Int32} {n : Nat} {E : List (Nat × Nat)}
def smI (o : Option Nat) : Int32 := match o with
  | none => -1
  | some k => nI k
def fdI (f : Nat → Int32) (n : Nat) (E : List (Nat × Nat)) (B : List Nat) (x y : Int32) : Int32 := if tg f E x.toNatClampNeg = 1 ∧ tg f E y.toNatClampNeg = 1 then smI (smeS f n E B x.toNatClampNeg y.toNatClampNeg B.length 0) else -1
/-- what is kept finds it -/
def fdK (ko : Option (Nat × (Nat → Int32))) (t x y : Int32) : Int32 := match ko with
  | none => -1
  | some r => match s_whole r.2 r.1 with
    | .inl _ => -1
    | .inr w => fdI r.2 r.1 w.1 (if t = 0 then mbs r.2 r.1 (by2 r.2 w.2.2.1) (w.2.2.1 + 2) else mbs r.2 r.1 (by2 r.2 w.2.2.2.1) (w.2.2.2.1 + 2)) x y
theorem fdK_is {r : Nat × (Nat → Int32)} {t x y : Int32} {p1 pF pM pA : Nat} (h : s_whole r.2 r.1 = .inr (E, p1, pF, pM, pA)) : fdK (some r) t x y = fdI r.2 r.1 E (if t = 0 then mbs r.2 r.1 (by2 r.2 pF) (pF + 2) else mbs r.2 r.1 (by2 r.2 pM) (pM + 2)) x y := by
  show (match s_whole r.2 r.1 with | .inl _ => -1 | .inr w => fdI r.2 r.1 w.1 (if t = 0 then mbs r.2 r.1 (by2 r.2 w.2.2.1) (w.2.2.1 + 2) else mbs r.2 r.1 (by2 r.2 w.2.2.2.1) (w.2.2.2.1 + 2)) x y) = _
  rw [h]
theorem mbs_len {p p' : Nat} (h : s_mbs f n p = .inr p') : (mbs f n (by2 f p) (p + 2)).length < 65536 := by
  unfold s_mbs at h
  split at h
  · cases h
  · rw [(mbs_in h).1]
    exact by2_lt _ _
/-- a number whose entry is a text -/
theorem tg_nn {x : Int32} {H : Nat} (hH : H ≤ 65536) (hlo : ∀ j, H ≤ j → tg f E j = 0) (h0 : tg f E 0 = 0) (h : tg f E x.toNatClampNeg = 1) : x = nI x.toNatClampNeg ∧ x.toNatClampNeg < 65536 := by
  refine ⟨i32_nn (fun h9 => ?_), Nat.not_le.mp (fun h9 => ?_)⟩
  · rw [i32_cl h9, h0] at h
    cases h
  · rw [hlo _ (by omega)] at h
    cases h
end FDA
set_option maxHeartbeats 1000000 in
theorem dk_find0 {g : xe_G} {M : mi_H} {o ca fl : Nat} {cn wp t x y : Int32} (h_o : M.1 o = some (ob 11 [.ref ca, .int cn, .ref fl, .null, .int wp]))  : pt (mT g) 10 [.ref o, .int t, .int x, .int y] M (fun v M' => (v = some (.int (-1)) ∧ M = M')) := by
  refine pt_in (b := mb_10 g) rfl (fun kf => ?_)
  show pl (mT g) kf (mb_10 g).2 (0, [(0, .ref o), (1, .int t), (2, .int x), (3, .int y)], [], M) _
  refine ps_st (S' := (1, [(0, .ref o), (1, .int t), (2, .int x), (3, .int y)], [.ref o], M)) rfl rfl rfl ?_
  refine ps_get (S' := (4, [(0, .ref o), (1, .int t), (2, .int x), (3, .int y)], [.null], M)) rfl h_o rfl rfl ?_
  refine ps_st (S' := (37, [], [], M)) rfl rfl rfl ?_
  refine ps_st (S' := (38, [], [.int (-1)], M)) rfl rfl rfl ?_
  exact ps_ret rfl rfl (⟨rfl, rfl⟩)
set_option maxHeartbeats 1000000 in
theorem dk_findA {g : xe_G} {M : mi_H} {f : Nat → Int32} {n N q : Nat} {E : List (Nat × Nat)} {o ca fl c b fr mr : Nat} {cn wp u2 u3 u4 u5 : Int32} {w : List Value} {t x y : Int32} (h_o : M.1 o = some (ob 11 [.ref ca, .int cn, .ref fl, .ref c, .int wp])) (h_c : M.1 c = some (ob 3 (.ref b :: .ref q :: .int u2 :: .int u3 :: .int u4 :: .int u5 :: .ref fr :: .ref mr :: w))) (hV : PV g f n N E q M) (h0 : tg f E 0 = 0) (ht : ¬ tg f E x.toNatClampNeg = 1) : pt (mT g) 10 [.ref o, .int t, .int x, .int y] M (fun v M' => (v = some (.int (-1)) ∧ M = M')) := by
  refine pt_in (b := mb_10 g) rfl (fun kf => ?_)
  show pl (mT g) kf (mb_10 g).2 (0, [(0, .ref o), (1, .int t), (2, .int x), (3, .int y)], [], M) _
  obtain ⟨hL9, H, m, qq, F, cc, hP9, -, -, hb9, -⟩ := id hV
  have h_q := hP9.1
  have hN9 := hb9.2.2.1
  refine ps_st (S' := (1, [(0, .ref o), (1, .int t), (2, .int x), (3, .int y)], [.ref o], M)) rfl rfl rfl ?_
  refine ps_get (S' := (4, [(0, .ref o), (1, .int t), (2, .int x), (3, .int y)], [.ref c], M)) rfl h_o rfl rfl ?_
  refine ps_st (S' := (7, [(0, .ref o), (1, .int t), (2, .int x), (3, .int y)], [], M)) rfl rfl rfl ?_
  refine ps_st (S' := (8, [(0, .ref o), (1, .int t), (2, .int x), (3, .int y)], [.ref o], M)) rfl rfl rfl ?_
  refine ps_get (S' := (11, [(0, .ref o), (1, .int t), (2, .int x), (3, .int y)], [.ref c], M)) rfl h_o rfl rfl ?_
  refine ps_get (S' := (14, [(0, .ref o), (1, .int t), (2, .int x), (3, .int y)], [.ref q], M)) rfl h_c rfl rfl ?_
  refine ps_st (S' := (15, [(0, .ref o), (1, .int t), (2, .int x), (3, .int y)], [.int x, .ref q], M)) rfl rfl rfl ?_
  refine pl_call (a := [.ref q, .int x]) (rest := []) rfl rfl rfl (dz_tagOf (f := f) (n := n) (N := N) (q := q) (E := E) (k := x) (hV) (h0)) (fun v1 M2 q3 => ?_)
  obtain ⟨rfl, rfl⟩ := q3
  show pl _ _ _ (18, [(0, .ref o), (1, .int t), (2, .int x), (3, .int y)], [.int (nI (tg f E x.toNatClampNeg))], M) _
  refine ps_st (S' := (19, [(0, .ref o), (1, .int t), (2, .int x), (3, .int y)], [.int 1, .int (nI (tg f E x.toNatClampNeg))], M)) rfl rfl rfl ?_
  refine ps_if2 (S1 := (37, [], [], M)) (S2 := (22, [(0, .ref o), (1, .int t), (2, .int x), (3, .int y)], [], M)) rfl rfl rfl (fun c_19 => ?_) (fun c_19 => ?_)
  rotate_left
  · exact absurd (show ¬ (nI (tg f E x.toNatClampNeg)) = 1 from fun h9 => ht ((eq_nI (p := tg f E x.toNatClampNeg) (n := 1) (Nat.lt_trans (tg_lt _ _ _) (by decide)) (by decide)).mp h9)) (of_decide_eq_false c_19)
  refine ps_st (S' := (38, [], [.int (-1)], M)) rfl rfl rfl ?_
  exact ps_ret rfl rfl (⟨rfl, rfl⟩)
set_option maxHeartbeats 1000000 in
theorem dk_findB {g : xe_G} {M : mi_H} {f : Nat → Int32} {n N q : Nat} {E : List (Nat × Nat)} {o ca fl c b fr mr : Nat} {cn wp u2 u3 u4 u5 : Int32} {w : List Value} {t x y : Int32} (h_o : M.1 o = some (ob 11 [.ref ca, .int cn, .ref fl, .ref c, .int wp])) (h_c : M.1 c = some (ob 3 (.ref b :: .ref q :: .int u2 :: .int u3 :: .int u4 :: .int u5 :: .ref fr :: .ref mr :: w))) (hV : PV g f n N E q M) (h0 : tg f E 0 = 0) (hx : tg f E x.toNatClampNeg = 1) (ht : ¬ tg f E y.toNatClampNeg = 1) : pt (mT g) 10 [.ref o, .int t, .int x, .int y] M (fun v M' => (v = some (.int (-1)) ∧ M = M')) := by
  refine pt_in (b := mb_10 g) rfl (fun kf => ?_)
  show pl (mT g) kf (mb_10 g).2 (0, [(0, .ref o), (1, .int t), (2, .int x), (3, .int y)], [], M) _
  obtain ⟨hL9, H, m, qq, F, cc, hP9, -, -, hb9, -⟩ := id hV
  have h_q := hP9.1
  have hN9 := hb9.2.2.1
  refine ps_st (S' := (1, [(0, .ref o), (1, .int t), (2, .int x), (3, .int y)], [.ref o], M)) rfl rfl rfl ?_
  refine ps_get (S' := (4, [(0, .ref o), (1, .int t), (2, .int x), (3, .int y)], [.ref c], M)) rfl h_o rfl rfl ?_
  refine ps_st (S' := (7, [(0, .ref o), (1, .int t), (2, .int x), (3, .int y)], [], M)) rfl rfl rfl ?_
  refine ps_st (S' := (8, [(0, .ref o), (1, .int t), (2, .int x), (3, .int y)], [.ref o], M)) rfl rfl rfl ?_
  refine ps_get (S' := (11, [(0, .ref o), (1, .int t), (2, .int x), (3, .int y)], [.ref c], M)) rfl h_o rfl rfl ?_
  refine ps_get (S' := (14, [(0, .ref o), (1, .int t), (2, .int x), (3, .int y)], [.ref q], M)) rfl h_c rfl rfl ?_
  refine ps_st (S' := (15, [(0, .ref o), (1, .int t), (2, .int x), (3, .int y)], [.int x, .ref q], M)) rfl rfl rfl ?_
  refine pl_call (a := [.ref q, .int x]) (rest := []) rfl rfl rfl (dz_tagOf (f := f) (n := n) (N := N) (q := q) (E := E) (k := x) (hV) (h0)) (fun v1 M2 q3 => ?_)
  obtain ⟨rfl, rfl⟩ := q3
  show pl _ _ _ (18, [(0, .ref o), (1, .int t), (2, .int x), (3, .int y)], [.int (nI (tg f E x.toNatClampNeg))], M) _
  refine ps_st (S' := (19, [(0, .ref o), (1, .int t), (2, .int x), (3, .int y)], [.int 1, .int (nI (tg f E x.toNatClampNeg))], M)) rfl rfl rfl ?_
  refine ps_if2 (S1 := (37, [], [], M)) (S2 := (22, [(0, .ref o), (1, .int t), (2, .int x), (3, .int y)], [], M)) rfl rfl rfl (fun c_19 => ?_) (fun c_19 => ?_)
  · exact absurd (of_decide_eq_true c_19) (fun h9 => h9 ((eq_nI (p := tg f E x.toNatClampNeg) (n := 1) (Nat.lt_trans (tg_lt _ _ _) (by decide)) (by decide)).mpr hx))
  refine ps_st (S' := (23, [(0, .ref o), (1, .int t), (2, .int x), (3, .int y)], [.ref o], M)) rfl rfl rfl ?_
  refine ps_get (S' := (26, [(0, .ref o), (1, .int t), (2, .int x), (3, .int y)], [.ref c], M)) rfl h_o rfl rfl ?_
  refine ps_get (S' := (29, [(0, .ref o), (1, .int t), (2, .int x), (3, .int y)], [.ref q], M)) rfl h_c rfl rfl ?_
  refine ps_st (S' := (30, [(0, .ref o), (1, .int t), (2, .int x), (3, .int y)], [.int y, .ref q], M)) rfl rfl rfl ?_
  refine pl_call (a := [.ref q, .int y]) (rest := []) rfl rfl rfl (dz_tagOf (f := f) (n := n) (N := N) (q := q) (E := E) (k := y) (hV) (h0)) (fun v4 M5 q6 => ?_)
  obtain ⟨rfl, rfl⟩ := q6
  show pl _ _ _ (33, [(0, .ref o), (1, .int t), (2, .int x), (3, .int y)], [.int (nI (tg f E y.toNatClampNeg))], M) _
  refine ps_st (S' := (34, [(0, .ref o), (1, .int t), (2, .int x), (3, .int y)], [.int 1, .int (nI (tg f E y.toNatClampNeg))], M)) rfl rfl rfl ?_
  refine ps_if2 (S1 := (39, [(0, .ref o), (1, .int t), (2, .int x), (3, .int y)], [], M)) (S2 := (37, [], [], M)) rfl rfl rfl (fun c_34 => ?_) (fun c_34 => ?_)
  · exact absurd (of_decide_eq_true c_34) (fun h9 => ht ((eq_nI (p := tg f E y.toNatClampNeg) (n := 1) (Nat.lt_trans (tg_lt _ _ _) (by decide)) (by decide)).mp h9))
  refine ps_st (S' := (38, [], [.int (-1)], M)) rfl rfl rfl ?_
  exact ps_ret rfl rfl (⟨rfl, rfl⟩)
set_option maxHeartbeats 1000000 in
theorem dk_findF {g : xe_G} {M : mi_H} {f : Nat → Int32} {n N q : Nat} {E : List (Nat × Nat)} {o ca fl c b fr mr : Nat} {cn wp u2 u3 u4 u5 : Int32} {w : List Value} {t : Int32} {x y kk : Nat} {B : List Nat} {G : Nat → Nat} (h_o : M.1 o = some (ob 11 [.ref ca, .int cn, .ref fl, .ref c, .int wp])) (h_c : M.1 c = some (ob 3 (.ref b :: .ref q :: .int u2 :: .int u3 :: .int u4 :: .int u5 :: .ref fr :: .ref mr :: w))) (hV : PV g f n N E q M) (hx : x < 65536) (hy : y < 65536) (hx1 : tg f E x = 1) (hy1 : tg f E y = 1) (hM : MV f B fr G kk M) (hBl : B.length < 65536) (ht : t = 0) : pt (mT g) 10 [.ref o, .int t, .int (nI x), .int (nI y)] M (fun v M' => (v = some (.int (smI (smeS f n E B x y B.length 0))) ∧ M = M')) := by
  refine pt_in (b := mb_10 g) rfl (fun kf => ?_)
  show pl (mT g) kf (mb_10 g).2 (0, [(0, .ref o), (1, .int t), (2, .int (nI x)), (3, .int (nI y))], [], M) _
  obtain ⟨hL9, H, m, qq, F, cc, hP9, -, -, hb9, -⟩ := id hV
  have h_q := hP9.1
  have hN9 := hb9.2.2.1
  obtain ⟨R, h_mm, hR⟩ := hM.2.1
  refine ps_st (S' := (1, [(0, .ref o), (1, .int t), (2, .int (nI x)), (3, .int (nI y))], [.ref o], M)) rfl rfl rfl ?_
  refine ps_get (S' := (4, [(0, .ref o), (1, .int t), (2, .int (nI x)), (3, .int (nI y))], [.ref c], M)) rfl h_o rfl rfl ?_
  refine ps_st (S' := (7, [(0, .ref o), (1, .int t), (2, .int (nI x)), (3, .int (nI y))], [], M)) rfl rfl rfl ?_
  refine ps_st (S' := (8, [(0, .ref o), (1, .int t), (2, .int (nI x)), (3, .int (nI y))], [.ref o], M)) rfl rfl rfl ?_
  refine ps_get (S' := (11, [(0, .ref o), (1, .int t), (2, .int (nI x)), (3, .int (nI y))], [.ref c], M)) rfl h_o rfl rfl ?_
  refine ps_get (S' := (14, [(0, .ref o), (1, .int t), (2, .int (nI x)), (3, .int (nI y))], [.ref q], M)) rfl h_c rfl rfl ?_
  refine ps_st (S' := (15, [(0, .ref o), (1, .int t), (2, .int (nI x)), (3, .int (nI y))], [.int (nI x), .ref q], M)) rfl rfl rfl ?_
  refine pl_call (a := [.ref q, .int (nI x)]) (rest := []) rfl rfl rfl (dy_tagOf (f := f) (n := n) (N := N) (q := q) (E := E) (j := x) (hV) (hx)) (fun v1 M2 q3 => ?_)
  obtain ⟨rfl, rfl⟩ := q3
  show pl _ _ _ (18, [(0, .ref o), (1, .int t), (2, .int (nI x)), (3, .int (nI y))], [.int (nI (tg f E x))], M) _
  refine ps_st (S' := (19, [(0, .ref o), (1, .int t), (2, .int (nI x)), (3, .int (nI y))], [.int 1, .int (nI (tg f E x))], M)) rfl rfl rfl ?_
  refine ps_if2 (S1 := (37, [], [], M)) (S2 := (22, [(0, .ref o), (1, .int t), (2, .int (nI x)), (3, .int (nI y))], [], M)) rfl rfl rfl (fun c_19 => ?_) (fun c_19 => ?_)
  · exact absurd (of_decide_eq_true c_19) (fun h9 => h9 (by rw [hx1]; rfl))
  refine ps_st (S' := (23, [(0, .ref o), (1, .int t), (2, .int (nI x)), (3, .int (nI y))], [.ref o], M)) rfl rfl rfl ?_
  refine ps_get (S' := (26, [(0, .ref o), (1, .int t), (2, .int (nI x)), (3, .int (nI y))], [.ref c], M)) rfl h_o rfl rfl ?_
  refine ps_get (S' := (29, [(0, .ref o), (1, .int t), (2, .int (nI x)), (3, .int (nI y))], [.ref q], M)) rfl h_c rfl rfl ?_
  refine ps_st (S' := (30, [(0, .ref o), (1, .int t), (2, .int (nI x)), (3, .int (nI y))], [.int (nI y), .ref q], M)) rfl rfl rfl ?_
  refine pl_call (a := [.ref q, .int (nI y)]) (rest := []) rfl rfl rfl (dy_tagOf (f := f) (n := n) (N := N) (q := q) (E := E) (j := y) (hV) (hy)) (fun v4 M5 q6 => ?_)
  obtain ⟨rfl, rfl⟩ := q6
  show pl _ _ _ (33, [(0, .ref o), (1, .int t), (2, .int (nI x)), (3, .int (nI y))], [.int (nI (tg f E y))], M) _
  refine ps_st (S' := (34, [(0, .ref o), (1, .int t), (2, .int (nI x)), (3, .int (nI y))], [.int 1, .int (nI (tg f E y))], M)) rfl rfl rfl ?_
  refine ps_if2 (S1 := (39, [(0, .ref o), (1, .int t), (2, .int (nI x)), (3, .int (nI y))], [], M)) (S2 := (37, [], [], M)) rfl rfl rfl (fun c_34 => ?_) (fun c_34 => ?_)
  rotate_left
  · exact absurd (by rw [hy1]; rfl) (of_decide_eq_false c_34)
  refine ps_st (S' := (40, [(0, .ref o), (1, .int t), (2, .int (nI x)), (3, .int (nI y))], [.int t], M)) rfl rfl rfl ?_
  refine ps_if (S1 := (53, [(0, .ref o), (1, .int t), (2, .int (nI x)), (3, .int (nI y))], [], M)) (S2 := (43, [(0, .ref o), (1, .int t), (2, .int (nI x)), (3, .int (nI y))], [], M)) rfl rfl rfl (fun c_40 => ?_) (fun c_40 => ?_)
  rotate_left
  · exact absurd (ht) (of_decide_eq_false c_40)
  refine ps_st (S' := (54, [(0, .ref o), (1, .int t), (2, .int (nI x)), (3, .int (nI y))], [.ref o], M)) rfl rfl rfl ?_
  refine ps_get (S' := (57, [(0, .ref o), (1, .int t), (2, .int (nI x)), (3, .int (nI y))], [.ref c], M)) rfl h_o rfl rfl ?_
  refine ps_get (S' := (60, [(0, .ref o), (2, .int (nI x)), (3, .int (nI y))], [.ref fr], M)) rfl h_c rfl rfl ?_
  refine ps_st (S' := (62, [(4, .ref fr), (0, .ref o), (2, .int (nI x)), (3, .int (nI y))], [], M)) rfl rfl rfl ?_
  refine ps_st (S' := (63, [(4, .ref fr), (0, .ref o), (2, .int (nI x)), (3, .int (nI y))], [.ref o], M)) rfl rfl rfl ?_
  refine ps_get (S' := (66, [(4, .ref fr), (0, .ref o), (2, .int (nI x)), (3, .int (nI y))], [.ref c], M)) rfl h_o rfl rfl ?_
  refine ps_get (S' := (69, [(4, .ref fr), (0, .ref o), (2, .int (nI x)), (3, .int (nI y))], [.ref q], M)) rfl h_c rfl rfl ?_
  refine ps_st (S' := (71, [(4, .ref fr), (0, .ref o), (2, .int (nI x)), (3, .int (nI y))], [.ref fr, .ref q], M)) rfl rfl rfl ?_
  refine ps_st (S' := (73, [(4, .ref fr), (0, .ref o), (2, .int (nI x)), (3, .int (nI y))], [.ref fr, .ref fr, .ref q], M)) rfl rfl rfl ?_
  refine ps_aalen (S' := (74, [(4, .ref fr), (0, .ref o), (2, .int (nI x)), (3, .int (nI y))], [.int (nI B.length), .ref fr, .ref q], M)) rfl h_mm rfl ?_
  refine ps_st (S' := (75, [(4, .ref fr), (0, .ref o), (2, .int (nI x)), (3, .int (nI y))], [.int (nI x), .int (nI B.length), .ref fr, .ref q], M)) rfl rfl rfl ?_
  refine ps_st (S' := (76, [(4, .ref fr), (0, .ref o), (2, .int (nI x)), (3, .int (nI y))], [.int (nI y), .int (nI x), .int (nI B.length), .ref fr, .ref q], M)) rfl rfl rfl ?_
  refine pl_call (a := [.ref q, .ref fr, .int (nI B.length), .int (nI x), .int (nI y)]) (rest := []) rfl rfl rfl (dk_sameMember (f := f) (n := n) (N := N) (q := q) (E := E) (B := B) (G := G) (mm := fr) (kk := kk) (c0 := B.length) (x := x) (y := y) (hV) (hM) (⟨Nat.le_refl _, hBl⟩) (hx) (hy)) (fun v7 M8 q9 => ?_)
  rcases q9 with q9 | q9
  · skip
    obtain ⟨q76_s, rfl, rfl⟩ := q9
    show pl _ _ _ (79, [(4, .ref fr), (0, .ref o), (2, .int (nI x)), (3, .int (nI y))], [.int (-1)], M) _
    exact ps_ret rfl rfl (⟨by rw [q76_s]; rfl, rfl⟩)
  · skip
    obtain ⟨k10, q76_s, q76_k, rfl, rfl⟩ := q9
    show pl _ _ _ (79, [(4, .ref fr), (0, .ref o), (2, .int (nI x)), (3, .int (nI y))], [.int (nI k10)], M) _
    exact ps_reti rfl (⟨by rw [q76_s]; rfl, rfl⟩)
set_option maxHeartbeats 1000000 in
theorem dk_findM {g : xe_G} {M : mi_H} {f : Nat → Int32} {n N q : Nat} {E : List (Nat × Nat)} {o ca fl c b fr mr : Nat} {cn wp u2 u3 u4 u5 : Int32} {w : List Value} {t : Int32} {x y kk : Nat} {B : List Nat} {G : Nat → Nat} (h_o : M.1 o = some (ob 11 [.ref ca, .int cn, .ref fl, .ref c, .int wp])) (h_c : M.1 c = some (ob 3 (.ref b :: .ref q :: .int u2 :: .int u3 :: .int u4 :: .int u5 :: .ref fr :: .ref mr :: w))) (hV : PV g f n N E q M) (hx : x < 65536) (hy : y < 65536) (hx1 : tg f E x = 1) (hy1 : tg f E y = 1) (hM : MV f B mr G kk M) (hBl : B.length < 65536) (ht : ¬ t = 0) : pt (mT g) 10 [.ref o, .int t, .int (nI x), .int (nI y)] M (fun v M' => (v = some (.int (smI (smeS f n E B x y B.length 0))) ∧ M = M')) := by
  refine pt_in (b := mb_10 g) rfl (fun kf => ?_)
  show pl (mT g) kf (mb_10 g).2 (0, [(0, .ref o), (1, .int t), (2, .int (nI x)), (3, .int (nI y))], [], M) _
  obtain ⟨hL9, H, m, qq, F, cc, hP9, -, -, hb9, -⟩ := id hV
  have h_q := hP9.1
  have hN9 := hb9.2.2.1
  obtain ⟨R, h_mm, hR⟩ := hM.2.1
  refine ps_st (S' := (1, [(0, .ref o), (1, .int t), (2, .int (nI x)), (3, .int (nI y))], [.ref o], M)) rfl rfl rfl ?_
  refine ps_get (S' := (4, [(0, .ref o), (1, .int t), (2, .int (nI x)), (3, .int (nI y))], [.ref c], M)) rfl h_o rfl rfl ?_
  refine ps_st (S' := (7, [(0, .ref o), (1, .int t), (2, .int (nI x)), (3, .int (nI y))], [], M)) rfl rfl rfl ?_
  refine ps_st (S' := (8, [(0, .ref o), (1, .int t), (2, .int (nI x)), (3, .int (nI y))], [.ref o], M)) rfl rfl rfl ?_
  refine ps_get (S' := (11, [(0, .ref o), (1, .int t), (2, .int (nI x)), (3, .int (nI y))], [.ref c], M)) rfl h_o rfl rfl ?_
  refine ps_get (S' := (14, [(0, .ref o), (1, .int t), (2, .int (nI x)), (3, .int (nI y))], [.ref q], M)) rfl h_c rfl rfl ?_
  refine ps_st (S' := (15, [(0, .ref o), (1, .int t), (2, .int (nI x)), (3, .int (nI y))], [.int (nI x), .ref q], M)) rfl rfl rfl ?_
  refine pl_call (a := [.ref q, .int (nI x)]) (rest := []) rfl rfl rfl (dy_tagOf (f := f) (n := n) (N := N) (q := q) (E := E) (j := x) (hV) (hx)) (fun v1 M2 q3 => ?_)
  obtain ⟨rfl, rfl⟩ := q3
  show pl _ _ _ (18, [(0, .ref o), (1, .int t), (2, .int (nI x)), (3, .int (nI y))], [.int (nI (tg f E x))], M) _
  refine ps_st (S' := (19, [(0, .ref o), (1, .int t), (2, .int (nI x)), (3, .int (nI y))], [.int 1, .int (nI (tg f E x))], M)) rfl rfl rfl ?_
  refine ps_if2 (S1 := (37, [], [], M)) (S2 := (22, [(0, .ref o), (1, .int t), (2, .int (nI x)), (3, .int (nI y))], [], M)) rfl rfl rfl (fun c_19 => ?_) (fun c_19 => ?_)
  · exact absurd (of_decide_eq_true c_19) (fun h9 => h9 (by rw [hx1]; rfl))
  refine ps_st (S' := (23, [(0, .ref o), (1, .int t), (2, .int (nI x)), (3, .int (nI y))], [.ref o], M)) rfl rfl rfl ?_
  refine ps_get (S' := (26, [(0, .ref o), (1, .int t), (2, .int (nI x)), (3, .int (nI y))], [.ref c], M)) rfl h_o rfl rfl ?_
  refine ps_get (S' := (29, [(0, .ref o), (1, .int t), (2, .int (nI x)), (3, .int (nI y))], [.ref q], M)) rfl h_c rfl rfl ?_
  refine ps_st (S' := (30, [(0, .ref o), (1, .int t), (2, .int (nI x)), (3, .int (nI y))], [.int (nI y), .ref q], M)) rfl rfl rfl ?_
  refine pl_call (a := [.ref q, .int (nI y)]) (rest := []) rfl rfl rfl (dy_tagOf (f := f) (n := n) (N := N) (q := q) (E := E) (j := y) (hV) (hy)) (fun v4 M5 q6 => ?_)
  obtain ⟨rfl, rfl⟩ := q6
  show pl _ _ _ (33, [(0, .ref o), (1, .int t), (2, .int (nI x)), (3, .int (nI y))], [.int (nI (tg f E y))], M) _
  refine ps_st (S' := (34, [(0, .ref o), (1, .int t), (2, .int (nI x)), (3, .int (nI y))], [.int 1, .int (nI (tg f E y))], M)) rfl rfl rfl ?_
  refine ps_if2 (S1 := (39, [(0, .ref o), (1, .int t), (2, .int (nI x)), (3, .int (nI y))], [], M)) (S2 := (37, [], [], M)) rfl rfl rfl (fun c_34 => ?_) (fun c_34 => ?_)
  rotate_left
  · exact absurd (by rw [hy1]; rfl) (of_decide_eq_false c_34)
  refine ps_st (S' := (40, [(0, .ref o), (1, .int t), (2, .int (nI x)), (3, .int (nI y))], [.int t], M)) rfl rfl rfl ?_
  refine ps_if (S1 := (53, [(0, .ref o), (1, .int t), (2, .int (nI x)), (3, .int (nI y))], [], M)) (S2 := (43, [(0, .ref o), (1, .int t), (2, .int (nI x)), (3, .int (nI y))], [], M)) rfl rfl rfl (fun c_40 => ?_) (fun c_40 => ?_)
  · exact absurd (of_decide_eq_true c_40) (ht)
  refine ps_st (S' := (44, [(0, .ref o), (1, .int t), (2, .int (nI x)), (3, .int (nI y))], [.ref o], M)) rfl rfl rfl ?_
  refine ps_get (S' := (47, [(0, .ref o), (1, .int t), (2, .int (nI x)), (3, .int (nI y))], [.ref c], M)) rfl h_o rfl rfl ?_
  refine ps_get (S' := (50, [(0, .ref o), (1, .int t), (2, .int (nI x)), (3, .int (nI y))], [.ref mr], M)) rfl h_c rfl rfl ?_
  refine ps_st (S' := (60, [(0, .ref o), (2, .int (nI x)), (3, .int (nI y))], [.ref mr], M)) rfl rfl rfl ?_
  refine ps_st (S' := (62, [(4, .ref mr), (0, .ref o), (2, .int (nI x)), (3, .int (nI y))], [], M)) rfl rfl rfl ?_
  refine ps_st (S' := (63, [(4, .ref mr), (0, .ref o), (2, .int (nI x)), (3, .int (nI y))], [.ref o], M)) rfl rfl rfl ?_
  refine ps_get (S' := (66, [(4, .ref mr), (0, .ref o), (2, .int (nI x)), (3, .int (nI y))], [.ref c], M)) rfl h_o rfl rfl ?_
  refine ps_get (S' := (69, [(4, .ref mr), (0, .ref o), (2, .int (nI x)), (3, .int (nI y))], [.ref q], M)) rfl h_c rfl rfl ?_
  refine ps_st (S' := (71, [(4, .ref mr), (0, .ref o), (2, .int (nI x)), (3, .int (nI y))], [.ref mr, .ref q], M)) rfl rfl rfl ?_
  refine ps_st (S' := (73, [(4, .ref mr), (0, .ref o), (2, .int (nI x)), (3, .int (nI y))], [.ref mr, .ref mr, .ref q], M)) rfl rfl rfl ?_
  refine ps_aalen (S' := (74, [(4, .ref mr), (0, .ref o), (2, .int (nI x)), (3, .int (nI y))], [.int (nI B.length), .ref mr, .ref q], M)) rfl h_mm rfl ?_
  refine ps_st (S' := (75, [(4, .ref mr), (0, .ref o), (2, .int (nI x)), (3, .int (nI y))], [.int (nI x), .int (nI B.length), .ref mr, .ref q], M)) rfl rfl rfl ?_
  refine ps_st (S' := (76, [(4, .ref mr), (0, .ref o), (2, .int (nI x)), (3, .int (nI y))], [.int (nI y), .int (nI x), .int (nI B.length), .ref mr, .ref q], M)) rfl rfl rfl ?_
  refine pl_call (a := [.ref q, .ref mr, .int (nI B.length), .int (nI x), .int (nI y)]) (rest := []) rfl rfl rfl (dk_sameMember (f := f) (n := n) (N := N) (q := q) (E := E) (B := B) (G := G) (mm := mr) (kk := kk) (c0 := B.length) (x := x) (y := y) (hV) (hM) (⟨Nat.le_refl _, hBl⟩) (hx) (hy)) (fun v7 M8 q9 => ?_)
  rcases q9 with q9 | q9
  · skip
    obtain ⟨q76_s, rfl, rfl⟩ := q9
    show pl _ _ _ (79, [(4, .ref mr), (0, .ref o), (2, .int (nI x)), (3, .int (nI y))], [.int (-1)], M) _
    exact ps_ret rfl rfl (⟨by rw [q76_s]; rfl, rfl⟩)
  · skip
    obtain ⟨k10, q76_s, q76_k, rfl, rfl⟩ := q9
    show pl _ _ _ (79, [(4, .ref mr), (0, .ref o), (2, .int (nI x)), (3, .int (nI y))], [.int (nI k10)], M) _
    exact ps_reti rfl (⟨by rw [q76_s]; rfl, rfl⟩)
theorem dk_find {g : xe_G} {M : mi_H} {ko : Option (Nat × (Nat → Int32))} {kv : Value} {cm o fl : Nat} {cn wp t x y : Int32} (hx : M.1 o = some (ob 11 [.ref cm, .int cn, .ref fl, kv, .int wp])) (hK : KPC g ko kv cm M) : pt (mT g) 10 [.ref o, .int t, .int x, .int y] M (fun v M' => v = some (.int (fdK ko t x y)) ∧ M = M') := by
  cases ko with
  | none =>
    have e : kv = .null := hK
    subst e
    exact dk_find0 hx
  | some r =>
    obtain ⟨c, da, rfl, ⟨b, q, N, E, p1, pF, pM, pA, w, h1, h2, h3, h4, h5, rfl, -, -, fr, mr, G1, G2, k1, k2, bc, K, rfl, m1, m2, -, m3, m4, -⟩, -, -⟩ := hK
    rw [fdK_is h5]
    have h0 := tg_0 (whole_in h5)
    unfold fdI
    by_cases hx1 : tg r.2 E x.toNatClampNeg = 1
    · by_cases hy1 : tg r.2 E y.toNatClampNeg = 1
      · rw [if_pos ⟨hx1, hy1⟩]
        obtain ⟨hL9, H, m, qq, F, cc, hP9, hT9, -, hb9, hVF, -⟩ := id h4
        obtain ⟨ex, lx⟩ := tg_nn hb9.1 hVF.2.1 h0 hx1
        obtain ⟨ey, ly⟩ := tg_nn hb9.1 hVF.2.1 h0 hy1
        obtain ⟨i, ei⟩ : ∃ i, i = x.toNatClampNeg := ⟨_, rfl⟩
        obtain ⟨j, ej⟩ : ∃ j, j = y.toNatClampNeg := ⟨_, rfl⟩
        rw [← ei] at ex lx hx1 ⊢
        rw [← ej] at ey ly hy1 ⊢
        subst ex
        subst ey
        by_cases ht : t = 0
        · rw [if_pos ht]
          exact dk_findF hx h1 h4 lx ly hx1 hy1 m1 (mbs_len m3) ht
        · rw [if_neg ht]
          exact dk_findM hx h1 h4 lx ly hx1 hy1 m2 (mbs_len m4) ht
      · rw [if_neg (fun q => hy1 q.2)]
        exact dk_findB hx h1 h4 h0 hx1 hy1
    · rw [if_neg (fun q => hx1 q.1)]
      exact dk_findA hx h1 h4 h0 hx1
end
section
set_option maxHeartbeats 1000000 in
theorem rd_find0 {g : xe_G} {m0 : Nat} {q : Nat → Nat} {z : Nat × Nat} {I : rI} {R : rR} {M : mi_H} {kn t x y : Int32} (hR : RS g m0 q z I R M) (hi18 : I 18 = some kn)  (hk : kn < 0) : pt (mT g) 207 [.ref m0, .int t, .int x, .int y] M (fun v M' => (∃  (I' : rI) (R' : rR), v = some (.int (-1)) ∧ RS g m0 q z I' R' M' ∧ eqI [0] I I' ∧ eqR [] R R' ∧ I' 0 = some 0)) := by
  refine pt_in (b := mb_207 g) rfl (fun kf => ?_)
  show pl (mT g) kf (mb_207 g).2 (0, [(0, .ref m0), (1, .int t), (2, .int x), (3, .int y)], [], M) _
  have hEI : eqI [0] I I := eqI.rf
  have hER : eqR [] R R := eqR.rf
  refine ps_st (S' := (1, [(0, .ref m0), (1, .int t), (2, .int x), (3, .int y)], [.ref m0], M)) rfl rfl rfl ?_
  refine ps_st (S' := (2, [(0, .ref m0), (1, .int t), (2, .int x), (3, .int y)], [.int 0, .ref m0], M)) rfl rfl rfl ?_
  refine pr_put (j := 0) rfl hR rfl (fun M1 I2 hR3 hi4 hI5 => ?_)
  have hi6 := (hI5 18 (by decide)).trans hi18
  have hEI7 := hEI.put hI5 (by decide)
  show pl _ _ _ (5, [(0, .ref m0), (1, .int t), (2, .int x), (3, .int y)], [], M1) _
  refine ps_st (S' := (6, [(0, .ref m0), (1, .int t), (2, .int x), (3, .int y)], [.ref m0], M1)) rfl rfl rfl ?_
  refine pr_int (j := 18) (S' := (9, [(0, .ref m0), (1, .int t), (2, .int x), (3, .int y)], [.int kn], M1)) rfl hR3 rfl hi6 rfl ?_
  refine ps_if (S1 := (30, [], [], M1)) (S2 := (12, [(0, .ref m0), (1, .int t), (2, .int x), (3, .int y)], [], M1)) rfl rfl rfl (fun c_9 => ?_) (fun c_9 => ?_)
  rotate_left
  · exact absurd (hk) (of_decide_eq_false c_9)
  refine ps_st (S' := (31, [], [.int (-1)], M1)) rfl rfl rfl ?_
  exact ps_ret rfl rfl (⟨I2, R, rfl, hR3, hEI7, hER, hi4⟩)
set_option maxHeartbeats 1000000 in
theorem rd_findA {g : xe_G} {m0 : Nat} {q : Nat → Nat} {z : Nat × Nat} {I : rI} {R : rR} {M : mi_H} {n : Nat} {f : Nat → Int32} {tx : List (List Nat)} {cN : Nat} {A : Nat → Nat} {N mj : Nat} {E : List (Nat × Nat)} {n2 : Nat} {t x y : Int32} (hR : RS g m0 q z I R M) (hi18 : I 18 = some (nI n2)) (hi51 : I 51 = some 0) (hi52 : I 52 = some (nI N)) (hi53 : I 53 = some (nI mj)) (hF : FK n f I R) (hY : SYT tx cN A I R) (hP : RPV f n E tx N I R) (hEP : EP f n E) (hN : N < 65536) (hmj : mj < 65536) (hn2 : n2 ≤ 65540) (h0 : tg f E 0 = 0) (ht : ¬ tg f E x.toNatClampNeg = 1) : pt (mT g) 207 [.ref m0, .int t, .int x, .int y] M (fun v M' => (∃  (I' : rI) (R' : rR), v = some (.int (-1)) ∧ RS g m0 q z I' R' M' ∧ eqI [0] I I' ∧ eqR [] R R' ∧ I' 0 = some 0)) := by
  refine pt_in (b := mb_207 g) rfl (fun kf => ?_)
  show pl (mT g) kf (mb_207 g).2 (0, [(0, .ref m0), (1, .int t), (2, .int x), (3, .int y)], [], M) _
  have hEI : eqI [0] I I := eqI.rf
  have hER : eqR [] R R := eqR.rf
  refine ps_st (S' := (1, [(0, .ref m0), (1, .int t), (2, .int x), (3, .int y)], [.ref m0], M)) rfl rfl rfl ?_
  refine ps_st (S' := (2, [(0, .ref m0), (1, .int t), (2, .int x), (3, .int y)], [.int 0, .ref m0], M)) rfl rfl rfl ?_
  refine pr_put (j := 0) rfl hR rfl (fun M1 I2 hR3 hi4 hI5 => ?_)
  have hi6 := (hI5 18 (by decide)).trans hi18
  have hi7 := (hI5 51 (by decide)).trans hi51
  have hi8 := (hI5 52 (by decide)).trans hi52
  have hi9 := (hI5 53 (by decide)).trans hi53
  have hF_10 := hF.mono (pIx hI5 (by decide)) (fun _ _ => rfl)
  have hY_11 := hY.mono (pIx hI5 (by decide)) (fun _ _ => rfl)
  have hP_12 := hP.mono (pIx hI5 (by decide)) (fun _ _ => rfl)
  have hEI13 := hEI.put hI5 (by decide)
  show pl _ _ _ (5, [(0, .ref m0), (1, .int t), (2, .int x), (3, .int y)], [], M1) _
  refine ps_st (S' := (6, [(0, .ref m0), (1, .int t), (2, .int x), (3, .int y)], [.ref m0], M1)) rfl rfl rfl ?_
  refine pr_int (j := 18) (S' := (9, [(0, .ref m0), (1, .int t), (2, .int x), (3, .int y)], [.int (nI n2)], M1)) rfl hR3 rfl hi6 rfl ?_
  refine ps_if (S1 := (30, [], [], M1)) (S2 := (12, [(0, .ref m0), (1, .int t), (2, .int x), (3, .int y)], [], M1)) rfl rfl rfl (fun c_9 => ?_) (fun c_9 => ?_)
  · exact absurd (of_decide_eq_true c_9) (show ¬ ((nI n2) < 0) from fun h9 => absurd ((lt_nI (p := n2) (n := 0) (by omega) (by decide)).mp h9) (by omega))
  refine ps_st (S' := (13, [(0, .ref m0), (1, .int t), (2, .int x), (3, .int y)], [.ref m0], M1)) rfl rfl rfl ?_
  refine ps_st (S' := (14, [(0, .ref m0), (1, .int t), (2, .int x), (3, .int y)], [.int x, .ref m0], M1)) rfl rfl rfl ?_
  refine pl_call (a := [.ref m0, .int x]) (rest := []) rfl rfl rfl (rd_tagR (n := n) (f := f) (tx := tx) (cN := cN) (A := A) (N := N) (mj := mj) (E := E) (k := x) hR3 hi7 hi8 hi9 hF_10 hY_11 hP_12 (hEP) (hN) (hmj) (h0)) (fun v14 M15 q16 => ?_)
  obtain ⟨rfl, rfl⟩ := q16
  show pl _ _ _ (17, [(0, .ref m0), (1, .int t), (2, .int x), (3, .int y)], [.int (nI (tg f E x.toNatClampNeg))], M1) _
  refine ps_st (S' := (18, [(0, .ref m0), (1, .int t), (2, .int x), (3, .int y)], [.int 1, .int (nI (tg f E x.toNatClampNeg))], M1)) rfl rfl rfl ?_
  refine ps_if2 (S1 := (30, [], [], M1)) (S2 := (21, [(0, .ref m0), (1, .int t), (2, .int x), (3, .int y)], [], M1)) rfl rfl rfl (fun c_18 => ?_) (fun c_18 => ?_)
  rotate_left
  · exact absurd (show ¬ (nI (tg f E x.toNatClampNeg)) = 1 from fun h9 => ht ((eq_nI (p := tg f E x.toNatClampNeg) (n := 1) (Nat.lt_trans (tg_lt _ _ _) (by decide)) (by decide)).mp h9)) (of_decide_eq_false c_18)
  refine ps_st (S' := (31, [], [.int (-1)], M1)) rfl rfl rfl ?_
  exact ps_ret rfl rfl (⟨I2, R, rfl, hR3, hEI13, hER, hi4⟩)
set_option maxHeartbeats 1000000 in
theorem rd_findB {g : xe_G} {m0 : Nat} {q : Nat → Nat} {z : Nat × Nat} {I : rI} {R : rR} {M : mi_H} {n : Nat} {f : Nat → Int32} {tx : List (List Nat)} {cN : Nat} {A : Nat → Nat} {N mj : Nat} {E : List (Nat × Nat)} {n2 : Nat} {t x y : Int32} (hR : RS g m0 q z I R M) (hi18 : I 18 = some (nI n2)) (hi51 : I 51 = some 0) (hi52 : I 52 = some (nI N)) (hi53 : I 53 = some (nI mj)) (hF : FK n f I R) (hY : SYT tx cN A I R) (hP : RPV f n E tx N I R) (hEP : EP f n E) (hN : N < 65536) (hmj : mj < 65536) (hn2 : n2 ≤ 65540) (h0 : tg f E 0 = 0) (hx : tg f E x.toNatClampNeg = 1) (ht : ¬ tg f E y.toNatClampNeg = 1) : pt (mT g) 207 [.ref m0, .int t, .int x, .int y] M (fun v M' => (∃  (I' : rI) (R' : rR), v = some (.int (-1)) ∧ RS g m0 q z I' R' M' ∧ eqI [0] I I' ∧ eqR [] R R' ∧ I' 0 = some 0)) := by
  refine pt_in (b := mb_207 g) rfl (fun kf => ?_)
  show pl (mT g) kf (mb_207 g).2 (0, [(0, .ref m0), (1, .int t), (2, .int x), (3, .int y)], [], M) _
  have hEI : eqI [0] I I := eqI.rf
  have hER : eqR [] R R := eqR.rf
  refine ps_st (S' := (1, [(0, .ref m0), (1, .int t), (2, .int x), (3, .int y)], [.ref m0], M)) rfl rfl rfl ?_
  refine ps_st (S' := (2, [(0, .ref m0), (1, .int t), (2, .int x), (3, .int y)], [.int 0, .ref m0], M)) rfl rfl rfl ?_
  refine pr_put (j := 0) rfl hR rfl (fun M1 I2 hR3 hi4 hI5 => ?_)
  have hi6 := (hI5 18 (by decide)).trans hi18
  have hi7 := (hI5 51 (by decide)).trans hi51
  have hi8 := (hI5 52 (by decide)).trans hi52
  have hi9 := (hI5 53 (by decide)).trans hi53
  have hF_10 := hF.mono (pIx hI5 (by decide)) (fun _ _ => rfl)
  have hY_11 := hY.mono (pIx hI5 (by decide)) (fun _ _ => rfl)
  have hP_12 := hP.mono (pIx hI5 (by decide)) (fun _ _ => rfl)
  have hEI13 := hEI.put hI5 (by decide)
  show pl _ _ _ (5, [(0, .ref m0), (1, .int t), (2, .int x), (3, .int y)], [], M1) _
  refine ps_st (S' := (6, [(0, .ref m0), (1, .int t), (2, .int x), (3, .int y)], [.ref m0], M1)) rfl rfl rfl ?_
  refine pr_int (j := 18) (S' := (9, [(0, .ref m0), (1, .int t), (2, .int x), (3, .int y)], [.int (nI n2)], M1)) rfl hR3 rfl hi6 rfl ?_
  refine ps_if (S1 := (30, [], [], M1)) (S2 := (12, [(0, .ref m0), (1, .int t), (2, .int x), (3, .int y)], [], M1)) rfl rfl rfl (fun c_9 => ?_) (fun c_9 => ?_)
  · exact absurd (of_decide_eq_true c_9) (show ¬ ((nI n2) < 0) from fun h9 => absurd ((lt_nI (p := n2) (n := 0) (by omega) (by decide)).mp h9) (by omega))
  refine ps_st (S' := (13, [(0, .ref m0), (1, .int t), (2, .int x), (3, .int y)], [.ref m0], M1)) rfl rfl rfl ?_
  refine ps_st (S' := (14, [(0, .ref m0), (1, .int t), (2, .int x), (3, .int y)], [.int x, .ref m0], M1)) rfl rfl rfl ?_
  refine pl_call (a := [.ref m0, .int x]) (rest := []) rfl rfl rfl (rd_tagR (n := n) (f := f) (tx := tx) (cN := cN) (A := A) (N := N) (mj := mj) (E := E) (k := x) hR3 hi7 hi8 hi9 hF_10 hY_11 hP_12 (hEP) (hN) (hmj) (h0)) (fun v14 M15 q16 => ?_)
  obtain ⟨rfl, rfl⟩ := q16
  show pl _ _ _ (17, [(0, .ref m0), (1, .int t), (2, .int x), (3, .int y)], [.int (nI (tg f E x.toNatClampNeg))], M1) _
  refine ps_st (S' := (18, [(0, .ref m0), (1, .int t), (2, .int x), (3, .int y)], [.int 1, .int (nI (tg f E x.toNatClampNeg))], M1)) rfl rfl rfl ?_
  refine ps_if2 (S1 := (30, [], [], M1)) (S2 := (21, [(0, .ref m0), (1, .int t), (2, .int x), (3, .int y)], [], M1)) rfl rfl rfl (fun c_18 => ?_) (fun c_18 => ?_)
  · exact absurd (of_decide_eq_true c_18) (fun h9 => h9 ((eq_nI (p := tg f E x.toNatClampNeg) (n := 1) (Nat.lt_trans (tg_lt _ _ _) (by decide)) (by decide)).mpr hx))
  refine ps_st (S' := (22, [(0, .ref m0), (1, .int t), (2, .int x), (3, .int y)], [.ref m0], M1)) rfl rfl rfl ?_
  refine ps_st (S' := (23, [(0, .ref m0), (1, .int t), (2, .int x), (3, .int y)], [.int y, .ref m0], M1)) rfl rfl rfl ?_
  refine pl_call (a := [.ref m0, .int y]) (rest := []) rfl rfl rfl (rd_tagR (n := n) (f := f) (tx := tx) (cN := cN) (A := A) (N := N) (mj := mj) (E := E) (k := y) hR3 hi7 hi8 hi9 hF_10 hY_11 hP_12 (hEP) (hN) (hmj) (h0)) (fun v17 M18 q19 => ?_)
  obtain ⟨rfl, rfl⟩ := q19
  show pl _ _ _ (26, [(0, .ref m0), (1, .int t), (2, .int x), (3, .int y)], [.int (nI (tg f E y.toNatClampNeg))], M1) _
  refine ps_st (S' := (27, [(0, .ref m0), (1, .int t), (2, .int x), (3, .int y)], [.int 1, .int (nI (tg f E y.toNatClampNeg))], M1)) rfl rfl rfl ?_
  refine ps_if2 (S1 := (32, [(0, .ref m0), (1, .int t), (2, .int x), (3, .int y)], [], M1)) (S2 := (30, [], [], M1)) rfl rfl rfl (fun c_27 => ?_) (fun c_27 => ?_)
  · exact absurd (of_decide_eq_true c_27) (fun h9 => ht ((eq_nI (p := tg f E y.toNatClampNeg) (n := 1) (Nat.lt_trans (tg_lt _ _ _) (by decide)) (by decide)).mp h9))
  refine ps_st (S' := (31, [], [.int (-1)], M1)) rfl rfl rfl ?_
  exact ps_ret rfl rfl (⟨I2, R, rfl, hR3, hEI13, hER, hi4⟩)
set_option maxHeartbeats 1000000 in
theorem rd_findF {g : xe_G} {m0 : Nat} {q : Nat → Nat} {z : Nat × Nat} {I : rI} {R : rR} {M : mi_H} {n : Nat} {f : Nat → Int32} {tx : List (List Nat)} {cN : Nat} {A : Nat → Nat} {N mj : Nat} {E : List (Nat × Nat)} {n2 : Nat} {t : Int32} {x y : Nat} {B : List Nat} (hR : RS g m0 q z I R M) (hi18 : I 18 = some (nI n2)) (hi51 : I 51 = some 0) (hi52 : I 52 = some (nI N)) (hi53 : I 53 = some (nI mj)) (hi25 : I 25 = some (nI B.length)) (hF : FK n f I R) (hY : SYT tx cN A I R) (hP : RPV f n E tx N I R) (hN9 : FN 28 29 f n E tx B 0 B.length I R) (hEP : EP f n E) (hN : N < 65536) (hmj : mj < 65536) (hn2 : n2 ≤ 65540) (hx : x < 65536) (hy : y < 65536) (hx1 : tg f E x = 1) (hy1 : tg f E y = 1) (hBl : B.length < 65536) (ht : t = 0) : pt (mT g) 207 [.ref m0, .int t, .int (nI x), .int (nI y)] M (fun v M' => (∃  (I' : rI) (R' : rR), v = some (.int (smI (smeS f n E B x y B.length 0))) ∧ RS g m0 q z I' R' M' ∧ eqI [0] I I' ∧ eqR [] R R' ∧ I' 0 = some 0)) := by
  refine pt_in (b := mb_207 g) rfl (fun kf => ?_)
  show pl (mT g) kf (mb_207 g).2 (0, [(0, .ref m0), (1, .int t), (2, .int (nI x)), (3, .int (nI y))], [], M) _
  have hEI : eqI [0] I I := eqI.rf
  have hER : eqR [] R R := eqR.rf
  have hn := hF.1
  have LL : ∀ (kf : Nat), (∀ (s d i : Nat) (M1 : mi_H) (I1 : rI) (R1 : rR), (RS g m0 q z I1 R1 M1) → (eqI [0] I I1) → (eqR [] R R1) → (I1 0 = some 0) → (I1 25 = some (nI B.length)) → (SYT tx cN A I1 R1) → (FN 28 29 f n E tx B 0 B.length I1 R1) → (s < tx.length ∧ tx.getD s [] = tX f n E x) → (d < tx.length ∧ tx.getD d [] = tX f n E y) → (i ≤ B.length) → (smeS f n E B x y (B.length - i) i = smeS f n E B x y B.length 0) →  pl (mT g) kf (mb_207 g).2 (49, [(0, .ref m0), (1, .int t), (4, .int (nI s)), (5, .int (nI d)), (6, .int (nI i))], [], M1) (fun v M' => (∃  (I' : rI) (R' : rR), v = some (.int (smI (smeS f n E B x y B.length 0))) ∧ RS g m0 q z I' R' M' ∧ eqI [0] I I' ∧ eqR [] R R' ∧ I' 0 = some 0))) := by
    intro kf
    induction kf with
    | zero => exact (by intros; exact pl_0)
    | succ kf ih =>
      intro s d i M1 I1 R1 hR1 hEI1 hER1 hl0 hl25 hY1 hN91 hs hd hi hm
      have htl := hY1.1.2.2.1
      have hs7 := hs.1
      have hd7 := hd.1
      refine ps_st1 (S' := (51, [(0, .ref m0), (1, .int t), (4, .int (nI s)), (5, .int (nI d)), (6, .int (nI i))], [.int (nI i)], M1)) rfl rfl rfl ?_
      refine ps_st (S' := (52, [(0, .ref m0), (1, .int t), (4, .int (nI s)), (5, .int (nI d)), (6, .int (nI i))], [.int t, .int (nI i)], M1)) rfl rfl rfl ?_
      refine ps_if (S1 := (62, [(0, .ref m0), (1, .int t), (4, .int (nI s)), (5, .int (nI d)), (6, .int (nI i))], [.int (nI i)], M1)) (S2 := (55, [(0, .ref m0), (1, .int t), (4, .int (nI s)), (5, .int (nI d)), (6, .int (nI i))], [.int (nI i)], M1)) rfl rfl rfl (fun c_52 => ?_) (fun c_52 => ?_)
      rotate_left
      · exact absurd (ht) (of_decide_eq_false c_52)
      refine ps_st (S' := (63, [(0, .ref m0), (1, .int t), (4, .int (nI s)), (5, .int (nI d)), (6, .int (nI i))], [.ref m0, .int (nI i)], M1)) rfl rfl rfl ?_
      refine pr_int (j := 25) (S' := (66, [(0, .ref m0), (1, .int t), (4, .int (nI s)), (5, .int (nI d)), (6, .int (nI i))], [.int (nI B.length), .int (nI i)], M1)) rfl hR1 rfl hl25 rfl ?_
      refine ps_if2 (S1 := (130, [(0, .ref m0), (1, .int t), (4, .int (nI s)), (5, .int (nI d)), (6, .int (nI i))], [], M1)) (S2 := (69, [(0, .ref m0), (1, .int t), (4, .int (nI s)), (5, .int (nI d)), (6, .int (nI i))], [], M1)) rfl rfl rfl (fun c_66 => ?_) (fun c_66 => ?_)
      · have c_66 : (nI B.length) ≤ (nI i) := of_decide_eq_true c_66
        have n_66 : B.length ≤ i := (le_nI (p := B.length) (n := i) (by omega) (by omega)).mp c_66
        refine ps_st (S' := (131, [(0, .ref m0), (1, .int t), (4, .int (nI s)), (5, .int (nI d)), (6, .int (nI i))], [.int (-1)], M1)) rfl rfl rfl ?_
        exact ps_ret rfl rfl (⟨I1, R1, by
            rw [← hm, show B.length - i = 0 by omega]
            rfl, hR1, hEI1, hER1, hl0⟩)
      · have c_66 : ¬ ((nI B.length) ≤ (nI i)) := of_decide_eq_false c_66
        have n_66 : ¬ (B.length ≤ i) := fun h9 => c_66 ((le_nI (p := B.length) (n := i) (by omega) (by omega)).mpr h9)
        obtain ⟨a9, d9, g1, g2, g3, g4, g5, g6⟩ := hN91 i (by omega)
        rw [Nat.zero_add] at g1 g2
        have g7 := g3.1
        have g8 := g4.1
        have sm1 := sm_sym (k := by2 f (B.getD i 0 + 2)) (m := x) hY1 g3 hs g5 hx1
        have sm2 := sm_sym (k := by2 f (B.getD i 0 + 4)) (m := y) hY1 g4 hd g6 hy1
        refine ps_st (S' := (70, [(0, .ref m0), (1, .int t), (4, .int (nI s)), (5, .int (nI d)), (6, .int (nI i))], [.int t], M1)) rfl rfl rfl ?_
        refine ps_if (S1 := (83, [(0, .ref m0), (1, .int t), (4, .int (nI s)), (5, .int (nI d)), (6, .int (nI i))], [], M1)) (S2 := (73, [(0, .ref m0), (1, .int t), (4, .int (nI s)), (5, .int (nI d)), (6, .int (nI i))], [], M1)) rfl rfl rfl (fun c_70 => ?_) (fun c_70 => ?_)
        rotate_left
        · exact absurd (ht) (of_decide_eq_false c_70)
        refine ps_st (S' := (84, [(0, .ref m0), (1, .int t), (4, .int (nI s)), (5, .int (nI d)), (6, .int (nI i))], [.ref m0], M1)) rfl rfl rfl ?_
        refine pr_ref (j := 28) (S' := (87, [(0, .ref m0), (1, .int t), (4, .int (nI s)), (5, .int (nI d)), (6, .int (nI i))], [.ref (q 28)], M1)) rfl hR1 rfl rfl ?_
        refine ps_st (S' := (89, [(0, .ref m0), (1, .int t), (4, .int (nI s)), (5, .int (nI d)), (6, .int (nI i))], [.int (nI i), .ref (q 28)], M1)) rfl rfl rfl ?_
        refine pr_ld (a := 28) (j := i) (y := (nI a9)) (S' := (90, [(0, .ref m0), (1, .int t), (4, .int (nI s)), (5, .int (nI d)), (6, .int (nI i))], [.int (nI a9)], M1)) rfl hR1 rfl (by omega) (fun _ => g1) rfl (fun i1_89 => ?_)
        refine ps_st (S' := (92, [(0, .ref m0), (1, .int t), (4, .int (nI s)), (5, .int (nI d)), (6, .int (nI i))], [.int (nI s), .int (nI a9)], M1)) rfl rfl rfl ?_
        refine ps_if2 (S1 := (124, [(0, .ref m0), (1, .int t), (4, .int (nI s)), (5, .int (nI d)), (6, .int (nI i))], [], M1)) (S2 := (95, [(0, .ref m0), (1, .int t), (4, .int (nI s)), (5, .int (nI d)), (6, .int (nI i))], [], M1)) rfl rfl rfl (fun c_92 => ?_) (fun c_92 => ?_)
        · have c_92 : ¬ (nI a9) = (nI s) := of_decide_eq_true c_92
          have n_92 : ¬ (a9 = s) := fun h9 => c_92 ((eq_nI (p := a9) (n := s) (by omega) (by omega)).mpr h9)
          refine ps_st (S' := (127, [(6, .int ((nI i) + 1)), (0, .ref m0), (1, .int t), (4, .int (nI s)), (5, .int (nI d))], [], M1)) rfl rfl rfl ?_
          rw [nI_add1 (p := i) (k := 1) (x := 1) rfl (by omega)]
          show pl _ _ _ (_, [(6, .int (nI (i + 1))), (0, .ref m0), (1, .int t), (4, .int (nI s)), (5, .int (nI d))], [], M1) _
          refine ps_st (S' := (49, [(0, .ref m0), (1, .int t), (4, .int (nI s)), (5, .int (nI d)), (6, .int (nI (i + 1)))], [], M1)) rfl rfl rfl ?_
          exact ih (s) (d) (i + 1) M1 I1 R1 hR1 hEI1 hER1 hl0 hl25 hY1 hN91 (hs) (hd) (by omega) (by
              rw [← hm, smeS_st (i := i) (by omega), if_neg (by omega)])
        · have c_92 : ¬ (¬ (nI a9) = (nI s)) := of_decide_eq_false c_92
          have n_92 : a9 = s := (eq_nI (p := a9) (n := s) (by omega) (by omega)).mp (Decidable.not_not.mp c_92)
          refine ps_st (S' := (96, [(0, .ref m0), (1, .int t), (4, .int (nI s)), (5, .int (nI d)), (6, .int (nI i))], [.int t], M1)) rfl rfl rfl ?_
          refine ps_if (S1 := (109, [(0, .ref m0), (1, .int t), (4, .int (nI s)), (5, .int (nI d)), (6, .int (nI i))], [], M1)) (S2 := (99, [(0, .ref m0), (1, .int t), (4, .int (nI s)), (5, .int (nI d)), (6, .int (nI i))], [], M1)) rfl rfl rfl (fun c_96 => ?_) (fun c_96 => ?_)
          rotate_left
          · exact absurd (ht) (of_decide_eq_false c_96)
          refine ps_st (S' := (110, [(0, .ref m0), (1, .int t), (4, .int (nI s)), (5, .int (nI d)), (6, .int (nI i))], [.ref m0], M1)) rfl rfl rfl ?_
          refine pr_ref (j := 29) (S' := (113, [(0, .ref m0), (1, .int t), (4, .int (nI s)), (5, .int (nI d)), (6, .int (nI i))], [.ref (q 29)], M1)) rfl hR1 rfl rfl ?_
          refine ps_st (S' := (115, [(0, .ref m0), (1, .int t), (4, .int (nI s)), (5, .int (nI d)), (6, .int (nI i))], [.int (nI i), .ref (q 29)], M1)) rfl rfl rfl ?_
          refine pr_ld (a := 29) (j := i) (y := (nI d9)) (S' := (116, [(0, .ref m0), (1, .int t), (4, .int (nI s)), (5, .int (nI d)), (6, .int (nI i))], [.int (nI d9)], M1)) rfl hR1 rfl (by omega) (fun _ => g2) rfl (fun i1_115 => ?_)
          refine ps_st (S' := (118, [(0, .ref m0), (1, .int t), (4, .int (nI s)), (5, .int (nI d)), (6, .int (nI i))], [.int (nI d), .int (nI d9)], M1)) rfl rfl rfl ?_
          refine ps_if2 (S1 := (124, [(0, .ref m0), (1, .int t), (4, .int (nI s)), (5, .int (nI d)), (6, .int (nI i))], [], M1)) (S2 := (121, [(0, .ref m0), (1, .int t), (4, .int (nI s)), (5, .int (nI d)), (6, .int (nI i))], [], M1)) rfl rfl rfl (fun c_118 => ?_) (fun c_118 => ?_)
          · have c_118 : ¬ (nI d9) = (nI d) := of_decide_eq_true c_118
            have n_118 : ¬ (d9 = d) := fun h9 => c_118 ((eq_nI (p := d9) (n := d) (by omega) (by omega)).mpr h9)
            refine ps_st (S' := (127, [(6, .int ((nI i) + 1)), (0, .ref m0), (1, .int t), (4, .int (nI s)), (5, .int (nI d))], [], M1)) rfl rfl rfl ?_
            rw [nI_add1 (p := i) (k := 1) (x := 1) rfl (by omega)]
            show pl _ _ _ (_, [(6, .int (nI (i + 1))), (0, .ref m0), (1, .int t), (4, .int (nI s)), (5, .int (nI d))], [], M1) _
            refine ps_st (S' := (49, [(0, .ref m0), (1, .int t), (4, .int (nI s)), (5, .int (nI d)), (6, .int (nI (i + 1)))], [], M1)) rfl rfl rfl ?_
            exact ih (s) (d) (i + 1) M1 I1 R1 hR1 hEI1 hER1 hl0 hl25 hY1 hN91 (hs) (hd) (by omega) (by
                rw [← hm, smeS_st (i := i) (by omega), if_neg (by omega)])
          · have c_118 : ¬ (¬ (nI d9) = (nI d)) := of_decide_eq_false c_118
            have n_118 : d9 = d := (eq_nI (p := d9) (n := d) (by omega) (by omega)).mp (Decidable.not_not.mp c_118)
            refine ps_st (S' := (123, [(0, .ref m0), (1, .int t), (4, .int (nI s)), (5, .int (nI d)), (6, .int (nI i))], [.int (nI i)], M1)) rfl rfl rfl ?_
            exact ps_reti rfl (⟨I1, R1, by
                rw [← hm, smeS_st (i := i) (by omega), if_pos (by omega)]
                rfl, hR1, hEI1, hER1, hl0⟩)
  refine ps_st (S' := (1, [(0, .ref m0), (1, .int t), (2, .int (nI x)), (3, .int (nI y))], [.ref m0], M)) rfl rfl rfl ?_
  refine ps_st (S' := (2, [(0, .ref m0), (1, .int t), (2, .int (nI x)), (3, .int (nI y))], [.int 0, .ref m0], M)) rfl rfl rfl ?_
  refine pr_put (j := 0) rfl hR rfl (fun M1 I2 hR3 hi4 hI5 => ?_)
  have hi6 := (hI5 18 (by decide)).trans hi18
  have hi7 := (hI5 51 (by decide)).trans hi51
  have hi8 := (hI5 52 (by decide)).trans hi52
  have hi9 := (hI5 53 (by decide)).trans hi53
  have hi10 := (hI5 25 (by decide)).trans hi25
  have hF_11 := hF.mono (pIx hI5 (by decide)) (fun _ _ => rfl)
  have hY_12 := hY.mono (pIx hI5 (by decide)) (fun _ _ => rfl)
  have hP_13 := hP.mono (pIx hI5 (by decide)) (fun _ _ => rfl)
  have hN9_14 := hN9.mono (pIx hI5 (by decide)) (fun _ _ => rfl)
  have hEI15 := hEI.put hI5 (by decide)
  show pl _ _ _ (5, [(0, .ref m0), (1, .int t), (2, .int (nI x)), (3, .int (nI y))], [], M1) _
  refine ps_st (S' := (6, [(0, .ref m0), (1, .int t), (2, .int (nI x)), (3, .int (nI y))], [.ref m0], M1)) rfl rfl rfl ?_
  refine pr_int (j := 18) (S' := (9, [(0, .ref m0), (1, .int t), (2, .int (nI x)), (3, .int (nI y))], [.int (nI n2)], M1)) rfl hR3 rfl hi6 rfl ?_
  refine ps_if (S1 := (30, [], [], M1)) (S2 := (12, [(0, .ref m0), (1, .int t), (2, .int (nI x)), (3, .int (nI y))], [], M1)) rfl rfl rfl (fun c_9 => ?_) (fun c_9 => ?_)
  · exact absurd (of_decide_eq_true c_9) (show ¬ ((nI n2) < 0) from fun h9 => absurd ((lt_nI (p := n2) (n := 0) (by omega) (by decide)).mp h9) (by omega))
  refine ps_st (S' := (13, [(0, .ref m0), (1, .int t), (2, .int (nI x)), (3, .int (nI y))], [.ref m0], M1)) rfl rfl rfl ?_
  refine ps_st (S' := (14, [(0, .ref m0), (1, .int t), (2, .int (nI x)), (3, .int (nI y))], [.int (nI x), .ref m0], M1)) rfl rfl rfl ?_
  refine pl_call (a := [.ref m0, .int (nI x)]) (rest := []) rfl rfl rfl (rd_tag (n := n) (f := f) (tx := tx) (cN := cN) (A := A) (N := N) (mj := mj) (E := E) (k := x) hR3 hi7 hi8 hi9 hF_11 hY_12 hP_13 (hEP) (hN) (hmj) (by omega)) (fun v16 M17 q18 => ?_)
  obtain ⟨rfl, rfl⟩ := q18
  show pl _ _ _ (17, [(0, .ref m0), (1, .int t), (2, .int (nI x)), (3, .int (nI y))], [.int (nI (tg f E x))], M1) _
  have htg_14 := tg_lt f E x
  refine ps_st (S' := (18, [(0, .ref m0), (1, .int t), (2, .int (nI x)), (3, .int (nI y))], [.int 1, .int (nI (tg f E x))], M1)) rfl rfl rfl ?_
  refine ps_if2 (S1 := (30, [], [], M1)) (S2 := (21, [(0, .ref m0), (1, .int t), (2, .int (nI x)), (3, .int (nI y))], [], M1)) rfl rfl rfl (fun c_18 => ?_) (fun c_18 => ?_)
  · exact absurd (of_decide_eq_true c_18) (fun h9 => h9 (by rw [hx1]; rfl))
  refine ps_st (S' := (22, [(0, .ref m0), (1, .int t), (2, .int (nI x)), (3, .int (nI y))], [.ref m0], M1)) rfl rfl rfl ?_
  refine ps_st (S' := (23, [(0, .ref m0), (1, .int t), (2, .int (nI x)), (3, .int (nI y))], [.int (nI y), .ref m0], M1)) rfl rfl rfl ?_
  refine pl_call (a := [.ref m0, .int (nI y)]) (rest := []) rfl rfl rfl (rd_tag (n := n) (f := f) (tx := tx) (cN := cN) (A := A) (N := N) (mj := mj) (E := E) (k := y) hR3 hi7 hi8 hi9 hF_11 hY_12 hP_13 (hEP) (hN) (hmj) (by omega)) (fun v19 M20 q21 => ?_)
  obtain ⟨rfl, rfl⟩ := q21
  show pl _ _ _ (26, [(0, .ref m0), (1, .int t), (2, .int (nI x)), (3, .int (nI y))], [.int (nI (tg f E y))], M1) _
  have htg_23 := tg_lt f E y
  refine ps_st (S' := (27, [(0, .ref m0), (1, .int t), (2, .int (nI x)), (3, .int (nI y))], [.int 1, .int (nI (tg f E y))], M1)) rfl rfl rfl ?_
  refine ps_if2 (S1 := (32, [(0, .ref m0), (1, .int t), (2, .int (nI x)), (3, .int (nI y))], [], M1)) (S2 := (30, [], [], M1)) rfl rfl rfl (fun c_27 => ?_) (fun c_27 => ?_)
  rotate_left
  · exact absurd (by rw [hy1]; rfl) (of_decide_eq_false c_27)
  refine ps_st (S' := (33, [(0, .ref m0), (1, .int t), (2, .int (nI x)), (3, .int (nI y))], [.ref m0], M1)) rfl rfl rfl ?_
  refine ps_st (S' := (34, [(0, .ref m0), (1, .int t), (2, .int (nI x)), (3, .int (nI y))], [.int (nI x), .ref m0], M1)) rfl rfl rfl ?_
  refine pl_call (a := [.ref m0, .int (nI x)]) (rest := []) rfl rfl rfl (rd_symOf (n := n) (f := f) (tx := tx) (cN := cN) (A := A) (N := N) (mj := mj) (E := E) (k := x) hR3 hi7 hi8 hi9 hF_11 hY_12 hP_13 (hEP) (hN) (hmj) (by omega)) (fun v22 M23 q24 => ?_)
  obtain ⟨s25, q34_s, rfl, rfl⟩ := q24
  show pl _ _ _ (37, [(0, .ref m0), (1, .int t), (2, .int (nI x)), (3, .int (nI y))], [.int (nI s25)], M1) _
  have hsl_34 := q34_s.1
  have htl_34 := hY_12.1.2.2.1
  refine ps_st (S' := (39, [(4, .int (nI s25)), (0, .ref m0), (1, .int t), (2, .int (nI x)), (3, .int (nI y))], [], M1)) rfl rfl rfl ?_
  refine ps_st (S' := (40, [(4, .int (nI s25)), (0, .ref m0), (1, .int t), (2, .int (nI x)), (3, .int (nI y))], [.ref m0], M1)) rfl rfl rfl ?_
  refine ps_st (S' := (41, [(4, .int (nI s25)), (0, .ref m0), (1, .int t), (2, .int (nI x)), (3, .int (nI y))], [.int (nI y), .ref m0], M1)) rfl rfl rfl ?_
  refine pl_call (a := [.ref m0, .int (nI y)]) (rest := []) rfl rfl rfl (rd_symOf (n := n) (f := f) (tx := tx) (cN := cN) (A := A) (N := N) (mj := mj) (E := E) (k := y) hR3 hi7 hi8 hi9 hF_11 hY_12 hP_13 (hEP) (hN) (hmj) (by omega)) (fun v26 M27 q28 => ?_)
  obtain ⟨s29, q41_s, rfl, rfl⟩ := q28
  show pl _ _ _ (44, [(4, .int (nI s25)), (0, .ref m0), (1, .int t), (2, .int (nI x)), (3, .int (nI y))], [.int (nI s29)], M1) _
  have hsl_41 := q41_s.1
  have htl_41 := hY_12.1.2.2.1
  refine ps_st (S' := (46, [(5, .int (nI s29)), (4, .int (nI s25)), (0, .ref m0), (1, .int t), (2, .int (nI x)), (3, .int (nI y))], [], M1)) rfl rfl rfl ?_
  refine ps_st (S' := (47, [(5, .int (nI s29)), (4, .int (nI s25)), (0, .ref m0), (1, .int t), (2, .int (nI x)), (3, .int (nI y))], [.int 0], M1)) rfl rfl rfl ?_
  refine ps_st (S' := (49, [(0, .ref m0), (1, .int t), (4, .int (nI s25)), (5, .int (nI s29)), (6, .int 0)], [], M1)) rfl rfl rfl ?_
  exact (LL kf) (s25) (s29) (0) M1 I2 R hR3 hEI15 hER hi4 hi10 hY_12 hN9_14 (q34_s) (q41_s) (by omega) (rfl)
set_option maxHeartbeats 1000000 in
theorem rd_findM {g : xe_G} {m0 : Nat} {q : Nat → Nat} {z : Nat × Nat} {I : rI} {R : rR} {M : mi_H} {n : Nat} {f : Nat → Int32} {tx : List (List Nat)} {cN : Nat} {A : Nat → Nat} {N mj : Nat} {E : List (Nat × Nat)} {n2 : Nat} {t : Int32} {x y : Nat} {B : List Nat} (hR : RS g m0 q z I R M) (hi18 : I 18 = some (nI n2)) (hi51 : I 51 = some 0) (hi52 : I 52 = some (nI N)) (hi53 : I 53 = some (nI mj)) (hi26 : I 26 = some (nI B.length)) (hF : FK n f I R) (hY : SYT tx cN A I R) (hP : RPV f n E tx N I R) (hN9 : FN 35 36 f n E tx B 0 B.length I R) (hEP : EP f n E) (hN : N < 65536) (hmj : mj < 65536) (hn2 : n2 ≤ 65540) (hx : x < 65536) (hy : y < 65536) (hx1 : tg f E x = 1) (hy1 : tg f E y = 1) (hBl : B.length < 65536) (ht : ¬ t = 0) : pt (mT g) 207 [.ref m0, .int t, .int (nI x), .int (nI y)] M (fun v M' => (∃  (I' : rI) (R' : rR), v = some (.int (smI (smeS f n E B x y B.length 0))) ∧ RS g m0 q z I' R' M' ∧ eqI [0] I I' ∧ eqR [] R R' ∧ I' 0 = some 0)) := by
  refine pt_in (b := mb_207 g) rfl (fun kf => ?_)
  show pl (mT g) kf (mb_207 g).2 (0, [(0, .ref m0), (1, .int t), (2, .int (nI x)), (3, .int (nI y))], [], M) _
  have hEI : eqI [0] I I := eqI.rf
  have hER : eqR [] R R := eqR.rf
  have hn := hF.1
  have LL : ∀ (kf : Nat), (∀ (s d i : Nat) (M1 : mi_H) (I1 : rI) (R1 : rR), (RS g m0 q z I1 R1 M1) → (eqI [0] I I1) → (eqR [] R R1) → (I1 0 = some 0) → (I1 26 = some (nI B.length)) → (SYT tx cN A I1 R1) → (FN 35 36 f n E tx B 0 B.length I1 R1) → (s < tx.length ∧ tx.getD s [] = tX f n E x) → (d < tx.length ∧ tx.getD d [] = tX f n E y) → (i ≤ B.length) → (smeS f n E B x y (B.length - i) i = smeS f n E B x y B.length 0) →  pl (mT g) kf (mb_207 g).2 (49, [(0, .ref m0), (1, .int t), (4, .int (nI s)), (5, .int (nI d)), (6, .int (nI i))], [], M1) (fun v M' => (∃  (I' : rI) (R' : rR), v = some (.int (smI (smeS f n E B x y B.length 0))) ∧ RS g m0 q z I' R' M' ∧ eqI [0] I I' ∧ eqR [] R R' ∧ I' 0 = some 0))) := by
    intro kf
    induction kf with
    | zero => exact (by intros; exact pl_0)
    | succ kf ih =>
      intro s d i M1 I1 R1 hR1 hEI1 hER1 hl0 hl26 hY1 hN91 hs hd hi hm
      have htl := hY1.1.2.2.1
      have hs7 := hs.1
      have hd7 := hd.1
      refine ps_st1 (S' := (51, [(0, .ref m0), (1, .int t), (4, .int (nI s)), (5, .int (nI d)), (6, .int (nI i))], [.int (nI i)], M1)) rfl rfl rfl ?_
      refine ps_st (S' := (52, [(0, .ref m0), (1, .int t), (4, .int (nI s)), (5, .int (nI d)), (6, .int (nI i))], [.int t, .int (nI i)], M1)) rfl rfl rfl ?_
      refine ps_if (S1 := (62, [(0, .ref m0), (1, .int t), (4, .int (nI s)), (5, .int (nI d)), (6, .int (nI i))], [.int (nI i)], M1)) (S2 := (55, [(0, .ref m0), (1, .int t), (4, .int (nI s)), (5, .int (nI d)), (6, .int (nI i))], [.int (nI i)], M1)) rfl rfl rfl (fun c_52 => ?_) (fun c_52 => ?_)
      · exact absurd (of_decide_eq_true c_52) (ht)
      refine ps_st (S' := (56, [(0, .ref m0), (1, .int t), (4, .int (nI s)), (5, .int (nI d)), (6, .int (nI i))], [.ref m0, .int (nI i)], M1)) rfl rfl rfl ?_
      refine pr_int (j := 26) (S' := (59, [(0, .ref m0), (1, .int t), (4, .int (nI s)), (5, .int (nI d)), (6, .int (nI i))], [.int (nI B.length), .int (nI i)], M1)) rfl hR1 rfl hl26 rfl ?_
      refine ps_st (S' := (66, [(0, .ref m0), (1, .int t), (4, .int (nI s)), (5, .int (nI d)), (6, .int (nI i))], [.int (nI B.length), .int (nI i)], M1)) rfl rfl rfl ?_
      refine ps_if2 (S1 := (130, [(0, .ref m0), (1, .int t), (4, .int (nI s)), (5, .int (nI d)), (6, .int (nI i))], [], M1)) (S2 := (69, [(0, .ref m0), (1, .int t), (4, .int (nI s)), (5, .int (nI d)), (6, .int (nI i))], [], M1)) rfl rfl rfl (fun c_66 => ?_) (fun c_66 => ?_)
      · have c_66 : (nI B.length) ≤ (nI i) := of_decide_eq_true c_66
        have n_66 : B.length ≤ i := (le_nI (p := B.length) (n := i) (by omega) (by omega)).mp c_66
        refine ps_st (S' := (131, [(0, .ref m0), (1, .int t), (4, .int (nI s)), (5, .int (nI d)), (6, .int (nI i))], [.int (-1)], M1)) rfl rfl rfl ?_
        exact ps_ret rfl rfl (⟨I1, R1, by
            rw [← hm, show B.length - i = 0 by omega]
            rfl, hR1, hEI1, hER1, hl0⟩)
      · have c_66 : ¬ ((nI B.length) ≤ (nI i)) := of_decide_eq_false c_66
        have n_66 : ¬ (B.length ≤ i) := fun h9 => c_66 ((le_nI (p := B.length) (n := i) (by omega) (by omega)).mpr h9)
        obtain ⟨a9, d9, g1, g2, g3, g4, g5, g6⟩ := hN91 i (by omega)
        rw [Nat.zero_add] at g1 g2
        have g7 := g3.1
        have g8 := g4.1
        have sm1 := sm_sym (k := by2 f (B.getD i 0 + 2)) (m := x) hY1 g3 hs g5 hx1
        have sm2 := sm_sym (k := by2 f (B.getD i 0 + 4)) (m := y) hY1 g4 hd g6 hy1
        refine ps_st (S' := (70, [(0, .ref m0), (1, .int t), (4, .int (nI s)), (5, .int (nI d)), (6, .int (nI i))], [.int t], M1)) rfl rfl rfl ?_
        refine ps_if (S1 := (83, [(0, .ref m0), (1, .int t), (4, .int (nI s)), (5, .int (nI d)), (6, .int (nI i))], [], M1)) (S2 := (73, [(0, .ref m0), (1, .int t), (4, .int (nI s)), (5, .int (nI d)), (6, .int (nI i))], [], M1)) rfl rfl rfl (fun c_70 => ?_) (fun c_70 => ?_)
        · exact absurd (of_decide_eq_true c_70) (ht)
        refine ps_st (S' := (74, [(0, .ref m0), (1, .int t), (4, .int (nI s)), (5, .int (nI d)), (6, .int (nI i))], [.ref m0], M1)) rfl rfl rfl ?_
        refine pr_ref (j := 35) (S' := (77, [(0, .ref m0), (1, .int t), (4, .int (nI s)), (5, .int (nI d)), (6, .int (nI i))], [.ref (q 35)], M1)) rfl hR1 rfl rfl ?_
        refine ps_st (S' := (79, [(0, .ref m0), (1, .int t), (4, .int (nI s)), (5, .int (nI d)), (6, .int (nI i))], [.int (nI i), .ref (q 35)], M1)) rfl rfl rfl ?_
        refine pr_ld (a := 35) (j := i) (y := (nI a9)) (S' := (80, [(0, .ref m0), (1, .int t), (4, .int (nI s)), (5, .int (nI d)), (6, .int (nI i))], [.int (nI a9)], M1)) rfl hR1 rfl (by omega) (fun _ => g1) rfl (fun i1_79 => ?_)
        refine ps_st (S' := (90, [(0, .ref m0), (1, .int t), (4, .int (nI s)), (5, .int (nI d)), (6, .int (nI i))], [.int (nI a9)], M1)) rfl rfl rfl ?_
        refine ps_st (S' := (92, [(0, .ref m0), (1, .int t), (4, .int (nI s)), (5, .int (nI d)), (6, .int (nI i))], [.int (nI s), .int (nI a9)], M1)) rfl rfl rfl ?_
        refine ps_if2 (S1 := (124, [(0, .ref m0), (1, .int t), (4, .int (nI s)), (5, .int (nI d)), (6, .int (nI i))], [], M1)) (S2 := (95, [(0, .ref m0), (1, .int t), (4, .int (nI s)), (5, .int (nI d)), (6, .int (nI i))], [], M1)) rfl rfl rfl (fun c_92 => ?_) (fun c_92 => ?_)
        · have c_92 : ¬ (nI a9) = (nI s) := of_decide_eq_true c_92
          have n_92 : ¬ (a9 = s) := fun h9 => c_92 ((eq_nI (p := a9) (n := s) (by omega) (by omega)).mpr h9)
          refine ps_st (S' := (127, [(6, .int ((nI i) + 1)), (0, .ref m0), (1, .int t), (4, .int (nI s)), (5, .int (nI d))], [], M1)) rfl rfl rfl ?_
          rw [nI_add1 (p := i) (k := 1) (x := 1) rfl (by omega)]
          show pl _ _ _ (_, [(6, .int (nI (i + 1))), (0, .ref m0), (1, .int t), (4, .int (nI s)), (5, .int (nI d))], [], M1) _
          refine ps_st (S' := (49, [(0, .ref m0), (1, .int t), (4, .int (nI s)), (5, .int (nI d)), (6, .int (nI (i + 1)))], [], M1)) rfl rfl rfl ?_
          exact ih (s) (d) (i + 1) M1 I1 R1 hR1 hEI1 hER1 hl0 hl26 hY1 hN91 (hs) (hd) (by omega) (by
              rw [← hm, smeS_st (i := i) (by omega), if_neg (by omega)])
        · have c_92 : ¬ (¬ (nI a9) = (nI s)) := of_decide_eq_false c_92
          have n_92 : a9 = s := (eq_nI (p := a9) (n := s) (by omega) (by omega)).mp (Decidable.not_not.mp c_92)
          refine ps_st (S' := (96, [(0, .ref m0), (1, .int t), (4, .int (nI s)), (5, .int (nI d)), (6, .int (nI i))], [.int t], M1)) rfl rfl rfl ?_
          refine ps_if (S1 := (109, [(0, .ref m0), (1, .int t), (4, .int (nI s)), (5, .int (nI d)), (6, .int (nI i))], [], M1)) (S2 := (99, [(0, .ref m0), (1, .int t), (4, .int (nI s)), (5, .int (nI d)), (6, .int (nI i))], [], M1)) rfl rfl rfl (fun c_96 => ?_) (fun c_96 => ?_)
          · exact absurd (of_decide_eq_true c_96) (ht)
          refine ps_st (S' := (100, [(0, .ref m0), (1, .int t), (4, .int (nI s)), (5, .int (nI d)), (6, .int (nI i))], [.ref m0], M1)) rfl rfl rfl ?_
          refine pr_ref (j := 36) (S' := (103, [(0, .ref m0), (1, .int t), (4, .int (nI s)), (5, .int (nI d)), (6, .int (nI i))], [.ref (q 36)], M1)) rfl hR1 rfl rfl ?_
          refine ps_st (S' := (105, [(0, .ref m0), (1, .int t), (4, .int (nI s)), (5, .int (nI d)), (6, .int (nI i))], [.int (nI i), .ref (q 36)], M1)) rfl rfl rfl ?_
          refine pr_ld (a := 36) (j := i) (y := (nI d9)) (S' := (106, [(0, .ref m0), (1, .int t), (4, .int (nI s)), (5, .int (nI d)), (6, .int (nI i))], [.int (nI d9)], M1)) rfl hR1 rfl (by omega) (fun _ => g2) rfl (fun i1_105 => ?_)
          refine ps_st (S' := (116, [(0, .ref m0), (1, .int t), (4, .int (nI s)), (5, .int (nI d)), (6, .int (nI i))], [.int (nI d9)], M1)) rfl rfl rfl ?_
          refine ps_st (S' := (118, [(0, .ref m0), (1, .int t), (4, .int (nI s)), (5, .int (nI d)), (6, .int (nI i))], [.int (nI d), .int (nI d9)], M1)) rfl rfl rfl ?_
          refine ps_if2 (S1 := (124, [(0, .ref m0), (1, .int t), (4, .int (nI s)), (5, .int (nI d)), (6, .int (nI i))], [], M1)) (S2 := (121, [(0, .ref m0), (1, .int t), (4, .int (nI s)), (5, .int (nI d)), (6, .int (nI i))], [], M1)) rfl rfl rfl (fun c_118 => ?_) (fun c_118 => ?_)
          · have c_118 : ¬ (nI d9) = (nI d) := of_decide_eq_true c_118
            have n_118 : ¬ (d9 = d) := fun h9 => c_118 ((eq_nI (p := d9) (n := d) (by omega) (by omega)).mpr h9)
            refine ps_st (S' := (127, [(6, .int ((nI i) + 1)), (0, .ref m0), (1, .int t), (4, .int (nI s)), (5, .int (nI d))], [], M1)) rfl rfl rfl ?_
            rw [nI_add1 (p := i) (k := 1) (x := 1) rfl (by omega)]
            show pl _ _ _ (_, [(6, .int (nI (i + 1))), (0, .ref m0), (1, .int t), (4, .int (nI s)), (5, .int (nI d))], [], M1) _
            refine ps_st (S' := (49, [(0, .ref m0), (1, .int t), (4, .int (nI s)), (5, .int (nI d)), (6, .int (nI (i + 1)))], [], M1)) rfl rfl rfl ?_
            exact ih (s) (d) (i + 1) M1 I1 R1 hR1 hEI1 hER1 hl0 hl26 hY1 hN91 (hs) (hd) (by omega) (by
                rw [← hm, smeS_st (i := i) (by omega), if_neg (by omega)])
          · have c_118 : ¬ (¬ (nI d9) = (nI d)) := of_decide_eq_false c_118
            have n_118 : d9 = d := (eq_nI (p := d9) (n := d) (by omega) (by omega)).mp (Decidable.not_not.mp c_118)
            refine ps_st (S' := (123, [(0, .ref m0), (1, .int t), (4, .int (nI s)), (5, .int (nI d)), (6, .int (nI i))], [.int (nI i)], M1)) rfl rfl rfl ?_
            exact ps_reti rfl (⟨I1, R1, by
                rw [← hm, smeS_st (i := i) (by omega), if_pos (by omega)]
                rfl, hR1, hEI1, hER1, hl0⟩)
  refine ps_st (S' := (1, [(0, .ref m0), (1, .int t), (2, .int (nI x)), (3, .int (nI y))], [.ref m0], M)) rfl rfl rfl ?_
  refine ps_st (S' := (2, [(0, .ref m0), (1, .int t), (2, .int (nI x)), (3, .int (nI y))], [.int 0, .ref m0], M)) rfl rfl rfl ?_
  refine pr_put (j := 0) rfl hR rfl (fun M1 I2 hR3 hi4 hI5 => ?_)
  have hi6 := (hI5 18 (by decide)).trans hi18
  have hi7 := (hI5 51 (by decide)).trans hi51
  have hi8 := (hI5 52 (by decide)).trans hi52
  have hi9 := (hI5 53 (by decide)).trans hi53
  have hi10 := (hI5 26 (by decide)).trans hi26
  have hF_11 := hF.mono (pIx hI5 (by decide)) (fun _ _ => rfl)
  have hY_12 := hY.mono (pIx hI5 (by decide)) (fun _ _ => rfl)
  have hP_13 := hP.mono (pIx hI5 (by decide)) (fun _ _ => rfl)
  have hN9_14 := hN9.mono (pIx hI5 (by decide)) (fun _ _ => rfl)
  have hEI15 := hEI.put hI5 (by decide)
  show pl _ _ _ (5, [(0, .ref m0), (1, .int t), (2, .int (nI x)), (3, .int (nI y))], [], M1) _
  refine ps_st (S' := (6, [(0, .ref m0), (1, .int t), (2, .int (nI x)), (3, .int (nI y))], [.ref m0], M1)) rfl rfl rfl ?_
  refine pr_int (j := 18) (S' := (9, [(0, .ref m0), (1, .int t), (2, .int (nI x)), (3, .int (nI y))], [.int (nI n2)], M1)) rfl hR3 rfl hi6 rfl ?_
  refine ps_if (S1 := (30, [], [], M1)) (S2 := (12, [(0, .ref m0), (1, .int t), (2, .int (nI x)), (3, .int (nI y))], [], M1)) rfl rfl rfl (fun c_9 => ?_) (fun c_9 => ?_)
  · exact absurd (of_decide_eq_true c_9) (show ¬ ((nI n2) < 0) from fun h9 => absurd ((lt_nI (p := n2) (n := 0) (by omega) (by decide)).mp h9) (by omega))
  refine ps_st (S' := (13, [(0, .ref m0), (1, .int t), (2, .int (nI x)), (3, .int (nI y))], [.ref m0], M1)) rfl rfl rfl ?_
  refine ps_st (S' := (14, [(0, .ref m0), (1, .int t), (2, .int (nI x)), (3, .int (nI y))], [.int (nI x), .ref m0], M1)) rfl rfl rfl ?_
  refine pl_call (a := [.ref m0, .int (nI x)]) (rest := []) rfl rfl rfl (rd_tag (n := n) (f := f) (tx := tx) (cN := cN) (A := A) (N := N) (mj := mj) (E := E) (k := x) hR3 hi7 hi8 hi9 hF_11 hY_12 hP_13 (hEP) (hN) (hmj) (by omega)) (fun v16 M17 q18 => ?_)
  obtain ⟨rfl, rfl⟩ := q18
  show pl _ _ _ (17, [(0, .ref m0), (1, .int t), (2, .int (nI x)), (3, .int (nI y))], [.int (nI (tg f E x))], M1) _
  have htg_14 := tg_lt f E x
  refine ps_st (S' := (18, [(0, .ref m0), (1, .int t), (2, .int (nI x)), (3, .int (nI y))], [.int 1, .int (nI (tg f E x))], M1)) rfl rfl rfl ?_
  refine ps_if2 (S1 := (30, [], [], M1)) (S2 := (21, [(0, .ref m0), (1, .int t), (2, .int (nI x)), (3, .int (nI y))], [], M1)) rfl rfl rfl (fun c_18 => ?_) (fun c_18 => ?_)
  · exact absurd (of_decide_eq_true c_18) (fun h9 => h9 (by rw [hx1]; rfl))
  refine ps_st (S' := (22, [(0, .ref m0), (1, .int t), (2, .int (nI x)), (3, .int (nI y))], [.ref m0], M1)) rfl rfl rfl ?_
  refine ps_st (S' := (23, [(0, .ref m0), (1, .int t), (2, .int (nI x)), (3, .int (nI y))], [.int (nI y), .ref m0], M1)) rfl rfl rfl ?_
  refine pl_call (a := [.ref m0, .int (nI y)]) (rest := []) rfl rfl rfl (rd_tag (n := n) (f := f) (tx := tx) (cN := cN) (A := A) (N := N) (mj := mj) (E := E) (k := y) hR3 hi7 hi8 hi9 hF_11 hY_12 hP_13 (hEP) (hN) (hmj) (by omega)) (fun v19 M20 q21 => ?_)
  obtain ⟨rfl, rfl⟩ := q21
  show pl _ _ _ (26, [(0, .ref m0), (1, .int t), (2, .int (nI x)), (3, .int (nI y))], [.int (nI (tg f E y))], M1) _
  have htg_23 := tg_lt f E y
  refine ps_st (S' := (27, [(0, .ref m0), (1, .int t), (2, .int (nI x)), (3, .int (nI y))], [.int 1, .int (nI (tg f E y))], M1)) rfl rfl rfl ?_
  refine ps_if2 (S1 := (32, [(0, .ref m0), (1, .int t), (2, .int (nI x)), (3, .int (nI y))], [], M1)) (S2 := (30, [], [], M1)) rfl rfl rfl (fun c_27 => ?_) (fun c_27 => ?_)
  rotate_left
  · exact absurd (by rw [hy1]; rfl) (of_decide_eq_false c_27)
  refine ps_st (S' := (33, [(0, .ref m0), (1, .int t), (2, .int (nI x)), (3, .int (nI y))], [.ref m0], M1)) rfl rfl rfl ?_
  refine ps_st (S' := (34, [(0, .ref m0), (1, .int t), (2, .int (nI x)), (3, .int (nI y))], [.int (nI x), .ref m0], M1)) rfl rfl rfl ?_
  refine pl_call (a := [.ref m0, .int (nI x)]) (rest := []) rfl rfl rfl (rd_symOf (n := n) (f := f) (tx := tx) (cN := cN) (A := A) (N := N) (mj := mj) (E := E) (k := x) hR3 hi7 hi8 hi9 hF_11 hY_12 hP_13 (hEP) (hN) (hmj) (by omega)) (fun v22 M23 q24 => ?_)
  obtain ⟨s25, q34_s, rfl, rfl⟩ := q24
  show pl _ _ _ (37, [(0, .ref m0), (1, .int t), (2, .int (nI x)), (3, .int (nI y))], [.int (nI s25)], M1) _
  have hsl_34 := q34_s.1
  have htl_34 := hY_12.1.2.2.1
  refine ps_st (S' := (39, [(4, .int (nI s25)), (0, .ref m0), (1, .int t), (2, .int (nI x)), (3, .int (nI y))], [], M1)) rfl rfl rfl ?_
  refine ps_st (S' := (40, [(4, .int (nI s25)), (0, .ref m0), (1, .int t), (2, .int (nI x)), (3, .int (nI y))], [.ref m0], M1)) rfl rfl rfl ?_
  refine ps_st (S' := (41, [(4, .int (nI s25)), (0, .ref m0), (1, .int t), (2, .int (nI x)), (3, .int (nI y))], [.int (nI y), .ref m0], M1)) rfl rfl rfl ?_
  refine pl_call (a := [.ref m0, .int (nI y)]) (rest := []) rfl rfl rfl (rd_symOf (n := n) (f := f) (tx := tx) (cN := cN) (A := A) (N := N) (mj := mj) (E := E) (k := y) hR3 hi7 hi8 hi9 hF_11 hY_12 hP_13 (hEP) (hN) (hmj) (by omega)) (fun v26 M27 q28 => ?_)
  obtain ⟨s29, q41_s, rfl, rfl⟩ := q28
  show pl _ _ _ (44, [(4, .int (nI s25)), (0, .ref m0), (1, .int t), (2, .int (nI x)), (3, .int (nI y))], [.int (nI s29)], M1) _
  have hsl_41 := q41_s.1
  have htl_41 := hY_12.1.2.2.1
  refine ps_st (S' := (46, [(5, .int (nI s29)), (4, .int (nI s25)), (0, .ref m0), (1, .int t), (2, .int (nI x)), (3, .int (nI y))], [], M1)) rfl rfl rfl ?_
  refine ps_st (S' := (47, [(5, .int (nI s29)), (4, .int (nI s25)), (0, .ref m0), (1, .int t), (2, .int (nI x)), (3, .int (nI y))], [.int 0], M1)) rfl rfl rfl ?_
  refine ps_st (S' := (49, [(0, .ref m0), (1, .int t), (4, .int (nI s25)), (5, .int (nI s29)), (6, .int 0)], [], M1)) rfl rfl rfl ?_
  exact (LL kf) (s25) (s29) (0) M1 I2 R hR3 hEI15 hER hi4 hi10 hY_12 hN9_14 (q34_s) (q41_s) (by omega) (rfl)
theorem rd_find {g : xe_G} {m0 : Nat} {q : Nat → Nat} {z : Nat × Nat} {I : rI} {R : rR} {M : mi_H} {ko : Option (Nat × (Nat → Int32))} {t x y : Int32} (hR : RS g m0 q z I R M) (hK : KPR ko I R) : pt (mT g) 207 [.ref m0, .int t, .int x, .int y] M (fun v M' => ∃ (I' : rI) (R' : rR), v = some (.int (fdK ko t x y)) ∧ RS g m0 q z I' R' M' ∧ eqI [0] I I' ∧ eqR [] R R' ∧ I' 0 = some 0) := by
  cases ko with
  | none =>
    obtain ⟨kn, h1, h2⟩ := hK
    exact rd_find0 hR h1 h2
  | some r =>
    obtain ⟨h1, h2, -, -, tx, cN, A, E, N, mj, p1, pF, pM, pA, k1, k2, k3, k4, k5, k6, k7, rfl, rfl, m1, m2, m3, m4, m5, m6, -⟩ := hK
    rw [fdK_is k7]
    have hN := by2_lt r.2 8
    have hpl := whole_in k7
    have hEP := (EP_of hpl).1
    have h0 := tg_0 hpl
    unfold fdI
    by_cases hx1 : tg r.2 E x.toNatClampNeg = 1
    · by_cases hy1 : tg r.2 E y.toNatClampNeg = 1
      · rw [if_pos ⟨hx1, hy1⟩]
        have hlo : ∀ j, by2 r.2 8 ≤ j → tg r.2 E j = 0 := fun j hj => by
          unfold tg
          rw [lk_hi k3.1 (Or.inr hj)]
        obtain ⟨ex, lx⟩ := tg_nn (by omega) hlo h0 hx1
        obtain ⟨ey, ly⟩ := tg_nn (by omega) hlo h0 hy1
        obtain ⟨i, ei⟩ : ∃ i, i = x.toNatClampNeg := ⟨_, rfl⟩
        obtain ⟨j, ej⟩ : ∃ j, j = y.toNatClampNeg := ⟨_, rfl⟩
        rw [← ei] at ex lx hx1 ⊢
        rw [← ej] at ey ly hy1 ⊢
        subst ex
        subst ey
        by_cases ht : t = 0
        · rw [if_pos ht]
          exact rd_findF hR h1 k4 k5 k6 m1 k1 k2 k3 m3 hEP hN (by2_lt _ _) h2 lx ly hx1 hy1 (mbs_len m5) ht
        · rw [if_neg ht]
          exact rd_findM hR h1 k4 k5 k6 m2 k1 k2 k3 m4 hEP hN (by2_lt _ _) h2 lx ly hx1 hy1 (mbs_len m6) ht
      · rw [if_neg (fun q => hy1 q.2)]
        exact rd_findB hR h1 k4 k5 k6 k1 k2 k3 hEP hN (by2_lt _ _) h2 h0 hx1 hy1
    · rw [if_neg (fun q => hx1 q.1)]
      exact rd_findA hR h1 k4 k5 k6 k1 k2 k3 hEP hN (by2_lt _ _) h2 h0 hx1
end
section
/-! a bootstrap's parts, as both sides tell them (my own text) -/
section BSA
variable {f : Nat → Int32} {n : Nat} {E : List (Nat × Nat)}
/-- where the bootstrap number i is -/
def bsP (f : Nat → Int32) : Nat → Nat → Nat
  | 0, p => p
  | i + 1, p => bsP f i (p + 4 + 2 * by2 f (p + 2))
theorem bsP_st {c i p : Nat} (h : i < c) : bsP f (c - i) p = bsP f (c - (i + 1)) (p + 4 + 2 * by2 f (p + 2)) := by
  rw [show c - i = (c - (i + 1)) + 1 by omega]
  rfl
def bsV (f : Nat → Int32) (p u : Nat) : Int32 := if u = 0 then nI (by2 f p) else nI (by2 f (p + 2 + 2 * u))
def bsI (f : Nat → Int32) (bc bp : Nat) (i t : Int32) : Int32 := if i < 0 ∨ nI bc ≤ i then -1 else if t < 0 ∨ nI (by2 f (bsP f i.toNatClampNeg bp + 2)) < t then -1 else bsV f (bsP f i.toNatClampNeg bp) t.toNatClampNeg
/-- what is kept tells it -/
def bsK (ko : Option (Nat × (Nat → Int32))) (i t : Int32) : Int32 := match ko with
  | none => -1
  | some r => match s_whole r.2 r.1 with
    | .inl _ => -1
    | .inr w => match clS r.2 r.1 w.1 (by2 r.2 w.2.1) (by2 r.2 6) (by2 r.2 w.2.2.2.2) (w.2.2.2.2 + 2) 0 0 with
      | .inl _ => -1
      | .inr bc => bsI r.2 bc (clU r.2 r.1 w.1 (by2 r.2 6) (by2 r.2 w.2.2.2.2) (w.2.2.2.2 + 2) (0, 0, 0, 0, 0, -1)).2.1 i t
theorem bsK_is {r : Nat × (Nat → Int32)} {i t : Int32} {p1 pF pM pA bc : Nat} {K : KT} (h : s_whole r.2 r.1 = .inr (E, p1, pF, pM, pA)) (hB : clS r.2 r.1 E (by2 r.2 p1) (by2 r.2 6) (by2 r.2 pA) (pA + 2) 0 0 = .inr bc) (hU : clU r.2 r.1 E (by2 r.2 6) (by2 r.2 pA) (pA + 2) (0, 0, 0, 0, 0, -1) = K) : bsK (some r) i t = bsI r.2 bc K.2.1 i t := by
  show (match s_whole r.2 r.1 with | .inl _ => (-1 : Int32) | .inr w => match clS r.2 r.1 w.1 (by2 r.2 w.2.1) (by2 r.2 6) (by2 r.2 w.2.2.2.2) (w.2.2.2.2 + 2) 0 0 with | .inl _ => (-1 : Int32) | .inr bc => bsI r.2 bc (clU r.2 r.1 w.1 (by2 r.2 6) (by2 r.2 w.2.2.2.2) (w.2.2.2.2 + 2) (0, 0, 0, 0, 0, -1)).2.1 i t) = _
  rw [h]
  dsimp only
  rw [hB]
  dsimp only
  rw [hU]
/-- bootstraps lie well in the file -/
theorem cl_boot {x mj : Nat} : ∀ {c p s b b' e0 : Nat} {K : KT}, s_atts f n c p = .inr e0 → (b = 0 ∨ (8 ≤ K.2.1 ∧ ∃ e, e ≤ n ∧ s_bsE f e b K.2.1 = some e)) → clS f n E x mj c p s b = .inr b' → (b' = 0 ∨ (8 ≤ (clU f n E mj c p K).2.1 ∧ ∃ e, e ≤ n ∧ s_bsE f e b' (clU f n E mj c p K).2.1 = some e)) := by
  intro c
  induction c with
  | zero => intro p s b b' e0 K _ hb h; cases h; exact hb
  | succ c ih =>
    intro p s b b' e0 K ha hb h
    unfold s_atts at ha
    split at ha
    · cases ha
    · split at ha
      · cases ha
      · split at ha
        · cases ha
        · rename_i hn3
          unfold clS at h
          split at h
          · cases h
          · split at h
            · cases h
            · rename_i hfe
              split at h
              · cases h
              · cases h
              · refine ih (K := stU f (ckN f n E mj (by2 f p)) p K) ha ?_ h
                by_cases hk : ckN f n E mj (by2 f p) = 6
                · refine Or.inr ⟨by rw [show (stU f (ckN f n E mj (by2 f p)) p K).2.1 = p + 8 from if_pos hk]; omega, p + 6 + by4 f (p + 2), by omega, ?_⟩
                  have h1 : s_fe f (ckN f n E mj (by2 f p)) (p + 6) (p + 6 + by4 f (p + 2)) = some (p + 6 + by4 f (p + 2)) := Decidable.byContradiction (fun q => hfe ⟨by omega, q⟩)
                  rw [if_pos hk, show (stU f (ckN f n E mj (by2 f p)) p K).2.1 = p + 8 from if_pos hk]
                  exact (s_fe_in h1).2.2.2.2.1 hk
                · rw [if_neg hk, show (stU f (ckN f n E mj (by2 f p)) p K).2.1 = K.2.1 from if_neg hk]
                  exact hb
theorem cl_bt {x mj pA bc : Nat} {K : KT} (ha : s_attributes f n pA = .inr n) (hB : clS f n E x mj (by2 f pA) (pA + 2) 0 0 = .inr bc) (hU : clU f n E mj (by2 f pA) (pA + 2) (0, 0, 0, 0, 0, -1) = K) : bc = 0 ∨ (8 ≤ K.2.1 ∧ ∃ e, e ≤ n ∧ s_bsE f e bc K.2.1 = some e) := by
  rw [← hU]
  unfold s_attributes at ha
  split at ha
  · cases ha
  · exact cl_boot ha (Or.inl rfl) hB
end BSA
set_option maxHeartbeats 1000000 in
theorem dk_bsN {g : xe_G} {M : mi_H} {f : Nat → Int32} {n q c b da fr mr bc bp : Nat} {u2 u3 u4 u5 x8 x9 x10 x13 x14 x15 x16 : Int32} {i t : Int32} (h_c : M.1 c = some (ob 3 [.ref b, .ref q, .int u2, .int u3, .int u4, .int u5, .ref fr, .ref mr, .int x8, .int x9, .int x10, .int (nI bc), .int (nI bp), .int x13, .int x14, .int x15, .int x16])) (hi : i < 0 ∨ nI bc ≤ i) : pt (mT g) 70 [.ref c, .int i, .int t] M (fun v M' => (v = some (.int (-1)) ∧ M = M')) := by
  refine pt_in (b := mb_70 g) rfl (fun kf => ?_)
  show pl (mT g) kf (mb_70 g).2 (0, [(0, .ref c), (1, .int i), (2, .int t)], [], M) _
  refine ps_st (S' := (1, [(0, .ref c), (1, .int i), (2, .int t)], [.int i], M)) rfl rfl rfl ?_
  refine ps_if (S1 := (12, [], [], M)) (S2 := (4, [(0, .ref c), (1, .int i), (2, .int t)], [], M)) rfl rfl rfl (fun c_1 => ?_) (fun c_1 => ?_)
  · have c_1 : i < 0 := of_decide_eq_true c_1
    refine ps_st (S' := (13, [], [.int (-1)], M)) rfl rfl rfl ?_
    exact ps_ret rfl rfl (⟨rfl, rfl⟩)
  · have c_1 : ¬ (i < 0) := of_decide_eq_false c_1
    refine ps_st (S' := (5, [(0, .ref c), (1, .int i), (2, .int t)], [.int i], M)) rfl rfl rfl ?_
    refine ps_st (S' := (6, [(0, .ref c), (1, .int i), (2, .int t)], [.ref c, .int i], M)) rfl rfl rfl ?_
    refine ps_get (S' := (9, [(0, .ref c), (1, .int i), (2, .int t)], [.int (nI bc), .int i], M)) rfl h_c rfl rfl ?_
    refine ps_if2 (S1 := (14, [(0, .ref c), (1, .int i), (2, .int t)], [], M)) (S2 := (12, [], [], M)) rfl rfl rfl (fun c_9 => ?_) (fun c_9 => ?_)
    · exact absurd (of_decide_eq_true c_9) (Int32.not_lt.mpr (hi.resolve_left c_1))
    refine ps_st (S' := (13, [], [.int (-1)], M)) rfl rfl rfl ?_
    exact ps_ret rfl rfl (⟨rfl, rfl⟩)
set_option maxHeartbeats 1000000 in
theorem dk_bsB {g : xe_G} {M : mi_H} {f : Nat → Int32} {n q c b da fr mr bc bp : Nat} {u2 u3 u4 u5 x8 x9 x10 x13 x14 x15 x16 : Int32} {j e : Nat} {t : Int32} (h_c : M.1 c = some (ob 3 [.ref b, .ref q, .int u2, .int u3, .int u4, .int u5, .ref fr, .ref mr, .int x8, .int x9, .int x10, .int (nI bc), .int (nI bp), .int x13, .int x14, .int x15, .int x16])) (h_b : M.1 b = some (ob 1 [.ref da])) (h_da : M.1 da = some (ar .byte n f)) (hn : n ≤ 65540) (hbc : bc < 65536) (hj : j < bc) (he : e ≤ n) (hbs : s_bsE f e bc bp = some e) (hb9 : t < 0 ∨ nI (by2 f (bsP f j bp + 2)) < t) : pt (mT g) 70 [.ref c, .int (nI j), .int t] M (fun v M' => (v = some (.int (-1)) ∧ M = M')) := by
  refine pt_in (b := mb_70 g) rfl (fun kf => ?_)
  show pl (mT g) kf (mb_70 g).2 (0, [(0, .ref c), (1, .int (nI j)), (2, .int t)], [], M) _
  have hin8 := s_bsE_in (c := bc) (i := 0) (p := bp) hbs (by omega)
  have LL : ∀ (kf : Nat), (∀ (a p : Nat), (a ≤ j) → (s_bsE f e (bc - a) p = some e) → (bsP f (j - a) p = bsP f j bp) →  pl (mT g) kf (mb_70 g).2 (22, [(0, .ref c), (1, .int (nI j)), (2, .int t), (3, .int (nI p)), (4, .int (nI a))], [], M) (fun v M' => (v = some (.int (-1)) ∧ M = M'))) := by
    intro kf
    induction kf with
    | zero => exact (by intros; exact pl_0)
    | succ kf ih =>
      intro a p ha hf hp
      have hin9 := s_bsE_in (i := a) (p := p) hf (by omega)
      refine ps_st1 (S' := (24, [(0, .ref c), (1, .int (nI j)), (2, .int t), (3, .int (nI p)), (4, .int (nI a))], [.int (nI a)], M)) rfl rfl rfl ?_
      refine ps_st (S' := (25, [(0, .ref c), (1, .int (nI j)), (2, .int t), (3, .int (nI p)), (4, .int (nI a))], [.int (nI j), .int (nI a)], M)) rfl rfl rfl ?_
      refine ps_if2 (S1 := (51, [(0, .ref c), (1, .int (nI j)), (2, .int t), (3, .int (nI p)), (4, .int (nI a))], [], M)) (S2 := (28, [(0, .ref c), (1, .int (nI j)), (2, .int t), (3, .int (nI p)), (4, .int (nI a))], [], M)) rfl rfl rfl (fun c_25 => ?_) (fun c_25 => ?_)
      · have c_25 : (nI j) ≤ (nI a) := of_decide_eq_true c_25
        have n_25 : j ≤ a := (le_nI (p := j) (n := a) (by omega) (by omega)).mp c_25
        have eP : p = bsP f j bp := by rw [← hp, show j - a = 0 by omega]; rfl
        rw [← eP] at hb9
        refine ps_st (S' := (52, [(0, .ref c), (1, .int (nI j)), (2, .int t), (3, .int (nI p)), (4, .int (nI a))], [.int t], M)) rfl rfl rfl ?_
        refine ps_if (S1 := (69, [], [], M)) (S2 := (55, [(0, .ref c), (1, .int (nI j)), (2, .int t), (3, .int (nI p)), (4, .int (nI a))], [], M)) rfl rfl rfl (fun c_52 => ?_) (fun c_52 => ?_)
        · have c_52 : t < 0 := of_decide_eq_true c_52
          refine ps_st (S' := (70, [], [.int (-1)], M)) rfl rfl rfl ?_
          exact ps_ret rfl rfl (⟨rfl, rfl⟩)
        · have c_52 : ¬ (t < 0) := of_decide_eq_false c_52
          refine ps_st (S' := (56, [(0, .ref c), (1, .int (nI j)), (2, .int t), (3, .int (nI p)), (4, .int (nI a))], [.int t], M)) rfl rfl rfl ?_
          refine ps_st (S' := (57, [(0, .ref c), (1, .int (nI j)), (2, .int t), (3, .int (nI p)), (4, .int (nI a))], [.ref c, .int t], M)) rfl rfl rfl ?_
          refine ps_get (S' := (60, [(0, .ref c), (1, .int (nI j)), (2, .int t), (3, .int (nI p)), (4, .int (nI a))], [.ref b, .int t], M)) rfl h_c rfl rfl ?_
          refine ps_st (S' := (61, [(0, .ref c), (1, .int (nI j)), (2, .int t), (3, .int (nI p)), (4, .int (nI a))], [.int (nI p), .ref b, .int t], M)) rfl rfl rfl ?_
          refine ps_st (S' := (62, [(0, .ref c), (1, .int (nI j)), (2, .int t), (3, .int (nI p)), (4, .int (nI a))], [.int 2, .int (nI p), .ref b, .int t], M)) rfl rfl rfl ?_
          refine ps_st (S' := (63, [(0, .ref c), (1, .int (nI j)), (2, .int t), (3, .int (nI p)), (4, .int (nI a))], [.int ((nI p) + 2), .ref b, .int t], M)) rfl rfl rfl ?_
          rw [nI_add1 (p := p) (k := 2) (x := 2) rfl (by omega)]
          show pl _ _ _ (_, [(0, .ref c), (1, .int (nI j)), (2, .int t), (3, .int (nI p)), (4, .int (nI a))], [.int (nI (p + 2)), .ref b, .int t], M) _
          refine pl_call (a := [.ref b, .int (nI (p + 2))]) (rest := [.int t]) rfl rfl rfl (dk_u2 (f := f) (n := n) (b := b) (da := da) (p := (p + 2)) h_b h_da (hn) (by omega)) (fun v1 M2 q3 => ?_)
          obtain ⟨rfl, rfl⟩ := q3
          show pl _ _ _ (66, [(0, .ref c), (1, .int (nI j)), (2, .int t), (3, .int (nI p)), (4, .int (nI a))], [.int (nI (by2 f (p + 2))), .int t], M) _
          have hu_63 := by2_lt f (p + 2)
          refine ps_if2 (S1 := (71, [(0, .ref c), (1, .int (nI j)), (2, .int t), (3, .int (nI p)), (4, .int (nI a))], [], M)) (S2 := (69, [], [], M)) rfl rfl rfl (fun c_66 => ?_) (fun c_66 => ?_)
          · exact absurd (of_decide_eq_true c_66) (Int32.not_le.mpr (hb9.resolve_left c_52))
          refine ps_st (S' := (70, [], [.int (-1)], M)) rfl rfl rfl ?_
          exact ps_ret rfl rfl (⟨rfl, rfl⟩)
      · have c_25 : ¬ ((nI j) ≤ (nI a)) := of_decide_eq_false c_25
        have n_25 : ¬ (j ≤ a) := fun h9 => c_25 ((le_nI (p := j) (n := a) (by omega) (by omega)).mpr h9)
        refine ps_st (S' := (29, [(0, .ref c), (1, .int (nI j)), (2, .int t), (3, .int (nI p)), (4, .int (nI a))], [.int (nI p)], M)) rfl rfl rfl ?_
        refine ps_st (S' := (30, [(0, .ref c), (1, .int (nI j)), (2, .int t), (3, .int (nI p)), (4, .int (nI a))], [.int 4, .int (nI p)], M)) rfl rfl rfl ?_
        refine ps_st (S' := (31, [(0, .ref c), (1, .int (nI j)), (2, .int t), (3, .int (nI p)), (4, .int (nI a))], [.int 2, .int 4, .int (nI p)], M)) rfl rfl rfl ?_
        refine ps_st (S' := (32, [(0, .ref c), (1, .int (nI j)), (2, .int t), (3, .int (nI p)), (4, .int (nI a))], [.ref c, .int 2, .int 4, .int (nI p)], M)) rfl rfl rfl ?_
        refine ps_get (S' := (35, [(0, .ref c), (1, .int (nI j)), (2, .int t), (3, .int (nI p)), (4, .int (nI a))], [.ref b, .int 2, .int 4, .int (nI p)], M)) rfl h_c rfl rfl ?_
        refine ps_st (S' := (36, [(0, .ref c), (1, .int (nI j)), (2, .int t), (3, .int (nI p)), (4, .int (nI a))], [.int (nI p), .ref b, .int 2, .int 4, .int (nI p)], M)) rfl rfl rfl ?_
        refine ps_st (S' := (37, [(0, .ref c), (1, .int (nI j)), (2, .int t), (3, .int (nI p)), (4, .int (nI a))], [.int 2, .int (nI p), .ref b, .int 2, .int 4, .int (nI p)], M)) rfl rfl rfl ?_
        refine ps_st (S' := (38, [(0, .ref c), (1, .int (nI j)), (2, .int t), (3, .int (nI p)), (4, .int (nI a))], [.int ((nI p) + 2), .ref b, .int 2, .int 4, .int (nI p)], M)) rfl rfl rfl ?_
        rw [nI_add1 (p := p) (k := 2) (x := 2) rfl (by omega)]
        show pl _ _ _ (_, [(0, .ref c), (1, .int (nI j)), (2, .int t), (3, .int (nI p)), (4, .int (nI a))], [.int (nI (p + 2)), .ref b, .int 2, .int 4, .int (nI p)], M) _
        refine pl_call (a := [.ref b, .int (nI (p + 2))]) (rest := [.int 2, .int 4, .int (nI p)]) rfl rfl rfl (dk_u2 (f := f) (n := n) (b := b) (da := da) (p := (p + 2)) h_b h_da (hn) (by omega)) (fun v4 M5 q6 => ?_)
        obtain ⟨rfl, rfl⟩ := q6
        show pl _ _ _ (41, [(0, .ref c), (1, .int (nI j)), (2, .int t), (3, .int (nI p)), (4, .int (nI a))], [.int (nI (by2 f (p + 2))), .int 2, .int 4, .int (nI p)], M) _
        have hu_38 := by2_lt f (p + 2)
        refine ps_st (S' := (42, [(0, .ref c), (1, .int (nI j)), (2, .int t), (3, .int (nI p)), (4, .int (nI a))], [.int (2 * (nI (by2 f (p + 2)))), .int 4, .int (nI p)], M)) rfl rfl rfl ?_
        rw [nI_mul1 (p := 2) (k := by2 f (p + 2)) (x := 2) (y := (nI (by2 f (p + 2)))) rfl rfl (by omega)]
        show pl _ _ _ (_, [(0, .ref c), (1, .int (nI j)), (2, .int t), (3, .int (nI p)), (4, .int (nI a))], [.int (nI (2 * (by2 f (p + 2)))), .int 4, .int (nI p)], M) _
        refine ps_st (S' := (43, [(0, .ref c), (1, .int (nI j)), (2, .int t), (3, .int (nI p)), (4, .int (nI a))], [.int (4 + (nI (2 * (by2 f (p + 2))))), .int (nI p)], M)) rfl rfl rfl ?_
        rw [nI_add2 (p := 4) (k := 2 * (by2 f (p + 2))) (x := 4) (y := (nI (2 * (by2 f (p + 2))))) rfl rfl (by omega)]
        show pl _ _ _ (_, [(0, .ref c), (1, .int (nI j)), (2, .int t), (3, .int (nI p)), (4, .int (nI a))], [.int (nI (4 + 2 * (by2 f (p + 2)))), .int (nI p)], M) _
        refine ps_st (S' := (44, [(0, .ref c), (1, .int (nI j)), (2, .int t), (3, .int (nI p)), (4, .int (nI a))], [.int ((nI p) + (nI (4 + 2 * (by2 f (p + 2)))))], M)) rfl rfl rfl ?_
        rw [nI_add1 (p := p) (k := 4 + 2 * (by2 f (p + 2))) (x := (nI (4 + 2 * (by2 f (p + 2))))) rfl (by omega)]
        rw [show nI (p + (4 + 2 * (by2 f (p + 2)))) = nI (p + 4 + 2 * (by2 f (p + 2))) from congrArg nI (by omega)]
        show pl _ _ _ (_, [(0, .ref c), (1, .int (nI j)), (2, .int t), (3, .int (nI p)), (4, .int (nI a))], [.int (nI (p + 4 + 2 * (by2 f (p + 2))))], M) _
        refine ps_st (S' := (45, [(3, .int (nI (p + 4 + 2 * (by2 f (p + 2))))), (0, .ref c), (1, .int (nI j)), (2, .int t), (4, .int (nI a))], [], M)) rfl rfl rfl ?_
        refine ps_st (S' := (48, [(4, .int ((nI a) + 1)), (3, .int (nI (p + 4 + 2 * (by2 f (p + 2))))), (0, .ref c), (1, .int (nI j)), (2, .int t)], [], M)) rfl rfl rfl ?_
        rw [nI_add1 (p := a) (k := 1) (x := 1) rfl (by omega)]
        show pl _ _ _ (_, [(4, .int (nI (a + 1))), (3, .int (nI (p + 4 + 2 * (by2 f (p + 2))))), (0, .ref c), (1, .int (nI j)), (2, .int t)], [], M) _
        refine ps_st (S' := (22, [(0, .ref c), (1, .int (nI j)), (2, .int t), (3, .int (nI (p + 4 + 2 * (by2 f (p + 2))))), (4, .int (nI (a + 1)))], [], M)) rfl rfl rfl ?_
        exact ih (a + 1) (p + 4 + 2 * by2 f (p + 2))  (by omega) (hin9.2.2) (by
            rw [← hp, bsP_st (i := a) (by omega)])
  refine ps_st (S' := (1, [(0, .ref c), (1, .int (nI j)), (2, .int t)], [.int (nI j)], M)) rfl rfl rfl ?_
  refine ps_if (S1 := (12, [], [], M)) (S2 := (4, [(0, .ref c), (1, .int (nI j)), (2, .int t)], [], M)) rfl rfl rfl (fun c_1 => ?_) (fun c_1 => ?_)
  · exact absurd (of_decide_eq_true c_1) (show ¬ ((nI j) < 0) from fun h9 => absurd ((lt_nI (p := j) (n := 0) (by omega) (by decide)).mp h9) (by omega))
  refine ps_st (S' := (5, [(0, .ref c), (1, .int (nI j)), (2, .int t)], [.int (nI j)], M)) rfl rfl rfl ?_
  refine ps_st (S' := (6, [(0, .ref c), (1, .int (nI j)), (2, .int t)], [.ref c, .int (nI j)], M)) rfl rfl rfl ?_
  refine ps_get (S' := (9, [(0, .ref c), (1, .int (nI j)), (2, .int t)], [.int (nI bc), .int (nI j)], M)) rfl h_c rfl rfl ?_
  refine ps_if2 (S1 := (14, [(0, .ref c), (1, .int (nI j)), (2, .int t)], [], M)) (S2 := (12, [], [], M)) rfl rfl rfl (fun c_9 => ?_) (fun c_9 => ?_)
  rotate_left
  · exact absurd ((lt_nI (by omega) (by omega)).mpr hj) (of_decide_eq_false c_9)
  refine ps_st (S' := (15, [(0, .ref c), (1, .int (nI j)), (2, .int t)], [.ref c], M)) rfl rfl rfl ?_
  refine ps_get (S' := (18, [(0, .ref c), (1, .int (nI j)), (2, .int t)], [.int (nI bp)], M)) rfl h_c rfl rfl ?_
  refine ps_st (S' := (19, [(3, .int (nI bp)), (0, .ref c), (1, .int (nI j)), (2, .int t)], [], M)) rfl rfl rfl ?_
  refine ps_st (S' := (20, [(3, .int (nI bp)), (0, .ref c), (1, .int (nI j)), (2, .int t)], [.int 0], M)) rfl rfl rfl ?_
  refine ps_st (S' := (22, [(0, .ref c), (1, .int (nI j)), (2, .int t), (3, .int (nI bp)), (4, .int 0)], [], M)) rfl rfl rfl ?_
  exact (LL kf) (0) (bp)  (by omega) (hbs) (rfl)
set_option maxHeartbeats 1000000 in
theorem dk_bsG {g : xe_G} {M : mi_H} {f : Nat → Int32} {n q c b da fr mr bc bp : Nat} {u2 u3 u4 u5 x8 x9 x10 x13 x14 x15 x16 : Int32} {j e u : Nat} (h_c : M.1 c = some (ob 3 [.ref b, .ref q, .int u2, .int u3, .int u4, .int u5, .ref fr, .ref mr, .int x8, .int x9, .int x10, .int (nI bc), .int (nI bp), .int x13, .int x14, .int x15, .int x16])) (h_b : M.1 b = some (ob 1 [.ref da])) (h_da : M.1 da = some (ar .byte n f)) (hn : n ≤ 65540) (hbc : bc < 65536) (hj : j < bc) (he : e ≤ n) (hbs : s_bsE f e bc bp = some e) (hu : u ≤ by2 f (bsP f j bp + 2)) : pt (mT g) 70 [.ref c, .int (nI j), .int (nI u)] M (fun v M' => (v = some (.int (bsV f (bsP f j bp) u)) ∧ M = M')) := by
  refine pt_in (b := mb_70 g) rfl (fun kf => ?_)
  show pl (mT g) kf (mb_70 g).2 (0, [(0, .ref c), (1, .int (nI j)), (2, .int (nI u))], [], M) _
  have hin8 := s_bsE_in (c := bc) (i := 0) (p := bp) hbs (by omega)
  have hu7 := by2_lt f (bsP f j bp + 2)
  have LL : ∀ (kf : Nat), (∀ (a p : Nat), (a ≤ j) → (s_bsE f e (bc - a) p = some e) → (bsP f (j - a) p = bsP f j bp) →  pl (mT g) kf (mb_70 g).2 (22, [(0, .ref c), (1, .int (nI j)), (2, .int (nI u)), (3, .int (nI p)), (4, .int (nI a))], [], M) (fun v M' => (v = some (.int (bsV f (bsP f j bp) u)) ∧ M = M'))) := by
    intro kf
    induction kf with
    | zero => exact (by intros; exact pl_0)
    | succ kf ih =>
      intro a p ha hf hp
      have hin9 := s_bsE_in (i := a) (p := p) hf (by omega)
      refine ps_st1 (S' := (24, [(0, .ref c), (1, .int (nI j)), (2, .int (nI u)), (3, .int (nI p)), (4, .int (nI a))], [.int (nI a)], M)) rfl rfl rfl ?_
      refine ps_st (S' := (25, [(0, .ref c), (1, .int (nI j)), (2, .int (nI u)), (3, .int (nI p)), (4, .int (nI a))], [.int (nI j), .int (nI a)], M)) rfl rfl rfl ?_
      refine ps_if2 (S1 := (51, [(0, .ref c), (1, .int (nI j)), (2, .int (nI u)), (3, .int (nI p)), (4, .int (nI a))], [], M)) (S2 := (28, [(0, .ref c), (1, .int (nI j)), (2, .int (nI u)), (3, .int (nI p)), (4, .int (nI a))], [], M)) rfl rfl rfl (fun c_25 => ?_) (fun c_25 => ?_)
      · have c_25 : (nI j) ≤ (nI a) := of_decide_eq_true c_25
        have n_25 : j ≤ a := (le_nI (p := j) (n := a) (by omega) (by omega)).mp c_25
        have eP : p = bsP f j bp := by rw [← hp, show j - a = 0 by omega]; rfl
        rw [← eP] at hu
        have hu8 := by2_lt f (p + 2)
        refine ps_st (S' := (52, [(0, .ref c), (1, .int (nI j)), (2, .int (nI u)), (3, .int (nI p)), (4, .int (nI a))], [.int (nI u)], M)) rfl rfl rfl ?_
        refine ps_if (S1 := (69, [], [], M)) (S2 := (55, [(0, .ref c), (1, .int (nI j)), (2, .int (nI u)), (3, .int (nI p)), (4, .int (nI a))], [], M)) rfl rfl rfl (fun c_52 => ?_) (fun c_52 => ?_)
        · exact absurd (of_decide_eq_true c_52) (show ¬ ((nI u) < 0) from fun h9 => absurd ((lt_nI (p := u) (n := 0) (by omega) (by decide)).mp h9) (by omega))
        refine ps_st (S' := (56, [(0, .ref c), (1, .int (nI j)), (2, .int (nI u)), (3, .int (nI p)), (4, .int (nI a))], [.int (nI u)], M)) rfl rfl rfl ?_
        refine ps_st (S' := (57, [(0, .ref c), (1, .int (nI j)), (2, .int (nI u)), (3, .int (nI p)), (4, .int (nI a))], [.ref c, .int (nI u)], M)) rfl rfl rfl ?_
        refine ps_get (S' := (60, [(0, .ref c), (1, .int (nI j)), (2, .int (nI u)), (3, .int (nI p)), (4, .int (nI a))], [.ref b, .int (nI u)], M)) rfl h_c rfl rfl ?_
        refine ps_st (S' := (61, [(0, .ref c), (1, .int (nI j)), (2, .int (nI u)), (3, .int (nI p)), (4, .int (nI a))], [.int (nI p), .ref b, .int (nI u)], M)) rfl rfl rfl ?_
        refine ps_st (S' := (62, [(0, .ref c), (1, .int (nI j)), (2, .int (nI u)), (3, .int (nI p)), (4, .int (nI a))], [.int 2, .int (nI p), .ref b, .int (nI u)], M)) rfl rfl rfl ?_
        refine ps_st (S' := (63, [(0, .ref c), (1, .int (nI j)), (2, .int (nI u)), (3, .int (nI p)), (4, .int (nI a))], [.int ((nI p) + 2), .ref b, .int (nI u)], M)) rfl rfl rfl ?_
        rw [nI_add1 (p := p) (k := 2) (x := 2) rfl (by omega)]
        show pl _ _ _ (_, [(0, .ref c), (1, .int (nI j)), (2, .int (nI u)), (3, .int (nI p)), (4, .int (nI a))], [.int (nI (p + 2)), .ref b, .int (nI u)], M) _
        refine pl_call (a := [.ref b, .int (nI (p + 2))]) (rest := [.int (nI u)]) rfl rfl rfl (dk_u2 (f := f) (n := n) (b := b) (da := da) (p := (p + 2)) h_b h_da (hn) (by omega)) (fun v1 M2 q3 => ?_)
        obtain ⟨rfl, rfl⟩ := q3
        show pl _ _ _ (66, [(0, .ref c), (1, .int (nI j)), (2, .int (nI u)), (3, .int (nI p)), (4, .int (nI a))], [.int (nI (by2 f (p + 2))), .int (nI u)], M) _
        have hu_63 := by2_lt f (p + 2)
        refine ps_if2 (S1 := (71, [(0, .ref c), (1, .int (nI j)), (2, .int (nI u)), (3, .int (nI p)), (4, .int (nI a))], [], M)) (S2 := (69, [], [], M)) rfl rfl rfl (fun c_66 => ?_) (fun c_66 => ?_)
        rotate_left
        · exact absurd ((le_nI (p := u) (n := by2 f (p + 2)) (by omega) (Nat.lt_trans (by2_lt _ _) (by decide))).mpr hu) (of_decide_eq_false c_66)
        refine ps_st (S' := (72, [(0, .ref c), (1, .int (nI j)), (2, .int (nI u)), (3, .int (nI p)), (4, .int (nI a))], [.ref c], M)) rfl rfl rfl ?_
        refine ps_get (S' := (75, [(0, .ref c), (1, .int (nI j)), (2, .int (nI u)), (3, .int (nI p)), (4, .int (nI a))], [.ref b], M)) rfl h_c rfl rfl ?_
        refine ps_st (S' := (76, [(0, .ref c), (1, .int (nI j)), (2, .int (nI u)), (3, .int (nI p)), (4, .int (nI a))], [.int (nI u), .ref b], M)) rfl rfl rfl ?_
        refine ps_if (S1 := (83, [(0, .ref c), (1, .int (nI j)), (2, .int (nI u)), (3, .int (nI p)), (4, .int (nI a))], [.ref b], M)) (S2 := (79, [(0, .ref c), (1, .int (nI j)), (2, .int (nI u)), (3, .int (nI p)), (4, .int (nI a))], [.ref b], M)) rfl rfl rfl (fun c_76 => ?_) (fun c_76 => ?_)
        · have c_76 : ¬ (nI u) = 0 := of_decide_eq_true c_76
          have n_76 : ¬ (u = 0) := fun h9 => c_76 ((eq_nI (p := u) (n := 0) (by omega) (by decide)).mpr h9)
          refine ps_st (S' := (84, [(0, .ref c), (1, .int (nI j)), (2, .int (nI u)), (3, .int (nI p)), (4, .int (nI a))], [.int (nI p), .ref b], M)) rfl rfl rfl ?_
          refine ps_st (S' := (85, [(0, .ref c), (1, .int (nI j)), (2, .int (nI u)), (3, .int (nI p)), (4, .int (nI a))], [.int 2, .int (nI p), .ref b], M)) rfl rfl rfl ?_
          refine ps_st (S' := (86, [(0, .ref c), (1, .int (nI j)), (2, .int (nI u)), (3, .int (nI p)), (4, .int (nI a))], [.int ((nI p) + 2), .ref b], M)) rfl rfl rfl ?_
          rw [nI_add1 (p := p) (k := 2) (x := 2) rfl (by omega)]
          show pl _ _ _ (_, [(0, .ref c), (1, .int (nI j)), (2, .int (nI u)), (3, .int (nI p)), (4, .int (nI a))], [.int (nI (p + 2)), .ref b], M) _
          refine ps_st (S' := (87, [(0, .ref c), (1, .int (nI j)), (2, .int (nI u)), (3, .int (nI p)), (4, .int (nI a))], [.int 2, .int (nI (p + 2)), .ref b], M)) rfl rfl rfl ?_
          refine ps_st (S' := (88, [(0, .ref c), (1, .int (nI j)), (2, .int (nI u)), (3, .int (nI p)), (4, .int (nI a))], [.int (nI u), .int 2, .int (nI (p + 2)), .ref b], M)) rfl rfl rfl ?_
          refine ps_st (S' := (89, [(0, .ref c), (1, .int (nI j)), (2, .int (nI u)), (3, .int (nI p)), (4, .int (nI a))], [.int (2 * (nI u)), .int (nI (p + 2)), .ref b], M)) rfl rfl rfl ?_
          rw [nI_mul1 (p := 2) (k := u) (x := 2) (y := (nI u)) rfl rfl (by omega)]
          show pl _ _ _ (_, [(0, .ref c), (1, .int (nI j)), (2, .int (nI u)), (3, .int (nI p)), (4, .int (nI a))], [.int (nI (2 * u)), .int (nI (p + 2)), .ref b], M) _
          refine ps_st (S' := (90, [], [.int ((nI (p + 2)) + (nI (2 * u))), .ref b], M)) rfl rfl rfl ?_
          rw [nI_add1 (p := p + 2) (k := 2 * u) (x := (nI (2 * u))) rfl (by omega)]
          show pl _ _ _ (_, [], [.int (nI (p + 2 + 2 * u)), .ref b], M) _
          refine pl_call (a := [.ref b, .int (nI (p + 2 + 2 * u))]) (rest := []) rfl rfl rfl (dk_u2 (f := f) (n := n) (b := b) (da := da) (p := (p + 2 + 2 * u)) h_b h_da (hn) (by omega)) (fun v4 M5 q6 => ?_)
          obtain ⟨rfl, rfl⟩ := q6
          show pl _ _ _ (93, [], [.int (nI (by2 f (p + 2 + 2 * u)))], M) _
          have hu_90 := by2_lt f (p + 2 + 2 * u)
          exact ps_reti rfl (⟨congrArg (fun x => some (Value.int x)) (show (nI (by2 f (p + 2 + 2 * u))) = bsV f (bsP f j bp) u from by rw [← eP]; unfold bsV; rw [if_neg (by omega)]), rfl⟩)
        · have c_76 : ¬ (¬ (nI u) = 0) := of_decide_eq_false c_76
          have n_76 : u = 0 := (eq_nI (p := u) (n := 0) (by omega) (by decide)).mp (Decidable.not_not.mp c_76)
          refine ps_st (S' := (80, [(0, .ref c), (1, .int (nI j)), (2, .int (nI u)), (3, .int (nI p)), (4, .int (nI a))], [.int (nI p), .ref b], M)) rfl rfl rfl ?_
          refine ps_st (S' := (90, [], [.int (nI p), .ref b], M)) rfl rfl rfl ?_
          refine pl_call (a := [.ref b, .int (nI p)]) (rest := []) rfl rfl rfl (dk_u2 (f := f) (n := n) (b := b) (da := da) (p := (p)) h_b h_da (hn) (by omega)) (fun v7 M8 q9 => ?_)
          obtain ⟨rfl, rfl⟩ := q9
          show pl _ _ _ (93, [], [.int (nI (by2 f (p)))], M) _
          have hu_90 := by2_lt f (p)
          exact ps_reti rfl (⟨congrArg (fun x => some (Value.int x)) (show (nI (by2 f (p))) = bsV f (bsP f j bp) u from by rw [← eP]; unfold bsV; rw [if_pos (by omega)]), rfl⟩)
      · have c_25 : ¬ ((nI j) ≤ (nI a)) := of_decide_eq_false c_25
        have n_25 : ¬ (j ≤ a) := fun h9 => c_25 ((le_nI (p := j) (n := a) (by omega) (by omega)).mpr h9)
        refine ps_st (S' := (29, [(0, .ref c), (1, .int (nI j)), (2, .int (nI u)), (3, .int (nI p)), (4, .int (nI a))], [.int (nI p)], M)) rfl rfl rfl ?_
        refine ps_st (S' := (30, [(0, .ref c), (1, .int (nI j)), (2, .int (nI u)), (3, .int (nI p)), (4, .int (nI a))], [.int 4, .int (nI p)], M)) rfl rfl rfl ?_
        refine ps_st (S' := (31, [(0, .ref c), (1, .int (nI j)), (2, .int (nI u)), (3, .int (nI p)), (4, .int (nI a))], [.int 2, .int 4, .int (nI p)], M)) rfl rfl rfl ?_
        refine ps_st (S' := (32, [(0, .ref c), (1, .int (nI j)), (2, .int (nI u)), (3, .int (nI p)), (4, .int (nI a))], [.ref c, .int 2, .int 4, .int (nI p)], M)) rfl rfl rfl ?_
        refine ps_get (S' := (35, [(0, .ref c), (1, .int (nI j)), (2, .int (nI u)), (3, .int (nI p)), (4, .int (nI a))], [.ref b, .int 2, .int 4, .int (nI p)], M)) rfl h_c rfl rfl ?_
        refine ps_st (S' := (36, [(0, .ref c), (1, .int (nI j)), (2, .int (nI u)), (3, .int (nI p)), (4, .int (nI a))], [.int (nI p), .ref b, .int 2, .int 4, .int (nI p)], M)) rfl rfl rfl ?_
        refine ps_st (S' := (37, [(0, .ref c), (1, .int (nI j)), (2, .int (nI u)), (3, .int (nI p)), (4, .int (nI a))], [.int 2, .int (nI p), .ref b, .int 2, .int 4, .int (nI p)], M)) rfl rfl rfl ?_
        refine ps_st (S' := (38, [(0, .ref c), (1, .int (nI j)), (2, .int (nI u)), (3, .int (nI p)), (4, .int (nI a))], [.int ((nI p) + 2), .ref b, .int 2, .int 4, .int (nI p)], M)) rfl rfl rfl ?_
        rw [nI_add1 (p := p) (k := 2) (x := 2) rfl (by omega)]
        show pl _ _ _ (_, [(0, .ref c), (1, .int (nI j)), (2, .int (nI u)), (3, .int (nI p)), (4, .int (nI a))], [.int (nI (p + 2)), .ref b, .int 2, .int 4, .int (nI p)], M) _
        refine pl_call (a := [.ref b, .int (nI (p + 2))]) (rest := [.int 2, .int 4, .int (nI p)]) rfl rfl rfl (dk_u2 (f := f) (n := n) (b := b) (da := da) (p := (p + 2)) h_b h_da (hn) (by omega)) (fun v10 M11 q12 => ?_)
        obtain ⟨rfl, rfl⟩ := q12
        show pl _ _ _ (41, [(0, .ref c), (1, .int (nI j)), (2, .int (nI u)), (3, .int (nI p)), (4, .int (nI a))], [.int (nI (by2 f (p + 2))), .int 2, .int 4, .int (nI p)], M) _
        have hu_38 := by2_lt f (p + 2)
        refine ps_st (S' := (42, [(0, .ref c), (1, .int (nI j)), (2, .int (nI u)), (3, .int (nI p)), (4, .int (nI a))], [.int (2 * (nI (by2 f (p + 2)))), .int 4, .int (nI p)], M)) rfl rfl rfl ?_
        rw [nI_mul1 (p := 2) (k := by2 f (p + 2)) (x := 2) (y := (nI (by2 f (p + 2)))) rfl rfl (by omega)]
        show pl _ _ _ (_, [(0, .ref c), (1, .int (nI j)), (2, .int (nI u)), (3, .int (nI p)), (4, .int (nI a))], [.int (nI (2 * (by2 f (p + 2)))), .int 4, .int (nI p)], M) _
        refine ps_st (S' := (43, [(0, .ref c), (1, .int (nI j)), (2, .int (nI u)), (3, .int (nI p)), (4, .int (nI a))], [.int (4 + (nI (2 * (by2 f (p + 2))))), .int (nI p)], M)) rfl rfl rfl ?_
        rw [nI_add2 (p := 4) (k := 2 * (by2 f (p + 2))) (x := 4) (y := (nI (2 * (by2 f (p + 2))))) rfl rfl (by omega)]
        show pl _ _ _ (_, [(0, .ref c), (1, .int (nI j)), (2, .int (nI u)), (3, .int (nI p)), (4, .int (nI a))], [.int (nI (4 + 2 * (by2 f (p + 2)))), .int (nI p)], M) _
        refine ps_st (S' := (44, [(0, .ref c), (1, .int (nI j)), (2, .int (nI u)), (3, .int (nI p)), (4, .int (nI a))], [.int ((nI p) + (nI (4 + 2 * (by2 f (p + 2)))))], M)) rfl rfl rfl ?_
        rw [nI_add1 (p := p) (k := 4 + 2 * (by2 f (p + 2))) (x := (nI (4 + 2 * (by2 f (p + 2))))) rfl (by omega)]
        rw [show nI (p + (4 + 2 * (by2 f (p + 2)))) = nI (p + 4 + 2 * (by2 f (p + 2))) from congrArg nI (by omega)]
        show pl _ _ _ (_, [(0, .ref c), (1, .int (nI j)), (2, .int (nI u)), (3, .int (nI p)), (4, .int (nI a))], [.int (nI (p + 4 + 2 * (by2 f (p + 2))))], M) _
        refine ps_st (S' := (45, [(3, .int (nI (p + 4 + 2 * (by2 f (p + 2))))), (0, .ref c), (1, .int (nI j)), (2, .int (nI u)), (4, .int (nI a))], [], M)) rfl rfl rfl ?_
        refine ps_st (S' := (48, [(4, .int ((nI a) + 1)), (3, .int (nI (p + 4 + 2 * (by2 f (p + 2))))), (0, .ref c), (1, .int (nI j)), (2, .int (nI u))], [], M)) rfl rfl rfl ?_
        rw [nI_add1 (p := a) (k := 1) (x := 1) rfl (by omega)]
        show pl _ _ _ (_, [(4, .int (nI (a + 1))), (3, .int (nI (p + 4 + 2 * (by2 f (p + 2))))), (0, .ref c), (1, .int (nI j)), (2, .int (nI u))], [], M) _
        refine ps_st (S' := (22, [(0, .ref c), (1, .int (nI j)), (2, .int (nI u)), (3, .int (nI (p + 4 + 2 * (by2 f (p + 2))))), (4, .int (nI (a + 1)))], [], M)) rfl rfl rfl ?_
        exact ih (a + 1) (p + 4 + 2 * by2 f (p + 2))  (by omega) (hin9.2.2) (by
            rw [← hp, bsP_st (i := a) (by omega)])
  refine ps_st (S' := (1, [(0, .ref c), (1, .int (nI j)), (2, .int (nI u))], [.int (nI j)], M)) rfl rfl rfl ?_
  refine ps_if (S1 := (12, [], [], M)) (S2 := (4, [(0, .ref c), (1, .int (nI j)), (2, .int (nI u))], [], M)) rfl rfl rfl (fun c_1 => ?_) (fun c_1 => ?_)
  · exact absurd (of_decide_eq_true c_1) (show ¬ ((nI j) < 0) from fun h9 => absurd ((lt_nI (p := j) (n := 0) (by omega) (by decide)).mp h9) (by omega))
  refine ps_st (S' := (5, [(0, .ref c), (1, .int (nI j)), (2, .int (nI u))], [.int (nI j)], M)) rfl rfl rfl ?_
  refine ps_st (S' := (6, [(0, .ref c), (1, .int (nI j)), (2, .int (nI u))], [.ref c, .int (nI j)], M)) rfl rfl rfl ?_
  refine ps_get (S' := (9, [(0, .ref c), (1, .int (nI j)), (2, .int (nI u))], [.int (nI bc), .int (nI j)], M)) rfl h_c rfl rfl ?_
  refine ps_if2 (S1 := (14, [(0, .ref c), (1, .int (nI j)), (2, .int (nI u))], [], M)) (S2 := (12, [], [], M)) rfl rfl rfl (fun c_9 => ?_) (fun c_9 => ?_)
  rotate_left
  · exact absurd ((lt_nI (by omega) (by omega)).mpr hj) (of_decide_eq_false c_9)
  refine ps_st (S' := (15, [(0, .ref c), (1, .int (nI j)), (2, .int (nI u))], [.ref c], M)) rfl rfl rfl ?_
  refine ps_get (S' := (18, [(0, .ref c), (1, .int (nI j)), (2, .int (nI u))], [.int (nI bp)], M)) rfl h_c rfl rfl ?_
  refine ps_st (S' := (19, [(3, .int (nI bp)), (0, .ref c), (1, .int (nI j)), (2, .int (nI u))], [], M)) rfl rfl rfl ?_
  refine ps_st (S' := (20, [(3, .int (nI bp)), (0, .ref c), (1, .int (nI j)), (2, .int (nI u))], [.int 0], M)) rfl rfl rfl ?_
  refine ps_st (S' := (22, [(0, .ref c), (1, .int (nI j)), (2, .int (nI u)), (3, .int (nI bp)), (4, .int 0)], [], M)) rfl rfl rfl ?_
  exact (LL kf) (0) (bp)  (by omega) (hbs) (rfl)
set_option maxHeartbeats 1000000 in
theorem dk_bootstrap0 {g : xe_G} {M : mi_H} {o ca fl : Nat} {cn wp i t : Int32} (h_o : M.1 o = some (ob 11 [.ref ca, .int cn, .ref fl, .null, .int wp]))  : pt (mT g) 2 [.ref o, .int i, .int t] M (fun v M' => (v = some (.int (-1)) ∧ M = M')) := by
  refine pt_in (b := mb_2 g) rfl (fun kf => ?_)
  show pl (mT g) kf (mb_2 g).2 (0, [(0, .ref o), (1, .int i), (2, .int t)], [], M) _
  refine ps_st (S' := (1, [(0, .ref o), (1, .int i), (2, .int t)], [.ref o], M)) rfl rfl rfl ?_
  refine ps_get (S' := (4, [(0, .ref o), (1, .int i), (2, .int t)], [.null], M)) rfl h_o rfl rfl ?_
  refine ps_st (S' := (7, [(0, .ref o), (1, .int i), (2, .int t)], [], M)) rfl rfl rfl ?_
  refine ps_st (S' := (8, [(0, .ref o), (1, .int i), (2, .int t)], [.int (-1)], M)) rfl rfl rfl ?_
  refine ps_st (S' := (20, [], [.int (-1)], M)) rfl rfl rfl ?_
  exact ps_ret rfl rfl (⟨rfl, rfl⟩)
theorem dk_bsPart {g : xe_G} {M : mi_H} {f : Nat → Int32} {n q c b da fr mr bc bp : Nat} {u2 u3 u4 u5 x8 x9 x10 x13 x14 x15 x16 : Int32} {i t : Int32} (h_c : M.1 c = some (ob 3 [.ref b, .ref q, .int u2, .int u3, .int u4, .int u5, .ref fr, .ref mr, .int x8, .int x9, .int x10, .int (nI bc), .int (nI bp), .int x13, .int x14, .int x15, .int x16])) (h_b : M.1 b = some (ob 1 [.ref da])) (h_da : M.1 da = some (ar .byte n f)) (hn : n ≤ 65540) (hbc : bc < 65536) (hbs : bc = 0 ∨ (8 ≤ bp ∧ ∃ e, e ≤ n ∧ s_bsE f e bc bp = some e)) : pt (mT g) 70 [.ref c, .int i, .int t] M (fun v M' => (v = some (.int (bsI f bc bp i t)) ∧ M = M')) := by
  unfold bsI
  by_cases hi : i < 0 ∨ nI bc ≤ i
  · rw [if_pos hi]
    exact dk_bsN (f := f) (n := n) (da := da) h_c hi
  · rw [if_neg hi]
    obtain ⟨ei, hj⟩ := i32_in (by omega) hi
    obtain ⟨j, ej⟩ : ∃ j, j = i.toNatClampNeg := ⟨_, rfl⟩
    rw [← ej] at ei hj ⊢
    subst ei
    rcases hbs with h9 | ⟨-, e, he, hbs⟩
    · omega
    · by_cases ht : t < 0 ∨ nI (by2 f (bsP f j bp + 2)) < t
      · rw [if_pos ht]
        exact dk_bsB h_c h_b h_da hn hbc hj he hbs ht
      · rw [if_neg ht]
        have hu7 := by2_lt f (bsP f j bp + 2)
        have h0 : ¬ t < 0 := fun q => ht (Or.inl q)
        have et := i32_nn h0
        have hle : t.toNatClampNeg ≤ by2 f (bsP f j bp + 2) := by
          have h1 := Int32.le_iff_toInt_le.mp (Int32.not_lt.mp (fun q => ht (Or.inr q)))
          rw [nI_val (by omega)] at h1
          have h2 := i32_to h0
          omega
        obtain ⟨u, eu⟩ : ∃ u, u = t.toNatClampNeg := ⟨_, rfl⟩
        rw [← eu] at et hle ⊢
        subst et
        exact dk_bsG h_c h_b h_da hn hbc hj he hbs hle
set_option maxHeartbeats 1000000 in
theorem dk_bootstrapK {g : xe_G} {M : mi_H} {f : Nat → Int32} {n q c b da fr mr bc bp : Nat} {u2 u3 u4 u5 x8 x9 x10 x13 x14 x15 x16 : Int32} {o ca fl : Nat} {cn wp i t : Int32} (h_o : M.1 o = some (ob 11 [.ref ca, .int cn, .ref fl, .ref c, .int wp])) (h_c : M.1 c = some (ob 3 [.ref b, .ref q, .int u2, .int u3, .int u4, .int u5, .ref fr, .ref mr, .int x8, .int x9, .int x10, .int (nI bc), .int (nI bp), .int x13, .int x14, .int x15, .int x16])) (h_b : M.1 b = some (ob 1 [.ref da])) (h_da : M.1 da = some (ar .byte n f)) (hn : n ≤ 65540) (hbc : bc < 65536) (hbs : bc = 0 ∨ (8 ≤ bp ∧ ∃ e, e ≤ n ∧ s_bsE f e bc bp = some e)) : pt (mT g) 2 [.ref o, .int i, .int t] M (fun v M' => (v = some (.int (bsI f bc bp i t)) ∧ M = M')) := by
  refine pt_in (b := mb_2 g) rfl (fun kf => ?_)
  show pl (mT g) kf (mb_2 g).2 (0, [(0, .ref o), (1, .int i), (2, .int t)], [], M) _
  refine ps_st (S' := (1, [(0, .ref o), (1, .int i), (2, .int t)], [.ref o], M)) rfl rfl rfl ?_
  refine ps_get (S' := (4, [(0, .ref o), (1, .int i), (2, .int t)], [.ref c], M)) rfl h_o rfl rfl ?_
  refine ps_st (S' := (11, [(0, .ref o), (1, .int i), (2, .int t)], [], M)) rfl rfl rfl ?_
  refine ps_st (S' := (12, [(0, .ref o), (1, .int i), (2, .int t)], [.ref o], M)) rfl rfl rfl ?_
  refine ps_get (S' := (15, [(0, .ref o), (1, .int i), (2, .int t)], [.ref c], M)) rfl h_o rfl rfl ?_
  refine ps_st (S' := (16, [(0, .ref o), (1, .int i), (2, .int t)], [.int i, .ref c], M)) rfl rfl rfl ?_
  refine ps_st (S' := (17, [(0, .ref o), (1, .int i), (2, .int t)], [.int t, .int i, .ref c], M)) rfl rfl rfl ?_
  refine pl_call (a := [.ref c, .int i, .int t]) (rest := []) rfl rfl rfl (dk_bsPart (f := f) (n := n) (q := q) (c := c) (b := b) (da := da) (fr := fr) (mr := mr) (bc := bc) (bp := bp) (u2 := u2) (u3 := u3) (u4 := u4) (u5 := u5) (x8 := x8) (x9 := x9) (x10 := x10) (x13 := x13) (x14 := x14) (x15 := x15) (x16 := x16) (i := i) (t := t) h_c h_b h_da (hn) (hbc) (hbs)) (fun v1 M2 q3 => ?_)
  obtain ⟨rfl, rfl⟩ := q3
  show pl _ _ _ (20, [], [.int (bsI f bc bp i t)], M) _
  exact ps_reti rfl (⟨rfl, rfl⟩)
theorem dk_bootstrap {g : xe_G} {M : mi_H} {ko : Option (Nat × (Nat → Int32))} {kv : Value} {cm o fl : Nat} {cn wp i t : Int32} (hx : M.1 o = some (ob 11 [.ref cm, .int cn, .ref fl, kv, .int wp])) (hK : KPC g ko kv cm M) : pt (mT g) 2 [.ref o, .int i, .int t] M (fun v M' => v = some (.int (bsK ko i t)) ∧ M = M') := by
  cases ko with
  | none =>
    have e : kv = .null := hK
    subst e
    exact dk_bootstrap0 hx
  | some r =>
    obtain ⟨c, da, rfl, ⟨b, q, N, E, p1, pF, pM, pA, w, h1, h2, h3, h4, h5, rfl, -, h7, fr, mr, G1, G2, k1, k2, bc, K, rfl, m1, m2, m3, m4, m5, m6, m7, m8, -⟩, -, -⟩ := hK
    rw [bsK_is h5 m7 m8]
    exact dk_bootstrapK hx h1 h2 h3 h7 (clS_bc m7) (cl_bt m6 m7 m8)
end
section
set_option maxHeartbeats 1000000 in
theorem rd_bootstrap0 {g : xe_G} {m0 : Nat} {q : Nat → Nat} {z : Nat × Nat} {I : rI} {R : rR} {M : mi_H} {kn i t : Int32} (hR : RS g m0 q z I R M) (hi18 : I 18 = some kn)  (hk : kn < 0) : pt (mT g) 184 [.ref m0, .int i, .int t] M (fun v M' => (∃  (I' : rI) (R' : rR), v = some (.int (-1)) ∧ RS g m0 q z I' R' M' ∧ eqI [0] I I' ∧ eqR [] R R' ∧ I' 0 = some 0)) := by
  refine pt_in (b := mb_184 g) rfl (fun kf => ?_)
  show pl (mT g) kf (mb_184 g).2 (0, [(0, .ref m0), (1, .int i), (2, .int t)], [], M) _
  have hEI : eqI [0] I I := eqI.rf
  have hER : eqR [] R R := eqR.rf
  refine ps_st (S' := (1, [(0, .ref m0), (1, .int i), (2, .int t)], [.ref m0], M)) rfl rfl rfl ?_
  refine ps_st (S' := (2, [(0, .ref m0), (1, .int i), (2, .int t)], [.int 0, .ref m0], M)) rfl rfl rfl ?_
  refine pr_put (j := 0) rfl hR rfl (fun M1 I2 hR3 hi4 hI5 => ?_)
  have hi6 := (hI5 18 (by decide)).trans hi18
  have hEI7 := hEI.put hI5 (by decide)
  show pl _ _ _ (5, [(0, .ref m0), (1, .int i), (2, .int t)], [], M1) _
  refine ps_st (S' := (6, [(0, .ref m0), (1, .int i), (2, .int t)], [.ref m0], M1)) rfl rfl rfl ?_
  refine pr_int (j := 18) (S' := (9, [(0, .ref m0), (1, .int i), (2, .int t)], [.int kn], M1)) rfl hR3 rfl hi6 rfl ?_
  refine ps_if (S1 := (28, [], [], M1)) (S2 := (12, [(0, .ref m0), (1, .int i), (2, .int t)], [], M1)) rfl rfl rfl (fun c_9 => ?_) (fun c_9 => ?_)
  rotate_left
  · exact absurd (hk) (of_decide_eq_false c_9)
  refine ps_st (S' := (29, [], [.int (-1)], M1)) rfl rfl rfl ?_
  exact ps_ret rfl rfl (⟨I2, R, rfl, hR3, hEI7, hER, hi4⟩)
set_option maxHeartbeats 1000000 in
theorem rd_bootstrapN {g : xe_G} {m0 : Nat} {q : Nat → Nat} {z : Nat × Nat} {I : rI} {R : rR} {M : mi_H} {n2 bc : Nat} {i t : Int32} (hR : RS g m0 q z I R M) (hi18 : I 18 = some (nI n2)) (hi71 : I 71 = some (nI bc))  (hn2 : n2 ≤ 65540) (hi : (i < 0 ∨ nI bc ≤ i) ∨ t < 0) : pt (mT g) 184 [.ref m0, .int i, .int t] M (fun v M' => (∃  (I' : rI) (R' : rR), v = some (.int (-1)) ∧ RS g m0 q z I' R' M' ∧ eqI [0] I I' ∧ eqR [] R R' ∧ I' 0 = some 0)) := by
  refine pt_in (b := mb_184 g) rfl (fun kf => ?_)
  show pl (mT g) kf (mb_184 g).2 (0, [(0, .ref m0), (1, .int i), (2, .int t)], [], M) _
  have hEI : eqI [0] I I := eqI.rf
  have hER : eqR [] R R := eqR.rf
  refine ps_st (S' := (1, [(0, .ref m0), (1, .int i), (2, .int t)], [.ref m0], M)) rfl rfl rfl ?_
  refine ps_st (S' := (2, [(0, .ref m0), (1, .int i), (2, .int t)], [.int 0, .ref m0], M)) rfl rfl rfl ?_
  refine pr_put (j := 0) rfl hR rfl (fun M1 I2 hR3 hi4 hI5 => ?_)
  have hi6 := (hI5 18 (by decide)).trans hi18
  have hi7 := (hI5 71 (by decide)).trans hi71
  have hEI8 := hEI.put hI5 (by decide)
  show pl _ _ _ (5, [(0, .ref m0), (1, .int i), (2, .int t)], [], M1) _
  refine ps_st (S' := (6, [(0, .ref m0), (1, .int i), (2, .int t)], [.ref m0], M1)) rfl rfl rfl ?_
  refine pr_int (j := 18) (S' := (9, [(0, .ref m0), (1, .int i), (2, .int t)], [.int (nI n2)], M1)) rfl hR3 rfl hi6 rfl ?_
  refine ps_if (S1 := (28, [], [], M1)) (S2 := (12, [(0, .ref m0), (1, .int i), (2, .int t)], [], M1)) rfl rfl rfl (fun c_9 => ?_) (fun c_9 => ?_)
  · exact absurd (of_decide_eq_true c_9) (show ¬ ((nI n2) < 0) from fun h9 => absurd ((lt_nI (p := n2) (n := 0) (by omega) (by decide)).mp h9) (by omega))
  refine ps_st (S' := (13, [(0, .ref m0), (1, .int i), (2, .int t)], [.int i], M1)) rfl rfl rfl ?_
  refine ps_if (S1 := (28, [], [], M1)) (S2 := (16, [(0, .ref m0), (1, .int i), (2, .int t)], [], M1)) rfl rfl rfl (fun c_13 => ?_) (fun c_13 => ?_)
  · have c_13 : i < 0 := of_decide_eq_true c_13
    refine ps_st (S' := (29, [], [.int (-1)], M1)) rfl rfl rfl ?_
    exact ps_ret rfl rfl (⟨I2, R, rfl, hR3, hEI8, hER, hi4⟩)
  · have c_13 : ¬ (i < 0) := of_decide_eq_false c_13
    refine ps_st (S' := (17, [(0, .ref m0), (1, .int i), (2, .int t)], [.int i], M1)) rfl rfl rfl ?_
    refine ps_st (S' := (18, [(0, .ref m0), (1, .int i), (2, .int t)], [.ref m0, .int i], M1)) rfl rfl rfl ?_
    refine pr_int (j := 71) (S' := (21, [(0, .ref m0), (1, .int i), (2, .int t)], [.int (nI bc), .int i], M1)) rfl hR3 rfl hi7 rfl ?_
    refine ps_if2 (S1 := (28, [], [], M1)) (S2 := (24, [(0, .ref m0), (1, .int i), (2, .int t)], [], M1)) rfl rfl rfl (fun c_21 => ?_) (fun c_21 => ?_)
    · have c_21 : (nI bc) ≤ i := of_decide_eq_true c_21
      refine ps_st (S' := (29, [], [.int (-1)], M1)) rfl rfl rfl ?_
      exact ps_ret rfl rfl (⟨I2, R, rfl, hR3, hEI8, hER, hi4⟩)
    · have c_21 : ¬ ((nI bc) ≤ i) := of_decide_eq_false c_21
      refine ps_st (S' := (25, [(0, .ref m0), (1, .int i), (2, .int t)], [.int t], M1)) rfl rfl rfl ?_
      refine ps_if (S1 := (30, [(0, .ref m0), (1, .int i), (2, .int t)], [], M1)) (S2 := (28, [], [], M1)) rfl rfl rfl (fun c_25 => ?_) (fun c_25 => ?_)
      · have c_25 : 0 ≤ t := of_decide_eq_true c_25
        exact absurd hi (fun h9 => h9.elim (fun h8 => h8.elim c_13 c_21) (fun h8 => absurd h8 (Int32.not_lt.mpr c_25)))
      · have c_25 : ¬ (0 ≤ t) := of_decide_eq_false c_25
        refine ps_st (S' := (29, [], [.int (-1)], M1)) rfl rfl rfl ?_
        exact ps_ret rfl rfl (⟨I2, R, rfl, hR3, hEI8, hER, hi4⟩)
set_option maxHeartbeats 1000000 in
theorem rd_bootstrapB {g : xe_G} {m0 : Nat} {q : Nat → Nat} {z : Nat × Nat} {I : rI} {R : rR} {M : mi_H} {n : Nat} {f : Nat → Int32} {n2 bc bp j e : Nat} {t : Int32} (hR : RS g m0 q z I R M) (hi18 : I 18 = some (nI n2)) (hi71 : I 71 = some (nI bc)) (hi70 : I 70 = some (nI (bp - 2))) (hF : FK n f I R) (hn2 : n2 ≤ 65540) (hbp : 8 ≤ bp) (hbc : bc < 65536) (hj : j < bc) (he : e ≤ n) (hbs : s_bsE f e bc bp = some e) (ht0 : ¬ t < 0) (hb9 : nI (by2 f (bsP f j bp + 2)) < t) : pt (mT g) 184 [.ref m0, .int (nI j), .int t] M (fun v M' => (∃  (I' : rI) (R' : rR), v = some (.int (-1)) ∧ RS g m0 q z I' R' M' ∧ eqI [0] I I' ∧ eqR [] R R' ∧ I' 0 = some 0)) := by
  refine pt_in (b := mb_184 g) rfl (fun kf => ?_)
  show pl (mT g) kf (mb_184 g).2 (0, [(0, .ref m0), (1, .int (nI j)), (2, .int t)], [], M) _
  have hEI : eqI [0] I I := eqI.rf
  have hER : eqR [] R R := eqR.rf
  have hn := hF.1
  have hin8 := s_bsE_in (c := bc) (i := 0) (p := bp) hbs (by omega)
  have LL : ∀ (kf : Nat), (∀ (a p : Nat) (M1 : mi_H) (I1 : rI) (R1 : rR), (RS g m0 q z I1 R1 M1) → (eqI [0] I I1) → (eqR [] R R1) → (I1 0 = some 0) → (FK n f I1 R1) → (a ≤ j) → (s_bsE f e (bc - a) p = some e) → (bsP f (j - a) p = bsP f j bp) →  pl (mT g) kf (mb_184 g).2 (40, [(0, .ref m0), (1, .int (nI j)), (2, .int t), (3, .int (nI p)), (4, .int (nI a))], [], M1) (fun v M' => (∃  (I' : rI) (R' : rR), v = some (.int (-1)) ∧ RS g m0 q z I' R' M' ∧ eqI [0] I I' ∧ eqR [] R R' ∧ I' 0 = some 0))) := by
    intro kf
    induction kf with
    | zero => exact (by intros; exact pl_0)
    | succ kf ih =>
      intro a p M1 I1 R1 hR1 hEI1 hER1 hl0 hF1 ha hf hp
      have hn := hF1.1
      have hin9 := s_bsE_in (i := a) (p := p) hf (by omega)
      refine ps_st1 (S' := (42, [(0, .ref m0), (1, .int (nI j)), (2, .int t), (3, .int (nI p)), (4, .int (nI a))], [.int (nI a)], M1)) rfl rfl rfl ?_
      refine ps_st (S' := (43, [(0, .ref m0), (1, .int (nI j)), (2, .int t), (3, .int (nI p)), (4, .int (nI a))], [.int (nI j), .int (nI a)], M1)) rfl rfl rfl ?_
      refine ps_if2 (S1 := (66, [(0, .ref m0), (1, .int (nI j)), (2, .int t), (3, .int (nI p)), (4, .int (nI a))], [], M1)) (S2 := (46, [(0, .ref m0), (1, .int (nI j)), (2, .int t), (3, .int (nI p)), (4, .int (nI a))], [], M1)) rfl rfl rfl (fun c_43 => ?_) (fun c_43 => ?_)
      · have c_43 : (nI j) ≤ (nI a) := of_decide_eq_true c_43
        have n_43 : j ≤ a := (le_nI (p := j) (n := a) (by omega) (by omega)).mp c_43
        have eP : p = bsP f j bp := by rw [← hp, show j - a = 0 by omega]; rfl
        rw [← eP] at hb9
        have hu8 := by2_lt f (p + 2)
        refine ps_st (S' := (67, [(0, .ref m0), (1, .int (nI j)), (2, .int t), (3, .int (nI p)), (4, .int (nI a))], [.int t], M1)) rfl rfl rfl ?_
        refine ps_if (S1 := (76, [(0, .ref m0), (1, .int (nI j)), (2, .int t), (3, .int (nI p)), (4, .int (nI a))], [], M1)) (S2 := (70, [(0, .ref m0), (1, .int (nI j)), (2, .int t), (3, .int (nI p)), (4, .int (nI a))], [], M1)) rfl rfl rfl (fun c_67 => ?_) (fun c_67 => ?_)
        rotate_left
        · exact absurd (show ¬ t = 0 from fun h9 => absurd hb9 (by rw [h9]; exact nI_n0 (by omega))) (of_decide_eq_false c_67)
        refine ps_st (S' := (77, [(0, .ref m0), (1, .int (nI j)), (2, .int t), (3, .int (nI p)), (4, .int (nI a))], [.int t], M1)) rfl rfl rfl ?_
        refine ps_st (S' := (78, [(0, .ref m0), (1, .int (nI j)), (2, .int t), (3, .int (nI p)), (4, .int (nI a))], [.ref m0, .int t], M1)) rfl rfl rfl ?_
        refine ps_st (S' := (79, [(0, .ref m0), (1, .int (nI j)), (2, .int t), (3, .int (nI p)), (4, .int (nI a))], [.int (nI p), .ref m0, .int t], M1)) rfl rfl rfl ?_
        refine ps_st (S' := (80, [(0, .ref m0), (1, .int (nI j)), (2, .int t), (3, .int (nI p)), (4, .int (nI a))], [.int 2, .int (nI p), .ref m0, .int t], M1)) rfl rfl rfl ?_
        refine ps_st (S' := (81, [(0, .ref m0), (1, .int (nI j)), (2, .int t), (3, .int (nI p)), (4, .int (nI a))], [.int ((nI p) + 2), .ref m0, .int t], M1)) rfl rfl rfl ?_
        rw [nI_add1 (p := p) (k := 2) (x := 2) rfl (by omega)]
        show pl _ _ _ (_, [(0, .ref m0), (1, .int (nI j)), (2, .int t), (3, .int (nI p)), (4, .int (nI a))], [.int (nI (p + 2)), .ref m0, .int t], M1) _
        refine pl_call (a := [.ref m0, .int (nI (p + 2))]) (rest := [.int t]) rfl rfl rfl (rd_u2 (n := n) (f := f) (p := (p + 2)) hR1 hF1 (by omega)) (fun v1 M2 q3 => ?_)
        obtain ⟨rfl, rfl⟩ := q3
        show pl _ _ _ (84, [(0, .ref m0), (1, .int (nI j)), (2, .int t), (3, .int (nI p)), (4, .int (nI a))], [.int (nI (by2 f (p + 2))), .int t], M1) _
        have hu_81 := by2_lt f (p + 2)
        refine ps_if2 (S1 := (91, [(0, .ref m0), (1, .int (nI j)), (2, .int t), (3, .int (nI p)), (4, .int (nI a))], [], M1)) (S2 := (87, [(0, .ref m0), (1, .int (nI j)), (2, .int t), (3, .int (nI p)), (4, .int (nI a))], [], M1)) rfl rfl rfl (fun c_84 => ?_) (fun c_84 => ?_)
        · exact absurd (of_decide_eq_true c_84) (Int32.not_le.mpr hb9)
        refine ps_st (S' := (88, [(0, .ref m0), (1, .int (nI j)), (2, .int t), (3, .int (nI p)), (4, .int (nI a))], [.int (-1)], M1)) rfl rfl rfl ?_
        refine ps_st (S' := (102, [], [.int (-1)], M1)) rfl rfl rfl ?_
        exact ps_ret rfl rfl (⟨I1, R1, rfl, hR1, hEI1, hER1, hl0⟩)
      · have c_43 : ¬ ((nI j) ≤ (nI a)) := of_decide_eq_false c_43
        have n_43 : ¬ (j ≤ a) := fun h9 => c_43 ((le_nI (p := j) (n := a) (by omega) (by omega)).mpr h9)
        refine ps_st (S' := (47, [(0, .ref m0), (1, .int (nI j)), (2, .int t), (3, .int (nI p)), (4, .int (nI a))], [.int (nI p)], M1)) rfl rfl rfl ?_
        refine ps_st (S' := (48, [(0, .ref m0), (1, .int (nI j)), (2, .int t), (3, .int (nI p)), (4, .int (nI a))], [.int 4, .int (nI p)], M1)) rfl rfl rfl ?_
        refine ps_st (S' := (49, [(0, .ref m0), (1, .int (nI j)), (2, .int t), (3, .int (nI p)), (4, .int (nI a))], [.int 2, .int 4, .int (nI p)], M1)) rfl rfl rfl ?_
        refine ps_st (S' := (50, [(0, .ref m0), (1, .int (nI j)), (2, .int t), (3, .int (nI p)), (4, .int (nI a))], [.ref m0, .int 2, .int 4, .int (nI p)], M1)) rfl rfl rfl ?_
        refine ps_st (S' := (51, [(0, .ref m0), (1, .int (nI j)), (2, .int t), (3, .int (nI p)), (4, .int (nI a))], [.int (nI p), .ref m0, .int 2, .int 4, .int (nI p)], M1)) rfl rfl rfl ?_
        refine ps_st (S' := (52, [(0, .ref m0), (1, .int (nI j)), (2, .int t), (3, .int (nI p)), (4, .int (nI a))], [.int 2, .int (nI p), .ref m0, .int 2, .int 4, .int (nI p)], M1)) rfl rfl rfl ?_
        refine ps_st (S' := (53, [(0, .ref m0), (1, .int (nI j)), (2, .int t), (3, .int (nI p)), (4, .int (nI a))], [.int ((nI p) + 2), .ref m0, .int 2, .int 4, .int (nI p)], M1)) rfl rfl rfl ?_
        rw [nI_add1 (p := p) (k := 2) (x := 2) rfl (by omega)]
        show pl _ _ _ (_, [(0, .ref m0), (1, .int (nI j)), (2, .int t), (3, .int (nI p)), (4, .int (nI a))], [.int (nI (p + 2)), .ref m0, .int 2, .int 4, .int (nI p)], M1) _
        refine pl_call (a := [.ref m0, .int (nI (p + 2))]) (rest := [.int 2, .int 4, .int (nI p)]) rfl rfl rfl (rd_u2 (n := n) (f := f) (p := (p + 2)) hR1 hF1 (by omega)) (fun v4 M5 q6 => ?_)
        obtain ⟨rfl, rfl⟩ := q6
        show pl _ _ _ (56, [(0, .ref m0), (1, .int (nI j)), (2, .int t), (3, .int (nI p)), (4, .int (nI a))], [.int (nI (by2 f (p + 2))), .int 2, .int 4, .int (nI p)], M1) _
        have hu_53 := by2_lt f (p + 2)
        refine ps_st (S' := (57, [(0, .ref m0), (1, .int (nI j)), (2, .int t), (3, .int (nI p)), (4, .int (nI a))], [.int (2 * (nI (by2 f (p + 2)))), .int 4, .int (nI p)], M1)) rfl rfl rfl ?_
        rw [nI_mul1 (p := 2) (k := by2 f (p + 2)) (x := 2) (y := (nI (by2 f (p + 2)))) rfl rfl (by omega)]
        show pl _ _ _ (_, [(0, .ref m0), (1, .int (nI j)), (2, .int t), (3, .int (nI p)), (4, .int (nI a))], [.int (nI (2 * (by2 f (p + 2)))), .int 4, .int (nI p)], M1) _
        refine ps_st (S' := (58, [(0, .ref m0), (1, .int (nI j)), (2, .int t), (3, .int (nI p)), (4, .int (nI a))], [.int (4 + (nI (2 * (by2 f (p + 2))))), .int (nI p)], M1)) rfl rfl rfl ?_
        rw [nI_add2 (p := 4) (k := 2 * (by2 f (p + 2))) (x := 4) (y := (nI (2 * (by2 f (p + 2))))) rfl rfl (by omega)]
        show pl _ _ _ (_, [(0, .ref m0), (1, .int (nI j)), (2, .int t), (3, .int (nI p)), (4, .int (nI a))], [.int (nI (4 + 2 * (by2 f (p + 2)))), .int (nI p)], M1) _
        refine ps_st (S' := (59, [(0, .ref m0), (1, .int (nI j)), (2, .int t), (3, .int (nI p)), (4, .int (nI a))], [.int ((nI p) + (nI (4 + 2 * (by2 f (p + 2)))))], M1)) rfl rfl rfl ?_
        rw [nI_add1 (p := p) (k := 4 + 2 * (by2 f (p + 2))) (x := (nI (4 + 2 * (by2 f (p + 2))))) rfl (by omega)]
        rw [show nI (p + (4 + 2 * (by2 f (p + 2)))) = nI (p + 4 + 2 * (by2 f (p + 2))) from congrArg nI (by omega)]
        show pl _ _ _ (_, [(0, .ref m0), (1, .int (nI j)), (2, .int t), (3, .int (nI p)), (4, .int (nI a))], [.int (nI (p + 4 + 2 * (by2 f (p + 2))))], M1) _
        refine ps_st (S' := (60, [(3, .int (nI (p + 4 + 2 * (by2 f (p + 2))))), (0, .ref m0), (1, .int (nI j)), (2, .int t), (4, .int (nI a))], [], M1)) rfl rfl rfl ?_
        refine ps_st (S' := (63, [(4, .int ((nI a) + 1)), (3, .int (nI (p + 4 + 2 * (by2 f (p + 2))))), (0, .ref m0), (1, .int (nI j)), (2, .int t)], [], M1)) rfl rfl rfl ?_
        rw [nI_add1 (p := a) (k := 1) (x := 1) rfl (by omega)]
        show pl _ _ _ (_, [(4, .int (nI (a + 1))), (3, .int (nI (p + 4 + 2 * (by2 f (p + 2))))), (0, .ref m0), (1, .int (nI j)), (2, .int t)], [], M1) _
        refine ps_st (S' := (40, [(0, .ref m0), (1, .int (nI j)), (2, .int t), (3, .int (nI (p + 4 + 2 * (by2 f (p + 2))))), (4, .int (nI (a + 1)))], [], M1)) rfl rfl rfl ?_
        exact ih (a + 1) (p + 4 + 2 * by2 f (p + 2)) M1 I1 R1 hR1 hEI1 hER1 hl0 hF1 (by omega) (hin9.2.2) (by
            rw [← hp, bsP_st (i := a) (by omega)])
  refine ps_st (S' := (1, [(0, .ref m0), (1, .int (nI j)), (2, .int t)], [.ref m0], M)) rfl rfl rfl ?_
  refine ps_st (S' := (2, [(0, .ref m0), (1, .int (nI j)), (2, .int t)], [.int 0, .ref m0], M)) rfl rfl rfl ?_
  refine pr_put (j := 0) rfl hR rfl (fun M7 I8 hR9 hi10 hI11 => ?_)
  have hi12 := (hI11 18 (by decide)).trans hi18
  have hi13 := (hI11 71 (by decide)).trans hi71
  have hi14 := (hI11 70 (by decide)).trans hi70
  have hF_15 := hF.mono (pIx hI11 (by decide)) (fun _ _ => rfl)
  have hEI16 := hEI.put hI11 (by decide)
  show pl _ _ _ (5, [(0, .ref m0), (1, .int (nI j)), (2, .int t)], [], M7) _
  refine ps_st (S' := (6, [(0, .ref m0), (1, .int (nI j)), (2, .int t)], [.ref m0], M7)) rfl rfl rfl ?_
  refine pr_int (j := 18) (S' := (9, [(0, .ref m0), (1, .int (nI j)), (2, .int t)], [.int (nI n2)], M7)) rfl hR9 rfl hi12 rfl ?_
  refine ps_if (S1 := (28, [], [], M7)) (S2 := (12, [(0, .ref m0), (1, .int (nI j)), (2, .int t)], [], M7)) rfl rfl rfl (fun c_9 => ?_) (fun c_9 => ?_)
  · exact absurd (of_decide_eq_true c_9) (show ¬ ((nI n2) < 0) from fun h9 => absurd ((lt_nI (p := n2) (n := 0) (by omega) (by decide)).mp h9) (by omega))
  refine ps_st (S' := (13, [(0, .ref m0), (1, .int (nI j)), (2, .int t)], [.int (nI j)], M7)) rfl rfl rfl ?_
  refine ps_if (S1 := (28, [], [], M7)) (S2 := (16, [(0, .ref m0), (1, .int (nI j)), (2, .int t)], [], M7)) rfl rfl rfl (fun c_13 => ?_) (fun c_13 => ?_)
  · exact absurd (of_decide_eq_true c_13) (nI_n0 (by omega))
  refine ps_st (S' := (17, [(0, .ref m0), (1, .int (nI j)), (2, .int t)], [.int (nI j)], M7)) rfl rfl rfl ?_
  refine ps_st (S' := (18, [(0, .ref m0), (1, .int (nI j)), (2, .int t)], [.ref m0, .int (nI j)], M7)) rfl rfl rfl ?_
  refine pr_int (j := 71) (S' := (21, [(0, .ref m0), (1, .int (nI j)), (2, .int t)], [.int (nI bc), .int (nI j)], M7)) rfl hR9 rfl hi13 rfl ?_
  refine ps_if2 (S1 := (28, [], [], M7)) (S2 := (24, [(0, .ref m0), (1, .int (nI j)), (2, .int t)], [], M7)) rfl rfl rfl (fun c_21 => ?_) (fun c_21 => ?_)
  · exact absurd (of_decide_eq_true c_21) (Int32.not_le.mpr ((lt_nI (by omega) (by omega)).mpr hj))
  refine ps_st (S' := (25, [(0, .ref m0), (1, .int (nI j)), (2, .int t)], [.int t], M7)) rfl rfl rfl ?_
  refine ps_if (S1 := (30, [(0, .ref m0), (1, .int (nI j)), (2, .int t)], [], M7)) (S2 := (28, [], [], M7)) rfl rfl rfl (fun c_25 => ?_) (fun c_25 => ?_)
  rotate_left
  · exact absurd (Int32.not_lt.mp ht0) (of_decide_eq_false c_25)
  refine ps_st (S' := (31, [(0, .ref m0), (1, .int (nI j)), (2, .int t)], [.ref m0], M7)) rfl rfl rfl ?_
  refine pr_int (j := 70) (S' := (34, [(0, .ref m0), (1, .int (nI j)), (2, .int t)], [.int (nI (bp - 2))], M7)) rfl hR9 rfl hi14 rfl ?_
  refine ps_st (S' := (35, [(0, .ref m0), (1, .int (nI j)), (2, .int t)], [.int 2, .int (nI (bp - 2))], M7)) rfl rfl rfl ?_
  refine ps_st (S' := (36, [(0, .ref m0), (1, .int (nI j)), (2, .int t)], [.int ((nI (bp - 2)) + 2)], M7)) rfl rfl rfl ?_
  rw [nI_add1 (p := bp - 2) (k := 2) (x := 2) rfl (by omega)]
  show pl _ _ _ (_, [(0, .ref m0), (1, .int (nI j)), (2, .int t)], [.int (nI (bp - 2 + 2))], M7) _
  refine ps_st (S' := (37, [(3, .int (nI (bp - 2 + 2))), (0, .ref m0), (1, .int (nI j)), (2, .int t)], [], M7)) rfl rfl rfl ?_
  rw [show bp - 2 + 2 = bp by omega]
  show pl _ _ _ (37, [(3, .int (nI bp)), (0, .ref m0), (1, .int (nI j)), (2, .int t)], [], M7) _
  refine ps_st (S' := (38, [(3, .int (nI bp)), (0, .ref m0), (1, .int (nI j)), (2, .int t)], [.int 0], M7)) rfl rfl rfl ?_
  refine ps_st (S' := (40, [(0, .ref m0), (1, .int (nI j)), (2, .int t), (3, .int (nI bp)), (4, .int 0)], [], M7)) rfl rfl rfl ?_
  exact (LL kf) (0) (bp) M7 I8 R hR9 hEI16 hER hi10 hF_15 (by omega) (hbs) (rfl)
set_option maxHeartbeats 1000000 in
theorem rd_bootstrapG {g : xe_G} {m0 : Nat} {q : Nat → Nat} {z : Nat × Nat} {I : rI} {R : rR} {M : mi_H} {n : Nat} {f : Nat → Int32} {n2 bc bp j e u : Nat} (hR : RS g m0 q z I R M) (hi18 : I 18 = some (nI n2)) (hi71 : I 71 = some (nI bc)) (hi70 : I 70 = some (nI (bp - 2))) (hF : FK n f I R) (hn2 : n2 ≤ 65540) (hbp : 8 ≤ bp) (hbc : bc < 65536) (hj : j < bc) (he : e ≤ n) (hbs : s_bsE f e bc bp = some e) (hu : u ≤ by2 f (bsP f j bp + 2)) : pt (mT g) 184 [.ref m0, .int (nI j), .int (nI u)] M (fun v M' => (∃  (I' : rI) (R' : rR), v = some (.int (bsV f (bsP f j bp) u)) ∧ RS g m0 q z I' R' M' ∧ eqI [0] I I' ∧ eqR [] R R' ∧ I' 0 = some 0)) := by
  refine pt_in (b := mb_184 g) rfl (fun kf => ?_)
  show pl (mT g) kf (mb_184 g).2 (0, [(0, .ref m0), (1, .int (nI j)), (2, .int (nI u))], [], M) _
  have hEI : eqI [0] I I := eqI.rf
  have hER : eqR [] R R := eqR.rf
  have hn := hF.1
  have hin8 := s_bsE_in (c := bc) (i := 0) (p := bp) hbs (by omega)
  have hu7 := by2_lt f (bsP f j bp + 2)
  have LL : ∀ (kf : Nat), (∀ (a p : Nat) (M1 : mi_H) (I1 : rI) (R1 : rR), (RS g m0 q z I1 R1 M1) → (eqI [0] I I1) → (eqR [] R R1) → (I1 0 = some 0) → (FK n f I1 R1) → (a ≤ j) → (s_bsE f e (bc - a) p = some e) → (bsP f (j - a) p = bsP f j bp) →  pl (mT g) kf (mb_184 g).2 (40, [(0, .ref m0), (1, .int (nI j)), (2, .int (nI u)), (3, .int (nI p)), (4, .int (nI a))], [], M1) (fun v M' => (∃  (I' : rI) (R' : rR), v = some (.int (bsV f (bsP f j bp) u)) ∧ RS g m0 q z I' R' M' ∧ eqI [0] I I' ∧ eqR [] R R' ∧ I' 0 = some 0))) := by
    intro kf
    induction kf with
    | zero => exact (by intros; exact pl_0)
    | succ kf ih =>
      intro a p M1 I1 R1 hR1 hEI1 hER1 hl0 hF1 ha hf hp
      have hn := hF1.1
      have hin9 := s_bsE_in (i := a) (p := p) hf (by omega)
      refine ps_st1 (S' := (42, [(0, .ref m0), (1, .int (nI j)), (2, .int (nI u)), (3, .int (nI p)), (4, .int (nI a))], [.int (nI a)], M1)) rfl rfl rfl ?_
      refine ps_st (S' := (43, [(0, .ref m0), (1, .int (nI j)), (2, .int (nI u)), (3, .int (nI p)), (4, .int (nI a))], [.int (nI j), .int (nI a)], M1)) rfl rfl rfl ?_
      refine ps_if2 (S1 := (66, [(0, .ref m0), (1, .int (nI j)), (2, .int (nI u)), (3, .int (nI p)), (4, .int (nI a))], [], M1)) (S2 := (46, [(0, .ref m0), (1, .int (nI j)), (2, .int (nI u)), (3, .int (nI p)), (4, .int (nI a))], [], M1)) rfl rfl rfl (fun c_43 => ?_) (fun c_43 => ?_)
      · have c_43 : (nI j) ≤ (nI a) := of_decide_eq_true c_43
        have n_43 : j ≤ a := (le_nI (p := j) (n := a) (by omega) (by omega)).mp c_43
        have eP : p = bsP f j bp := by rw [← hp, show j - a = 0 by omega]; rfl
        rw [← eP] at hu
        have hu8 := by2_lt f (p + 2)
        refine ps_st (S' := (67, [(0, .ref m0), (1, .int (nI j)), (2, .int (nI u)), (3, .int (nI p)), (4, .int (nI a))], [.int (nI u)], M1)) rfl rfl rfl ?_
        refine ps_if (S1 := (76, [(0, .ref m0), (1, .int (nI j)), (2, .int (nI u)), (3, .int (nI p)), (4, .int (nI a))], [], M1)) (S2 := (70, [(0, .ref m0), (1, .int (nI j)), (2, .int (nI u)), (3, .int (nI p)), (4, .int (nI a))], [], M1)) rfl rfl rfl (fun c_67 => ?_) (fun c_67 => ?_)
        · have c_67 : ¬ (nI u) = 0 := of_decide_eq_true c_67
          have n_67 : ¬ (u = 0) := fun h9 => c_67 ((eq_nI (p := u) (n := 0) (by omega) (by decide)).mpr h9)
          refine ps_st (S' := (77, [(0, .ref m0), (1, .int (nI j)), (2, .int (nI u)), (3, .int (nI p)), (4, .int (nI a))], [.int (nI u)], M1)) rfl rfl rfl ?_
          refine ps_st (S' := (78, [(0, .ref m0), (1, .int (nI j)), (2, .int (nI u)), (3, .int (nI p)), (4, .int (nI a))], [.ref m0, .int (nI u)], M1)) rfl rfl rfl ?_
          refine ps_st (S' := (79, [(0, .ref m0), (1, .int (nI j)), (2, .int (nI u)), (3, .int (nI p)), (4, .int (nI a))], [.int (nI p), .ref m0, .int (nI u)], M1)) rfl rfl rfl ?_
          refine ps_st (S' := (80, [(0, .ref m0), (1, .int (nI j)), (2, .int (nI u)), (3, .int (nI p)), (4, .int (nI a))], [.int 2, .int (nI p), .ref m0, .int (nI u)], M1)) rfl rfl rfl ?_
          refine ps_st (S' := (81, [(0, .ref m0), (1, .int (nI j)), (2, .int (nI u)), (3, .int (nI p)), (4, .int (nI a))], [.int ((nI p) + 2), .ref m0, .int (nI u)], M1)) rfl rfl rfl ?_
          rw [nI_add1 (p := p) (k := 2) (x := 2) rfl (by omega)]
          show pl _ _ _ (_, [(0, .ref m0), (1, .int (nI j)), (2, .int (nI u)), (3, .int (nI p)), (4, .int (nI a))], [.int (nI (p + 2)), .ref m0, .int (nI u)], M1) _
          refine pl_call (a := [.ref m0, .int (nI (p + 2))]) (rest := [.int (nI u)]) rfl rfl rfl (rd_u2 (n := n) (f := f) (p := (p + 2)) hR1 hF1 (by omega)) (fun v1 M2 q3 => ?_)
          obtain ⟨rfl, rfl⟩ := q3
          show pl _ _ _ (84, [(0, .ref m0), (1, .int (nI j)), (2, .int (nI u)), (3, .int (nI p)), (4, .int (nI a))], [.int (nI (by2 f (p + 2))), .int (nI u)], M1) _
          have hu_81 := by2_lt f (p + 2)
          refine ps_if2 (S1 := (91, [(0, .ref m0), (1, .int (nI j)), (2, .int (nI u)), (3, .int (nI p)), (4, .int (nI a))], [], M1)) (S2 := (87, [(0, .ref m0), (1, .int (nI j)), (2, .int (nI u)), (3, .int (nI p)), (4, .int (nI a))], [], M1)) rfl rfl rfl (fun c_84 => ?_) (fun c_84 => ?_)
          rotate_left
          · exact absurd ((le_nI (p := u) (n := by2 f (p + 2)) (by omega) (Nat.lt_trans (by2_lt _ _) (by decide))).mpr hu) (of_decide_eq_false c_84)
          refine ps_st (S' := (92, [(0, .ref m0), (1, .int (nI j)), (2, .int (nI u)), (3, .int (nI p)), (4, .int (nI a))], [.ref m0], M1)) rfl rfl rfl ?_
          refine ps_st (S' := (93, [(0, .ref m0), (1, .int (nI j)), (2, .int (nI u)), (3, .int (nI p)), (4, .int (nI a))], [.int (nI p), .ref m0], M1)) rfl rfl rfl ?_
          refine ps_st (S' := (94, [(0, .ref m0), (1, .int (nI j)), (2, .int (nI u)), (3, .int (nI p)), (4, .int (nI a))], [.int 2, .int (nI p), .ref m0], M1)) rfl rfl rfl ?_
          refine ps_st (S' := (95, [(0, .ref m0), (1, .int (nI j)), (2, .int (nI u)), (3, .int (nI p)), (4, .int (nI a))], [.int ((nI p) + 2), .ref m0], M1)) rfl rfl rfl ?_
          rw [nI_add1 (p := p) (k := 2) (x := 2) rfl (by omega)]
          show pl _ _ _ (_, [(0, .ref m0), (1, .int (nI j)), (2, .int (nI u)), (3, .int (nI p)), (4, .int (nI a))], [.int (nI (p + 2)), .ref m0], M1) _
          refine ps_st (S' := (96, [(0, .ref m0), (1, .int (nI j)), (2, .int (nI u)), (3, .int (nI p)), (4, .int (nI a))], [.int 2, .int (nI (p + 2)), .ref m0], M1)) rfl rfl rfl ?_
          refine ps_st (S' := (97, [(0, .ref m0), (1, .int (nI j)), (2, .int (nI u)), (3, .int (nI p)), (4, .int (nI a))], [.int (nI u), .int 2, .int (nI (p + 2)), .ref m0], M1)) rfl rfl rfl ?_
          refine ps_st (S' := (98, [(0, .ref m0), (1, .int (nI j)), (2, .int (nI u)), (3, .int (nI p)), (4, .int (nI a))], [.int (2 * (nI u)), .int (nI (p + 2)), .ref m0], M1)) rfl rfl rfl ?_
          rw [nI_mul1 (p := 2) (k := u) (x := 2) (y := (nI u)) rfl rfl (by omega)]
          show pl _ _ _ (_, [(0, .ref m0), (1, .int (nI j)), (2, .int (nI u)), (3, .int (nI p)), (4, .int (nI a))], [.int (nI (2 * u)), .int (nI (p + 2)), .ref m0], M1) _
          refine ps_st (S' := (99, [(0, .ref m0), (1, .int (nI j)), (2, .int (nI u)), (3, .int (nI p)), (4, .int (nI a))], [.int ((nI (p + 2)) + (nI (2 * u))), .ref m0], M1)) rfl rfl rfl ?_
          rw [nI_add1 (p := p + 2) (k := 2 * u) (x := (nI (2 * u))) rfl (by omega)]
          show pl _ _ _ (_, [(0, .ref m0), (1, .int (nI j)), (2, .int (nI u)), (3, .int (nI p)), (4, .int (nI a))], [.int (nI (p + 2 + 2 * u)), .ref m0], M1) _
          refine pl_call (a := [.ref m0, .int (nI (p + 2 + 2 * u))]) (rest := []) rfl rfl rfl (rd_u2 (n := n) (f := f) (p := (p + 2 + 2 * u)) hR1 hF1 (by omega)) (fun v4 M5 q6 => ?_)
          obtain ⟨rfl, rfl⟩ := q6
          show pl _ _ _ (102, [], [.int (nI (by2 f (p + 2 + 2 * u)))], M1) _
          have hu_99 := by2_lt f (p + 2 + 2 * u)
          exact ps_reti rfl (⟨I1, R1, congrArg (fun x => some (Value.int x)) (show (nI (by2 f (p + 2 + 2 * u))) = bsV f (bsP f j bp) u from by rw [← eP]; unfold bsV; rw [if_neg (by omega)]), hR1, hEI1, hER1, hl0⟩)
        · have c_67 : ¬ (¬ (nI u) = 0) := of_decide_eq_false c_67
          have n_67 : u = 0 := (eq_nI (p := u) (n := 0) (by omega) (by decide)).mp (Decidable.not_not.mp c_67)
          refine ps_st (S' := (71, [(0, .ref m0), (1, .int (nI j)), (2, .int (nI u)), (3, .int (nI p)), (4, .int (nI a))], [.ref m0], M1)) rfl rfl rfl ?_
          refine ps_st (S' := (72, [(0, .ref m0), (1, .int (nI j)), (2, .int (nI u)), (3, .int (nI p)), (4, .int (nI a))], [.int (nI p), .ref m0], M1)) rfl rfl rfl ?_
          refine pl_call (a := [.ref m0, .int (nI p)]) (rest := []) rfl rfl rfl (rd_u2 (n := n) (f := f) (p := p) hR1 hF1 (by omega)) (fun v7 M8 q9 => ?_)
          obtain ⟨rfl, rfl⟩ := q9
          show pl _ _ _ (75, [(0, .ref m0), (1, .int (nI j)), (2, .int (nI u)), (3, .int (nI p)), (4, .int (nI a))], [.int (nI (by2 f p))], M1) _
          have hu_72 := by2_lt f p
          exact ps_reti rfl (⟨I1, R1, congrArg (fun x => some (Value.int x)) (show (nI (by2 f p)) = bsV f (bsP f j bp) u from by rw [← eP]; unfold bsV; rw [if_pos (by omega)]), hR1, hEI1, hER1, hl0⟩)
      · have c_43 : ¬ ((nI j) ≤ (nI a)) := of_decide_eq_false c_43
        have n_43 : ¬ (j ≤ a) := fun h9 => c_43 ((le_nI (p := j) (n := a) (by omega) (by omega)).mpr h9)
        refine ps_st (S' := (47, [(0, .ref m0), (1, .int (nI j)), (2, .int (nI u)), (3, .int (nI p)), (4, .int (nI a))], [.int (nI p)], M1)) rfl rfl rfl ?_
        refine ps_st (S' := (48, [(0, .ref m0), (1, .int (nI j)), (2, .int (nI u)), (3, .int (nI p)), (4, .int (nI a))], [.int 4, .int (nI p)], M1)) rfl rfl rfl ?_
        refine ps_st (S' := (49, [(0, .ref m0), (1, .int (nI j)), (2, .int (nI u)), (3, .int (nI p)), (4, .int (nI a))], [.int 2, .int 4, .int (nI p)], M1)) rfl rfl rfl ?_
        refine ps_st (S' := (50, [(0, .ref m0), (1, .int (nI j)), (2, .int (nI u)), (3, .int (nI p)), (4, .int (nI a))], [.ref m0, .int 2, .int 4, .int (nI p)], M1)) rfl rfl rfl ?_
        refine ps_st (S' := (51, [(0, .ref m0), (1, .int (nI j)), (2, .int (nI u)), (3, .int (nI p)), (4, .int (nI a))], [.int (nI p), .ref m0, .int 2, .int 4, .int (nI p)], M1)) rfl rfl rfl ?_
        refine ps_st (S' := (52, [(0, .ref m0), (1, .int (nI j)), (2, .int (nI u)), (3, .int (nI p)), (4, .int (nI a))], [.int 2, .int (nI p), .ref m0, .int 2, .int 4, .int (nI p)], M1)) rfl rfl rfl ?_
        refine ps_st (S' := (53, [(0, .ref m0), (1, .int (nI j)), (2, .int (nI u)), (3, .int (nI p)), (4, .int (nI a))], [.int ((nI p) + 2), .ref m0, .int 2, .int 4, .int (nI p)], M1)) rfl rfl rfl ?_
        rw [nI_add1 (p := p) (k := 2) (x := 2) rfl (by omega)]
        show pl _ _ _ (_, [(0, .ref m0), (1, .int (nI j)), (2, .int (nI u)), (3, .int (nI p)), (4, .int (nI a))], [.int (nI (p + 2)), .ref m0, .int 2, .int 4, .int (nI p)], M1) _
        refine pl_call (a := [.ref m0, .int (nI (p + 2))]) (rest := [.int 2, .int 4, .int (nI p)]) rfl rfl rfl (rd_u2 (n := n) (f := f) (p := (p + 2)) hR1 hF1 (by omega)) (fun v10 M11 q12 => ?_)
        obtain ⟨rfl, rfl⟩ := q12
        show pl _ _ _ (56, [(0, .ref m0), (1, .int (nI j)), (2, .int (nI u)), (3, .int (nI p)), (4, .int (nI a))], [.int (nI (by2 f (p + 2))), .int 2, .int 4, .int (nI p)], M1) _
        have hu_53 := by2_lt f (p + 2)
        refine ps_st (S' := (57, [(0, .ref m0), (1, .int (nI j)), (2, .int (nI u)), (3, .int (nI p)), (4, .int (nI a))], [.int (2 * (nI (by2 f (p + 2)))), .int 4, .int (nI p)], M1)) rfl rfl rfl ?_
        rw [nI_mul1 (p := 2) (k := by2 f (p + 2)) (x := 2) (y := (nI (by2 f (p + 2)))) rfl rfl (by omega)]
        show pl _ _ _ (_, [(0, .ref m0), (1, .int (nI j)), (2, .int (nI u)), (3, .int (nI p)), (4, .int (nI a))], [.int (nI (2 * (by2 f (p + 2)))), .int 4, .int (nI p)], M1) _
        refine ps_st (S' := (58, [(0, .ref m0), (1, .int (nI j)), (2, .int (nI u)), (3, .int (nI p)), (4, .int (nI a))], [.int (4 + (nI (2 * (by2 f (p + 2))))), .int (nI p)], M1)) rfl rfl rfl ?_
        rw [nI_add2 (p := 4) (k := 2 * (by2 f (p + 2))) (x := 4) (y := (nI (2 * (by2 f (p + 2))))) rfl rfl (by omega)]
        show pl _ _ _ (_, [(0, .ref m0), (1, .int (nI j)), (2, .int (nI u)), (3, .int (nI p)), (4, .int (nI a))], [.int (nI (4 + 2 * (by2 f (p + 2)))), .int (nI p)], M1) _
        refine ps_st (S' := (59, [(0, .ref m0), (1, .int (nI j)), (2, .int (nI u)), (3, .int (nI p)), (4, .int (nI a))], [.int ((nI p) + (nI (4 + 2 * (by2 f (p + 2)))))], M1)) rfl rfl rfl ?_
        rw [nI_add1 (p := p) (k := 4 + 2 * (by2 f (p + 2))) (x := (nI (4 + 2 * (by2 f (p + 2))))) rfl (by omega)]
        rw [show nI (p + (4 + 2 * (by2 f (p + 2)))) = nI (p + 4 + 2 * (by2 f (p + 2))) from congrArg nI (by omega)]
        show pl _ _ _ (_, [(0, .ref m0), (1, .int (nI j)), (2, .int (nI u)), (3, .int (nI p)), (4, .int (nI a))], [.int (nI (p + 4 + 2 * (by2 f (p + 2))))], M1) _
        refine ps_st (S' := (60, [(3, .int (nI (p + 4 + 2 * (by2 f (p + 2))))), (0, .ref m0), (1, .int (nI j)), (2, .int (nI u)), (4, .int (nI a))], [], M1)) rfl rfl rfl ?_
        refine ps_st (S' := (63, [(4, .int ((nI a) + 1)), (3, .int (nI (p + 4 + 2 * (by2 f (p + 2))))), (0, .ref m0), (1, .int (nI j)), (2, .int (nI u))], [], M1)) rfl rfl rfl ?_
        rw [nI_add1 (p := a) (k := 1) (x := 1) rfl (by omega)]
        show pl _ _ _ (_, [(4, .int (nI (a + 1))), (3, .int (nI (p + 4 + 2 * (by2 f (p + 2))))), (0, .ref m0), (1, .int (nI j)), (2, .int (nI u))], [], M1) _
        refine ps_st (S' := (40, [(0, .ref m0), (1, .int (nI j)), (2, .int (nI u)), (3, .int (nI (p + 4 + 2 * (by2 f (p + 2))))), (4, .int (nI (a + 1)))], [], M1)) rfl rfl rfl ?_
        exact ih (a + 1) (p + 4 + 2 * by2 f (p + 2)) M1 I1 R1 hR1 hEI1 hER1 hl0 hF1 (by omega) (hin9.2.2) (by
            rw [← hp, bsP_st (i := a) (by omega)])
  refine ps_st (S' := (1, [(0, .ref m0), (1, .int (nI j)), (2, .int (nI u))], [.ref m0], M)) rfl rfl rfl ?_
  refine ps_st (S' := (2, [(0, .ref m0), (1, .int (nI j)), (2, .int (nI u))], [.int 0, .ref m0], M)) rfl rfl rfl ?_
  refine pr_put (j := 0) rfl hR rfl (fun M13 I14 hR15 hi16 hI17 => ?_)
  have hi19 := (hI17 18 (by decide)).trans hi18
  have hi20 := (hI17 71 (by decide)).trans hi71
  have hi21 := (hI17 70 (by decide)).trans hi70
  have hF_22 := hF.mono (pIx hI17 (by decide)) (fun _ _ => rfl)
  have hEI23 := hEI.put hI17 (by decide)
  show pl _ _ _ (5, [(0, .ref m0), (1, .int (nI j)), (2, .int (nI u))], [], M13) _
  refine ps_st (S' := (6, [(0, .ref m0), (1, .int (nI j)), (2, .int (nI u))], [.ref m0], M13)) rfl rfl rfl ?_
  refine pr_int (j := 18) (S' := (9, [(0, .ref m0), (1, .int (nI j)), (2, .int (nI u))], [.int (nI n2)], M13)) rfl hR15 rfl hi19 rfl ?_
  refine ps_if (S1 := (28, [], [], M13)) (S2 := (12, [(0, .ref m0), (1, .int (nI j)), (2, .int (nI u))], [], M13)) rfl rfl rfl (fun c_9 => ?_) (fun c_9 => ?_)
  · exact absurd (of_decide_eq_true c_9) (show ¬ ((nI n2) < 0) from fun h9 => absurd ((lt_nI (p := n2) (n := 0) (by omega) (by decide)).mp h9) (by omega))
  refine ps_st (S' := (13, [(0, .ref m0), (1, .int (nI j)), (2, .int (nI u))], [.int (nI j)], M13)) rfl rfl rfl ?_
  refine ps_if (S1 := (28, [], [], M13)) (S2 := (16, [(0, .ref m0), (1, .int (nI j)), (2, .int (nI u))], [], M13)) rfl rfl rfl (fun c_13 => ?_) (fun c_13 => ?_)
  · exact absurd (of_decide_eq_true c_13) (show ¬ ((nI j) < 0) from fun h9 => absurd ((lt_nI (p := j) (n := 0) (by omega) (by decide)).mp h9) (by omega))
  refine ps_st (S' := (17, [(0, .ref m0), (1, .int (nI j)), (2, .int (nI u))], [.int (nI j)], M13)) rfl rfl rfl ?_
  refine ps_st (S' := (18, [(0, .ref m0), (1, .int (nI j)), (2, .int (nI u))], [.ref m0, .int (nI j)], M13)) rfl rfl rfl ?_
  refine pr_int (j := 71) (S' := (21, [(0, .ref m0), (1, .int (nI j)), (2, .int (nI u))], [.int (nI bc), .int (nI j)], M13)) rfl hR15 rfl hi20 rfl ?_
  refine ps_if2 (S1 := (28, [], [], M13)) (S2 := (24, [(0, .ref m0), (1, .int (nI j)), (2, .int (nI u))], [], M13)) rfl rfl rfl (fun c_21 => ?_) (fun c_21 => ?_)
  · exact absurd (of_decide_eq_true c_21) (Int32.not_le.mpr ((lt_nI (by omega) (by omega)).mpr hj))
  refine ps_st (S' := (25, [(0, .ref m0), (1, .int (nI j)), (2, .int (nI u))], [.int (nI u)], M13)) rfl rfl rfl ?_
  refine ps_if (S1 := (30, [(0, .ref m0), (1, .int (nI j)), (2, .int (nI u))], [], M13)) (S2 := (28, [], [], M13)) rfl rfl rfl (fun c_25 => ?_) (fun c_25 => ?_)
  rotate_left
  · exact absurd ((le_nI (p := 0) (n := u) (by decide) (by omega)).mpr (by omega)) (of_decide_eq_false c_25)
  refine ps_st (S' := (31, [(0, .ref m0), (1, .int (nI j)), (2, .int (nI u))], [.ref m0], M13)) rfl rfl rfl ?_
  refine pr_int (j := 70) (S' := (34, [(0, .ref m0), (1, .int (nI j)), (2, .int (nI u))], [.int (nI (bp - 2))], M13)) rfl hR15 rfl hi21 rfl ?_
  refine ps_st (S' := (35, [(0, .ref m0), (1, .int (nI j)), (2, .int (nI u))], [.int 2, .int (nI (bp - 2))], M13)) rfl rfl rfl ?_
  refine ps_st (S' := (36, [(0, .ref m0), (1, .int (nI j)), (2, .int (nI u))], [.int ((nI (bp - 2)) + 2)], M13)) rfl rfl rfl ?_
  rw [nI_add1 (p := bp - 2) (k := 2) (x := 2) rfl (by omega)]
  show pl _ _ _ (_, [(0, .ref m0), (1, .int (nI j)), (2, .int (nI u))], [.int (nI (bp - 2 + 2))], M13) _
  refine ps_st (S' := (37, [(3, .int (nI (bp - 2 + 2))), (0, .ref m0), (1, .int (nI j)), (2, .int (nI u))], [], M13)) rfl rfl rfl ?_
  rw [show bp - 2 + 2 = bp by omega]
  show pl _ _ _ (37, [(3, .int (nI bp)), (0, .ref m0), (1, .int (nI j)), (2, .int (nI u))], [], M13) _
  refine ps_st (S' := (38, [(3, .int (nI bp)), (0, .ref m0), (1, .int (nI j)), (2, .int (nI u))], [.int 0], M13)) rfl rfl rfl ?_
  refine ps_st (S' := (40, [(0, .ref m0), (1, .int (nI j)), (2, .int (nI u)), (3, .int (nI bp)), (4, .int 0)], [], M13)) rfl rfl rfl ?_
  exact (LL kf) (0) (bp) M13 I14 R hR15 hEI23 hER hi16 hF_22 (by omega) (hbs) (rfl)
theorem rd_bootstrap {g : xe_G} {m0 : Nat} {q : Nat → Nat} {z : Nat × Nat} {I : rI} {R : rR} {M : mi_H} {ko : Option (Nat × (Nat → Int32))} {i t : Int32} (hR : RS g m0 q z I R M) (hK : KPR ko I R) : pt (mT g) 184 [.ref m0, .int i, .int t] M (fun v M' => ∃ (I' : rI) (R' : rR), v = some (.int (bsK ko i t)) ∧ RS g m0 q z I' R' M' ∧ eqI [0] I I' ∧ eqR [] R R' ∧ I' 0 = some 0) := by
  cases ko with
  | none =>
    obtain ⟨kn, h1, h2⟩ := hK
    exact rd_bootstrap0 hR h1 h2
  | some r =>
    obtain ⟨h1, h2, -, -, tx, cN, A, E, N, mj, p1, pF, pM, pA, k1, k2, k3, k4, k5, k6, k7, rfl, rfl, m1, m2, m3, m4, m5, m6, m7, m8, -, bc, K, m9, m10, g1, g2, g3, g4, g5, g6, g7⟩ := hK
    rw [bsK_is k7 m9 m10]
    unfold bsI
    by_cases hi : i < 0 ∨ nI bc ≤ i
    · rw [if_pos hi]
      exact rd_bootstrapN hR h1 g1 h2 (Or.inl hi)
    · rw [if_neg hi]
      have hbc := clS_bc m9
      obtain ⟨ei, hj⟩ := i32_in (by omega) hi
      obtain ⟨j, ej⟩ : ∃ j, j = i.toNatClampNeg := ⟨_, rfl⟩
      rw [← ej] at ei hj ⊢
      rcases cl_bt m8 m9 m10 with h9 | ⟨hbp, e, he, hbs⟩
      · omega
      · have g8 : I 70 = some (nI (K.2.1 - 2)) := by
          rw [g6]
          unfold b7
          rw [if_neg (by omega)]
        by_cases ht : t < 0 ∨ nI (by2 r.2 (bsP r.2 j K.2.1 + 2)) < t
        · rw [if_pos ht]
          by_cases h0 : t < 0
          · exact rd_bootstrapN hR h1 g1 h2 (Or.inr h0)
          · rw [ei]
            exact rd_bootstrapB hR h1 g1 g8 k1 h2 hbp hbc hj he hbs h0 (ht.resolve_left h0)
        · rw [if_neg ht]
          have hu7 := by2_lt r.2 (bsP r.2 j K.2.1 + 2)
          have h0 : ¬ t < 0 := fun q => ht (Or.inl q)
          have et := i32_nn h0
          have hle : t.toNatClampNeg ≤ by2 r.2 (bsP r.2 j K.2.1 + 2) := by
            have h1 := Int32.le_iff_toInt_le.mp (Int32.not_lt.mp (fun q => ht (Or.inr q)))
            rw [nI_val (by omega)] at h1
            have h2 := i32_to h0
            omega
          obtain ⟨u, eu⟩ : ∃ u, u = t.toNatClampNeg := ⟨_, rfl⟩
          rw [← eu] at et hle ⊢
          rw [ei, et]
          exact rd_bootstrapG hR h1 g1 g8 k1 h2 hbp hbc hj he hbs hle
end
section
/-! the counts, as both sides tell them (my own text) -/
section CNA
variable {f : Nat → Int32} {n N : Nat} {E : List (Nat × Nat)}
end CNA
end
section

end
section
/-! members and rows, as both sides tell them (my own text) -/
section MEA
variable {f : Nat → Int32} {n : Nat} {E : List (Nat × Nat)}
/-- a Code attribute's form is well in the file -/
def CIN (f : Nat → Int32) (n cp : Nat) : Prop := cp + 14 + by4 f (cp + 10) + 2 + 8 * by2 f (cp + 14 + by4 f (cp + 10)) + 2 ≤ n ∧ 1 ≤ by4 f (cp + 10) ∧ by4 f (cp + 10) ≤ 65535
theorem ma_in {mj w : Nat} : ∀ {r p s h h' e0 : Nat} {K : Nat × Nat × Nat}, maS f n E mj w r p s h = .inr h' → s_atts f n r p = .inr e0 → (maU f n E r p K).2.1 = K.2.1 ∨ CIN f n (maU f n E r p K).2.1 := by
  intro r
  induction r with
  | zero => intro p s h h' e0 K _ _; exact Or.inl rfl
  | succ r ih =>
    intro p s h h' e0 K h1 h2
    obtain ⟨a1, a2, a3⟩ := s_atts_in (c := r + 1) (i := 0) h2 (Nat.succ_pos r)
    have a3 : s_atts f n r (p + 6 + by4 f (p + 2)) = .inr e0 := a3
    have hU : maU f n E (r + 1) p K = maU f n E r (p + 6 + by4 f (p + 2)) (stM f (mkN f n E (by2 f p)) p K) := rfl
    rw [hU]
    unfold maS at h1
    split at h1
    · cases h1
    · split at h1
      · cases h1
      · rename_i hf
        split at h1
        · rename_i h2k
          split at h1
          · cases h1
          · rename_i s2 hcd
            have h9 := Decidable.not_not.mp (fun h9 => hf ⟨by omega, h9⟩)
            rw [h2k] at h9
            have hin := (s_cdE_in ((s_fe_in h9).2.2.2.2.2.2 rfl)).1
            have hin2 : p + 14 + by4 f (p + 10) + 2 + 8 * by2 f (p + 14 + by4 f (p + 10)) + 2 ≤ p + 6 + by4 f (p + 2) := hin
            have hlen : 1 ≤ by4 f (p + 10) ∧ by4 f (p + 10) ≤ 65535 := by
              unfold cdS at hcd
              split at hcd
              · cases hcd
              · omega
            rcases ih (K := stM f (mkN f n E (by2 f p)) p K) h1 a3 with h3 | h3
            · refine Or.inr ?_
              rw [h3, h2k, stM_2]
              exact ⟨by show p + 14 + by4 f (p + 10) + 2 + 8 * by2 f (p + 14 + by4 f (p + 10)) + 2 ≤ n; omega, hlen⟩
            · exact Or.inr h3
        · split at h1
          · cases h1
          · rename_i h2k h3k
            rcases ih (K := stM f (mkN f n E (by2 f p)) p K) h1 a3 with h3 | h3
            · refine Or.inl ?_
              rw [h3]
              unfold stM
              exact if_neg h2k
            · exact Or.inr h3
theorem mtS_in {c mj : Nat} {B : List Nat} : ∀ {r i : Nat}, mtS f n E c mj B r i = none → ∀ j, i ≤ j → j < i + r → mhS f n E c mj B j (B.getD j 0) = none ∧ ∃ h, maS f n E mj (apN f n E (B.getD j 0)) (by2 f (B.getD j 0 + 6)) (B.getD j 0 + 8) 0 0 = .inr h := by
  intro r
  induction r with
  | zero => intro i _ j h1 h2; exact absurd h2 (by omega)
  | succ r ih =>
    intro i h j h1 h2
    unfold mtS at h
    split at h
    · cases h
    · rename_i hm
      split at h
      · cases h
      · rename_i hh he
        split at h
        · cases h
        · by_cases e : j = i
          · subst e
            exact ⟨hm, _, he⟩
          · exact ih h j (by omega) (by omega)
theorem rd_mt {p1 pF pM pA : Nat} (h : s_whole f n = .inr (E, p1, pF, pM, pA)) (hr : s_read f n = none) : mtS f n E (by2 f p1) (by2 f 6) (mbs f n (by2 f pM) (pM + 2)) (mbs f n (by2 f pM) (pM + 2)).length 0 = none := by
  unfold s_read at hr
  rw [h] at hr
  dsimp only at hr
  unfold s_chk at hr
  split at hr
  · cases hr
  · split at hr
    · cases hr
    · split at hr
      · cases hr
      · split at hr
        · cases hr
        · split at hr
          · cases hr
          · rename_i he
            exact he
/-- a method's code is well in the file -/
theorem code_in {p1 pF pM pA j : Nat} (h : s_whole f n = .inr (E, p1, pF, pM, pA)) (hr : s_read f n = none) (hm : s_mbs f n pM = .inr pA) (hj : j < (mbs f n (by2 f pM) (pM + 2)).length) : (mK f n E ((mbs f n (by2 f pM) (pM + 2)).getD j 0)).2.1 = 0 ∨ CIN f n (mK f n E ((mbs f n (by2 f pM) (pM + 2)).getD j 0)).2.1 := by
  obtain ⟨-, h9, hma⟩ := mtS_in (rd_mt h hr) j (Nat.zero_le _) (by omega)
  have hm2 : s_mems f n (by2 f pM) (pM + 2) = .inr pA := by
    unfold s_mbs at hm
    split at hm
    · cases hm
    · exact hm
  obtain ⟨-, e0, hat⟩ := (mbs_in hm2).2 j hj
  exact ma_in (K := (0, 0, 0)) hma hat
end MEA
set_option maxHeartbeats 1000000 in
theorem dk_memberAtNM {g : xe_G} {M : mi_H} {c b q fr mr l : Nat} {u2 u3 u4 u5 : Int32} {w : List Value} {R : Nat → Value} {t i : Int32} (h_c : M.1 c = some (ob 3 (.ref b :: .ref q :: .int u2 :: .int u3 :: .int u4 :: .int u5 :: .ref fr :: .ref mr :: w))) (h_mr : M.1 mr = some (ro "ClassGate$Member" l R)) (ht : ¬ t = 0) (hi : i < 0 ∨ nI l ≤ i) : pt (mT g) 72 [.ref c, .int t, .int i] M (fun v M' => (v = some (.null) ∧ M = M')) := by
  refine pt_in (b := mb_72 g) rfl (fun kf => ?_)
  show pl (mT g) kf (mb_72 g).2 (0, [(0, .ref c), (1, .int t), (2, .int i)], [], M) _
  refine ps_st (S' := (1, [(0, .ref c), (1, .int t), (2, .int i)], [.int t], M)) rfl rfl rfl ?_
  refine ps_if (S1 := (11, [(0, .ref c), (1, .int t), (2, .int i)], [], M)) (S2 := (4, [(0, .ref c), (1, .int t), (2, .int i)], [], M)) rfl rfl rfl (fun c_1 => ?_) (fun c_1 => ?_)
  · exact absurd (of_decide_eq_true c_1) (ht)
  refine ps_st (S' := (5, [(0, .ref c), (1, .int t), (2, .int i)], [.ref c], M)) rfl rfl rfl ?_
  refine ps_get (S' := (8, [(0, .ref c), (1, .int t), (2, .int i)], [.ref mr], M)) rfl h_c rfl rfl ?_
  refine ps_st (S' := (15, [(2, .int i)], [.ref mr], M)) rfl rfl rfl ?_
  refine ps_st (S' := (16, [(3, .ref mr), (2, .int i)], [], M)) rfl rfl rfl ?_
  refine ps_st (S' := (17, [(3, .ref mr), (2, .int i)], [.int i], M)) rfl rfl rfl ?_
  refine ps_if (S1 := (26, [], [], M)) (S2 := (20, [(3, .ref mr), (2, .int i)], [], M)) rfl rfl rfl (fun c_17 => ?_) (fun c_17 => ?_)
  · have c_17 : i < 0 := of_decide_eq_true c_17
    refine ps_st (S' := (27, [], [.null], M)) rfl rfl rfl ?_
    refine ps_st (S' := (33, [], [.null], M)) rfl rfl rfl ?_
    exact ps_ret rfl rfl (⟨rfl, rfl⟩)
  · have c_17 : ¬ (i < 0) := of_decide_eq_false c_17
    refine ps_st (S' := (21, [(3, .ref mr), (2, .int i)], [.int i], M)) rfl rfl rfl ?_
    refine ps_st (S' := (22, [(3, .ref mr), (2, .int i)], [.ref mr, .int i], M)) rfl rfl rfl ?_
    refine ps_aalen (S' := (23, [(3, .ref mr), (2, .int i)], [.int (nI l), .int i], M)) rfl h_mr rfl ?_
    refine ps_if2 (S1 := (30, [(3, .ref mr), (2, .int i)], [], M)) (S2 := (26, [], [], M)) rfl rfl rfl (fun c_23 => ?_) (fun c_23 => ?_)
    · exact absurd (of_decide_eq_true c_23) (Int32.not_lt.mpr (hi.resolve_left c_17))
    refine ps_st (S' := (27, [], [.null], M)) rfl rfl rfl ?_
    refine ps_st (S' := (33, [], [.null], M)) rfl rfl rfl ?_
    exact ps_ret rfl rfl (⟨rfl, rfl⟩)
set_option maxHeartbeats 1000000 in
theorem dk_memberAtM {g : xe_G} {M : mi_H} {c b q fr mr l : Nat} {u2 u3 u4 u5 : Int32} {w : List Value} {R : Nat → Value} {t : Int32} {k a : Nat} (h_c : M.1 c = some (ob 3 (.ref b :: .ref q :: .int u2 :: .int u3 :: .int u4 :: .int u5 :: .ref fr :: .ref mr :: w))) (h_mr : M.1 mr = some (ro "ClassGate$Member" l R)) (ht : ¬ t = 0) (hk : k < l) (hl : l < 65536) (hR : R k = .ref a) : pt (mT g) 72 [.ref c, .int t, .int (nI k)] M (fun v M' => (v = some (.ref a) ∧ M = M')) := by
  refine pt_in (b := mb_72 g) rfl (fun kf => ?_)
  show pl (mT g) kf (mb_72 g).2 (0, [(0, .ref c), (1, .int t), (2, .int (nI k))], [], M) _
  refine ps_st (S' := (1, [(0, .ref c), (1, .int t), (2, .int (nI k))], [.int t], M)) rfl rfl rfl ?_
  refine ps_if (S1 := (11, [(0, .ref c), (1, .int t), (2, .int (nI k))], [], M)) (S2 := (4, [(0, .ref c), (1, .int t), (2, .int (nI k))], [], M)) rfl rfl rfl (fun c_1 => ?_) (fun c_1 => ?_)
  · exact absurd (of_decide_eq_true c_1) (ht)
  refine ps_st (S' := (5, [(0, .ref c), (1, .int t), (2, .int (nI k))], [.ref c], M)) rfl rfl rfl ?_
  refine ps_get (S' := (8, [(0, .ref c), (1, .int t), (2, .int (nI k))], [.ref mr], M)) rfl h_c rfl rfl ?_
  refine ps_st (S' := (15, [(2, .int (nI k))], [.ref mr], M)) rfl rfl rfl ?_
  refine ps_st (S' := (16, [(3, .ref mr), (2, .int (nI k))], [], M)) rfl rfl rfl ?_
  refine ps_st (S' := (17, [(3, .ref mr), (2, .int (nI k))], [.int (nI k)], M)) rfl rfl rfl ?_
  refine ps_if (S1 := (26, [], [], M)) (S2 := (20, [(3, .ref mr), (2, .int (nI k))], [], M)) rfl rfl rfl (fun c_17 => ?_) (fun c_17 => ?_)
  · exact absurd (of_decide_eq_true c_17) (nI_n0 (by omega))
  refine ps_st (S' := (21, [(3, .ref mr), (2, .int (nI k))], [.int (nI k)], M)) rfl rfl rfl ?_
  refine ps_st (S' := (22, [(3, .ref mr), (2, .int (nI k))], [.ref mr, .int (nI k)], M)) rfl rfl rfl ?_
  refine ps_aalen (S' := (23, [(3, .ref mr), (2, .int (nI k))], [.int (nI l), .int (nI k)], M)) rfl h_mr rfl ?_
  refine ps_if2 (S1 := (30, [(3, .ref mr), (2, .int (nI k))], [], M)) (S2 := (26, [], [], M)) rfl rfl rfl (fun c_23 => ?_) (fun c_23 => ?_)
  rotate_left
  · exact absurd ((lt_nI (p := k) (n := l) (by omega) (by omega)).mpr hk) (of_decide_eq_false c_23)
  refine ps_st (S' := (31, [(3, .ref mr), (2, .int (nI k))], [.ref mr], M)) rfl rfl rfl ?_
  refine ps_st (S' := (32, [(3, .ref mr), (2, .int (nI k))], [.int (nI k), .ref mr], M)) rfl rfl rfl ?_
  refine ps_aald (S' := (33, [], [.ref a], M)) rfl h_mr (⟨by omega, hR⟩) rfl ?_
  exact ps_ret rfl rfl (⟨rfl, rfl⟩)
set_option maxHeartbeats 1000000 in
theorem dk_codeOf0 {g : xe_G} {M : mi_H} {o ca fl : Nat} {cn wp m : Int32} (h_o : M.1 o = some (ob 11 [.ref ca, .int cn, .ref fl, .null, .int wp]))  : pt (mT g) 4 [.ref o, .int m] M (fun v M' => (v = some (.null) ∧ M = M')) := by
  refine pt_in (b := mb_4 g) rfl (fun kf => ?_)
  show pl (mT g) kf (mb_4 g).2 (0, [(0, .ref o), (1, .int m)], [], M) _
  refine ps_st (S' := (1, [(0, .ref o), (1, .int m)], [.ref o], M)) rfl rfl rfl ?_
  refine ps_get (S' := (4, [(0, .ref o), (1, .int m)], [.null], M)) rfl h_o rfl rfl ?_
  refine ps_st (S' := (7, [(0, .ref o), (1, .int m)], [], M)) rfl rfl rfl ?_
  refine ps_st (S' := (8, [(0, .ref o), (1, .int m)], [.null], M)) rfl rfl rfl ?_
  refine ps_st (S' := (20, [], [.null], M)) rfl rfl rfl ?_
  refine ps_st (S' := (21, [(2, .null)], [], M)) rfl rfl rfl ?_
  refine ps_st (S' := (22, [(2, .null)], [.null], M)) rfl rfl rfl ?_
  refine ps_st (S' := (25, [(2, .null)], [], M)) rfl rfl rfl ?_
  refine ps_st (S' := (26, [(2, .null)], [.null], M)) rfl rfl rfl ?_
  refine ps_st (S' := (33, [], [.null], M)) rfl rfl rfl ?_
  exact ps_ret rfl rfl (⟨rfl, rfl⟩)
set_option maxHeartbeats 1000000 in
theorem dk_codeOfN {g : xe_G} {M : mi_H} {o ca fl : Nat} {cn wp : Int32} {c b q fr mr l : Nat} {u2 u3 u4 u5 : Int32} {w : List Value} {R : Nat → Value} {m : Int32} (h_o : M.1 o = some (ob 11 [.ref ca, .int cn, .ref fl, .ref c, .int wp])) (h_c : M.1 c = some (ob 3 (.ref b :: .ref q :: .int u2 :: .int u3 :: .int u4 :: .int u5 :: .ref fr :: .ref mr :: w))) (h_mr : M.1 mr = some (ro "ClassGate$Member" l R)) (hi : m < 0 ∨ nI l ≤ m) : pt (mT g) 4 [.ref o, .int m] M (fun v M' => (v = some (.null) ∧ M = M')) := by
  refine pt_in (b := mb_4 g) rfl (fun kf => ?_)
  show pl (mT g) kf (mb_4 g).2 (0, [(0, .ref o), (1, .int m)], [], M) _
  refine ps_st (S' := (1, [(0, .ref o), (1, .int m)], [.ref o], M)) rfl rfl rfl ?_
  refine ps_get (S' := (4, [(0, .ref o), (1, .int m)], [.ref c], M)) rfl h_o rfl rfl ?_
  refine ps_st (S' := (11, [(0, .ref o), (1, .int m)], [], M)) rfl rfl rfl ?_
  refine ps_st (S' := (12, [(0, .ref o), (1, .int m)], [.ref o], M)) rfl rfl rfl ?_
  refine ps_get (S' := (15, [(0, .ref o), (1, .int m)], [.ref c], M)) rfl h_o rfl rfl ?_
  refine ps_st (S' := (16, [(0, .ref o), (1, .int m)], [.int 1, .ref c], M)) rfl rfl rfl ?_
  refine ps_st (S' := (17, [(0, .ref o), (1, .int m)], [.int m, .int 1, .ref c], M)) rfl rfl rfl ?_
  refine pl_call (a := [.ref c, .int 1, .int m]) (rest := []) rfl rfl rfl (dk_memberAtNM (c := c) (b := b) (q := q) (fr := fr) (mr := mr) (l := l) (u2 := u2) (u3 := u3) (u4 := u4) (u5 := u5) (w := w) (R := R) (t := 1) (i := m) h_c h_mr (by decide) (hi)) (fun v1 M2 q3 => ?_)
  obtain ⟨rfl, rfl⟩ := q3
  show pl _ _ _ (20, [], [.null], M) _
  refine ps_st (S' := (21, [(2, .null)], [], M)) rfl rfl rfl ?_
  refine ps_st (S' := (22, [(2, .null)], [.null], M)) rfl rfl rfl ?_
  refine ps_st (S' := (25, [(2, .null)], [], M)) rfl rfl rfl ?_
  refine ps_st (S' := (26, [(2, .null)], [.null], M)) rfl rfl rfl ?_
  refine ps_st (S' := (33, [], [.null], M)) rfl rfl rfl ?_
  exact ps_ret rfl rfl (⟨rfl, rfl⟩)
set_option maxHeartbeats 1000000 in
theorem dk_codeOfB {g : xe_G} {M : mi_H} {o ca fl : Nat} {cn wp : Int32} {c b q fr mr l : Nat} {u2 u3 u4 u5 : Int32} {w : List Value} {R : Nat → Value} {a : Nat} {m0 m1 m2 m3 m4 m5 m6 m7 m8 m9 : Int32} {k : Nat} (h_o : M.1 o = some (ob 11 [.ref ca, .int cn, .ref fl, .ref c, .int wp])) (h_c : M.1 c = some (ob 3 (.ref b :: .ref q :: .int u2 :: .int u3 :: .int u4 :: .int u5 :: .ref fr :: .ref mr :: w))) (h_mr : M.1 mr = some (ro "ClassGate$Member" l R)) (h_a : M.1 a = some (ob 6 [.int m0, .int m1, .int m2, .int m3, .int m4, .int m5, .int m6, .int m7, .int m8, .int m9, .null])) (hk : k < l) (hl : l < 65536) (hR : R k = .ref a) : pt (mT g) 4 [.ref o, .int (nI k)] M (fun v M' => (v = some (.null) ∧ M = M')) := by
  refine pt_in (b := mb_4 g) rfl (fun kf => ?_)
  show pl (mT g) kf (mb_4 g).2 (0, [(0, .ref o), (1, .int (nI k))], [], M) _
  refine ps_st (S' := (1, [(0, .ref o), (1, .int (nI k))], [.ref o], M)) rfl rfl rfl ?_
  refine ps_get (S' := (4, [(0, .ref o), (1, .int (nI k))], [.ref c], M)) rfl h_o rfl rfl ?_
  refine ps_st (S' := (11, [(0, .ref o), (1, .int (nI k))], [], M)) rfl rfl rfl ?_
  refine ps_st (S' := (12, [(0, .ref o), (1, .int (nI k))], [.ref o], M)) rfl rfl rfl ?_
  refine ps_get (S' := (15, [(0, .ref o), (1, .int (nI k))], [.ref c], M)) rfl h_o rfl rfl ?_
  refine ps_st (S' := (16, [(0, .ref o), (1, .int (nI k))], [.int 1, .ref c], M)) rfl rfl rfl ?_
  refine ps_st (S' := (17, [(0, .ref o), (1, .int (nI k))], [.int (nI k), .int 1, .ref c], M)) rfl rfl rfl ?_
  refine pl_call (a := [.ref c, .int 1, .int (nI k)]) (rest := []) rfl rfl rfl (dk_memberAtM (c := c) (b := b) (q := q) (fr := fr) (mr := mr) (l := l) (u2 := u2) (u3 := u3) (u4 := u4) (u5 := u5) (w := w) (R := R) (t := 1) (k := k) (a := a) h_c h_mr (by decide) (hk) (hl) (hR)) (fun v1 M2 q3 => ?_)
  obtain ⟨rfl, rfl⟩ := q3
  show pl _ _ _ (20, [], [.ref a], M) _
  refine ps_st (S' := (21, [(2, .ref a)], [], M)) rfl rfl rfl ?_
  refine ps_st (S' := (22, [(2, .ref a)], [.ref a], M)) rfl rfl rfl ?_
  refine ps_st (S' := (29, [(2, .ref a)], [], M)) rfl rfl rfl ?_
  refine ps_st (S' := (30, [(2, .ref a)], [.ref a], M)) rfl rfl rfl ?_
  refine ps_get (S' := (33, [], [.null], M)) rfl h_a rfl rfl ?_
  exact ps_ret rfl rfl (⟨rfl, rfl⟩)
set_option maxHeartbeats 1000000 in
theorem dk_codeOfC {g : xe_G} {M : mi_H} {o ca fl : Nat} {cn wp : Int32} {c b q fr mr l : Nat} {u2 u3 u4 u5 : Int32} {w : List Value} {R : Nat → Value} {a : Nat} {m0 m1 m2 m3 m4 m5 m6 m7 m8 m9 : Int32} {k : Nat} {z : Nat} (h_o : M.1 o = some (ob 11 [.ref ca, .int cn, .ref fl, .ref c, .int wp])) (h_c : M.1 c = some (ob 3 (.ref b :: .ref q :: .int u2 :: .int u3 :: .int u4 :: .int u5 :: .ref fr :: .ref mr :: w))) (h_mr : M.1 mr = some (ro "ClassGate$Member" l R)) (h_a : M.1 a = some (ob 6 [.int m0, .int m1, .int m2, .int m3, .int m4, .int m5, .int m6, .int m7, .int m8, .int m9, .ref z])) (hk : k < l) (hl : l < 65536) (hR : R k = .ref a) : pt (mT g) 4 [.ref o, .int (nI k)] M (fun v M' => (v = some (.ref z) ∧ M = M')) := by
  refine pt_in (b := mb_4 g) rfl (fun kf => ?_)
  show pl (mT g) kf (mb_4 g).2 (0, [(0, .ref o), (1, .int (nI k))], [], M) _
  refine ps_st (S' := (1, [(0, .ref o), (1, .int (nI k))], [.ref o], M)) rfl rfl rfl ?_
  refine ps_get (S' := (4, [(0, .ref o), (1, .int (nI k))], [.ref c], M)) rfl h_o rfl rfl ?_
  refine ps_st (S' := (11, [(0, .ref o), (1, .int (nI k))], [], M)) rfl rfl rfl ?_
  refine ps_st (S' := (12, [(0, .ref o), (1, .int (nI k))], [.ref o], M)) rfl rfl rfl ?_
  refine ps_get (S' := (15, [(0, .ref o), (1, .int (nI k))], [.ref c], M)) rfl h_o rfl rfl ?_
  refine ps_st (S' := (16, [(0, .ref o), (1, .int (nI k))], [.int 1, .ref c], M)) rfl rfl rfl ?_
  refine ps_st (S' := (17, [(0, .ref o), (1, .int (nI k))], [.int (nI k), .int 1, .ref c], M)) rfl rfl rfl ?_
  refine pl_call (a := [.ref c, .int 1, .int (nI k)]) (rest := []) rfl rfl rfl (dk_memberAtM (c := c) (b := b) (q := q) (fr := fr) (mr := mr) (l := l) (u2 := u2) (u3 := u3) (u4 := u4) (u5 := u5) (w := w) (R := R) (t := 1) (k := k) (a := a) h_c h_mr (by decide) (hk) (hl) (hR)) (fun v1 M2 q3 => ?_)
  obtain ⟨rfl, rfl⟩ := q3
  show pl _ _ _ (20, [], [.ref a], M) _
  refine ps_st (S' := (21, [(2, .ref a)], [], M)) rfl rfl rfl ?_
  refine ps_st (S' := (22, [(2, .ref a)], [.ref a], M)) rfl rfl rfl ?_
  refine ps_st (S' := (29, [(2, .ref a)], [], M)) rfl rfl rfl ?_
  refine ps_st (S' := (30, [(2, .ref a)], [.ref a], M)) rfl rfl rfl ?_
  refine ps_get (S' := (33, [], [.ref z], M)) rfl h_a rfl rfl ?_
  exact ps_ret rfl rfl (⟨rfl, rfl⟩)
end
section

end
section
theorem dk_u1 {g : xe_G} {M : mi_H} {f : Nat → Int32} {n b da p : Nat} (h_b : M.1 b = some (ob 1 [.ref da])) (h_da : M.1 da = some (ar .byte n f)) (hn : n ≤ 65540) (hin : p + 1 ≤ n) : pt (mT g) 48 [.ref b, .int (nI p)] M (fun v M' => (v = some (.int (nI (by1 f p))) ∧ M = M')) := (ct_u1 ⟨h_b, h_da, by omega⟩ (d := 3) (by decide)).pt.mono (fun v M' h => ⟨by rw [h.1, u1_nI hn (by omega)], h.2.symm⟩)
set_option maxHeartbeats 1000000 in
theorem dk_iu1 {g : xe_G} {M : mi_H} {f : Nat → Int32} {n on b da cb L : Nat} {y3 y4 y5 y6 y7 y8 y9 y10 y11 : Int32} {a : Nat} (h_on : M.1 on = some (ob 5 [.ref b, .int (nI cb), .int (nI L), .int y3, .int y4, .int y5, .int y6, .int y7, .int y8, .int y9, .int y10, .int y11])) (h_b : M.1 b = some (ob 1 [.ref da])) (h_da : M.1 da = some (ar .byte n f)) (hn : n ≤ 65540) (hin : cb + a + 1 ≤ n) : pt (mT g) 104 [.ref on, .int (nI a)] M (fun v M' => (v = some (.int (nI (by1 f (cb + a)))) ∧ M = M')) := by
  refine pt_in (b := mb_104 g) rfl (fun kf => ?_)
  show pl (mT g) kf (mb_104 g).2 (0, [(0, .ref on), (1, .int (nI a))], [], M) _
  refine ps_st (S' := (1, [(0, .ref on), (1, .int (nI a))], [.ref on], M)) rfl rfl rfl ?_
  refine ps_get (S' := (4, [(0, .ref on), (1, .int (nI a))], [.ref b], M)) rfl h_on rfl rfl ?_
  refine ps_st (S' := (5, [(0, .ref on), (1, .int (nI a))], [.ref on, .ref b], M)) rfl rfl rfl ?_
  refine ps_get (S' := (8, [(0, .ref on), (1, .int (nI a))], [.int (nI cb), .ref b], M)) rfl h_on rfl rfl ?_
  refine ps_st (S' := (9, [(0, .ref on), (1, .int (nI a))], [.int (nI a), .int (nI cb), .ref b], M)) rfl rfl rfl ?_
  refine ps_st (S' := (10, [(0, .ref on), (1, .int (nI a))], [.int ((nI cb) + (nI a)), .ref b], M)) rfl rfl rfl ?_
  rw [nI_add1 (p := cb) (k := a) (x := (nI a)) rfl (by omega)]
  show pl _ _ _ (_, [(0, .ref on), (1, .int (nI a))], [.int (nI (cb + a)), .ref b], M) _
  refine pl_call (a := [.ref b, .int (nI (cb + a))]) (rest := []) rfl rfl rfl (dk_u1 (f := f) (n := n) (b := b) (da := da) (p := (cb + a)) h_b h_da (hn) (by omega)) (fun v1 M2 q3 => ?_)
  obtain ⟨rfl, rfl⟩ := q3
  show pl _ _ _ (13, [(0, .ref on), (1, .int (nI a))], [.int (nI (by1 f (cb + a)))], M) _
  exact ps_reti rfl (⟨rfl, rfl⟩)
set_option maxHeartbeats 1000000 in
theorem dk_iu2 {g : xe_G} {M : mi_H} {f : Nat → Int32} {n on b da cb L : Nat} {y3 y4 y5 y6 y7 y8 y9 y10 y11 : Int32} {a : Nat} (h_on : M.1 on = some (ob 5 [.ref b, .int (nI cb), .int (nI L), .int y3, .int y4, .int y5, .int y6, .int y7, .int y8, .int y9, .int y10, .int y11])) (h_b : M.1 b = some (ob 1 [.ref da])) (h_da : M.1 da = some (ar .byte n f)) (hn : n ≤ 65540) (hin : cb + a + 2 ≤ n) : pt (mT g) 105 [.ref on, .int (nI a)] M (fun v M' => (v = some (.int (nI (by2 f (cb + a)))) ∧ M = M')) := by
  refine pt_in (b := mb_105 g) rfl (fun kf => ?_)
  show pl (mT g) kf (mb_105 g).2 (0, [(0, .ref on), (1, .int (nI a))], [], M) _
  refine ps_st (S' := (1, [(0, .ref on), (1, .int (nI a))], [.ref on], M)) rfl rfl rfl ?_
  refine ps_get (S' := (4, [(0, .ref on), (1, .int (nI a))], [.ref b], M)) rfl h_on rfl rfl ?_
  refine ps_st (S' := (5, [(0, .ref on), (1, .int (nI a))], [.ref on, .ref b], M)) rfl rfl rfl ?_
  refine ps_get (S' := (8, [(0, .ref on), (1, .int (nI a))], [.int (nI cb), .ref b], M)) rfl h_on rfl rfl ?_
  refine ps_st (S' := (9, [(0, .ref on), (1, .int (nI a))], [.int (nI a), .int (nI cb), .ref b], M)) rfl rfl rfl ?_
  refine ps_st (S' := (10, [(0, .ref on), (1, .int (nI a))], [.int ((nI cb) + (nI a)), .ref b], M)) rfl rfl rfl ?_
  rw [nI_add1 (p := cb) (k := a) (x := (nI a)) rfl (by omega)]
  show pl _ _ _ (_, [(0, .ref on), (1, .int (nI a))], [.int (nI (cb + a)), .ref b], M) _
  refine pl_call (a := [.ref b, .int (nI (cb + a))]) (rest := []) rfl rfl rfl (dk_u2 (f := f) (n := n) (b := b) (da := da) (p := (cb + a)) h_b h_da (hn) (by omega)) (fun v1 M2 q3 => ?_)
  obtain ⟨rfl, rfl⟩ := q3
  show pl _ _ _ (13, [(0, .ref on), (1, .int (nI a))], [.int (nI (by2 f (cb + a)))], M) _
  exact ps_reti rfl (⟨rfl, rfl⟩)
set_option maxHeartbeats 1000000 in
theorem dk_is4 {g : xe_G} {M : mi_H} {f : Nat → Int32} {n on b da cb L : Nat} {y3 y4 y5 y6 y7 y8 y9 y10 y11 : Int32} {a : Nat} (h_on : M.1 on = some (ob 5 [.ref b, .int (nI cb), .int (nI L), .int y3, .int y4, .int y5, .int y6, .int y7, .int y8, .int y9, .int y10, .int y11])) (h_b : M.1 b = some (ob 1 [.ref da])) (h_da : M.1 da = some (ar .byte n f)) (hn : n ≤ 65540) (hin : cb + a + 4 ≤ n) : pt (mT g) 101 [.ref on, .int (nI a)] M (fun v M' => (v = some (.int (nI (by4 f (cb + a)))) ∧ M = M')) := by
  refine pt_in (b := mb_101 g) rfl (fun kf => ?_)
  show pl (mT g) kf (mb_101 g).2 (0, [(0, .ref on), (1, .int (nI a))], [], M) _
  refine ps_st (S' := (1, [(0, .ref on), (1, .int (nI a))], [.ref on], M)) rfl rfl rfl ?_
  refine ps_get (S' := (4, [(0, .ref on), (1, .int (nI a))], [.ref b], M)) rfl h_on rfl rfl ?_
  refine ps_st (S' := (5, [(0, .ref on), (1, .int (nI a))], [.ref on, .ref b], M)) rfl rfl rfl ?_
  refine ps_get (S' := (8, [(0, .ref on), (1, .int (nI a))], [.int (nI cb), .ref b], M)) rfl h_on rfl rfl ?_
  refine ps_st (S' := (9, [(0, .ref on), (1, .int (nI a))], [.int (nI a), .int (nI cb), .ref b], M)) rfl rfl rfl ?_
  refine ps_st (S' := (10, [(0, .ref on), (1, .int (nI a))], [.int ((nI cb) + (nI a)), .ref b], M)) rfl rfl rfl ?_
  rw [nI_add1 (p := cb) (k := a) (x := (nI a)) rfl (by omega)]
  show pl _ _ _ (_, [(0, .ref on), (1, .int (nI a))], [.int (nI (cb + a)), .ref b], M) _
  refine pl_call (a := [.ref b, .int (nI (cb + a))]) (rest := []) rfl rfl rfl (dk_u4 (f := f) (n := n) (b := b) (da := da) (p := (cb + a)) h_b h_da (hn) (by omega)) (fun v1 M2 q3 => ?_)
  obtain ⟨rfl, rfl⟩ := q3
  show pl _ _ _ (13, [(0, .ref on), (1, .int (nI a))], [.int (nI (by4 f (cb + a)))], M) _
  exact ps_reti rfl (⟨rfl, rfl⟩)
set_option maxHeartbeats 1000000 in
theorem dk_isLocalOpcode {g : xe_G} {M : mi_H} {o : Nat}  (ho : o < 65536) : pt (mT g) 91 [.int (nI o)] M (fun v M' => (v = some (.int (nI (lcO o))) ∧ M = M')) := by
  refine pt_in (b := mb_91 g) rfl (fun kf => ?_)
  show pl (mT g) kf (mb_91 g).2 (0, [(0, .int (nI o))], [], M) _
  refine ps_st (S' := (1, [(0, .int (nI o))], [.int (nI o)], M)) rfl rfl rfl ?_
  refine ps_st (S' := (3, [(0, .int (nI o))], [.int 21, .int (nI o)], M)) rfl rfl rfl ?_
  refine ps_if2 (S1 := (12, [(0, .int (nI o))], [], M)) (S2 := (6, [(0, .int (nI o))], [], M)) rfl rfl rfl (fun c_3 => ?_) (fun c_3 => ?_)
  · have c_3 : (nI o) < 21 := of_decide_eq_true c_3
    have n_3 : o < 21 := (lt_nI (p := o) (n := 21) (by omega) (by decide)).mp c_3
    refine ps_st (S' := (13, [(0, .int (nI o))], [.int (nI o)], M)) rfl rfl rfl ?_
    refine ps_st (S' := (15, [(0, .int (nI o))], [.int 54, .int (nI o)], M)) rfl rfl rfl ?_
    refine ps_if2 (S1 := (24, [(0, .int (nI o))], [], M)) (S2 := (18, [(0, .int (nI o))], [], M)) rfl rfl rfl (fun c_15 => ?_) (fun c_15 => ?_)
    · have c_15 : (nI o) < 54 := of_decide_eq_true c_15
      have n_15 : o < 54 := (lt_nI (p := o) (n := 54) (by omega) (by decide)).mp c_15
      refine ps_st (S' := (25, [(0, .int (nI o))], [.int (nI o)], M)) rfl rfl rfl ?_
      refine ps_st (S' := (28, [(0, .int (nI o))], [.int 169, .int (nI o)], M)) rfl rfl rfl ?_
      refine ps_if2 (S1 := (35, [(0, .int (nI o))], [], M)) (S2 := (31, [], [], M)) rfl rfl rfl (fun c_28 => ?_) (fun c_28 => ?_)
      · have c_28 : ¬ (nI o) = 169 := of_decide_eq_true c_28
        have n_28 : ¬ (o = 169) := fun h9 => c_28 ((eq_nI (p := o) (n := 169) (by omega) (by decide)).mpr h9)
        refine ps_st (S' := (36, [], [.int 0], M)) rfl rfl rfl ?_
        exact ps_ret rfl rfl (⟨congrArg (fun x => some (Value.int (nI x))) (show 0 = lcO o from by
            unfold lcO
            first | ((repeat first | rw [if_pos (by omega)] | rw [if_neg (by omega)]) <;> first | rfl | omega) | ((repeat' split) <;> first | rfl | (exfalso; omega) | omega)), rfl⟩)
      · have c_28 : ¬ (¬ (nI o) = 169) := of_decide_eq_false c_28
        have n_28 : o = 169 := (eq_nI (p := o) (n := 169) (by omega) (by decide)).mp (Decidable.not_not.mp c_28)
        refine ps_st (S' := (32, [], [.int 1], M)) rfl rfl rfl ?_
        refine ps_st (S' := (36, [], [.int 1], M)) rfl rfl rfl ?_
        exact ps_ret rfl rfl (⟨congrArg (fun x => some (Value.int (nI x))) (show 1 = lcO o from by
            unfold lcO
            first | ((repeat first | rw [if_pos (by omega)] | rw [if_neg (by omega)]) <;> first | rfl | omega) | ((repeat' split) <;> first | rfl | (exfalso; omega) | omega)), rfl⟩)
    · have c_15 : ¬ ((nI o) < 54) := of_decide_eq_false c_15
      have n_15 : ¬ (o < 54) := fun h9 => c_15 ((lt_nI (p := o) (n := 54) (by omega) (by decide)).mpr h9)
      refine ps_st (S' := (19, [(0, .int (nI o))], [.int (nI o)], M)) rfl rfl rfl ?_
      refine ps_st (S' := (21, [(0, .int (nI o))], [.int 58, .int (nI o)], M)) rfl rfl rfl ?_
      refine ps_if2 (S1 := (31, [], [], M)) (S2 := (24, [(0, .int (nI o))], [], M)) rfl rfl rfl (fun c_21 => ?_) (fun c_21 => ?_)
      · have c_21 : (nI o) ≤ 58 := of_decide_eq_true c_21
        have n_21 : o ≤ 58 := (le_nI (p := o) (n := 58) (by omega) (by decide)).mp c_21
        refine ps_st (S' := (32, [], [.int 1], M)) rfl rfl rfl ?_
        refine ps_st (S' := (36, [], [.int 1], M)) rfl rfl rfl ?_
        exact ps_ret rfl rfl (⟨congrArg (fun x => some (Value.int (nI x))) (show 1 = lcO o from by
            unfold lcO
            first | ((repeat first | rw [if_pos (by omega)] | rw [if_neg (by omega)]) <;> first | rfl | omega) | ((repeat' split) <;> first | rfl | (exfalso; omega) | omega)), rfl⟩)
      · have c_21 : ¬ ((nI o) ≤ 58) := of_decide_eq_false c_21
        have n_21 : ¬ (o ≤ 58) := fun h9 => c_21 ((le_nI (p := o) (n := 58) (by omega) (by decide)).mpr h9)
        refine ps_st (S' := (25, [(0, .int (nI o))], [.int (nI o)], M)) rfl rfl rfl ?_
        refine ps_st (S' := (28, [(0, .int (nI o))], [.int 169, .int (nI o)], M)) rfl rfl rfl ?_
        refine ps_if2 (S1 := (35, [(0, .int (nI o))], [], M)) (S2 := (31, [], [], M)) rfl rfl rfl (fun c_28 => ?_) (fun c_28 => ?_)
        · have c_28 : ¬ (nI o) = 169 := of_decide_eq_true c_28
          have n_28 : ¬ (o = 169) := fun h9 => c_28 ((eq_nI (p := o) (n := 169) (by omega) (by decide)).mpr h9)
          refine ps_st (S' := (36, [], [.int 0], M)) rfl rfl rfl ?_
          exact ps_ret rfl rfl (⟨congrArg (fun x => some (Value.int (nI x))) (show 0 = lcO o from by
              unfold lcO
              first | ((repeat first | rw [if_pos (by omega)] | rw [if_neg (by omega)]) <;> first | rfl | omega) | ((repeat' split) <;> first | rfl | (exfalso; omega) | omega)), rfl⟩)
        · have c_28 : ¬ (¬ (nI o) = 169) := of_decide_eq_false c_28
          have n_28 : o = 169 := (eq_nI (p := o) (n := 169) (by omega) (by decide)).mp (Decidable.not_not.mp c_28)
          refine ps_st (S' := (32, [], [.int 1], M)) rfl rfl rfl ?_
          refine ps_st (S' := (36, [], [.int 1], M)) rfl rfl rfl ?_
          exact ps_ret rfl rfl (⟨congrArg (fun x => some (Value.int (nI x))) (show 1 = lcO o from by
              unfold lcO
              first | ((repeat first | rw [if_pos (by omega)] | rw [if_neg (by omega)]) <;> first | rfl | omega) | ((repeat' split) <;> first | rfl | (exfalso; omega) | omega)), rfl⟩)
  · have c_3 : ¬ ((nI o) < 21) := of_decide_eq_false c_3
    have n_3 : ¬ (o < 21) := fun h9 => c_3 ((lt_nI (p := o) (n := 21) (by omega) (by decide)).mpr h9)
    refine ps_st (S' := (7, [(0, .int (nI o))], [.int (nI o)], M)) rfl rfl rfl ?_
    refine ps_st (S' := (9, [(0, .int (nI o))], [.int 25, .int (nI o)], M)) rfl rfl rfl ?_
    refine ps_if2 (S1 := (31, [], [], M)) (S2 := (12, [(0, .int (nI o))], [], M)) rfl rfl rfl (fun c_9 => ?_) (fun c_9 => ?_)
    · have c_9 : (nI o) ≤ 25 := of_decide_eq_true c_9
      have n_9 : o ≤ 25 := (le_nI (p := o) (n := 25) (by omega) (by decide)).mp c_9
      refine ps_st (S' := (32, [], [.int 1], M)) rfl rfl rfl ?_
      refine ps_st (S' := (36, [], [.int 1], M)) rfl rfl rfl ?_
      exact ps_ret rfl rfl (⟨congrArg (fun x => some (Value.int (nI x))) (show 1 = lcO o from by
          unfold lcO
          first | ((repeat first | rw [if_pos (by omega)] | rw [if_neg (by omega)]) <;> first | rfl | omega) | ((repeat' split) <;> first | rfl | (exfalso; omega) | omega)), rfl⟩)
    · have c_9 : ¬ ((nI o) ≤ 25) := of_decide_eq_false c_9
      have n_9 : ¬ (o ≤ 25) := fun h9 => c_9 ((le_nI (p := o) (n := 25) (by omega) (by decide)).mpr h9)
      refine ps_st (S' := (13, [(0, .int (nI o))], [.int (nI o)], M)) rfl rfl rfl ?_
      refine ps_st (S' := (15, [(0, .int (nI o))], [.int 54, .int (nI o)], M)) rfl rfl rfl ?_
      refine ps_if2 (S1 := (24, [(0, .int (nI o))], [], M)) (S2 := (18, [(0, .int (nI o))], [], M)) rfl rfl rfl (fun c_15 => ?_) (fun c_15 => ?_)
      · have c_15 : (nI o) < 54 := of_decide_eq_true c_15
        have n_15 : o < 54 := (lt_nI (p := o) (n := 54) (by omega) (by decide)).mp c_15
        refine ps_st (S' := (25, [(0, .int (nI o))], [.int (nI o)], M)) rfl rfl rfl ?_
        refine ps_st (S' := (28, [(0, .int (nI o))], [.int 169, .int (nI o)], M)) rfl rfl rfl ?_
        refine ps_if2 (S1 := (35, [(0, .int (nI o))], [], M)) (S2 := (31, [], [], M)) rfl rfl rfl (fun c_28 => ?_) (fun c_28 => ?_)
        · have c_28 : ¬ (nI o) = 169 := of_decide_eq_true c_28
          have n_28 : ¬ (o = 169) := fun h9 => c_28 ((eq_nI (p := o) (n := 169) (by omega) (by decide)).mpr h9)
          refine ps_st (S' := (36, [], [.int 0], M)) rfl rfl rfl ?_
          exact ps_ret rfl rfl (⟨congrArg (fun x => some (Value.int (nI x))) (show 0 = lcO o from by
              unfold lcO
              first | ((repeat first | rw [if_pos (by omega)] | rw [if_neg (by omega)]) <;> first | rfl | omega) | ((repeat' split) <;> first | rfl | (exfalso; omega) | omega)), rfl⟩)
        · have c_28 : ¬ (¬ (nI o) = 169) := of_decide_eq_false c_28
          have n_28 : o = 169 := (eq_nI (p := o) (n := 169) (by omega) (by decide)).mp (Decidable.not_not.mp c_28)
          refine ps_st (S' := (32, [], [.int 1], M)) rfl rfl rfl ?_
          refine ps_st (S' := (36, [], [.int 1], M)) rfl rfl rfl ?_
          exact ps_ret rfl rfl (⟨congrArg (fun x => some (Value.int (nI x))) (show 1 = lcO o from by
              unfold lcO
              first | ((repeat first | rw [if_pos (by omega)] | rw [if_neg (by omega)]) <;> first | rfl | omega) | ((repeat' split) <;> first | rfl | (exfalso; omega) | omega)), rfl⟩)
      · have c_15 : ¬ ((nI o) < 54) := of_decide_eq_false c_15
        have n_15 : ¬ (o < 54) := fun h9 => c_15 ((lt_nI (p := o) (n := 54) (by omega) (by decide)).mpr h9)
        refine ps_st (S' := (19, [(0, .int (nI o))], [.int (nI o)], M)) rfl rfl rfl ?_
        refine ps_st (S' := (21, [(0, .int (nI o))], [.int 58, .int (nI o)], M)) rfl rfl rfl ?_
        refine ps_if2 (S1 := (31, [], [], M)) (S2 := (24, [(0, .int (nI o))], [], M)) rfl rfl rfl (fun c_21 => ?_) (fun c_21 => ?_)
        · have c_21 : (nI o) ≤ 58 := of_decide_eq_true c_21
          have n_21 : o ≤ 58 := (le_nI (p := o) (n := 58) (by omega) (by decide)).mp c_21
          refine ps_st (S' := (32, [], [.int 1], M)) rfl rfl rfl ?_
          refine ps_st (S' := (36, [], [.int 1], M)) rfl rfl rfl ?_
          exact ps_ret rfl rfl (⟨congrArg (fun x => some (Value.int (nI x))) (show 1 = lcO o from by
              unfold lcO
              first | ((repeat first | rw [if_pos (by omega)] | rw [if_neg (by omega)]) <;> first | rfl | omega) | ((repeat' split) <;> first | rfl | (exfalso; omega) | omega)), rfl⟩)
        · have c_21 : ¬ ((nI o) ≤ 58) := of_decide_eq_false c_21
          have n_21 : ¬ (o ≤ 58) := fun h9 => c_21 ((le_nI (p := o) (n := 58) (by omega) (by decide)).mpr h9)
          refine ps_st (S' := (25, [(0, .int (nI o))], [.int (nI o)], M)) rfl rfl rfl ?_
          refine ps_st (S' := (28, [(0, .int (nI o))], [.int 169, .int (nI o)], M)) rfl rfl rfl ?_
          refine ps_if2 (S1 := (35, [(0, .int (nI o))], [], M)) (S2 := (31, [], [], M)) rfl rfl rfl (fun c_28 => ?_) (fun c_28 => ?_)
          · have c_28 : ¬ (nI o) = 169 := of_decide_eq_true c_28
            have n_28 : ¬ (o = 169) := fun h9 => c_28 ((eq_nI (p := o) (n := 169) (by omega) (by decide)).mpr h9)
            refine ps_st (S' := (36, [], [.int 0], M)) rfl rfl rfl ?_
            exact ps_ret rfl rfl (⟨congrArg (fun x => some (Value.int (nI x))) (show 0 = lcO o from by
                unfold lcO
                first | ((repeat first | rw [if_pos (by omega)] | rw [if_neg (by omega)]) <;> first | rfl | omega) | ((repeat' split) <;> first | rfl | (exfalso; omega) | omega)), rfl⟩)
          · have c_28 : ¬ (¬ (nI o) = 169) := of_decide_eq_false c_28
            have n_28 : o = 169 := (eq_nI (p := o) (n := 169) (by omega) (by decide)).mp (Decidable.not_not.mp c_28)
            refine ps_st (S' := (32, [], [.int 1], M)) rfl rfl rfl ?_
            refine ps_st (S' := (36, [], [.int 1], M)) rfl rfl rfl ?_
            exact ps_ret rfl rfl (⟨congrArg (fun x => some (Value.int (nI x))) (show 1 = lcO o from by
                unfold lcO
                first | ((repeat first | rw [if_pos (by omega)] | rw [if_neg (by omega)]) <;> first | rfl | omega) | ((repeat' split) <;> first | rfl | (exfalso; omega) | omega)), rfl⟩)
set_option maxHeartbeats 1000000 in
theorem dk_sizeOf {g : xe_G} {M : mi_H} {o : Nat}  (ho : o < 65536) : pt (mT g) 102 [.int (nI o)] M (fun v M' => (v = some (.int (nI (szO o))) ∧ M = M')) := by
  refine pt_in (b := mb_102 g) rfl (fun kf => ?_)
  show pl (mT g) kf (mb_102 g).2 (0, [(0, .int (nI o))], [], M) _
  refine ps_st (S' := (1, [(0, .int (nI o))], [.int (nI o)], M)) rfl rfl rfl ?_
  refine ps_st (S' := (4, [(0, .int (nI o))], [.int 153, .int (nI o)], M)) rfl rfl rfl ?_
  refine ps_if2 (S1 := (14, [(0, .int (nI o))], [], M)) (S2 := (7, [(0, .int (nI o))], [], M)) rfl rfl rfl (fun c_4 => ?_) (fun c_4 => ?_)
  · have c_4 : (nI o) < 153 := of_decide_eq_true c_4
    have n_4 : o < 153 := (lt_nI (p := o) (n := 153) (by omega) (by decide)).mp c_4
    refine ps_st (S' := (15, [(0, .int (nI o))], [.int (nI o)], M)) rfl rfl rfl ?_
    refine ps_st (S' := (18, [(0, .int (nI o))], [.int 178, .int (nI o)], M)) rfl rfl rfl ?_
    refine ps_if2 (S1 := (30, [(0, .int (nI o))], [], M)) (S2 := (21, [(0, .int (nI o))], [], M)) rfl rfl rfl (fun c_18 => ?_) (fun c_18 => ?_)
    · have c_18 : (nI o) < 178 := of_decide_eq_true c_18
      have n_18 : o < 178 := (lt_nI (p := o) (n := 178) (by omega) (by decide)).mp c_18
      refine ps_st (S' := (31, [(0, .int (nI o))], [.int (nI o)], M)) rfl rfl rfl ?_
      refine pl_call (a := [.int (nI o)]) (rest := []) rfl rfl rfl (dk_isLocalOpcode (o := o) (ho)) (fun v1 M2 q3 => ?_)
      obtain ⟨rfl, rfl⟩ := q3
      show pl _ _ _ (34, [(0, .int (nI o))], [.int (nI (lcO o))], M) _
      have hlc := lcO_le o
      refine ps_if (S1 := (39, [(0, .int (nI o))], [], M)) (S2 := (37, [(0, .int (nI o))], [], M)) rfl rfl rfl (fun c_34 => ?_) (fun c_34 => ?_)
      · have c_34 : (nI (lcO o)) = 0 := of_decide_eq_true c_34
        have n_34 : lcO o = 0 := (eq_nI (p := lcO o) (n := 0) (by omega) (by decide)).mp c_34
        refine ps_st (S' := (40, [(0, .int (nI o))], [.int (nI o)], M)) rfl rfl rfl ?_
        refine pl_sw rfl (fun t_40 et_40 => ?_)
        have ht_40 : t_40 ∈ [196, 198, 200, 202, 204] := mi_sw_sub et_40 (by decide)
        simp only [List.mem_cons, List.not_mem_nil, or_false] at ht_40
        rcases ht_40 with rfl | rfl | rfl | rfl | rfl
        · show pl _ _ _ (196, [(0, .int (nI o))], [], M) _
          have m_40 := sw_nat (t := o) (by omega) et_40
          simp at m_40
          refine ps_st (S' := (197, [(0, .int (nI o))], [.int 2], M)) rfl rfl rfl ?_
          exact ps_ret rfl rfl (⟨congrArg (fun x => some (Value.int (nI x))) (show 2 = szO o from by
              unfold szO
              first | ((repeat first | rw [if_pos (by omega)] | rw [if_neg (by omega)]) <;> first | rfl | omega) | ((repeat' split) <;> first | rfl | (exfalso; omega) | omega)), rfl⟩)
        · show pl _ _ _ (198, [(0, .int (nI o))], [], M) _
          have m_40 := sw_nat (t := o) (by omega) et_40
          simp at m_40
          refine ps_st (S' := (199, [(0, .int (nI o))], [.int 3], M)) rfl rfl rfl ?_
          exact ps_ret rfl rfl (⟨congrArg (fun x => some (Value.int (nI x))) (show 3 = szO o from by
              unfold szO
              first | ((repeat first | rw [if_pos (by omega)] | rw [if_neg (by omega)]) <;> first | rfl | omega) | ((repeat' split) <;> first | rfl | (exfalso; omega) | omega)), rfl⟩)
        · show pl _ _ _ (200, [(0, .int (nI o))], [], M) _
          have m_40 := sw_nat (t := o) (by omega) et_40
          simp at m_40
          refine ps_st (S' := (201, [(0, .int (nI o))], [.int 4], M)) rfl rfl rfl ?_
          exact ps_ret rfl rfl (⟨congrArg (fun x => some (Value.int (nI x))) (show 4 = szO o from by
              unfold szO
              first | ((repeat first | rw [if_pos (by omega)] | rw [if_neg (by omega)]) <;> first | rfl | omega) | ((repeat' split) <;> first | rfl | (exfalso; omega) | omega)), rfl⟩)
        · show pl _ _ _ (202, [(0, .int (nI o))], [], M) _
          have m_40 := sw_nat (t := o) (by omega) et_40
          simp at m_40
          refine ps_st (S' := (203, [(0, .int (nI o))], [.int 5], M)) rfl rfl rfl ?_
          exact ps_ret rfl rfl (⟨congrArg (fun x => some (Value.int (nI x))) (show 5 = szO o from by
              unfold szO
              first | ((repeat first | rw [if_pos (by omega)] | rw [if_neg (by omega)]) <;> first | rfl | omega) | ((repeat' split) <;> first | rfl | (exfalso; omega) | omega)), rfl⟩)
        · show pl _ _ _ (204, [(0, .int (nI o))], [], M) _
          have m_40 := sw_nat (t := o) (by omega) et_40
          simp at m_40
          refine ps_st (S' := (205, [(0, .int (nI o))], [.int 1], M)) rfl rfl rfl ?_
          exact ps_ret rfl rfl (⟨congrArg (fun x => some (Value.int (nI x))) (show 1 = szO o from by
              unfold szO
              first | ((repeat first | rw [if_pos (by omega)] | rw [if_neg (by omega)]) <;> first | rfl | omega) | ((repeat' split) <;> first | rfl | (exfalso; omega) | omega)), rfl⟩)
      · have c_34 : ¬ ((nI (lcO o)) = 0) := of_decide_eq_false c_34
        have n_34 : ¬ (lcO o = 0) := fun h9 => c_34 ((eq_nI (p := lcO o) (n := 0) (by omega) (by decide)).mpr h9)
        refine ps_st (S' := (38, [(0, .int (nI o))], [.int 2], M)) rfl rfl rfl ?_
        exact ps_ret rfl rfl (⟨congrArg (fun x => some (Value.int (nI x))) (show 2 = szO o from by
            unfold szO
            first | ((repeat first | rw [if_pos (by omega)] | rw [if_neg (by omega)]) <;> first | rfl | omega) | ((repeat' split) <;> first | rfl | (exfalso; omega) | omega)), rfl⟩)
    · have c_18 : ¬ ((nI o) < 178) := of_decide_eq_false c_18
      have n_18 : ¬ (o < 178) := fun h9 => c_18 ((lt_nI (p := o) (n := 178) (by omega) (by decide)).mpr h9)
      refine ps_st (S' := (22, [(0, .int (nI o))], [.int (nI o)], M)) rfl rfl rfl ?_
      refine ps_st (S' := (25, [(0, .int (nI o))], [.int 184, .int (nI o)], M)) rfl rfl rfl ?_
      refine ps_if2 (S1 := (30, [(0, .int (nI o))], [], M)) (S2 := (28, [], [], M)) rfl rfl rfl (fun c_25 => ?_) (fun c_25 => ?_)
      · have c_25 : 184 < (nI o) := of_decide_eq_true c_25
        have n_25 : 184 < o := (lt_nI (p := 184) (n := o) (by decide) (by omega)).mp c_25
        refine ps_st (S' := (31, [(0, .int (nI o))], [.int (nI o)], M)) rfl rfl rfl ?_
        refine pl_call (a := [.int (nI o)]) (rest := []) rfl rfl rfl (dk_isLocalOpcode (o := o) (ho)) (fun v4 M5 q6 => ?_)
        obtain ⟨rfl, rfl⟩ := q6
        show pl _ _ _ (34, [(0, .int (nI o))], [.int (nI (lcO o))], M) _
        have hlc := lcO_le o
        refine ps_if (S1 := (39, [(0, .int (nI o))], [], M)) (S2 := (37, [(0, .int (nI o))], [], M)) rfl rfl rfl (fun c_34 => ?_) (fun c_34 => ?_)
        · have c_34 : (nI (lcO o)) = 0 := of_decide_eq_true c_34
          have n_34 : lcO o = 0 := (eq_nI (p := lcO o) (n := 0) (by omega) (by decide)).mp c_34
          refine ps_st (S' := (40, [(0, .int (nI o))], [.int (nI o)], M)) rfl rfl rfl ?_
          refine pl_sw rfl (fun t_40 et_40 => ?_)
          have ht_40 : t_40 ∈ [196, 198, 200, 202, 204] := mi_sw_sub et_40 (by decide)
          simp only [List.mem_cons, List.not_mem_nil, or_false] at ht_40
          rcases ht_40 with rfl | rfl | rfl | rfl | rfl
          · show pl _ _ _ (196, [(0, .int (nI o))], [], M) _
            have m_40 := sw_nat (t := o) (by omega) et_40
            simp at m_40
            refine ps_st (S' := (197, [(0, .int (nI o))], [.int 2], M)) rfl rfl rfl ?_
            exact ps_ret rfl rfl (⟨congrArg (fun x => some (Value.int (nI x))) (show 2 = szO o from by
                unfold szO
                first | ((repeat first | rw [if_pos (by omega)] | rw [if_neg (by omega)]) <;> first | rfl | omega) | ((repeat' split) <;> first | rfl | (exfalso; omega) | omega)), rfl⟩)
          · show pl _ _ _ (198, [(0, .int (nI o))], [], M) _
            have m_40 := sw_nat (t := o) (by omega) et_40
            simp at m_40
            refine ps_st (S' := (199, [(0, .int (nI o))], [.int 3], M)) rfl rfl rfl ?_
            exact ps_ret rfl rfl (⟨congrArg (fun x => some (Value.int (nI x))) (show 3 = szO o from by
                unfold szO
                first | ((repeat first | rw [if_pos (by omega)] | rw [if_neg (by omega)]) <;> first | rfl | omega) | ((repeat' split) <;> first | rfl | (exfalso; omega) | omega)), rfl⟩)
          · show pl _ _ _ (200, [(0, .int (nI o))], [], M) _
            have m_40 := sw_nat (t := o) (by omega) et_40
            simp at m_40
            refine ps_st (S' := (201, [(0, .int (nI o))], [.int 4], M)) rfl rfl rfl ?_
            exact ps_ret rfl rfl (⟨congrArg (fun x => some (Value.int (nI x))) (show 4 = szO o from by
                unfold szO
                first | ((repeat first | rw [if_pos (by omega)] | rw [if_neg (by omega)]) <;> first | rfl | omega) | ((repeat' split) <;> first | rfl | (exfalso; omega) | omega)), rfl⟩)
          · show pl _ _ _ (202, [(0, .int (nI o))], [], M) _
            have m_40 := sw_nat (t := o) (by omega) et_40
            simp at m_40
            refine ps_st (S' := (203, [(0, .int (nI o))], [.int 5], M)) rfl rfl rfl ?_
            exact ps_ret rfl rfl (⟨congrArg (fun x => some (Value.int (nI x))) (show 5 = szO o from by
                unfold szO
                first | ((repeat first | rw [if_pos (by omega)] | rw [if_neg (by omega)]) <;> first | rfl | omega) | ((repeat' split) <;> first | rfl | (exfalso; omega) | omega)), rfl⟩)
          · show pl _ _ _ (204, [(0, .int (nI o))], [], M) _
            have m_40 := sw_nat (t := o) (by omega) et_40
            simp at m_40
            refine ps_st (S' := (205, [(0, .int (nI o))], [.int 1], M)) rfl rfl rfl ?_
            exact ps_ret rfl rfl (⟨congrArg (fun x => some (Value.int (nI x))) (show 1 = szO o from by
                unfold szO
                first | ((repeat first | rw [if_pos (by omega)] | rw [if_neg (by omega)]) <;> first | rfl | omega) | ((repeat' split) <;> first | rfl | (exfalso; omega) | omega)), rfl⟩)
        · have c_34 : ¬ ((nI (lcO o)) = 0) := of_decide_eq_false c_34
          have n_34 : ¬ (lcO o = 0) := fun h9 => c_34 ((eq_nI (p := lcO o) (n := 0) (by omega) (by decide)).mpr h9)
          refine ps_st (S' := (38, [(0, .int (nI o))], [.int 2], M)) rfl rfl rfl ?_
          exact ps_ret rfl rfl (⟨congrArg (fun x => some (Value.int (nI x))) (show 2 = szO o from by
              unfold szO
              first | ((repeat first | rw [if_pos (by omega)] | rw [if_neg (by omega)]) <;> first | rfl | omega) | ((repeat' split) <;> first | rfl | (exfalso; omega) | omega)), rfl⟩)
      · have c_25 : ¬ (184 < (nI o)) := of_decide_eq_false c_25
        have n_25 : ¬ (184 < o) := fun h9 => c_25 ((lt_nI (p := 184) (n := o) (by decide) (by omega)).mpr h9)
        refine ps_st (S' := (29, [], [.int 3], M)) rfl rfl rfl ?_
        exact ps_ret rfl rfl (⟨congrArg (fun x => some (Value.int (nI x))) (show 3 = szO o from by
            unfold szO
            first | ((repeat first | rw [if_pos (by omega)] | rw [if_neg (by omega)]) <;> first | rfl | omega) | ((repeat' split) <;> first | rfl | (exfalso; omega) | omega)), rfl⟩)
  · have c_4 : ¬ ((nI o) < 153) := of_decide_eq_false c_4
    have n_4 : ¬ (o < 153) := fun h9 => c_4 ((lt_nI (p := o) (n := 153) (by omega) (by decide)).mpr h9)
    refine ps_st (S' := (8, [(0, .int (nI o))], [.int (nI o)], M)) rfl rfl rfl ?_
    refine ps_st (S' := (11, [(0, .int (nI o))], [.int 168, .int (nI o)], M)) rfl rfl rfl ?_
    refine ps_if2 (S1 := (28, [], [], M)) (S2 := (14, [(0, .int (nI o))], [], M)) rfl rfl rfl (fun c_11 => ?_) (fun c_11 => ?_)
    · have c_11 : (nI o) ≤ 168 := of_decide_eq_true c_11
      have n_11 : o ≤ 168 := (le_nI (p := o) (n := 168) (by omega) (by decide)).mp c_11
      refine ps_st (S' := (29, [], [.int 3], M)) rfl rfl rfl ?_
      exact ps_ret rfl rfl (⟨congrArg (fun x => some (Value.int (nI x))) (show 3 = szO o from by
          unfold szO
          first | ((repeat first | rw [if_pos (by omega)] | rw [if_neg (by omega)]) <;> first | rfl | omega) | ((repeat' split) <;> first | rfl | (exfalso; omega) | omega)), rfl⟩)
    · have c_11 : ¬ ((nI o) ≤ 168) := of_decide_eq_false c_11
      have n_11 : ¬ (o ≤ 168) := fun h9 => c_11 ((le_nI (p := o) (n := 168) (by omega) (by decide)).mpr h9)
      refine ps_st (S' := (15, [(0, .int (nI o))], [.int (nI o)], M)) rfl rfl rfl ?_
      refine ps_st (S' := (18, [(0, .int (nI o))], [.int 178, .int (nI o)], M)) rfl rfl rfl ?_
      refine ps_if2 (S1 := (30, [(0, .int (nI o))], [], M)) (S2 := (21, [(0, .int (nI o))], [], M)) rfl rfl rfl (fun c_18 => ?_) (fun c_18 => ?_)
      · have c_18 : (nI o) < 178 := of_decide_eq_true c_18
        have n_18 : o < 178 := (lt_nI (p := o) (n := 178) (by omega) (by decide)).mp c_18
        refine ps_st (S' := (31, [(0, .int (nI o))], [.int (nI o)], M)) rfl rfl rfl ?_
        refine pl_call (a := [.int (nI o)]) (rest := []) rfl rfl rfl (dk_isLocalOpcode (o := o) (ho)) (fun v7 M8 q9 => ?_)
        obtain ⟨rfl, rfl⟩ := q9
        show pl _ _ _ (34, [(0, .int (nI o))], [.int (nI (lcO o))], M) _
        have hlc := lcO_le o
        refine ps_if (S1 := (39, [(0, .int (nI o))], [], M)) (S2 := (37, [(0, .int (nI o))], [], M)) rfl rfl rfl (fun c_34 => ?_) (fun c_34 => ?_)
        · have c_34 : (nI (lcO o)) = 0 := of_decide_eq_true c_34
          have n_34 : lcO o = 0 := (eq_nI (p := lcO o) (n := 0) (by omega) (by decide)).mp c_34
          refine ps_st (S' := (40, [(0, .int (nI o))], [.int (nI o)], M)) rfl rfl rfl ?_
          refine pl_sw rfl (fun t_40 et_40 => ?_)
          have ht_40 : t_40 ∈ [196, 198, 200, 202, 204] := mi_sw_sub et_40 (by decide)
          simp only [List.mem_cons, List.not_mem_nil, or_false] at ht_40
          rcases ht_40 with rfl | rfl | rfl | rfl | rfl
          · show pl _ _ _ (196, [(0, .int (nI o))], [], M) _
            have m_40 := sw_nat (t := o) (by omega) et_40
            simp at m_40
            refine ps_st (S' := (197, [(0, .int (nI o))], [.int 2], M)) rfl rfl rfl ?_
            exact ps_ret rfl rfl (⟨congrArg (fun x => some (Value.int (nI x))) (show 2 = szO o from by
                unfold szO
                first | ((repeat first | rw [if_pos (by omega)] | rw [if_neg (by omega)]) <;> first | rfl | omega) | ((repeat' split) <;> first | rfl | (exfalso; omega) | omega)), rfl⟩)
          · show pl _ _ _ (198, [(0, .int (nI o))], [], M) _
            have m_40 := sw_nat (t := o) (by omega) et_40
            simp at m_40
            refine ps_st (S' := (199, [(0, .int (nI o))], [.int 3], M)) rfl rfl rfl ?_
            exact ps_ret rfl rfl (⟨congrArg (fun x => some (Value.int (nI x))) (show 3 = szO o from by
                unfold szO
                first | ((repeat first | rw [if_pos (by omega)] | rw [if_neg (by omega)]) <;> first | rfl | omega) | ((repeat' split) <;> first | rfl | (exfalso; omega) | omega)), rfl⟩)
          · show pl _ _ _ (200, [(0, .int (nI o))], [], M) _
            have m_40 := sw_nat (t := o) (by omega) et_40
            simp at m_40
            refine ps_st (S' := (201, [(0, .int (nI o))], [.int 4], M)) rfl rfl rfl ?_
            exact ps_ret rfl rfl (⟨congrArg (fun x => some (Value.int (nI x))) (show 4 = szO o from by
                unfold szO
                first | ((repeat first | rw [if_pos (by omega)] | rw [if_neg (by omega)]) <;> first | rfl | omega) | ((repeat' split) <;> first | rfl | (exfalso; omega) | omega)), rfl⟩)
          · show pl _ _ _ (202, [(0, .int (nI o))], [], M) _
            have m_40 := sw_nat (t := o) (by omega) et_40
            simp at m_40
            refine ps_st (S' := (203, [(0, .int (nI o))], [.int 5], M)) rfl rfl rfl ?_
            exact ps_ret rfl rfl (⟨congrArg (fun x => some (Value.int (nI x))) (show 5 = szO o from by
                unfold szO
                first | ((repeat first | rw [if_pos (by omega)] | rw [if_neg (by omega)]) <;> first | rfl | omega) | ((repeat' split) <;> first | rfl | (exfalso; omega) | omega)), rfl⟩)
          · show pl _ _ _ (204, [(0, .int (nI o))], [], M) _
            have m_40 := sw_nat (t := o) (by omega) et_40
            simp at m_40
            refine ps_st (S' := (205, [(0, .int (nI o))], [.int 1], M)) rfl rfl rfl ?_
            exact ps_ret rfl rfl (⟨congrArg (fun x => some (Value.int (nI x))) (show 1 = szO o from by
                unfold szO
                first | ((repeat first | rw [if_pos (by omega)] | rw [if_neg (by omega)]) <;> first | rfl | omega) | ((repeat' split) <;> first | rfl | (exfalso; omega) | omega)), rfl⟩)
        · have c_34 : ¬ ((nI (lcO o)) = 0) := of_decide_eq_false c_34
          have n_34 : ¬ (lcO o = 0) := fun h9 => c_34 ((eq_nI (p := lcO o) (n := 0) (by omega) (by decide)).mpr h9)
          refine ps_st (S' := (38, [(0, .int (nI o))], [.int 2], M)) rfl rfl rfl ?_
          exact ps_ret rfl rfl (⟨congrArg (fun x => some (Value.int (nI x))) (show 2 = szO o from by
              unfold szO
              first | ((repeat first | rw [if_pos (by omega)] | rw [if_neg (by omega)]) <;> first | rfl | omega) | ((repeat' split) <;> first | rfl | (exfalso; omega) | omega)), rfl⟩)
      · have c_18 : ¬ ((nI o) < 178) := of_decide_eq_false c_18
        have n_18 : ¬ (o < 178) := fun h9 => c_18 ((lt_nI (p := o) (n := 178) (by omega) (by decide)).mpr h9)
        refine ps_st (S' := (22, [(0, .int (nI o))], [.int (nI o)], M)) rfl rfl rfl ?_
        refine ps_st (S' := (25, [(0, .int (nI o))], [.int 184, .int (nI o)], M)) rfl rfl rfl ?_
        refine ps_if2 (S1 := (30, [(0, .int (nI o))], [], M)) (S2 := (28, [], [], M)) rfl rfl rfl (fun c_25 => ?_) (fun c_25 => ?_)
        · have c_25 : 184 < (nI o) := of_decide_eq_true c_25
          have n_25 : 184 < o := (lt_nI (p := 184) (n := o) (by decide) (by omega)).mp c_25
          refine ps_st (S' := (31, [(0, .int (nI o))], [.int (nI o)], M)) rfl rfl rfl ?_
          refine pl_call (a := [.int (nI o)]) (rest := []) rfl rfl rfl (dk_isLocalOpcode (o := o) (ho)) (fun v10 M11 q12 => ?_)
          obtain ⟨rfl, rfl⟩ := q12
          show pl _ _ _ (34, [(0, .int (nI o))], [.int (nI (lcO o))], M) _
          have hlc := lcO_le o
          refine ps_if (S1 := (39, [(0, .int (nI o))], [], M)) (S2 := (37, [(0, .int (nI o))], [], M)) rfl rfl rfl (fun c_34 => ?_) (fun c_34 => ?_)
          · have c_34 : (nI (lcO o)) = 0 := of_decide_eq_true c_34
            have n_34 : lcO o = 0 := (eq_nI (p := lcO o) (n := 0) (by omega) (by decide)).mp c_34
            refine ps_st (S' := (40, [(0, .int (nI o))], [.int (nI o)], M)) rfl rfl rfl ?_
            refine pl_sw rfl (fun t_40 et_40 => ?_)
            have ht_40 : t_40 ∈ [196, 198, 200, 202, 204] := mi_sw_sub et_40 (by decide)
            simp only [List.mem_cons, List.not_mem_nil, or_false] at ht_40
            rcases ht_40 with rfl | rfl | rfl | rfl | rfl
            · show pl _ _ _ (196, [(0, .int (nI o))], [], M) _
              have m_40 := sw_nat (t := o) (by omega) et_40
              simp at m_40
              refine ps_st (S' := (197, [(0, .int (nI o))], [.int 2], M)) rfl rfl rfl ?_
              exact ps_ret rfl rfl (⟨congrArg (fun x => some (Value.int (nI x))) (show 2 = szO o from by
                  unfold szO
                  first | ((repeat first | rw [if_pos (by omega)] | rw [if_neg (by omega)]) <;> first | rfl | omega) | ((repeat' split) <;> first | rfl | (exfalso; omega) | omega)), rfl⟩)
            · show pl _ _ _ (198, [(0, .int (nI o))], [], M) _
              have m_40 := sw_nat (t := o) (by omega) et_40
              simp at m_40
              refine ps_st (S' := (199, [(0, .int (nI o))], [.int 3], M)) rfl rfl rfl ?_
              exact ps_ret rfl rfl (⟨congrArg (fun x => some (Value.int (nI x))) (show 3 = szO o from by
                  unfold szO
                  first | ((repeat first | rw [if_pos (by omega)] | rw [if_neg (by omega)]) <;> first | rfl | omega) | ((repeat' split) <;> first | rfl | (exfalso; omega) | omega)), rfl⟩)
            · show pl _ _ _ (200, [(0, .int (nI o))], [], M) _
              have m_40 := sw_nat (t := o) (by omega) et_40
              simp at m_40
              refine ps_st (S' := (201, [(0, .int (nI o))], [.int 4], M)) rfl rfl rfl ?_
              exact ps_ret rfl rfl (⟨congrArg (fun x => some (Value.int (nI x))) (show 4 = szO o from by
                  unfold szO
                  first | ((repeat first | rw [if_pos (by omega)] | rw [if_neg (by omega)]) <;> first | rfl | omega) | ((repeat' split) <;> first | rfl | (exfalso; omega) | omega)), rfl⟩)
            · show pl _ _ _ (202, [(0, .int (nI o))], [], M) _
              have m_40 := sw_nat (t := o) (by omega) et_40
              simp at m_40
              refine ps_st (S' := (203, [(0, .int (nI o))], [.int 5], M)) rfl rfl rfl ?_
              exact ps_ret rfl rfl (⟨congrArg (fun x => some (Value.int (nI x))) (show 5 = szO o from by
                  unfold szO
                  first | ((repeat first | rw [if_pos (by omega)] | rw [if_neg (by omega)]) <;> first | rfl | omega) | ((repeat' split) <;> first | rfl | (exfalso; omega) | omega)), rfl⟩)
            · show pl _ _ _ (204, [(0, .int (nI o))], [], M) _
              have m_40 := sw_nat (t := o) (by omega) et_40
              simp at m_40
              refine ps_st (S' := (205, [(0, .int (nI o))], [.int 1], M)) rfl rfl rfl ?_
              exact ps_ret rfl rfl (⟨congrArg (fun x => some (Value.int (nI x))) (show 1 = szO o from by
                  unfold szO
                  first | ((repeat first | rw [if_pos (by omega)] | rw [if_neg (by omega)]) <;> first | rfl | omega) | ((repeat' split) <;> first | rfl | (exfalso; omega) | omega)), rfl⟩)
          · have c_34 : ¬ ((nI (lcO o)) = 0) := of_decide_eq_false c_34
            have n_34 : ¬ (lcO o = 0) := fun h9 => c_34 ((eq_nI (p := lcO o) (n := 0) (by omega) (by decide)).mpr h9)
            refine ps_st (S' := (38, [(0, .int (nI o))], [.int 2], M)) rfl rfl rfl ?_
            exact ps_ret rfl rfl (⟨congrArg (fun x => some (Value.int (nI x))) (show 2 = szO o from by
                unfold szO
                first | ((repeat first | rw [if_pos (by omega)] | rw [if_neg (by omega)]) <;> first | rfl | omega) | ((repeat' split) <;> first | rfl | (exfalso; omega) | omega)), rfl⟩)
        · have c_25 : ¬ (184 < (nI o)) := of_decide_eq_false c_25
          have n_25 : ¬ (184 < o) := fun h9 => c_25 ((lt_nI (p := 184) (n := o) (by decide) (by omega)).mpr h9)
          refine ps_st (S' := (29, [], [.int 3], M)) rfl rfl rfl ?_
          exact ps_ret rfl rfl (⟨congrArg (fun x => some (Value.int (nI x))) (show 3 = szO o from by
              unfold szO
              first | ((repeat first | rw [if_pos (by omega)] | rw [if_neg (by omega)]) <;> first | rfl | omega) | ((repeat' split) <;> first | rfl | (exfalso; omega) | omega)), rfl⟩)
set_option maxHeartbeats 1000000 in
theorem dk_isSwitch {g : xe_G} {M : mi_H} {on b cb L : Nat} {y4 y5 y6 y7 y8 y9 y10 y11 : Int32} {o : Nat} (h_on : M.1 on = some (ob 5 [.ref b, .int (nI cb), .int (nI L), .int (nI o), .int y4, .int y5, .int y6, .int y7, .int y8, .int y9, .int y10, .int y11])) (ho : o < 65536) : pt (mT g) 95 [.ref on] M (fun v M' => (v = some (.int (nI (swN o))) ∧ M = M')) := by
  refine pt_in (b := mb_95 g) rfl (fun kf => ?_)
  show pl (mT g) kf (mb_95 g).2 (0, [(0, .ref on)], [], M) _
  refine ps_st (S' := (1, [(0, .ref on)], [.ref on], M)) rfl rfl rfl ?_
  refine ps_get (S' := (4, [(0, .ref on)], [.int (nI o)], M)) rfl h_on rfl rfl ?_
  refine ps_st (S' := (7, [(0, .ref on)], [.int 170, .int (nI o)], M)) rfl rfl rfl ?_
  refine ps_if2 (S1 := (20, [], [], M)) (S2 := (10, [(0, .ref on)], [], M)) rfl rfl rfl (fun c_7 => ?_) (fun c_7 => ?_)
  · have c_7 : (nI o) = 170 := of_decide_eq_true c_7
    have n_7 : o = 170 := (eq_nI (p := o) (n := 170) (by omega) (by decide)).mp c_7
    refine ps_st (S' := (21, [], [.int 1], M)) rfl rfl rfl ?_
    refine ps_st (S' := (25, [], [.int 1], M)) rfl rfl rfl ?_
    exact ps_ret rfl rfl (⟨congrArg (fun x => some (Value.int (nI x))) (show 1 = swN o from by
        unfold swN
        first | ((repeat first | rw [if_pos (by omega)] | rw [if_neg (by omega)]) <;> first | rfl | omega) | ((repeat' split) <;> first | rfl | (exfalso; omega) | omega)), rfl⟩)
  · have c_7 : ¬ ((nI o) = 170) := of_decide_eq_false c_7
    have n_7 : ¬ (o = 170) := fun h9 => c_7 ((eq_nI (p := o) (n := 170) (by omega) (by decide)).mpr h9)
    refine ps_st (S' := (11, [(0, .ref on)], [.ref on], M)) rfl rfl rfl ?_
    refine ps_get (S' := (14, [(0, .ref on)], [.int (nI o)], M)) rfl h_on rfl rfl ?_
    refine ps_st (S' := (17, [(0, .ref on)], [.int 171, .int (nI o)], M)) rfl rfl rfl ?_
    refine ps_if2 (S1 := (24, [(0, .ref on)], [], M)) (S2 := (20, [], [], M)) rfl rfl rfl (fun c_17 => ?_) (fun c_17 => ?_)
    · have c_17 : ¬ (nI o) = 171 := of_decide_eq_true c_17
      have n_17 : ¬ (o = 171) := fun h9 => c_17 ((eq_nI (p := o) (n := 171) (by omega) (by decide)).mpr h9)
      refine ps_st (S' := (25, [], [.int 0], M)) rfl rfl rfl ?_
      exact ps_ret rfl rfl (⟨congrArg (fun x => some (Value.int (nI x))) (show 0 = swN o from by
          unfold swN
          first | ((repeat first | rw [if_pos (by omega)] | rw [if_neg (by omega)]) <;> first | rfl | omega) | ((repeat' split) <;> first | rfl | (exfalso; omega) | omega)), rfl⟩)
    · have c_17 : ¬ (¬ (nI o) = 171) := of_decide_eq_false c_17
      have n_17 : o = 171 := (eq_nI (p := o) (n := 171) (by omega) (by decide)).mp (Decidable.not_not.mp c_17)
      refine ps_st (S' := (21, [], [.int 1], M)) rfl rfl rfl ?_
      refine ps_st (S' := (25, [], [.int 1], M)) rfl rfl rfl ?_
      exact ps_ret rfl rfl (⟨congrArg (fun x => some (Value.int (nI x))) (show 1 = swN o from by
          unfold swN
          first | ((repeat first | rw [if_pos (by omega)] | rw [if_neg (by omega)]) <;> first | rfl | omega) | ((repeat' split) <;> first | rfl | (exfalso; omega) | omega)), rfl⟩)
set_option maxHeartbeats 1000000 in
theorem dk_isLocalTaken {g : xe_G} {M : mi_H} {on b cb L : Nat} {y4 y5 y6 y7 y8 y9 y10 y11 : Int32} {o : Nat} {vv : Int32} (h_on : M.1 on = some (ob 5 [.ref b, .int (nI cb), .int (nI L), .int (nI o), .int y4, .int y5, .int y6, .int y7, .int y8, .int y9, .int y10, .int y11])) (ho : o < 65536) : pt (mT g) 92 [.ref on, .int vv] M (fun v M' => (v = some (.int 1) ∧ M'.1 on = some (ob 5 [.ref b, .int (nI cb), .int (nI L), .int (nI o), .int y4, .int vv, .int y6, .int (nI (lpO o)), .int y8, .int y9, .int y10, .int y11]) ∧ fm [on] M M')) := by
  refine pt_in (b := mb_92 g) rfl (fun kf => ?_)
  show pl (mT g) kf (mb_92 g).2 (0, [(0, .ref on), (1, .int vv)], [], M) _
  have hF : fm [on] M M := fm.rf
  refine ps_st (S' := (1, [(0, .ref on), (1, .int vv)], [.ref on], M)) rfl rfl rfl ?_
  refine ps_get (S' := (4, [(0, .ref on), (1, .int vv)], [.int (nI o)], M)) rfl h_on rfl rfl ?_
  refine ps_st (S' := (6, [(0, .ref on), (1, .int vv)], [.int 22, .int (nI o)], M)) rfl rfl rfl ?_
  refine ps_if2 (S1 := (36, [(0, .ref on), (1, .int vv)], [], M)) (S2 := (9, [(0, .ref on), (1, .int vv)], [], M)) rfl rfl rfl (fun c_6 => ?_) (fun c_6 => ?_)
  · have c_6 : (nI o) = 22 := of_decide_eq_true c_6
    have n_6 : o = 22 := (eq_nI (p := o) (n := 22) (by omega) (by decide)).mp c_6
    refine ps_st (S' := (37, [(0, .ref on), (1, .int vv)], [.int 1], M)) rfl rfl rfl ?_
    refine ps_st (S' := (41, [(0, .ref on), (1, .int vv)], [.int 1], M)) rfl rfl rfl ?_
    refine ps_st (S' := (42, [(2, .int 1), (0, .ref on), (1, .int vv)], [], M)) rfl rfl rfl ?_
    refine ps_st (S' := (43, [(2, .int 1), (0, .ref on), (1, .int vv)], [.ref on], M)) rfl rfl rfl ?_
    refine ps_st (S' := (44, [(2, .int 1), (0, .ref on), (1, .int vv)], [.int 1, .ref on], M)) rfl rfl rfl ?_
    refine ps_if (S1 := (51, [(2, .int 1), (0, .ref on), (1, .int vv)], [.ref on], M)) (S2 := (47, [(2, .int 1), (0, .ref on), (1, .int vv)], [.ref on], M)) rfl rfl rfl (fun c_44 => ?_) (fun c_44 => ?_)
    · exact absurd (of_decide_eq_true c_44) (by decide)
    refine ps_st (S' := (48, [(2, .int 1), (0, .ref on), (1, .int vv)], [.int 2, .ref on], M)) rfl rfl rfl ?_
    refine ps_st (S' := (52, [(0, .ref on), (1, .int vv)], [.int 2, .ref on], M)) rfl rfl rfl ?_
    refine ps_put (l' := [.ref b, .int (nI cb), .int (nI L), .int (nI o), .int y4, .int y5, .int y6, .int 2, .int y8, .int y9, .int y10, .int y11]) rfl h_on rfl rfl (fun M1 h2 f3 z4 => ?_)
    have hF5 := hF.up (by simp) f3 z4
    show pl _ _ _ (55, [(0, .ref on), (1, .int vv)], [], M1) _
    refine ps_st (S' := (56, [(0, .ref on), (1, .int vv)], [.ref on], M1)) rfl rfl rfl ?_
    refine ps_st (S' := (57, [(0, .ref on), (1, .int vv)], [.int vv, .ref on], M1)) rfl rfl rfl ?_
    refine ps_put (l' := [.ref b, .int (nI cb), .int (nI L), .int (nI o), .int y4, .int vv, .int y6, .int 2, .int y8, .int y9, .int y10, .int y11]) rfl h2 rfl rfl (fun M6 h7 f8 z9 => ?_)
    have hF10 := hF5.up (by simp) f8 z9
    show pl _ _ _ (60, [(0, .ref on), (1, .int vv)], [], M6) _
    refine ps_st (S' := (61, [(0, .ref on), (1, .int vv)], [.int 1], M6)) rfl rfl rfl ?_
    exact ps_ret rfl rfl (⟨rfl, by rw [show lpO o = 2 by unfold lpO; rw [if_pos (by omega)]]; exact h7, hF10⟩)
  · have c_6 : ¬ ((nI o) = 22) := of_decide_eq_false c_6
    have n_6 : ¬ (o = 22) := fun h9 => c_6 ((eq_nI (p := o) (n := 22) (by omega) (by decide)).mpr h9)
    refine ps_st (S' := (10, [(0, .ref on), (1, .int vv)], [.ref on], M)) rfl rfl rfl ?_
    refine ps_get (S' := (13, [(0, .ref on), (1, .int vv)], [.int (nI o)], M)) rfl h_on rfl rfl ?_
    refine ps_st (S' := (15, [(0, .ref on), (1, .int vv)], [.int 24, .int (nI o)], M)) rfl rfl rfl ?_
    refine ps_if2 (S1 := (36, [(0, .ref on), (1, .int vv)], [], M)) (S2 := (18, [(0, .ref on), (1, .int vv)], [], M)) rfl rfl rfl (fun c_15 => ?_) (fun c_15 => ?_)
    · have c_15 : (nI o) = 24 := of_decide_eq_true c_15
      have n_15 : o = 24 := (eq_nI (p := o) (n := 24) (by omega) (by decide)).mp c_15
      refine ps_st (S' := (37, [(0, .ref on), (1, .int vv)], [.int 1], M)) rfl rfl rfl ?_
      refine ps_st (S' := (41, [(0, .ref on), (1, .int vv)], [.int 1], M)) rfl rfl rfl ?_
      refine ps_st (S' := (42, [(2, .int 1), (0, .ref on), (1, .int vv)], [], M)) rfl rfl rfl ?_
      refine ps_st (S' := (43, [(2, .int 1), (0, .ref on), (1, .int vv)], [.ref on], M)) rfl rfl rfl ?_
      refine ps_st (S' := (44, [(2, .int 1), (0, .ref on), (1, .int vv)], [.int 1, .ref on], M)) rfl rfl rfl ?_
      refine ps_if (S1 := (51, [(2, .int 1), (0, .ref on), (1, .int vv)], [.ref on], M)) (S2 := (47, [(2, .int 1), (0, .ref on), (1, .int vv)], [.ref on], M)) rfl rfl rfl (fun c_44 => ?_) (fun c_44 => ?_)
      · exact absurd (of_decide_eq_true c_44) (by decide)
      refine ps_st (S' := (48, [(2, .int 1), (0, .ref on), (1, .int vv)], [.int 2, .ref on], M)) rfl rfl rfl ?_
      refine ps_st (S' := (52, [(0, .ref on), (1, .int vv)], [.int 2, .ref on], M)) rfl rfl rfl ?_
      refine ps_put (l' := [.ref b, .int (nI cb), .int (nI L), .int (nI o), .int y4, .int y5, .int y6, .int 2, .int y8, .int y9, .int y10, .int y11]) rfl h_on rfl rfl (fun M11 h12 f13 z14 => ?_)
      have hF15 := hF.up (by simp) f13 z14
      show pl _ _ _ (55, [(0, .ref on), (1, .int vv)], [], M11) _
      refine ps_st (S' := (56, [(0, .ref on), (1, .int vv)], [.ref on], M11)) rfl rfl rfl ?_
      refine ps_st (S' := (57, [(0, .ref on), (1, .int vv)], [.int vv, .ref on], M11)) rfl rfl rfl ?_
      refine ps_put (l' := [.ref b, .int (nI cb), .int (nI L), .int (nI o), .int y4, .int vv, .int y6, .int 2, .int y8, .int y9, .int y10, .int y11]) rfl h12 rfl rfl (fun M16 h17 f18 z19 => ?_)
      have hF20 := hF15.up (by simp) f18 z19
      show pl _ _ _ (60, [(0, .ref on), (1, .int vv)], [], M16) _
      refine ps_st (S' := (61, [(0, .ref on), (1, .int vv)], [.int 1], M16)) rfl rfl rfl ?_
      exact ps_ret rfl rfl (⟨rfl, by rw [show lpO o = 2 by unfold lpO; rw [if_pos (by omega)]]; exact h17, hF20⟩)
    · have c_15 : ¬ ((nI o) = 24) := of_decide_eq_false c_15
      have n_15 : ¬ (o = 24) := fun h9 => c_15 ((eq_nI (p := o) (n := 24) (by omega) (by decide)).mpr h9)
      refine ps_st (S' := (19, [(0, .ref on), (1, .int vv)], [.ref on], M)) rfl rfl rfl ?_
      refine ps_get (S' := (22, [(0, .ref on), (1, .int vv)], [.int (nI o)], M)) rfl h_on rfl rfl ?_
      refine ps_st (S' := (24, [(0, .ref on), (1, .int vv)], [.int 55, .int (nI o)], M)) rfl rfl rfl ?_
      refine ps_if2 (S1 := (36, [(0, .ref on), (1, .int vv)], [], M)) (S2 := (27, [(0, .ref on), (1, .int vv)], [], M)) rfl rfl rfl (fun c_24 => ?_) (fun c_24 => ?_)
      · have c_24 : (nI o) = 55 := of_decide_eq_true c_24
        have n_24 : o = 55 := (eq_nI (p := o) (n := 55) (by omega) (by decide)).mp c_24
        refine ps_st (S' := (37, [(0, .ref on), (1, .int vv)], [.int 1], M)) rfl rfl rfl ?_
        refine ps_st (S' := (41, [(0, .ref on), (1, .int vv)], [.int 1], M)) rfl rfl rfl ?_
        refine ps_st (S' := (42, [(2, .int 1), (0, .ref on), (1, .int vv)], [], M)) rfl rfl rfl ?_
        refine ps_st (S' := (43, [(2, .int 1), (0, .ref on), (1, .int vv)], [.ref on], M)) rfl rfl rfl ?_
        refine ps_st (S' := (44, [(2, .int 1), (0, .ref on), (1, .int vv)], [.int 1, .ref on], M)) rfl rfl rfl ?_
        refine ps_if (S1 := (51, [(2, .int 1), (0, .ref on), (1, .int vv)], [.ref on], M)) (S2 := (47, [(2, .int 1), (0, .ref on), (1, .int vv)], [.ref on], M)) rfl rfl rfl (fun c_44 => ?_) (fun c_44 => ?_)
        · exact absurd (of_decide_eq_true c_44) (by decide)
        refine ps_st (S' := (48, [(2, .int 1), (0, .ref on), (1, .int vv)], [.int 2, .ref on], M)) rfl rfl rfl ?_
        refine ps_st (S' := (52, [(0, .ref on), (1, .int vv)], [.int 2, .ref on], M)) rfl rfl rfl ?_
        refine ps_put (l' := [.ref b, .int (nI cb), .int (nI L), .int (nI o), .int y4, .int y5, .int y6, .int 2, .int y8, .int y9, .int y10, .int y11]) rfl h_on rfl rfl (fun M21 h22 f23 z24 => ?_)
        have hF25 := hF.up (by simp) f23 z24
        show pl _ _ _ (55, [(0, .ref on), (1, .int vv)], [], M21) _
        refine ps_st (S' := (56, [(0, .ref on), (1, .int vv)], [.ref on], M21)) rfl rfl rfl ?_
        refine ps_st (S' := (57, [(0, .ref on), (1, .int vv)], [.int vv, .ref on], M21)) rfl rfl rfl ?_
        refine ps_put (l' := [.ref b, .int (nI cb), .int (nI L), .int (nI o), .int y4, .int vv, .int y6, .int 2, .int y8, .int y9, .int y10, .int y11]) rfl h22 rfl rfl (fun M26 h27 f28 z29 => ?_)
        have hF30 := hF25.up (by simp) f28 z29
        show pl _ _ _ (60, [(0, .ref on), (1, .int vv)], [], M26) _
        refine ps_st (S' := (61, [(0, .ref on), (1, .int vv)], [.int 1], M26)) rfl rfl rfl ?_
        exact ps_ret rfl rfl (⟨rfl, by rw [show lpO o = 2 by unfold lpO; rw [if_pos (by omega)]]; exact h27, hF30⟩)
      · have c_24 : ¬ ((nI o) = 55) := of_decide_eq_false c_24
        have n_24 : ¬ (o = 55) := fun h9 => c_24 ((eq_nI (p := o) (n := 55) (by omega) (by decide)).mpr h9)
        refine ps_st (S' := (28, [(0, .ref on), (1, .int vv)], [.ref on], M)) rfl rfl rfl ?_
        refine ps_get (S' := (31, [(0, .ref on), (1, .int vv)], [.int (nI o)], M)) rfl h_on rfl rfl ?_
        refine ps_st (S' := (33, [(0, .ref on), (1, .int vv)], [.int 57, .int (nI o)], M)) rfl rfl rfl ?_
        refine ps_if2 (S1 := (40, [(0, .ref on), (1, .int vv)], [], M)) (S2 := (36, [(0, .ref on), (1, .int vv)], [], M)) rfl rfl rfl (fun c_33 => ?_) (fun c_33 => ?_)
        · have c_33 : ¬ (nI o) = 57 := of_decide_eq_true c_33
          have n_33 : ¬ (o = 57) := fun h9 => c_33 ((eq_nI (p := o) (n := 57) (by omega) (by decide)).mpr h9)
          refine ps_st (S' := (41, [(0, .ref on), (1, .int vv)], [.int 0], M)) rfl rfl rfl ?_
          refine ps_st (S' := (42, [(2, .int 0), (0, .ref on), (1, .int vv)], [], M)) rfl rfl rfl ?_
          refine ps_st (S' := (43, [(2, .int 0), (0, .ref on), (1, .int vv)], [.ref on], M)) rfl rfl rfl ?_
          refine ps_st (S' := (44, [(2, .int 0), (0, .ref on), (1, .int vv)], [.int 0, .ref on], M)) rfl rfl rfl ?_
          refine ps_if (S1 := (51, [(2, .int 0), (0, .ref on), (1, .int vv)], [.ref on], M)) (S2 := (47, [(2, .int 0), (0, .ref on), (1, .int vv)], [.ref on], M)) rfl rfl rfl (fun c_44 => ?_) (fun c_44 => ?_)
          rotate_left
          · exact absurd (by decide) (of_decide_eq_false c_44)
          refine ps_st (S' := (52, [(0, .ref on), (1, .int vv)], [.int 1, .ref on], M)) rfl rfl rfl ?_
          refine ps_put (l' := [.ref b, .int (nI cb), .int (nI L), .int (nI o), .int y4, .int y5, .int y6, .int 1, .int y8, .int y9, .int y10, .int y11]) rfl h_on rfl rfl (fun M31 h32 f33 z34 => ?_)
          have hF35 := hF.up (by simp) f33 z34
          show pl _ _ _ (55, [(0, .ref on), (1, .int vv)], [], M31) _
          refine ps_st (S' := (56, [(0, .ref on), (1, .int vv)], [.ref on], M31)) rfl rfl rfl ?_
          refine ps_st (S' := (57, [(0, .ref on), (1, .int vv)], [.int vv, .ref on], M31)) rfl rfl rfl ?_
          refine ps_put (l' := [.ref b, .int (nI cb), .int (nI L), .int (nI o), .int y4, .int vv, .int y6, .int 1, .int y8, .int y9, .int y10, .int y11]) rfl h32 rfl rfl (fun M36 h37 f38 z39 => ?_)
          have hF40 := hF35.up (by simp) f38 z39
          show pl _ _ _ (60, [(0, .ref on), (1, .int vv)], [], M36) _
          refine ps_st (S' := (61, [(0, .ref on), (1, .int vv)], [.int 1], M36)) rfl rfl rfl ?_
          exact ps_ret rfl rfl (⟨rfl, by rw [show lpO o = 1 by unfold lpO; rw [if_neg (by omega)]]; exact h37, hF40⟩)
        · have c_33 : ¬ (¬ (nI o) = 57) := of_decide_eq_false c_33
          have n_33 : o = 57 := (eq_nI (p := o) (n := 57) (by omega) (by decide)).mp (Decidable.not_not.mp c_33)
          refine ps_st (S' := (37, [(0, .ref on), (1, .int vv)], [.int 1], M)) rfl rfl rfl ?_
          refine ps_st (S' := (41, [(0, .ref on), (1, .int vv)], [.int 1], M)) rfl rfl rfl ?_
          refine ps_st (S' := (42, [(2, .int 1), (0, .ref on), (1, .int vv)], [], M)) rfl rfl rfl ?_
          refine ps_st (S' := (43, [(2, .int 1), (0, .ref on), (1, .int vv)], [.ref on], M)) rfl rfl rfl ?_
          refine ps_st (S' := (44, [(2, .int 1), (0, .ref on), (1, .int vv)], [.int 1, .ref on], M)) rfl rfl rfl ?_
          refine ps_if (S1 := (51, [(2, .int 1), (0, .ref on), (1, .int vv)], [.ref on], M)) (S2 := (47, [(2, .int 1), (0, .ref on), (1, .int vv)], [.ref on], M)) rfl rfl rfl (fun c_44 => ?_) (fun c_44 => ?_)
          · exact absurd (of_decide_eq_true c_44) (by decide)
          refine ps_st (S' := (48, [(2, .int 1), (0, .ref on), (1, .int vv)], [.int 2, .ref on], M)) rfl rfl rfl ?_
          refine ps_st (S' := (52, [(0, .ref on), (1, .int vv)], [.int 2, .ref on], M)) rfl rfl rfl ?_
          refine ps_put (l' := [.ref b, .int (nI cb), .int (nI L), .int (nI o), .int y4, .int y5, .int y6, .int 2, .int y8, .int y9, .int y10, .int y11]) rfl h_on rfl rfl (fun M41 h42 f43 z44 => ?_)
          have hF45 := hF.up (by simp) f43 z44
          show pl _ _ _ (55, [(0, .ref on), (1, .int vv)], [], M41) _
          refine ps_st (S' := (56, [(0, .ref on), (1, .int vv)], [.ref on], M41)) rfl rfl rfl ?_
          refine ps_st (S' := (57, [(0, .ref on), (1, .int vv)], [.int vv, .ref on], M41)) rfl rfl rfl ?_
          refine ps_put (l' := [.ref b, .int (nI cb), .int (nI L), .int (nI o), .int y4, .int vv, .int y6, .int 2, .int y8, .int y9, .int y10, .int y11]) rfl h42 rfl rfl (fun M46 h47 f48 z49 => ?_)
          have hF50 := hF45.up (by simp) f48 z49
          show pl _ _ _ (60, [(0, .ref on), (1, .int vv)], [], M46) _
          refine ps_st (S' := (61, [(0, .ref on), (1, .int vv)], [.int 1], M46)) rfl rfl rfl ?_
          exact ps_ret rfl rfl (⟨rfl, by rw [show lpO o = 2 by unfold lpO; rw [if_pos (by omega)]]; exact h47, hF50⟩)
set_option maxHeartbeats 1000000 in
theorem dk_isShortLocalTaken {g : xe_G} {M : mi_H} {on b cb L : Nat} {y3 y4 y5 y6 y7 y8 y9 y10 y11 : Int32} {t lf : Nat} (h_on : M.1 on = some (ob 5 [.ref b, .int (nI cb), .int (nI L), .int y3, .int y4, .int y5, .int y6, .int y7, .int y8, .int y9, .int y10, .int y11])) (ht : t < 256) (hlf : lf < 256) : pt (mT g) 94 [.ref on, .int (nI t), .int (nI lf)] M (fun v M' => (v = some (.int 1) ∧ M'.1 on = some (ob 5 [.ref b, .int (nI cb), .int (nI L), .int (nI (lf + t / 4)), .int y4, .int (nI (t % 4)), .int y6, .int (nI (lpO (lf + t / 4))), .int y8, .int y9, .int y10, .int y11]) ∧ fm [on] M M')) := by
  refine pt_in (b := mb_94 g) rfl (fun kf => ?_)
  show pl (mT g) kf (mb_94 g).2 (0, [(0, .ref on), (1, .int (nI t)), (2, .int (nI lf))], [], M) _
  have hF : fm [on] M M := fm.rf
  refine ps_st (S' := (1, [(0, .ref on), (1, .int (nI t)), (2, .int (nI lf))], [.ref on], M)) rfl rfl rfl ?_
  refine ps_st (S' := (2, [(0, .ref on), (1, .int (nI t)), (2, .int (nI lf))], [.int (nI lf), .ref on], M)) rfl rfl rfl ?_
  refine ps_st (S' := (3, [(0, .ref on), (1, .int (nI t)), (2, .int (nI lf))], [.int (nI t), .int (nI lf), .ref on], M)) rfl rfl rfl ?_
  refine ps_st (S' := (4, [(0, .ref on), (1, .int (nI t)), (2, .int (nI lf))], [.int 4, .int (nI t), .int (nI lf), .ref on], M)) rfl rfl rfl ?_
  refine ps_st (S' := (5, [(0, .ref on), (1, .int (nI t)), (2, .int (nI lf))], [.int ((nI t) / 4), .int (nI lf), .ref on], M)) rfl rfl rfl ?_
  rw [ndiv_nI (k := 4) rfl (by decide) (by omega)]
  show pl _ _ _ (_, [(0, .ref on), (1, .int (nI t)), (2, .int (nI lf))], [.int (nI (t / 4)), .int (nI lf), .ref on], M) _
  refine ps_st (S' := (6, [(0, .ref on), (1, .int (nI t)), (2, .int (nI lf))], [.int ((nI lf) + (nI (t / 4))), .ref on], M)) rfl rfl rfl ?_
  rw [nI_add1 (p := lf) (k := t / 4) (x := (nI (t / 4))) rfl (by omega)]
  show pl _ _ _ (_, [(0, .ref on), (1, .int (nI t)), (2, .int (nI lf))], [.int (nI (lf + t / 4)), .ref on], M) _
  refine ps_put (l' := [.ref b, .int (nI cb), .int (nI L), .int (nI (lf + t / 4)), .int y4, .int y5, .int y6, .int y7, .int y8, .int y9, .int y10, .int y11]) rfl h_on rfl rfl (fun M1 h2 f3 z4 => ?_)
  have hF5 := hF.up (by simp) f3 z4
  show pl _ _ _ (9, [(0, .ref on), (1, .int (nI t)), (2, .int (nI lf))], [], M1) _
  refine ps_st (S' := (10, [(0, .ref on), (1, .int (nI t)), (2, .int (nI lf))], [.ref on], M1)) rfl rfl rfl ?_
  refine ps_st (S' := (11, [(0, .ref on), (1, .int (nI t)), (2, .int (nI lf))], [.int (nI t), .ref on], M1)) rfl rfl rfl ?_
  refine ps_st (S' := (12, [(0, .ref on), (1, .int (nI t)), (2, .int (nI lf))], [.int 4, .int (nI t), .ref on], M1)) rfl rfl rfl ?_
  refine ps_st (S' := (13, [(0, .ref on), (1, .int (nI t)), (2, .int (nI lf))], [.int ((nI t) - (nI t) / 4 * 4), .ref on], M1)) rfl rfl rfl ?_
  rw [nI_rem (a := t) (k := 4) (x := 4) rfl rfl (by decide) (by omega)]
  show pl _ _ _ (_, [(0, .ref on), (1, .int (nI t)), (2, .int (nI lf))], [.int (nI (t % 4)), .ref on], M1) _
  refine pl_call (a := [.ref on, .int (nI (t % 4))]) (rest := []) rfl rfl rfl (dk_isLocalTaken (on := on) (b := b) (cb := cb) (L := L) (y4 := y4) (y5 := y5) (y6 := y6) (y7 := y7) (y8 := y8) (y9 := y9) (y10 := y10) (y11 := y11) (o := (lf + t / 4)) (vv := (nI (t % 4))) h2 (by omega)) (fun v6 M7 q8 => ?_)
  obtain ⟨rfl, h9, f10⟩ := q8
  have hF12 := hF5.tr f10 (by simp)
  show pl _ _ _ (16, [(0, .ref on), (1, .int (nI t)), (2, .int (nI lf))], [.int 1], M7) _
  exact ps_ret rfl rfl (⟨rfl, h9, hF12⟩)
set_option maxHeartbeats 1000000 in
theorem dk_isJumpTaken {g : xe_G} {M : mi_H} {on b cb L : Nat} {y3 y4 y5 y6 y7 y8 y9 y10 y11 : Int32} {vv oo : Int32} (h_on : M.1 on = some (ob 5 [.ref b, .int (nI cb), .int (nI L), .int y3, .int y4, .int y5, .int y6, .int y7, .int y8, .int y9, .int y10, .int y11]))  : pt (mT g) 90 [.ref on, .int vv, .int oo] M (fun v M' => (v = some (.int 1) ∧ M'.1 on = some (ob 5 [.ref b, .int (nI cb), .int (nI L), .int oo, .int y4, .int y5, .int y6, .int y7, .int 1, .int y9, .int vv, .int y11]) ∧ fm [on] M M')) := by
  refine pt_in (b := mb_90 g) rfl (fun kf => ?_)
  show pl (mT g) kf (mb_90 g).2 (0, [(0, .ref on), (1, .int vv), (2, .int oo)], [], M) _
  have hF : fm [on] M M := fm.rf
  refine ps_st (S' := (1, [(0, .ref on), (1, .int vv), (2, .int oo)], [.ref on], M)) rfl rfl rfl ?_
  refine ps_st (S' := (2, [(0, .ref on), (1, .int vv), (2, .int oo)], [.int oo, .ref on], M)) rfl rfl rfl ?_
  refine ps_put (l' := [.ref b, .int (nI cb), .int (nI L), .int oo, .int y4, .int y5, .int y6, .int y7, .int y8, .int y9, .int y10, .int y11]) rfl h_on rfl rfl (fun M1 h2 f3 z4 => ?_)
  have hF5 := hF.up (by simp) f3 z4
  show pl _ _ _ (5, [(0, .ref on), (1, .int vv), (2, .int oo)], [], M1) _
  refine ps_st (S' := (6, [(0, .ref on), (1, .int vv), (2, .int oo)], [.ref on], M1)) rfl rfl rfl ?_
  refine ps_st (S' := (7, [(0, .ref on), (1, .int vv), (2, .int oo)], [.int vv, .ref on], M1)) rfl rfl rfl ?_
  refine ps_put (l' := [.ref b, .int (nI cb), .int (nI L), .int oo, .int y4, .int y5, .int y6, .int y7, .int y8, .int y9, .int vv, .int y11]) rfl h2 rfl rfl (fun M6 h7 f8 z9 => ?_)
  have hF10 := hF5.up (by simp) f8 z9
  show pl _ _ _ (10, [(0, .ref on), (1, .int vv), (2, .int oo)], [], M6) _
  refine ps_st (S' := (11, [(0, .ref on), (1, .int vv), (2, .int oo)], [.ref on], M6)) rfl rfl rfl ?_
  refine ps_st (S' := (12, [(0, .ref on), (1, .int vv), (2, .int oo)], [.int 1, .ref on], M6)) rfl rfl rfl ?_
  refine ps_put (l' := [.ref b, .int (nI cb), .int (nI L), .int oo, .int y4, .int y5, .int y6, .int y7, .int 1, .int y9, .int vv, .int y11]) rfl h7 rfl rfl (fun M11 h12 f13 z14 => ?_)
  have hF15 := hF10.up (by simp) f13 z14
  show pl _ _ _ (15, [(0, .ref on), (1, .int vv), (2, .int oo)], [], M11) _
  refine ps_st (S' := (16, [(0, .ref on), (1, .int vv), (2, .int oo)], [.int 1], M11)) rfl rfl rfl ?_
  exact ps_ret rfl rfl (⟨rfl, h12, hF15⟩)
set_option maxHeartbeats 1000000 in
theorem dk_isIndexTaken {g : xe_G} {M : mi_H} {f : Nat → Int32} {n on b da cb L : Nat} {y7 y8 y10 y11 : Int32} {pc o : Nat} (h_on : M.1 on = some (ob 5 [.ref b, .int (nI cb), .int (nI L), .int (nI o), .int (nI (szO o)), .int 0, .int 0, .int y7, .int y8, .int (nI pc), .int y10, .int y11])) (h_b : M.1 b = some (ob 1 [.ref da])) (h_da : M.1 da = some (ar .byte n f)) (hn : n ≤ 65540) (ho : o < 256) (hcl : cb + L + 4 ≤ n) (hpl : pc < L) (hsz : pc + szO o ≤ L) : pt (mT g) 88 [.ref on] M (fun v M' => (∃ (x : Int32 × Int32), (ixS f cb pc o = some x) ∧ v = some (.int 1) ∧ M'.1 on = some (ob 5 [.ref b, .int (nI cb), .int (nI L), .int (nI o), .int (nI (szO o)), .int x.1, .int x.2, .int y7, .int y8, .int (nI pc), .int y10, .int y11]) ∧ fm [on] M M') ∨ (∃ (z5 z6 : Int32), (ixS f cb pc o = none) ∧ v = some (.int 0) ∧ M'.1 on = some (ob 5 [.ref b, .int (nI cb), .int (nI L), .int (nI o), .int (nI (szO o)), .int z5, .int z6, .int y7, .int y8, .int (nI pc), .int y10, .int y11]) ∧ fm [on] M M')) := by
  refine pt_in (b := mb_88 g) rfl (fun kf => ?_)
  show pl (mT g) kf (mb_88 g).2 (0, [(0, .ref on)], [], M) _
  have hF : fm [on] M M := fm.rf
  have hz8 := szO_le o
  refine ps_st (S' := (1, [(0, .ref on)], [.ref on], M)) rfl rfl rfl ?_
  refine ps_get (S' := (4, [(0, .ref on)], [.int (nI (szO o))], M)) rfl h_on rfl rfl ?_
  refine ps_st (S' := (5, [(0, .ref on)], [.int 3, .int (nI (szO o))], M)) rfl rfl rfl ?_
  refine ps_if2 (S1 := (10, [(0, .ref on)], [], M)) (S2 := (8, [(0, .ref on)], [], M)) rfl rfl rfl (fun c_5 => ?_) (fun c_5 => ?_)
  · have c_5 : 3 ≤ (nI (szO o)) := of_decide_eq_true c_5
    have n_5 : 3 ≤ szO o := (le_nI (p := 3) (n := szO o) (by decide) (by omega)).mp c_5
    refine ps_st (S' := (11, [(0, .ref on)], [.ref on], M)) rfl rfl rfl ?_
    refine ps_st (S' := (12, [(0, .ref on)], [.ref on, .ref on], M)) rfl rfl rfl ?_
    refine ps_st (S' := (13, [(0, .ref on)], [.ref on, .ref on, .ref on], M)) rfl rfl rfl ?_
    refine ps_get (S' := (16, [(0, .ref on)], [.int (nI pc), .ref on, .ref on], M)) rfl h_on rfl rfl ?_
    refine ps_st (S' := (17, [(0, .ref on)], [.int 1, .int (nI pc), .ref on, .ref on], M)) rfl rfl rfl ?_
    refine ps_st (S' := (18, [(0, .ref on)], [.int ((nI pc) + 1), .ref on, .ref on], M)) rfl rfl rfl ?_
    rw [nI_add1 (p := pc) (k := 1) (x := 1) rfl (by omega)]
    show pl _ _ _ (_, [(0, .ref on)], [.int (nI (pc + 1)), .ref on, .ref on], M) _
    refine pl_call (a := [.ref on, .int (nI (pc + 1))]) (rest := [.ref on]) rfl rfl rfl (dk_iu2 (f := f) (n := n) (on := on) (b := b) (da := da) (cb := cb) (L := L) (y3 := (nI o)) (y4 := (nI (szO o))) (y5 := 0) (y6 := 0) (y7 := y7) (y8 := y8) (y9 := (nI pc)) (y10 := y10) (y11 := y11) (a := (pc + 1)) h_on h_b h_da (hn) (by omega)) (fun v1 M2 q3 => ?_)
    obtain ⟨rfl, rfl⟩ := q3
    show pl _ _ _ (21, [(0, .ref on)], [.int (nI (by2 f (cb + (pc + 1)))), .ref on], M) _
    have hb_18 := by2_lt f (cb + (pc + 1))
    refine ps_put (l' := [.ref b, .int (nI cb), .int (nI L), .int (nI o), .int (nI (szO o)), .int (nI (by2 f (cb + (pc + 1)))), .int 0, .int y7, .int y8, .int (nI pc), .int y10, .int y11]) rfl h_on rfl rfl (fun M4 h5 f6 z7 => ?_)
    have h8 := (f6 b (ob_ne h_b h_on (by decide))).trans h_b
    have h9 := (f6 da (Ne.symm (ob_ar h_on h_da))).trans h_da
    have hF10 := hF.up (by simp) f6 z7
    show pl _ _ _ (24, [(0, .ref on)], [], M4) _
    refine ps_st (S' := (25, [(0, .ref on)], [.ref on], M4)) rfl rfl rfl ?_
    refine ps_get (S' := (28, [(0, .ref on)], [.int (nI o)], M4)) rfl h5 rfl rfl ?_
    refine pl_sw rfl (fun t_28 et_28 => ?_)
    have ht_28 : t_28 ∈ [64, 80, 113, 132] := mi_sw_sub et_28 (by decide)
    simp only [List.mem_cons, List.not_mem_nil, or_false] at ht_28
    rcases ht_28 with rfl | rfl | rfl | rfl
    · show pl _ _ _ (64, [(0, .ref on)], [], M4) _
      have m_28 := sw_nat (t := o) (by omega) et_28
      simp at m_28
      have hz9 : szO o = 4 := by rw [show o = 197 by omega]; rfl
      refine ps_st (S' := (65, [(0, .ref on)], [.ref on], M4)) rfl rfl rfl ?_
      refine ps_st (S' := (66, [(0, .ref on)], [.ref on, .ref on], M4)) rfl rfl rfl ?_
      refine ps_st (S' := (67, [(0, .ref on)], [.ref on, .ref on, .ref on], M4)) rfl rfl rfl ?_
      refine ps_get (S' := (70, [(0, .ref on)], [.int (nI pc), .ref on, .ref on], M4)) rfl h5 rfl rfl ?_
      refine ps_st (S' := (71, [(0, .ref on)], [.int 3, .int (nI pc), .ref on, .ref on], M4)) rfl rfl rfl ?_
      refine ps_st (S' := (72, [(0, .ref on)], [.int ((nI pc) + 3), .ref on, .ref on], M4)) rfl rfl rfl ?_
      rw [nI_add1 (p := pc) (k := 3) (x := 3) rfl (by omega)]
      show pl _ _ _ (_, [(0, .ref on)], [.int (nI (pc + 3)), .ref on, .ref on], M4) _
      refine pl_call (a := [.ref on, .int (nI (pc + 3))]) (rest := [.ref on]) rfl rfl rfl (dk_iu1 (f := f) (n := n) (on := on) (b := b) (da := da) (cb := cb) (L := L) (y3 := (nI o)) (y4 := (nI (szO o))) (y5 := (nI (by2 f (cb + (pc + 1))))) (y6 := 0) (y7 := y7) (y8 := y8) (y9 := (nI pc)) (y10 := y10) (y11 := y11) (a := (pc + 3)) h5 h8 h9 (hn) (by omega)) (fun v11 M12 q13 => ?_)
      obtain ⟨rfl, rfl⟩ := q13
      show pl _ _ _ (75, [(0, .ref on)], [.int (nI (by1 f (cb + (pc + 3)))), .ref on], M4) _
      have hb_72 := by1_lt f (cb + (pc + 3))
      refine ps_put (l' := [.ref b, .int (nI cb), .int (nI L), .int (nI o), .int (nI (szO o)), .int (nI (by2 f (cb + (pc + 1)))), .int (nI (by1 f (cb + (pc + 3)))), .int y7, .int y8, .int (nI pc), .int y10, .int y11]) rfl h5 rfl rfl (fun M14 h15 f16 z17 => ?_)
      have h18 := (f16 b (ob_ne h8 h5 (by decide))).trans h8
      have h19 := (f16 da (Ne.symm (ob_ar h5 h9))).trans h9
      have hF20 := hF10.up (by simp) f16 z17
      show pl _ _ _ (78, [(0, .ref on)], [], M14) _
      refine ps_st (S' := (79, [(0, .ref on)], [.int 1], M14)) rfl rfl rfl ?_
      exact ps_ret rfl rfl (Or.inl ⟨((nI (by2 f (cb + (pc + 1)))), (nI (by1 f (cb + (pc + 3))))), by
          unfold ixS
          first | ((repeat first | rw [if_pos (by omega)] | rw [if_neg (by omega)]) <;> first | rfl | omega) | ((repeat' split) <;> first | rfl | (exfalso; omega) | omega), rfl, h15, hF20⟩)
    · show pl _ _ _ (80, [(0, .ref on)], [], M4) _
      have m_28 := sw_nat (t := o) (by omega) et_28
      simp at m_28
      have hz9 : szO o = 5 := by rw [show o = 185 by omega]; rfl
      refine ps_st (S' := (81, [(0, .ref on)], [.ref on], M4)) rfl rfl rfl ?_
      refine ps_st (S' := (82, [(0, .ref on)], [.ref on, .ref on], M4)) rfl rfl rfl ?_
      refine ps_st (S' := (83, [(0, .ref on)], [.ref on, .ref on, .ref on], M4)) rfl rfl rfl ?_
      refine ps_get (S' := (86, [(0, .ref on)], [.int (nI pc), .ref on, .ref on], M4)) rfl h5 rfl rfl ?_
      refine ps_st (S' := (87, [(0, .ref on)], [.int 3, .int (nI pc), .ref on, .ref on], M4)) rfl rfl rfl ?_
      refine ps_st (S' := (88, [(0, .ref on)], [.int ((nI pc) + 3), .ref on, .ref on], M4)) rfl rfl rfl ?_
      rw [nI_add1 (p := pc) (k := 3) (x := 3) rfl (by omega)]
      show pl _ _ _ (_, [(0, .ref on)], [.int (nI (pc + 3)), .ref on, .ref on], M4) _
      refine pl_call (a := [.ref on, .int (nI (pc + 3))]) (rest := [.ref on]) rfl rfl rfl (dk_iu1 (f := f) (n := n) (on := on) (b := b) (da := da) (cb := cb) (L := L) (y3 := (nI o)) (y4 := (nI (szO o))) (y5 := (nI (by2 f (cb + (pc + 1))))) (y6 := 0) (y7 := y7) (y8 := y8) (y9 := (nI pc)) (y10 := y10) (y11 := y11) (a := (pc + 3)) h5 h8 h9 (hn) (by omega)) (fun v21 M22 q23 => ?_)
      obtain ⟨rfl, rfl⟩ := q23
      show pl _ _ _ (91, [(0, .ref on)], [.int (nI (by1 f (cb + (pc + 3)))), .ref on], M4) _
      have hb_88 := by1_lt f (cb + (pc + 3))
      refine ps_put (l' := [.ref b, .int (nI cb), .int (nI L), .int (nI o), .int (nI (szO o)), .int (nI (by2 f (cb + (pc + 1)))), .int (nI (by1 f (cb + (pc + 3)))), .int y7, .int y8, .int (nI pc), .int y10, .int y11]) rfl h5 rfl rfl (fun M24 h25 f26 z27 => ?_)
      have h28 := (f26 b (ob_ne h8 h5 (by decide))).trans h8
      have h29 := (f26 da (Ne.symm (ob_ar h5 h9))).trans h9
      have hF30 := hF10.up (by simp) f26 z27
      show pl _ _ _ (94, [(0, .ref on)], [], M24) _
      refine ps_st (S' := (95, [(0, .ref on)], [.ref on], M24)) rfl rfl rfl ?_
      refine ps_st (S' := (96, [(0, .ref on)], [.ref on, .ref on], M24)) rfl rfl rfl ?_
      refine ps_get (S' := (99, [(0, .ref on)], [.int (nI pc), .ref on], M24)) rfl h25 rfl rfl ?_
      refine ps_st (S' := (100, [(0, .ref on)], [.int 4, .int (nI pc), .ref on], M24)) rfl rfl rfl ?_
      refine ps_st (S' := (101, [(0, .ref on)], [.int ((nI pc) + 4), .ref on], M24)) rfl rfl rfl ?_
      rw [nI_add1 (p := pc) (k := 4) (x := 4) rfl (by omega)]
      show pl _ _ _ (_, [(0, .ref on)], [.int (nI (pc + 4)), .ref on], M24) _
      refine pl_call (a := [.ref on, .int (nI (pc + 4))]) (rest := []) rfl rfl rfl (dk_iu1 (f := f) (n := n) (on := on) (b := b) (da := da) (cb := cb) (L := L) (y3 := (nI o)) (y4 := (nI (szO o))) (y5 := (nI (by2 f (cb + (pc + 1))))) (y6 := (nI (by1 f (cb + (pc + 3))))) (y7 := y7) (y8 := y8) (y9 := (nI pc)) (y10 := y10) (y11 := y11) (a := (pc + 4)) h25 h28 h29 (hn) (by omega)) (fun v31 M32 q33 => ?_)
      obtain ⟨rfl, rfl⟩ := q33
      show pl _ _ _ (104, [(0, .ref on)], [.int (nI (by1 f (cb + (pc + 4))))], M24) _
      have hb_101 := by1_lt f (cb + (pc + 4))
      refine ps_if (S1 := (111, [(0, .ref on)], [], M24)) (S2 := (107, [(0, .ref on)], [], M24)) rfl rfl rfl (fun c_104 => ?_) (fun c_104 => ?_)
      · have c_104 : ¬ (nI (by1 f (cb + (pc + 4)))) = 0 := of_decide_eq_true c_104
        have n_104 : ¬ (by1 f (cb + (pc + 4)) = 0) := fun h9 => c_104 ((eq_nI (p := by1 f (cb + (pc + 4))) (n := 0) (Nat.lt_trans (by1_lt _ _) (by decide)) (by decide)).mpr h9)
        refine ps_st (S' := (112, [], [.int 0], M24)) rfl rfl rfl ?_
        exact ps_ret rfl rfl (Or.inr ⟨_, _, by
            unfold ixS
            first | ((repeat first | rw [if_pos (by omega)] | rw [if_neg (by omega)]) <;> first | rfl | omega) | ((repeat' split) <;> first | rfl | (exfalso; omega) | omega), rfl, h25, hF30⟩)
      · have c_104 : ¬ (¬ (nI (by1 f (cb + (pc + 4)))) = 0) := of_decide_eq_false c_104
        have n_104 : by1 f (cb + (pc + 4)) = 0 := (eq_nI (p := by1 f (cb + (pc + 4))) (n := 0) (Nat.lt_trans (by1_lt _ _) (by decide)) (by decide)).mp (Decidable.not_not.mp c_104)
        refine ps_st (S' := (108, [(0, .ref on)], [.int 1], M24)) rfl rfl rfl ?_
        refine ps_st (S' := (112, [], [.int 1], M24)) rfl rfl rfl ?_
        exact ps_ret rfl rfl (Or.inl ⟨((nI (by2 f (cb + (pc + 1)))), (nI (by1 f (cb + (pc + 3))))), by
            unfold ixS
            first | ((repeat first | rw [if_pos (by omega)] | rw [if_neg (by omega)]) <;> first | rfl | omega) | ((repeat' split) <;> first | rfl | (exfalso; omega) | omega), rfl, h25, hF30⟩)
    · show pl _ _ _ (113, [(0, .ref on)], [], M4) _
      have m_28 := sw_nat (t := o) (by omega) et_28
      simp at m_28
      have hz9 : szO o = 5 := by rw [show o = 186 by omega]; rfl
      refine ps_st (S' := (114, [(0, .ref on)], [.ref on], M4)) rfl rfl rfl ?_
      refine ps_st (S' := (115, [(0, .ref on)], [.ref on, .ref on], M4)) rfl rfl rfl ?_
      refine ps_get (S' := (118, [(0, .ref on)], [.int (nI pc), .ref on], M4)) rfl h5 rfl rfl ?_
      refine ps_st (S' := (119, [(0, .ref on)], [.int 3, .int (nI pc), .ref on], M4)) rfl rfl rfl ?_
      refine ps_st (S' := (120, [(0, .ref on)], [.int ((nI pc) + 3), .ref on], M4)) rfl rfl rfl ?_
      rw [nI_add1 (p := pc) (k := 3) (x := 3) rfl (by omega)]
      show pl _ _ _ (_, [(0, .ref on)], [.int (nI (pc + 3)), .ref on], M4) _
      refine pl_call (a := [.ref on, .int (nI (pc + 3))]) (rest := []) rfl rfl rfl (dk_iu2 (f := f) (n := n) (on := on) (b := b) (da := da) (cb := cb) (L := L) (y3 := (nI o)) (y4 := (nI (szO o))) (y5 := (nI (by2 f (cb + (pc + 1))))) (y6 := 0) (y7 := y7) (y8 := y8) (y9 := (nI pc)) (y10 := y10) (y11 := y11) (a := (pc + 3)) h5 h8 h9 (hn) (by omega)) (fun v34 M35 q36 => ?_)
      obtain ⟨rfl, rfl⟩ := q36
      show pl _ _ _ (123, [(0, .ref on)], [.int (nI (by2 f (cb + (pc + 3))))], M4) _
      have hb_120 := by2_lt f (cb + (pc + 3))
      refine ps_if (S1 := (130, [(0, .ref on)], [], M4)) (S2 := (126, [(0, .ref on)], [], M4)) rfl rfl rfl (fun c_123 => ?_) (fun c_123 => ?_)
      · have c_123 : ¬ (nI (by2 f (cb + (pc + 3)))) = 0 := of_decide_eq_true c_123
        have n_123 : ¬ (by2 f (cb + (pc + 3)) = 0) := fun h9 => c_123 ((eq_nI (p := by2 f (cb + (pc + 3))) (n := 0) (Nat.lt_trans (by2_lt _ _) (by decide)) (by decide)).mpr h9)
        refine ps_st (S' := (131, [], [.int 0], M4)) rfl rfl rfl ?_
        exact ps_ret rfl rfl (Or.inr ⟨_, _, by
            unfold ixS
            first | ((repeat first | rw [if_pos (by omega)] | rw [if_neg (by omega)]) <;> first | rfl | omega) | ((repeat' split) <;> first | rfl | (exfalso; omega) | omega), rfl, h5, hF10⟩)
      · have c_123 : ¬ (¬ (nI (by2 f (cb + (pc + 3)))) = 0) := of_decide_eq_false c_123
        have n_123 : by2 f (cb + (pc + 3)) = 0 := (eq_nI (p := by2 f (cb + (pc + 3))) (n := 0) (Nat.lt_trans (by2_lt _ _) (by decide)) (by decide)).mp (Decidable.not_not.mp c_123)
        refine ps_st (S' := (127, [(0, .ref on)], [.int 1], M4)) rfl rfl rfl ?_
        refine ps_st (S' := (131, [], [.int 1], M4)) rfl rfl rfl ?_
        exact ps_ret rfl rfl (Or.inl ⟨((nI (by2 f (cb + (pc + 1)))), 0), by
            unfold ixS
            first | ((repeat first | rw [if_pos (by omega)] | rw [if_neg (by omega)]) <;> first | rfl | omega) | ((repeat' split) <;> first | rfl | (exfalso; omega) | omega), rfl, h5, hF10⟩)
    · show pl _ _ _ (132, [(0, .ref on)], [], M4) _
      have m_28 := sw_nat (t := o) (by omega) et_28
      simp at m_28
      refine ps_st (S' := (133, [(0, .ref on)], [.int 1], M4)) rfl rfl rfl ?_
      exact ps_ret rfl rfl (Or.inl ⟨((nI (by2 f (cb + (pc + 1)))), 0), by
          unfold ixS
          first | ((repeat first | rw [if_pos (by omega)] | rw [if_neg (by omega)]) <;> first | rfl | omega) | ((repeat' split) <;> first | rfl | (exfalso; omega) | omega), rfl, h5, hF10⟩)
  · have c_5 : ¬ (3 ≤ (nI (szO o))) := of_decide_eq_false c_5
    have n_5 : ¬ (3 ≤ szO o) := fun h9 => c_5 ((le_nI (p := 3) (n := szO o) (by decide) (by omega)).mpr h9)
    refine ps_st (S' := (9, [(0, .ref on)], [.int 1], M)) rfl rfl rfl ?_
    exact ps_ret rfl rfl (Or.inl ⟨(0, 0), by
        unfold ixS
        first | ((repeat first | rw [if_pos (by omega)] | rw [if_neg (by omega)]) <;> first | rfl | omega) | ((repeat' split) <;> first | rfl | (exfalso; omega) | omega), rfl, h_on, hF⟩)
set_option maxHeartbeats 1000000 in
theorem dk_areOperandsTaken {g : xe_G} {M : mi_H} {f : Nat → Int32} {n on b da cb L : Nat} {y10 y11 : Int32} {pc o : Nat} (h_on : M.1 on = some (ob 5 [.ref b, .int (nI cb), .int (nI L), .int (nI o), .int (nI (szO o)), .int 0, .int 0, .int 0, .int 0, .int (nI pc), .int y10, .int y11])) (h_b : M.1 b = some (ob 1 [.ref da])) (h_da : M.1 da = some (ar .byte n f)) (hn : n ≤ 65540) (ho : o < 256) (hcl : cb + L + 4 ≤ n) (hpl : pc < L) (hsz : pc + szO o ≤ L) : pt (mT g) 87 [.ref on] M (fun v M' => (∃ (x : Nat × Int32 × Int32 × Nat × Nat × Option Int32), (opC f cb pc o = some x) ∧ v = some (.int 1) ∧ M'.1 on = some (ob 5 [.ref b, .int (nI cb), .int (nI L), .int (nI x.1), .int (nI (szO o)), .int x.2.1, .int x.2.2.1, .int (nI x.2.2.2.1), .int (nI x.2.2.2.2.1), .int (nI pc), .int (x.2.2.2.2.2.getD y10), .int y11]) ∧ fm [on] M M') ∨ (∃ (z3 z5 z6 z7 z8 z10 : Int32), (opC f cb pc o = none) ∧ v = some (.int 0) ∧ M'.1 on = some (ob 5 [.ref b, .int (nI cb), .int (nI L), .int z3, .int (nI (szO o)), .int z5, .int z6, .int z7, .int z8, .int (nI pc), .int z10, .int y11]) ∧ fm [on] M M')) := by
  refine pt_in (b := mb_87 g) rfl (fun kf => ?_)
  show pl (mT g) kf (mb_87 g).2 (0, [(0, .ref on)], [], M) _
  have hF : fm [on] M M := fm.rf
  have hz8 := szO_le o
  have LL : ∀ (kf : Nat), (∀ (u9 : Nat) (M1 : mi_H), (M1.1 on = some (ob 5 [.ref b, .int (nI cb), .int (nI L), .int (nI o), .int (nI (szO o)), .int 0, .int 0, .int 0, .int 0, .int (nI pc), .int y10, .int y11])) → (M1.1 b = some (ob 1 [.ref da])) → (M1.1 da = some (ar .byte n f)) → (fm [on] M M1) → (¬ (26 ≤ o ∧ o ≤ 45) ∧ ¬ (59 ≤ o ∧ o ≤ 78)) →  pl (mT g) kf (mb_87 g).2 (64, [(0, .ref on)], [], M1) (fun v M' => (∃ (x : Nat × Int32 × Int32 × Nat × Nat × Option Int32), (opC f cb pc o = some x) ∧ v = some (.int 1) ∧ M'.1 on = some (ob 5 [.ref b, .int (nI cb), .int (nI L), .int (nI x.1), .int (nI (szO o)), .int x.2.1, .int x.2.2.1, .int (nI x.2.2.2.1), .int (nI x.2.2.2.2.1), .int (nI pc), .int (x.2.2.2.2.2.getD y10), .int y11]) ∧ fm [on] M M') ∨ (∃ (z3 z5 z6 z7 z8 z10 : Int32), (opC f cb pc o = none) ∧ v = some (.int 0) ∧ M'.1 on = some (ob 5 [.ref b, .int (nI cb), .int (nI L), .int z3, .int (nI (szO o)), .int z5, .int z6, .int z7, .int z8, .int (nI pc), .int z10, .int y11]) ∧ fm [on] M M'))) ∧ (∀ (u9 : Nat) (M1 : mi_H), (M1.1 on = some (ob 5 [.ref b, .int (nI cb), .int (nI L), .int (nI o), .int (nI (szO o)), .int 0, .int 0, .int 0, .int 0, .int (nI pc), .int y10, .int y11])) → (M1.1 b = some (ob 1 [.ref da])) → (M1.1 da = some (ar .byte n f)) → (fm [on] M M1) → (¬ (26 ≤ o ∧ o ≤ 45) ∧ ¬ (59 ≤ o ∧ o ≤ 78)) → (lcO o = 0) → (¬ ((153 ≤ o ∧ o ≤ 168) ∨ o = 198 ∨ o = 199)) →  pl (mT g) kf (mb_87 g).2 (149, [(0, .ref on)], [], M1) (fun v M' => (∃ (x : Nat × Int32 × Int32 × Nat × Nat × Option Int32), (opC f cb pc o = some x) ∧ v = some (.int 1) ∧ M'.1 on = some (ob 5 [.ref b, .int (nI cb), .int (nI L), .int (nI x.1), .int (nI (szO o)), .int x.2.1, .int x.2.2.1, .int (nI x.2.2.2.1), .int (nI x.2.2.2.2.1), .int (nI pc), .int (x.2.2.2.2.2.getD y10), .int y11]) ∧ fm [on] M M') ∨ (∃ (z3 z5 z6 z7 z8 z10 : Int32), (opC f cb pc o = none) ∧ v = some (.int 0) ∧ M'.1 on = some (ob 5 [.ref b, .int (nI cb), .int (nI L), .int z3, .int (nI (szO o)), .int z5, .int z6, .int z7, .int z8, .int (nI pc), .int z10, .int y11]) ∧ fm [on] M M'))) := by
    intro kf
    induction kf with
    | zero => exact ⟨by intros; exact pl_0, by intros; exact pl_0⟩
    | succ kf ih =>
      refine ⟨?_, ?_⟩
      · skip
        intro u9 M1 hl_on hl_b hl_da hF1 h64
        refine ps_st1 (S' := (65, [(0, .ref on)], [.ref on], M1)) rfl rfl rfl ?_
        refine ps_get (S' := (68, [(0, .ref on)], [.int (nI o)], M1)) rfl hl_on rfl rfl ?_
        refine pl_call (a := [.int (nI o)]) (rest := []) rfl rfl rfl (dk_isLocalOpcode (o := o) (by omega)) (fun v1 M2 q3 => ?_)
        obtain ⟨rfl, rfl⟩ := q3
        show pl _ _ _ (71, [(0, .ref on)], [.int (nI (lcO o))], M1) _
        have hlc := lcO_le o
        refine ps_if (S1 := (89, [(0, .ref on)], [], M1)) (S2 := (74, [(0, .ref on)], [], M1)) rfl rfl rfl (fun c_71 => ?_) (fun c_71 => ?_)
        · have c_71 : (nI (lcO o)) = 0 := of_decide_eq_true c_71
          have n_71 : lcO o = 0 := (eq_nI (p := lcO o) (n := 0) (by omega) (by decide)).mp c_71
          refine ps_st (S' := (90, [(0, .ref on)], [.ref on], M1)) rfl rfl rfl ?_
          refine ps_get (S' := (93, [(0, .ref on)], [.int (nI o)], M1)) rfl hl_on rfl rfl ?_
          refine ps_st (S' := (96, [(0, .ref on)], [.int 153, .int (nI o)], M1)) rfl rfl rfl ?_
          refine ps_if2 (S1 := (109, [(0, .ref on)], [], M1)) (S2 := (99, [(0, .ref on)], [], M1)) rfl rfl rfl (fun c_96 => ?_) (fun c_96 => ?_)
          · have c_96 : (nI o) < 153 := of_decide_eq_true c_96
            have n_96 : o < 153 := (lt_nI (p := o) (n := 153) (by omega) (by decide)).mp c_96
            refine ps_st (S' := (110, [(0, .ref on)], [.ref on], M1)) rfl rfl rfl ?_
            refine ps_get (S' := (113, [(0, .ref on)], [.int (nI o)], M1)) rfl hl_on rfl rfl ?_
            refine ps_st (S' := (116, [(0, .ref on)], [.int 198, .int (nI o)], M1)) rfl rfl rfl ?_
            refine ps_if2 (S1 := (129, [(0, .ref on)], [], M1)) (S2 := (119, [(0, .ref on)], [], M1)) rfl rfl rfl (fun c_116 => ?_) (fun c_116 => ?_)
            · exact absurd (of_decide_eq_true c_116) (show ¬ ((nI o) = 198) from fun h9 => absurd ((eq_nI (p := o) (n := 198) (by omega) (by decide)).mp h9) (by omega))
            refine ps_st (S' := (120, [(0, .ref on)], [.ref on], M1)) rfl rfl rfl ?_
            refine ps_get (S' := (123, [(0, .ref on)], [.int (nI o)], M1)) rfl hl_on rfl rfl ?_
            refine ps_st (S' := (126, [(0, .ref on)], [.int 199, .int (nI o)], M1)) rfl rfl rfl ?_
            refine ps_if2 (S1 := (149, [(0, .ref on)], [], M1)) (S2 := (129, [(0, .ref on)], [], M1)) rfl rfl rfl (fun c_126 => ?_) (fun c_126 => ?_)
            rotate_left
            · exact absurd (show ¬ ((nI o) = 199) from fun h9 => absurd ((eq_nI (p := o) (n := 199) (by omega) (by decide)).mp h9) (by omega)) (of_decide_eq_false c_126)
            exact ih.2 (0) M1 hl_on hl_b hl_da hF1 (by omega) (by omega) (by omega)
          · have c_96 : ¬ ((nI o) < 153) := of_decide_eq_false c_96
            have n_96 : ¬ (o < 153) := fun h9 => c_96 ((lt_nI (p := o) (n := 153) (by omega) (by decide)).mpr h9)
            refine ps_st (S' := (100, [(0, .ref on)], [.ref on], M1)) rfl rfl rfl ?_
            refine ps_get (S' := (103, [(0, .ref on)], [.int (nI o)], M1)) rfl hl_on rfl rfl ?_
            refine ps_st (S' := (106, [(0, .ref on)], [.int 168, .int (nI o)], M1)) rfl rfl rfl ?_
            refine ps_if2 (S1 := (129, [(0, .ref on)], [], M1)) (S2 := (109, [(0, .ref on)], [], M1)) rfl rfl rfl (fun c_106 => ?_) (fun c_106 => ?_)
            · have c_106 : (nI o) ≤ 168 := of_decide_eq_true c_106
              have n_106 : o ≤ 168 := (le_nI (p := o) (n := 168) (by omega) (by decide)).mp c_106
              have hz9 : szO o = 3 := by unfold szO; first | rw [if_pos (by omega)] | (rw [if_neg (by omega), if_neg (by omega), if_neg (by omega), if_pos (by omega)])
              refine ps_st (S' := (130, [(0, .ref on)], [.ref on], M1)) rfl rfl rfl ?_
              refine ps_st (S' := (131, [(0, .ref on)], [.ref on, .ref on], M1)) rfl rfl rfl ?_
              refine ps_st (S' := (132, [(0, .ref on)], [.ref on, .ref on, .ref on], M1)) rfl rfl rfl ?_
              refine ps_get (S' := (135, [(0, .ref on)], [.int (nI pc), .ref on, .ref on], M1)) rfl hl_on rfl rfl ?_
              refine ps_st (S' := (136, [(0, .ref on)], [.int 1, .int (nI pc), .ref on, .ref on], M1)) rfl rfl rfl ?_
              refine ps_st (S' := (137, [(0, .ref on)], [.int ((nI pc) + 1), .ref on, .ref on], M1)) rfl rfl rfl ?_
              rw [nI_add1 (p := pc) (k := 1) (x := 1) rfl (by omega)]
              show pl _ _ _ (_, [(0, .ref on)], [.int (nI (pc + 1)), .ref on, .ref on], M1) _
              refine pl_call (a := [.ref on, .int (nI (pc + 1))]) (rest := [.ref on]) rfl rfl rfl (dk_iu2 (f := f) (n := n) (on := on) (b := b) (da := da) (cb := cb) (L := L) (y3 := (nI o)) (y4 := (nI (szO o))) (y5 := 0) (y6 := 0) (y7 := 0) (y8 := 0) (y9 := (nI pc)) (y10 := y10) (y11 := y11) (a := (pc + 1)) hl_on hl_b hl_da (hn) (by omega)) (fun v4 M5 q6 => ?_)
              obtain ⟨rfl, rfl⟩ := q6
              show pl _ _ _ (140, [(0, .ref on)], [.int (nI (by2 f (cb + (pc + 1)))), .ref on], M1) _
              have hb_137 := by2_lt f (cb + (pc + 1))
              refine ps_st (S' := (141, [(0, .ref on)], [.int ((nI (by2 f (cb + (pc + 1)))).toInt16.toInt32), .ref on], M1)) rfl rfl rfl ?_
              refine ps_st (S' := (142, [(0, .ref on)], [.ref on, .int ((nI (by2 f (cb + (pc + 1)))).toInt16.toInt32), .ref on], M1)) rfl rfl rfl ?_
              refine ps_get (S' := (145, [(0, .ref on)], [.int (nI o), .int ((nI (by2 f (cb + (pc + 1)))).toInt16.toInt32), .ref on], M1)) rfl hl_on rfl rfl ?_
              refine pl_call (a := [.ref on, .int ((nI (by2 f (cb + (pc + 1)))).toInt16.toInt32), .int (nI o)]) (rest := []) rfl rfl rfl (dk_isJumpTaken (on := on) (b := b) (cb := cb) (L := L) (y3 := (nI o)) (y4 := (nI (szO o))) (y5 := 0) (y6 := 0) (y7 := 0) (y8 := 0) (y9 := (nI pc)) (y10 := y10) (y11 := y11) (vv := ((nI (by2 f (cb + (pc + 1)))).toInt16.toInt32)) (oo := (nI o)) hl_on) (fun v7 M8 q9 => ?_)
              obtain ⟨rfl, h10, f11⟩ := q9
              have h13 := (f11.1 b (nin1 (ob_ne hl_b hl_on (by decide)))).trans hl_b
              have h14 := (f11.1 da (nin1 (Ne.symm (ob_ar hl_on hl_da)))).trans hl_da
              have hF15 := hF1.tr f11 (by simp)
              show pl _ _ _ (148, [(0, .ref on)], [.int 1], M8) _
              exact ps_ret rfl rfl (Or.inl ⟨(o, 0, 0, 0, 1, some (((nI (by2 f (cb + (pc + 1)))).toInt16.toInt32))), by
                  unfold opC
                  first | ((repeat first | rw [if_pos (by omega)] | rw [if_neg (by omega)]) <;> first | rfl | omega) | ((repeat' split) <;> first | rfl | (exfalso; omega) | omega), rfl, h10, hF15⟩)
            · have c_106 : ¬ ((nI o) ≤ 168) := of_decide_eq_false c_106
              have n_106 : ¬ (o ≤ 168) := fun h9 => c_106 ((le_nI (p := o) (n := 168) (by omega) (by decide)).mpr h9)
              refine ps_st (S' := (110, [(0, .ref on)], [.ref on], M1)) rfl rfl rfl ?_
              refine ps_get (S' := (113, [(0, .ref on)], [.int (nI o)], M1)) rfl hl_on rfl rfl ?_
              refine ps_st (S' := (116, [(0, .ref on)], [.int 198, .int (nI o)], M1)) rfl rfl rfl ?_
              refine ps_if2 (S1 := (129, [(0, .ref on)], [], M1)) (S2 := (119, [(0, .ref on)], [], M1)) rfl rfl rfl (fun c_116 => ?_) (fun c_116 => ?_)
              · have c_116 : (nI o) = 198 := of_decide_eq_true c_116
                have n_116 : o = 198 := (eq_nI (p := o) (n := 198) (by omega) (by decide)).mp c_116
                have hz9 : szO o = 3 := by unfold szO; first | rw [if_pos (by omega)] | (rw [if_neg (by omega), if_neg (by omega), if_neg (by omega), if_pos (by omega)])
                refine ps_st (S' := (130, [(0, .ref on)], [.ref on], M1)) rfl rfl rfl ?_
                refine ps_st (S' := (131, [(0, .ref on)], [.ref on, .ref on], M1)) rfl rfl rfl ?_
                refine ps_st (S' := (132, [(0, .ref on)], [.ref on, .ref on, .ref on], M1)) rfl rfl rfl ?_
                refine ps_get (S' := (135, [(0, .ref on)], [.int (nI pc), .ref on, .ref on], M1)) rfl hl_on rfl rfl ?_
                refine ps_st (S' := (136, [(0, .ref on)], [.int 1, .int (nI pc), .ref on, .ref on], M1)) rfl rfl rfl ?_
                refine ps_st (S' := (137, [(0, .ref on)], [.int ((nI pc) + 1), .ref on, .ref on], M1)) rfl rfl rfl ?_
                rw [nI_add1 (p := pc) (k := 1) (x := 1) rfl (by omega)]
                show pl _ _ _ (_, [(0, .ref on)], [.int (nI (pc + 1)), .ref on, .ref on], M1) _
                refine pl_call (a := [.ref on, .int (nI (pc + 1))]) (rest := [.ref on]) rfl rfl rfl (dk_iu2 (f := f) (n := n) (on := on) (b := b) (da := da) (cb := cb) (L := L) (y3 := (nI o)) (y4 := (nI (szO o))) (y5 := 0) (y6 := 0) (y7 := 0) (y8 := 0) (y9 := (nI pc)) (y10 := y10) (y11 := y11) (a := (pc + 1)) hl_on hl_b hl_da (hn) (by omega)) (fun v16 M17 q18 => ?_)
                obtain ⟨rfl, rfl⟩ := q18
                show pl _ _ _ (140, [(0, .ref on)], [.int (nI (by2 f (cb + (pc + 1)))), .ref on], M1) _
                have hb_137 := by2_lt f (cb + (pc + 1))
                refine ps_st (S' := (141, [(0, .ref on)], [.int ((nI (by2 f (cb + (pc + 1)))).toInt16.toInt32), .ref on], M1)) rfl rfl rfl ?_
                refine ps_st (S' := (142, [(0, .ref on)], [.ref on, .int ((nI (by2 f (cb + (pc + 1)))).toInt16.toInt32), .ref on], M1)) rfl rfl rfl ?_
                refine ps_get (S' := (145, [(0, .ref on)], [.int (nI o), .int ((nI (by2 f (cb + (pc + 1)))).toInt16.toInt32), .ref on], M1)) rfl hl_on rfl rfl ?_
                refine pl_call (a := [.ref on, .int ((nI (by2 f (cb + (pc + 1)))).toInt16.toInt32), .int (nI o)]) (rest := []) rfl rfl rfl (dk_isJumpTaken (on := on) (b := b) (cb := cb) (L := L) (y3 := (nI o)) (y4 := (nI (szO o))) (y5 := 0) (y6 := 0) (y7 := 0) (y8 := 0) (y9 := (nI pc)) (y10 := y10) (y11 := y11) (vv := ((nI (by2 f (cb + (pc + 1)))).toInt16.toInt32)) (oo := (nI o)) hl_on) (fun v19 M20 q21 => ?_)
                obtain ⟨rfl, h22, f23⟩ := q21
                have h25 := (f23.1 b (nin1 (ob_ne hl_b hl_on (by decide)))).trans hl_b
                have h26 := (f23.1 da (nin1 (Ne.symm (ob_ar hl_on hl_da)))).trans hl_da
                have hF27 := hF1.tr f23 (by simp)
                show pl _ _ _ (148, [(0, .ref on)], [.int 1], M20) _
                exact ps_ret rfl rfl (Or.inl ⟨(o, 0, 0, 0, 1, some (((nI (by2 f (cb + (pc + 1)))).toInt16.toInt32))), by
                    unfold opC
                    first | ((repeat first | rw [if_pos (by omega)] | rw [if_neg (by omega)]) <;> first | rfl | omega) | ((repeat' split) <;> first | rfl | (exfalso; omega) | omega), rfl, h22, hF27⟩)
              · have c_116 : ¬ ((nI o) = 198) := of_decide_eq_false c_116
                have n_116 : ¬ (o = 198) := fun h9 => c_116 ((eq_nI (p := o) (n := 198) (by omega) (by decide)).mpr h9)
                refine ps_st (S' := (120, [(0, .ref on)], [.ref on], M1)) rfl rfl rfl ?_
                refine ps_get (S' := (123, [(0, .ref on)], [.int (nI o)], M1)) rfl hl_on rfl rfl ?_
                refine ps_st (S' := (126, [(0, .ref on)], [.int 199, .int (nI o)], M1)) rfl rfl rfl ?_
                refine ps_if2 (S1 := (149, [(0, .ref on)], [], M1)) (S2 := (129, [(0, .ref on)], [], M1)) rfl rfl rfl (fun c_126 => ?_) (fun c_126 => ?_)
                · have c_126 : ¬ (nI o) = 199 := of_decide_eq_true c_126
                  have n_126 : ¬ (o = 199) := fun h9 => c_126 ((eq_nI (p := o) (n := 199) (by omega) (by decide)).mpr h9)
                  exact ih.2 (0) M1 hl_on hl_b hl_da hF1 (by omega) (by omega) (by omega)
                · have c_126 : ¬ (¬ (nI o) = 199) := of_decide_eq_false c_126
                  have n_126 : o = 199 := (eq_nI (p := o) (n := 199) (by omega) (by decide)).mp (Decidable.not_not.mp c_126)
                  have hz9 : szO o = 3 := by unfold szO; first | rw [if_pos (by omega)] | (rw [if_neg (by omega), if_neg (by omega), if_neg (by omega), if_pos (by omega)])
                  refine ps_st (S' := (130, [(0, .ref on)], [.ref on], M1)) rfl rfl rfl ?_
                  refine ps_st (S' := (131, [(0, .ref on)], [.ref on, .ref on], M1)) rfl rfl rfl ?_
                  refine ps_st (S' := (132, [(0, .ref on)], [.ref on, .ref on, .ref on], M1)) rfl rfl rfl ?_
                  refine ps_get (S' := (135, [(0, .ref on)], [.int (nI pc), .ref on, .ref on], M1)) rfl hl_on rfl rfl ?_
                  refine ps_st (S' := (136, [(0, .ref on)], [.int 1, .int (nI pc), .ref on, .ref on], M1)) rfl rfl rfl ?_
                  refine ps_st (S' := (137, [(0, .ref on)], [.int ((nI pc) + 1), .ref on, .ref on], M1)) rfl rfl rfl ?_
                  rw [nI_add1 (p := pc) (k := 1) (x := 1) rfl (by omega)]
                  show pl _ _ _ (_, [(0, .ref on)], [.int (nI (pc + 1)), .ref on, .ref on], M1) _
                  refine pl_call (a := [.ref on, .int (nI (pc + 1))]) (rest := [.ref on]) rfl rfl rfl (dk_iu2 (f := f) (n := n) (on := on) (b := b) (da := da) (cb := cb) (L := L) (y3 := (nI o)) (y4 := (nI (szO o))) (y5 := 0) (y6 := 0) (y7 := 0) (y8 := 0) (y9 := (nI pc)) (y10 := y10) (y11 := y11) (a := (pc + 1)) hl_on hl_b hl_da (hn) (by omega)) (fun v28 M29 q30 => ?_)
                  obtain ⟨rfl, rfl⟩ := q30
                  show pl _ _ _ (140, [(0, .ref on)], [.int (nI (by2 f (cb + (pc + 1)))), .ref on], M1) _
                  have hb_137 := by2_lt f (cb + (pc + 1))
                  refine ps_st (S' := (141, [(0, .ref on)], [.int ((nI (by2 f (cb + (pc + 1)))).toInt16.toInt32), .ref on], M1)) rfl rfl rfl ?_
                  refine ps_st (S' := (142, [(0, .ref on)], [.ref on, .int ((nI (by2 f (cb + (pc + 1)))).toInt16.toInt32), .ref on], M1)) rfl rfl rfl ?_
                  refine ps_get (S' := (145, [(0, .ref on)], [.int (nI o), .int ((nI (by2 f (cb + (pc + 1)))).toInt16.toInt32), .ref on], M1)) rfl hl_on rfl rfl ?_
                  refine pl_call (a := [.ref on, .int ((nI (by2 f (cb + (pc + 1)))).toInt16.toInt32), .int (nI o)]) (rest := []) rfl rfl rfl (dk_isJumpTaken (on := on) (b := b) (cb := cb) (L := L) (y3 := (nI o)) (y4 := (nI (szO o))) (y5 := 0) (y6 := 0) (y7 := 0) (y8 := 0) (y9 := (nI pc)) (y10 := y10) (y11 := y11) (vv := ((nI (by2 f (cb + (pc + 1)))).toInt16.toInt32)) (oo := (nI o)) hl_on) (fun v31 M32 q33 => ?_)
                  obtain ⟨rfl, h34, f35⟩ := q33
                  have h37 := (f35.1 b (nin1 (ob_ne hl_b hl_on (by decide)))).trans hl_b
                  have h38 := (f35.1 da (nin1 (Ne.symm (ob_ar hl_on hl_da)))).trans hl_da
                  have hF39 := hF1.tr f35 (by simp)
                  show pl _ _ _ (148, [(0, .ref on)], [.int 1], M32) _
                  exact ps_ret rfl rfl (Or.inl ⟨(o, 0, 0, 0, 1, some (((nI (by2 f (cb + (pc + 1)))).toInt16.toInt32))), by
                      unfold opC
                      first | ((repeat first | rw [if_pos (by omega)] | rw [if_neg (by omega)]) <;> first | rfl | omega) | ((repeat' split) <;> first | rfl | (exfalso; omega) | omega), rfl, h34, hF39⟩)
        · have c_71 : ¬ ((nI (lcO o)) = 0) := of_decide_eq_false c_71
          have n_71 : ¬ (lcO o = 0) := fun h9 => c_71 ((eq_nI (p := lcO o) (n := 0) (by omega) (by decide)).mpr h9)
          have hz9 := lcO_sz (o := o) (by omega)
          refine ps_st (S' := (75, [(0, .ref on)], [.ref on], M1)) rfl rfl rfl ?_
          refine ps_st (S' := (76, [(0, .ref on)], [.ref on, .ref on], M1)) rfl rfl rfl ?_
          refine ps_st (S' := (77, [(0, .ref on)], [.ref on, .ref on, .ref on], M1)) rfl rfl rfl ?_
          refine ps_get (S' := (80, [(0, .ref on)], [.int (nI pc), .ref on, .ref on], M1)) rfl hl_on rfl rfl ?_
          refine ps_st (S' := (81, [(0, .ref on)], [.int 1, .int (nI pc), .ref on, .ref on], M1)) rfl rfl rfl ?_
          refine ps_st (S' := (82, [(0, .ref on)], [.int ((nI pc) + 1), .ref on, .ref on], M1)) rfl rfl rfl ?_
          rw [nI_add1 (p := pc) (k := 1) (x := 1) rfl (by omega)]
          show pl _ _ _ (_, [(0, .ref on)], [.int (nI (pc + 1)), .ref on, .ref on], M1) _
          refine pl_call (a := [.ref on, .int (nI (pc + 1))]) (rest := [.ref on]) rfl rfl rfl (dk_iu1 (f := f) (n := n) (on := on) (b := b) (da := da) (cb := cb) (L := L) (y3 := (nI o)) (y4 := (nI (szO o))) (y5 := 0) (y6 := 0) (y7 := 0) (y8 := 0) (y9 := (nI pc)) (y10 := y10) (y11 := y11) (a := (pc + 1)) hl_on hl_b hl_da (hn) (by omega)) (fun v40 M41 q42 => ?_)
          obtain ⟨rfl, rfl⟩ := q42
          show pl _ _ _ (85, [(0, .ref on)], [.int (nI (by1 f (cb + (pc + 1)))), .ref on], M1) _
          have hb_82 := by1_lt f (cb + (pc + 1))
          refine pl_call (a := [.ref on, .int (nI (by1 f (cb + (pc + 1))))]) (rest := []) rfl rfl rfl (dk_isLocalTaken (on := on) (b := b) (cb := cb) (L := L) (y4 := (nI (szO o))) (y5 := 0) (y6 := 0) (y7 := 0) (y8 := 0) (y9 := (nI pc)) (y10 := y10) (y11 := y11) (o := o) (vv := (nI (by1 f (cb + (pc + 1))))) hl_on (by omega)) (fun v43 M44 q45 => ?_)
          obtain ⟨rfl, h46, f47⟩ := q45
          have h49 := (f47.1 b (nin1 (ob_ne hl_b hl_on (by decide)))).trans hl_b
          have h50 := (f47.1 da (nin1 (Ne.symm (ob_ar hl_on hl_da)))).trans hl_da
          have hF51 := hF1.tr f47 (by simp)
          show pl _ _ _ (88, [(0, .ref on)], [.int 1], M44) _
          exact ps_ret rfl rfl (Or.inl ⟨(o, (nI (by1 f (cb + (pc + 1)))), 0, (lpO o), 0, none), by
              unfold opC
              first | ((repeat first | rw [if_pos (by omega)] | rw [if_neg (by omega)]) <;> first | rfl | omega) | ((repeat' split) <;> first | rfl | (exfalso; omega) | omega), rfl, h46, hF51⟩)
      · skip
        intro u9 M1 hl_on hl_b hl_da hF1 h64 hl0 hj0
        refine ps_st1 (S' := (150, [(0, .ref on)], [.ref on], M1)) rfl rfl rfl ?_
        refine ps_get (S' := (153, [(0, .ref on)], [.int (nI o)], M1)) rfl hl_on rfl rfl ?_
        refine pl_sw rfl (fun t_153 et_153 => ?_)
        have ht_153 : t_153 ∈ [228, 245, 262, 278, 300, 330, 348, 366] := mi_sw_sub et_153 (by decide)
        simp only [List.mem_cons, List.not_mem_nil, or_false] at ht_153
        rcases ht_153 with rfl | rfl | rfl | rfl | rfl | rfl | rfl | rfl
        · show pl _ _ _ (228, [(0, .ref on)], [], M1) _
          have m_153 := sw_nat (t := o) (by omega) et_153
          simp at m_153
          have hz9 : szO o = 2 := by rw [show o = 16 by omega]; rfl
          refine ps_st (S' := (229, [(0, .ref on)], [.ref on], M1)) rfl rfl rfl ?_
          refine ps_st (S' := (230, [(0, .ref on)], [.ref on, .ref on], M1)) rfl rfl rfl ?_
          refine ps_st (S' := (231, [(0, .ref on)], [.ref on, .ref on, .ref on], M1)) rfl rfl rfl ?_
          refine ps_get (S' := (234, [(0, .ref on)], [.int (nI pc), .ref on, .ref on], M1)) rfl hl_on rfl rfl ?_
          refine ps_st (S' := (235, [(0, .ref on)], [.int 1, .int (nI pc), .ref on, .ref on], M1)) rfl rfl rfl ?_
          refine ps_st (S' := (236, [(0, .ref on)], [.int ((nI pc) + 1), .ref on, .ref on], M1)) rfl rfl rfl ?_
          rw [nI_add1 (p := pc) (k := 1) (x := 1) rfl (by omega)]
          show pl _ _ _ (_, [(0, .ref on)], [.int (nI (pc + 1)), .ref on, .ref on], M1) _
          refine pl_call (a := [.ref on, .int (nI (pc + 1))]) (rest := [.ref on]) rfl rfl rfl (dk_iu1 (f := f) (n := n) (on := on) (b := b) (da := da) (cb := cb) (L := L) (y3 := (nI o)) (y4 := (nI (szO o))) (y5 := 0) (y6 := 0) (y7 := 0) (y8 := 0) (y9 := (nI pc)) (y10 := y10) (y11 := y11) (a := (pc + 1)) hl_on hl_b hl_da (hn) (by omega)) (fun v52 M53 q54 => ?_)
          obtain ⟨rfl, rfl⟩ := q54
          show pl _ _ _ (239, [(0, .ref on)], [.int (nI (by1 f (cb + (pc + 1)))), .ref on], M1) _
          have hb_236 := by1_lt f (cb + (pc + 1))
          refine ps_st (S' := (240, [(0, .ref on)], [.int ((nI (by1 f (cb + (pc + 1)))).toInt8.toInt32), .ref on], M1)) rfl rfl rfl ?_
          refine ps_put (l' := [.ref b, .int (nI cb), .int (nI L), .int (nI o), .int (nI (szO o)), .int ((nI (by1 f (cb + (pc + 1)))).toInt8.toInt32), .int 0, .int 0, .int 0, .int (nI pc), .int y10, .int y11]) rfl hl_on rfl rfl (fun M55 h56 f57 z58 => ?_)
          have h59 := (f57 b (ob_ne hl_b hl_on (by decide))).trans hl_b
          have h60 := (f57 da (Ne.symm (ob_ar hl_on hl_da))).trans hl_da
          have hF61 := hF1.up (by simp) f57 z58
          show pl _ _ _ (243, [(0, .ref on)], [], M55) _
          refine ps_st (S' := (244, [(0, .ref on)], [.int 1], M55)) rfl rfl rfl ?_
          exact ps_ret rfl rfl (Or.inl ⟨(o, ((nI (by1 f (cb + (pc + 1)))).toInt8.toInt32), 0, 0, 0, none), by
              unfold opC
              first | ((repeat first | rw [if_pos (by omega)] | rw [if_neg (by omega)]) <;> first | rfl | omega) | ((repeat' split) <;> first | rfl | (exfalso; omega) | omega), rfl, h56, hF61⟩)
        · show pl _ _ _ (245, [(0, .ref on)], [], M1) _
          have m_153 := sw_nat (t := o) (by omega) et_153
          simp at m_153
          have hz9 : szO o = 3 := by rw [show o = 17 by omega]; rfl
          refine ps_st (S' := (246, [(0, .ref on)], [.ref on], M1)) rfl rfl rfl ?_
          refine ps_st (S' := (247, [(0, .ref on)], [.ref on, .ref on], M1)) rfl rfl rfl ?_
          refine ps_st (S' := (248, [(0, .ref on)], [.ref on, .ref on, .ref on], M1)) rfl rfl rfl ?_
          refine ps_get (S' := (251, [(0, .ref on)], [.int (nI pc), .ref on, .ref on], M1)) rfl hl_on rfl rfl ?_
          refine ps_st (S' := (252, [(0, .ref on)], [.int 1, .int (nI pc), .ref on, .ref on], M1)) rfl rfl rfl ?_
          refine ps_st (S' := (253, [(0, .ref on)], [.int ((nI pc) + 1), .ref on, .ref on], M1)) rfl rfl rfl ?_
          rw [nI_add1 (p := pc) (k := 1) (x := 1) rfl (by omega)]
          show pl _ _ _ (_, [(0, .ref on)], [.int (nI (pc + 1)), .ref on, .ref on], M1) _
          refine pl_call (a := [.ref on, .int (nI (pc + 1))]) (rest := [.ref on]) rfl rfl rfl (dk_iu2 (f := f) (n := n) (on := on) (b := b) (da := da) (cb := cb) (L := L) (y3 := (nI o)) (y4 := (nI (szO o))) (y5 := 0) (y6 := 0) (y7 := 0) (y8 := 0) (y9 := (nI pc)) (y10 := y10) (y11 := y11) (a := (pc + 1)) hl_on hl_b hl_da (hn) (by omega)) (fun v62 M63 q64 => ?_)
          obtain ⟨rfl, rfl⟩ := q64
          show pl _ _ _ (256, [(0, .ref on)], [.int (nI (by2 f (cb + (pc + 1)))), .ref on], M1) _
          have hb_253 := by2_lt f (cb + (pc + 1))
          refine ps_st (S' := (257, [(0, .ref on)], [.int ((nI (by2 f (cb + (pc + 1)))).toInt16.toInt32), .ref on], M1)) rfl rfl rfl ?_
          refine ps_put (l' := [.ref b, .int (nI cb), .int (nI L), .int (nI o), .int (nI (szO o)), .int ((nI (by2 f (cb + (pc + 1)))).toInt16.toInt32), .int 0, .int 0, .int 0, .int (nI pc), .int y10, .int y11]) rfl hl_on rfl rfl (fun M65 h66 f67 z68 => ?_)
          have h69 := (f67 b (ob_ne hl_b hl_on (by decide))).trans hl_b
          have h70 := (f67 da (Ne.symm (ob_ar hl_on hl_da))).trans hl_da
          have hF71 := hF1.up (by simp) f67 z68
          show pl _ _ _ (260, [(0, .ref on)], [], M65) _
          refine ps_st (S' := (261, [(0, .ref on)], [.int 1], M65)) rfl rfl rfl ?_
          exact ps_ret rfl rfl (Or.inl ⟨(o, ((nI (by2 f (cb + (pc + 1)))).toInt16.toInt32), 0, 0, 0, none), by
              unfold opC
              first | ((repeat first | rw [if_pos (by omega)] | rw [if_neg (by omega)]) <;> first | rfl | omega) | ((repeat' split) <;> first | rfl | (exfalso; omega) | omega), rfl, h66, hF71⟩)
        · show pl _ _ _ (262, [(0, .ref on)], [], M1) _
          have m_153 := sw_nat (t := o) (by omega) et_153
          simp at m_153
          have hz9 : szO o = 2 := by rcases (show o = 18 ∨ o = 188 by omega) with h9 | h9 <;> rw [h9] <;> rfl
          refine ps_st (S' := (263, [(0, .ref on)], [.ref on], M1)) rfl rfl rfl ?_
          refine ps_st (S' := (264, [(0, .ref on)], [.ref on, .ref on], M1)) rfl rfl rfl ?_
          refine ps_st (S' := (265, [(0, .ref on)], [.ref on, .ref on, .ref on], M1)) rfl rfl rfl ?_
          refine ps_get (S' := (268, [(0, .ref on)], [.int (nI pc), .ref on, .ref on], M1)) rfl hl_on rfl rfl ?_
          refine ps_st (S' := (269, [(0, .ref on)], [.int 1, .int (nI pc), .ref on, .ref on], M1)) rfl rfl rfl ?_
          refine ps_st (S' := (270, [(0, .ref on)], [.int ((nI pc) + 1), .ref on, .ref on], M1)) rfl rfl rfl ?_
          rw [nI_add1 (p := pc) (k := 1) (x := 1) rfl (by omega)]
          show pl _ _ _ (_, [(0, .ref on)], [.int (nI (pc + 1)), .ref on, .ref on], M1) _
          refine pl_call (a := [.ref on, .int (nI (pc + 1))]) (rest := [.ref on]) rfl rfl rfl (dk_iu1 (f := f) (n := n) (on := on) (b := b) (da := da) (cb := cb) (L := L) (y3 := (nI o)) (y4 := (nI (szO o))) (y5 := 0) (y6 := 0) (y7 := 0) (y8 := 0) (y9 := (nI pc)) (y10 := y10) (y11 := y11) (a := (pc + 1)) hl_on hl_b hl_da (hn) (by omega)) (fun v72 M73 q74 => ?_)
          obtain ⟨rfl, rfl⟩ := q74
          show pl _ _ _ (273, [(0, .ref on)], [.int (nI (by1 f (cb + (pc + 1)))), .ref on], M1) _
          have hb_270 := by1_lt f (cb + (pc + 1))
          refine ps_put (l' := [.ref b, .int (nI cb), .int (nI L), .int (nI o), .int (nI (szO o)), .int (nI (by1 f (cb + (pc + 1)))), .int 0, .int 0, .int 0, .int (nI pc), .int y10, .int y11]) rfl hl_on rfl rfl (fun M75 h76 f77 z78 => ?_)
          have h79 := (f77 b (ob_ne hl_b hl_on (by decide))).trans hl_b
          have h80 := (f77 da (Ne.symm (ob_ar hl_on hl_da))).trans hl_da
          have hF81 := hF1.up (by simp) f77 z78
          show pl _ _ _ (276, [(0, .ref on)], [], M75) _
          refine ps_st (S' := (277, [(0, .ref on)], [.int 1], M75)) rfl rfl rfl ?_
          exact ps_ret rfl rfl (Or.inl ⟨(o, (nI (by1 f (cb + (pc + 1)))), 0, 0, 0, none), by
              unfold opC
              first | ((repeat first | rw [if_pos (by omega)] | rw [if_neg (by omega)]) <;> first | rfl | omega) | ((repeat' split) <;> first | rfl | (exfalso; omega) | omega), rfl, h76, hF81⟩)
        · show pl _ _ _ (278, [(0, .ref on)], [], M1) _
          have m_153 := sw_nat (t := o) (by omega) et_153
          simp at m_153
          have hz9 : szO o = 3 := by rw [show o = 19 by omega]; rfl
          refine ps_st (S' := (279, [(0, .ref on)], [.ref on], M1)) rfl rfl rfl ?_
          refine ps_st (S' := (281, [(0, .ref on)], [.int 18, .ref on], M1)) rfl rfl rfl ?_
          refine ps_put (l' := [.ref b, .int (nI cb), .int (nI L), .int 18, .int (nI (szO o)), .int 0, .int 0, .int 0, .int 0, .int (nI pc), .int y10, .int y11]) rfl hl_on rfl rfl (fun M82 h83 f84 z85 => ?_)
          have h86 := (f84 b (ob_ne hl_b hl_on (by decide))).trans hl_b
          have h87 := (f84 da (Ne.symm (ob_ar hl_on hl_da))).trans hl_da
          have hF88 := hF1.up (by simp) f84 z85
          show pl _ _ _ (284, [(0, .ref on)], [], M82) _
          refine ps_st (S' := (285, [(0, .ref on)], [.ref on], M82)) rfl rfl rfl ?_
          refine ps_st (S' := (286, [(0, .ref on)], [.ref on, .ref on], M82)) rfl rfl rfl ?_
          refine ps_st (S' := (287, [(0, .ref on)], [.ref on, .ref on, .ref on], M82)) rfl rfl rfl ?_
          refine ps_get (S' := (290, [(0, .ref on)], [.int (nI pc), .ref on, .ref on], M82)) rfl h83 rfl rfl ?_
          refine ps_st (S' := (291, [(0, .ref on)], [.int 1, .int (nI pc), .ref on, .ref on], M82)) rfl rfl rfl ?_
          refine ps_st (S' := (292, [(0, .ref on)], [.int ((nI pc) + 1), .ref on, .ref on], M82)) rfl rfl rfl ?_
          rw [nI_add1 (p := pc) (k := 1) (x := 1) rfl (by omega)]
          show pl _ _ _ (_, [(0, .ref on)], [.int (nI (pc + 1)), .ref on, .ref on], M82) _
          refine pl_call (a := [.ref on, .int (nI (pc + 1))]) (rest := [.ref on]) rfl rfl rfl (dk_iu2 (f := f) (n := n) (on := on) (b := b) (da := da) (cb := cb) (L := L) (y3 := 18) (y4 := (nI (szO o))) (y5 := 0) (y6 := 0) (y7 := 0) (y8 := 0) (y9 := (nI pc)) (y10 := y10) (y11 := y11) (a := (pc + 1)) h83 h86 h87 (hn) (by omega)) (fun v89 M90 q91 => ?_)
          obtain ⟨rfl, rfl⟩ := q91
          show pl _ _ _ (295, [(0, .ref on)], [.int (nI (by2 f (cb + (pc + 1)))), .ref on], M82) _
          have hb_292 := by2_lt f (cb + (pc + 1))
          refine ps_put (l' := [.ref b, .int (nI cb), .int (nI L), .int 18, .int (nI (szO o)), .int (nI (by2 f (cb + (pc + 1)))), .int 0, .int 0, .int 0, .int (nI pc), .int y10, .int y11]) rfl h83 rfl rfl (fun M92 h93 f94 z95 => ?_)
          have h96 := (f94 b (ob_ne h86 h83 (by decide))).trans h86
          have h97 := (f94 da (Ne.symm (ob_ar h83 h87))).trans h87
          have hF98 := hF88.up (by simp) f94 z95
          show pl _ _ _ (298, [(0, .ref on)], [], M92) _
          refine ps_st (S' := (299, [(0, .ref on)], [.int 1], M92)) rfl rfl rfl ?_
          exact ps_ret rfl rfl (Or.inl ⟨(18, (nI (by2 f (cb + (pc + 1)))), 0, 0, 0, none), by
              unfold opC
              first | ((repeat first | rw [if_pos (by omega)] | rw [if_neg (by omega)]) <;> first | rfl | omega) | ((repeat' split) <;> first | rfl | (exfalso; omega) | omega), rfl, h93, hF98⟩)
        · show pl _ _ _ (300, [(0, .ref on)], [], M1) _
          have m_153 := sw_nat (t := o) (by omega) et_153
          simp at m_153
          have hz9 : szO o = 3 := by rw [show o = 132 by omega]; rfl
          refine ps_st (S' := (301, [(0, .ref on)], [.ref on], M1)) rfl rfl rfl ?_
          refine ps_st (S' := (302, [(0, .ref on)], [.ref on, .ref on], M1)) rfl rfl rfl ?_
          refine ps_st (S' := (303, [(0, .ref on)], [.ref on, .ref on, .ref on], M1)) rfl rfl rfl ?_
          refine ps_get (S' := (306, [(0, .ref on)], [.int (nI pc), .ref on, .ref on], M1)) rfl hl_on rfl rfl ?_
          refine ps_st (S' := (307, [(0, .ref on)], [.int 2, .int (nI pc), .ref on, .ref on], M1)) rfl rfl rfl ?_
          refine ps_st (S' := (308, [(0, .ref on)], [.int ((nI pc) + 2), .ref on, .ref on], M1)) rfl rfl rfl ?_
          rw [nI_add1 (p := pc) (k := 2) (x := 2) rfl (by omega)]
          show pl _ _ _ (_, [(0, .ref on)], [.int (nI (pc + 2)), .ref on, .ref on], M1) _
          refine pl_call (a := [.ref on, .int (nI (pc + 2))]) (rest := [.ref on]) rfl rfl rfl (dk_iu1 (f := f) (n := n) (on := on) (b := b) (da := da) (cb := cb) (L := L) (y3 := (nI o)) (y4 := (nI (szO o))) (y5 := 0) (y6 := 0) (y7 := 0) (y8 := 0) (y9 := (nI pc)) (y10 := y10) (y11 := y11) (a := (pc + 2)) hl_on hl_b hl_da (hn) (by omega)) (fun v99 M100 q101 => ?_)
          obtain ⟨rfl, rfl⟩ := q101
          show pl _ _ _ (311, [(0, .ref on)], [.int (nI (by1 f (cb + (pc + 2)))), .ref on], M1) _
          have hb_308 := by1_lt f (cb + (pc + 2))
          refine ps_st (S' := (312, [(0, .ref on)], [.int ((nI (by1 f (cb + (pc + 2)))).toInt8.toInt32), .ref on], M1)) rfl rfl rfl ?_
          refine ps_put (l' := [.ref b, .int (nI cb), .int (nI L), .int (nI o), .int (nI (szO o)), .int 0, .int ((nI (by1 f (cb + (pc + 2)))).toInt8.toInt32), .int 0, .int 0, .int (nI pc), .int y10, .int y11]) rfl hl_on rfl rfl (fun M102 h103 f104 z105 => ?_)
          have h106 := (f104 b (ob_ne hl_b hl_on (by decide))).trans hl_b
          have h107 := (f104 da (Ne.symm (ob_ar hl_on hl_da))).trans hl_da
          have hF108 := hF1.up (by simp) f104 z105
          show pl _ _ _ (315, [(0, .ref on)], [], M102) _
          refine ps_st (S' := (316, [(0, .ref on)], [.ref on], M102)) rfl rfl rfl ?_
          refine ps_st (S' := (317, [(0, .ref on)], [.ref on, .ref on], M102)) rfl rfl rfl ?_
          refine ps_st (S' := (318, [(0, .ref on)], [.ref on, .ref on, .ref on], M102)) rfl rfl rfl ?_
          refine ps_get (S' := (321, [(0, .ref on)], [.int (nI pc), .ref on, .ref on], M102)) rfl h103 rfl rfl ?_
          refine ps_st (S' := (322, [(0, .ref on)], [.int 1, .int (nI pc), .ref on, .ref on], M102)) rfl rfl rfl ?_
          refine ps_st (S' := (323, [(0, .ref on)], [.int ((nI pc) + 1), .ref on, .ref on], M102)) rfl rfl rfl ?_
          rw [nI_add1 (p := pc) (k := 1) (x := 1) rfl (by omega)]
          show pl _ _ _ (_, [(0, .ref on)], [.int (nI (pc + 1)), .ref on, .ref on], M102) _
          refine pl_call (a := [.ref on, .int (nI (pc + 1))]) (rest := [.ref on]) rfl rfl rfl (dk_iu1 (f := f) (n := n) (on := on) (b := b) (da := da) (cb := cb) (L := L) (y3 := (nI o)) (y4 := (nI (szO o))) (y5 := 0) (y6 := ((nI (by1 f (cb + (pc + 2)))).toInt8.toInt32)) (y7 := 0) (y8 := 0) (y9 := (nI pc)) (y10 := y10) (y11 := y11) (a := (pc + 1)) h103 h106 h107 (hn) (by omega)) (fun v109 M110 q111 => ?_)
          obtain ⟨rfl, rfl⟩ := q111
          show pl _ _ _ (326, [(0, .ref on)], [.int (nI (by1 f (cb + (pc + 1)))), .ref on], M102) _
          have hb_323 := by1_lt f (cb + (pc + 1))
          refine pl_call (a := [.ref on, .int (nI (by1 f (cb + (pc + 1))))]) (rest := []) rfl rfl rfl (dk_isLocalTaken (on := on) (b := b) (cb := cb) (L := L) (y4 := (nI (szO o))) (y5 := 0) (y6 := ((nI (by1 f (cb + (pc + 2)))).toInt8.toInt32)) (y7 := 0) (y8 := 0) (y9 := (nI pc)) (y10 := y10) (y11 := y11) (o := o) (vv := (nI (by1 f (cb + (pc + 1))))) h103 (by omega)) (fun v112 M113 q114 => ?_)
          obtain ⟨rfl, h115, f116⟩ := q114
          have h118 := (f116.1 b (nin1 (ob_ne h106 h103 (by decide)))).trans h106
          have h119 := (f116.1 da (nin1 (Ne.symm (ob_ar h103 h107)))).trans h107
          have hF120 := hF108.tr f116 (by simp)
          show pl _ _ _ (329, [(0, .ref on)], [.int 1], M113) _
          exact ps_ret rfl rfl (Or.inl ⟨(o, (nI (by1 f (cb + (pc + 1)))), ((nI (by1 f (cb + (pc + 2)))).toInt8.toInt32), (lpO o), 0, none), by
              unfold opC
              first | ((repeat first | rw [if_pos (by omega)] | rw [if_neg (by omega)]) <;> first | rfl | omega) | ((repeat' split) <;> first | rfl | (exfalso; omega) | omega), rfl, h115, hF120⟩)
        · show pl _ _ _ (330, [(0, .ref on)], [], M1) _
          have m_153 := sw_nat (t := o) (by omega) et_153
          simp at m_153
          have hz9 : szO o = 5 := by rw [show o = 200 by omega]; rfl
          refine ps_st (S' := (331, [(0, .ref on)], [.ref on], M1)) rfl rfl rfl ?_
          refine ps_st (S' := (332, [(0, .ref on)], [.ref on, .ref on], M1)) rfl rfl rfl ?_
          refine ps_st (S' := (333, [(0, .ref on)], [.ref on, .ref on, .ref on], M1)) rfl rfl rfl ?_
          refine ps_get (S' := (336, [(0, .ref on)], [.int (nI pc), .ref on, .ref on], M1)) rfl hl_on rfl rfl ?_
          refine ps_st (S' := (337, [(0, .ref on)], [.int 1, .int (nI pc), .ref on, .ref on], M1)) rfl rfl rfl ?_
          refine ps_st (S' := (338, [(0, .ref on)], [.int ((nI pc) + 1), .ref on, .ref on], M1)) rfl rfl rfl ?_
          rw [nI_add1 (p := pc) (k := 1) (x := 1) rfl (by omega)]
          show pl _ _ _ (_, [(0, .ref on)], [.int (nI (pc + 1)), .ref on, .ref on], M1) _
          refine pl_call (a := [.ref on, .int (nI (pc + 1))]) (rest := [.ref on]) rfl rfl rfl (dk_is4 (f := f) (n := n) (on := on) (b := b) (da := da) (cb := cb) (L := L) (y3 := (nI o)) (y4 := (nI (szO o))) (y5 := 0) (y6 := 0) (y7 := 0) (y8 := 0) (y9 := (nI pc)) (y10 := y10) (y11 := y11) (a := (pc + 1)) hl_on hl_b hl_da (hn) (by omega)) (fun v121 M122 q123 => ?_)
          obtain ⟨rfl, rfl⟩ := q123
          show pl _ _ _ (341, [(0, .ref on)], [.int (nI (by4 f (cb + (pc + 1)))), .ref on], M1) _
          have hb_338 := by4_lt f (cb + (pc + 1))
          refine ps_st (S' := (344, [(0, .ref on)], [.int 167, .int (nI (by4 f (cb + (pc + 1)))), .ref on], M1)) rfl rfl rfl ?_
          refine pl_call (a := [.ref on, .int (nI (by4 f (cb + (pc + 1)))), .int 167]) (rest := []) rfl rfl rfl (dk_isJumpTaken (on := on) (b := b) (cb := cb) (L := L) (y3 := (nI o)) (y4 := (nI (szO o))) (y5 := 0) (y6 := 0) (y7 := 0) (y8 := 0) (y9 := (nI pc)) (y10 := y10) (y11 := y11) (vv := (nI (by4 f (cb + (pc + 1))))) (oo := 167) hl_on) (fun v124 M125 q126 => ?_)
          obtain ⟨rfl, h127, f128⟩ := q126
          have h130 := (f128.1 b (nin1 (ob_ne hl_b hl_on (by decide)))).trans hl_b
          have h131 := (f128.1 da (nin1 (Ne.symm (ob_ar hl_on hl_da)))).trans hl_da
          have hF132 := hF1.tr f128 (by simp)
          show pl _ _ _ (347, [(0, .ref on)], [.int 1], M125) _
          exact ps_ret rfl rfl (Or.inl ⟨(167, 0, 0, 0, 1, some ((nI (by4 f (cb + (pc + 1)))))), by
              unfold opC
              first | ((repeat first | rw [if_pos (by omega)] | rw [if_neg (by omega)]) <;> first | rfl | omega) | ((repeat' split) <;> first | rfl | (exfalso; omega) | omega), rfl, h127, hF132⟩)
        · show pl _ _ _ (348, [(0, .ref on)], [], M1) _
          have m_153 := sw_nat (t := o) (by omega) et_153
          simp at m_153
          have hz9 : szO o = 5 := by rw [show o = 201 by omega]; rfl
          refine ps_st (S' := (349, [(0, .ref on)], [.ref on], M1)) rfl rfl rfl ?_
          refine ps_st (S' := (350, [(0, .ref on)], [.ref on, .ref on], M1)) rfl rfl rfl ?_
          refine ps_st (S' := (351, [(0, .ref on)], [.ref on, .ref on, .ref on], M1)) rfl rfl rfl ?_
          refine ps_get (S' := (354, [(0, .ref on)], [.int (nI pc), .ref on, .ref on], M1)) rfl hl_on rfl rfl ?_
          refine ps_st (S' := (355, [(0, .ref on)], [.int 1, .int (nI pc), .ref on, .ref on], M1)) rfl rfl rfl ?_
          refine ps_st (S' := (356, [(0, .ref on)], [.int ((nI pc) + 1), .ref on, .ref on], M1)) rfl rfl rfl ?_
          rw [nI_add1 (p := pc) (k := 1) (x := 1) rfl (by omega)]
          show pl _ _ _ (_, [(0, .ref on)], [.int (nI (pc + 1)), .ref on, .ref on], M1) _
          refine pl_call (a := [.ref on, .int (nI (pc + 1))]) (rest := [.ref on]) rfl rfl rfl (dk_is4 (f := f) (n := n) (on := on) (b := b) (da := da) (cb := cb) (L := L) (y3 := (nI o)) (y4 := (nI (szO o))) (y5 := 0) (y6 := 0) (y7 := 0) (y8 := 0) (y9 := (nI pc)) (y10 := y10) (y11 := y11) (a := (pc + 1)) hl_on hl_b hl_da (hn) (by omega)) (fun v133 M134 q135 => ?_)
          obtain ⟨rfl, rfl⟩ := q135
          show pl _ _ _ (359, [(0, .ref on)], [.int (nI (by4 f (cb + (pc + 1)))), .ref on], M1) _
          have hb_356 := by4_lt f (cb + (pc + 1))
          refine ps_st (S' := (362, [(0, .ref on)], [.int 168, .int (nI (by4 f (cb + (pc + 1)))), .ref on], M1)) rfl rfl rfl ?_
          refine pl_call (a := [.ref on, .int (nI (by4 f (cb + (pc + 1)))), .int 168]) (rest := []) rfl rfl rfl (dk_isJumpTaken (on := on) (b := b) (cb := cb) (L := L) (y3 := (nI o)) (y4 := (nI (szO o))) (y5 := 0) (y6 := 0) (y7 := 0) (y8 := 0) (y9 := (nI pc)) (y10 := y10) (y11 := y11) (vv := (nI (by4 f (cb + (pc + 1))))) (oo := 168) hl_on) (fun v136 M137 q138 => ?_)
          obtain ⟨rfl, h139, f140⟩ := q138
          have h142 := (f140.1 b (nin1 (ob_ne hl_b hl_on (by decide)))).trans hl_b
          have h143 := (f140.1 da (nin1 (Ne.symm (ob_ar hl_on hl_da)))).trans hl_da
          have hF144 := hF1.tr f140 (by simp)
          show pl _ _ _ (365, [(0, .ref on)], [.int 1], M137) _
          exact ps_ret rfl rfl (Or.inl ⟨(168, 0, 0, 0, 1, some ((nI (by4 f (cb + (pc + 1)))))), by
              unfold opC
              first | ((repeat first | rw [if_pos (by omega)] | rw [if_neg (by omega)]) <;> first | rfl | omega) | ((repeat' split) <;> first | rfl | (exfalso; omega) | omega), rfl, h139, hF144⟩)
        · show pl _ _ _ (366, [(0, .ref on)], [], M1) _
          have m_153 := sw_nat (t := o) (by omega) et_153
          simp at m_153
          refine ps_st (S' := (367, [(0, .ref on)], [.ref on], M1)) rfl rfl rfl ?_
          refine pl_call (a := [.ref on]) (rest := []) rfl rfl rfl (dk_isIndexTaken (f := f) (n := n) (on := on) (b := b) (da := da) (cb := cb) (L := L) (y7 := 0) (y8 := 0) (y10 := y10) (y11 := y11) (pc := pc) (o := o) hl_on hl_b hl_da (hn) (ho) (hcl) (hpl) (hsz)) (fun v145 M146 q147 => ?_)
          rcases q147 with q147 | q147
          · skip
            obtain ⟨x148, q367_s, rfl, h149, f150⟩ := q147
            have h152 := (f150.1 b (nin1 (ob_ne hl_b hl_on (by decide)))).trans hl_b
            have h153 := (f150.1 da (nin1 (Ne.symm (ob_ar hl_on hl_da)))).trans hl_da
            have hF154 := hF1.tr f150 (by simp)
            show pl _ _ _ (370, [(0, .ref on)], [.int 1], M146) _
            exact ps_ret rfl rfl (Or.inl ⟨(o, x148.1, x148.2, 0, 0, none), by
                unfold opC
                rw [if_neg (by omega), if_neg (by omega), if_neg (by omega), if_neg (by omega), if_neg (by omega), if_neg (by omega), if_neg (by omega), if_neg (by omega), if_neg (by omega), if_neg (by omega), if_neg (by omega), q367_s], rfl, h149, hF154⟩)
          · skip
            obtain ⟨z5155, z6156, q367_s, rfl, h157, f158⟩ := q147
            have h160 := (f158.1 b (nin1 (ob_ne hl_b hl_on (by decide)))).trans hl_b
            have h161 := (f158.1 da (nin1 (Ne.symm (ob_ar hl_on hl_da)))).trans hl_da
            have hF162 := hF1.tr f158 (by simp)
            show pl _ _ _ (370, [(0, .ref on)], [.int 0], M146) _
            exact ps_ret rfl rfl (Or.inr ⟨_, _, _, _, _, _, by
                unfold opC
                rw [if_neg (by omega), if_neg (by omega), if_neg (by omega), if_neg (by omega), if_neg (by omega), if_neg (by omega), if_neg (by omega), if_neg (by omega), if_neg (by omega), if_neg (by omega), if_neg (by omega), q367_s], rfl, h157, hF162⟩)
  refine ps_st (S' := (1, [(0, .ref on)], [.ref on], M)) rfl rfl rfl ?_
  refine ps_get (S' := (4, [(0, .ref on)], [.int (nI o)], M)) rfl h_on rfl rfl ?_
  refine ps_st (S' := (6, [(0, .ref on)], [.int 26, .int (nI o)], M)) rfl rfl rfl ?_
  refine ps_if2 (S1 := (32, [(0, .ref on)], [], M)) (S2 := (9, [(0, .ref on)], [], M)) rfl rfl rfl (fun c_6 => ?_) (fun c_6 => ?_)
  · have c_6 : (nI o) < 26 := of_decide_eq_true c_6
    have n_6 : o < 26 := (lt_nI (p := o) (n := 26) (by omega) (by decide)).mp c_6
    refine ps_st (S' := (33, [(0, .ref on)], [.ref on], M)) rfl rfl rfl ?_
    refine ps_get (S' := (36, [(0, .ref on)], [.int (nI o)], M)) rfl h_on rfl rfl ?_
    refine ps_st (S' := (38, [(0, .ref on)], [.int 59, .int (nI o)], M)) rfl rfl rfl ?_
    refine ps_if2 (S1 := (64, [(0, .ref on)], [], M)) (S2 := (41, [(0, .ref on)], [], M)) rfl rfl rfl (fun c_38 => ?_) (fun c_38 => ?_)
    rotate_left
    · exact absurd ((lt_nI (p := o) (n := 59) (by omega) (by decide)).mpr (by omega)) (of_decide_eq_false c_38)
    exact (LL kf).1 (0) M h_on h_b h_da hF (by omega)
  · have c_6 : ¬ ((nI o) < 26) := of_decide_eq_false c_6
    have n_6 : ¬ (o < 26) := fun h9 => c_6 ((lt_nI (p := o) (n := 26) (by omega) (by decide)).mpr h9)
    refine ps_st (S' := (10, [(0, .ref on)], [.ref on], M)) rfl rfl rfl ?_
    refine ps_get (S' := (13, [(0, .ref on)], [.int (nI o)], M)) rfl h_on rfl rfl ?_
    refine ps_st (S' := (15, [(0, .ref on)], [.int 45, .int (nI o)], M)) rfl rfl rfl ?_
    refine ps_if2 (S1 := (32, [(0, .ref on)], [], M)) (S2 := (18, [(0, .ref on)], [], M)) rfl rfl rfl (fun c_15 => ?_) (fun c_15 => ?_)
    · have c_15 : 45 < (nI o) := of_decide_eq_true c_15
      have n_15 : 45 < o := (lt_nI (p := 45) (n := o) (by decide) (by omega)).mp c_15
      refine ps_st (S' := (33, [(0, .ref on)], [.ref on], M)) rfl rfl rfl ?_
      refine ps_get (S' := (36, [(0, .ref on)], [.int (nI o)], M)) rfl h_on rfl rfl ?_
      refine ps_st (S' := (38, [(0, .ref on)], [.int 59, .int (nI o)], M)) rfl rfl rfl ?_
      refine ps_if2 (S1 := (64, [(0, .ref on)], [], M)) (S2 := (41, [(0, .ref on)], [], M)) rfl rfl rfl (fun c_38 => ?_) (fun c_38 => ?_)
      · have c_38 : (nI o) < 59 := of_decide_eq_true c_38
        have n_38 : o < 59 := (lt_nI (p := o) (n := 59) (by omega) (by decide)).mp c_38
        exact (LL kf).1 (0) M h_on h_b h_da hF (by omega)
      · have c_38 : ¬ ((nI o) < 59) := of_decide_eq_false c_38
        have n_38 : ¬ (o < 59) := fun h9 => c_38 ((lt_nI (p := o) (n := 59) (by omega) (by decide)).mpr h9)
        refine ps_st (S' := (42, [(0, .ref on)], [.ref on], M)) rfl rfl rfl ?_
        refine ps_get (S' := (45, [(0, .ref on)], [.int (nI o)], M)) rfl h_on rfl rfl ?_
        refine ps_st (S' := (47, [(0, .ref on)], [.int 78, .int (nI o)], M)) rfl rfl rfl ?_
        refine ps_if2 (S1 := (64, [(0, .ref on)], [], M)) (S2 := (50, [(0, .ref on)], [], M)) rfl rfl rfl (fun c_47 => ?_) (fun c_47 => ?_)
        · have c_47 : 78 < (nI o) := of_decide_eq_true c_47
          have n_47 : 78 < o := (lt_nI (p := 78) (n := o) (by decide) (by omega)).mp c_47
          exact (LL kf).1 (0) M h_on h_b h_da hF (by omega)
        · have c_47 : ¬ (78 < (nI o)) := of_decide_eq_false c_47
          have n_47 : ¬ (78 < o) := fun h9 => c_47 ((lt_nI (p := 78) (n := o) (by decide) (by omega)).mpr h9)
          refine ps_st (S' := (51, [(0, .ref on)], [.ref on], M)) rfl rfl rfl ?_
          refine ps_st (S' := (52, [(0, .ref on)], [.ref on, .ref on], M)) rfl rfl rfl ?_
          refine ps_get (S' := (55, [(0, .ref on)], [.int (nI o), .ref on], M)) rfl h_on rfl rfl ?_
          refine ps_st (S' := (57, [(0, .ref on)], [.int 59, .int (nI o), .ref on], M)) rfl rfl rfl ?_
          refine ps_st (S' := (58, [(0, .ref on)], [.int ((nI o) - 59), .ref on], M)) rfl rfl rfl ?_
          rw [nI_sub1 (p := o) (k := 59) (x := 59) rfl (by omega) (by omega)]
          show pl _ _ _ (_, [(0, .ref on)], [.int (nI (o - 59)), .ref on], M) _
          refine ps_st (S' := (60, [(0, .ref on)], [.int 54, .int (nI (o - 59)), .ref on], M)) rfl rfl rfl ?_
          refine pl_call (a := [.ref on, .int (nI (o - 59)), .int 54]) (rest := []) rfl rfl rfl (dk_isShortLocalTaken (on := on) (b := b) (cb := cb) (L := L) (y3 := (nI o)) (y4 := (nI (szO o))) (y5 := 0) (y6 := 0) (y7 := 0) (y8 := 0) (y9 := (nI pc)) (y10 := y10) (y11 := y11) (t := (o - 59)) (lf := 54) h_on (by omega) (by decide)) (fun v163 M164 q165 => ?_)
          obtain ⟨rfl, h166, f167⟩ := q165
          have h169 := (f167.1 b (nin1 (ob_ne h_b h_on (by decide)))).trans h_b
          have h170 := (f167.1 da (nin1 (Ne.symm (ob_ar h_on h_da)))).trans h_da
          have hF171 := hF.tr f167 (by simp)
          show pl _ _ _ (63, [(0, .ref on)], [.int 1], M164) _
          exact ps_ret rfl rfl (Or.inl ⟨((54 + (o - 59) / 4), (nI ((o - 59) % 4)), 0, (lpO (54 + (o - 59) / 4)), 0, none), by
              unfold opC
              first | ((repeat first | rw [if_pos (by omega)] | rw [if_neg (by omega)]) <;> first | rfl | omega) | ((repeat' split) <;> first | rfl | (exfalso; omega) | omega), rfl, h166, hF171⟩)
    · have c_15 : ¬ (45 < (nI o)) := of_decide_eq_false c_15
      have n_15 : ¬ (45 < o) := fun h9 => c_15 ((lt_nI (p := 45) (n := o) (by decide) (by omega)).mpr h9)
      refine ps_st (S' := (19, [(0, .ref on)], [.ref on], M)) rfl rfl rfl ?_
      refine ps_st (S' := (20, [(0, .ref on)], [.ref on, .ref on], M)) rfl rfl rfl ?_
      refine ps_get (S' := (23, [(0, .ref on)], [.int (nI o), .ref on], M)) rfl h_on rfl rfl ?_
      refine ps_st (S' := (25, [(0, .ref on)], [.int 26, .int (nI o), .ref on], M)) rfl rfl rfl ?_
      refine ps_st (S' := (26, [(0, .ref on)], [.int ((nI o) - 26), .ref on], M)) rfl rfl rfl ?_
      rw [nI_sub1 (p := o) (k := 26) (x := 26) rfl (by omega) (by omega)]
      show pl _ _ _ (_, [(0, .ref on)], [.int (nI (o - 26)), .ref on], M) _
      refine ps_st (S' := (28, [(0, .ref on)], [.int 21, .int (nI (o - 26)), .ref on], M)) rfl rfl rfl ?_
      refine pl_call (a := [.ref on, .int (nI (o - 26)), .int 21]) (rest := []) rfl rfl rfl (dk_isShortLocalTaken (on := on) (b := b) (cb := cb) (L := L) (y3 := (nI o)) (y4 := (nI (szO o))) (y5 := 0) (y6 := 0) (y7 := 0) (y8 := 0) (y9 := (nI pc)) (y10 := y10) (y11 := y11) (t := (o - 26)) (lf := 21) h_on (by omega) (by decide)) (fun v172 M173 q174 => ?_)
      obtain ⟨rfl, h175, f176⟩ := q174
      have h178 := (f176.1 b (nin1 (ob_ne h_b h_on (by decide)))).trans h_b
      have h179 := (f176.1 da (nin1 (Ne.symm (ob_ar h_on h_da)))).trans h_da
      have hF180 := hF.tr f176 (by simp)
      show pl _ _ _ (31, [(0, .ref on)], [.int 1], M173) _
      exact ps_ret rfl rfl (Or.inl ⟨((21 + (o - 26) / 4), (nI ((o - 26) % 4)), 0, (lpO (21 + (o - 26) / 4)), 0, none), by
          unfold opC
          first | ((repeat first | rw [if_pos (by omega)] | rw [if_neg (by omega)]) <;> first | rfl | omega) | ((repeat' split) <;> first | rfl | (exfalso; omega) | omega), rfl, h175, hF180⟩)
set_option maxHeartbeats 1000000 in
theorem dk_isWideTaken {g : xe_G} {M : mi_H} {f : Nat → Int32} {n on b da cb L : Nat} {y10 y11 : Int32} {pc : Nat} (h_on : M.1 on = some (ob 5 [.ref b, .int (nI cb), .int (nI L), .int 196, .int 1, .int 0, .int 0, .int 0, .int 0, .int (nI pc), .int y10, .int y11])) (h_b : M.1 b = some (ob 1 [.ref da])) (h_da : M.1 da = some (ar .byte n f)) (hn : n ≤ 65540) (hcl : cb + L + 4 ≤ n) (hpl : pc < L) : pt (mT g) 99 [.ref on] M (fun v M' => (∃ (x : Nat × Nat × Int32 × Int32), (wiS f cb L pc = some x) ∧ v = some (.int 1) ∧ M'.1 on = some (ob 5 [.ref b, .int (nI cb), .int (nI L), .int (nI x.1), .int (nI x.2.1), .int x.2.2.1, .int x.2.2.2, .int (nI (lpO x.1)), .int 0, .int (nI pc), .int y10, .int y11]) ∧ fm [on] M M') ∨ (∃ (z3 z4 z5 z6 z7 : Int32), (wiS f cb L pc = none) ∧ v = some (.int 0) ∧ M'.1 on = some (ob 5 [.ref b, .int (nI cb), .int (nI L), .int z3, .int z4, .int z5, .int z6, .int z7, .int 0, .int (nI pc), .int y10, .int y11]) ∧ fm [on] M M')) := by
  refine pt_in (b := mb_99 g) rfl (fun kf => ?_)
  show pl (mT g) kf (mb_99 g).2 (0, [(0, .ref on)], [], M) _
  have hF : fm [on] M M := fm.rf
  refine ps_st (S' := (1, [(0, .ref on)], [.ref on], M)) rfl rfl rfl ?_
  refine ps_get (S' := (4, [(0, .ref on)], [.int (nI L)], M)) rfl h_on rfl rfl ?_
  refine ps_st (S' := (5, [(0, .ref on)], [.ref on, .int (nI L)], M)) rfl rfl rfl ?_
  refine ps_get (S' := (8, [(0, .ref on)], [.int (nI pc), .int (nI L)], M)) rfl h_on rfl rfl ?_
  refine ps_st (S' := (9, [(0, .ref on)], [.int ((nI L) - (nI pc))], M)) rfl rfl rfl ?_
  refine ps_st (S' := (10, [(0, .ref on)], [.int 4, .int ((nI L) - (nI pc))], M)) rfl rfl rfl ?_
  refine ps_if2 (S1 := (15, [(0, .ref on)], [], M)) (S2 := (13, [(0, .ref on)], [], M)) rfl rfl rfl (fun c_10 => ?_) (fun c_10 => ?_)
  · have c_10 : 4 ≤ ((nI L) - (nI pc)) := of_decide_eq_true c_10
    have n_10 : 4 + pc ≤ L := (le_sub1 (e := L) (p := pc) (k := 4) (by omega) (by omega) (by omega)).mp c_10
    refine ps_st (S' := (16, [(0, .ref on)], [.ref on], M)) rfl rfl rfl ?_
    refine ps_st (S' := (17, [(0, .ref on)], [.ref on, .ref on], M)) rfl rfl rfl ?_
    refine ps_st (S' := (18, [(0, .ref on)], [.ref on, .ref on, .ref on], M)) rfl rfl rfl ?_
    refine ps_get (S' := (21, [(0, .ref on)], [.int (nI pc), .ref on, .ref on], M)) rfl h_on rfl rfl ?_
    refine ps_st (S' := (22, [(0, .ref on)], [.int 1, .int (nI pc), .ref on, .ref on], M)) rfl rfl rfl ?_
    refine ps_st (S' := (23, [(0, .ref on)], [.int ((nI pc) + 1), .ref on, .ref on], M)) rfl rfl rfl ?_
    rw [nI_add1 (p := pc) (k := 1) (x := 1) rfl (by omega)]
    show pl _ _ _ (_, [(0, .ref on)], [.int (nI (pc + 1)), .ref on, .ref on], M) _
    refine pl_call (a := [.ref on, .int (nI (pc + 1))]) (rest := [.ref on]) rfl rfl rfl (dk_iu1 (f := f) (n := n) (on := on) (b := b) (da := da) (cb := cb) (L := L) (y3 := 196) (y4 := 1) (y5 := 0) (y6 := 0) (y7 := 0) (y8 := 0) (y9 := (nI pc)) (y10 := y10) (y11 := y11) (a := (pc + 1)) h_on h_b h_da (hn) (by omega)) (fun v1 M2 q3 => ?_)
    obtain ⟨rfl, rfl⟩ := q3
    show pl _ _ _ (26, [(0, .ref on)], [.int (nI (by1 f (cb + (pc + 1)))), .ref on], M) _
    have hb_23 := by1_lt f (cb + (pc + 1))
    refine ps_put (l' := [.ref b, .int (nI cb), .int (nI L), .int (nI (by1 f (cb + (pc + 1)))), .int 1, .int 0, .int 0, .int 0, .int 0, .int (nI pc), .int y10, .int y11]) rfl h_on rfl rfl (fun M4 h5 f6 z7 => ?_)
    have h8 := (f6 b (ob_ne h_b h_on (by decide))).trans h_b
    have h9 := (f6 da (Ne.symm (ob_ar h_on h_da))).trans h_da
    have hF10 := hF.up (by simp) f6 z7
    show pl _ _ _ (29, [(0, .ref on)], [], M4) _
    refine ps_st (S' := (30, [(0, .ref on)], [.ref on], M4)) rfl rfl rfl ?_
    refine ps_get (S' := (33, [(0, .ref on)], [.int (nI (by1 f (cb + (pc + 1))))], M4)) rfl h5 rfl rfl ?_
    refine ps_st (S' := (36, [(0, .ref on)], [.int 132, .int (nI (by1 f (cb + (pc + 1))))], M4)) rfl rfl rfl ?_
    refine ps_if2 (S1 := (63, [(0, .ref on)], [], M4)) (S2 := (39, [(0, .ref on)], [], M4)) rfl rfl rfl (fun c_36 => ?_) (fun c_36 => ?_)
    · have c_36 : ¬ (nI (by1 f (cb + (pc + 1)))) = 132 := of_decide_eq_true c_36
      have n_36 : ¬ (by1 f (cb + (pc + 1)) = 132) := fun h9 => c_36 ((eq_nI (p := by1 f (cb + (pc + 1))) (n := 132) (Nat.lt_trans (by1_lt _ _) (by decide)) (by decide)).mpr h9)
      refine ps_st (S' := (64, [(0, .ref on)], [.ref on], M4)) rfl rfl rfl ?_
      refine ps_st (S' := (65, [(0, .ref on)], [.int 4, .ref on], M4)) rfl rfl rfl ?_
      refine ps_put (l' := [.ref b, .int (nI cb), .int (nI L), .int (nI (by1 f (cb + (pc + 1)))), .int 4, .int 0, .int 0, .int 0, .int 0, .int (nI pc), .int y10, .int y11]) rfl h5 rfl rfl (fun M11 h12 f13 z14 => ?_)
      have h15 := (f13 b (ob_ne h8 h5 (by decide))).trans h8
      have h16 := (f13 da (Ne.symm (ob_ar h5 h9))).trans h9
      have hF17 := hF10.up (by simp) f13 z14
      show pl _ _ _ (68, [(0, .ref on)], [], M11) _
      refine ps_st (S' := (69, [(0, .ref on)], [.ref on], M11)) rfl rfl rfl ?_
      refine ps_get (S' := (72, [(0, .ref on)], [.int 4], M11)) rfl h12 rfl rfl ?_
      refine ps_st (S' := (73, [(0, .ref on)], [.ref on, .int 4], M11)) rfl rfl rfl ?_
      refine ps_get (S' := (76, [(0, .ref on)], [.int (nI L), .int 4], M11)) rfl h12 rfl rfl ?_
      refine ps_st (S' := (77, [(0, .ref on)], [.ref on, .int (nI L), .int 4], M11)) rfl rfl rfl ?_
      refine ps_get (S' := (80, [(0, .ref on)], [.int (nI pc), .int (nI L), .int 4], M11)) rfl h12 rfl rfl ?_
      refine ps_st (S' := (81, [(0, .ref on)], [.int ((nI L) - (nI pc)), .int 4], M11)) rfl rfl rfl ?_
      refine ps_if2 (S1 := (104, [], [], M11)) (S2 := (84, [(0, .ref on)], [], M11)) rfl rfl rfl (fun c_81 => ?_) (fun c_81 => ?_)
      · have c_81 : ((nI L) - (nI pc)) < 4 := of_decide_eq_true c_81
        have n_81 : L < pc + 4 := (sub_lt1 (e := L) (p := pc) (k := 4) (by omega) (by omega) (by omega)).mp c_81
        refine ps_st (S' := (105, [], [.int 0], M11)) rfl rfl rfl ?_
        exact ps_ret rfl rfl (Or.inr ⟨_, _, _, _, _, by
            unfold wiS
            first | ((repeat first | rw [if_pos (by omega)] | rw [if_neg (by omega)]) <;> first | rfl | omega) | ((repeat' split) <;> first | rfl | (exfalso; omega) | omega), rfl, h12, hF17⟩)
      · have c_81 : ¬ (((nI L) - (nI pc)) < 4) := of_decide_eq_false c_81
        have n_81 : ¬ (L < pc + 4) := fun h8 => c_81 ((sub_lt1 (e := L) (p := pc) (k := 4) (by omega) (by omega) (by omega)).mpr h8)
        refine ps_st (S' := (85, [(0, .ref on)], [.ref on], M11)) rfl rfl rfl ?_
        refine ps_get (S' := (88, [(0, .ref on)], [.int (nI (by1 f (cb + (pc + 1))))], M11)) rfl h12 rfl rfl ?_
        refine ps_st (S' := (91, [(0, .ref on)], [.int 132, .int (nI (by1 f (cb + (pc + 1))))], M11)) rfl rfl rfl ?_
        refine ps_if2 (S1 := (106, [(0, .ref on)], [], M11)) (S2 := (94, [(0, .ref on)], [], M11)) rfl rfl rfl (fun c_91 => ?_) (fun c_91 => ?_)
        · exact absurd (of_decide_eq_true c_91) (show ¬ ((nI (by1 f (cb + (pc + 1)))) = 132) from fun h9 => absurd ((eq_nI (p := by1 f (cb + (pc + 1))) (n := 132) (Nat.lt_trans (by1_lt _ _) (by decide)) (by decide)).mp h9) (by omega))
        refine ps_st (S' := (95, [(0, .ref on)], [.ref on], M11)) rfl rfl rfl ?_
        refine ps_get (S' := (98, [(0, .ref on)], [.int (nI (by1 f (cb + (pc + 1))))], M11)) rfl h12 rfl rfl ?_
        refine pl_call (a := [.int (nI (by1 f (cb + (pc + 1))))]) (rest := []) rfl rfl rfl (dk_isLocalOpcode (o := (by1 f (cb + (pc + 1)))) (by omega)) (fun v18 M19 q20 => ?_)
        obtain ⟨rfl, rfl⟩ := q20
        show pl _ _ _ (101, [(0, .ref on)], [.int (nI (lcO (by1 f (cb + (pc + 1)))))], M11) _
        have hlc := lcO_le (by1 f (cb + (pc + 1)))
        refine ps_if (S1 := (106, [(0, .ref on)], [], M11)) (S2 := (104, [], [], M11)) rfl rfl rfl (fun c_101 => ?_) (fun c_101 => ?_)
        · have c_101 : ¬ (nI (lcO (by1 f (cb + (pc + 1))))) = 0 := of_decide_eq_true c_101
          have n_101 : ¬ (lcO (by1 f (cb + (pc + 1))) = 0) := fun h9 => c_101 ((eq_nI (p := lcO (by1 f (cb + (pc + 1)))) (n := 0) (by omega) (by decide)).mpr h9)
          refine ps_st (S' := (107, [(0, .ref on)], [.ref on], M11)) rfl rfl rfl ?_
          refine ps_st (S' := (108, [(0, .ref on)], [.ref on, .ref on], M11)) rfl rfl rfl ?_
          refine ps_st (S' := (109, [(0, .ref on)], [.ref on, .ref on, .ref on], M11)) rfl rfl rfl ?_
          refine ps_get (S' := (112, [(0, .ref on)], [.int (nI pc), .ref on, .ref on], M11)) rfl h12 rfl rfl ?_
          refine ps_st (S' := (113, [(0, .ref on)], [.int 2, .int (nI pc), .ref on, .ref on], M11)) rfl rfl rfl ?_
          refine ps_st (S' := (114, [(0, .ref on)], [.int ((nI pc) + 2), .ref on, .ref on], M11)) rfl rfl rfl ?_
          rw [nI_add1 (p := pc) (k := 2) (x := 2) rfl (by omega)]
          show pl _ _ _ (_, [(0, .ref on)], [.int (nI (pc + 2)), .ref on, .ref on], M11) _
          refine pl_call (a := [.ref on, .int (nI (pc + 2))]) (rest := [.ref on]) rfl rfl rfl (dk_iu2 (f := f) (n := n) (on := on) (b := b) (da := da) (cb := cb) (L := L) (y3 := (nI (by1 f (cb + (pc + 1))))) (y4 := 4) (y5 := 0) (y6 := 0) (y7 := 0) (y8 := 0) (y9 := (nI pc)) (y10 := y10) (y11 := y11) (a := (pc + 2)) h12 h15 h16 (hn) (by omega)) (fun v21 M22 q23 => ?_)
          obtain ⟨rfl, rfl⟩ := q23
          show pl _ _ _ (117, [(0, .ref on)], [.int (nI (by2 f (cb + (pc + 2)))), .ref on], M11) _
          have hb_114 := by2_lt f (cb + (pc + 2))
          refine pl_call (a := [.ref on, .int (nI (by2 f (cb + (pc + 2))))]) (rest := []) rfl rfl rfl (dk_isLocalTaken (on := on) (b := b) (cb := cb) (L := L) (y4 := 4) (y5 := 0) (y6 := 0) (y7 := 0) (y8 := 0) (y9 := (nI pc)) (y10 := y10) (y11 := y11) (o := (by1 f (cb + (pc + 1)))) (vv := (nI (by2 f (cb + (pc + 2))))) h12 (by omega)) (fun v24 M25 q26 => ?_)
          obtain ⟨rfl, h27, f28⟩ := q26
          have h30 := (f28.1 b (nin1 (ob_ne h15 h12 (by decide)))).trans h15
          have h31 := (f28.1 da (nin1 (Ne.symm (ob_ar h12 h16)))).trans h16
          have hF32 := hF17.tr f28 (by simp)
          show pl _ _ _ (120, [(0, .ref on)], [.int 1], M25) _
          exact ps_ret rfl rfl (Or.inl ⟨((by1 f (cb + (pc + 1))), 4, (nI (by2 f (cb + (pc + 2)))), 0), by
              unfold wiS
              first | ((repeat first | rw [if_pos (by omega)] | rw [if_neg (by omega)]) <;> first | rfl | omega) | ((repeat' split) <;> first | rfl | (exfalso; omega) | omega), rfl, h27, hF32⟩)
        · have c_101 : ¬ (¬ (nI (lcO (by1 f (cb + (pc + 1))))) = 0) := of_decide_eq_false c_101
          have n_101 : lcO (by1 f (cb + (pc + 1))) = 0 := (eq_nI (p := lcO (by1 f (cb + (pc + 1)))) (n := 0) (by omega) (by decide)).mp (Decidable.not_not.mp c_101)
          refine ps_st (S' := (105, [], [.int 0], M11)) rfl rfl rfl ?_
          exact ps_ret rfl rfl (Or.inr ⟨_, _, _, _, _, by
              unfold wiS
              first | ((repeat first | rw [if_pos (by omega)] | rw [if_neg (by omega)]) <;> first | rfl | omega) | ((repeat' split) <;> first | rfl | (exfalso; omega) | omega), rfl, h12, hF17⟩)
    · have c_36 : ¬ (¬ (nI (by1 f (cb + (pc + 1)))) = 132) := of_decide_eq_false c_36
      have n_36 : by1 f (cb + (pc + 1)) = 132 := (eq_nI (p := by1 f (cb + (pc + 1))) (n := 132) (Nat.lt_trans (by1_lt _ _) (by decide)) (by decide)).mp (Decidable.not_not.mp c_36)
      refine ps_st (S' := (40, [(0, .ref on)], [.ref on], M4)) rfl rfl rfl ?_
      refine ps_st (S' := (42, [(0, .ref on)], [.int 6, .ref on], M4)) rfl rfl rfl ?_
      refine ps_put (l' := [.ref b, .int (nI cb), .int (nI L), .int (nI (by1 f (cb + (pc + 1)))), .int 6, .int 0, .int 0, .int 0, .int 0, .int (nI pc), .int y10, .int y11]) rfl h5 rfl rfl (fun M33 h34 f35 z36 => ?_)
      have h37 := (f35 b (ob_ne h8 h5 (by decide))).trans h8
      have h38 := (f35 da (Ne.symm (ob_ar h5 h9))).trans h9
      have hF39 := hF10.up (by simp) f35 z36
      show pl _ _ _ (45, [(0, .ref on)], [], M33) _
      refine ps_st (S' := (46, [(0, .ref on)], [.ref on], M33)) rfl rfl rfl ?_
      refine ps_st (S' := (47, [(0, .ref on)], [.ref on, .ref on], M33)) rfl rfl rfl ?_
      refine ps_st (S' := (48, [(0, .ref on)], [.ref on, .ref on, .ref on], M33)) rfl rfl rfl ?_
      refine ps_get (S' := (51, [(0, .ref on)], [.int (nI pc), .ref on, .ref on], M33)) rfl h34 rfl rfl ?_
      refine ps_st (S' := (52, [(0, .ref on)], [.int 4, .int (nI pc), .ref on, .ref on], M33)) rfl rfl rfl ?_
      refine ps_st (S' := (53, [(0, .ref on)], [.int ((nI pc) + 4), .ref on, .ref on], M33)) rfl rfl rfl ?_
      rw [nI_add1 (p := pc) (k := 4) (x := 4) rfl (by omega)]
      show pl _ _ _ (_, [(0, .ref on)], [.int (nI (pc + 4)), .ref on, .ref on], M33) _
      refine pl_call (a := [.ref on, .int (nI (pc + 4))]) (rest := [.ref on]) rfl rfl rfl (dk_iu2 (f := f) (n := n) (on := on) (b := b) (da := da) (cb := cb) (L := L) (y3 := (nI (by1 f (cb + (pc + 1))))) (y4 := 6) (y5 := 0) (y6 := 0) (y7 := 0) (y8 := 0) (y9 := (nI pc)) (y10 := y10) (y11 := y11) (a := (pc + 4)) h34 h37 h38 (hn) (by omega)) (fun v40 M41 q42 => ?_)
      obtain ⟨rfl, rfl⟩ := q42
      show pl _ _ _ (56, [(0, .ref on)], [.int (nI (by2 f (cb + (pc + 4)))), .ref on], M33) _
      have hb_53 := by2_lt f (cb + (pc + 4))
      refine ps_st (S' := (57, [(0, .ref on)], [.int ((nI (by2 f (cb + (pc + 4)))).toInt16.toInt32), .ref on], M33)) rfl rfl rfl ?_
      refine ps_put (l' := [.ref b, .int (nI cb), .int (nI L), .int (nI (by1 f (cb + (pc + 1)))), .int 6, .int 0, .int ((nI (by2 f (cb + (pc + 4)))).toInt16.toInt32), .int 0, .int 0, .int (nI pc), .int y10, .int y11]) rfl h34 rfl rfl (fun M43 h44 f45 z46 => ?_)
      have h47 := (f45 b (ob_ne h37 h34 (by decide))).trans h37
      have h48 := (f45 da (Ne.symm (ob_ar h34 h38))).trans h38
      have hF49 := hF39.up (by simp) f45 z46
      show pl _ _ _ (60, [(0, .ref on)], [], M43) _
      refine ps_st (S' := (68, [(0, .ref on)], [], M43)) rfl rfl rfl ?_
      refine ps_st (S' := (69, [(0, .ref on)], [.ref on], M43)) rfl rfl rfl ?_
      refine ps_get (S' := (72, [(0, .ref on)], [.int 6], M43)) rfl h44 rfl rfl ?_
      refine ps_st (S' := (73, [(0, .ref on)], [.ref on, .int 6], M43)) rfl rfl rfl ?_
      refine ps_get (S' := (76, [(0, .ref on)], [.int (nI L), .int 6], M43)) rfl h44 rfl rfl ?_
      refine ps_st (S' := (77, [(0, .ref on)], [.ref on, .int (nI L), .int 6], M43)) rfl rfl rfl ?_
      refine ps_get (S' := (80, [(0, .ref on)], [.int (nI pc), .int (nI L), .int 6], M43)) rfl h44 rfl rfl ?_
      refine ps_st (S' := (81, [(0, .ref on)], [.int ((nI L) - (nI pc)), .int 6], M43)) rfl rfl rfl ?_
      refine ps_if2 (S1 := (104, [], [], M43)) (S2 := (84, [(0, .ref on)], [], M43)) rfl rfl rfl (fun c_81 => ?_) (fun c_81 => ?_)
      · have c_81 : ((nI L) - (nI pc)) < 6 := of_decide_eq_true c_81
        have n_81 : L < pc + 6 := (sub_lt1 (e := L) (p := pc) (k := 6) (by omega) (by omega) (by omega)).mp c_81
        refine ps_st (S' := (105, [], [.int 0], M43)) rfl rfl rfl ?_
        exact ps_ret rfl rfl (Or.inr ⟨_, _, _, _, _, by
            unfold wiS
            first | ((repeat first | rw [if_pos (by omega)] | rw [if_neg (by omega)]) <;> first | rfl | omega) | ((repeat' split) <;> first | rfl | (exfalso; omega) | omega), rfl, h44, hF49⟩)
      · have c_81 : ¬ (((nI L) - (nI pc)) < 6) := of_decide_eq_false c_81
        have n_81 : ¬ (L < pc + 6) := fun h8 => c_81 ((sub_lt1 (e := L) (p := pc) (k := 6) (by omega) (by omega) (by omega)).mpr h8)
        refine ps_st (S' := (85, [(0, .ref on)], [.ref on], M43)) rfl rfl rfl ?_
        refine ps_get (S' := (88, [(0, .ref on)], [.int (nI (by1 f (cb + (pc + 1))))], M43)) rfl h44 rfl rfl ?_
        refine ps_st (S' := (91, [(0, .ref on)], [.int 132, .int (nI (by1 f (cb + (pc + 1))))], M43)) rfl rfl rfl ?_
        refine ps_if2 (S1 := (106, [(0, .ref on)], [], M43)) (S2 := (94, [(0, .ref on)], [], M43)) rfl rfl rfl (fun c_91 => ?_) (fun c_91 => ?_)
        rotate_left
        · exact absurd ((eq_nI (p := by1 f (cb + (pc + 1))) (n := 132) (Nat.lt_trans (by1_lt _ _) (by decide)) (by decide)).mpr (by omega)) (of_decide_eq_false c_91)
        refine ps_st (S' := (107, [(0, .ref on)], [.ref on], M43)) rfl rfl rfl ?_
        refine ps_st (S' := (108, [(0, .ref on)], [.ref on, .ref on], M43)) rfl rfl rfl ?_
        refine ps_st (S' := (109, [(0, .ref on)], [.ref on, .ref on, .ref on], M43)) rfl rfl rfl ?_
        refine ps_get (S' := (112, [(0, .ref on)], [.int (nI pc), .ref on, .ref on], M43)) rfl h44 rfl rfl ?_
        refine ps_st (S' := (113, [(0, .ref on)], [.int 2, .int (nI pc), .ref on, .ref on], M43)) rfl rfl rfl ?_
        refine ps_st (S' := (114, [(0, .ref on)], [.int ((nI pc) + 2), .ref on, .ref on], M43)) rfl rfl rfl ?_
        rw [nI_add1 (p := pc) (k := 2) (x := 2) rfl (by omega)]
        show pl _ _ _ (_, [(0, .ref on)], [.int (nI (pc + 2)), .ref on, .ref on], M43) _
        refine pl_call (a := [.ref on, .int (nI (pc + 2))]) (rest := [.ref on]) rfl rfl rfl (dk_iu2 (f := f) (n := n) (on := on) (b := b) (da := da) (cb := cb) (L := L) (y3 := (nI (by1 f (cb + (pc + 1))))) (y4 := 6) (y5 := 0) (y6 := ((nI (by2 f (cb + (pc + 4)))).toInt16.toInt32)) (y7 := 0) (y8 := 0) (y9 := (nI pc)) (y10 := y10) (y11 := y11) (a := (pc + 2)) h44 h47 h48 (hn) (by omega)) (fun v50 M51 q52 => ?_)
        obtain ⟨rfl, rfl⟩ := q52
        show pl _ _ _ (117, [(0, .ref on)], [.int (nI (by2 f (cb + (pc + 2)))), .ref on], M43) _
        have hb_114 := by2_lt f (cb + (pc + 2))
        refine pl_call (a := [.ref on, .int (nI (by2 f (cb + (pc + 2))))]) (rest := []) rfl rfl rfl (dk_isLocalTaken (on := on) (b := b) (cb := cb) (L := L) (y4 := 6) (y5 := 0) (y6 := ((nI (by2 f (cb + (pc + 4)))).toInt16.toInt32)) (y7 := 0) (y8 := 0) (y9 := (nI pc)) (y10 := y10) (y11 := y11) (o := (by1 f (cb + (pc + 1)))) (vv := (nI (by2 f (cb + (pc + 2))))) h44 (by omega)) (fun v53 M54 q55 => ?_)
        obtain ⟨rfl, h56, f57⟩ := q55
        have h59 := (f57.1 b (nin1 (ob_ne h47 h44 (by decide)))).trans h47
        have h60 := (f57.1 da (nin1 (Ne.symm (ob_ar h44 h48)))).trans h48
        have hF61 := hF49.tr f57 (by simp)
        show pl _ _ _ (120, [(0, .ref on)], [.int 1], M54) _
        exact ps_ret rfl rfl (Or.inl ⟨((by1 f (cb + (pc + 1))), 6, (nI (by2 f (cb + (pc + 2)))), ((nI (by2 f (cb + (pc + 4)))).toInt16.toInt32)), by
            unfold wiS
            first | ((repeat first | rw [if_pos (by omega)] | rw [if_neg (by omega)]) <;> first | rfl | omega) | ((repeat' split) <;> first | rfl | (exfalso; omega) | omega), rfl, h56, hF61⟩)
  · have c_10 : ¬ (4 ≤ ((nI L) - (nI pc))) := of_decide_eq_false c_10
    have n_10 : ¬ (4 + pc ≤ L) := fun h8 => c_10 ((le_sub1 (e := L) (p := pc) (k := 4) (by omega) (by omega) (by omega)).mpr h8)
    refine ps_st (S' := (14, [(0, .ref on)], [.int 0], M)) rfl rfl rfl ?_
    exact ps_ret rfl rfl (Or.inr ⟨_, _, _, _, _, by
        unfold wiS
        first | ((repeat first | rw [if_pos (by omega)] | rw [if_neg (by omega)]) <;> first | rfl | omega) | ((repeat' split) <;> first | rfl | (exfalso; omega) | omega), rfl, h_on, hF⟩)
end
section

theorem n64_val (lo hi : Nat) : ((Int32.toInt64 (nI hi)) - (Int32.toInt64 (nI lo)) + 1).toInt = nuI lo hi := by
  have h1 := i32_bd (nI hi)
  have h2 := i32_bd (nI lo)
  have e1 := i2l_val (nI hi)
  have e2 := i2l_val (nI lo)
  unfold nuI
  rw [Int64.toInt_add, Int64.toInt_sub, e1, e2, show (1 : Int64).toInt = 1 from rfl]
  rw [Int.bmod_eq_of_le (n := (nI hi).toInt - (nI lo).toInt) (by omega) (by omega)]
  exact Int.bmod_eq_of_le (by omega) (by omega)
theorem m64_val {x : Int64} {y : Int} (h : x.toInt = y) (hb : -8589934592 ≤ y ∧ y ≤ 8589934592) : (x * 4).toInt = 4 * y := by
  rw [Int64.toInt_mul, h, show (4 : Int64).toInt = 4 from rfl, Int.bmod_eq_of_le (by omega) (by omega)]
  omega
theorem nuI_bd (lo hi : Nat) : -8589934592 ≤ nuI lo hi ∧ nuI lo hi ≤ 8589934592 := by
  have h1 := i32_bd (nI hi)
  have h2 := i32_bd (nI lo)
  unfold nuI
  omega
theorem le_nI31 {p n : Nat} (hp : p < 2147483648) (hn : n < 2147483648) : nI p ≤ nI n ↔ p ≤ n := by
  rw [Int32.le_iff_toInt_le, nI_val31 hp, nI_val31 hn]
  omega
theorem i2l_nI {k : Nat} (h : k < 1073741824) : (Int32.toInt64 (nI k)).toInt = k := by
  rw [i2l_val, nI_val h]
set_option maxHeartbeats 1000000 in
theorem dk_isTableTaken {g : xe_G} {M : mi_H} {f : Nat → Int32} {n on b da cb L : Nat} {y10 : Int32} {pc : Nat} (h_on : M.1 on = some (ob 5 [.ref b, .int (nI cb), .int (nI L), .int 170, .int 1, .int 0, .int 0, .int 0, .int 0, .int (nI pc), .int y10, .int (nI (pdN pc))])) (h_b : M.1 b = some (ob 1 [.ref da])) (h_da : M.1 da = some (ar .byte n f)) (hn : n ≤ 65540) (hcl : cb + L + 4 ≤ n) (hpl : pc < L) : pt (mT g) 97 [.ref on] M (fun v M' => (∃ (x : Nat × Int32 × Int32 × Nat), (tbS f cb L pc = some x) ∧ (x.2.2.2 < 131072 ∧ x.1 < 131072) ∧ v = some (.int 1) ∧ M'.1 on = some (ob 5 [.ref b, .int (nI cb), .int (nI L), .int 170, .int (nI x.1), .int x.2.1, .int x.2.2.1, .int 0, .int (nI x.2.2.2), .int (nI pc), .int y10, .int (nI (pdN pc))]) ∧ fm [on] M M') ∨ (∃ (z4 z5 z6 z8 : Int32), (tbS f cb L pc = none) ∧ v = some (.int 0) ∧ M'.1 on = some (ob 5 [.ref b, .int (nI cb), .int (nI L), .int 170, .int z4, .int z5, .int z6, .int 0, .int z8, .int (nI pc), .int y10, .int (nI (pdN pc))]) ∧ fm [on] M M')) := by
  refine pt_in (b := mb_97 g) rfl (fun kf => ?_)
  show pl (mT g) kf (mb_97 g).2 (0, [(0, .ref on)], [], M) _
  have hF : fm [on] M M := fm.rf
  have hpd := pd_le pc
  refine ps_st (S' := (1, [(0, .ref on)], [.ref on], M)) rfl rfl rfl ?_
  refine ps_get (S' := (4, [(0, .ref on)], [.int (nI L)], M)) rfl h_on rfl rfl ?_
  refine ps_st (S' := (5, [(0, .ref on)], [.ref on, .int (nI L)], M)) rfl rfl rfl ?_
  refine ps_get (S' := (8, [(0, .ref on)], [.int (nI (pdN pc)), .int (nI L)], M)) rfl h_on rfl rfl ?_
  refine ps_st (S' := (9, [(0, .ref on)], [.int ((nI L) - (nI (pdN pc)))], M)) rfl rfl rfl ?_
  refine ps_st (S' := (11, [(0, .ref on)], [.int 12, .int ((nI L) - (nI (pdN pc)))], M)) rfl rfl rfl ?_
  refine ps_if2 (S1 := (16, [(0, .ref on)], [], M)) (S2 := (14, [(0, .ref on)], [], M)) rfl rfl rfl (fun c_11 => ?_) (fun c_11 => ?_)
  · have c_11 : 12 ≤ ((nI L) - (nI (pdN pc))) := of_decide_eq_true c_11
    have n_11 : 12 + (pdN pc) ≤ L := (le_sub1 (e := L) (p := pdN pc) (k := 12) (by omega) (by omega) (by omega)).mp c_11
    refine ps_st (S' := (17, [(0, .ref on)], [.ref on], M)) rfl rfl rfl ?_
    refine ps_st (S' := (18, [(0, .ref on)], [.ref on, .ref on], M)) rfl rfl rfl ?_
    refine ps_st (S' := (19, [(0, .ref on)], [.ref on, .ref on, .ref on], M)) rfl rfl rfl ?_
    refine ps_get (S' := (22, [(0, .ref on)], [.int (nI (pdN pc)), .ref on, .ref on], M)) rfl h_on rfl rfl ?_
    refine ps_st (S' := (23, [(0, .ref on)], [.int 4, .int (nI (pdN pc)), .ref on, .ref on], M)) rfl rfl rfl ?_
    refine ps_st (S' := (24, [(0, .ref on)], [.int ((nI (pdN pc)) + 4), .ref on, .ref on], M)) rfl rfl rfl ?_
    rw [nI_add1 (p := pdN pc) (k := 4) (x := 4) rfl (by omega)]
    show pl _ _ _ (_, [(0, .ref on)], [.int (nI (pdN pc + 4)), .ref on, .ref on], M) _
    refine pl_call (a := [.ref on, .int (nI (pdN pc + 4))]) (rest := [.ref on]) rfl rfl rfl (dk_is4 (f := f) (n := n) (on := on) (b := b) (da := da) (cb := cb) (L := L) (y3 := 170) (y4 := 1) (y5 := 0) (y6 := 0) (y7 := 0) (y8 := 0) (y9 := (nI pc)) (y10 := y10) (y11 := (nI (pdN pc))) (a := (pdN pc + 4)) h_on h_b h_da (hn) (by omega)) (fun v1 M2 q3 => ?_)
    obtain ⟨rfl, rfl⟩ := q3
    show pl _ _ _ (27, [(0, .ref on)], [.int (nI (by4 f (cb + (pdN pc + 4)))), .ref on], M) _
    have hb_24 := by4_lt f (cb + (pdN pc + 4))
    refine ps_put (l' := [.ref b, .int (nI cb), .int (nI L), .int 170, .int 1, .int (nI (by4 f (cb + (pdN pc + 4)))), .int 0, .int 0, .int 0, .int (nI pc), .int y10, .int (nI (pdN pc))]) rfl h_on rfl rfl (fun M4 h5 f6 z7 => ?_)
    have h8 := (f6 b (ob_ne h_b h_on (by decide))).trans h_b
    have h9 := (f6 da (Ne.symm (ob_ar h_on h_da))).trans h_da
    have hF10 := hF.up (by simp) f6 z7
    show pl _ _ _ (30, [(0, .ref on)], [], M4) _
    refine ps_st (S' := (31, [(0, .ref on)], [.ref on], M4)) rfl rfl rfl ?_
    refine ps_st (S' := (32, [(0, .ref on)], [.ref on, .ref on], M4)) rfl rfl rfl ?_
    refine ps_st (S' := (33, [(0, .ref on)], [.ref on, .ref on, .ref on], M4)) rfl rfl rfl ?_
    refine ps_get (S' := (36, [(0, .ref on)], [.int (nI (pdN pc)), .ref on, .ref on], M4)) rfl h5 rfl rfl ?_
    refine ps_st (S' := (38, [(0, .ref on)], [.int 8, .int (nI (pdN pc)), .ref on, .ref on], M4)) rfl rfl rfl ?_
    refine ps_st (S' := (39, [(0, .ref on)], [.int ((nI (pdN pc)) + 8), .ref on, .ref on], M4)) rfl rfl rfl ?_
    rw [nI_add1 (p := pdN pc) (k := 8) (x := 8) rfl (by omega)]
    show pl _ _ _ (_, [(0, .ref on)], [.int (nI (pdN pc + 8)), .ref on, .ref on], M4) _
    refine pl_call (a := [.ref on, .int (nI (pdN pc + 8))]) (rest := [.ref on]) rfl rfl rfl (dk_is4 (f := f) (n := n) (on := on) (b := b) (da := da) (cb := cb) (L := L) (y3 := 170) (y4 := 1) (y5 := (nI (by4 f (cb + (pdN pc + 4))))) (y6 := 0) (y7 := 0) (y8 := 0) (y9 := (nI pc)) (y10 := y10) (y11 := (nI (pdN pc))) (a := (pdN pc + 8)) h5 h8 h9 (hn) (by omega)) (fun v11 M12 q13 => ?_)
    obtain ⟨rfl, rfl⟩ := q13
    show pl _ _ _ (42, [(0, .ref on)], [.int (nI (by4 f (cb + (pdN pc + 8)))), .ref on], M4) _
    have hb_39 := by4_lt f (cb + (pdN pc + 8))
    refine ps_put (l' := [.ref b, .int (nI cb), .int (nI L), .int 170, .int 1, .int (nI (by4 f (cb + (pdN pc + 4)))), .int (nI (by4 f (cb + (pdN pc + 8)))), .int 0, .int 0, .int (nI pc), .int y10, .int (nI (pdN pc))]) rfl h5 rfl rfl (fun M14 h15 f16 z17 => ?_)
    have h18 := (f16 b (ob_ne h8 h5 (by decide))).trans h8
    have h19 := (f16 da (Ne.symm (ob_ar h5 h9))).trans h9
    have hF20 := hF10.up (by simp) f16 z17
    show pl _ _ _ (45, [(0, .ref on)], [], M14) _
    refine ps_st (S' := (46, [(0, .ref on)], [.ref on], M14)) rfl rfl rfl ?_
    refine ps_get (S' := (49, [(0, .ref on)], [.int (nI (by4 f (cb + (pdN pc + 8))))], M14)) rfl h15 rfl rfl ?_
    refine ps_st (S' := (50, [(0, .ref on)], [.long (Int32.toInt64 (nI (by4 f (cb + (pdN pc + 8)))))], M14)) rfl rfl rfl ?_
    refine ps_st (S' := (51, [(0, .ref on)], [.ref on, .long (Int32.toInt64 (nI (by4 f (cb + (pdN pc + 8)))))], M14)) rfl rfl rfl ?_
    refine ps_get (S' := (54, [(0, .ref on)], [.int (nI (by4 f (cb + (pdN pc + 4)))), .long (Int32.toInt64 (nI (by4 f (cb + (pdN pc + 8)))))], M14)) rfl h15 rfl rfl ?_
    refine ps_st (S' := (55, [(0, .ref on)], [.long (Int32.toInt64 (nI (by4 f (cb + (pdN pc + 4))))), .long (Int32.toInt64 (nI (by4 f (cb + (pdN pc + 8)))))], M14)) rfl rfl rfl ?_
    refine ps_st (S' := (56, [(0, .ref on)], [.long ((Int32.toInt64 (nI (by4 f (cb + (pdN pc + 8))))) - (Int32.toInt64 (nI (by4 f (cb + (pdN pc + 4))))))], M14)) rfl rfl rfl ?_
    refine ps_st (S' := (57, [(0, .ref on)], [.long 1, .long ((Int32.toInt64 (nI (by4 f (cb + (pdN pc + 8))))) - (Int32.toInt64 (nI (by4 f (cb + (pdN pc + 4))))))], M14)) rfl rfl rfl ?_
    refine ps_st (S' := (58, [(0, .ref on)], [.long (((Int32.toInt64 (nI (by4 f (cb + (pdN pc + 8))))) - (Int32.toInt64 (nI (by4 f (cb + (pdN pc + 4)))))) + 1)], M14)) rfl rfl rfl ?_
    refine ps_st (S' := (59, [(1, .long (((Int32.toInt64 (nI (by4 f (cb + (pdN pc + 8))))) - (Int32.toInt64 (nI (by4 f (cb + (pdN pc + 4)))))) + 1)), (0, .ref on)], [], M14)) rfl rfl rfl ?_
    obtain ⟨n64, hn64⟩ : ∃ n64 : Int64, n64 = (((Int32.toInt64 (nI (by4 f (cb + (pdN pc + 8))))) - (Int32.toInt64 (nI (by4 f (cb + (pdN pc + 4)))))) + 1) := ⟨_, rfl⟩
    have hv64 : n64.toInt = nuI (by4 f (cb + (pdN pc + 4))) (by4 f (cb + (pdN pc + 8))) := by rw [hn64]; exact n64_val _ _
    rw [← hn64]
    show pl _ _ _ (59, [(1, .long n64), (0, .ref on)], [], M14) _
    refine ps_st (S' := (60, [(1, .long n64), (0, .ref on)], [.long n64], M14)) rfl rfl rfl ?_
    refine ps_st (S' := (61, [(1, .long n64), (0, .ref on)], [.long 1, .long n64], M14)) rfl rfl rfl ?_
    refine ps_st (S' := (62, [(1, .long n64), (0, .ref on)], [.int (lg_cmp n64 1)], M14)) rfl rfl rfl ?_
    refine ps_if (S1 := (87, [], [], M14)) (S2 := (65, [(1, .long n64), (0, .ref on)], [], M14)) rfl rfl rfl (fun c_62 => ?_) (fun c_62 => ?_)
    · have c_62 : (lg_cmp n64 1) < 0 := of_decide_eq_true c_62
      have hbad : nuI (by4 f (cb + (pdN pc + 4))) (by4 f (cb + (pdN pc + 8))) < 1 ∨ ((L - pdN pc - 12 : Nat) : Int) < 4 * nuI (by4 f (cb + (pdN pc + 4))) (by4 f (cb + (pdN pc + 8))) := Or.inl (by have h9 := lgc_lt.mp c_62; rw [hv64] at h9; exact h9)
      refine ps_st (S' := (88, [], [.int 0], M14)) rfl rfl rfl ?_
      exact ps_ret rfl rfl (Or.inr ⟨_, _, _, _, by
          unfold tbS
          rw [if_neg (by omega), if_pos hbad], rfl, h15, hF20⟩)
    · have c_62 : ¬ ((lg_cmp n64 1) < 0) := of_decide_eq_false c_62
      refine ps_st (S' := (66, [(1, .long n64), (0, .ref on)], [.long n64], M14)) rfl rfl rfl ?_
      refine ps_st (S' := (69, [(1, .long n64), (0, .ref on)], [.long 4, .long n64], M14)) rfl rfl rfl ?_
      refine ps_st (S' := (70, [(1, .long n64), (0, .ref on)], [.long (n64 * 4)], M14)) rfl rfl rfl ?_
      refine ps_st (S' := (71, [(1, .long n64), (0, .ref on)], [.ref on, .long (n64 * 4)], M14)) rfl rfl rfl ?_
      refine ps_get (S' := (74, [(1, .long n64), (0, .ref on)], [.int (nI L), .long (n64 * 4)], M14)) rfl h15 rfl rfl ?_
      refine ps_st (S' := (75, [(1, .long n64), (0, .ref on)], [.ref on, .int (nI L), .long (n64 * 4)], M14)) rfl rfl rfl ?_
      refine ps_get (S' := (78, [(1, .long n64), (0, .ref on)], [.int (nI (pdN pc)), .int (nI L), .long (n64 * 4)], M14)) rfl h15 rfl rfl ?_
      refine ps_st (S' := (79, [(1, .long n64), (0, .ref on)], [.int ((nI L) - (nI (pdN pc))), .long (n64 * 4)], M14)) rfl rfl rfl ?_
      rw [nI_sub1 (p := L) (k := pdN pc) (x := (nI (pdN pc))) rfl (by omega) (by omega)]
      show pl _ _ _ (_, [(1, .long n64), (0, .ref on)], [.int (nI (L - (pdN pc))), .long (n64 * 4)], M14) _
      refine ps_st (S' := (81, [(1, .long n64), (0, .ref on)], [.int 12, .int (nI (L - (pdN pc))), .long (n64 * 4)], M14)) rfl rfl rfl ?_
      refine ps_st (S' := (82, [(1, .long n64), (0, .ref on)], [.int ((nI (L - (pdN pc))) - 12), .long (n64 * 4)], M14)) rfl rfl rfl ?_
      rw [nI_sub1 (p := L - (pdN pc)) (k := 12) (x := 12) rfl (by omega) (by omega)]
      show pl _ _ _ (_, [(1, .long n64), (0, .ref on)], [.int (nI ((L - (pdN pc)) - 12)), .long (n64 * 4)], M14) _
      refine ps_st (S' := (83, [(1, .long n64), (0, .ref on)], [.long (Int32.toInt64 (nI ((L - (pdN pc)) - 12))), .long (n64 * 4)], M14)) rfl rfl rfl ?_
      refine ps_st (S' := (84, [(1, .long n64), (0, .ref on)], [.int (lg_cmp (n64 * 4) (Int32.toInt64 (nI ((L - (pdN pc)) - 12))))], M14)) rfl rfl rfl ?_
      refine ps_if (S1 := (89, [(1, .long n64), (0, .ref on)], [], M14)) (S2 := (87, [], [], M14)) rfl rfl rfl (fun c_84 => ?_) (fun c_84 => ?_)
      · have c_84 : (lg_cmp (n64 * 4) (Int32.toInt64 (nI ((L - (pdN pc)) - 12)))) ≤ 0 := of_decide_eq_true c_84
        have h62 : ¬ nuI (by4 f (cb + (pdN pc + 4))) (by4 f (cb + (pdN pc + 8))) < 1 := fun h9 => c_62 (lgc_lt.mpr (by rw [hv64]; exact h9))
        have h84 : 4 * nuI (by4 f (cb + (pdN pc + 4))) (by4 f (cb + (pdN pc + 8))) ≤ ((L - pdN pc - 12 : Nat) : Int) := by have h9 := lgc_le.mp c_84; rw [m64_val hv64 (nuI_bd _ _), i2l_nI (by omega)] at h9; exact h9
        obtain ⟨nu, hnu⟩ : ∃ nu : Nat, (nu : Int) = nuI (by4 f (cb + (pdN pc + 4))) (by4 f (cb + (pdN pc + 8))) := ⟨(nuI (by4 f (cb + (pdN pc + 4))) (by4 f (cb + (pdN pc + 8)))).toNat, by omega⟩
        have hnu2 : nu = (nuI (by4 f (cb + (pdN pc + 4))) (by4 f (cb + (pdN pc + 8)))).toNat := by omega
        have e64 : n64 = nL nu := Int64.toInt_inj.mp (by rw [hv64, nL_val (by omega)]; exact hnu.symm)
        rw [e64]
        show pl _ _ _ (89, [(1, .long (nL nu)), (0, .ref on)], [], M14) _
        refine ps_st (S' := (90, [(1, .long (nL nu)), (0, .ref on)], [.ref on], M14)) rfl rfl rfl ?_
        refine ps_st (S' := (91, [(1, .long (nL nu)), (0, .ref on)], [.long (nL nu), .ref on], M14)) rfl rfl rfl ?_
        refine ps_st (S' := (92, [(1, .long (nL nu)), (0, .ref on)], [.int (Int64.toInt32 (nL nu)), .ref on], M14)) rfl rfl rfl ?_
        rw [l2i_nL (p := nu) (by omega)]
        show pl _ _ _ (_, [(1, .long (nL nu)), (0, .ref on)], [.int (nI nu), .ref on], M14) _
        refine ps_st (S' := (93, [(1, .long (nL nu)), (0, .ref on)], [.int 1, .int (nI nu), .ref on], M14)) rfl rfl rfl ?_
        refine ps_st (S' := (94, [(1, .long (nL nu)), (0, .ref on)], [.int ((nI nu) + 1), .ref on], M14)) rfl rfl rfl ?_
        rw [nI_add1 (p := nu) (k := 1) (x := 1) rfl (by omega)]
        show pl _ _ _ (_, [(1, .long (nL nu)), (0, .ref on)], [.int (nI (nu + 1)), .ref on], M14) _
        refine ps_put (l' := [.ref b, .int (nI cb), .int (nI L), .int 170, .int 1, .int (nI (by4 f (cb + (pdN pc + 4)))), .int (nI (by4 f (cb + (pdN pc + 8)))), .int 0, .int (nI (nu + 1)), .int (nI pc), .int y10, .int (nI (pdN pc))]) rfl h15 rfl rfl (fun M21 h22 f23 z24 => ?_)
        have h25 := (f23 b (ob_ne h18 h15 (by decide))).trans h18
        have h26 := (f23 da (Ne.symm (ob_ar h15 h19))).trans h19
        have hF27 := hF20.up (by simp) f23 z24
        show pl _ _ _ (97, [(1, .long (nL nu)), (0, .ref on)], [], M21) _
        refine ps_st (S' := (98, [(1, .long (nL nu)), (0, .ref on)], [.ref on], M21)) rfl rfl rfl ?_
        refine ps_st (S' := (99, [(1, .long (nL nu)), (0, .ref on)], [.ref on, .ref on], M21)) rfl rfl rfl ?_
        refine ps_get (S' := (102, [(1, .long (nL nu)), (0, .ref on)], [.int (nI (pdN pc)), .ref on], M21)) rfl h22 rfl rfl ?_
        refine ps_st (S' := (104, [(1, .long (nL nu)), (0, .ref on)], [.int 12, .int (nI (pdN pc)), .ref on], M21)) rfl rfl rfl ?_
        refine ps_st (S' := (105, [(1, .long (nL nu)), (0, .ref on)], [.int ((nI (pdN pc)) + 12), .ref on], M21)) rfl rfl rfl ?_
        rw [nI_add1 (p := pdN pc) (k := 12) (x := 12) rfl (by omega)]
        show pl _ _ _ (_, [(1, .long (nL nu)), (0, .ref on)], [.int (nI (pdN pc + 12)), .ref on], M21) _
        refine ps_st (S' := (106, [(1, .long (nL nu)), (0, .ref on)], [.int 4, .int (nI (pdN pc + 12)), .ref on], M21)) rfl rfl rfl ?_
        refine ps_st (S' := (107, [(1, .long (nL nu)), (0, .ref on)], [.long (nL nu), .int 4, .int (nI (pdN pc + 12)), .ref on], M21)) rfl rfl rfl ?_
        refine ps_st (S' := (108, [(1, .long (nL nu)), (0, .ref on)], [.int (Int64.toInt32 (nL nu)), .int 4, .int (nI (pdN pc + 12)), .ref on], M21)) rfl rfl rfl ?_
        rw [l2i_nL (p := nu) (by omega)]
        show pl _ _ _ (_, [(1, .long (nL nu)), (0, .ref on)], [.int (nI nu), .int 4, .int (nI (pdN pc + 12)), .ref on], M21) _
        refine ps_st (S' := (109, [(1, .long (nL nu)), (0, .ref on)], [.int (4 * (nI nu)), .int (nI (pdN pc + 12)), .ref on], M21)) rfl rfl rfl ?_
        rw [nI_mul1 (p := 4) (k := nu) (x := 4) (y := (nI nu)) rfl rfl (by omega)]
        show pl _ _ _ (_, [(1, .long (nL nu)), (0, .ref on)], [.int (nI (4 * nu)), .int (nI (pdN pc + 12)), .ref on], M21) _
        refine ps_st (S' := (110, [(1, .long (nL nu)), (0, .ref on)], [.int ((nI (pdN pc + 12)) + (nI (4 * nu))), .ref on], M21)) rfl rfl rfl ?_
        rw [nI_add1 (p := pdN pc + 12) (k := 4 * nu) (x := (nI (4 * nu))) rfl (by omega)]
        show pl _ _ _ (_, [(1, .long (nL nu)), (0, .ref on)], [.int (nI (pdN pc + 12 + 4 * nu)), .ref on], M21) _
        refine ps_st (S' := (111, [(1, .long (nL nu)), (0, .ref on)], [.ref on, .int (nI (pdN pc + 12 + 4 * nu)), .ref on], M21)) rfl rfl rfl ?_
        refine ps_get (S' := (114, [(1, .long (nL nu)), (0, .ref on)], [.int (nI pc), .int (nI (pdN pc + 12 + 4 * nu)), .ref on], M21)) rfl h22 rfl rfl ?_
        refine ps_st (S' := (115, [(1, .long (nL nu)), (0, .ref on)], [.int ((nI (pdN pc + 12 + 4 * nu)) - (nI pc)), .ref on], M21)) rfl rfl rfl ?_
        rw [nI_sub1 (p := pdN pc + 12 + 4 * nu) (k := pc) (x := (nI pc)) rfl (by omega) (by omega)]
        show pl _ _ _ (_, [(1, .long (nL nu)), (0, .ref on)], [.int (nI ((pdN pc + 12 + 4 * nu) - pc)), .ref on], M21) _
        refine ps_put (l' := [.ref b, .int (nI cb), .int (nI L), .int 170, .int (nI ((pdN pc + 12 + 4 * nu) - pc)), .int (nI (by4 f (cb + (pdN pc + 4)))), .int (nI (by4 f (cb + (pdN pc + 8)))), .int 0, .int (nI (nu + 1)), .int (nI pc), .int y10, .int (nI (pdN pc))]) rfl h22 rfl rfl (fun M28 h29 f30 z31 => ?_)
        have h32 := (f30 b (ob_ne h25 h22 (by decide))).trans h25
        have h33 := (f30 da (Ne.symm (ob_ar h22 h26))).trans h26
        have hF34 := hF27.up (by simp) f30 z31
        show pl _ _ _ (118, [(1, .long (nL nu)), (0, .ref on)], [], M28) _
        refine ps_st (S' := (119, [(1, .long (nL nu)), (0, .ref on)], [.int 1], M28)) rfl rfl rfl ?_
        exact ps_ret rfl rfl (Or.inl ⟨((pdN pc + 12 + 4 * nu) - pc, (nI (by4 f (cb + (pdN pc + 4)))), (nI (by4 f (cb + (pdN pc + 8)))), nu + 1), by
            unfold tbS
            rw [if_neg (by omega), if_neg (by omega), ← hnu2], ⟨by show nu + 1 < 131072; omega, by show (pdN pc + 12 + 4 * nu) - pc < 131072; omega⟩, rfl, h29, hF34⟩)
      · have c_84 : ¬ ((lg_cmp (n64 * 4) (Int32.toInt64 (nI ((L - (pdN pc)) - 12)))) ≤ 0) := of_decide_eq_false c_84
        have h62 : ¬ nuI (by4 f (cb + (pdN pc + 4))) (by4 f (cb + (pdN pc + 8))) < 1 := fun h9 => c_62 (lgc_lt.mpr (by rw [hv64]; exact h9))
        have hbad : nuI (by4 f (cb + (pdN pc + 4))) (by4 f (cb + (pdN pc + 8))) < 1 ∨ ((L - pdN pc - 12 : Nat) : Int) < 4 * nuI (by4 f (cb + (pdN pc + 4))) (by4 f (cb + (pdN pc + 8))) := Or.inr (Int.not_le.mp (fun h8 => c_84 (lgc_le.mpr (by rw [m64_val hv64 (nuI_bd _ _), i2l_nI (by omega)]; exact h8))))
        refine ps_st (S' := (88, [], [.int 0], M14)) rfl rfl rfl ?_
        exact ps_ret rfl rfl (Or.inr ⟨_, _, _, _, by
            unfold tbS
            rw [if_neg (by omega), if_pos hbad], rfl, h15, hF20⟩)
  · have c_11 : ¬ (12 ≤ ((nI L) - (nI (pdN pc)))) := of_decide_eq_false c_11
    have n_11 : ¬ (12 + (pdN pc) ≤ L) := fun h8 => c_11 ((le_sub1 (e := L) (p := pdN pc) (k := 12) (by omega) (by omega) (by omega)).mpr h8)
    refine ps_st (S' := (15, [(0, .ref on)], [.int 0], M)) rfl rfl rfl ?_
    exact ps_ret rfl rfl (Or.inr ⟨_, _, _, _, by
        unfold tbS
        rw [if_pos (by omega)], rfl, h_on, hF⟩)
set_option maxHeartbeats 1000000 in
theorem dk_keyOfL {g : xe_G} {M : mi_H} {f : Nat → Int32} {n on b da cb L : Nat} {y4 y5 y6 y7 y8 y9 y10 : Int32} {sw i : Nat} (h_on : M.1 on = some (ob 5 [.ref b, .int (nI cb), .int (nI L), .int 171, .int y4, .int y5, .int y6, .int y7, .int y8, .int y9, .int y10, .int (nI sw)])) (h_b : M.1 b = some (ob 1 [.ref da])) (h_da : M.1 da = some (ar .byte n f)) (hn : n ≤ 65540) (hi : 1 ≤ i ∧ i < 65536) (hsw : sw < 65540) (hin : cb + (sw + 8 * i) + 4 ≤ n) : pt (mT g) 100 [.ref on, .int (nI i)] M (fun v M' => (v = some (.int (nI (by4 f (cb + (sw + 8 * i))))) ∧ M = M')) := by
  refine pt_in (b := mb_100 g) rfl (fun kf => ?_)
  show pl (mT g) kf (mb_100 g).2 (0, [(0, .ref on), (1, .int (nI i))], [], M) _
  refine ps_st (S' := (1, [(0, .ref on), (1, .int (nI i))], [.int (nI i)], M)) rfl rfl rfl ?_
  refine ps_if (S1 := (6, [(0, .ref on), (1, .int (nI i))], [], M)) (S2 := (4, [(0, .ref on), (1, .int (nI i))], [], M)) rfl rfl rfl (fun c_1 => ?_) (fun c_1 => ?_)
  rotate_left
  · exact absurd (show ¬ ((nI i) = 0) from fun h9 => absurd ((eq_nI (p := i) (n := 0) (by omega) (by decide)).mp h9) (by omega)) (of_decide_eq_false c_1)
  refine ps_st (S' := (7, [(0, .ref on), (1, .int (nI i))], [.ref on], M)) rfl rfl rfl ?_
  refine ps_get (S' := (10, [(0, .ref on), (1, .int (nI i))], [.int 171], M)) rfl h_on rfl rfl ?_
  refine ps_st (S' := (13, [(0, .ref on), (1, .int (nI i))], [.int 170, .int 171], M)) rfl rfl rfl ?_
  refine ps_if2 (S1 := (27, [(0, .ref on), (1, .int (nI i))], [], M)) (S2 := (16, [(0, .ref on), (1, .int (nI i))], [], M)) rfl rfl rfl (fun c_13 => ?_) (fun c_13 => ?_)
  rotate_left
  · exact absurd (by decide) (of_decide_eq_false c_13)
  refine ps_st (S' := (28, [(0, .ref on), (1, .int (nI i))], [.ref on], M)) rfl rfl rfl ?_
  refine ps_st (S' := (29, [(0, .ref on), (1, .int (nI i))], [.ref on, .ref on], M)) rfl rfl rfl ?_
  refine ps_get (S' := (32, [(0, .ref on), (1, .int (nI i))], [.int (nI sw), .ref on], M)) rfl h_on rfl rfl ?_
  refine ps_st (S' := (34, [(0, .ref on), (1, .int (nI i))], [.int 8, .int (nI sw), .ref on], M)) rfl rfl rfl ?_
  refine ps_st (S' := (35, [(0, .ref on), (1, .int (nI i))], [.int (nI i), .int 8, .int (nI sw), .ref on], M)) rfl rfl rfl ?_
  refine ps_st (S' := (36, [(0, .ref on), (1, .int (nI i))], [.int (8 * (nI i)), .int (nI sw), .ref on], M)) rfl rfl rfl ?_
  rw [nI_mul1 (p := 8) (k := i) (x := 8) (y := (nI i)) rfl rfl (by omega)]
  show pl _ _ _ (_, [(0, .ref on), (1, .int (nI i))], [.int (nI (8 * i)), .int (nI sw), .ref on], M) _
  refine ps_st (S' := (37, [(0, .ref on), (1, .int (nI i))], [.int ((nI sw) + (nI (8 * i))), .ref on], M)) rfl rfl rfl ?_
  rw [nI_add1 (p := sw) (k := 8 * i) (x := (nI (8 * i))) rfl (by omega)]
  show pl _ _ _ (_, [(0, .ref on), (1, .int (nI i))], [.int (nI (sw + 8 * i)), .ref on], M) _
  refine pl_call (a := [.ref on, .int (nI (sw + 8 * i))]) (rest := []) rfl rfl rfl (dk_is4 (f := f) (n := n) (on := on) (b := b) (da := da) (cb := cb) (L := L) (y3 := 171) (y4 := y4) (y5 := y5) (y6 := y6) (y7 := y7) (y8 := y8) (y9 := y9) (y10 := y10) (y11 := (nI sw)) (a := (sw + 8 * i)) h_on h_b h_da (hn) (by omega)) (fun v1 M2 q3 => ?_)
  obtain ⟨rfl, rfl⟩ := q3
  show pl _ _ _ (40, [], [.int (nI (by4 f (cb + (sw + 8 * i))))], M) _
  have hb_37 := by4_lt f (cb + (sw + 8 * i))
  exact ps_reti rfl (⟨rfl, rfl⟩)
set_option maxHeartbeats 1000000 in
theorem dk_isLookupTaken {g : xe_G} {M : mi_H} {f : Nat → Int32} {n on b da cb L : Nat} {y10 : Int32} {pc : Nat} (h_on : M.1 on = some (ob 5 [.ref b, .int (nI cb), .int (nI L), .int 171, .int 1, .int 0, .int 0, .int 0, .int 0, .int (nI pc), .int y10, .int (nI (pdN pc))])) (h_b : M.1 b = some (ob 1 [.ref da])) (h_da : M.1 da = some (ar .byte n f)) (hn : n ≤ 65540) (hcl : cb + L + 4 ≤ n) (hpl : pc < L) : pt (mT g) 93 [.ref on] M (fun v M' => (∃ (x : Nat × Int32 × Int32 × Nat), (lkS f cb L pc = some x) ∧ (x.2.2.2 < 131072 ∧ x.1 < 131072) ∧ v = some (.int 1) ∧ M'.1 on = some (ob 5 [.ref b, .int (nI cb), .int (nI L), .int 171, .int (nI x.1), .int x.2.1, .int x.2.2.1, .int 0, .int (nI x.2.2.2), .int (nI pc), .int y10, .int (nI (pdN pc))]) ∧ fm [on] M M') ∨ (∃ (z4 z5 z6 z8 : Int32), (lkS f cb L pc = none) ∧ v = some (.int 0) ∧ M'.1 on = some (ob 5 [.ref b, .int (nI cb), .int (nI L), .int 171, .int z4, .int z5, .int z6, .int 0, .int z8, .int (nI pc), .int y10, .int (nI (pdN pc))]) ∧ fm [on] M M')) := by
  refine pt_in (b := mb_93 g) rfl (fun kf => ?_)
  show pl (mT g) kf (mb_93 g).2 (0, [(0, .ref on)], [], M) _
  have hF : fm [on] M M := fm.rf
  have hpd := pd_le pc
  have LL : ∀ (kf : Nat), (∀ (i np : Nat) (M1 : mi_H), (M1.1 on = some (ob 5 [.ref b, .int (nI cb), .int (nI L), .int 171, .int (nI (pdN pc + 8 + 8 * np - pc)), .int (nI np), .int 0, .int 0, .int (nI (np + 1)), .int (nI pc), .int y10, .int (nI (pdN pc))])) → (M1.1 b = some (ob 1 [.ref da])) → (M1.1 da = some (ar .byte n f)) → (fm [on] M M1) → (np = by4 f (cb + (pdN pc + 4))) → (2 ≤ i ∧ (i ≤ np + 1 ∨ i = 2)) → (pdN pc + 8 + 8 * np ≤ L) → (keA f cb (pdN pc) (np + 1 - i) i = keA f cb (pdN pc) (np - 1) 2) →  pl (mT g) kf (mb_93 g).2 (97, [(0, .ref on), (1, .int (nI i))], [], M1) (fun v M' => (∃ (x : Nat × Int32 × Int32 × Nat), (lkS f cb L pc = some x) ∧ (x.2.2.2 < 131072 ∧ x.1 < 131072) ∧ v = some (.int 1) ∧ M'.1 on = some (ob 5 [.ref b, .int (nI cb), .int (nI L), .int 171, .int (nI x.1), .int x.2.1, .int x.2.2.1, .int 0, .int (nI x.2.2.2), .int (nI pc), .int y10, .int (nI (pdN pc))]) ∧ fm [on] M M') ∨ (∃ (z4 z5 z6 z8 : Int32), (lkS f cb L pc = none) ∧ v = some (.int 0) ∧ M'.1 on = some (ob 5 [.ref b, .int (nI cb), .int (nI L), .int 171, .int z4, .int z5, .int z6, .int 0, .int z8, .int (nI pc), .int y10, .int (nI (pdN pc))]) ∧ fm [on] M M'))) := by
    intro kf
    induction kf with
    | zero => exact (by intros; exact pl_0)
    | succ kf ih =>
      intro i np M1 hl_on hl_b hl_da hF1 hnp hi hle hk
      refine ps_st1 (S' := (98, [(0, .ref on), (1, .int (nI i))], [.int (nI i)], M1)) rfl rfl rfl ?_
      refine ps_st (S' := (99, [(0, .ref on), (1, .int (nI i))], [.ref on, .int (nI i)], M1)) rfl rfl rfl ?_
      refine ps_get (S' := (102, [(0, .ref on), (1, .int (nI i))], [.int (nI (np + 1)), .int (nI i)], M1)) rfl hl_on rfl rfl ?_
      refine ps_if2 (S1 := (128, [(0, .ref on), (1, .int (nI i))], [], M1)) (S2 := (105, [(0, .ref on), (1, .int (nI i))], [], M1)) rfl rfl rfl (fun c_102 => ?_) (fun c_102 => ?_)
      · have c_102 : (nI (np + 1)) ≤ (nI i) := of_decide_eq_true c_102
        have n_102 : np + 1 ≤ i := (le_nI (p := np + 1) (n := i) (by omega) (by omega)).mp c_102
        refine ps_st (S' := (129, [(0, .ref on), (1, .int (nI i))], [.int 1], M1)) rfl rfl rfl ?_
        exact ps_ret rfl rfl (Or.inl ⟨(pdN pc + 8 + 8 * np - pc, nI np, 0, np + 1), by
            unfold lkS
            rw [← hnp, if_neg (by omega), if_neg (by omega), if_neg (by rw [← hk, show np + 1 - i = 0 by omega]; exact Nat.one_ne_zero)], ⟨by show np + 1 < 131072; omega, by show pdN pc + 8 + 8 * np - pc < 131072; omega⟩, rfl, hl_on, hF1⟩)
      · have c_102 : ¬ ((nI (np + 1)) ≤ (nI i)) := of_decide_eq_false c_102
        have n_102 : ¬ (np + 1 ≤ i) := fun h9 => c_102 ((le_nI (p := np + 1) (n := i) (by omega) (by omega)).mpr h9)
        refine ps_st (S' := (106, [(0, .ref on), (1, .int (nI i))], [.ref on], M1)) rfl rfl rfl ?_
        refine ps_st (S' := (107, [(0, .ref on), (1, .int (nI i))], [.int (nI i), .ref on], M1)) rfl rfl rfl ?_
        refine ps_st (S' := (108, [(0, .ref on), (1, .int (nI i))], [.int 1, .int (nI i), .ref on], M1)) rfl rfl rfl ?_
        refine ps_st (S' := (109, [(0, .ref on), (1, .int (nI i))], [.int ((nI i) - 1), .ref on], M1)) rfl rfl rfl ?_
        rw [nI_sub1 (p := i) (k := 1) (x := 1) rfl (by omega) (by omega)]
        show pl _ _ _ (_, [(0, .ref on), (1, .int (nI i))], [.int (nI (i - 1)), .ref on], M1) _
        refine pl_call (a := [.ref on, .int (nI (i - 1))]) (rest := []) rfl rfl rfl (dk_keyOfL (f := f) (n := n) (on := on) (b := b) (da := da) (cb := cb) (L := L) (y4 := (nI (pdN pc + 8 + 8 * np - pc))) (y5 := (nI np)) (y6 := 0) (y7 := 0) (y8 := (nI (np + 1))) (y9 := (nI pc)) (y10 := y10) (sw := (pdN pc)) (i := (i - 1)) hl_on hl_b hl_da (hn) (by omega) (by omega) (by omega)) (fun v1 M2 q3 => ?_)
        obtain ⟨rfl, rfl⟩ := q3
        show pl _ _ _ (112, [(0, .ref on), (1, .int (nI i))], [.int (nI (by4 f (cb + ((pdN pc) + 8 * (i - 1)))))], M1) _
        refine ps_st (S' := (113, [(0, .ref on), (1, .int (nI i))], [.ref on, .int (nI (by4 f (cb + ((pdN pc) + 8 * (i - 1)))))], M1)) rfl rfl rfl ?_
        refine ps_st (S' := (114, [(0, .ref on), (1, .int (nI i))], [.int (nI i), .ref on, .int (nI (by4 f (cb + ((pdN pc) + 8 * (i - 1)))))], M1)) rfl rfl rfl ?_
        refine pl_call (a := [.ref on, .int (nI i)]) (rest := [.int (nI (by4 f (cb + ((pdN pc) + 8 * (i - 1)))))]) rfl rfl rfl (dk_keyOfL (f := f) (n := n) (on := on) (b := b) (da := da) (cb := cb) (L := L) (y4 := (nI (pdN pc + 8 + 8 * np - pc))) (y5 := (nI np)) (y6 := 0) (y7 := 0) (y8 := (nI (np + 1))) (y9 := (nI pc)) (y10 := y10) (sw := (pdN pc)) (i := i) hl_on hl_b hl_da (hn) (by omega) (by omega) (by omega)) (fun v4 M5 q6 => ?_)
        obtain ⟨rfl, rfl⟩ := q6
        show pl _ _ _ (117, [(0, .ref on), (1, .int (nI i))], [.int (nI (by4 f (cb + ((pdN pc) + 8 * i)))), .int (nI (by4 f (cb + ((pdN pc) + 8 * (i - 1)))))], M1) _
        refine ps_if2 (S1 := (122, [(0, .ref on), (1, .int (nI i))], [], M1)) (S2 := (120, [(0, .ref on), (1, .int (nI i))], [], M1)) rfl rfl rfl (fun c_117 => ?_) (fun c_117 => ?_)
        · have c_117 : (nI (by4 f (cb + ((pdN pc) + 8 * (i - 1))))) < (nI (by4 f (cb + ((pdN pc) + 8 * i)))) := of_decide_eq_true c_117
          refine ps_st (S' := (125, [(1, .int ((nI i) + 1)), (0, .ref on)], [], M1)) rfl rfl rfl ?_
          rw [nI_add1 (p := i) (k := 1) (x := 1) rfl (by omega)]
          show pl _ _ _ (_, [(1, .int (nI (i + 1))), (0, .ref on)], [], M1) _
          refine ps_st (S' := (97, [(0, .ref on), (1, .int (nI (i + 1)))], [], M1)) rfl rfl rfl ?_
          exact ih (i + 1) (np) M1 hl_on hl_b hl_da hF1 (hnp) (by omega) (hle) (by
              rw [← hk, keA_st (c := np + 1) (i := i) (j := i) (by omega), if_pos c_117])
        · have c_117 : ¬ ((nI (by4 f (cb + ((pdN pc) + 8 * (i - 1))))) < (nI (by4 f (cb + ((pdN pc) + 8 * i))))) := of_decide_eq_false c_117
          refine ps_st (S' := (121, [(0, .ref on), (1, .int (nI i))], [.int 0], M1)) rfl rfl rfl ?_
          exact ps_ret rfl rfl (Or.inr ⟨_, _, _, _, by
              unfold lkS
              rw [← hnp, if_neg (by omega), if_neg (by omega), if_pos (by rw [← hk, keA_st (c := np + 1) (i := i) (j := i) (by omega), if_neg c_117])], rfl, hl_on, hF1⟩)
  refine ps_st (S' := (1, [(0, .ref on)], [.ref on], M)) rfl rfl rfl ?_
  refine ps_get (S' := (4, [(0, .ref on)], [.int (nI L)], M)) rfl h_on rfl rfl ?_
  refine ps_st (S' := (5, [(0, .ref on)], [.ref on, .int (nI L)], M)) rfl rfl rfl ?_
  refine ps_get (S' := (8, [(0, .ref on)], [.int (nI (pdN pc)), .int (nI L)], M)) rfl h_on rfl rfl ?_
  refine ps_st (S' := (9, [(0, .ref on)], [.int ((nI L) - (nI (pdN pc)))], M)) rfl rfl rfl ?_
  refine ps_st (S' := (11, [(0, .ref on)], [.int 8, .int ((nI L) - (nI (pdN pc)))], M)) rfl rfl rfl ?_
  refine ps_if2 (S1 := (16, [(0, .ref on)], [], M)) (S2 := (14, [(0, .ref on)], [], M)) rfl rfl rfl (fun c_11 => ?_) (fun c_11 => ?_)
  · have c_11 : 8 ≤ ((nI L) - (nI (pdN pc))) := of_decide_eq_true c_11
    have n_11 : 8 + (pdN pc) ≤ L := (le_sub1 (e := L) (p := pdN pc) (k := 8) (by omega) (by omega) (by omega)).mp c_11
    refine ps_st (S' := (17, [(0, .ref on)], [.ref on], M)) rfl rfl rfl ?_
    refine ps_st (S' := (18, [(0, .ref on)], [.ref on, .ref on], M)) rfl rfl rfl ?_
    refine ps_st (S' := (19, [(0, .ref on)], [.ref on, .ref on, .ref on], M)) rfl rfl rfl ?_
    refine ps_get (S' := (22, [(0, .ref on)], [.int (nI (pdN pc)), .ref on, .ref on], M)) rfl h_on rfl rfl ?_
    refine ps_st (S' := (23, [(0, .ref on)], [.int 4, .int (nI (pdN pc)), .ref on, .ref on], M)) rfl rfl rfl ?_
    refine ps_st (S' := (24, [(0, .ref on)], [.int ((nI (pdN pc)) + 4), .ref on, .ref on], M)) rfl rfl rfl ?_
    rw [nI_add1 (p := pdN pc) (k := 4) (x := 4) rfl (by omega)]
    show pl _ _ _ (_, [(0, .ref on)], [.int (nI (pdN pc + 4)), .ref on, .ref on], M) _
    refine pl_call (a := [.ref on, .int (nI (pdN pc + 4))]) (rest := [.ref on]) rfl rfl rfl (dk_is4 (f := f) (n := n) (on := on) (b := b) (da := da) (cb := cb) (L := L) (y3 := 171) (y4 := 1) (y5 := 0) (y6 := 0) (y7 := 0) (y8 := 0) (y9 := (nI pc)) (y10 := y10) (y11 := (nI (pdN pc))) (a := (pdN pc + 4)) h_on h_b h_da (hn) (by omega)) (fun v7 M8 q9 => ?_)
    obtain ⟨rfl, rfl⟩ := q9
    show pl _ _ _ (27, [(0, .ref on)], [.int (nI (by4 f (cb + (pdN pc + 4)))), .ref on], M) _
    have hb_24 := by4_lt f (cb + (pdN pc + 4))
    obtain ⟨np, hnp⟩ : ∃ np, np = by4 f (cb + (pdN pc + 4)) := ⟨_, rfl⟩
    have hnl : np < 4294967296 := by rw [hnp]; exact by4_lt _ _
    rw [← hnp]
    show pl _ _ _ (27, [(0, .ref on)], [.int (nI np), .ref on], M) _
    refine ps_put (l' := [.ref b, .int (nI cb), .int (nI L), .int 171, .int 1, .int (nI np), .int 0, .int 0, .int 0, .int (nI pc), .int y10, .int (nI (pdN pc))]) rfl h_on rfl rfl (fun M10 h11 f12 z13 => ?_)
    have h14 := (f12 b (ob_ne h_b h_on (by decide))).trans h_b
    have h15 := (f12 da (Ne.symm (ob_ar h_on h_da))).trans h_da
    have hF16 := hF.up (by simp) f12 z13
    show pl _ _ _ (30, [(0, .ref on)], [], M10) _
    refine ps_st (S' := (31, [(0, .ref on)], [.ref on], M10)) rfl rfl rfl ?_
    refine ps_get (S' := (34, [(0, .ref on)], [.int (nI np)], M10)) rfl h11 rfl rfl ?_
    by_cases hneg : 2147483648 ≤ np
    · skip
      refine ps_if (S1 := (59, [], [], M10)) (S2 := (37, [(0, .ref on)], [], M10)) rfl rfl rfl (fun c_34 => ?_) (fun c_34 => ?_)
      rotate_left
      · exact absurd ((neg_nI hnl).mpr hneg) (of_decide_eq_false c_34)
      refine ps_st (S' := (60, [], [.int 0], M10)) rfl rfl rfl ?_
      exact ps_ret rfl rfl (Or.inr ⟨_, _, _, _, by
          unfold lkS
          rw [← hnp, if_neg (by omega), if_pos (by omega)], rfl, h11, hF16⟩)
    · skip
      refine ps_if (S1 := (59, [], [], M10)) (S2 := (37, [(0, .ref on)], [], M10)) rfl rfl rfl (fun c_34 => ?_) (fun c_34 => ?_)
      · exact absurd (of_decide_eq_true c_34) (fun h9 => hneg ((neg_nI hnl).mp h9))
      refine ps_st (S' := (38, [(0, .ref on)], [.ref on], M10)) rfl rfl rfl ?_
      refine ps_get (S' := (41, [(0, .ref on)], [.int (nI np)], M10)) rfl h11 rfl rfl ?_
      refine ps_st (S' := (42, [(0, .ref on)], [.ref on, .int (nI np)], M10)) rfl rfl rfl ?_
      refine ps_get (S' := (45, [(0, .ref on)], [.int (nI L), .int (nI np)], M10)) rfl h11 rfl rfl ?_
      refine ps_st (S' := (46, [(0, .ref on)], [.ref on, .int (nI L), .int (nI np)], M10)) rfl rfl rfl ?_
      refine ps_get (S' := (49, [(0, .ref on)], [.int (nI (pdN pc)), .int (nI L), .int (nI np)], M10)) rfl h11 rfl rfl ?_
      refine ps_st (S' := (50, [(0, .ref on)], [.int ((nI L) - (nI (pdN pc))), .int (nI np)], M10)) rfl rfl rfl ?_
      rw [nI_sub1 (p := L) (k := pdN pc) (x := (nI (pdN pc))) rfl (by omega) (by omega)]
      show pl _ _ _ (_, [(0, .ref on)], [.int (nI (L - (pdN pc))), .int (nI np)], M10) _
      refine ps_st (S' := (52, [(0, .ref on)], [.int 8, .int (nI (L - (pdN pc))), .int (nI np)], M10)) rfl rfl rfl ?_
      refine ps_st (S' := (53, [(0, .ref on)], [.int ((nI (L - (pdN pc))) - 8), .int (nI np)], M10)) rfl rfl rfl ?_
      rw [nI_sub1 (p := L - (pdN pc)) (k := 8) (x := 8) rfl (by omega) (by omega)]
      show pl _ _ _ (_, [(0, .ref on)], [.int (nI ((L - (pdN pc)) - 8)), .int (nI np)], M10) _
      refine ps_st (S' := (55, [(0, .ref on)], [.int 8, .int (nI ((L - (pdN pc)) - 8)), .int (nI np)], M10)) rfl rfl rfl ?_
      refine ps_st (S' := (56, [(0, .ref on)], [.int ((nI ((L - (pdN pc)) - 8)) / 8), .int (nI np)], M10)) rfl rfl rfl ?_
      rw [ndiv_nI (k := 8) rfl (by decide) (by omega)]
      show pl _ _ _ (_, [(0, .ref on)], [.int (nI (((L - (pdN pc)) - 8) / 8)), .int (nI np)], M10) _
      by_cases hb56 : np ≤ ((L - (pdN pc)) - 8) / 8
      · skip
        refine ps_if2 (S1 := (61, [(0, .ref on)], [], M10)) (S2 := (59, [], [], M10)) rfl rfl rfl (fun c_56 => ?_) (fun c_56 => ?_)
        rotate_left
        · exact absurd ((le_nI31 (by omega) (by omega)).mpr hb56) (of_decide_eq_false c_56)
        refine ps_st (S' := (62, [(0, .ref on)], [.ref on], M10)) rfl rfl rfl ?_
        refine ps_st (S' := (63, [(0, .ref on)], [.ref on, .ref on], M10)) rfl rfl rfl ?_
        refine ps_get (S' := (66, [(0, .ref on)], [.int (nI np), .ref on], M10)) rfl h11 rfl rfl ?_
        refine ps_st (S' := (67, [(0, .ref on)], [.int 1, .int (nI np), .ref on], M10)) rfl rfl rfl ?_
        refine ps_st (S' := (68, [(0, .ref on)], [.int ((nI np) + 1), .ref on], M10)) rfl rfl rfl ?_
        rw [nI_add1 (p := np) (k := 1) (x := 1) rfl (by omega)]
        show pl _ _ _ (_, [(0, .ref on)], [.int (nI (np + 1)), .ref on], M10) _
        refine ps_put (l' := [.ref b, .int (nI cb), .int (nI L), .int 171, .int 1, .int (nI np), .int 0, .int 0, .int (nI (np + 1)), .int (nI pc), .int y10, .int (nI (pdN pc))]) rfl h11 rfl rfl (fun M17 h18 f19 z20 => ?_)
        have h21 := (f19 b (ob_ne h14 h11 (by decide))).trans h14
        have h22 := (f19 da (Ne.symm (ob_ar h11 h15))).trans h15
        have hF23 := hF16.up (by simp) f19 z20
        show pl _ _ _ (71, [(0, .ref on)], [], M17) _
        refine ps_st (S' := (72, [(0, .ref on)], [.ref on], M17)) rfl rfl rfl ?_
        refine ps_st (S' := (73, [(0, .ref on)], [.ref on, .ref on], M17)) rfl rfl rfl ?_
        refine ps_get (S' := (76, [(0, .ref on)], [.int (nI (pdN pc)), .ref on], M17)) rfl h18 rfl rfl ?_
        refine ps_st (S' := (78, [(0, .ref on)], [.int 8, .int (nI (pdN pc)), .ref on], M17)) rfl rfl rfl ?_
        refine ps_st (S' := (79, [(0, .ref on)], [.int ((nI (pdN pc)) + 8), .ref on], M17)) rfl rfl rfl ?_
        rw [nI_add1 (p := pdN pc) (k := 8) (x := 8) rfl (by omega)]
        show pl _ _ _ (_, [(0, .ref on)], [.int (nI (pdN pc + 8)), .ref on], M17) _
        refine ps_st (S' := (81, [(0, .ref on)], [.int 8, .int (nI (pdN pc + 8)), .ref on], M17)) rfl rfl rfl ?_
        refine ps_st (S' := (82, [(0, .ref on)], [.ref on, .int 8, .int (nI (pdN pc + 8)), .ref on], M17)) rfl rfl rfl ?_
        refine ps_get (S' := (85, [(0, .ref on)], [.int (nI np), .int 8, .int (nI (pdN pc + 8)), .ref on], M17)) rfl h18 rfl rfl ?_
        refine ps_st (S' := (86, [(0, .ref on)], [.int (8 * (nI np)), .int (nI (pdN pc + 8)), .ref on], M17)) rfl rfl rfl ?_
        rw [nI_mul1 (p := 8) (k := np) (x := 8) (y := (nI np)) rfl rfl (by omega)]
        show pl _ _ _ (_, [(0, .ref on)], [.int (nI (8 * np)), .int (nI (pdN pc + 8)), .ref on], M17) _
        refine ps_st (S' := (87, [(0, .ref on)], [.int ((nI (pdN pc + 8)) + (nI (8 * np))), .ref on], M17)) rfl rfl rfl ?_
        rw [nI_add1 (p := pdN pc + 8) (k := 8 * np) (x := (nI (8 * np))) rfl (by omega)]
        show pl _ _ _ (_, [(0, .ref on)], [.int (nI (pdN pc + 8 + 8 * np)), .ref on], M17) _
        refine ps_st (S' := (88, [(0, .ref on)], [.ref on, .int (nI (pdN pc + 8 + 8 * np)), .ref on], M17)) rfl rfl rfl ?_
        refine ps_get (S' := (91, [(0, .ref on)], [.int (nI pc), .int (nI (pdN pc + 8 + 8 * np)), .ref on], M17)) rfl h18 rfl rfl ?_
        refine ps_st (S' := (92, [(0, .ref on)], [.int ((nI (pdN pc + 8 + 8 * np)) - (nI pc)), .ref on], M17)) rfl rfl rfl ?_
        rw [nI_sub1 (p := pdN pc + 8 + 8 * np) (k := pc) (x := (nI pc)) rfl (by omega) (by omega)]
        show pl _ _ _ (_, [(0, .ref on)], [.int (nI ((pdN pc + 8 + 8 * np) - pc)), .ref on], M17) _
        refine ps_put (l' := [.ref b, .int (nI cb), .int (nI L), .int 171, .int (nI ((pdN pc + 8 + 8 * np) - pc)), .int (nI np), .int 0, .int 0, .int (nI (np + 1)), .int (nI pc), .int y10, .int (nI (pdN pc))]) rfl h18 rfl rfl (fun M24 h25 f26 z27 => ?_)
        have h28 := (f26 b (ob_ne h21 h18 (by decide))).trans h21
        have h29 := (f26 da (Ne.symm (ob_ar h18 h22))).trans h22
        have hF30 := hF23.up (by simp) f26 z27
        show pl _ _ _ (95, [(0, .ref on)], [], M24) _
        refine ps_st (S' := (96, [(0, .ref on)], [.int 2], M24)) rfl rfl rfl ?_
        refine ps_st (S' := (97, [(0, .ref on), (1, .int 2)], [], M24)) rfl rfl rfl ?_
        exact (LL kf) (2) (np) M24 h25 h28 h29 hF30 (hnp) (by omega) (by omega) (by rw [show np + 1 - 2 = np - 1 by omega])
      · skip
        refine ps_if2 (S1 := (61, [(0, .ref on)], [], M10)) (S2 := (59, [], [], M10)) rfl rfl rfl (fun c_56 => ?_) (fun c_56 => ?_)
        · exact absurd (of_decide_eq_true c_56) (fun h9 => hb56 ((le_nI31 (by omega) (by omega)).mp h9))
        refine ps_st (S' := (60, [], [.int 0], M10)) rfl rfl rfl ?_
        exact ps_ret rfl rfl (Or.inr ⟨_, _, _, _, by
            unfold lkS
            rw [← hnp, if_neg (by omega), if_pos (by omega)], rfl, h11, hF16⟩)
  · have c_11 : ¬ (8 ≤ ((nI L) - (nI (pdN pc)))) := of_decide_eq_false c_11
    have n_11 : ¬ (8 + (pdN pc) ≤ L) := fun h8 => c_11 ((le_sub1 (e := L) (p := pdN pc) (k := 8) (by omega) (by omega) (by omega)).mpr h8)
    refine ps_st (S' := (15, [(0, .ref on)], [.int 0], M)) rfl rfl rfl ?_
    exact ps_ret rfl rfl (Or.inr ⟨_, _, _, _, by
        unfold lkS
        rw [if_pos (by omega)], rfl, h_on, hF⟩)
set_option maxHeartbeats 1000000 in
theorem dk_isSwitchTaken {g : xe_G} {M : mi_H} {f : Nat → Int32} {n on b da cb L : Nat} {y10 y11 : Int32} {pc o : Nat} (h_on : M.1 on = some (ob 5 [.ref b, .int (nI cb), .int (nI L), .int (nI o), .int 1, .int 0, .int 0, .int 0, .int 0, .int (nI pc), .int y10, .int y11])) (h_b : M.1 b = some (ob 1 [.ref da])) (h_da : M.1 da = some (ar .byte n f)) (hn : n ≤ 65540) (hcl : cb + L + 4 ≤ n) (hpl : pc < L) (ho : o = 170 ∨ o = 171) : pt (mT g) 96 [.ref on] M (fun v M' => (∃ (x : Nat × Int32 × Int32 × Nat), (swS f cb L pc o = some x) ∧ (x.2.2.2 < 131072 ∧ x.1 < 131072) ∧ v = some (.int 1) ∧ M'.1 on = some (ob 5 [.ref b, .int (nI cb), .int (nI L), .int (nI o), .int (nI x.1), .int x.2.1, .int x.2.2.1, .int 0, .int (nI x.2.2.2), .int (nI pc), .int y10, .int (nI (pdN pc))]) ∧ fm [on] M M') ∨ (∃ (z4 z5 z6 z8 z11 : Int32), (swS f cb L pc o = none) ∧ v = some (.int 0) ∧ M'.1 on = some (ob 5 [.ref b, .int (nI cb), .int (nI L), .int (nI o), .int z4, .int z5, .int z6, .int 0, .int z8, .int (nI pc), .int y10, .int z11]) ∧ fm [on] M M')) := by
  refine pt_in (b := mb_96 g) rfl (fun kf => ?_)
  show pl (mT g) kf (mb_96 g).2 (0, [(0, .ref on)], [], M) _
  have hF : fm [on] M M := fm.rf
  have hpd := pd_le pc
  have LL : ∀ (kf : Nat), (∀ (i : Nat) (M1 : mi_H), (M1.1 on = some (ob 5 [.ref b, .int (nI cb), .int (nI L), .int (nI o), .int 1, .int 0, .int 0, .int 0, .int 0, .int (nI pc), .int y10, .int (nI (pdN pc))])) → (M1.1 b = some (ob 1 [.ref da])) → (M1.1 da = some (ar .byte n f)) → (fm [on] M M1) → (pc + 1 ≤ i ∧ i ≤ pdN pc) → (zrN f cb (pdN pc - i) i = zrN f cb (pdN pc - (pc + 1)) (pc + 1)) →  pl (mT g) kf (mb_96 g).2 (20, [(0, .ref on), (1, .int (nI i))], [], M1) (fun v M' => (∃ (x : Nat × Int32 × Int32 × Nat), (swS f cb L pc o = some x) ∧ (x.2.2.2 < 131072 ∧ x.1 < 131072) ∧ v = some (.int 1) ∧ M'.1 on = some (ob 5 [.ref b, .int (nI cb), .int (nI L), .int (nI o), .int (nI x.1), .int x.2.1, .int x.2.2.1, .int 0, .int (nI x.2.2.2), .int (nI pc), .int y10, .int (nI (pdN pc))]) ∧ fm [on] M M') ∨ (∃ (z4 z5 z6 z8 z11 : Int32), (swS f cb L pc o = none) ∧ v = some (.int 0) ∧ M'.1 on = some (ob 5 [.ref b, .int (nI cb), .int (nI L), .int (nI o), .int z4, .int z5, .int z6, .int 0, .int z8, .int (nI pc), .int y10, .int z11]) ∧ fm [on] M M'))) := by
    intro kf
    induction kf with
    | zero => exact (by intros; exact pl_0)
    | succ kf ih =>
      intro i M1 hl_on hl_b hl_da hF1 hi hz
      refine ps_st1 (S' := (21, [(0, .ref on), (1, .int (nI i))], [.int (nI i)], M1)) rfl rfl rfl ?_
      refine ps_st (S' := (22, [(0, .ref on), (1, .int (nI i))], [.ref on, .int (nI i)], M1)) rfl rfl rfl ?_
      refine ps_get (S' := (25, [(0, .ref on), (1, .int (nI i))], [.int (nI (pdN pc)), .int (nI i)], M1)) rfl hl_on rfl rfl ?_
      refine ps_if2 (S1 := (44, [(0, .ref on), (1, .int (nI i))], [], M1)) (S2 := (28, [(0, .ref on), (1, .int (nI i))], [], M1)) rfl rfl rfl (fun c_25 => ?_) (fun c_25 => ?_)
      · have c_25 : (nI (pdN pc)) ≤ (nI i) := of_decide_eq_true c_25
        have n_25 : pdN pc ≤ i := (le_nI (p := pdN pc) (n := i) (by omega) (by omega)).mp c_25
        refine ps_st (S' := (45, [(0, .ref on), (1, .int (nI i))], [.ref on], M1)) rfl rfl rfl ?_
        refine ps_get (S' := (48, [(0, .ref on), (1, .int (nI i))], [.int (nI o)], M1)) rfl hl_on rfl rfl ?_
        refine ps_st (S' := (51, [(0, .ref on), (1, .int (nI i))], [.int 170, .int (nI o)], M1)) rfl rfl rfl ?_
        refine ps_if2 (S1 := (61, [(0, .ref on), (1, .int (nI i))], [], M1)) (S2 := (54, [(0, .ref on), (1, .int (nI i))], [], M1)) rfl rfl rfl (fun c_51 => ?_) (fun c_51 => ?_)
        · have c_51 : ¬ (nI o) = 170 := of_decide_eq_true c_51
          have n_51 : ¬ (o = 170) := fun h9 => c_51 ((eq_nI (p := o) (n := 170) (by omega) (by decide)).mpr h9)
          have eo : o = 171 := by omega
          subst eo
          refine ps_st (S' := (62, [(0, .ref on), (1, .int (nI i))], [.ref on], M1)) rfl rfl rfl ?_
          refine pl_call (a := [.ref on]) (rest := []) rfl rfl rfl (dk_isLookupTaken (f := f) (n := n) (on := on) (b := b) (da := da) (cb := cb) (L := L) (y10 := y10) (pc := pc) hl_on hl_b hl_da (hn) (hcl) (hpl)) (fun v1 M2 q3 => ?_)
          rcases q3 with q3 | q3
          · skip
            obtain ⟨x4, q62_s, q62_l, rfl, h5, f6⟩ := q3
            have h8 := (f6.1 b (nin1 (ob_ne hl_b hl_on (by decide)))).trans hl_b
            have h9 := (f6.1 da (nin1 (Ne.symm (ob_ar hl_on hl_da)))).trans hl_da
            have hF10 := hF1.tr f6 (by simp)
            show pl _ _ _ (65, [], [.int 1], M2) _
            exact ps_ret rfl rfl (Or.inl ⟨x4, by
                unfold swS
                rw [if_neg (by rw [← hz, show pdN pc - i = 0 by omega]; exact Nat.one_ne_zero), if_neg (by decide)]
                exact q62_s, q62_l, rfl, h5, hF10⟩)
          · skip
            obtain ⟨z411, z512, z613, z814, q62_s, rfl, h15, f16⟩ := q3
            have h18 := (f16.1 b (nin1 (ob_ne hl_b hl_on (by decide)))).trans hl_b
            have h19 := (f16.1 da (nin1 (Ne.symm (ob_ar hl_on hl_da)))).trans hl_da
            have hF20 := hF1.tr f16 (by simp)
            show pl _ _ _ (65, [], [.int 0], M2) _
            exact ps_ret rfl rfl (Or.inr ⟨_, _, _, _, _, by
                unfold swS
                rw [if_neg (by rw [← hz, show pdN pc - i = 0 by omega]; exact Nat.one_ne_zero), if_neg (by decide)]
                exact q62_s, rfl, h15, hF20⟩)
        · have c_51 : ¬ (¬ (nI o) = 170) := of_decide_eq_false c_51
          have n_51 : o = 170 := (eq_nI (p := o) (n := 170) (by omega) (by decide)).mp (Decidable.not_not.mp c_51)
          have eo : o = 170 := by omega
          subst eo
          refine ps_st (S' := (55, [(0, .ref on), (1, .int (nI i))], [.ref on], M1)) rfl rfl rfl ?_
          refine pl_call (a := [.ref on]) (rest := []) rfl rfl rfl (dk_isTableTaken (f := f) (n := n) (on := on) (b := b) (da := da) (cb := cb) (L := L) (y10 := y10) (pc := pc) hl_on hl_b hl_da (hn) (hcl) (hpl)) (fun v21 M22 q23 => ?_)
          rcases q23 with q23 | q23
          · skip
            obtain ⟨x24, q55_s, q55_l, rfl, h25, f26⟩ := q23
            have h28 := (f26.1 b (nin1 (ob_ne hl_b hl_on (by decide)))).trans hl_b
            have h29 := (f26.1 da (nin1 (Ne.symm (ob_ar hl_on hl_da)))).trans hl_da
            have hF30 := hF1.tr f26 (by simp)
            show pl _ _ _ (58, [(0, .ref on), (1, .int (nI i))], [.int 1], M22) _
            refine ps_st (S' := (65, [], [.int 1], M22)) rfl rfl rfl ?_
            exact ps_ret rfl rfl (Or.inl ⟨x24, by
                unfold swS
                rw [if_neg (by rw [← hz, show pdN pc - i = 0 by omega]; exact Nat.one_ne_zero), if_pos rfl]
                exact q55_s, q55_l, rfl, h25, hF30⟩)
          · skip
            obtain ⟨z431, z532, z633, z834, q55_s, rfl, h35, f36⟩ := q23
            have h38 := (f36.1 b (nin1 (ob_ne hl_b hl_on (by decide)))).trans hl_b
            have h39 := (f36.1 da (nin1 (Ne.symm (ob_ar hl_on hl_da)))).trans hl_da
            have hF40 := hF1.tr f36 (by simp)
            show pl _ _ _ (58, [(0, .ref on), (1, .int (nI i))], [.int 0], M22) _
            refine ps_st (S' := (65, [], [.int 0], M22)) rfl rfl rfl ?_
            exact ps_ret rfl rfl (Or.inr ⟨_, _, _, _, _, by
                unfold swS
                rw [if_neg (by rw [← hz, show pdN pc - i = 0 by omega]; exact Nat.one_ne_zero), if_pos rfl]
                exact q55_s, rfl, h35, hF40⟩)
      · have c_25 : ¬ ((nI (pdN pc)) ≤ (nI i)) := of_decide_eq_false c_25
        have n_25 : ¬ (pdN pc ≤ i) := fun h9 => c_25 ((le_nI (p := pdN pc) (n := i) (by omega) (by omega)).mpr h9)
        refine ps_st (S' := (29, [(0, .ref on), (1, .int (nI i))], [.ref on], M1)) rfl rfl rfl ?_
        refine ps_st (S' := (30, [(0, .ref on), (1, .int (nI i))], [.int (nI i), .ref on], M1)) rfl rfl rfl ?_
        refine pl_call (a := [.ref on, .int (nI i)]) (rest := []) rfl rfl rfl (dk_iu1 (f := f) (n := n) (on := on) (b := b) (da := da) (cb := cb) (L := L) (y3 := (nI o)) (y4 := 1) (y5 := 0) (y6 := 0) (y7 := 0) (y8 := 0) (y9 := (nI pc)) (y10 := y10) (y11 := (nI (pdN pc))) (a := i) hl_on hl_b hl_da (hn) (by omega)) (fun v41 M42 q43 => ?_)
        obtain ⟨rfl, rfl⟩ := q43
        show pl _ _ _ (33, [(0, .ref on), (1, .int (nI i))], [.int (nI (by1 f (cb + i)))], M1) _
        have hb_30 := by1_lt f (cb + i)
        refine ps_if (S1 := (38, [(0, .ref on), (1, .int (nI i))], [], M1)) (S2 := (36, [(0, .ref on), (1, .int (nI i))], [], M1)) rfl rfl rfl (fun c_33 => ?_) (fun c_33 => ?_)
        · have c_33 : (nI (by1 f (cb + i))) = 0 := of_decide_eq_true c_33
          have n_33 : by1 f (cb + i) = 0 := (eq_nI (p := by1 f (cb + i)) (n := 0) (Nat.lt_trans (by1_lt _ _) (by decide)) (by decide)).mp c_33
          refine ps_st (S' := (41, [(1, .int ((nI i) + 1)), (0, .ref on)], [], M1)) rfl rfl rfl ?_
          rw [nI_add1 (p := i) (k := 1) (x := 1) rfl (by omega)]
          show pl _ _ _ (_, [(1, .int (nI (i + 1))), (0, .ref on)], [], M1) _
          refine ps_st (S' := (20, [(0, .ref on), (1, .int (nI (i + 1)))], [], M1)) rfl rfl rfl ?_
          exact ih (i + 1) M1 hl_on hl_b hl_da hF1 (by omega) (by
              rw [← hz, zrN_st (c := pdN pc) (i := i) (j := i) (by omega), if_pos (by omega)])
        · have c_33 : ¬ ((nI (by1 f (cb + i))) = 0) := of_decide_eq_false c_33
          have n_33 : ¬ (by1 f (cb + i) = 0) := fun h9 => c_33 ((eq_nI (p := by1 f (cb + i)) (n := 0) (Nat.lt_trans (by1_lt _ _) (by decide)) (by decide)).mpr h9)
          refine ps_st (S' := (37, [(0, .ref on), (1, .int (nI i))], [.int 0], M1)) rfl rfl rfl ?_
          exact ps_ret rfl rfl (Or.inr ⟨_, _, _, _, _, by
              unfold swS
              rw [if_pos (by rw [← hz, zrN_st (c := pdN pc) (i := i) (j := i) (by omega), if_neg (by omega)])], rfl, hl_on, hF1⟩)
  refine ps_st (S' := (1, [(0, .ref on)], [.ref on], M)) rfl rfl rfl ?_
  refine ps_st (S' := (2, [(0, .ref on)], [.ref on, .ref on], M)) rfl rfl rfl ?_
  refine ps_get (S' := (5, [(0, .ref on)], [.int (nI pc), .ref on], M)) rfl h_on rfl rfl ?_
  refine ps_st (S' := (7, [(0, .ref on)], [.int (-4), .int (nI pc), .ref on], M)) rfl rfl rfl ?_
  refine ps_st (S' := (8, [(0, .ref on)], [.int ((nI pc) &&& (-4)), .ref on], M)) rfl rfl rfl ?_
  rw [nI_an (p := pc) (k := 4294967292) (x := (-4)) rfl]
  show pl _ _ _ (_, [(0, .ref on)], [.int (nI (aN pc 4294967292)), .ref on], M) _
  rw [an_m4 (by omega)]
  show pl _ _ _ (8, [(0, .ref on)], [.int (nI (pc / 4 * 4)), .ref on], M) _
  refine ps_st (S' := (9, [(0, .ref on)], [.int 4, .int (nI (pc / 4 * 4)), .ref on], M)) rfl rfl rfl ?_
  refine ps_st (S' := (10, [(0, .ref on)], [.int ((nI (pc / 4 * 4)) + 4), .ref on], M)) rfl rfl rfl ?_
  rw [nI_add1 (p := pc / 4 * 4) (k := 4) (x := 4) rfl (by omega)]
  show pl _ _ _ (_, [(0, .ref on)], [.int (nI (pc / 4 * 4 + 4)), .ref on], M) _
  show pl _ _ _ (10, [(0, .ref on)], [.int (nI (pdN pc)), .ref on], M) _
  refine ps_put (l' := [.ref b, .int (nI cb), .int (nI L), .int (nI o), .int 1, .int 0, .int 0, .int 0, .int 0, .int (nI pc), .int y10, .int (nI (pdN pc))]) rfl h_on rfl rfl (fun M44 h45 f46 z47 => ?_)
  have h48 := (f46 b (ob_ne h_b h_on (by decide))).trans h_b
  have h49 := (f46 da (Ne.symm (ob_ar h_on h_da))).trans h_da
  have hF50 := hF.up (by simp) f46 z47
  show pl _ _ _ (13, [(0, .ref on)], [], M44) _
  refine ps_st (S' := (14, [(0, .ref on)], [.ref on], M44)) rfl rfl rfl ?_
  refine ps_get (S' := (17, [(0, .ref on)], [.int (nI pc)], M44)) rfl h45 rfl rfl ?_
  refine ps_st (S' := (18, [(0, .ref on)], [.int 1, .int (nI pc)], M44)) rfl rfl rfl ?_
  refine ps_st (S' := (19, [(0, .ref on)], [.int ((nI pc) + 1)], M44)) rfl rfl rfl ?_
  rw [nI_add1 (p := pc) (k := 1) (x := 1) rfl (by omega)]
  show pl _ _ _ (_, [(0, .ref on)], [.int (nI (pc + 1))], M44) _
  refine ps_st (S' := (20, [(0, .ref on), (1, .int (nI (pc + 1)))], [], M44)) rfl rfl rfl ?_
  exact (LL kf) (pc + 1) M44 h45 h48 h49 hF50 (by omega) (rfl)
set_option maxHeartbeats 1000000 in
theorem dk_isTakenApart {g : xe_G} {M : mi_H} {f : Nat → Int32} {n on b da cb L : Nat} {y3 y4 y5 y6 y7 y8 y9 y10 y11 : Int32} {pc : Nat} (h_on : M.1 on = some (ob 5 [.ref b, .int (nI cb), .int (nI L), .int y3, .int y4, .int y5, .int y6, .int y7, .int y8, .int y9, .int y10, .int y11])) (h_b : M.1 b = some (ob 1 [.ref da])) (h_da : M.1 da = some (ar .byte n f)) (hn : n ≤ 65540) (hcl : cb + L + 4 ≤ n) (hpl : pc < L) : pt (mT g) 98 [.ref on, .int (nI pc)] M (fun v M' => (∃ (x : IC), (inC f cb L pc = some x) ∧ v = some (.int 1) ∧ M'.1 on = some (ob 5 [.ref b, .int (nI cb), .int (nI L), .int (nI x.1), .int (nI x.2.1), .int x.2.2.1, .int x.2.2.2.1, .int (nI x.2.2.2.2.1), .int (nI x.2.2.2.2.2.1), .int (nI pc), .int (x.2.2.2.2.2.2.1.getD y10), .int ((x.2.2.2.2.2.2.2.map nI).getD y11)]) ∧ fm [on] M M') ∨ (∃ (z3 z4 z5 z6 z7 z8 z9 z10 z11 : Int32), (inC f cb L pc = none) ∧ v = some (.int 0) ∧ M'.1 on = some (ob 5 [.ref b, .int (nI cb), .int (nI L), .int z3, .int z4, .int z5, .int z6, .int z7, .int z8, .int z9, .int z10, .int z11]) ∧ fm [on] M M')) := by
  refine pt_in (b := mb_98 g) rfl (fun kf => ?_)
  show pl (mT g) kf (mb_98 g).2 (0, [(0, .ref on), (1, .int (nI pc))], [], M) _
  have hF : fm [on] M M := fm.rf
  have hpd := pd_le pc
  refine ps_st (S' := (1, [(0, .ref on), (1, .int (nI pc))], [.ref on], M)) rfl rfl rfl ?_
  refine ps_st (S' := (2, [(0, .ref on), (1, .int (nI pc))], [.int (nI pc), .ref on], M)) rfl rfl rfl ?_
  refine ps_put (l' := [.ref b, .int (nI cb), .int (nI L), .int y3, .int y4, .int y5, .int y6, .int y7, .int y8, .int (nI pc), .int y10, .int y11]) rfl h_on rfl rfl (fun M1 h2 f3 z4 => ?_)
  have h5 := (f3 b (ob_ne h_b h_on (by decide))).trans h_b
  have h6 := (f3 da (Ne.symm (ob_ar h_on h_da))).trans h_da
  have hF7 := hF.up (by simp) f3 z4
  show pl _ _ _ (5, [(0, .ref on), (1, .int (nI pc))], [], M1) _
  refine ps_st (S' := (6, [(0, .ref on), (1, .int (nI pc))], [.ref on], M1)) rfl rfl rfl ?_
  refine ps_st (S' := (7, [(0, .ref on), (1, .int (nI pc))], [.ref on, .ref on], M1)) rfl rfl rfl ?_
  refine ps_st (S' := (8, [(0, .ref on), (1, .int (nI pc))], [.int (nI pc), .ref on, .ref on], M1)) rfl rfl rfl ?_
  refine pl_call (a := [.ref on, .int (nI pc)]) (rest := [.ref on]) rfl rfl rfl (dk_iu1 (f := f) (n := n) (on := on) (b := b) (da := da) (cb := cb) (L := L) (y3 := y3) (y4 := y4) (y5 := y5) (y6 := y6) (y7 := y7) (y8 := y8) (y9 := (nI pc)) (y10 := y10) (y11 := y11) (a := pc) h2 h5 h6 (hn) (by omega)) (fun v8 M9 q10 => ?_)
  obtain ⟨rfl, rfl⟩ := q10
  show pl _ _ _ (11, [(0, .ref on), (1, .int (nI pc))], [.int (nI (by1 f (cb + pc))), .ref on], M1) _
  have hb_8 := by1_lt f (cb + pc)
  refine ps_put (l' := [.ref b, .int (nI cb), .int (nI L), .int (nI (by1 f (cb + pc))), .int y4, .int y5, .int y6, .int y7, .int y8, .int (nI pc), .int y10, .int y11]) rfl h2 rfl rfl (fun M11 h12 f13 z14 => ?_)
  have h15 := (f13 b (ob_ne h5 h2 (by decide))).trans h5
  have h16 := (f13 da (Ne.symm (ob_ar h2 h6))).trans h6
  have hF17 := hF7.up (by simp) f13 z14
  show pl _ _ _ (14, [(0, .ref on), (1, .int (nI pc))], [], M11) _
  refine ps_st (S' := (15, [(0, .ref on), (1, .int (nI pc))], [.ref on], M11)) rfl rfl rfl ?_
  refine ps_st (S' := (16, [(0, .ref on), (1, .int (nI pc))], [.int 1, .ref on], M11)) rfl rfl rfl ?_
  refine ps_put (l' := [.ref b, .int (nI cb), .int (nI L), .int (nI (by1 f (cb + pc))), .int 1, .int y5, .int y6, .int y7, .int y8, .int (nI pc), .int y10, .int y11]) rfl h12 rfl rfl (fun M18 h19 f20 z21 => ?_)
  have h22 := (f20 b (ob_ne h15 h12 (by decide))).trans h15
  have h23 := (f20 da (Ne.symm (ob_ar h12 h16))).trans h16
  have hF24 := hF17.up (by simp) f20 z21
  show pl _ _ _ (19, [(0, .ref on), (1, .int (nI pc))], [], M18) _
  refine ps_st (S' := (20, [(0, .ref on), (1, .int (nI pc))], [.ref on], M18)) rfl rfl rfl ?_
  refine ps_st (S' := (21, [(0, .ref on), (1, .int (nI pc))], [.int 0, .ref on], M18)) rfl rfl rfl ?_
  refine ps_put (l' := [.ref b, .int (nI cb), .int (nI L), .int (nI (by1 f (cb + pc))), .int 1, .int 0, .int y6, .int y7, .int y8, .int (nI pc), .int y10, .int y11]) rfl h19 rfl rfl (fun M25 h26 f27 z28 => ?_)
  have h29 := (f27 b (ob_ne h22 h19 (by decide))).trans h22
  have h30 := (f27 da (Ne.symm (ob_ar h19 h23))).trans h23
  have hF31 := hF24.up (by simp) f27 z28
  show pl _ _ _ (24, [(0, .ref on), (1, .int (nI pc))], [], M25) _
  refine ps_st (S' := (25, [(0, .ref on), (1, .int (nI pc))], [.ref on], M25)) rfl rfl rfl ?_
  refine ps_st (S' := (26, [(0, .ref on), (1, .int (nI pc))], [.int 0, .ref on], M25)) rfl rfl rfl ?_
  refine ps_put (l' := [.ref b, .int (nI cb), .int (nI L), .int (nI (by1 f (cb + pc))), .int 1, .int 0, .int 0, .int y7, .int y8, .int (nI pc), .int y10, .int y11]) rfl h26 rfl rfl (fun M32 h33 f34 z35 => ?_)
  have h36 := (f34 b (ob_ne h29 h26 (by decide))).trans h29
  have h37 := (f34 da (Ne.symm (ob_ar h26 h30))).trans h30
  have hF38 := hF31.up (by simp) f34 z35
  show pl _ _ _ (29, [(0, .ref on), (1, .int (nI pc))], [], M32) _
  refine ps_st (S' := (30, [(0, .ref on), (1, .int (nI pc))], [.ref on], M32)) rfl rfl rfl ?_
  refine ps_st (S' := (31, [(0, .ref on), (1, .int (nI pc))], [.int 0, .ref on], M32)) rfl rfl rfl ?_
  refine ps_put (l' := [.ref b, .int (nI cb), .int (nI L), .int (nI (by1 f (cb + pc))), .int 1, .int 0, .int 0, .int 0, .int y8, .int (nI pc), .int y10, .int y11]) rfl h33 rfl rfl (fun M39 h40 f41 z42 => ?_)
  have h43 := (f41 b (ob_ne h36 h33 (by decide))).trans h36
  have h44 := (f41 da (Ne.symm (ob_ar h33 h37))).trans h37
  have hF45 := hF38.up (by simp) f41 z42
  show pl _ _ _ (34, [(0, .ref on), (1, .int (nI pc))], [], M39) _
  refine ps_st (S' := (35, [(0, .ref on), (1, .int (nI pc))], [.ref on], M39)) rfl rfl rfl ?_
  refine ps_st (S' := (36, [(0, .ref on), (1, .int (nI pc))], [.int 0, .ref on], M39)) rfl rfl rfl ?_
  refine ps_put (l' := [.ref b, .int (nI cb), .int (nI L), .int (nI (by1 f (cb + pc))), .int 1, .int 0, .int 0, .int 0, .int 0, .int (nI pc), .int y10, .int y11]) rfl h40 rfl rfl (fun M46 h47 f48 z49 => ?_)
  have h50 := (f48 b (ob_ne h43 h40 (by decide))).trans h43
  have h51 := (f48 da (Ne.symm (ob_ar h40 h44))).trans h44
  have hF52 := hF45.up (by simp) f48 z49
  show pl _ _ _ (39, [(0, .ref on), (1, .int (nI pc))], [], M46) _
  refine ps_st (S' := (40, [(0, .ref on), (1, .int (nI pc))], [.int (nI pc)], M46)) rfl rfl rfl ?_
  refine ps_if (S1 := (61, [], [], M46)) (S2 := (43, [(0, .ref on), (1, .int (nI pc))], [], M46)) rfl rfl rfl (fun c_40 => ?_) (fun c_40 => ?_)
  · exact absurd (of_decide_eq_true c_40) (nI_n0 (by omega))
  refine ps_st (S' := (44, [(0, .ref on), (1, .int (nI pc))], [.int (nI pc)], M46)) rfl rfl rfl ?_
  refine ps_st (S' := (45, [(0, .ref on), (1, .int (nI pc))], [.ref on, .int (nI pc)], M46)) rfl rfl rfl ?_
  refine ps_get (S' := (48, [(0, .ref on), (1, .int (nI pc))], [.int (nI L), .int (nI pc)], M46)) rfl h47 rfl rfl ?_
  refine ps_if2 (S1 := (61, [], [], M46)) (S2 := (51, [(0, .ref on), (1, .int (nI pc))], [], M46)) rfl rfl rfl (fun c_48 => ?_) (fun c_48 => ?_)
  · have c_48 : (nI L) ≤ (nI pc) := of_decide_eq_true c_48
    have n_48 : L ≤ pc := (le_nI (p := L) (n := pc) (by omega) (by omega)).mp c_48
    refine ps_st (S' := (62, [], [.int 0], M46)) rfl rfl rfl ?_
    exact ps_ret rfl rfl (Or.inr ⟨_, _, _, _, _, _, _, _, _, by
        unfold inC
        rw [if_pos (by omega)], rfl, h47, hF52⟩)
  · have c_48 : ¬ ((nI L) ≤ (nI pc)) := of_decide_eq_false c_48
    have n_48 : ¬ (L ≤ pc) := fun h9 => c_48 ((le_nI (p := L) (n := pc) (by omega) (by omega)).mpr h9)
    refine ps_st (S' := (52, [(0, .ref on), (1, .int (nI pc))], [.ref on], M46)) rfl rfl rfl ?_
    refine ps_get (S' := (55, [(0, .ref on), (1, .int (nI pc))], [.int (nI (by1 f (cb + pc)))], M46)) rfl h47 rfl rfl ?_
    refine ps_st (S' := (58, [(0, .ref on), (1, .int (nI pc))], [.int 201, .int (nI (by1 f (cb + pc)))], M46)) rfl rfl rfl ?_
    refine ps_if2 (S1 := (63, [(0, .ref on), (1, .int (nI pc))], [], M46)) (S2 := (61, [], [], M46)) rfl rfl rfl (fun c_58 => ?_) (fun c_58 => ?_)
    · have c_58 : (nI (by1 f (cb + pc))) ≤ 201 := of_decide_eq_true c_58
      have n_58 : by1 f (cb + pc) ≤ 201 := (le_nI (p := by1 f (cb + pc)) (n := 201) (Nat.lt_trans (by1_lt _ _) (by decide)) (by decide)).mp c_58
      refine ps_st (S' := (64, [(0, .ref on), (1, .int (nI pc))], [.ref on], M46)) rfl rfl rfl ?_
      refine pl_call (a := [.ref on]) (rest := []) rfl rfl rfl (dk_isSwitch (on := on) (b := b) (cb := cb) (L := L) (y4 := 1) (y5 := 0) (y6 := 0) (y7 := 0) (y8 := 0) (y9 := (nI pc)) (y10 := y10) (y11 := y11) (o := (by1 f (cb + pc))) h47 (by omega)) (fun v53 M54 q55 => ?_)
      obtain ⟨rfl, rfl⟩ := q55
      show pl _ _ _ (67, [(0, .ref on), (1, .int (nI pc))], [.int (nI (swN (by1 f (cb + pc))))], M46) _
      have hsw_64 := swO_le (by1 f (cb + pc))
      refine ps_if (S1 := (75, [(0, .ref on), (1, .int (nI pc))], [], M46)) (S2 := (70, [(0, .ref on), (1, .int (nI pc))], [], M46)) rfl rfl rfl (fun c_67 => ?_) (fun c_67 => ?_)
      · have c_67 : (nI (swN (by1 f (cb + pc)))) = 0 := of_decide_eq_true c_67
        have n_67 : swN (by1 f (cb + pc)) = 0 := (eq_nI (p := swN (by1 f (cb + pc))) (n := 0) (by omega) (by decide)).mp c_67
        refine ps_st (S' := (76, [(0, .ref on), (1, .int (nI pc))], [.ref on], M46)) rfl rfl rfl ?_
        refine ps_get (S' := (79, [(0, .ref on), (1, .int (nI pc))], [.int (nI (by1 f (cb + pc)))], M46)) rfl h47 rfl rfl ?_
        refine ps_st (S' := (82, [(0, .ref on), (1, .int (nI pc))], [.int 196, .int (nI (by1 f (cb + pc)))], M46)) rfl rfl rfl ?_
        refine ps_if2 (S1 := (90, [(0, .ref on), (1, .int (nI pc))], [], M46)) (S2 := (85, [(0, .ref on), (1, .int (nI pc))], [], M46)) rfl rfl rfl (fun c_82 => ?_) (fun c_82 => ?_)
        · have c_82 : ¬ (nI (by1 f (cb + pc))) = 196 := of_decide_eq_true c_82
          have n_82 : ¬ (by1 f (cb + pc) = 196) := fun h9 => c_82 ((eq_nI (p := by1 f (cb + pc)) (n := 196) (Nat.lt_trans (by1_lt _ _) (by decide)) (by decide)).mpr h9)
          refine ps_st (S' := (91, [(0, .ref on), (1, .int (nI pc))], [.ref on], M46)) rfl rfl rfl ?_
          refine ps_st (S' := (92, [(0, .ref on), (1, .int (nI pc))], [.ref on, .ref on], M46)) rfl rfl rfl ?_
          refine ps_get (S' := (95, [(0, .ref on), (1, .int (nI pc))], [.int (nI (by1 f (cb + pc))), .ref on], M46)) rfl h47 rfl rfl ?_
          refine pl_call (a := [.int (nI (by1 f (cb + pc)))]) (rest := [.ref on]) rfl rfl rfl (dk_sizeOf (o := (by1 f (cb + pc))) (by omega)) (fun v56 M57 q58 => ?_)
          obtain ⟨rfl, rfl⟩ := q58
          show pl _ _ _ (98, [(0, .ref on), (1, .int (nI pc))], [.int (nI (szO (by1 f (cb + pc)))), .ref on], M46) _
          have hz8 := szO_le (by1 f (cb + pc))
          refine ps_put (l' := [.ref b, .int (nI cb), .int (nI L), .int (nI (by1 f (cb + pc))), .int (nI (szO (by1 f (cb + pc)))), .int 0, .int 0, .int 0, .int 0, .int (nI pc), .int y10, .int y11]) rfl h47 rfl rfl (fun M59 h60 f61 z62 => ?_)
          have h63 := (f61 b (ob_ne h50 h47 (by decide))).trans h50
          have h64 := (f61 da (Ne.symm (ob_ar h47 h51))).trans h51
          have hF65 := hF52.up (by simp) f61 z62
          show pl _ _ _ (101, [(0, .ref on), (1, .int (nI pc))], [], M59) _
          refine ps_st (S' := (102, [(0, .ref on), (1, .int (nI pc))], [.ref on], M59)) rfl rfl rfl ?_
          refine ps_get (S' := (105, [(0, .ref on), (1, .int (nI pc))], [.int (nI (szO (by1 f (cb + pc))))], M59)) rfl h60 rfl rfl ?_
          refine ps_st (S' := (106, [(0, .ref on), (1, .int (nI pc))], [.ref on, .int (nI (szO (by1 f (cb + pc))))], M59)) rfl rfl rfl ?_
          refine ps_get (S' := (109, [(0, .ref on), (1, .int (nI pc))], [.int (nI L), .int (nI (szO (by1 f (cb + pc))))], M59)) rfl h60 rfl rfl ?_
          refine ps_st (S' := (110, [(0, .ref on), (1, .int (nI pc))], [.ref on, .int (nI L), .int (nI (szO (by1 f (cb + pc))))], M59)) rfl rfl rfl ?_
          refine ps_get (S' := (113, [(0, .ref on), (1, .int (nI pc))], [.int (nI pc), .int (nI L), .int (nI (szO (by1 f (cb + pc))))], M59)) rfl h60 rfl rfl ?_
          refine ps_st (S' := (114, [(0, .ref on), (1, .int (nI pc))], [.int ((nI L) - (nI pc)), .int (nI (szO (by1 f (cb + pc))))], M59)) rfl rfl rfl ?_
          refine ps_if2 (S1 := (128, [], [], M59)) (S2 := (117, [(0, .ref on), (1, .int (nI pc))], [], M59)) rfl rfl rfl (fun c_114 => ?_) (fun c_114 => ?_)
          · have c_114 : ((nI L) - (nI pc)) < (nI (szO (by1 f (cb + pc)))) := of_decide_eq_true c_114
            have n_114 : L < pc + (szO (by1 f (cb + pc))) := (sub_lt1 (e := L) (p := pc) (k := szO (by1 f (cb + pc))) (by omega) (by omega) (by omega)).mp c_114
            refine ps_st (S' := (129, [], [.int 0], M59)) rfl rfl rfl ?_
            exact ps_ret rfl rfl (Or.inr ⟨_, _, _, _, _, _, _, _, _, by
                unfold inC
                rw [if_neg (by omega), if_neg (show ¬ (by1 f (cb + pc) = 170 ∨ by1 f (cb + pc) = 171) from fun h9 => by unfold swN at n_67; rw [if_pos h9] at n_67; exact absurd n_67 (by decide)), if_neg (by omega), if_pos (by omega)], rfl, h60, hF65⟩)
          · have c_114 : ¬ (((nI L) - (nI pc)) < (nI (szO (by1 f (cb + pc))))) := of_decide_eq_false c_114
            have n_114 : ¬ (L < pc + (szO (by1 f (cb + pc)))) := fun h8 => c_114 ((sub_lt1 (e := L) (p := pc) (k := szO (by1 f (cb + pc))) (by omega) (by omega) (by omega)).mpr h8)
            refine ps_st (S' := (118, [(0, .ref on), (1, .int (nI pc))], [.ref on], M59)) rfl rfl rfl ?_
            refine pl_call (a := [.ref on]) (rest := []) rfl rfl rfl (dk_areOperandsTaken (f := f) (n := n) (on := on) (b := b) (da := da) (cb := cb) (L := L) (y10 := y10) (y11 := y11) (pc := pc) (o := (by1 f (cb + pc))) h60 h63 h64 (hn) (by omega) (hcl) (hpl) (by omega)) (fun v66 M67 q68 => ?_)
            rcases q68 with q68 | q68
            · skip
              obtain ⟨x69, q118_s, rfl, h70, f71⟩ := q68
              have h73 := (f71.1 b (nin1 (ob_ne h63 h60 (by decide)))).trans h63
              have h74 := (f71.1 da (nin1 (Ne.symm (ob_ar h60 h64)))).trans h64
              have hF75 := hF65.tr f71 (by simp)
              show pl _ _ _ (121, [(0, .ref on), (1, .int (nI pc))], [.int 1], M67) _
              refine ps_if (S1 := (128, [], [], M67)) (S2 := (124, [(0, .ref on), (1, .int (nI pc))], [], M67)) rfl rfl rfl (fun c_121 => ?_) (fun c_121 => ?_)
              · exact absurd (of_decide_eq_true c_121) (by decide)
              refine ps_st (S' := (125, [(0, .ref on), (1, .int (nI pc))], [.int 1], M67)) rfl rfl rfl ?_
              refine ps_st (S' := (129, [], [.int 1], M67)) rfl rfl rfl ?_
              exact ps_ret rfl rfl (Or.inl ⟨(x69.1, szO (by1 f (cb + pc)), x69.2.1, x69.2.2.1, x69.2.2.2.1, x69.2.2.2.2.1, x69.2.2.2.2.2, none), by
                  unfold inC
                  rw [if_neg (by omega), if_neg (show ¬ (by1 f (cb + pc) = 170 ∨ by1 f (cb + pc) = 171) from fun h9 => by unfold swN at n_67; rw [if_pos h9] at n_67; exact absurd n_67 (by decide)), if_neg (by omega), if_neg (by omega), q118_s], rfl, h70, hF75⟩)
            · skip
              obtain ⟨z376, z577, z678, z779, z880, z1081, q118_s, rfl, h82, f83⟩ := q68
              have h85 := (f83.1 b (nin1 (ob_ne h63 h60 (by decide)))).trans h63
              have h86 := (f83.1 da (nin1 (Ne.symm (ob_ar h60 h64)))).trans h64
              have hF87 := hF65.tr f83 (by simp)
              show pl _ _ _ (121, [(0, .ref on), (1, .int (nI pc))], [.int 0], M67) _
              refine ps_if (S1 := (128, [], [], M67)) (S2 := (124, [(0, .ref on), (1, .int (nI pc))], [], M67)) rfl rfl rfl (fun c_121 => ?_) (fun c_121 => ?_)
              rotate_left
              · exact absurd (by decide) (of_decide_eq_false c_121)
              refine ps_st (S' := (129, [], [.int 0], M67)) rfl rfl rfl ?_
              exact ps_ret rfl rfl (Or.inr ⟨_, _, _, _, _, _, _, _, _, by
                  unfold inC
                  rw [if_neg (by omega), if_neg (show ¬ (by1 f (cb + pc) = 170 ∨ by1 f (cb + pc) = 171) from fun h9 => by unfold swN at n_67; rw [if_pos h9] at n_67; exact absurd n_67 (by decide)), if_neg (by omega), if_neg (by omega), q118_s], rfl, h82, hF87⟩)
        · have c_82 : ¬ (¬ (nI (by1 f (cb + pc))) = 196) := of_decide_eq_false c_82
          have n_82 : by1 f (cb + pc) = 196 := (eq_nI (p := by1 f (cb + pc)) (n := 196) (Nat.lt_trans (by1_lt _ _) (by decide)) (by decide)).mp (Decidable.not_not.mp c_82)
          refine ps_st (S' := (86, [(0, .ref on), (1, .int (nI pc))], [.ref on], M46)) rfl rfl rfl ?_
          have e196 : (nI (by1 f (cb + pc))) = 196 := by rw [n_82]; rfl
          have h88 := h47
          rw [e196] at h88
          refine pl_call (a := [.ref on]) (rest := []) rfl rfl rfl (dk_isWideTaken (f := f) (n := n) (on := on) (b := b) (da := da) (cb := cb) (L := L) (y10 := y10) (y11 := y11) (pc := pc) h88 h50 h51 (hn) (hcl) (hpl)) (fun v89 M90 q91 => ?_)
          rcases q91 with q91 | q91
          · skip
            obtain ⟨x92, q86_s, rfl, h93, f94⟩ := q91
            have h96 := (f94.1 b (nin1 (ob_ne h50 h88 (by decide)))).trans h50
            have h97 := (f94.1 da (nin1 (Ne.symm (ob_ar h88 h51)))).trans h51
            have hF98 := hF52.tr f94 (by simp)
            show pl _ _ _ (89, [(0, .ref on), (1, .int (nI pc))], [.int 1], M90) _
            exact ps_ret rfl rfl (Or.inl ⟨(x92.1, x92.2.1, x92.2.2.1, x92.2.2.2, lpO x92.1, 0, none, none), by
                unfold inC
                rw [if_neg (by omega), if_neg (show ¬ (by1 f (cb + pc) = 170 ∨ by1 f (cb + pc) = 171) from fun h9 => by unfold swN at n_67; rw [if_pos h9] at n_67; exact absurd n_67 (by decide)), if_pos (by omega), q86_s], rfl, h93, hF98⟩)
          · skip
            obtain ⟨z399, z4100, z5101, z6102, z7103, q86_s, rfl, h104, f105⟩ := q91
            have h107 := (f105.1 b (nin1 (ob_ne h50 h88 (by decide)))).trans h50
            have h108 := (f105.1 da (nin1 (Ne.symm (ob_ar h88 h51)))).trans h51
            have hF109 := hF52.tr f105 (by simp)
            show pl _ _ _ (89, [(0, .ref on), (1, .int (nI pc))], [.int 0], M90) _
            exact ps_ret rfl rfl (Or.inr ⟨_, _, _, _, _, _, _, _, _, by
                unfold inC
                rw [if_neg (by omega), if_neg (show ¬ (by1 f (cb + pc) = 170 ∨ by1 f (cb + pc) = 171) from fun h9 => by unfold swN at n_67; rw [if_pos h9] at n_67; exact absurd n_67 (by decide)), if_pos (by omega), q86_s], rfl, h104, hF109⟩)
      · have c_67 : ¬ ((nI (swN (by1 f (cb + pc)))) = 0) := of_decide_eq_false c_67
        have n_67 : ¬ (swN (by1 f (cb + pc)) = 0) := fun h9 => c_67 ((eq_nI (p := swN (by1 f (cb + pc))) (n := 0) (by omega) (by decide)).mpr h9)
        refine ps_st (S' := (71, [(0, .ref on), (1, .int (nI pc))], [.ref on], M46)) rfl rfl rfl ?_
        refine pl_call (a := [.ref on]) (rest := []) rfl rfl rfl (dk_isSwitchTaken (f := f) (n := n) (on := on) (b := b) (da := da) (cb := cb) (L := L) (y10 := y10) (y11 := y11) (pc := pc) (o := (by1 f (cb + pc))) h47 h50 h51 (hn) (hcl) (hpl) (by unfold swN at n_67; split at n_67; assumption; exact absurd rfl n_67)) (fun v110 M111 q112 => ?_)
        rcases q112 with q112 | q112
        · skip
          obtain ⟨x113, q71_s, q71_l, rfl, h114, f115⟩ := q112
          have h117 := (f115.1 b (nin1 (ob_ne h50 h47 (by decide)))).trans h50
          have h118 := (f115.1 da (nin1 (Ne.symm (ob_ar h47 h51)))).trans h51
          have hF119 := hF52.tr f115 (by simp)
          show pl _ _ _ (74, [(0, .ref on), (1, .int (nI pc))], [.int 1], M111) _
          exact ps_ret rfl rfl (Or.inl ⟨(by1 f (cb + pc), x113.1, x113.2.1, x113.2.2.1, 0, x113.2.2.2, none, some (pdN pc)), by
              unfold inC
              rw [if_neg (by omega), if_pos (by unfold swN at n_67; split at n_67; assumption; exact absurd rfl n_67), q71_s], rfl, h114, hF119⟩)
        · skip
          obtain ⟨z4120, z5121, z6122, z8123, z11124, q71_s, rfl, h125, f126⟩ := q112
          have h128 := (f126.1 b (nin1 (ob_ne h50 h47 (by decide)))).trans h50
          have h129 := (f126.1 da (nin1 (Ne.symm (ob_ar h47 h51)))).trans h51
          have hF130 := hF52.tr f126 (by simp)
          show pl _ _ _ (74, [(0, .ref on), (1, .int (nI pc))], [.int 0], M111) _
          exact ps_ret rfl rfl (Or.inr ⟨_, _, _, _, _, _, _, _, _, by
              unfold inC
              rw [if_neg (by omega), if_pos (by unfold swN at n_67; split at n_67; assumption; exact absurd rfl n_67), q71_s], rfl, h125, hF130⟩)
    · have c_58 : ¬ ((nI (by1 f (cb + pc))) ≤ 201) := of_decide_eq_false c_58
      have n_58 : ¬ (by1 f (cb + pc) ≤ 201) := fun h9 => c_58 ((le_nI (p := by1 f (cb + pc)) (n := 201) (Nat.lt_trans (by1_lt _ _) (by decide)) (by decide)).mpr h9)
      refine ps_st (S' := (62, [], [.int 0], M46)) rfl rfl rfl ?_
      exact ps_ret rfl rfl (Or.inr ⟨_, _, _, _, _, _, _, _, _, by
          unfold inC
          rw [if_pos (by omega)], rfl, h47, hF52⟩)
end
section
set_option maxHeartbeats 1000000 in
theorem dy_dimensionsOf {g : xe_G} {M : mi_H} {f : Nat → Int32} {n N q : Nat} {E : List (Nat × Nat)} {j : Nat}  (hV : PV g f n N E q M) (hj : j < 65536) (ht : tg f E (fi f E j) = 1) : pt (mT g) 116 [.ref q, .int (nI j)] M (fun v M' => (v = some (.int (nI (dmN (tX f n E (fi f E j))))) ∧ M = M')) := by
  refine pt_in (b := mb_116 g) rfl (fun kf => ?_)
  show pl (mT g) kf (mb_116 g).2 (0, [(0, .ref q), (1, .int (nI j))], [], M) _
  have hV0 := hV
  obtain ⟨hL, H, m, qq, F, cc, hP, hT, hB, hb, hF, hS⟩ := hV0
  have h_q := hP.1
  have h_qq_1 := hP.2.1 1 (by decide) (by decide)
  have h_qq_2 := hP.2.1 2 (by decide) (by decide)
  have h_qq_3 := hP.2.1 3 (by decide) (by decide)
  have h_qq_4 := hP.2.1 4 (by decide) (by decide)
  have h_qq_5 := hP.2.1 5 (by decide) (by decide)
  have h_qq_6 := hP.2.2
  have hfi := fi_lt f E j
  have hl8 := tx_len f n E (fi f E j)
  obtain ⟨c0, a1, a2, a3, a4⟩ := hF.2.2.2.2 (fi f E j) ht
  have LL : ∀ (kf : Nat), (∀ (i : Nat), (i ≤ (tX f n E (fi f E j)).length) → (∀ i9, i9 < i → (tX f n E (fi f E j)).getD i9 0 = 91) →  pl (mT g) kf (mb_116 g).2 (8, [(0, .ref q), (2, .int (nI (fi f E j))), (3, .int (nI i))], [], M) (fun v M' => (v = some (.int (nI (dmN (tX f n E (fi f E j))))) ∧ M = M'))) := by
    intro kf
    induction kf with
    | zero => exact (by intros; exact pl_0)
    | succ kf ih =>
      intro i hi hs
      refine ps_st1 (S' := (9, [(0, .ref q), (2, .int (nI (fi f E j))), (3, .int (nI i))], [.int (nI i)], M)) rfl rfl rfl ?_
      refine ps_st (S' := (10, [(0, .ref q), (2, .int (nI (fi f E j))), (3, .int (nI i))], [.ref q, .int (nI i)], M)) rfl rfl rfl ?_
      refine ps_st (S' := (11, [(0, .ref q), (2, .int (nI (fi f E j))), (3, .int (nI i))], [.int (nI (fi f E j)), .ref q, .int (nI i)], M)) rfl rfl rfl ?_
      refine pl_call (a := [.ref q, .int (nI (fi f E j))]) (rest := [.int (nI i)]) rfl rfl rfl (dy_textLength (f := f) (n := n) (N := N) (q := q) (E := E) (j := (fi f E j)) (hV) (fi_lt _ _ _)) (fun v1 M2 q3 => ?_)
      obtain ⟨rfl, rfl⟩ := q3
      show pl _ _ _ (14, [(0, .ref q), (2, .int (nI (fi f E j))), (3, .int (nI i))], [.int (nI ((tX f n E (fi f E j)).length)), .int (nI i)], M) _
      refine ps_if2 (S1 := (41, [(3, .int (nI i))], [], M)) (S2 := (17, [(0, .ref q), (2, .int (nI (fi f E j))), (3, .int (nI i))], [], M)) rfl rfl rfl (fun c_14 => ?_) (fun c_14 => ?_)
      · have c_14 : (nI ((tX f n E (fi f E j)).length)) ≤ (nI i) := of_decide_eq_true c_14
        have n_14 : (tX f n E (fi f E j)).length ≤ i := (le_nI (p := (tX f n E (fi f E j)).length) (n := i) (Nat.lt_trans (tx_len _ _ _ _) (by decide)) (by omega)).mp c_14
        refine ps_st (S' := (42, [(3, .int (nI i))], [.int (nI i)], M)) rfl rfl rfl ?_
        exact ps_reti rfl (⟨by rw [dm_of hi hs (Or.inl (by omega))], rfl⟩)
      · have c_14 : ¬ ((nI ((tX f n E (fi f E j)).length)) ≤ (nI i)) := of_decide_eq_false c_14
        have n_14 : ¬ ((tX f n E (fi f E j)).length ≤ i) := fun h9 => c_14 ((le_nI (p := (tX f n E (fi f E j)).length) (n := i) (Nat.lt_trans (tx_len _ _ _ _) (by decide)) (by omega)).mpr h9)
        refine ps_st (S' := (18, [(0, .ref q), (2, .int (nI (fi f E j))), (3, .int (nI i))], [.ref q], M)) rfl rfl rfl ?_
        refine ps_get (S' := (21, [(0, .ref q), (2, .int (nI (fi f E j))), (3, .int (nI i))], [.ref (qq 6)], M)) rfl h_q rfl rfl ?_
        refine ps_st (S' := (22, [(0, .ref q), (2, .int (nI (fi f E j))), (3, .int (nI i))], [.ref q, .ref (qq 6)], M)) rfl rfl rfl ?_
        refine ps_get (S' := (25, [(0, .ref q), (2, .int (nI (fi f E j))), (3, .int (nI i))], [.ref (qq 3), .ref (qq 6)], M)) rfl h_q rfl rfl ?_
        refine ps_st (S' := (26, [(0, .ref q), (2, .int (nI (fi f E j))), (3, .int (nI i))], [.int (nI (fi f E j)), .ref (qq 3), .ref (qq 6)], M)) rfl rfl rfl ?_
        refine ps_ald (S' := (27, [(0, .ref q), (2, .int (nI (fi f E j))), (3, .int (nI i))], [.int ((F 3) (Int32.toNatClampNeg (nI (fi f E j)))), .ref (qq 6)], M)) rfl h_qq_3 rfl (fun i0_26 i1_26 => ?_)
        rw [show ((F 3) (Int32.toNatClampNeg (nI (fi f E j)))) = (nI c0) from (congrArg (F 3) (nI_toNat (k := fi f E j) (by omega))).trans (a1)]
        show pl _ _ _ (_, [(0, .ref q), (2, .int (nI (fi f E j))), (3, .int (nI i))], [.int (nI c0), .ref (qq 6)], M) _
        refine ps_st (S' := (28, [(0, .ref q), (2, .int (nI (fi f E j))), (3, .int (nI i))], [.int (nI i), .int (nI c0), .ref (qq 6)], M)) rfl rfl rfl ?_
        refine ps_st (S' := (29, [(0, .ref q), (2, .int (nI (fi f E j))), (3, .int (nI i))], [.int ((nI c0) + (nI i)), .ref (qq 6)], M)) rfl rfl rfl ?_
        rw [nI_add1 (p := c0) (k := i) (x := (nI i)) rfl (by omega)]
        show pl _ _ _ (_, [(0, .ref q), (2, .int (nI (fi f E j))), (3, .int (nI i))], [.int (nI (c0 + i)), .ref (qq 6)], M) _
        refine ps_ald (S' := (30, [(0, .ref q), (2, .int (nI (fi f E j))), (3, .int (nI i))], [.int ((F 6) (Int32.toNatClampNeg (nI (c0 + i))))], M)) rfl h_qq_6 rfl (fun i0_29 i1_29 => ?_)
        have hb_29 := tx_ch f n E (fi f E j) i
        rw [show ((F 6) (Int32.toNatClampNeg (nI (c0 + i)))) = (nI ((tX f n E (fi f E j)).getD i 0)) from (congrArg (F 6) (nI_toNat (k := c0 + i) (by omega))).trans (a4 i (by omega))]
        show pl _ _ _ (_, [(0, .ref q), (2, .int (nI (fi f E j))), (3, .int (nI i))], [.int (nI ((tX f n E (fi f E j)).getD i 0))], M) _
        refine ps_st (S' := (32, [(0, .ref q), (2, .int (nI (fi f E j))), (3, .int (nI i))], [.int 91, .int (nI ((tX f n E (fi f E j)).getD i 0))], M)) rfl rfl rfl ?_
        refine ps_if2 (S1 := (41, [(3, .int (nI i))], [], M)) (S2 := (35, [(0, .ref q), (2, .int (nI (fi f E j))), (3, .int (nI i))], [], M)) rfl rfl rfl (fun c_32 => ?_) (fun c_32 => ?_)
        · have c_32 : ¬ (nI ((tX f n E (fi f E j)).getD i 0)) = 91 := of_decide_eq_true c_32
          have n_32 : ¬ ((tX f n E (fi f E j)).getD i 0 = 91) := fun h9 => c_32 ((eq_nI (p := (tX f n E (fi f E j)).getD i 0) (n := 91) (Nat.lt_trans (tx_ch _ _ _ _ _) (by decide)) (by decide)).mpr h9)
          refine ps_st (S' := (42, [(3, .int (nI i))], [.int (nI i)], M)) rfl rfl rfl ?_
          exact ps_reti rfl (⟨by rw [dm_of hi hs (Or.inr (by omega))], rfl⟩)
        · have c_32 : ¬ (¬ (nI ((tX f n E (fi f E j)).getD i 0)) = 91) := of_decide_eq_false c_32
          have n_32 : (tX f n E (fi f E j)).getD i 0 = 91 := (eq_nI (p := (tX f n E (fi f E j)).getD i 0) (n := 91) (Nat.lt_trans (tx_ch _ _ _ _ _) (by decide)) (by decide)).mp (Decidable.not_not.mp c_32)
          refine ps_st (S' := (38, [(3, .int ((nI i) + 1)), (0, .ref q), (2, .int (nI (fi f E j)))], [], M)) rfl rfl rfl ?_
          rw [nI_add1 (p := i) (k := 1) (x := 1) rfl (by omega)]
          show pl _ _ _ (_, [(3, .int (nI (i + 1))), (0, .ref q), (2, .int (nI (fi f E j)))], [], M) _
          refine ps_st (S' := (8, [(0, .ref q), (2, .int (nI (fi f E j))), (3, .int (nI (i + 1)))], [], M)) rfl rfl rfl ?_
          exact ih (i + 1)  (by omega) (fun i9 h9 => (by by_cases e9 : i9 = i; rw [e9]; omega; exact hs i9 (by omega)))
  refine ps_st (S' := (1, [(0, .ref q), (1, .int (nI j))], [.ref q], M)) rfl rfl rfl ?_
  refine ps_st (S' := (2, [(0, .ref q), (1, .int (nI j))], [.int (nI j), .ref q], M)) rfl rfl rfl ?_
  refine pl_call (a := [.ref q, .int (nI j)]) (rest := []) rfl rfl rfl (dy_firstIndex (f := f) (n := n) (N := N) (q := q) (E := E) (j := j) (hV) (by omega)) (fun v4 M5 q6 => ?_)
  obtain ⟨rfl, rfl⟩ := q6
  show pl _ _ _ (5, [(0, .ref q), (1, .int (nI j))], [.int (nI (fi f E j))], M) _
  refine ps_st (S' := (6, [(2, .int (nI (fi f E j))), (0, .ref q), (1, .int (nI j))], [], M)) rfl rfl rfl ?_
  refine ps_st (S' := (7, [(2, .int (nI (fi f E j))), (0, .ref q), (1, .int (nI j))], [.int 0], M)) rfl rfl rfl ?_
  refine ps_st (S' := (8, [(0, .ref q), (2, .int (nI (fi f E j))), (3, .int 0)], [], M)) rfl rfl rfl ?_
  exact (LL kf) (0)  (Nat.zero_le _) (fun i9 h9 => absurd h9 (Nat.not_lt_zero _))
set_option maxHeartbeats 1000000 in
theorem dk_isMethodOfEither {g : xe_G} {M : mi_H} {f : Nat → Int32} {n N q : Nat} {E : List (Nat × Nat)} {cd on b cb L ml mj o v w lp : Nat} {c0 c2 c3 c4 y4 y8 y9 y10 y11 : Int32} {v8 v9 v10 : Value} {t : Nat} (h_cd : M.1 cd = some (ob 4 [.int c0, .int (nI ml), .int c2, .int c3, .int c4, .ref q, .int (nI mj), .ref on, v8, v9, v10])) (h_on : M.1 on = some (ob 5 [.ref b, .int (nI cb), .int (nI L), .int (nI o), .int y4, .int (nI v), .int (nI w), .int (nI lp), .int y8, .int y9, .int y10, .int y11])) (hmj : mj < 65536) (hml : ml < 65536) (ho : o < 256) (hv : v < 65536) (hw : w < 65536) (hlp : lp < 3) (h0 : tg f E 0 = 0) (hCP : CP f n E) (hV : PV g f n N E q M) (ht : t < 256) : pt (mT g) 78 [.ref cd, .int (nI t)] M (fun r9 M' => (r9 = some (.int (nI (meiN mj t))) ∧ M = M')) := by
  refine pt_in (b := mb_78 g) rfl (fun kf => ?_)
  show pl (mT g) kf (mb_78 g).2 (0, [(0, .ref cd), (1, .int (nI t))], [], M) _
  refine ps_st (S' := (1, [(0, .ref cd), (1, .int (nI t))], [.int (nI t)], M)) rfl rfl rfl ?_
  refine ps_st (S' := (3, [(0, .ref cd), (1, .int (nI t))], [.int 10, .int (nI t)], M)) rfl rfl rfl ?_
  refine ps_if2 (S1 := (21, [], [], M)) (S2 := (6, [(0, .ref cd), (1, .int (nI t))], [], M)) rfl rfl rfl (fun c_3 => ?_) (fun c_3 => ?_)
  · have c_3 : (nI t) = 10 := of_decide_eq_true c_3
    have n_3 : t = 10 := (eq_nI (p := t) (n := 10) (by omega) (by decide)).mp c_3
    refine ps_st (S' := (22, [], [.int 1], M)) rfl rfl rfl ?_
    refine ps_st (S' := (26, [], [.int 1], M)) rfl rfl rfl ?_
    exact ps_ret rfl rfl (⟨congrArg (fun x => some (Value.int (nI x))) (show 1 = meiN mj t from by unfold meiN; first | ((repeat first | rw [if_pos (by omega)] | rw [if_neg (by omega)]) <;> first | rfl | omega) | ((repeat' split) <;> first | rfl | (exfalso; omega) | omega)), rfl⟩)
  · have c_3 : ¬ ((nI t) = 10) := of_decide_eq_false c_3
    have n_3 : ¬ (t = 10) := fun h9 => c_3 ((eq_nI (p := t) (n := 10) (by omega) (by decide)).mpr h9)
    refine ps_st (S' := (7, [(0, .ref cd), (1, .int (nI t))], [.int (nI t)], M)) rfl rfl rfl ?_
    refine ps_st (S' := (9, [(0, .ref cd), (1, .int (nI t))], [.int 11, .int (nI t)], M)) rfl rfl rfl ?_
    refine ps_if2 (S1 := (25, [], [], M)) (S2 := (12, [(0, .ref cd), (1, .int (nI t))], [], M)) rfl rfl rfl (fun c_9 => ?_) (fun c_9 => ?_)
    · have c_9 : ¬ (nI t) = 11 := of_decide_eq_true c_9
      have n_9 : ¬ (t = 11) := fun h9 => c_9 ((eq_nI (p := t) (n := 11) (by omega) (by decide)).mpr h9)
      refine ps_st (S' := (26, [], [.int 0], M)) rfl rfl rfl ?_
      exact ps_ret rfl rfl (⟨congrArg (fun x => some (Value.int (nI x))) (show 0 = meiN mj t from by unfold meiN; first | ((repeat first | rw [if_pos (by omega)] | rw [if_neg (by omega)]) <;> first | rfl | omega) | ((repeat' split) <;> first | rfl | (exfalso; omega) | omega)), rfl⟩)
    · have c_9 : ¬ (¬ (nI t) = 11) := of_decide_eq_false c_9
      have n_9 : t = 11 := (eq_nI (p := t) (n := 11) (by omega) (by decide)).mp (Decidable.not_not.mp c_9)
      refine ps_st (S' := (13, [(0, .ref cd), (1, .int (nI t))], [.ref cd], M)) rfl rfl rfl ?_
      refine ps_get (S' := (16, [(0, .ref cd), (1, .int (nI t))], [.int (nI mj)], M)) rfl h_cd rfl rfl ?_
      refine ps_st (S' := (18, [(0, .ref cd), (1, .int (nI t))], [.int 52, .int (nI mj)], M)) rfl rfl rfl ?_
      refine ps_if2 (S1 := (25, [], [], M)) (S2 := (21, [], [], M)) rfl rfl rfl (fun c_18 => ?_) (fun c_18 => ?_)
      · have c_18 : (nI mj) < 52 := of_decide_eq_true c_18
        have n_18 : mj < 52 := (lt_nI (p := mj) (n := 52) (by omega) (by decide)).mp c_18
        refine ps_st (S' := (26, [], [.int 0], M)) rfl rfl rfl ?_
        exact ps_ret rfl rfl (⟨congrArg (fun x => some (Value.int (nI x))) (show 0 = meiN mj t from by unfold meiN; first | ((repeat first | rw [if_pos (by omega)] | rw [if_neg (by omega)]) <;> first | rfl | omega) | ((repeat' split) <;> first | rfl | (exfalso; omega) | omega)), rfl⟩)
      · have c_18 : ¬ ((nI mj) < 52) := of_decide_eq_false c_18
        have n_18 : ¬ (mj < 52) := fun h9 => c_18 ((lt_nI (p := mj) (n := 52) (by omega) (by decide)).mpr h9)
        refine ps_st (S' := (22, [], [.int 1], M)) rfl rfl rfl ?_
        refine ps_st (S' := (26, [], [.int 1], M)) rfl rfl rfl ?_
        exact ps_ret rfl rfl (⟨congrArg (fun x => some (Value.int (nI x))) (show 1 = meiN mj t from by unfold meiN; first | ((repeat first | rw [if_pos (by omega)] | rw [if_neg (by omega)]) <;> first | rfl | omega) | ((repeat' split) <;> first | rfl | (exfalso; omega) | omega)), rfl⟩)
set_option maxHeartbeats 1000000 in
theorem dk_isLoadedByLdc {g : xe_G} {M : mi_H} {f : Nat → Int32} {n N q : Nat} {E : List (Nat × Nat)} {cd on b cb L ml mj o v w lp : Nat} {c0 c2 c3 c4 y4 y8 y9 y10 y11 : Int32} {v8 v9 v10 : Value} {t : Nat} (h_cd : M.1 cd = some (ob 4 [.int c0, .int (nI ml), .int c2, .int c3, .int c4, .ref q, .int (nI mj), .ref on, v8, v9, v10])) (h_on : M.1 on = some (ob 5 [.ref b, .int (nI cb), .int (nI L), .int (nI o), .int y4, .int (nI v), .int (nI w), .int (nI lp), .int y8, .int y9, .int y10, .int y11])) (hmj : mj < 65536) (hml : ml < 65536) (ho : o < 256) (hv : v < 65536) (hw : w < 65536) (hlp : lp < 3) (h0 : tg f E 0 = 0) (hCP : CP f n E) (hV : PV g f n N E q M) (ht : t < 256) : pt (mT g) 77 [.ref cd, .int (nI t)] M (fun r9 M' => (r9 = some (.int (nI (ld1N f n E mj v t))) ∧ M = M')) := by
  refine pt_in (b := mb_77 g) rfl (fun kf => ?_)
  show pl (mT g) kf (mb_77 g).2 (0, [(0, .ref cd), (1, .int (nI t))], [], M) _
  refine ps_st (S' := (1, [(0, .ref cd), (1, .int (nI t))], [.int (nI t)], M)) rfl rfl rfl ?_
  refine pl_sw rfl (fun t_1 et_1 => ?_)
  have ht_1 : t_1 ∈ [76, 78, 93, 108, 148] := mi_sw_sub et_1 (by decide)
  simp only [List.mem_cons, List.not_mem_nil, or_false] at ht_1
  rcases ht_1 with rfl | rfl | rfl | rfl | rfl
  · show pl _ _ _ (76, [(0, .ref cd), (1, .int (nI t))], [], M) _
    have m_1 := sw_nat (t := t) (by omega) et_1
    simp at m_1
    refine ps_st (S' := (77, [(0, .ref cd), (1, .int (nI t))], [.int 1], M)) rfl rfl rfl ?_
    exact ps_ret rfl rfl (⟨congrArg (fun x => some (Value.int (nI x))) (show 1 = ld1N f n E mj v t from by unfold ld1N; repeat first | rw [if_pos (by omega)] | rw [if_neg (by omega)]), rfl⟩)
  · show pl _ _ _ (78, [(0, .ref cd), (1, .int (nI t))], [], M) _
    have m_1 := sw_nat (t := t) (by omega) et_1
    simp at m_1
    refine ps_st (S' := (79, [(0, .ref cd), (1, .int (nI t))], [.ref cd], M)) rfl rfl rfl ?_
    refine ps_get (S' := (82, [(0, .ref cd), (1, .int (nI t))], [.int (nI mj)], M)) rfl h_cd rfl rfl ?_
    refine ps_st (S' := (84, [(0, .ref cd), (1, .int (nI t))], [.int 49, .int (nI mj)], M)) rfl rfl rfl ?_
    refine ps_if2 (S1 := (91, [(0, .ref cd), (1, .int (nI t))], [], M)) (S2 := (87, [(0, .ref cd), (1, .int (nI t))], [], M)) rfl rfl rfl (fun c_84 => ?_) (fun c_84 => ?_)
    · have c_84 : (nI mj) < 49 := of_decide_eq_true c_84
      have n_84 : mj < 49 := (lt_nI (p := mj) (n := 49) (by omega) (by decide)).mp c_84
      refine ps_st (S' := (92, [], [.int 0], M)) rfl rfl rfl ?_
      exact ps_ret rfl rfl (⟨congrArg (fun x => some (Value.int (nI x))) (show 0 = ld1N f n E mj v t from by unfold ld1N; repeat first | rw [if_pos (by omega)] | rw [if_neg (by omega)]), rfl⟩)
    · have c_84 : ¬ ((nI mj) < 49) := of_decide_eq_false c_84
      have n_84 : ¬ (mj < 49) := fun h9 => c_84 ((lt_nI (p := mj) (n := 49) (by omega) (by decide)).mpr h9)
      refine ps_st (S' := (88, [(0, .ref cd), (1, .int (nI t))], [.int 1], M)) rfl rfl rfl ?_
      refine ps_st (S' := (92, [], [.int 1], M)) rfl rfl rfl ?_
      exact ps_ret rfl rfl (⟨congrArg (fun x => some (Value.int (nI x))) (show 1 = ld1N f n E mj v t from by unfold ld1N; repeat first | rw [if_pos (by omega)] | rw [if_neg (by omega)]), rfl⟩)
  · show pl _ _ _ (93, [(0, .ref cd), (1, .int (nI t))], [], M) _
    have m_1 := sw_nat (t := t) (by omega) et_1
    simp at m_1
    refine ps_st (S' := (94, [(0, .ref cd), (1, .int (nI t))], [.ref cd], M)) rfl rfl rfl ?_
    refine ps_get (S' := (97, [(0, .ref cd), (1, .int (nI t))], [.int (nI mj)], M)) rfl h_cd rfl rfl ?_
    refine ps_st (S' := (99, [(0, .ref cd), (1, .int (nI t))], [.int 51, .int (nI mj)], M)) rfl rfl rfl ?_
    refine ps_if2 (S1 := (106, [(0, .ref cd), (1, .int (nI t))], [], M)) (S2 := (102, [(0, .ref cd), (1, .int (nI t))], [], M)) rfl rfl rfl (fun c_99 => ?_) (fun c_99 => ?_)
    · have c_99 : (nI mj) < 51 := of_decide_eq_true c_99
      have n_99 : mj < 51 := (lt_nI (p := mj) (n := 51) (by omega) (by decide)).mp c_99
      refine ps_st (S' := (107, [], [.int 0], M)) rfl rfl rfl ?_
      exact ps_ret rfl rfl (⟨congrArg (fun x => some (Value.int (nI x))) (show 0 = ld1N f n E mj v t from by unfold ld1N; repeat first | rw [if_pos (by omega)] | rw [if_neg (by omega)]), rfl⟩)
    · have c_99 : ¬ ((nI mj) < 51) := of_decide_eq_false c_99
      have n_99 : ¬ (mj < 51) := fun h9 => c_99 ((lt_nI (p := mj) (n := 51) (by omega) (by decide)).mpr h9)
      refine ps_st (S' := (103, [(0, .ref cd), (1, .int (nI t))], [.int 1], M)) rfl rfl rfl ?_
      refine ps_st (S' := (107, [], [.int 1], M)) rfl rfl rfl ?_
      exact ps_ret rfl rfl (⟨congrArg (fun x => some (Value.int (nI x))) (show 1 = ld1N f n E mj v t from by unfold ld1N; repeat first | rw [if_pos (by omega)] | rw [if_neg (by omega)]), rfl⟩)
  · show pl _ _ _ (108, [(0, .ref cd), (1, .int (nI t))], [], M) _
    have m_1 := sw_nat (t := t) (by omega) et_1
    simp at m_1
    refine ps_st (S' := (109, [(0, .ref cd), (1, .int (nI t))], [.ref cd], M)) rfl rfl rfl ?_
    refine ps_get (S' := (112, [(0, .ref cd), (1, .int (nI t))], [.int (nI mj)], M)) rfl h_cd rfl rfl ?_
    refine ps_st (S' := (114, [(0, .ref cd), (1, .int (nI t))], [.int 55, .int (nI mj)], M)) rfl rfl rfl ?_
    refine ps_if2 (S1 := (146, [], [], M)) (S2 := (117, [(0, .ref cd), (1, .int (nI t))], [], M)) rfl rfl rfl (fun c_114 => ?_) (fun c_114 => ?_)
    · have c_114 : (nI mj) < 55 := of_decide_eq_true c_114
      have n_114 : mj < 55 := (lt_nI (p := mj) (n := 55) (by omega) (by decide)).mp c_114
      refine ps_st (S' := (147, [], [.int 0], M)) rfl rfl rfl ?_
      exact ps_ret rfl rfl (⟨congrArg (fun x => some (Value.int (nI x))) (show 0 = ld1N f n E mj v t from by unfold ld1N; repeat first | rw [if_pos (by omega)] | rw [if_neg (by omega)]), rfl⟩)
    · have c_114 : ¬ ((nI mj) < 55) := of_decide_eq_false c_114
      have n_114 : ¬ (mj < 55) := fun h9 => c_114 ((lt_nI (p := mj) (n := 55) (by omega) (by decide)).mpr h9)
      refine ps_st (S' := (118, [(0, .ref cd), (1, .int (nI t))], [.ref cd], M)) rfl rfl rfl ?_
      refine ps_get (S' := (121, [(0, .ref cd), (1, .int (nI t))], [.ref q], M)) rfl h_cd rfl rfl ?_
      refine ps_st (S' := (122, [(0, .ref cd), (1, .int (nI t))], [.ref cd, .ref q], M)) rfl rfl rfl ?_
      refine ps_get (S' := (125, [(0, .ref cd), (1, .int (nI t))], [.ref q, .ref q], M)) rfl h_cd rfl rfl ?_
      refine ps_st (S' := (126, [(0, .ref cd), (1, .int (nI t))], [.ref cd, .ref q, .ref q], M)) rfl rfl rfl ?_
      refine ps_get (S' := (129, [(0, .ref cd), (1, .int (nI t))], [.ref on, .ref q, .ref q], M)) rfl h_cd rfl rfl ?_
      refine ps_get (S' := (132, [(0, .ref cd), (1, .int (nI t))], [.int (nI v), .ref q, .ref q], M)) rfl h_on rfl rfl ?_
      refine pl_call (a := [.ref q, .int (nI v)]) (rest := [.ref q]) rfl rfl rfl (dy_descriptorOf (f := f) (n := n) (N := N) (q := q) (E := E) (j := v) (hV) (hv)) (fun v1 M2 q3 => ?_)
      obtain ⟨rfl, rfl⟩ := q3
      show pl _ _ _ (135, [(0, .ref cd), (1, .int (nI t))], [.int (nI (se f E (se f E v))), .ref q], M) _
      have hse := se_lt f E (se f E v)
      refine pl_call (a := [.ref q, .int (nI (se f E (se f E v)))]) (rest := []) rfl rfl rfl (dz_placesTold (f := f) (n := n) (N := N) (q := q) (E := E) (k := (nI (se f E (se f E v)))) (hV) (h0)) (fun v4 M5 q6 => ?_)
      obtain ⟨rfl, rfl⟩ := q6
      show pl _ _ _ (138, [(0, .ref cd), (1, .int (nI t))], [.int (plX f n E (nI (se f E (se f E v))))], M) _
      have hdc : dcI f n E v = plX f n E (nI (se f E (se f E v))) := rfl
      refine ps_st (S' := (139, [(0, .ref cd), (1, .int (nI t))], [.int 1, .int (plX f n E (nI (se f E (se f E v))))], M)) rfl rfl rfl ?_
      refine ps_if2 (S1 := (146, [], [], M)) (S2 := (142, [(0, .ref cd), (1, .int (nI t))], [], M)) rfl rfl rfl (fun c_139 => ?_) (fun c_139 => ?_)
      · have c_139 : ¬ (plX f n E (nI (se f E (se f E v)))) = 1 := of_decide_eq_true c_139
        refine ps_st (S' := (147, [], [.int 0], M)) rfl rfl rfl ?_
        have hdv : ¬ dcI f n E v = 1 := by rw [hdc]; exact c_139
        exact ps_ret rfl rfl (⟨congrArg (fun x => some (Value.int (nI x))) (show 0 = ld1N f n E mj v t from by unfold ld1N; repeat first | rw [if_pos (by omega)] | rw [if_neg (by omega)] | rw [if_neg (fun h9 => hdv h9.2)]), rfl⟩)
      · have c_139 : ¬ (¬ (plX f n E (nI (se f E (se f E v)))) = 1) := of_decide_eq_false c_139
        refine ps_st (S' := (143, [(0, .ref cd), (1, .int (nI t))], [.int 1], M)) rfl rfl rfl ?_
        refine ps_st (S' := (147, [], [.int 1], M)) rfl rfl rfl ?_
        have hdv : dcI f n E v = 1 := by rw [hdc]; exact Decidable.not_not.mp c_139
        exact ps_ret rfl rfl (⟨congrArg (fun x => some (Value.int (nI x))) (show 1 = ld1N f n E mj v t from by unfold ld1N; repeat first | rw [if_pos (by omega)] | rw [if_neg (by omega)] | rw [if_pos ⟨by omega, hdv⟩]), rfl⟩)
  · show pl _ _ _ (148, [(0, .ref cd), (1, .int (nI t))], [], M) _
    have m_1 := sw_nat (t := t) (by omega) et_1
    simp at m_1
    refine ps_st (S' := (149, [(0, .ref cd), (1, .int (nI t))], [.int 0], M)) rfl rfl rfl ?_
    exact ps_ret rfl rfl (⟨congrArg (fun x => some (Value.int (nI x))) (show 0 = ld1N f n E mj v t from by unfold ld1N; repeat first | rw [if_pos (by omega)] | rw [if_neg (by omega)]), rfl⟩)
set_option maxHeartbeats 1000000 in
theorem dk_isOfTwoPlaces {g : xe_G} {M : mi_H} {f : Nat → Int32} {n N q : Nat} {E : List (Nat × Nat)} {cd on b cb L ml mj o v w lp : Nat} {c0 c2 c3 c4 y4 y8 y9 y10 y11 : Int32} {v8 v9 v10 : Value} {t : Nat} (h_cd : M.1 cd = some (ob 4 [.int c0, .int (nI ml), .int c2, .int c3, .int c4, .ref q, .int (nI mj), .ref on, v8, v9, v10])) (h_on : M.1 on = some (ob 5 [.ref b, .int (nI cb), .int (nI L), .int (nI o), .int y4, .int (nI v), .int (nI w), .int (nI lp), .int y8, .int y9, .int y10, .int y11])) (hmj : mj < 65536) (hml : ml < 65536) (ho : o < 256) (hv : v < 65536) (hw : w < 65536) (hlp : lp < 3) (h0 : tg f E 0 = 0) (hCP : CP f n E) (hV : PV g f n N E q M) (ht : t < 256) : pt (mT g) 79 [.ref cd, .int (nI t)] M (fun r9 M' => (r9 = some (.int (nI (ld2N f n E v t))) ∧ M = M')) := by
  refine pt_in (b := mb_79 g) rfl (fun kf => ?_)
  show pl (mT g) kf (mb_79 g).2 (0, [(0, .ref cd), (1, .int (nI t))], [], M) _
  refine ps_st (S' := (1, [(0, .ref cd), (1, .int (nI t))], [.int (nI t)], M)) rfl rfl rfl ?_
  refine ps_st (S' := (2, [(0, .ref cd), (1, .int (nI t))], [.int 5, .int (nI t)], M)) rfl rfl rfl ?_
  refine ps_if2 (S1 := (42, [], [], M)) (S2 := (5, [(0, .ref cd), (1, .int (nI t))], [], M)) rfl rfl rfl (fun c_2 => ?_) (fun c_2 => ?_)
  · have c_2 : (nI t) = 5 := of_decide_eq_true c_2
    have n_2 : t = 5 := (eq_nI (p := t) (n := 5) (by omega) (by decide)).mp c_2
    refine ps_st (S' := (43, [], [.int 1], M)) rfl rfl rfl ?_
    refine ps_st (S' := (47, [], [.int 1], M)) rfl rfl rfl ?_
    exact ps_ret rfl rfl (⟨congrArg (fun x => some (Value.int (nI x))) (show 1 = ld2N f n E v t from by unfold ld2N; repeat first | rw [if_pos (by omega)] | rw [if_neg (by omega)]), rfl⟩)
  · have c_2 : ¬ ((nI t) = 5) := of_decide_eq_false c_2
    have n_2 : ¬ (t = 5) := fun h9 => c_2 ((eq_nI (p := t) (n := 5) (by omega) (by decide)).mpr h9)
    refine ps_st (S' := (6, [(0, .ref cd), (1, .int (nI t))], [.int (nI t)], M)) rfl rfl rfl ?_
    refine ps_st (S' := (8, [(0, .ref cd), (1, .int (nI t))], [.int 6, .int (nI t)], M)) rfl rfl rfl ?_
    refine ps_if2 (S1 := (42, [], [], M)) (S2 := (11, [(0, .ref cd), (1, .int (nI t))], [], M)) rfl rfl rfl (fun c_8 => ?_) (fun c_8 => ?_)
    · have c_8 : (nI t) = 6 := of_decide_eq_true c_8
      have n_8 : t = 6 := (eq_nI (p := t) (n := 6) (by omega) (by decide)).mp c_8
      refine ps_st (S' := (43, [], [.int 1], M)) rfl rfl rfl ?_
      refine ps_st (S' := (47, [], [.int 1], M)) rfl rfl rfl ?_
      exact ps_ret rfl rfl (⟨congrArg (fun x => some (Value.int (nI x))) (show 1 = ld2N f n E v t from by unfold ld2N; repeat first | rw [if_pos (by omega)] | rw [if_neg (by omega)]), rfl⟩)
    · have c_8 : ¬ ((nI t) = 6) := of_decide_eq_false c_8
      have n_8 : ¬ (t = 6) := fun h9 => c_8 ((eq_nI (p := t) (n := 6) (by omega) (by decide)).mpr h9)
      refine ps_st (S' := (12, [(0, .ref cd), (1, .int (nI t))], [.int (nI t)], M)) rfl rfl rfl ?_
      refine ps_st (S' := (14, [(0, .ref cd), (1, .int (nI t))], [.int 17, .int (nI t)], M)) rfl rfl rfl ?_
      refine ps_if2 (S1 := (46, [], [], M)) (S2 := (17, [(0, .ref cd), (1, .int (nI t))], [], M)) rfl rfl rfl (fun c_14 => ?_) (fun c_14 => ?_)
      · have c_14 : ¬ (nI t) = 17 := of_decide_eq_true c_14
        have n_14 : ¬ (t = 17) := fun h9 => c_14 ((eq_nI (p := t) (n := 17) (by omega) (by decide)).mpr h9)
        refine ps_st (S' := (47, [], [.int 0], M)) rfl rfl rfl ?_
        exact ps_ret rfl rfl (⟨congrArg (fun x => some (Value.int (nI x))) (show 0 = ld2N f n E v t from by unfold ld2N; repeat first | rw [if_pos (by omega)] | rw [if_neg (by omega)]), rfl⟩)
      · have c_14 : ¬ (¬ (nI t) = 17) := of_decide_eq_false c_14
        have n_14 : t = 17 := (eq_nI (p := t) (n := 17) (by omega) (by decide)).mp (Decidable.not_not.mp c_14)
        refine ps_st (S' := (18, [(0, .ref cd), (1, .int (nI t))], [.ref cd], M)) rfl rfl rfl ?_
        refine ps_get (S' := (21, [(0, .ref cd), (1, .int (nI t))], [.ref q], M)) rfl h_cd rfl rfl ?_
        refine ps_st (S' := (22, [(0, .ref cd), (1, .int (nI t))], [.ref cd, .ref q], M)) rfl rfl rfl ?_
        refine ps_get (S' := (25, [(0, .ref cd), (1, .int (nI t))], [.ref q, .ref q], M)) rfl h_cd rfl rfl ?_
        refine ps_st (S' := (26, [(0, .ref cd), (1, .int (nI t))], [.ref cd, .ref q, .ref q], M)) rfl rfl rfl ?_
        refine ps_get (S' := (29, [(0, .ref cd), (1, .int (nI t))], [.ref on, .ref q, .ref q], M)) rfl h_cd rfl rfl ?_
        refine ps_get (S' := (32, [(0, .ref cd), (1, .int (nI t))], [.int (nI v), .ref q, .ref q], M)) rfl h_on rfl rfl ?_
        refine pl_call (a := [.ref q, .int (nI v)]) (rest := [.ref q]) rfl rfl rfl (dy_descriptorOf (f := f) (n := n) (N := N) (q := q) (E := E) (j := v) (hV) (hv)) (fun v1 M2 q3 => ?_)
        obtain ⟨rfl, rfl⟩ := q3
        show pl _ _ _ (35, [(0, .ref cd), (1, .int (nI t))], [.int (nI (se f E (se f E v))), .ref q], M) _
        have hse := se_lt f E (se f E v)
        refine pl_call (a := [.ref q, .int (nI (se f E (se f E v)))]) (rest := []) rfl rfl rfl (dz_placesTold (f := f) (n := n) (N := N) (q := q) (E := E) (k := (nI (se f E (se f E v)))) (hV) (h0)) (fun v4 M5 q6 => ?_)
        obtain ⟨rfl, rfl⟩ := q6
        show pl _ _ _ (38, [(0, .ref cd), (1, .int (nI t))], [.int (plX f n E (nI (se f E (se f E v))))], M) _
        have hdc : dcI f n E v = plX f n E (nI (se f E (se f E v))) := rfl
        refine ps_st (S' := (39, [(0, .ref cd), (1, .int (nI t))], [.int 2, .int (plX f n E (nI (se f E (se f E v))))], M)) rfl rfl rfl ?_
        refine ps_if2 (S1 := (46, [], [], M)) (S2 := (42, [], [], M)) rfl rfl rfl (fun c_39 => ?_) (fun c_39 => ?_)
        · have c_39 : ¬ (plX f n E (nI (se f E (se f E v)))) = 2 := of_decide_eq_true c_39
          refine ps_st (S' := (47, [], [.int 0], M)) rfl rfl rfl ?_
          have hdv : ¬ dcI f n E v = 2 := by rw [hdc]; exact c_39
          exact ps_ret rfl rfl (⟨congrArg (fun x => some (Value.int (nI x))) (show 0 = ld2N f n E v t from by unfold ld2N; repeat first | rw [if_pos (by omega)] | rw [if_neg (by omega)] | rw [if_neg (fun h9 => hdv h9.2)]), rfl⟩)
        · have c_39 : ¬ (¬ (plX f n E (nI (se f E (se f E v)))) = 2) := of_decide_eq_false c_39
          refine ps_st (S' := (43, [], [.int 1], M)) rfl rfl rfl ?_
          refine ps_st (S' := (47, [], [.int 1], M)) rfl rfl rfl ?_
          have hdv : dcI f n E v = 2 := by rw [hdc]; exact Decidable.not_not.mp c_39
          exact ps_ret rfl rfl (⟨congrArg (fun x => some (Value.int (nI x))) (show 1 = ld2N f n E v t from by unfold ld2N; repeat first | rw [if_pos (by omega)] | rw [if_neg (by omega)] | rw [if_pos ⟨by omega, hdv⟩]), rfl⟩)
set_option maxHeartbeats 1000000 in
theorem dk_callHolds {g : xe_G} {M : mi_H} {f : Nat → Int32} {n N q : Nat} {E : List (Nat × Nat)} {cd on b cb L ml mj o v w lp : Nat} {c0 c2 c3 c4 y4 y8 y9 y10 y11 : Int32} {v8 v9 v10 : Value} {t : Nat} (h_cd : M.1 cd = some (ob 4 [.int c0, .int (nI ml), .int c2, .int c3, .int c4, .ref q, .int (nI mj), .ref on, v8, v9, v10])) (h_on : M.1 on = some (ob 5 [.ref b, .int (nI cb), .int (nI L), .int (nI o), .int y4, .int (nI v), .int (nI w), .int (nI lp), .int y8, .int y9, .int y10, .int y11])) (hmj : mj < 65536) (hml : ml < 65536) (ho : o < 256) (hv : v < 65536) (hw : w < 65536) (hlp : lp < 3) (h0 : tg f E 0 = 0) (hCP : CP f n E) (hV : PV g f n N E q M) (ht : t < 256) : pt (mT g) 75 [.ref cd, .int (nI t)] M (fun r9 M' => (r9 = some (.int (nI (caN f n E mj o v w t))) ∧ M = M')) := by
  refine pt_in (b := mb_75 g) rfl (fun kf => ?_)
  show pl (mT g) kf (mb_75 g).2 (0, [(0, .ref cd), (1, .int (nI t))], [], M) _
  refine ps_st (S' := (1, [(0, .ref cd), (1, .int (nI t))], [.ref cd], M)) rfl rfl rfl ?_
  refine ps_get (S' := (4, [(0, .ref cd), (1, .int (nI t))], [.ref on], M)) rfl h_cd rfl rfl ?_
  refine ps_get (S' := (7, [(0, .ref cd), (1, .int (nI t))], [.int (nI o)], M)) rfl h_on rfl rfl ?_
  refine pl_sw rfl (fun t_7 et_7 => ?_)
  have ht_7 : t_7 ∈ [40, 69, 75, 106, 151, 163] := mi_sw_sub et_7 (by decide)
  simp only [List.mem_cons, List.not_mem_nil, or_false] at ht_7
  rcases ht_7 with rfl | rfl | rfl | rfl | rfl | rfl
  · show pl _ _ _ (40, [(0, .ref cd), (1, .int (nI t))], [], M) _
    have m_7 := sw_nat (t := o) (by omega) et_7
    simp at m_7
    refine ps_st (S' := (41, [(0, .ref cd), (1, .int (nI t))], [.int (nI t)], M)) rfl rfl rfl ?_
    refine ps_st (S' := (43, [(0, .ref cd), (1, .int (nI t))], [.int 10, .int (nI t)], M)) rfl rfl rfl ?_
    refine ps_if2 (S1 := (67, [], [], M)) (S2 := (46, [(0, .ref cd), (1, .int (nI t))], [], M)) rfl rfl rfl (fun c_43 => ?_) (fun c_43 => ?_)
    · have c_43 : ¬ (nI t) = 10 := of_decide_eq_true c_43
      have n_43 : ¬ (t = 10) := fun h9 => c_43 ((eq_nI (p := t) (n := 10) (by omega) (by decide)).mpr h9)
      refine ps_st (S' := (68, [], [.int 0], M)) rfl rfl rfl ?_
      exact ps_ret rfl rfl (⟨congrArg (fun x => some (Value.int (nI x))) (show 0 = caN f n E mj o v w t from by unfold caN; first | ((repeat first | rw [if_pos (by omega)] | rw [if_neg (by omega)]) <;> first | rfl | omega) | ((repeat' split) <;> first | rfl | (exfalso; omega) | omega)), rfl⟩)
    · have c_43 : ¬ (¬ (nI t) = 10) := of_decide_eq_false c_43
      have n_43 : t = 10 := (eq_nI (p := t) (n := 10) (by omega) (by decide)).mp (Decidable.not_not.mp c_43)
      refine ps_st (S' := (47, [(0, .ref cd), (1, .int (nI t))], [.ref cd], M)) rfl rfl rfl ?_
      refine ps_get (S' := (50, [(0, .ref cd), (1, .int (nI t))], [.ref q], M)) rfl h_cd rfl rfl ?_
      refine ps_st (S' := (51, [(0, .ref cd), (1, .int (nI t))], [.ref cd, .ref q], M)) rfl rfl rfl ?_
      refine ps_get (S' := (54, [(0, .ref cd), (1, .int (nI t))], [.ref on, .ref q], M)) rfl h_cd rfl rfl ?_
      refine ps_get (S' := (57, [(0, .ref cd), (1, .int (nI t))], [.int (nI v), .ref q], M)) rfl h_on rfl rfl ?_
      refine pl_call (a := [.ref q, .int (nI v)]) (rest := []) rfl rfl rfl (dy_namesInit (f := f) (n := n) (N := N) (q := q) (E := E) (j := v) (hV) (hv)) (fun v1 M2 q3 => ?_)
      obtain ⟨rfl, rfl⟩ := q3
      show pl _ _ _ (60, [(0, .ref cd), (1, .int (nI t))], [.int (nI (eqN (tX f n E (fi f E (se f E v))) (ltx 14)))], M) _
      have hni := le1_eq (tX f n E (fi f E (se f E v))) (ltx 14)
      have hnd : niN f n E v = eqN (tX f n E (fi f E (se f E v))) (ltx 14) := rfl
      refine ps_if (S1 := (67, [], [], M)) (S2 := (63, [(0, .ref cd), (1, .int (nI t))], [], M)) rfl rfl rfl (fun c_60 => ?_) (fun c_60 => ?_)
      · have c_60 : ¬ (nI (eqN (tX f n E (fi f E (se f E v))) (ltx 14))) = 0 := of_decide_eq_true c_60
        have n_60 : ¬ (eqN (tX f n E (fi f E (se f E v))) (ltx 14) = 0) := fun h9 => c_60 ((eq_nI (p := eqN (tX f n E (fi f E (se f E v))) (ltx 14)) (n := 0) (Nat.lt_trans (le1_eq _ _) (by decide)) (by decide)).mpr h9)
        refine ps_st (S' := (68, [], [.int 0], M)) rfl rfl rfl ?_
        exact ps_ret rfl rfl (⟨congrArg (fun x => some (Value.int (nI x))) (show 0 = caN f n E mj o v w t from by unfold caN; first | ((repeat first | rw [if_pos (by omega)] | rw [if_neg (by omega)]) <;> first | rfl | omega) | ((repeat' split) <;> first | rfl | (exfalso; omega) | omega)), rfl⟩)
      · have c_60 : ¬ (¬ (nI (eqN (tX f n E (fi f E (se f E v))) (ltx 14))) = 0) := of_decide_eq_false c_60
        have n_60 : eqN (tX f n E (fi f E (se f E v))) (ltx 14) = 0 := (eq_nI (p := eqN (tX f n E (fi f E (se f E v))) (ltx 14)) (n := 0) (Nat.lt_trans (le1_eq _ _) (by decide)) (by decide)).mp (Decidable.not_not.mp c_60)
        refine ps_st (S' := (64, [(0, .ref cd), (1, .int (nI t))], [.int 1], M)) rfl rfl rfl ?_
        refine ps_st (S' := (68, [], [.int 1], M)) rfl rfl rfl ?_
        exact ps_ret rfl rfl (⟨congrArg (fun x => some (Value.int (nI x))) (show 1 = caN f n E mj o v w t from by unfold caN; first | ((repeat first | rw [if_pos (by omega)] | rw [if_neg (by omega)]) <;> first | rfl | omega) | ((repeat' split) <;> first | rfl | (exfalso; omega) | omega)), rfl⟩)
  · show pl _ _ _ (69, [(0, .ref cd), (1, .int (nI t))], [], M) _
    have m_7 := sw_nat (t := o) (by omega) et_7
    simp at m_7
    refine ps_st (S' := (70, [(0, .ref cd), (1, .int (nI t))], [.ref cd], M)) rfl rfl rfl ?_
    refine ps_st (S' := (71, [(0, .ref cd), (1, .int (nI t))], [.int (nI t), .ref cd], M)) rfl rfl rfl ?_
    refine pl_call (a := [.ref cd, .int (nI t)]) (rest := []) rfl rfl rfl (dk_isMethodOfEither (f := f) (n := n) (N := N) (q := q) (E := E) (cd := cd) (on := on) (b := b) (cb := cb) (L := L) (ml := ml) (mj := mj) (o := o) (v := v) (w := w) (lp := lp) (c0 := c0) (c2 := c2) (c3 := c3) (c4 := c4) (y4 := y4) (y8 := y8) (y9 := y9) (y10 := y10) (y11 := y11) (v8 := v8) (v9 := v9) (v10 := v10) (t := t) h_cd h_on (hmj) (hml) (ho) (hv) (hw) (hlp) (h0) (hCP) (hV) (ht)) (fun v4 M5 q6 => ?_)
    obtain ⟨rfl, rfl⟩ := q6
    show pl _ _ _ (74, [(0, .ref cd), (1, .int (nI t))], [.int (nI (meiN mj t))], M) _
    have hmo := le1_mo mj t
    exact ps_reti rfl (⟨congrArg (fun x => some (Value.int (nI x))) (show meiN mj t = caN f n E mj o v w t from by unfold caN; first | ((repeat first | rw [if_pos (by omega)] | rw [if_neg (by omega)]) <;> first | rfl | omega) | ((repeat' split) <;> first | rfl | (exfalso; omega) | omega)), rfl⟩)
  · show pl _ _ _ (75, [(0, .ref cd), (1, .int (nI t))], [], M) _
    have m_7 := sw_nat (t := o) (by omega) et_7
    simp at m_7
    refine ps_st (S' := (76, [(0, .ref cd), (1, .int (nI t))], [.ref cd], M)) rfl rfl rfl ?_
    refine ps_st (S' := (77, [(0, .ref cd), (1, .int (nI t))], [.int (nI t), .ref cd], M)) rfl rfl rfl ?_
    refine pl_call (a := [.ref cd, .int (nI t)]) (rest := []) rfl rfl rfl (dk_isMethodOfEither (f := f) (n := n) (N := N) (q := q) (E := E) (cd := cd) (on := on) (b := b) (cb := cb) (L := L) (ml := ml) (mj := mj) (o := o) (v := v) (w := w) (lp := lp) (c0 := c0) (c2 := c2) (c3 := c3) (c4 := c4) (y4 := y4) (y8 := y8) (y9 := y9) (y10 := y10) (y11 := y11) (v8 := v8) (v9 := v9) (v10 := v10) (t := t) h_cd h_on (hmj) (hml) (ho) (hv) (hw) (hlp) (h0) (hCP) (hV) (ht)) (fun v7 M8 q9 => ?_)
    obtain ⟨rfl, rfl⟩ := q9
    show pl _ _ _ (80, [(0, .ref cd), (1, .int (nI t))], [.int (nI (meiN mj t))], M) _
    have hmo := le1_mo mj t
    refine ps_if (S1 := (104, [], [], M)) (S2 := (83, [(0, .ref cd), (1, .int (nI t))], [], M)) rfl rfl rfl (fun c_80 => ?_) (fun c_80 => ?_)
    · have c_80 : (nI (meiN mj t)) = 0 := of_decide_eq_true c_80
      have n_80 : meiN mj t = 0 := (eq_nI (p := meiN mj t) (n := 0) (by omega) (by decide)).mp c_80
      refine ps_st (S' := (105, [], [.int 0], M)) rfl rfl rfl ?_
      exact ps_ret rfl rfl (⟨congrArg (fun x => some (Value.int (nI x))) (show 0 = caN f n E mj o v w t from by unfold caN; first | ((repeat first | rw [if_pos (by omega)] | rw [if_neg (by omega)]) <;> first | rfl | omega) | ((repeat' split) <;> first | rfl | (exfalso; omega) | omega)), rfl⟩)
    · have c_80 : ¬ ((nI (meiN mj t)) = 0) := of_decide_eq_false c_80
      have n_80 : ¬ (meiN mj t = 0) := fun h9 => c_80 ((eq_nI (p := meiN mj t) (n := 0) (by omega) (by decide)).mpr h9)
      refine ps_st (S' := (84, [(0, .ref cd), (1, .int (nI t))], [.ref cd], M)) rfl rfl rfl ?_
      refine ps_get (S' := (87, [(0, .ref cd), (1, .int (nI t))], [.ref q], M)) rfl h_cd rfl rfl ?_
      refine ps_st (S' := (88, [(0, .ref cd), (1, .int (nI t))], [.ref cd, .ref q], M)) rfl rfl rfl ?_
      refine ps_get (S' := (91, [(0, .ref cd), (1, .int (nI t))], [.ref on, .ref q], M)) rfl h_cd rfl rfl ?_
      refine ps_get (S' := (94, [(0, .ref cd), (1, .int (nI t))], [.int (nI v), .ref q], M)) rfl h_on rfl rfl ?_
      refine pl_call (a := [.ref q, .int (nI v)]) (rest := []) rfl rfl rfl (dy_namesInit (f := f) (n := n) (N := N) (q := q) (E := E) (j := v) (hV) (hv)) (fun v10 M11 q12 => ?_)
      obtain ⟨rfl, rfl⟩ := q12
      show pl _ _ _ (97, [(0, .ref cd), (1, .int (nI t))], [.int (nI (eqN (tX f n E (fi f E (se f E v))) (ltx 14)))], M) _
      have hni := le1_eq (tX f n E (fi f E (se f E v))) (ltx 14)
      have hnd : niN f n E v = eqN (tX f n E (fi f E (se f E v))) (ltx 14) := rfl
      refine ps_if (S1 := (104, [], [], M)) (S2 := (100, [(0, .ref cd), (1, .int (nI t))], [], M)) rfl rfl rfl (fun c_97 => ?_) (fun c_97 => ?_)
      · have c_97 : ¬ (nI (eqN (tX f n E (fi f E (se f E v))) (ltx 14))) = 0 := of_decide_eq_true c_97
        have n_97 : ¬ (eqN (tX f n E (fi f E (se f E v))) (ltx 14) = 0) := fun h9 => c_97 ((eq_nI (p := eqN (tX f n E (fi f E (se f E v))) (ltx 14)) (n := 0) (Nat.lt_trans (le1_eq _ _) (by decide)) (by decide)).mpr h9)
        refine ps_st (S' := (105, [], [.int 0], M)) rfl rfl rfl ?_
        exact ps_ret rfl rfl (⟨congrArg (fun x => some (Value.int (nI x))) (show 0 = caN f n E mj o v w t from by unfold caN; first | ((repeat first | rw [if_pos (by omega)] | rw [if_neg (by omega)]) <;> first | rfl | omega) | ((repeat' split) <;> first | rfl | (exfalso; omega) | omega)), rfl⟩)
      · have c_97 : ¬ (¬ (nI (eqN (tX f n E (fi f E (se f E v))) (ltx 14))) = 0) := of_decide_eq_false c_97
        have n_97 : eqN (tX f n E (fi f E (se f E v))) (ltx 14) = 0 := (eq_nI (p := eqN (tX f n E (fi f E (se f E v))) (ltx 14)) (n := 0) (Nat.lt_trans (le1_eq _ _) (by decide)) (by decide)).mp (Decidable.not_not.mp c_97)
        refine ps_st (S' := (101, [(0, .ref cd), (1, .int (nI t))], [.int 1], M)) rfl rfl rfl ?_
        refine ps_st (S' := (105, [], [.int 1], M)) rfl rfl rfl ?_
        exact ps_ret rfl rfl (⟨congrArg (fun x => some (Value.int (nI x))) (show 1 = caN f n E mj o v w t from by unfold caN; first | ((repeat first | rw [if_pos (by omega)] | rw [if_neg (by omega)]) <;> first | rfl | omega) | ((repeat' split) <;> first | rfl | (exfalso; omega) | omega)), rfl⟩)
  · show pl _ _ _ (106, [(0, .ref cd), (1, .int (nI t))], [], M) _
    have m_7 := sw_nat (t := o) (by omega) et_7
    simp at m_7
    refine ps_st (S' := (107, [(0, .ref cd), (1, .int (nI t))], [.int (nI t)], M)) rfl rfl rfl ?_
    refine ps_st (S' := (109, [(0, .ref cd), (1, .int (nI t))], [.int 11, .int (nI t)], M)) rfl rfl rfl ?_
    refine ps_if2 (S1 := (149, [], [], M)) (S2 := (112, [(0, .ref cd), (1, .int (nI t))], [], M)) rfl rfl rfl (fun c_109 => ?_) (fun c_109 => ?_)
    · have c_109 : ¬ (nI t) = 11 := of_decide_eq_true c_109
      have n_109 : ¬ (t = 11) := fun h9 => c_109 ((eq_nI (p := t) (n := 11) (by omega) (by decide)).mpr h9)
      refine ps_st (S' := (150, [], [.int 0], M)) rfl rfl rfl ?_
      exact ps_ret rfl rfl (⟨congrArg (fun x => some (Value.int (nI x))) (show 0 = caN f n E mj o v w t from by unfold caN; first | ((repeat first | rw [if_pos (by omega)] | rw [if_neg (by omega)]) <;> first | rfl | omega) | ((repeat' split) <;> first | rfl | (exfalso; omega) | omega)), rfl⟩)
    · have c_109 : ¬ (¬ (nI t) = 11) := of_decide_eq_false c_109
      have n_109 : t = 11 := (eq_nI (p := t) (n := 11) (by omega) (by decide)).mp (Decidable.not_not.mp c_109)
      refine ps_st (S' := (113, [(0, .ref cd), (1, .int (nI t))], [.ref cd], M)) rfl rfl rfl ?_
      refine ps_get (S' := (116, [(0, .ref cd), (1, .int (nI t))], [.ref on], M)) rfl h_cd rfl rfl ?_
      refine ps_get (S' := (119, [(0, .ref cd), (1, .int (nI t))], [.int (nI w)], M)) rfl h_on rfl rfl ?_
      refine ps_st (S' := (120, [(0, .ref cd), (1, .int (nI t))], [.ref cd, .int (nI w)], M)) rfl rfl rfl ?_
      refine ps_get (S' := (123, [(0, .ref cd), (1, .int (nI t))], [.ref q, .int (nI w)], M)) rfl h_cd rfl rfl ?_
      refine ps_st (S' := (124, [(0, .ref cd), (1, .int (nI t))], [.ref cd, .ref q, .int (nI w)], M)) rfl rfl rfl ?_
      refine ps_get (S' := (127, [(0, .ref cd), (1, .int (nI t))], [.ref q, .ref q, .int (nI w)], M)) rfl h_cd rfl rfl ?_
      refine ps_st (S' := (128, [(0, .ref cd), (1, .int (nI t))], [.ref cd, .ref q, .ref q, .int (nI w)], M)) rfl rfl rfl ?_
      refine ps_get (S' := (131, [(0, .ref cd), (1, .int (nI t))], [.ref on, .ref q, .ref q, .int (nI w)], M)) rfl h_cd rfl rfl ?_
      refine ps_get (S' := (134, [(0, .ref cd), (1, .int (nI t))], [.int (nI v), .ref q, .ref q, .int (nI w)], M)) rfl h_on rfl rfl ?_
      refine pl_call (a := [.ref q, .int (nI v)]) (rest := [.ref q, .int (nI w)]) rfl rfl rfl (dy_descriptorOf (f := f) (n := n) (N := N) (q := q) (E := E) (j := v) (hV) (hv)) (fun v13 M14 q15 => ?_)
      obtain ⟨rfl, rfl⟩ := q15
      show pl _ _ _ (137, [(0, .ref cd), (1, .int (nI t))], [.int (nI (se f E (se f E v))), .ref q, .int (nI w)], M) _
      have hse := se_lt f E (se f E v)
      refine pl_call (a := [.ref q, .int (nI (se f E (se f E v)))]) (rest := [.int (nI w)]) rfl rfl rfl (dy_argumentPlaces (f := f) (n := n) (N := N) (q := q) (E := E) (j := (se f E (se f E v))) (hV) (by omega)) (fun v16 M17 q18 => ?_)
      obtain ⟨rfl, rfl⟩ := q18
      show pl _ _ _ (140, [(0, .ref cd), (1, .int (nI t))], [.int (nI (argN (tX f n E (se f E (se f E v))))), .int (nI w)], M) _
      have hag := argN_lt (tX f n E (se f E (se f E v)))
      refine ps_st (S' := (141, [(0, .ref cd), (1, .int (nI t))], [.int 1, .int (nI (argN (tX f n E (se f E (se f E v))))), .int (nI w)], M)) rfl rfl rfl ?_
      refine ps_st (S' := (142, [(0, .ref cd), (1, .int (nI t))], [.int ((nI (argN (tX f n E (se f E (se f E v))))) + 1), .int (nI w)], M)) rfl rfl rfl ?_
      rw [nI_add1 (p := argN (tX f n E (se f E (se f E v)))) (k := 1) (x := 1) rfl (by omega)]
      show pl _ _ _ (_, [(0, .ref cd), (1, .int (nI t))], [.int (nI (argN (tX f n E (se f E (se f E v))) + 1)), .int (nI w)], M) _
      refine ps_if2 (S1 := (149, [], [], M)) (S2 := (145, [(0, .ref cd), (1, .int (nI t))], [], M)) rfl rfl rfl (fun c_142 => ?_) (fun c_142 => ?_)
      · have c_142 : ¬ (nI w) = (nI (argN (tX f n E (se f E (se f E v))) + 1)) := of_decide_eq_true c_142
        have n_142 : ¬ (w = argN (tX f n E (se f E (se f E v))) + 1) := fun h9 => c_142 ((eq_nI (p := w) (n := argN (tX f n E (se f E (se f E v))) + 1) (by omega) (by omega)).mpr h9)
        refine ps_st (S' := (150, [], [.int 0], M)) rfl rfl rfl ?_
        exact ps_ret rfl rfl (⟨congrArg (fun x => some (Value.int (nI x))) (show 0 = caN f n E mj o v w t from by unfold caN; first | ((repeat first | rw [if_pos (by omega)] | rw [if_neg (by omega)]) <;> first | rfl | omega) | ((repeat' split) <;> first | rfl | (exfalso; omega) | omega)), rfl⟩)
      · have c_142 : ¬ (¬ (nI w) = (nI (argN (tX f n E (se f E (se f E v))) + 1))) := of_decide_eq_false c_142
        have n_142 : w = argN (tX f n E (se f E (se f E v))) + 1 := (eq_nI (p := w) (n := argN (tX f n E (se f E (se f E v))) + 1) (by omega) (by omega)).mp (Decidable.not_not.mp c_142)
        refine ps_st (S' := (146, [(0, .ref cd), (1, .int (nI t))], [.int 1], M)) rfl rfl rfl ?_
        refine ps_st (S' := (150, [], [.int 1], M)) rfl rfl rfl ?_
        exact ps_ret rfl rfl (⟨congrArg (fun x => some (Value.int (nI x))) (show 1 = caN f n E mj o v w t from by unfold caN; first | ((repeat first | rw [if_pos (by omega)] | rw [if_neg (by omega)]) <;> first | rfl | omega) | ((repeat' split) <;> first | rfl | (exfalso; omega) | omega)), rfl⟩)
  · show pl _ _ _ (151, [(0, .ref cd), (1, .int (nI t))], [], M) _
    have m_7 := sw_nat (t := o) (by omega) et_7
    simp at m_7
    refine ps_st (S' := (152, [(0, .ref cd), (1, .int (nI t))], [.int (nI t)], M)) rfl rfl rfl ?_
    refine ps_st (S' := (154, [(0, .ref cd), (1, .int (nI t))], [.int 18, .int (nI t)], M)) rfl rfl rfl ?_
    refine ps_if2 (S1 := (161, [(0, .ref cd), (1, .int (nI t))], [], M)) (S2 := (157, [(0, .ref cd), (1, .int (nI t))], [], M)) rfl rfl rfl (fun c_154 => ?_) (fun c_154 => ?_)
    · have c_154 : ¬ (nI t) = 18 := of_decide_eq_true c_154
      have n_154 : ¬ (t = 18) := fun h9 => c_154 ((eq_nI (p := t) (n := 18) (by omega) (by decide)).mpr h9)
      refine ps_st (S' := (162, [], [.int 0], M)) rfl rfl rfl ?_
      exact ps_ret rfl rfl (⟨congrArg (fun x => some (Value.int (nI x))) (show 0 = caN f n E mj o v w t from by unfold caN; first | ((repeat first | rw [if_pos (by omega)] | rw [if_neg (by omega)]) <;> first | rfl | omega) | ((repeat' split) <;> first | rfl | (exfalso; omega) | omega)), rfl⟩)
    · have c_154 : ¬ (¬ (nI t) = 18) := of_decide_eq_false c_154
      have n_154 : t = 18 := (eq_nI (p := t) (n := 18) (by omega) (by decide)).mp (Decidable.not_not.mp c_154)
      refine ps_st (S' := (158, [(0, .ref cd), (1, .int (nI t))], [.int 1], M)) rfl rfl rfl ?_
      refine ps_st (S' := (162, [], [.int 1], M)) rfl rfl rfl ?_
      exact ps_ret rfl rfl (⟨congrArg (fun x => some (Value.int (nI x))) (show 1 = caN f n E mj o v w t from by unfold caN; first | ((repeat first | rw [if_pos (by omega)] | rw [if_neg (by omega)]) <;> first | rfl | omega) | ((repeat' split) <;> first | rfl | (exfalso; omega) | omega)), rfl⟩)
  · show pl _ _ _ (163, [(0, .ref cd), (1, .int (nI t))], [], M) _
    have m_7 := sw_nat (t := o) (by omega) et_7
    simp at m_7
    refine ps_st (S' := (164, [(0, .ref cd), (1, .int (nI t))], [.int 1], M)) rfl rfl rfl ?_
    exact ps_ret rfl rfl (⟨congrArg (fun x => some (Value.int (nI x))) (show 1 = caN f n E mj o v w t from by unfold caN; first | ((repeat first | rw [if_pos (by omega)] | rw [if_neg (by omega)]) <;> first | rfl | omega) | ((repeat' split) <;> first | rfl | (exfalso; omega) | omega)), rfl⟩)
set_option maxHeartbeats 1000000 in
theorem dk_operandsHold {g : xe_G} {M : mi_H} {f : Nat → Int32} {n N q : Nat} {E : List (Nat × Nat)} {cd on b cb L ml mj o v w lp : Nat} {c0 c2 c3 c4 y4 y8 y9 y10 y11 : Int32} {v8 v9 v10 : Value} (h_cd : M.1 cd = some (ob 4 [.int c0, .int (nI ml), .int c2, .int c3, .int c4, .ref q, .int (nI mj), .ref on, v8, v9, v10])) (h_on : M.1 on = some (ob 5 [.ref b, .int (nI cb), .int (nI L), .int (nI o), .int y4, .int (nI v), .int (nI w), .int (nI lp), .int y8, .int y9, .int y10, .int y11])) (hmj : mj < 65536) (hml : ml < 65536) (ho : o < 256) (hv : v < 65536) (hw : w < 65536) (hlp : lp < 3) (h0 : tg f E 0 = 0) (hCP : CP f n E) (hV : PV g f n N E q M) : pt (mT g) 82 [.ref cd] M (fun r9 M' => (r9 = some (.int (nI (ohN f n E mj ml o v w lp))) ∧ M = M')) := by
  refine pt_in (b := mb_82 g) rfl (fun kf => ?_)
  show pl (mT g) kf (mb_82 g).2 (0, [(0, .ref cd)], [], M) _
  refine ps_st (S' := (1, [(0, .ref cd)], [.ref cd], M)) rfl rfl rfl ?_
  refine ps_get (S' := (4, [(0, .ref cd)], [.ref on], M)) rfl h_cd rfl rfl ?_
  refine ps_get (S' := (7, [(0, .ref cd)], [.int (nI lp)], M)) rfl h_on rfl rfl ?_
  refine ps_if (S1 := (70, [(0, .ref cd)], [], M)) (S2 := (10, [(0, .ref cd)], [], M)) rfl rfl rfl (fun c_7 => ?_) (fun c_7 => ?_)
  · have c_7 : (nI lp) ≤ 0 := of_decide_eq_true c_7
    have n_7 : lp ≤ 0 := (le_nI (p := lp) (n := 0) (by omega) (by decide)).mp c_7
    refine ps_st (S' := (71, [(0, .ref cd)], [.ref cd], M)) rfl rfl rfl ?_
    refine ps_get (S' := (74, [(0, .ref cd)], [.ref on], M)) rfl h_cd rfl rfl ?_
    refine ps_get (S' := (77, [(0, .ref cd)], [.int (nI o)], M)) rfl h_on rfl rfl ?_
    refine pl_sw rfl (fun t_77 et_77 => ?_)
    have ht_77 : t_77 ∈ [192, 207, 236, 255, 274, 299, 314, 359, 384, 444] := mi_sw_sub et_77 (by decide)
    simp only [List.mem_cons, List.not_mem_nil, or_false] at ht_77
    rcases ht_77 with rfl | rfl | rfl | rfl | rfl | rfl | rfl | rfl | rfl | rfl
    · show pl _ _ _ (192, [(0, .ref cd)], [], M) _
      have m_77 := sw_nat (t := o) (by omega) et_77
      simp at m_77
      refine ps_st (S' := (193, [(0, .ref cd)], [.ref cd], M)) rfl rfl rfl ?_
      refine ps_get (S' := (196, [(0, .ref cd)], [.int (nI mj)], M)) rfl h_cd rfl rfl ?_
      refine ps_st (S' := (198, [(0, .ref cd)], [.int 51, .int (nI mj)], M)) rfl rfl rfl ?_
      refine ps_if2 (S1 := (205, [(0, .ref cd)], [], M)) (S2 := (201, [(0, .ref cd)], [], M)) rfl rfl rfl (fun c_198 => ?_) (fun c_198 => ?_)
      · have c_198 : 51 ≤ (nI mj) := of_decide_eq_true c_198
        have n_198 : 51 ≤ mj := (le_nI (p := 51) (n := mj) (by decide) (by omega)).mp c_198
        refine ps_st (S' := (206, [], [.int 0], M)) rfl rfl rfl ?_
        exact ps_ret rfl rfl (⟨congrArg (fun x => some (Value.int (nI x))) (show 0 = ohN f n E mj ml o v w lp from by unfold ohN; first | ((repeat first | rw [if_pos (by omega)] | rw [if_neg (by omega)]) <;> first | rfl | omega) | ((repeat' split) <;> first | rfl | (exfalso; omega) | omega)), rfl⟩)
      · have c_198 : ¬ (51 ≤ (nI mj)) := of_decide_eq_false c_198
        have n_198 : ¬ (51 ≤ mj) := fun h9 => c_198 ((le_nI (p := 51) (n := mj) (by decide) (by omega)).mpr h9)
        refine ps_st (S' := (202, [(0, .ref cd)], [.int 1], M)) rfl rfl rfl ?_
        refine ps_st (S' := (206, [], [.int 1], M)) rfl rfl rfl ?_
        exact ps_ret rfl rfl (⟨congrArg (fun x => some (Value.int (nI x))) (show 1 = ohN f n E mj ml o v w lp from by unfold ohN; first | ((repeat first | rw [if_pos (by omega)] | rw [if_neg (by omega)]) <;> first | rfl | omega) | ((repeat' split) <;> first | rfl | (exfalso; omega) | omega)), rfl⟩)
    · show pl _ _ _ (207, [(0, .ref cd)], [], M) _
      have m_77 := sw_nat (t := o) (by omega) et_77
      simp at m_77
      refine ps_st (S' := (208, [(0, .ref cd)], [.ref cd], M)) rfl rfl rfl ?_
      refine ps_get (S' := (211, [(0, .ref cd)], [.ref on], M)) rfl h_cd rfl rfl ?_
      refine ps_get (S' := (214, [(0, .ref cd)], [.int (nI v)], M)) rfl h_on rfl rfl ?_
      refine ps_st (S' := (215, [(0, .ref cd)], [.int 4, .int (nI v)], M)) rfl rfl rfl ?_
      refine ps_if2 (S1 := (234, [], [], M)) (S2 := (218, [(0, .ref cd)], [], M)) rfl rfl rfl (fun c_215 => ?_) (fun c_215 => ?_)
      · have c_215 : (nI v) < 4 := of_decide_eq_true c_215
        have n_215 : v < 4 := (lt_nI (p := v) (n := 4) (by omega) (by decide)).mp c_215
        refine ps_st (S' := (235, [], [.int 0], M)) rfl rfl rfl ?_
        exact ps_ret rfl rfl (⟨congrArg (fun x => some (Value.int (nI x))) (show 0 = ohN f n E mj ml o v w lp from by unfold ohN; first | ((repeat first | rw [if_pos (by omega)] | rw [if_neg (by omega)]) <;> first | rfl | omega) | ((repeat' split) <;> first | rfl | (exfalso; omega) | omega)), rfl⟩)
      · have c_215 : ¬ ((nI v) < 4) := of_decide_eq_false c_215
        have n_215 : ¬ (v < 4) := fun h9 => c_215 ((lt_nI (p := v) (n := 4) (by omega) (by decide)).mpr h9)
        refine ps_st (S' := (219, [(0, .ref cd)], [.ref cd], M)) rfl rfl rfl ?_
        refine ps_get (S' := (222, [(0, .ref cd)], [.ref on], M)) rfl h_cd rfl rfl ?_
        refine ps_get (S' := (225, [(0, .ref cd)], [.int (nI v)], M)) rfl h_on rfl rfl ?_
        refine ps_st (S' := (227, [(0, .ref cd)], [.int 11, .int (nI v)], M)) rfl rfl rfl ?_
        refine ps_if2 (S1 := (234, [], [], M)) (S2 := (230, [(0, .ref cd)], [], M)) rfl rfl rfl (fun c_227 => ?_) (fun c_227 => ?_)
        · have c_227 : 11 < (nI v) := of_decide_eq_true c_227
          have n_227 : 11 < v := (lt_nI (p := 11) (n := v) (by decide) (by omega)).mp c_227
          refine ps_st (S' := (235, [], [.int 0], M)) rfl rfl rfl ?_
          exact ps_ret rfl rfl (⟨congrArg (fun x => some (Value.int (nI x))) (show 0 = ohN f n E mj ml o v w lp from by unfold ohN; first | ((repeat first | rw [if_pos (by omega)] | rw [if_neg (by omega)]) <;> first | rfl | omega) | ((repeat' split) <;> first | rfl | (exfalso; omega) | omega)), rfl⟩)
        · have c_227 : ¬ (11 < (nI v)) := of_decide_eq_false c_227
          have n_227 : ¬ (11 < v) := fun h9 => c_227 ((lt_nI (p := 11) (n := v) (by decide) (by omega)).mpr h9)
          refine ps_st (S' := (231, [(0, .ref cd)], [.int 1], M)) rfl rfl rfl ?_
          refine ps_st (S' := (235, [], [.int 1], M)) rfl rfl rfl ?_
          exact ps_ret rfl rfl (⟨congrArg (fun x => some (Value.int (nI x))) (show 1 = ohN f n E mj ml o v w lp from by unfold ohN; first | ((repeat first | rw [if_pos (by omega)] | rw [if_neg (by omega)]) <;> first | rfl | omega) | ((repeat' split) <;> first | rfl | (exfalso; omega) | omega)), rfl⟩)
    · show pl _ _ _ (236, [(0, .ref cd)], [], M) _
      have m_77 := sw_nat (t := o) (by omega) et_77
      simp at m_77
      refine ps_st (S' := (237, [(0, .ref cd)], [.ref cd], M)) rfl rfl rfl ?_
      refine ps_st (S' := (238, [(0, .ref cd)], [.ref cd, .ref cd], M)) rfl rfl rfl ?_
      refine ps_get (S' := (241, [(0, .ref cd)], [.ref q, .ref cd], M)) rfl h_cd rfl rfl ?_
      refine ps_st (S' := (242, [(0, .ref cd)], [.ref cd, .ref q, .ref cd], M)) rfl rfl rfl ?_
      refine ps_get (S' := (245, [(0, .ref cd)], [.ref on, .ref q, .ref cd], M)) rfl h_cd rfl rfl ?_
      refine ps_get (S' := (248, [(0, .ref cd)], [.int (nI v), .ref q, .ref cd], M)) rfl h_on rfl rfl ?_
      refine pl_call (a := [.ref q, .int (nI v)]) (rest := [.ref cd]) rfl rfl rfl (dy_tagOf (f := f) (n := n) (N := N) (q := q) (E := E) (j := v) (hV) (hv)) (fun v1 M2 q3 => ?_)
      obtain ⟨rfl, rfl⟩ := q3
      show pl _ _ _ (251, [(0, .ref cd)], [.int (nI (tg f E v)), .ref cd], M) _
      have htg := tg_lt f E v
      refine pl_call (a := [.ref cd, .int (nI (tg f E v))]) (rest := []) rfl rfl rfl (dk_isLoadedByLdc (f := f) (n := n) (N := N) (q := q) (E := E) (cd := cd) (on := on) (b := b) (cb := cb) (L := L) (ml := ml) (mj := mj) (o := o) (v := v) (w := w) (lp := lp) (c0 := c0) (c2 := c2) (c3 := c3) (c4 := c4) (y4 := y4) (y8 := y8) (y9 := y9) (y10 := y10) (y11 := y11) (v8 := v8) (v9 := v9) (v10 := v10) (t := (tg f E v)) h_cd h_on (hmj) (hml) (ho) (hv) (hw) (hlp) (h0) (hCP) (hV) (tg_lt _ _ _)) (fun v4 M5 q6 => ?_)
      obtain ⟨rfl, rfl⟩ := q6
      show pl _ _ _ (254, [(0, .ref cd)], [.int (nI (ld1N f n E mj v (tg f E v)))], M) _
      exact ps_reti rfl (⟨congrArg (fun x => some (Value.int (nI x))) (show ld1N f n E mj v (tg f E v) = ohN f n E mj ml o v w lp from by unfold ohN; first | ((repeat first | rw [if_pos (by omega)] | rw [if_neg (by omega)]) <;> first | rfl | omega) | ((repeat' split) <;> first | rfl | (exfalso; omega) | omega)), rfl⟩)
    · show pl _ _ _ (255, [(0, .ref cd)], [], M) _
      have m_77 := sw_nat (t := o) (by omega) et_77
      simp at m_77
      refine ps_st (S' := (256, [(0, .ref cd)], [.ref cd], M)) rfl rfl rfl ?_
      refine ps_st (S' := (257, [(0, .ref cd)], [.ref cd, .ref cd], M)) rfl rfl rfl ?_
      refine ps_get (S' := (260, [(0, .ref cd)], [.ref q, .ref cd], M)) rfl h_cd rfl rfl ?_
      refine ps_st (S' := (261, [(0, .ref cd)], [.ref cd, .ref q, .ref cd], M)) rfl rfl rfl ?_
      refine ps_get (S' := (264, [(0, .ref cd)], [.ref on, .ref q, .ref cd], M)) rfl h_cd rfl rfl ?_
      refine ps_get (S' := (267, [(0, .ref cd)], [.int (nI v), .ref q, .ref cd], M)) rfl h_on rfl rfl ?_
      refine pl_call (a := [.ref q, .int (nI v)]) (rest := [.ref cd]) rfl rfl rfl (dy_tagOf (f := f) (n := n) (N := N) (q := q) (E := E) (j := v) (hV) (hv)) (fun v7 M8 q9 => ?_)
      obtain ⟨rfl, rfl⟩ := q9
      show pl _ _ _ (270, [(0, .ref cd)], [.int (nI (tg f E v)), .ref cd], M) _
      have htg := tg_lt f E v
      refine pl_call (a := [.ref cd, .int (nI (tg f E v))]) (rest := []) rfl rfl rfl (dk_isOfTwoPlaces (f := f) (n := n) (N := N) (q := q) (E := E) (cd := cd) (on := on) (b := b) (cb := cb) (L := L) (ml := ml) (mj := mj) (o := o) (v := v) (w := w) (lp := lp) (c0 := c0) (c2 := c2) (c3 := c3) (c4 := c4) (y4 := y4) (y8 := y8) (y9 := y9) (y10 := y10) (y11 := y11) (v8 := v8) (v9 := v9) (v10 := v10) (t := (tg f E v)) h_cd h_on (hmj) (hml) (ho) (hv) (hw) (hlp) (h0) (hCP) (hV) (tg_lt _ _ _)) (fun v10 M11 q12 => ?_)
      obtain ⟨rfl, rfl⟩ := q12
      show pl _ _ _ (273, [(0, .ref cd)], [.int (nI (ld2N f n E v (tg f E v)))], M) _
      exact ps_reti rfl (⟨congrArg (fun x => some (Value.int (nI x))) (show ld2N f n E v (tg f E v) = ohN f n E mj ml o v w lp from by unfold ohN; first | ((repeat first | rw [if_pos (by omega)] | rw [if_neg (by omega)]) <;> first | rfl | omega) | ((repeat' split) <;> first | rfl | (exfalso; omega) | omega)), rfl⟩)
    · show pl _ _ _ (274, [(0, .ref cd)], [], M) _
      have m_77 := sw_nat (t := o) (by omega) et_77
      simp at m_77
      refine ps_st (S' := (275, [(0, .ref cd)], [.ref cd], M)) rfl rfl rfl ?_
      refine ps_get (S' := (278, [(0, .ref cd)], [.ref q], M)) rfl h_cd rfl rfl ?_
      refine ps_st (S' := (279, [(0, .ref cd)], [.ref cd, .ref q], M)) rfl rfl rfl ?_
      refine ps_get (S' := (282, [(0, .ref cd)], [.ref on, .ref q], M)) rfl h_cd rfl rfl ?_
      refine ps_get (S' := (285, [(0, .ref cd)], [.int (nI v), .ref q], M)) rfl h_on rfl rfl ?_
      refine pl_call (a := [.ref q, .int (nI v)]) (rest := []) rfl rfl rfl (dy_tagOf (f := f) (n := n) (N := N) (q := q) (E := E) (j := v) (hV) (hv)) (fun v13 M14 q15 => ?_)
      obtain ⟨rfl, rfl⟩ := q15
      show pl _ _ _ (288, [(0, .ref cd)], [.int (nI (tg f E v))], M) _
      have htg := tg_lt f E v
      refine ps_st (S' := (290, [(0, .ref cd)], [.int 9, .int (nI (tg f E v))], M)) rfl rfl rfl ?_
      refine ps_if2 (S1 := (297, [(0, .ref cd)], [], M)) (S2 := (293, [(0, .ref cd)], [], M)) rfl rfl rfl (fun c_290 => ?_) (fun c_290 => ?_)
      · have c_290 : ¬ (nI (tg f E v)) = 9 := of_decide_eq_true c_290
        have n_290 : ¬ (tg f E v = 9) := fun h9 => c_290 ((eq_nI (p := tg f E v) (n := 9) (Nat.lt_trans (tg_lt _ _ _) (by decide)) (by decide)).mpr h9)
        refine ps_st (S' := (298, [], [.int 0], M)) rfl rfl rfl ?_
        exact ps_ret rfl rfl (⟨congrArg (fun x => some (Value.int (nI x))) (show 0 = ohN f n E mj ml o v w lp from by unfold ohN; first | ((repeat first | rw [if_pos (by omega)] | rw [if_neg (by omega)]) <;> first | rfl | omega) | ((repeat' split) <;> first | rfl | (exfalso; omega) | omega)), rfl⟩)
      · have c_290 : ¬ (¬ (nI (tg f E v)) = 9) := of_decide_eq_false c_290
        have n_290 : tg f E v = 9 := (eq_nI (p := tg f E v) (n := 9) (Nat.lt_trans (tg_lt _ _ _) (by decide)) (by decide)).mp (Decidable.not_not.mp c_290)
        refine ps_st (S' := (294, [(0, .ref cd)], [.int 1], M)) rfl rfl rfl ?_
        refine ps_st (S' := (298, [], [.int 1], M)) rfl rfl rfl ?_
        exact ps_ret rfl rfl (⟨congrArg (fun x => some (Value.int (nI x))) (show 1 = ohN f n E mj ml o v w lp from by unfold ohN; first | ((repeat first | rw [if_pos (by omega)] | rw [if_neg (by omega)]) <;> first | rfl | omega) | ((repeat' split) <;> first | rfl | (exfalso; omega) | omega)), rfl⟩)
    · show pl _ _ _ (299, [(0, .ref cd)], [], M) _
      have m_77 := sw_nat (t := o) (by omega) et_77
      simp at m_77
      refine ps_st (S' := (300, [(0, .ref cd)], [.ref cd], M)) rfl rfl rfl ?_
      refine ps_get (S' := (303, [(0, .ref cd)], [.ref q], M)) rfl h_cd rfl rfl ?_
      refine ps_st (S' := (304, [(0, .ref cd)], [.ref cd, .ref q], M)) rfl rfl rfl ?_
      refine ps_get (S' := (307, [(0, .ref cd)], [.ref on, .ref q], M)) rfl h_cd rfl rfl ?_
      refine ps_get (S' := (310, [(0, .ref cd)], [.int (nI v), .ref q], M)) rfl h_on rfl rfl ?_
      refine pl_call (a := [.ref q, .int (nI v)]) (rest := []) rfl rfl rfl (dy_isPlainClass (f := f) (n := n) (N := N) (q := q) (E := E) (j := v) (hV) (hv)) (fun v16 M17 q18 => ?_)
      obtain ⟨rfl, rfl⟩ := q18
      show pl _ _ _ (313, [(0, .ref cd)], [.int (nI (plnN f n E v))], M) _
      exact ps_reti rfl (⟨congrArg (fun x => some (Value.int (nI x))) (show plnN f n E v = ohN f n E mj ml o v w lp from by unfold ohN; first | ((repeat first | rw [if_pos (by omega)] | rw [if_neg (by omega)]) <;> first | rfl | omega) | ((repeat' split) <;> first | rfl | (exfalso; omega) | omega)), rfl⟩)
    · show pl _ _ _ (314, [(0, .ref cd)], [], M) _
      have m_77 := sw_nat (t := o) (by omega) et_77
      simp at m_77
      refine ps_st (S' := (315, [(0, .ref cd)], [.ref cd], M)) rfl rfl rfl ?_
      refine ps_get (S' := (318, [(0, .ref cd)], [.ref q], M)) rfl h_cd rfl rfl ?_
      refine ps_st (S' := (319, [(0, .ref cd)], [.ref cd, .ref q], M)) rfl rfl rfl ?_
      refine ps_get (S' := (322, [(0, .ref cd)], [.ref on, .ref q], M)) rfl h_cd rfl rfl ?_
      refine ps_get (S' := (325, [(0, .ref cd)], [.int (nI v), .ref q], M)) rfl h_on rfl rfl ?_
      refine pl_call (a := [.ref q, .int (nI v)]) (rest := []) rfl rfl rfl (dy_tagOf (f := f) (n := n) (N := N) (q := q) (E := E) (j := v) (hV) (hv)) (fun v19 M20 q21 => ?_)
      obtain ⟨rfl, rfl⟩ := q21
      show pl _ _ _ (328, [(0, .ref cd)], [.int (nI (tg f E v))], M) _
      have htg := tg_lt f E v
      refine ps_st (S' := (330, [(0, .ref cd)], [.int 7, .int (nI (tg f E v))], M)) rfl rfl rfl ?_
      refine ps_if2 (S1 := (357, [], [], M)) (S2 := (333, [(0, .ref cd)], [], M)) rfl rfl rfl (fun c_330 => ?_) (fun c_330 => ?_)
      · have c_330 : ¬ (nI (tg f E v)) = 7 := of_decide_eq_true c_330
        have n_330 : ¬ (tg f E v = 7) := fun h9 => c_330 ((eq_nI (p := tg f E v) (n := 7) (Nat.lt_trans (tg_lt _ _ _) (by decide)) (by decide)).mpr h9)
        refine ps_st (S' := (358, [], [.int 0], M)) rfl rfl rfl ?_
        exact ps_ret rfl rfl (⟨congrArg (fun x => some (Value.int (nI x))) (show 0 = ohN f n E mj ml o v w lp from by unfold ohN; first | ((repeat first | rw [if_pos (by omega)] | rw [if_neg (by omega)]) <;> first | rfl | omega) | ((repeat' split) <;> first | rfl | (exfalso; omega) | omega)), rfl⟩)
      · have c_330 : ¬ (¬ (nI (tg f E v)) = 7) := of_decide_eq_false c_330
        have n_330 : tg f E v = 7 := (eq_nI (p := tg f E v) (n := 7) (Nat.lt_trans (tg_lt _ _ _) (by decide)) (by decide)).mp (Decidable.not_not.mp c_330)
        refine ps_st (S' := (334, [(0, .ref cd)], [.ref cd], M)) rfl rfl rfl ?_
        refine ps_get (S' := (337, [(0, .ref cd)], [.ref q], M)) rfl h_cd rfl rfl ?_
        refine ps_st (S' := (338, [(0, .ref cd)], [.ref cd, .ref q], M)) rfl rfl rfl ?_
        refine ps_get (S' := (341, [(0, .ref cd)], [.ref on, .ref q], M)) rfl h_cd rfl rfl ?_
        refine ps_get (S' := (344, [(0, .ref cd)], [.int (nI v), .ref q], M)) rfl h_on rfl rfl ?_
        refine pl_call (a := [.ref q, .int (nI v)]) (rest := []) rfl rfl rfl (dy_dimensionsOf (f := f) (n := n) (N := N) (q := q) (E := E) (j := v) (hV) (hv) ((hCP v (by omega)).1)) (fun v22 M23 q24 => ?_)
        obtain ⟨rfl, rfl⟩ := q24
        show pl _ _ _ (347, [(0, .ref cd)], [.int (nI (dmN (tX f n E (fi f E v))))], M) _
        have hdl := dm_le (tX f n E (fi f E v))
        have hdx := tx_len f n E (fi f E v)
        refine ps_st (S' := (350, [(0, .ref cd)], [.int 255, .int (nI (dmN (tX f n E (fi f E v))))], M)) rfl rfl rfl ?_
        refine ps_if2 (S1 := (357, [], [], M)) (S2 := (353, [(0, .ref cd)], [], M)) rfl rfl rfl (fun c_350 => ?_) (fun c_350 => ?_)
        · have c_350 : 255 ≤ (nI (dmN (tX f n E (fi f E v)))) := of_decide_eq_true c_350
          have n_350 : 255 ≤ dmN (tX f n E (fi f E v)) := (le_nI (p := 255) (n := dmN (tX f n E (fi f E v))) (by decide) (by omega)).mp c_350
          refine ps_st (S' := (358, [], [.int 0], M)) rfl rfl rfl ?_
          exact ps_ret rfl rfl (⟨congrArg (fun x => some (Value.int (nI x))) (show 0 = ohN f n E mj ml o v w lp from by unfold ohN; first | ((repeat first | rw [if_pos (by omega)] | rw [if_neg (by omega)]) <;> first | rfl | omega) | ((repeat' split) <;> first | rfl | (exfalso; omega) | omega)), rfl⟩)
        · have c_350 : ¬ (255 ≤ (nI (dmN (tX f n E (fi f E v))))) := of_decide_eq_false c_350
          have n_350 : ¬ (255 ≤ dmN (tX f n E (fi f E v))) := fun h9 => c_350 ((le_nI (p := 255) (n := dmN (tX f n E (fi f E v))) (by decide) (by omega)).mpr h9)
          refine ps_st (S' := (354, [(0, .ref cd)], [.int 1], M)) rfl rfl rfl ?_
          refine ps_st (S' := (358, [], [.int 1], M)) rfl rfl rfl ?_
          exact ps_ret rfl rfl (⟨congrArg (fun x => some (Value.int (nI x))) (show 1 = ohN f n E mj ml o v w lp from by unfold ohN; first | ((repeat first | rw [if_pos (by omega)] | rw [if_neg (by omega)]) <;> first | rfl | omega) | ((repeat' split) <;> first | rfl | (exfalso; omega) | omega)), rfl⟩)
    · show pl _ _ _ (359, [(0, .ref cd)], [], M) _
      have m_77 := sw_nat (t := o) (by omega) et_77
      simp at m_77
      refine ps_st (S' := (360, [(0, .ref cd)], [.ref cd], M)) rfl rfl rfl ?_
      refine ps_get (S' := (363, [(0, .ref cd)], [.ref q], M)) rfl h_cd rfl rfl ?_
      refine ps_st (S' := (364, [(0, .ref cd)], [.ref cd, .ref q], M)) rfl rfl rfl ?_
      refine ps_get (S' := (367, [(0, .ref cd)], [.ref on, .ref q], M)) rfl h_cd rfl rfl ?_
      refine ps_get (S' := (370, [(0, .ref cd)], [.int (nI v), .ref q], M)) rfl h_on rfl rfl ?_
      refine pl_call (a := [.ref q, .int (nI v)]) (rest := []) rfl rfl rfl (dy_tagOf (f := f) (n := n) (N := N) (q := q) (E := E) (j := v) (hV) (hv)) (fun v25 M26 q27 => ?_)
      obtain ⟨rfl, rfl⟩ := q27
      show pl _ _ _ (373, [(0, .ref cd)], [.int (nI (tg f E v))], M) _
      have htg := tg_lt f E v
      refine ps_st (S' := (375, [(0, .ref cd)], [.int 7, .int (nI (tg f E v))], M)) rfl rfl rfl ?_
      refine ps_if2 (S1 := (382, [(0, .ref cd)], [], M)) (S2 := (378, [(0, .ref cd)], [], M)) rfl rfl rfl (fun c_375 => ?_) (fun c_375 => ?_)
      · have c_375 : ¬ (nI (tg f E v)) = 7 := of_decide_eq_true c_375
        have n_375 : ¬ (tg f E v = 7) := fun h9 => c_375 ((eq_nI (p := tg f E v) (n := 7) (Nat.lt_trans (tg_lt _ _ _) (by decide)) (by decide)).mpr h9)
        refine ps_st (S' := (383, [], [.int 0], M)) rfl rfl rfl ?_
        exact ps_ret rfl rfl (⟨congrArg (fun x => some (Value.int (nI x))) (show 0 = ohN f n E mj ml o v w lp from by unfold ohN; first | ((repeat first | rw [if_pos (by omega)] | rw [if_neg (by omega)]) <;> first | rfl | omega) | ((repeat' split) <;> first | rfl | (exfalso; omega) | omega)), rfl⟩)
      · have c_375 : ¬ (¬ (nI (tg f E v)) = 7) := of_decide_eq_false c_375
        have n_375 : tg f E v = 7 := (eq_nI (p := tg f E v) (n := 7) (Nat.lt_trans (tg_lt _ _ _) (by decide)) (by decide)).mp (Decidable.not_not.mp c_375)
        refine ps_st (S' := (379, [(0, .ref cd)], [.int 1], M)) rfl rfl rfl ?_
        refine ps_st (S' := (383, [], [.int 1], M)) rfl rfl rfl ?_
        exact ps_ret rfl rfl (⟨congrArg (fun x => some (Value.int (nI x))) (show 1 = ohN f n E mj ml o v w lp from by unfold ohN; first | ((repeat first | rw [if_pos (by omega)] | rw [if_neg (by omega)]) <;> first | rfl | omega) | ((repeat' split) <;> first | rfl | (exfalso; omega) | omega)), rfl⟩)
    · show pl _ _ _ (384, [(0, .ref cd)], [], M) _
      have m_77 := sw_nat (t := o) (by omega) et_77
      simp at m_77
      refine ps_st (S' := (385, [(0, .ref cd)], [.ref cd], M)) rfl rfl rfl ?_
      refine ps_get (S' := (388, [(0, .ref cd)], [.ref q], M)) rfl h_cd rfl rfl ?_
      refine ps_st (S' := (389, [(0, .ref cd)], [.ref cd, .ref q], M)) rfl rfl rfl ?_
      refine ps_get (S' := (392, [(0, .ref cd)], [.ref on, .ref q], M)) rfl h_cd rfl rfl ?_
      refine ps_get (S' := (395, [(0, .ref cd)], [.int (nI v), .ref q], M)) rfl h_on rfl rfl ?_
      refine pl_call (a := [.ref q, .int (nI v)]) (rest := []) rfl rfl rfl (dy_tagOf (f := f) (n := n) (N := N) (q := q) (E := E) (j := v) (hV) (hv)) (fun v28 M29 q30 => ?_)
      obtain ⟨rfl, rfl⟩ := q30
      show pl _ _ _ (398, [(0, .ref cd)], [.int (nI (tg f E v))], M) _
      have htg := tg_lt f E v
      refine ps_st (S' := (400, [(0, .ref cd)], [.int 7, .int (nI (tg f E v))], M)) rfl rfl rfl ?_
      refine ps_if2 (S1 := (442, [], [], M)) (S2 := (403, [(0, .ref cd)], [], M)) rfl rfl rfl (fun c_400 => ?_) (fun c_400 => ?_)
      · have c_400 : ¬ (nI (tg f E v)) = 7 := of_decide_eq_true c_400
        have n_400 : ¬ (tg f E v = 7) := fun h9 => c_400 ((eq_nI (p := tg f E v) (n := 7) (Nat.lt_trans (tg_lt _ _ _) (by decide)) (by decide)).mpr h9)
        refine ps_st (S' := (443, [], [.int 0], M)) rfl rfl rfl ?_
        exact ps_ret rfl rfl (⟨congrArg (fun x => some (Value.int (nI x))) (show 0 = ohN f n E mj ml o v w lp from by unfold ohN; first | ((repeat first | rw [if_pos (by omega)] | rw [if_neg (by omega)]) <;> first | rfl | omega) | ((repeat' split) <;> first | rfl | (exfalso; omega) | omega)), rfl⟩)
      · have c_400 : ¬ (¬ (nI (tg f E v)) = 7) := of_decide_eq_false c_400
        have n_400 : tg f E v = 7 := (eq_nI (p := tg f E v) (n := 7) (Nat.lt_trans (tg_lt _ _ _) (by decide)) (by decide)).mp (Decidable.not_not.mp c_400)
        refine ps_st (S' := (404, [(0, .ref cd)], [.ref cd], M)) rfl rfl rfl ?_
        refine ps_get (S' := (407, [(0, .ref cd)], [.ref on], M)) rfl h_cd rfl rfl ?_
        refine ps_get (S' := (410, [(0, .ref cd)], [.int (nI w)], M)) rfl h_on rfl rfl ?_
        refine ps_st (S' := (411, [(0, .ref cd)], [.int 1, .int (nI w)], M)) rfl rfl rfl ?_
        refine ps_if2 (S1 := (442, [], [], M)) (S2 := (414, [(0, .ref cd)], [], M)) rfl rfl rfl (fun c_411 => ?_) (fun c_411 => ?_)
        · have c_411 : (nI w) < 1 := of_decide_eq_true c_411
          have n_411 : w < 1 := (lt_nI (p := w) (n := 1) (by omega) (by decide)).mp c_411
          refine ps_st (S' := (443, [], [.int 0], M)) rfl rfl rfl ?_
          exact ps_ret rfl rfl (⟨congrArg (fun x => some (Value.int (nI x))) (show 0 = ohN f n E mj ml o v w lp from by unfold ohN; first | ((repeat first | rw [if_pos (by omega)] | rw [if_neg (by omega)]) <;> first | rfl | omega) | ((repeat' split) <;> first | rfl | (exfalso; omega) | omega)), rfl⟩)
        · have c_411 : ¬ ((nI w) < 1) := of_decide_eq_false c_411
          have n_411 : ¬ (w < 1) := fun h9 => c_411 ((lt_nI (p := w) (n := 1) (by omega) (by decide)).mpr h9)
          refine ps_st (S' := (415, [(0, .ref cd)], [.ref cd], M)) rfl rfl rfl ?_
          refine ps_get (S' := (418, [(0, .ref cd)], [.ref on], M)) rfl h_cd rfl rfl ?_
          refine ps_get (S' := (421, [(0, .ref cd)], [.int (nI w)], M)) rfl h_on rfl rfl ?_
          refine ps_st (S' := (422, [(0, .ref cd)], [.ref cd, .int (nI w)], M)) rfl rfl rfl ?_
          refine ps_get (S' := (425, [(0, .ref cd)], [.ref q, .int (nI w)], M)) rfl h_cd rfl rfl ?_
          refine ps_st (S' := (426, [(0, .ref cd)], [.ref cd, .ref q, .int (nI w)], M)) rfl rfl rfl ?_
          refine ps_get (S' := (429, [(0, .ref cd)], [.ref on, .ref q, .int (nI w)], M)) rfl h_cd rfl rfl ?_
          refine ps_get (S' := (432, [(0, .ref cd)], [.int (nI v), .ref q, .int (nI w)], M)) rfl h_on rfl rfl ?_
          refine pl_call (a := [.ref q, .int (nI v)]) (rest := [.int (nI w)]) rfl rfl rfl (dy_dimensionsOf (f := f) (n := n) (N := N) (q := q) (E := E) (j := v) (hV) (hv) ((hCP v (by omega)).1)) (fun v31 M32 q33 => ?_)
          obtain ⟨rfl, rfl⟩ := q33
          show pl _ _ _ (435, [(0, .ref cd)], [.int (nI (dmN (tX f n E (fi f E v)))), .int (nI w)], M) _
          have hdl := dm_le (tX f n E (fi f E v))
          have hdx := tx_len f n E (fi f E v)
          refine ps_if2 (S1 := (442, [], [], M)) (S2 := (438, [(0, .ref cd)], [], M)) rfl rfl rfl (fun c_435 => ?_) (fun c_435 => ?_)
          · have c_435 : (nI (dmN (tX f n E (fi f E v)))) < (nI w) := of_decide_eq_true c_435
            have n_435 : dmN (tX f n E (fi f E v)) < w := (lt_nI (p := dmN (tX f n E (fi f E v))) (n := w) (by omega) (by omega)).mp c_435
            refine ps_st (S' := (443, [], [.int 0], M)) rfl rfl rfl ?_
            exact ps_ret rfl rfl (⟨congrArg (fun x => some (Value.int (nI x))) (show 0 = ohN f n E mj ml o v w lp from by unfold ohN; first | ((repeat first | rw [if_pos (by omega)] | rw [if_neg (by omega)]) <;> first | rfl | omega) | ((repeat' split) <;> first | rfl | (exfalso; omega) | omega)), rfl⟩)
          · have c_435 : ¬ ((nI (dmN (tX f n E (fi f E v)))) < (nI w)) := of_decide_eq_false c_435
            have n_435 : ¬ (dmN (tX f n E (fi f E v)) < w) := fun h9 => c_435 ((lt_nI (p := dmN (tX f n E (fi f E v))) (n := w) (by omega) (by omega)).mpr h9)
            refine ps_st (S' := (439, [(0, .ref cd)], [.int 1], M)) rfl rfl rfl ?_
            refine ps_st (S' := (443, [], [.int 1], M)) rfl rfl rfl ?_
            exact ps_ret rfl rfl (⟨congrArg (fun x => some (Value.int (nI x))) (show 1 = ohN f n E mj ml o v w lp from by unfold ohN; first | ((repeat first | rw [if_pos (by omega)] | rw [if_neg (by omega)]) <;> first | rfl | omega) | ((repeat' split) <;> first | rfl | (exfalso; omega) | omega)), rfl⟩)
    · show pl _ _ _ (444, [(0, .ref cd)], [], M) _
      have m_77 := sw_nat (t := o) (by omega) et_77
      simp at m_77
      refine ps_st (S' := (445, [(0, .ref cd)], [.ref cd], M)) rfl rfl rfl ?_
      refine ps_st (S' := (446, [(0, .ref cd)], [.ref cd, .ref cd], M)) rfl rfl rfl ?_
      refine ps_get (S' := (449, [(0, .ref cd)], [.ref q, .ref cd], M)) rfl h_cd rfl rfl ?_
      refine ps_st (S' := (450, [(0, .ref cd)], [.ref cd, .ref q, .ref cd], M)) rfl rfl rfl ?_
      refine ps_get (S' := (453, [(0, .ref cd)], [.ref on, .ref q, .ref cd], M)) rfl h_cd rfl rfl ?_
      refine ps_get (S' := (456, [(0, .ref cd)], [.int (nI v), .ref q, .ref cd], M)) rfl h_on rfl rfl ?_
      refine pl_call (a := [.ref q, .int (nI v)]) (rest := [.ref cd]) rfl rfl rfl (dy_tagOf (f := f) (n := n) (N := N) (q := q) (E := E) (j := v) (hV) (hv)) (fun v34 M35 q36 => ?_)
      obtain ⟨rfl, rfl⟩ := q36
      show pl _ _ _ (459, [(0, .ref cd)], [.int (nI (tg f E v)), .ref cd], M) _
      have htg := tg_lt f E v
      refine pl_call (a := [.ref cd, .int (nI (tg f E v))]) (rest := []) rfl rfl rfl (dk_callHolds (f := f) (n := n) (N := N) (q := q) (E := E) (cd := cd) (on := on) (b := b) (cb := cb) (L := L) (ml := ml) (mj := mj) (o := o) (v := v) (w := w) (lp := lp) (c0 := c0) (c2 := c2) (c3 := c3) (c4 := c4) (y4 := y4) (y8 := y8) (y9 := y9) (y10 := y10) (y11 := y11) (v8 := v8) (v9 := v9) (v10 := v10) (t := (tg f E v)) h_cd h_on (hmj) (hml) (ho) (hv) (hw) (hlp) (h0) (hCP) (hV) (tg_lt _ _ _)) (fun v37 M38 q39 => ?_)
      obtain ⟨rfl, rfl⟩ := q39
      show pl _ _ _ (462, [(0, .ref cd)], [.int (nI (caN f n E mj o v w (tg f E v)))], M) _
      exact ps_reti rfl (⟨congrArg (fun x => some (Value.int (nI x))) (show caN f n E mj o v w (tg f E v) = ohN f n E mj ml o v w lp from by unfold ohN; first | ((repeat first | rw [if_pos (by omega)] | rw [if_neg (by omega)]) <;> first | rfl | omega) | ((repeat' split) <;> first | rfl | (exfalso; omega) | omega)), rfl⟩)
  · have c_7 : ¬ ((nI lp) ≤ 0) := of_decide_eq_false c_7
    have n_7 : ¬ (lp ≤ 0) := fun h9 => c_7 ((le_nI (p := lp) (n := 0) (by omega) (by decide)).mpr h9)
    refine ps_st (S' := (11, [(0, .ref cd)], [.ref cd], M)) rfl rfl rfl ?_
    refine ps_get (S' := (14, [(0, .ref cd)], [.ref on], M)) rfl h_cd rfl rfl ?_
    refine ps_get (S' := (17, [(0, .ref cd)], [.int (nI o)], M)) rfl h_on rfl rfl ?_
    refine ps_st (S' := (20, [(0, .ref cd)], [.int 169, .int (nI o)], M)) rfl rfl rfl ?_
    refine ps_if2 (S1 := (36, [(0, .ref cd)], [], M)) (S2 := (23, [(0, .ref cd)], [], M)) rfl rfl rfl (fun c_20 => ?_) (fun c_20 => ?_)
    · have c_20 : ¬ (nI o) = 169 := of_decide_eq_true c_20
      have n_20 : ¬ (o = 169) := fun h9 => c_20 ((eq_nI (p := o) (n := 169) (by omega) (by decide)).mpr h9)
      refine ps_st (S' := (37, [(0, .ref cd)], [.int 0], M)) rfl rfl rfl ?_
      refine ps_st (S' := (38, [(1, .int 0), (0, .ref cd)], [], M)) rfl rfl rfl ?_
      refine ps_st (S' := (39, [(1, .int 0), (0, .ref cd)], [.int 0], M)) rfl rfl rfl ?_
      refine ps_if (S1 := (68, [], [], M)) (S2 := (42, [(1, .int 0), (0, .ref cd)], [], M)) rfl rfl rfl (fun c_39 => ?_) (fun c_39 => ?_)
      · exact absurd (of_decide_eq_true c_39) (by decide)
      refine ps_st (S' := (43, [(1, .int 0), (0, .ref cd)], [.ref cd], M)) rfl rfl rfl ?_
      refine ps_get (S' := (46, [(1, .int 0), (0, .ref cd)], [.ref on], M)) rfl h_cd rfl rfl ?_
      refine ps_get (S' := (49, [(1, .int 0), (0, .ref cd)], [.int (nI v)], M)) rfl h_on rfl rfl ?_
      refine ps_st (S' := (50, [(1, .int 0), (0, .ref cd)], [.ref cd, .int (nI v)], M)) rfl rfl rfl ?_
      refine ps_get (S' := (53, [(1, .int 0), (0, .ref cd)], [.ref on, .int (nI v)], M)) rfl h_cd rfl rfl ?_
      refine ps_get (S' := (56, [(1, .int 0), (0, .ref cd)], [.int (nI lp), .int (nI v)], M)) rfl h_on rfl rfl ?_
      refine ps_st (S' := (57, [(1, .int 0), (0, .ref cd)], [.int ((nI v) + (nI lp))], M)) rfl rfl rfl ?_
      rw [nI_add1 (p := v) (k := lp) (x := (nI lp)) rfl (by omega)]
      show pl _ _ _ (_, [(1, .int 0), (0, .ref cd)], [.int (nI (v + lp))], M) _
      refine ps_st (S' := (58, [(1, .int 0), (0, .ref cd)], [.ref cd, .int (nI (v + lp))], M)) rfl rfl rfl ?_
      refine ps_get (S' := (61, [(1, .int 0), (0, .ref cd)], [.int (nI ml), .int (nI (v + lp))], M)) rfl h_cd rfl rfl ?_
      refine ps_if2 (S1 := (68, [], [], M)) (S2 := (64, [(1, .int 0), (0, .ref cd)], [], M)) rfl rfl rfl (fun c_61 => ?_) (fun c_61 => ?_)
      · have c_61 : (nI ml) < (nI (v + lp)) := of_decide_eq_true c_61
        have n_61 : ml < v + lp := (lt_nI (p := ml) (n := v + lp) (by omega) (by omega)).mp c_61
        refine ps_st (S' := (69, [], [.int 0], M)) rfl rfl rfl ?_
        exact ps_ret rfl rfl (⟨congrArg (fun x => some (Value.int (nI x))) (show 0 = ohN f n E mj ml o v w lp from by unfold ohN; first | ((repeat first | rw [if_pos (by omega)] | rw [if_neg (by omega)]) <;> first | rfl | omega) | ((repeat' split) <;> first | rfl | (exfalso; omega) | omega)), rfl⟩)
      · have c_61 : ¬ ((nI ml) < (nI (v + lp))) := of_decide_eq_false c_61
        have n_61 : ¬ (ml < v + lp) := fun h9 => c_61 ((lt_nI (p := ml) (n := v + lp) (by omega) (by omega)).mpr h9)
        refine ps_st (S' := (65, [(1, .int 0), (0, .ref cd)], [.int 1], M)) rfl rfl rfl ?_
        refine ps_st (S' := (69, [], [.int 1], M)) rfl rfl rfl ?_
        exact ps_ret rfl rfl (⟨congrArg (fun x => some (Value.int (nI x))) (show 1 = ohN f n E mj ml o v w lp from by unfold ohN; first | ((repeat first | rw [if_pos (by omega)] | rw [if_neg (by omega)]) <;> first | rfl | omega) | ((repeat' split) <;> first | rfl | (exfalso; omega) | omega)), rfl⟩)
    · have c_20 : ¬ (¬ (nI o) = 169) := of_decide_eq_false c_20
      have n_20 : o = 169 := (eq_nI (p := o) (n := 169) (by omega) (by decide)).mp (Decidable.not_not.mp c_20)
      refine ps_st (S' := (24, [(0, .ref cd)], [.ref cd], M)) rfl rfl rfl ?_
      refine ps_get (S' := (27, [(0, .ref cd)], [.int (nI mj)], M)) rfl h_cd rfl rfl ?_
      refine ps_st (S' := (29, [(0, .ref cd)], [.int 51, .int (nI mj)], M)) rfl rfl rfl ?_
      refine ps_if2 (S1 := (36, [(0, .ref cd)], [], M)) (S2 := (32, [(0, .ref cd)], [], M)) rfl rfl rfl (fun c_29 => ?_) (fun c_29 => ?_)
      · have c_29 : (nI mj) < 51 := of_decide_eq_true c_29
        have n_29 : mj < 51 := (lt_nI (p := mj) (n := 51) (by omega) (by decide)).mp c_29
        refine ps_st (S' := (37, [(0, .ref cd)], [.int 0], M)) rfl rfl rfl ?_
        refine ps_st (S' := (38, [(1, .int 0), (0, .ref cd)], [], M)) rfl rfl rfl ?_
        refine ps_st (S' := (39, [(1, .int 0), (0, .ref cd)], [.int 0], M)) rfl rfl rfl ?_
        refine ps_if (S1 := (68, [], [], M)) (S2 := (42, [(1, .int 0), (0, .ref cd)], [], M)) rfl rfl rfl (fun c_39 => ?_) (fun c_39 => ?_)
        · exact absurd (of_decide_eq_true c_39) (by decide)
        refine ps_st (S' := (43, [(1, .int 0), (0, .ref cd)], [.ref cd], M)) rfl rfl rfl ?_
        refine ps_get (S' := (46, [(1, .int 0), (0, .ref cd)], [.ref on], M)) rfl h_cd rfl rfl ?_
        refine ps_get (S' := (49, [(1, .int 0), (0, .ref cd)], [.int (nI v)], M)) rfl h_on rfl rfl ?_
        refine ps_st (S' := (50, [(1, .int 0), (0, .ref cd)], [.ref cd, .int (nI v)], M)) rfl rfl rfl ?_
        refine ps_get (S' := (53, [(1, .int 0), (0, .ref cd)], [.ref on, .int (nI v)], M)) rfl h_cd rfl rfl ?_
        refine ps_get (S' := (56, [(1, .int 0), (0, .ref cd)], [.int (nI lp), .int (nI v)], M)) rfl h_on rfl rfl ?_
        refine ps_st (S' := (57, [(1, .int 0), (0, .ref cd)], [.int ((nI v) + (nI lp))], M)) rfl rfl rfl ?_
        rw [nI_add1 (p := v) (k := lp) (x := (nI lp)) rfl (by omega)]
        show pl _ _ _ (_, [(1, .int 0), (0, .ref cd)], [.int (nI (v + lp))], M) _
        refine ps_st (S' := (58, [(1, .int 0), (0, .ref cd)], [.ref cd, .int (nI (v + lp))], M)) rfl rfl rfl ?_
        refine ps_get (S' := (61, [(1, .int 0), (0, .ref cd)], [.int (nI ml), .int (nI (v + lp))], M)) rfl h_cd rfl rfl ?_
        refine ps_if2 (S1 := (68, [], [], M)) (S2 := (64, [(1, .int 0), (0, .ref cd)], [], M)) rfl rfl rfl (fun c_61 => ?_) (fun c_61 => ?_)
        · have c_61 : (nI ml) < (nI (v + lp)) := of_decide_eq_true c_61
          have n_61 : ml < v + lp := (lt_nI (p := ml) (n := v + lp) (by omega) (by omega)).mp c_61
          refine ps_st (S' := (69, [], [.int 0], M)) rfl rfl rfl ?_
          exact ps_ret rfl rfl (⟨congrArg (fun x => some (Value.int (nI x))) (show 0 = ohN f n E mj ml o v w lp from by unfold ohN; first | ((repeat first | rw [if_pos (by omega)] | rw [if_neg (by omega)]) <;> first | rfl | omega) | ((repeat' split) <;> first | rfl | (exfalso; omega) | omega)), rfl⟩)
        · have c_61 : ¬ ((nI ml) < (nI (v + lp))) := of_decide_eq_false c_61
          have n_61 : ¬ (ml < v + lp) := fun h9 => c_61 ((lt_nI (p := ml) (n := v + lp) (by omega) (by omega)).mpr h9)
          refine ps_st (S' := (65, [(1, .int 0), (0, .ref cd)], [.int 1], M)) rfl rfl rfl ?_
          refine ps_st (S' := (69, [], [.int 1], M)) rfl rfl rfl ?_
          exact ps_ret rfl rfl (⟨congrArg (fun x => some (Value.int (nI x))) (show 1 = ohN f n E mj ml o v w lp from by unfold ohN; first | ((repeat first | rw [if_pos (by omega)] | rw [if_neg (by omega)]) <;> first | rfl | omega) | ((repeat' split) <;> first | rfl | (exfalso; omega) | omega)), rfl⟩)
      · have c_29 : ¬ ((nI mj) < 51) := of_decide_eq_false c_29
        have n_29 : ¬ (mj < 51) := fun h9 => c_29 ((lt_nI (p := mj) (n := 51) (by omega) (by decide)).mpr h9)
        refine ps_st (S' := (33, [(0, .ref cd)], [.int 1], M)) rfl rfl rfl ?_
        refine ps_st (S' := (37, [(0, .ref cd)], [.int 1], M)) rfl rfl rfl ?_
        refine ps_st (S' := (38, [(1, .int 1), (0, .ref cd)], [], M)) rfl rfl rfl ?_
        refine ps_st (S' := (39, [(1, .int 1), (0, .ref cd)], [.int 1], M)) rfl rfl rfl ?_
        refine ps_if (S1 := (68, [], [], M)) (S2 := (42, [(1, .int 1), (0, .ref cd)], [], M)) rfl rfl rfl (fun c_39 => ?_) (fun c_39 => ?_)
        rotate_left
        · exact absurd (by decide) (of_decide_eq_false c_39)
        refine ps_st (S' := (69, [], [.int 0], M)) rfl rfl rfl ?_
        exact ps_ret rfl rfl (⟨congrArg (fun x => some (Value.int (nI x))) (show 0 = ohN f n E mj ml o v w lp from by unfold ohN; first | ((repeat first | rw [if_pos (by omega)] | rw [if_neg (by omega)]) <;> first | rfl | omega) | ((repeat' split) <;> first | rfl | (exfalso; omega) | omega)), rfl⟩)
set_option maxHeartbeats 1000000 in
theorem dk_operandsHoldL {g : xe_G} {M : mi_H} {f : Nat → Int32} {n N q : Nat} {E : List (Nat × Nat)} {cd on b cb L ml mj o v lp : Nat} {y6 : Int32} {c0 c2 c3 c4 y4 y8 y9 y10 y11 : Int32} {v8 v9 v10 : Value} (h_cd : M.1 cd = some (ob 4 [.int c0, .int (nI ml), .int c2, .int c3, .int c4, .ref q, .int (nI mj), .ref on, v8, v9, v10])) (h_on : M.1 on = some (ob 5 [.ref b, .int (nI cb), .int (nI L), .int (nI o), .int y4, .int (nI v), .int y6, .int (nI lp), .int y8, .int y9, .int y10, .int y11])) (hmj : mj < 65536) (hml : ml < 65536) (ho : o < 256) (hv : v < 65536) (hlp : 1 ≤ lp ∧ lp < 3) (hV : PV g f n N E q M) : pt (mT g) 82 [.ref cd] M (fun r9 M' => (r9 = some (.int (nI (ohN f n E mj ml o v 0 lp))) ∧ M = M')) := by
  refine pt_in (b := mb_82 g) rfl (fun kf => ?_)
  show pl (mT g) kf (mb_82 g).2 (0, [(0, .ref cd)], [], M) _
  refine ps_st (S' := (1, [(0, .ref cd)], [.ref cd], M)) rfl rfl rfl ?_
  refine ps_get (S' := (4, [(0, .ref cd)], [.ref on], M)) rfl h_cd rfl rfl ?_
  refine ps_get (S' := (7, [(0, .ref cd)], [.int (nI lp)], M)) rfl h_on rfl rfl ?_
  refine ps_if (S1 := (70, [(0, .ref cd)], [], M)) (S2 := (10, [(0, .ref cd)], [], M)) rfl rfl rfl (fun c_7 => ?_) (fun c_7 => ?_)
  · exact absurd (of_decide_eq_true c_7) (show ¬ ((nI lp) ≤ 0) from fun h9 => absurd ((le_nI (p := lp) (n := 0) (by omega) (by decide)).mp h9) (by omega))
  refine ps_st (S' := (11, [(0, .ref cd)], [.ref cd], M)) rfl rfl rfl ?_
  refine ps_get (S' := (14, [(0, .ref cd)], [.ref on], M)) rfl h_cd rfl rfl ?_
  refine ps_get (S' := (17, [(0, .ref cd)], [.int (nI o)], M)) rfl h_on rfl rfl ?_
  refine ps_st (S' := (20, [(0, .ref cd)], [.int 169, .int (nI o)], M)) rfl rfl rfl ?_
  refine ps_if2 (S1 := (36, [(0, .ref cd)], [], M)) (S2 := (23, [(0, .ref cd)], [], M)) rfl rfl rfl (fun c_20 => ?_) (fun c_20 => ?_)
  · have c_20 : ¬ (nI o) = 169 := of_decide_eq_true c_20
    have n_20 : ¬ (o = 169) := fun h9 => c_20 ((eq_nI (p := o) (n := 169) (by omega) (by decide)).mpr h9)
    refine ps_st (S' := (37, [(0, .ref cd)], [.int 0], M)) rfl rfl rfl ?_
    refine ps_st (S' := (38, [(1, .int 0), (0, .ref cd)], [], M)) rfl rfl rfl ?_
    refine ps_st (S' := (39, [(1, .int 0), (0, .ref cd)], [.int 0], M)) rfl rfl rfl ?_
    refine ps_if (S1 := (68, [], [], M)) (S2 := (42, [(1, .int 0), (0, .ref cd)], [], M)) rfl rfl rfl (fun c_39 => ?_) (fun c_39 => ?_)
    · exact absurd (of_decide_eq_true c_39) (by decide)
    refine ps_st (S' := (43, [(1, .int 0), (0, .ref cd)], [.ref cd], M)) rfl rfl rfl ?_
    refine ps_get (S' := (46, [(1, .int 0), (0, .ref cd)], [.ref on], M)) rfl h_cd rfl rfl ?_
    refine ps_get (S' := (49, [(1, .int 0), (0, .ref cd)], [.int (nI v)], M)) rfl h_on rfl rfl ?_
    refine ps_st (S' := (50, [(1, .int 0), (0, .ref cd)], [.ref cd, .int (nI v)], M)) rfl rfl rfl ?_
    refine ps_get (S' := (53, [(1, .int 0), (0, .ref cd)], [.ref on, .int (nI v)], M)) rfl h_cd rfl rfl ?_
    refine ps_get (S' := (56, [(1, .int 0), (0, .ref cd)], [.int (nI lp), .int (nI v)], M)) rfl h_on rfl rfl ?_
    refine ps_st (S' := (57, [(1, .int 0), (0, .ref cd)], [.int ((nI v) + (nI lp))], M)) rfl rfl rfl ?_
    rw [nI_add1 (p := v) (k := lp) (x := (nI lp)) rfl (by omega)]
    show pl _ _ _ (_, [(1, .int 0), (0, .ref cd)], [.int (nI (v + lp))], M) _
    refine ps_st (S' := (58, [(1, .int 0), (0, .ref cd)], [.ref cd, .int (nI (v + lp))], M)) rfl rfl rfl ?_
    refine ps_get (S' := (61, [(1, .int 0), (0, .ref cd)], [.int (nI ml), .int (nI (v + lp))], M)) rfl h_cd rfl rfl ?_
    refine ps_if2 (S1 := (68, [], [], M)) (S2 := (64, [(1, .int 0), (0, .ref cd)], [], M)) rfl rfl rfl (fun c_61 => ?_) (fun c_61 => ?_)
    · have c_61 : (nI ml) < (nI (v + lp)) := of_decide_eq_true c_61
      have n_61 : ml < v + lp := (lt_nI (p := ml) (n := v + lp) (by omega) (by omega)).mp c_61
      refine ps_st (S' := (69, [], [.int 0], M)) rfl rfl rfl ?_
      exact ps_ret rfl rfl (⟨congrArg (fun x => some (Value.int (nI x))) (show 0 = ohN f n E mj ml o v 0 lp from by unfold ohN; first | ((repeat first | rw [if_pos (by omega)] | rw [if_neg (by omega)]) <;> first | rfl | omega) | ((repeat' split) <;> first | rfl | (exfalso; omega) | omega)), rfl⟩)
    · have c_61 : ¬ ((nI ml) < (nI (v + lp))) := of_decide_eq_false c_61
      have n_61 : ¬ (ml < v + lp) := fun h9 => c_61 ((lt_nI (p := ml) (n := v + lp) (by omega) (by omega)).mpr h9)
      refine ps_st (S' := (65, [(1, .int 0), (0, .ref cd)], [.int 1], M)) rfl rfl rfl ?_
      refine ps_st (S' := (69, [], [.int 1], M)) rfl rfl rfl ?_
      exact ps_ret rfl rfl (⟨congrArg (fun x => some (Value.int (nI x))) (show 1 = ohN f n E mj ml o v 0 lp from by unfold ohN; first | ((repeat first | rw [if_pos (by omega)] | rw [if_neg (by omega)]) <;> first | rfl | omega) | ((repeat' split) <;> first | rfl | (exfalso; omega) | omega)), rfl⟩)
  · have c_20 : ¬ (¬ (nI o) = 169) := of_decide_eq_false c_20
    have n_20 : o = 169 := (eq_nI (p := o) (n := 169) (by omega) (by decide)).mp (Decidable.not_not.mp c_20)
    refine ps_st (S' := (24, [(0, .ref cd)], [.ref cd], M)) rfl rfl rfl ?_
    refine ps_get (S' := (27, [(0, .ref cd)], [.int (nI mj)], M)) rfl h_cd rfl rfl ?_
    refine ps_st (S' := (29, [(0, .ref cd)], [.int 51, .int (nI mj)], M)) rfl rfl rfl ?_
    refine ps_if2 (S1 := (36, [(0, .ref cd)], [], M)) (S2 := (32, [(0, .ref cd)], [], M)) rfl rfl rfl (fun c_29 => ?_) (fun c_29 => ?_)
    · have c_29 : (nI mj) < 51 := of_decide_eq_true c_29
      have n_29 : mj < 51 := (lt_nI (p := mj) (n := 51) (by omega) (by decide)).mp c_29
      refine ps_st (S' := (37, [(0, .ref cd)], [.int 0], M)) rfl rfl rfl ?_
      refine ps_st (S' := (38, [(1, .int 0), (0, .ref cd)], [], M)) rfl rfl rfl ?_
      refine ps_st (S' := (39, [(1, .int 0), (0, .ref cd)], [.int 0], M)) rfl rfl rfl ?_
      refine ps_if (S1 := (68, [], [], M)) (S2 := (42, [(1, .int 0), (0, .ref cd)], [], M)) rfl rfl rfl (fun c_39 => ?_) (fun c_39 => ?_)
      · exact absurd (of_decide_eq_true c_39) (by decide)
      refine ps_st (S' := (43, [(1, .int 0), (0, .ref cd)], [.ref cd], M)) rfl rfl rfl ?_
      refine ps_get (S' := (46, [(1, .int 0), (0, .ref cd)], [.ref on], M)) rfl h_cd rfl rfl ?_
      refine ps_get (S' := (49, [(1, .int 0), (0, .ref cd)], [.int (nI v)], M)) rfl h_on rfl rfl ?_
      refine ps_st (S' := (50, [(1, .int 0), (0, .ref cd)], [.ref cd, .int (nI v)], M)) rfl rfl rfl ?_
      refine ps_get (S' := (53, [(1, .int 0), (0, .ref cd)], [.ref on, .int (nI v)], M)) rfl h_cd rfl rfl ?_
      refine ps_get (S' := (56, [(1, .int 0), (0, .ref cd)], [.int (nI lp), .int (nI v)], M)) rfl h_on rfl rfl ?_
      refine ps_st (S' := (57, [(1, .int 0), (0, .ref cd)], [.int ((nI v) + (nI lp))], M)) rfl rfl rfl ?_
      rw [nI_add1 (p := v) (k := lp) (x := (nI lp)) rfl (by omega)]
      show pl _ _ _ (_, [(1, .int 0), (0, .ref cd)], [.int (nI (v + lp))], M) _
      refine ps_st (S' := (58, [(1, .int 0), (0, .ref cd)], [.ref cd, .int (nI (v + lp))], M)) rfl rfl rfl ?_
      refine ps_get (S' := (61, [(1, .int 0), (0, .ref cd)], [.int (nI ml), .int (nI (v + lp))], M)) rfl h_cd rfl rfl ?_
      refine ps_if2 (S1 := (68, [], [], M)) (S2 := (64, [(1, .int 0), (0, .ref cd)], [], M)) rfl rfl rfl (fun c_61 => ?_) (fun c_61 => ?_)
      · have c_61 : (nI ml) < (nI (v + lp)) := of_decide_eq_true c_61
        have n_61 : ml < v + lp := (lt_nI (p := ml) (n := v + lp) (by omega) (by omega)).mp c_61
        refine ps_st (S' := (69, [], [.int 0], M)) rfl rfl rfl ?_
        exact ps_ret rfl rfl (⟨congrArg (fun x => some (Value.int (nI x))) (show 0 = ohN f n E mj ml o v 0 lp from by unfold ohN; first | ((repeat first | rw [if_pos (by omega)] | rw [if_neg (by omega)]) <;> first | rfl | omega) | ((repeat' split) <;> first | rfl | (exfalso; omega) | omega)), rfl⟩)
      · have c_61 : ¬ ((nI ml) < (nI (v + lp))) := of_decide_eq_false c_61
        have n_61 : ¬ (ml < v + lp) := fun h9 => c_61 ((lt_nI (p := ml) (n := v + lp) (by omega) (by omega)).mpr h9)
        refine ps_st (S' := (65, [(1, .int 0), (0, .ref cd)], [.int 1], M)) rfl rfl rfl ?_
        refine ps_st (S' := (69, [], [.int 1], M)) rfl rfl rfl ?_
        exact ps_ret rfl rfl (⟨congrArg (fun x => some (Value.int (nI x))) (show 1 = ohN f n E mj ml o v 0 lp from by unfold ohN; first | ((repeat first | rw [if_pos (by omega)] | rw [if_neg (by omega)]) <;> first | rfl | omega) | ((repeat' split) <;> first | rfl | (exfalso; omega) | omega)), rfl⟩)
    · have c_29 : ¬ ((nI mj) < 51) := of_decide_eq_false c_29
      have n_29 : ¬ (mj < 51) := fun h9 => c_29 ((lt_nI (p := mj) (n := 51) (by omega) (by decide)).mpr h9)
      refine ps_st (S' := (33, [(0, .ref cd)], [.int 1], M)) rfl rfl rfl ?_
      refine ps_st (S' := (37, [(0, .ref cd)], [.int 1], M)) rfl rfl rfl ?_
      refine ps_st (S' := (38, [(1, .int 1), (0, .ref cd)], [], M)) rfl rfl rfl ?_
      refine ps_st (S' := (39, [(1, .int 1), (0, .ref cd)], [.int 1], M)) rfl rfl rfl ?_
      refine ps_if (S1 := (68, [], [], M)) (S2 := (42, [(1, .int 1), (0, .ref cd)], [], M)) rfl rfl rfl (fun c_39 => ?_) (fun c_39 => ?_)
      rotate_left
      · exact absurd (by decide) (of_decide_eq_false c_39)
      refine ps_st (S' := (69, [], [.int 0], M)) rfl rfl rfl ?_
      exact ps_ret rfl rfl (⟨congrArg (fun x => some (Value.int (nI x))) (show 0 = ohN f n E mj ml o v 0 lp from by unfold ohN; first | ((repeat first | rw [if_pos (by omega)] | rw [if_neg (by omega)]) <;> first | rfl | omega) | ((repeat' split) <;> first | rfl | (exfalso; omega) | omega)), rfl⟩)
set_option maxHeartbeats 1000000 in
theorem dk_callHoldsS {g : xe_G} {M : mi_H} {f : Nat → Int32} {n N q : Nat} {E : List (Nat × Nat)} {cd on b cb L ml mj o : Nat} {y5 y6 : Int32} {c0 c2 c3 c4 y4 y8 y9 y10 y11 : Int32} {v8 v9 v10 : Value} {t : Int32} (h_cd : M.1 cd = some (ob 4 [.int c0, .int (nI ml), .int c2, .int c3, .int c4, .ref q, .int (nI mj), .ref on, v8, v9, v10])) (h_on : M.1 on = some (ob 5 [.ref b, .int (nI cb), .int (nI L), .int (nI o), .int y4, .int y5, .int y6, .int 0, .int y8, .int y9, .int y10, .int y11])) (ho : o = 16 ∨ o = 17 ∨ o = 170 ∨ o = 171) (hV : PV g f n N E q M) : pt (mT g) 75 [.ref cd, .int t] M (fun v M' => (v = some (.int 1) ∧ M = M')) := by
  refine pt_in (b := mb_75 g) rfl (fun kf => ?_)
  show pl (mT g) kf (mb_75 g).2 (0, [(0, .ref cd), (1, .int t)], [], M) _
  refine ps_st (S' := (1, [(0, .ref cd), (1, .int t)], [.ref cd], M)) rfl rfl rfl ?_
  refine ps_get (S' := (4, [(0, .ref cd), (1, .int t)], [.ref on], M)) rfl h_cd rfl rfl ?_
  refine ps_get (S' := (7, [(0, .ref cd), (1, .int t)], [.int (nI o)], M)) rfl h_on rfl rfl ?_
  refine pl_sw rfl (fun t_7 et_7 => ?_)
  have ht_7 : t_7 ∈ [40, 69, 75, 106, 151, 163] := mi_sw_sub et_7 (by decide)
  simp only [List.mem_cons, List.not_mem_nil, or_false] at ht_7
  rcases ht_7 with rfl | rfl | rfl | rfl | rfl | rfl
  · show pl _ _ _ (40, [(0, .ref cd), (1, .int t)], [], M) _
    have m_7 := sw_nat (t := o) (by omega) et_7
    simp at m_7
    exfalso; omega
  · show pl _ _ _ (69, [(0, .ref cd), (1, .int t)], [], M) _
    have m_7 := sw_nat (t := o) (by omega) et_7
    simp at m_7
    exfalso; omega
  · show pl _ _ _ (75, [(0, .ref cd), (1, .int t)], [], M) _
    have m_7 := sw_nat (t := o) (by omega) et_7
    simp at m_7
    exfalso; omega
  · show pl _ _ _ (106, [(0, .ref cd), (1, .int t)], [], M) _
    have m_7 := sw_nat (t := o) (by omega) et_7
    simp at m_7
    exfalso; omega
  · show pl _ _ _ (151, [(0, .ref cd), (1, .int t)], [], M) _
    have m_7 := sw_nat (t := o) (by omega) et_7
    simp at m_7
    exfalso; omega
  · show pl _ _ _ (163, [(0, .ref cd), (1, .int t)], [], M) _
    have m_7 := sw_nat (t := o) (by omega) et_7
    simp at m_7
    refine ps_st (S' := (164, [(0, .ref cd), (1, .int t)], [.int 1], M)) rfl rfl rfl ?_
    exact ps_ret rfl rfl (⟨rfl, rfl⟩)
set_option maxHeartbeats 1000000 in
theorem dk_operandsHoldS {g : xe_G} {M : mi_H} {f : Nat → Int32} {n N q : Nat} {E : List (Nat × Nat)} {cd on b cb L ml mj o : Nat} {y5 y6 : Int32} {c0 c2 c3 c4 y4 y8 y9 y10 y11 : Int32} {v8 v9 v10 : Value} (h_cd : M.1 cd = some (ob 4 [.int c0, .int (nI ml), .int c2, .int c3, .int c4, .ref q, .int (nI mj), .ref on, v8, v9, v10])) (h_on : M.1 on = some (ob 5 [.ref b, .int (nI cb), .int (nI L), .int (nI o), .int y4, .int y5, .int y6, .int 0, .int y8, .int y9, .int y10, .int y11])) (ho : o = 16 ∨ o = 17 ∨ o = 170 ∨ o = 171) (h0 : tg f E 0 = 0) (hV : PV g f n N E q M) : pt (mT g) 82 [.ref cd] M (fun v M' => (v = some (.int 1) ∧ M = M')) := by
  refine pt_in (b := mb_82 g) rfl (fun kf => ?_)
  show pl (mT g) kf (mb_82 g).2 (0, [(0, .ref cd)], [], M) _
  refine ps_st (S' := (1, [(0, .ref cd)], [.ref cd], M)) rfl rfl rfl ?_
  refine ps_get (S' := (4, [(0, .ref cd)], [.ref on], M)) rfl h_cd rfl rfl ?_
  refine ps_get (S' := (7, [(0, .ref cd)], [.int 0], M)) rfl h_on rfl rfl ?_
  refine ps_if (S1 := (70, [(0, .ref cd)], [], M)) (S2 := (10, [(0, .ref cd)], [], M)) rfl rfl rfl (fun c_7 => ?_) (fun c_7 => ?_)
  rotate_left
  · exact absurd (by decide) (of_decide_eq_false c_7)
  refine ps_st (S' := (71, [(0, .ref cd)], [.ref cd], M)) rfl rfl rfl ?_
  refine ps_get (S' := (74, [(0, .ref cd)], [.ref on], M)) rfl h_cd rfl rfl ?_
  refine ps_get (S' := (77, [(0, .ref cd)], [.int (nI o)], M)) rfl h_on rfl rfl ?_
  refine pl_sw rfl (fun t_77 et_77 => ?_)
  have ht_77 : t_77 ∈ [192, 207, 236, 255, 274, 299, 314, 359, 384, 444] := mi_sw_sub et_77 (by decide)
  simp only [List.mem_cons, List.not_mem_nil, or_false] at ht_77
  rcases ht_77 with rfl | rfl | rfl | rfl | rfl | rfl | rfl | rfl | rfl | rfl
  · show pl _ _ _ (192, [(0, .ref cd)], [], M) _
    have m_77 := sw_nat (t := o) (by omega) et_77
    simp at m_77
    exfalso; omega
  · show pl _ _ _ (207, [(0, .ref cd)], [], M) _
    have m_77 := sw_nat (t := o) (by omega) et_77
    simp at m_77
    exfalso; omega
  · show pl _ _ _ (236, [(0, .ref cd)], [], M) _
    have m_77 := sw_nat (t := o) (by omega) et_77
    simp at m_77
    exfalso; omega
  · show pl _ _ _ (255, [(0, .ref cd)], [], M) _
    have m_77 := sw_nat (t := o) (by omega) et_77
    simp at m_77
    exfalso; omega
  · show pl _ _ _ (274, [(0, .ref cd)], [], M) _
    have m_77 := sw_nat (t := o) (by omega) et_77
    simp at m_77
    exfalso; omega
  · show pl _ _ _ (299, [(0, .ref cd)], [], M) _
    have m_77 := sw_nat (t := o) (by omega) et_77
    simp at m_77
    exfalso; omega
  · show pl _ _ _ (314, [(0, .ref cd)], [], M) _
    have m_77 := sw_nat (t := o) (by omega) et_77
    simp at m_77
    exfalso; omega
  · show pl _ _ _ (359, [(0, .ref cd)], [], M) _
    have m_77 := sw_nat (t := o) (by omega) et_77
    simp at m_77
    exfalso; omega
  · show pl _ _ _ (384, [(0, .ref cd)], [], M) _
    have m_77 := sw_nat (t := o) (by omega) et_77
    simp at m_77
    exfalso; omega
  · show pl _ _ _ (444, [(0, .ref cd)], [], M) _
    have m_77 := sw_nat (t := o) (by omega) et_77
    simp at m_77
    refine ps_st (S' := (445, [(0, .ref cd)], [.ref cd], M)) rfl rfl rfl ?_
    refine ps_st (S' := (446, [(0, .ref cd)], [.ref cd, .ref cd], M)) rfl rfl rfl ?_
    refine ps_get (S' := (449, [(0, .ref cd)], [.ref q, .ref cd], M)) rfl h_cd rfl rfl ?_
    refine ps_st (S' := (450, [(0, .ref cd)], [.ref cd, .ref q, .ref cd], M)) rfl rfl rfl ?_
    refine ps_get (S' := (453, [(0, .ref cd)], [.ref on, .ref q, .ref cd], M)) rfl h_cd rfl rfl ?_
    refine ps_get (S' := (456, [(0, .ref cd)], [.int y5, .ref q, .ref cd], M)) rfl h_on rfl rfl ?_
    refine pl_call (a := [.ref q, .int y5]) (rest := [.ref cd]) rfl rfl rfl (dz_tagOf (f := f) (n := n) (N := N) (q := q) (E := E) (k := y5) (hV) (h0)) (fun v1 M2 q3 => ?_)
    obtain ⟨rfl, rfl⟩ := q3
    show pl _ _ _ (459, [(0, .ref cd)], [.int (nI (tg f E y5.toNatClampNeg)), .ref cd], M) _
    refine pl_call (a := [.ref cd, .int (nI (tg f E y5.toNatClampNeg))]) (rest := []) rfl rfl rfl (dk_callHoldsS (f := f) (n := n) (N := N) (q := q) (E := E) (cd := cd) (on := on) (b := b) (cb := cb) (L := L) (ml := ml) (mj := mj) (o := o) (y5 := y5) (y6 := y6) (c0 := c0) (c2 := c2) (c3 := c3) (c4 := c4) (y4 := y4) (y8 := y8) (y9 := y9) (y10 := y10) (y11 := y11) (v8 := v8) (v9 := v9) (v10 := v10) (t := (nI (tg f E y5.toNatClampNeg))) h_cd h_on (ho) (hV)) (fun v4 M5 q6 => ?_)
    obtain ⟨rfl, rfl⟩ := q6
    show pl _ _ _ (462, [(0, .ref cd)], [.int 1], M) _
    exact ps_ret rfl rfl (⟨rfl, rfl⟩)
end
section

theorem oh_lp {f : Nat → Int32} {n : Nat} {E : List (Nat × Nat)} {mj ml o v w lp : Nat} (h : 0 < lp) : ohN f n E mj ml o v w lp = ohN f n E mj ml o v 0 lp := by
  unfold ohN
  rw [if_pos h, if_pos h]
def tdS (f : Nat → Int32) (cb o sw i : Nat) : Int32 := if i = 0 then nI (by4 f (cb + sw)) else if o = 170 then nI (by4 f (cb + (sw + 8 + 4 * i))) else nI (by4 f (cb + (sw + 4 + 8 * i)))
theorem tg_S {f : Nat → Int32} {cb pc o i a b c sw : Nat} {s1 s2 : Int32} {x1 : Option Int32} : tgI f cb pc (o, a, s1, s2, b, c, x1, some sw) i = (pc : Int) + (tdS f cb o sw i).toInt := rfl
theorem tg_J {f : Nat → Int32} {cb pc o i a b c : Nat} {s1 s2 d : Int32} : tgI f cb pc (o, a, s1, s2, b, c, some d, none) i = (pc : Int) + d.toInt := rfl
theorem thG_z {T : Nat → Int} {S : List Nat} {i : Nat} : thG T S 0 i = 1 := rfl
/-- the number of the instruction at a place, one less -/
def naI (F : Nat → Int32) (L : Nat) (t : Int64) : Int32 := if 0 ≤ t.toInt ∧ t.toInt < L then F t.toInt.toNat - 1 else -1
theorem t64_val {pc : Nat} {d : Int32} (h : pc < 1073741824) : ((Int32.toInt64 (nI pc)) + (Int32.toInt64 d)).toInt = (pc : Int) + d.toInt := by
  have h1 := i32_bd d
  rw [Int64.toInt_add, i2l_nI h, i2l_val]
  exact Int.bmod_eq_of_le (by omega) (by omega)
theorem nu_m1 {S : List Nat} {k : Nat} (hSl : S.length < 65536) : (k ∈ S ∧ nuA S k - 1 = nI (S.idxOf k)) ∨ (k ∉ S ∧ nuA S k - 1 = -1) := by
  unfold nuA
  by_cases h : k ∈ S
  · refine Or.inl ⟨h, ?_⟩
    have := idx_lt h
    rw [if_pos h]
    exact nI_sub1 (p := S.idxOf k + 1) (k := 1) rfl (by omega) (by omega)
  · refine Or.inr ⟨h, ?_⟩
    rw [if_neg h]
    rfl
theorem na_ge {F : Nat → Int32} {L : Nat} {S : List Nat} {t : Int64} (hF : ∀ j, j < L → F j = nuA S j) (hSL : ∀ p ∈ S, p < L) (hSl : S.length < 65536) : 0 ≤ naI F L t ↔ 0 ≤ t.toInt ∧ t.toInt.toNat ∈ S := by
  unfold naI
  by_cases h : 0 ≤ t.toInt ∧ t.toInt < L
  · rw [if_pos h, hF _ (by omega)]
    rcases nu_m1 (S := S) (k := t.toInt.toNat) hSl with ⟨h1, h2⟩ | ⟨h1, h2⟩
    · rw [h2]
      have := idx_lt h1
      exact ⟨fun _ => ⟨h.1, h1⟩, fun _ => Int32.not_lt.mp (nI_n0 (by omega))⟩
    · rw [h2]
      exact ⟨fun h9 => absurd h9 (by decide), fun h9 => absurd h9.2 h1⟩
  · rw [if_neg h]
    exact ⟨fun h9 => absurd h9 (by decide), fun h9 => absurd ⟨h9.1, by have := hSL _ h9.2; omega⟩ h⟩
theorem op_of {f : Nat → Int32} {cb pc op : Nat} {x : Nat × Int32 × Int32 × Nat × Nat × Option Int32} (h : opC f cb pc op = some x) (ht : ¬ x.2.2.2.2.1 = 0) : ∃ d, x.2.2.2.2.2 = some d := by
  unfold opC at h
  by_cases c0 : 26 ≤ op ∧ op ≤ 45
  · rw [if_pos c0] at h
    cases h
    exact absurd rfl ht
  · rw [if_neg c0] at h
    by_cases c1 : 59 ≤ op ∧ op ≤ 78
    · rw [if_pos c1] at h
      cases h
      exact absurd rfl ht
    · rw [if_neg c1] at h
      by_cases c2 : ¬ lcO op = 0
      · rw [if_pos c2] at h
        cases h
        exact absurd rfl ht
      · rw [if_neg c2] at h
        by_cases c3 : (153 ≤ op ∧ op ≤ 168) ∨ op = 198 ∨ op = 199
        · rw [if_pos c3] at h
          cases h
          exact ⟨_, rfl⟩
        · rw [if_neg c3] at h
          by_cases c4 : op = 16
          · rw [if_pos c4] at h
            cases h
            exact absurd rfl ht
          · rw [if_neg c4] at h
            by_cases c5 : op = 17
            · rw [if_pos c5] at h
              cases h
              exact absurd rfl ht
            · rw [if_neg c5] at h
              by_cases c6 : op = 18 ∨ op = 188
              · rw [if_pos c6] at h
                cases h
                exact absurd rfl ht
              · rw [if_neg c6] at h
                by_cases c7 : op = 19
                · rw [if_pos c7] at h
                  cases h
                  exact absurd rfl ht
                · rw [if_neg c7] at h
                  by_cases c8 : op = 132
                  · rw [if_pos c8] at h
                    cases h
                    exact absurd rfl ht
                  · rw [if_neg c8] at h
                    by_cases c9 : op = 200
                    · rw [if_pos c9] at h
                      cases h
                      exact ⟨_, rfl⟩
                    · rw [if_neg c9] at h
                      by_cases c10 : op = 201
                      · rw [if_pos c10] at h
                        cases h
                        exact ⟨_, rfl⟩
                      · rw [if_neg c10] at h
                        cases hx1 : ixS f cb pc op with
                        | none =>
                          rw [hx1] at h
                          cases h
                        | some x1 =>
                          rw [hx1] at h
                          cases h
                          exact absurd rfl ht
theorem in_of {f : Nat → Int32} {cb L pc o sz lp tc : Nat} {fi se : Int32} {of : Option Int32} {sw : Option Nat} (h : inC f cb L pc = some (o, sz, fi, se, lp, tc, of, sw)) (hs : swN o = 0) (ht : ¬ tc = 0) : ∃ d, of = some d := by
  unfold inC at h
  split at h
  · cases h
  · split at h
    · rename_i ho
      split at h
      · cases h
      · cases h
        rw [show swN (by1 f (cb + pc)) = 1 from if_pos ho] at hs
        cases hs
    · split at h
      · split at h
        · cases h
        · cases h
          exact absurd rfl ht
      · split at h
        · cases h
        · split at h
          · cases h
          · rename_i x hx
            cases h
            exact op_of hx ht
theorem dk_operandsHold7 {g : xe_G} {M : mi_H} {f : Nat → Int32} {n N q : Nat} {E : List (Nat × Nat)} {cd on b cb L ml mj pc : Nat} {x : IC} {c0 c2 c3 c4 y10 y11 : Int32} {v8 v9 v10 : Value} (h_cd : M.1 cd = some (ob 4 [.int c0, .int (nI ml), .int c2, .int c3, .int c4, .ref q, .int (nI mj), .ref on, v8, v9, v10])) (h_on : M.1 on = some (ob 5 [.ref b, .int (nI cb), .int (nI L), .int (nI x.1), .int (nI x.2.1), .int x.2.2.1, .int x.2.2.2.1, .int (nI x.2.2.2.2.1), .int (nI x.2.2.2.2.2.1), .int (nI pc), .int (x.2.2.2.2.2.2.1.getD y10), .int ((x.2.2.2.2.2.2.2.map nI).getD y11)])) (hmj : mj < 65536) (hml : ml < 65536) (h0 : tg f E 0 = 0) (hCP : CP f n E) (hx : inC f cb L pc = some x) (hV : PV g f n N E q M) : pt (mT g) 82 [.ref cd] M (fun v M' => (v = some (.int (nI (okI f n E mj ml x))) ∧ M = M')) := by
  obtain ⟨o, sz, fi, se, lp, tc, of, sw⟩ := x
  obtain ⟨ho, hlp, -, hs⟩ := in_in hx
  dsimp only at ho hlp hs h_on
  unfold okI
  dsimp only
  rcases hs with ⟨h1, h2⟩ | ⟨h1, v, hv, e1, h2⟩
  · rw [if_pos h1]
    subst h2
    exact dk_operandsHoldS h_cd h_on h1 h0 hV
  · rw [if_neg h1]
    subst e1
    rw [nI_toNat (by omega)]
    rcases h2 with h2 | ⟨h2, w, hw, e2⟩
    · rw [oh_lp h2]
      exact dk_operandsHoldL h_cd h_on hmj hml ho hv (by omega) hV
    · subst e2
      rw [nI_toNat (by omega)]
      exact dk_operandsHold h_cd h_on hmj hml ho hv hw hlp h0 hCP hV
set_option maxHeartbeats 1000000 in
theorem dk_targetJ {g : xe_G} {M : mi_H} {on b cb L : Nat} {y4 y5 y6 y7 y8 y10 y11 : Int32} {o pc : Nat} {i : Int32} (h_on : M.1 on = some (ob 5 [.ref b, .int (nI cb), .int (nI L), .int (nI o), .int y4, .int y5, .int y6, .int y7, .int y8, .int (nI pc), .int y10, .int y11])) (ho : o < 65536) (hs : swN o = 0) : pt (mT g) 103 [.ref on, .int i] M (fun v M' => (v = some (.long ((Int32.toInt64 (nI pc)) + (Int32.toInt64 y10))) ∧ M = M')) := by
  refine pt_in (b := mb_103 g) rfl (fun kf => ?_)
  show pl (mT g) kf (mb_103 g).2 (0, [(0, .ref on), (1, .int i)], [], M) _
  refine ps_st (S' := (1, [(0, .ref on), (1, .int i)], [.ref on], M)) rfl rfl rfl ?_
  refine pl_call (a := [.ref on]) (rest := []) rfl rfl rfl (dk_isSwitch (on := on) (b := b) (cb := cb) (L := L) (y4 := y4) (y5 := y5) (y6 := y6) (y7 := y7) (y8 := y8) (y9 := (nI pc)) (y10 := y10) (y11 := y11) (o := o) h_on (by omega)) (fun v1 M2 q3 => ?_)
  obtain ⟨rfl, rfl⟩ := q3
  show pl _ _ _ (4, [(0, .ref on), (1, .int i)], [.int (nI (swN o))], M) _
  have hsw_1 := swO_le o
  refine ps_if (S1 := (19, [(0, .ref on), (1, .int i)], [], M)) (S2 := (7, [(0, .ref on), (1, .int i)], [], M)) rfl rfl rfl (fun c_4 => ?_) (fun c_4 => ?_)
  · exact absurd (of_decide_eq_true c_4) (fun h9 => h9 (by rw [hs]; rfl))
  refine ps_st (S' := (8, [(0, .ref on), (1, .int i)], [.ref on], M)) rfl rfl rfl ?_
  refine ps_get (S' := (11, [(0, .ref on), (1, .int i)], [.int (nI pc)], M)) rfl h_on rfl rfl ?_
  refine ps_st (S' := (12, [(0, .ref on), (1, .int i)], [.long (Int32.toInt64 (nI pc))], M)) rfl rfl rfl ?_
  refine ps_st (S' := (13, [(0, .ref on), (1, .int i)], [.ref on, .long (Int32.toInt64 (nI pc))], M)) rfl rfl rfl ?_
  refine ps_get (S' := (16, [(0, .ref on), (1, .int i)], [.int y10, .long (Int32.toInt64 (nI pc))], M)) rfl h_on rfl rfl ?_
  refine ps_st (S' := (17, [(0, .ref on), (1, .int i)], [.long (Int32.toInt64 y10), .long (Int32.toInt64 (nI pc))], M)) rfl rfl rfl ?_
  refine ps_st (S' := (18, [(0, .ref on), (1, .int i)], [.long ((Int32.toInt64 (nI pc)) + (Int32.toInt64 y10))], M)) rfl rfl rfl ?_
  exact ps_ret rfl rfl (⟨rfl, rfl⟩)
set_option maxHeartbeats 1000000 in
theorem dk_targetS {g : xe_G} {M : mi_H} {f : Nat → Int32} {n on b da cb L : Nat} {y4 y5 y6 y7 y8 y10 : Int32} {o pc sw i : Nat} (h_on : M.1 on = some (ob 5 [.ref b, .int (nI cb), .int (nI L), .int (nI o), .int y4, .int y5, .int y6, .int y7, .int y8, .int (nI pc), .int y10, .int (nI sw)])) (h_b : M.1 b = some (ob 1 [.ref da])) (h_da : M.1 da = some (ar .byte n f)) (hn : n ≤ 65540) (ho : o = 170 ∨ o = 171) (hsw : sw < 65540 ∧ cb < 65540) (hi : i < 65536) (hin : cb + (sw + 4 + (if o = 170 then 4 * i + 4 else 8 * i)) + 4 ≤ n) (hi0 : cb + sw + 4 ≤ n) : pt (mT g) 103 [.ref on, .int (nI i)] M (fun v M' => (v = some (.long ((Int32.toInt64 (nI pc)) + (Int32.toInt64 (tdS f cb o sw i)))) ∧ M = M')) := by
  refine pt_in (b := mb_103 g) rfl (fun kf => ?_)
  show pl (mT g) kf (mb_103 g).2 (0, [(0, .ref on), (1, .int (nI i))], [], M) _
  refine ps_st (S' := (1, [(0, .ref on), (1, .int (nI i))], [.ref on], M)) rfl rfl rfl ?_
  refine pl_call (a := [.ref on]) (rest := []) rfl rfl rfl (dk_isSwitch (on := on) (b := b) (cb := cb) (L := L) (y4 := y4) (y5 := y5) (y6 := y6) (y7 := y7) (y8 := y8) (y9 := (nI pc)) (y10 := y10) (y11 := (nI sw)) (o := o) h_on (by omega)) (fun v1 M2 q3 => ?_)
  obtain ⟨rfl, rfl⟩ := q3
  show pl _ _ _ (4, [(0, .ref on), (1, .int (nI i))], [.int (nI (swN o))], M) _
  have hsw_1 := swO_le o
  refine ps_if (S1 := (19, [(0, .ref on), (1, .int (nI i))], [], M)) (S2 := (7, [(0, .ref on), (1, .int (nI i))], [], M)) rfl rfl rfl (fun c_4 => ?_) (fun c_4 => ?_)
  rotate_left
  · exact absurd (show ¬ ((nI (swN o)) = 0) from by rw [show swN o = 1 from if_pos ho]; decide) (of_decide_eq_false c_4)
  refine ps_st (S' := (20, [(0, .ref on), (1, .int (nI i))], [.int (nI i)], M)) rfl rfl rfl ?_
  refine ps_if (S1 := (39, [(0, .ref on), (1, .int (nI i))], [], M)) (S2 := (23, [(0, .ref on), (1, .int (nI i))], [], M)) rfl rfl rfl (fun c_20 => ?_) (fun c_20 => ?_)
  · have c_20 : ¬ (nI i) = 0 := of_decide_eq_true c_20
    have n_20 : ¬ (i = 0) := fun h9 => c_20 ((eq_nI (p := i) (n := 0) (by omega) (by decide)).mpr h9)
    refine ps_st (S' := (40, [(0, .ref on), (1, .int (nI i))], [.ref on], M)) rfl rfl rfl ?_
    refine ps_get (S' := (43, [(0, .ref on), (1, .int (nI i))], [.int (nI pc)], M)) rfl h_on rfl rfl ?_
    refine ps_st (S' := (44, [(0, .ref on), (1, .int (nI i))], [.long (Int32.toInt64 (nI pc))], M)) rfl rfl rfl ?_
    refine ps_st (S' := (45, [(0, .ref on), (1, .int (nI i))], [.ref on, .long (Int32.toInt64 (nI pc))], M)) rfl rfl rfl ?_
    refine ps_st (S' := (46, [(0, .ref on), (1, .int (nI i))], [.ref on, .ref on, .long (Int32.toInt64 (nI pc))], M)) rfl rfl rfl ?_
    refine ps_get (S' := (49, [(0, .ref on), (1, .int (nI i))], [.int (nI o), .ref on, .long (Int32.toInt64 (nI pc))], M)) rfl h_on rfl rfl ?_
    refine ps_st (S' := (52, [(0, .ref on), (1, .int (nI i))], [.int 170, .int (nI o), .ref on, .long (Int32.toInt64 (nI pc))], M)) rfl rfl rfl ?_
    refine ps_if2 (S1 := (69, [(0, .ref on), (1, .int (nI i))], [.ref on, .long (Int32.toInt64 (nI pc))], M)) (S2 := (55, [(0, .ref on), (1, .int (nI i))], [.ref on, .long (Int32.toInt64 (nI pc))], M)) rfl rfl rfl (fun c_52 => ?_) (fun c_52 => ?_)
    · have c_52 : ¬ (nI o) = 170 := of_decide_eq_true c_52
      have n_52 : ¬ (o = 170) := fun h9 => c_52 ((eq_nI (p := o) (n := 170) (by omega) (by decide)).mpr h9)
      rw [if_neg (show ¬ o = 170 by omega)] at hin
      refine ps_st (S' := (70, [(0, .ref on), (1, .int (nI i))], [.ref on, .ref on, .long (Int32.toInt64 (nI pc))], M)) rfl rfl rfl ?_
      refine ps_get (S' := (73, [(0, .ref on), (1, .int (nI i))], [.int (nI sw), .ref on, .long (Int32.toInt64 (nI pc))], M)) rfl h_on rfl rfl ?_
      refine ps_st (S' := (74, [(0, .ref on), (1, .int (nI i))], [.int 4, .int (nI sw), .ref on, .long (Int32.toInt64 (nI pc))], M)) rfl rfl rfl ?_
      refine ps_st (S' := (75, [(0, .ref on), (1, .int (nI i))], [.int ((nI sw) + 4), .ref on, .long (Int32.toInt64 (nI pc))], M)) rfl rfl rfl ?_
      rw [nI_add1 (p := sw) (k := 4) (x := 4) rfl (by omega)]
      show pl _ _ _ (_, [(0, .ref on), (1, .int (nI i))], [.int (nI (sw + 4)), .ref on, .long (Int32.toInt64 (nI pc))], M) _
      refine ps_st (S' := (77, [(0, .ref on), (1, .int (nI i))], [.int 8, .int (nI (sw + 4)), .ref on, .long (Int32.toInt64 (nI pc))], M)) rfl rfl rfl ?_
      refine ps_st (S' := (78, [(0, .ref on), (1, .int (nI i))], [.int (nI i), .int 8, .int (nI (sw + 4)), .ref on, .long (Int32.toInt64 (nI pc))], M)) rfl rfl rfl ?_
      refine ps_st (S' := (79, [(0, .ref on), (1, .int (nI i))], [.int (8 * (nI i)), .int (nI (sw + 4)), .ref on, .long (Int32.toInt64 (nI pc))], M)) rfl rfl rfl ?_
      rw [nI_mul1 (p := 8) (k := i) (x := 8) (y := (nI i)) rfl rfl (by omega)]
      show pl _ _ _ (_, [(0, .ref on), (1, .int (nI i))], [.int (nI (8 * i)), .int (nI (sw + 4)), .ref on, .long (Int32.toInt64 (nI pc))], M) _
      refine ps_st (S' := (80, [], [.int ((nI (sw + 4)) + (nI (8 * i))), .ref on, .long (Int32.toInt64 (nI pc))], M)) rfl rfl rfl ?_
      rw [nI_add1 (p := sw + 4) (k := 8 * i) (x := (nI (8 * i))) rfl (by omega)]
      show pl _ _ _ (_, [], [.int (nI (sw + 4 + 8 * i)), .ref on, .long (Int32.toInt64 (nI pc))], M) _
      refine pl_call (a := [.ref on, .int (nI (sw + 4 + 8 * i))]) (rest := [.long (Int32.toInt64 (nI pc))]) rfl rfl rfl (dk_is4 (f := f) (n := n) (on := on) (b := b) (da := da) (cb := cb) (L := L) (y3 := (nI o)) (y4 := y4) (y5 := y5) (y6 := y6) (y7 := y7) (y8 := y8) (y9 := (nI pc)) (y10 := y10) (y11 := (nI sw)) (a := (sw + 4 + 8 * i)) h_on h_b h_da (hn) (by omega)) (fun v4 M5 q6 => ?_)
      obtain ⟨rfl, rfl⟩ := q6
      show pl _ _ _ (83, [], [.int (nI (by4 f (cb + (sw + 4 + 8 * i)))), .long (Int32.toInt64 (nI pc))], M) _
      have hb_80 := by4_lt f (cb + (sw + 4 + 8 * i))
      refine ps_st (S' := (84, [], [.long (Int32.toInt64 (nI (by4 f (cb + (sw + 4 + 8 * i))))), .long (Int32.toInt64 (nI pc))], M)) rfl rfl rfl ?_
      refine ps_st (S' := (85, [], [.long ((Int32.toInt64 (nI pc)) + (Int32.toInt64 (nI (by4 f (cb + (sw + 4 + 8 * i))))))], M)) rfl rfl rfl ?_
      exact ps_ret rfl rfl (⟨by unfold tdS; rw [if_neg (by omega), if_neg (by omega)], rfl⟩)
    · have c_52 : ¬ (¬ (nI o) = 170) := of_decide_eq_false c_52
      have n_52 : o = 170 := (eq_nI (p := o) (n := 170) (by omega) (by decide)).mp (Decidable.not_not.mp c_52)
      rw [if_pos (show o = 170 by omega)] at hin
      refine ps_st (S' := (56, [(0, .ref on), (1, .int (nI i))], [.ref on, .ref on, .long (Int32.toInt64 (nI pc))], M)) rfl rfl rfl ?_
      refine ps_get (S' := (59, [(0, .ref on), (1, .int (nI i))], [.int (nI sw), .ref on, .long (Int32.toInt64 (nI pc))], M)) rfl h_on rfl rfl ?_
      refine ps_st (S' := (61, [(0, .ref on), (1, .int (nI i))], [.int 8, .int (nI sw), .ref on, .long (Int32.toInt64 (nI pc))], M)) rfl rfl rfl ?_
      refine ps_st (S' := (62, [(0, .ref on), (1, .int (nI i))], [.int ((nI sw) + 8), .ref on, .long (Int32.toInt64 (nI pc))], M)) rfl rfl rfl ?_
      rw [nI_add1 (p := sw) (k := 8) (x := 8) rfl (by omega)]
      show pl _ _ _ (_, [(0, .ref on), (1, .int (nI i))], [.int (nI (sw + 8)), .ref on, .long (Int32.toInt64 (nI pc))], M) _
      refine ps_st (S' := (63, [(0, .ref on), (1, .int (nI i))], [.int 4, .int (nI (sw + 8)), .ref on, .long (Int32.toInt64 (nI pc))], M)) rfl rfl rfl ?_
      refine ps_st (S' := (64, [(0, .ref on), (1, .int (nI i))], [.int (nI i), .int 4, .int (nI (sw + 8)), .ref on, .long (Int32.toInt64 (nI pc))], M)) rfl rfl rfl ?_
      refine ps_st (S' := (65, [(0, .ref on), (1, .int (nI i))], [.int (4 * (nI i)), .int (nI (sw + 8)), .ref on, .long (Int32.toInt64 (nI pc))], M)) rfl rfl rfl ?_
      rw [nI_mul1 (p := 4) (k := i) (x := 4) (y := (nI i)) rfl rfl (by omega)]
      show pl _ _ _ (_, [(0, .ref on), (1, .int (nI i))], [.int (nI (4 * i)), .int (nI (sw + 8)), .ref on, .long (Int32.toInt64 (nI pc))], M) _
      refine ps_st (S' := (66, [(0, .ref on), (1, .int (nI i))], [.int ((nI (sw + 8)) + (nI (4 * i))), .ref on, .long (Int32.toInt64 (nI pc))], M)) rfl rfl rfl ?_
      rw [nI_add1 (p := sw + 8) (k := 4 * i) (x := (nI (4 * i))) rfl (by omega)]
      show pl _ _ _ (_, [(0, .ref on), (1, .int (nI i))], [.int (nI (sw + 8 + 4 * i)), .ref on, .long (Int32.toInt64 (nI pc))], M) _
      refine ps_st (S' := (80, [], [.int (nI (sw + 8 + 4 * i)), .ref on, .long (Int32.toInt64 (nI pc))], M)) rfl rfl rfl ?_
      refine pl_call (a := [.ref on, .int (nI (sw + 8 + 4 * i))]) (rest := [.long (Int32.toInt64 (nI pc))]) rfl rfl rfl (dk_is4 (f := f) (n := n) (on := on) (b := b) (da := da) (cb := cb) (L := L) (y3 := (nI o)) (y4 := y4) (y5 := y5) (y6 := y6) (y7 := y7) (y8 := y8) (y9 := (nI pc)) (y10 := y10) (y11 := (nI sw)) (a := (sw + 8 + 4 * i)) h_on h_b h_da (hn) (by omega)) (fun v7 M8 q9 => ?_)
      obtain ⟨rfl, rfl⟩ := q9
      show pl _ _ _ (83, [], [.int (nI (by4 f (cb + (sw + 8 + 4 * i)))), .long (Int32.toInt64 (nI pc))], M) _
      have hb_80 := by4_lt f (cb + (sw + 8 + 4 * i))
      refine ps_st (S' := (84, [], [.long (Int32.toInt64 (nI (by4 f (cb + (sw + 8 + 4 * i))))), .long (Int32.toInt64 (nI pc))], M)) rfl rfl rfl ?_
      refine ps_st (S' := (85, [], [.long ((Int32.toInt64 (nI pc)) + (Int32.toInt64 (nI (by4 f (cb + (sw + 8 + 4 * i))))))], M)) rfl rfl rfl ?_
      exact ps_ret rfl rfl (⟨by unfold tdS; rw [if_neg (by omega), if_pos (by omega)], rfl⟩)
  · have c_20 : ¬ (¬ (nI i) = 0) := of_decide_eq_false c_20
    have n_20 : i = 0 := (eq_nI (p := i) (n := 0) (by omega) (by decide)).mp (Decidable.not_not.mp c_20)
    refine ps_st (S' := (24, [(0, .ref on), (1, .int (nI i))], [.ref on], M)) rfl rfl rfl ?_
    refine ps_get (S' := (27, [(0, .ref on), (1, .int (nI i))], [.int (nI pc)], M)) rfl h_on rfl rfl ?_
    refine ps_st (S' := (28, [(0, .ref on), (1, .int (nI i))], [.long (Int32.toInt64 (nI pc))], M)) rfl rfl rfl ?_
    refine ps_st (S' := (29, [(0, .ref on), (1, .int (nI i))], [.ref on, .long (Int32.toInt64 (nI pc))], M)) rfl rfl rfl ?_
    refine ps_st (S' := (30, [(0, .ref on), (1, .int (nI i))], [.ref on, .ref on, .long (Int32.toInt64 (nI pc))], M)) rfl rfl rfl ?_
    refine ps_get (S' := (33, [(0, .ref on), (1, .int (nI i))], [.int (nI sw), .ref on, .long (Int32.toInt64 (nI pc))], M)) rfl h_on rfl rfl ?_
    refine pl_call (a := [.ref on, .int (nI sw)]) (rest := [.long (Int32.toInt64 (nI pc))]) rfl rfl rfl (dk_is4 (f := f) (n := n) (on := on) (b := b) (da := da) (cb := cb) (L := L) (y3 := (nI o)) (y4 := y4) (y5 := y5) (y6 := y6) (y7 := y7) (y8 := y8) (y9 := (nI pc)) (y10 := y10) (y11 := (nI sw)) (a := sw) h_on h_b h_da (hn) (by omega)) (fun v10 M11 q12 => ?_)
    obtain ⟨rfl, rfl⟩ := q12
    show pl _ _ _ (36, [(0, .ref on), (1, .int (nI i))], [.int (nI (by4 f (cb + sw))), .long (Int32.toInt64 (nI pc))], M) _
    have hb_33 := by4_lt f (cb + sw)
    refine ps_st (S' := (37, [(0, .ref on), (1, .int (nI i))], [.long (Int32.toInt64 (nI (by4 f (cb + sw)))), .long (Int32.toInt64 (nI pc))], M)) rfl rfl rfl ?_
    refine ps_st (S' := (38, [(0, .ref on), (1, .int (nI i))], [.long ((Int32.toInt64 (nI pc)) + (Int32.toInt64 (nI (by4 f (cb + sw)))))], M)) rfl rfl rfl ?_
    exact ps_ret rfl rfl (⟨by unfold tdS; rw [if_pos (by omega)], rfl⟩)
set_option maxHeartbeats 1000000 in
theorem dk_numberAt {g : xe_G} {M : mi_H} {cd q on t9 L ml mj : Nat} {F : Nat → Int32} {c0 c2 c3 c4 : Int32} {v8 v9 : Value} {t : Int64} (h_cd : M.1 cd = some (ob 4 [.int c0, .int (nI ml), .int c2, .int c3, .int c4, .ref q, .int (nI mj), .ref on, v8, v9, .ref t9])) (h_t9 : M.1 t9 = some (ar .int L F)) (hL : L < 65536) : pt (mT g) 81 [.ref cd, .long t] M (fun v M' => (v = some (.int (naI F L t)) ∧ M = M')) := by
  refine pt_in (b := mb_81 g) rfl (fun kf => ?_)
  show pl (mT g) kf (mb_81 g).2 (0, [(0, .ref cd), (1, .long t)], [], M) _
  refine ps_st (S' := (1, [(0, .ref cd), (1, .long t)], [.ref cd], M)) rfl rfl rfl ?_
  refine ps_get (S' := (4, [(0, .ref cd), (1, .long t)], [.ref t9], M)) rfl h_cd rfl rfl ?_
  refine ps_st (S' := (7, [(0, .ref cd), (1, .long t)], [], M)) rfl rfl rfl ?_
  refine ps_st (S' := (8, [(0, .ref cd), (1, .long t)], [.long t], M)) rfl rfl rfl ?_
  refine ps_st (S' := (9, [(0, .ref cd), (1, .long t)], [.long 0, .long t], M)) rfl rfl rfl ?_
  refine ps_st (S' := (10, [(0, .ref cd), (1, .long t)], [.int (lg_cmp t 0)], M)) rfl rfl rfl ?_
  refine ps_if (S1 := (24, [], [], M)) (S2 := (13, [(0, .ref cd), (1, .long t)], [], M)) rfl rfl rfl (fun c_10 => ?_) (fun c_10 => ?_)
  · have c_10 : (lg_cmp t 0) < 0 := of_decide_eq_true c_10
    refine ps_st (S' := (25, [], [.int (-1)], M)) rfl rfl rfl ?_
    refine ps_st (S' := (37, [], [.int (-1)], M)) rfl rfl rfl ?_
    exact ps_ret rfl rfl (⟨by unfold naI; rw [if_neg (fun h9 => by have h8 := lgc_lt.mp c_10; have e0 : (0 : Int64).toInt = 0 := rfl; omega)], rfl⟩)
  · have c_10 : ¬ ((lg_cmp t 0) < 0) := of_decide_eq_false c_10
    refine ps_st (S' := (14, [(0, .ref cd), (1, .long t)], [.long t], M)) rfl rfl rfl ?_
    refine ps_st (S' := (15, [(0, .ref cd), (1, .long t)], [.ref cd, .long t], M)) rfl rfl rfl ?_
    refine ps_get (S' := (18, [(0, .ref cd), (1, .long t)], [.ref t9, .long t], M)) rfl h_cd rfl rfl ?_
    refine ps_alen (S' := (19, [(0, .ref cd), (1, .long t)], [.int (nI L), .long t], M)) rfl h_t9 rfl ?_
    refine ps_st (S' := (20, [(0, .ref cd), (1, .long t)], [.long (Int32.toInt64 (nI L)), .long t], M)) rfl rfl rfl ?_
    refine ps_st (S' := (21, [(0, .ref cd), (1, .long t)], [.int (lg_cmp t (Int32.toInt64 (nI L)))], M)) rfl rfl rfl ?_
    refine ps_if (S1 := (28, [(0, .ref cd), (1, .long t)], [], M)) (S2 := (24, [], [], M)) rfl rfl rfl (fun c_21 => ?_) (fun c_21 => ?_)
    · have c_21 : (lg_cmp t (Int32.toInt64 (nI L))) < 0 := of_decide_eq_true c_21
      have h10 : ¬ t.toInt < 0 := fun h9 => c_10 (lgc_lt.mpr h9)
      have h21 : t.toInt < L := by have h9 := lgc_lt.mp c_21; rw [i2l_nI (by omega)] at h9; exact h9
      obtain ⟨k, hk⟩ : ∃ k : Nat, t.toInt = (k : Int) := ⟨t.toInt.toNat, by omega⟩
      have et : t = nL k := Int64.toInt_inj.mp (by rw [nL_val (by omega)]; exact hk)
      subst et
      show pl _ _ _ (28, [(0, .ref cd), (1, .long (nL k))], [], M) _
      refine ps_st (S' := (29, [(0, .ref cd), (1, .long (nL k))], [.ref cd], M)) rfl rfl rfl ?_
      refine ps_get (S' := (32, [(0, .ref cd), (1, .long (nL k))], [.ref t9], M)) rfl h_cd rfl rfl ?_
      refine ps_st (S' := (33, [(0, .ref cd), (1, .long (nL k))], [.long (nL k), .ref t9], M)) rfl rfl rfl ?_
      refine ps_st (S' := (34, [(0, .ref cd), (1, .long (nL k))], [.int (Int64.toInt32 (nL k)), .ref t9], M)) rfl rfl rfl ?_
      rw [l2i_nL (p := k) (by omega)]
      show pl _ _ _ (_, [(0, .ref cd), (1, .long (nL k))], [.int (nI k), .ref t9], M) _
      refine ps_ald (S' := (35, [(0, .ref cd), (1, .long (nL k))], [.int (F (Int32.toNatClampNeg (nI k)))], M)) rfl h_t9 rfl (fun i0_34 i1_34 => ?_)
      rw [show (F (Int32.toNatClampNeg (nI k))) = (F k) from (congrArg F (nI_toNat (k := k) (by omega))).trans (rfl)]
      show pl _ _ _ (_, [(0, .ref cd), (1, .long (nL k))], [.int (F k)], M) _
      refine ps_st (S' := (36, [(0, .ref cd), (1, .long (nL k))], [.int 1, .int (F k)], M)) rfl rfl rfl ?_
      refine ps_st (S' := (37, [], [.int ((F k) - 1)], M)) rfl rfl rfl ?_
      exact ps_reti rfl (⟨by unfold naI; rw [if_pos ⟨by omega, h21⟩, hk]; rfl, rfl⟩)
    · have c_21 : ¬ ((lg_cmp t (Int32.toInt64 (nI L))) < 0) := of_decide_eq_false c_21
      refine ps_st (S' := (25, [], [.int (-1)], M)) rfl rfl rfl ?_
      refine ps_st (S' := (37, [], [.int (-1)], M)) rfl rfl rfl ?_
      exact ps_ret rfl rfl (⟨by unfold naI; rw [if_neg (fun h9 => c_21 (lgc_lt.mpr (by rw [i2l_nI (by omega)]; exact h9.2)))], rfl⟩)
set_option maxHeartbeats 1000000 in
theorem dk_targetsHoldJ {g : xe_G} {M : mi_H} {cd q on t9 L ml mj : Nat} {F : Nat → Int32} {c0 c2 c3 c4 : Int32} {v8 v9 : Value} {b cb pc o tc : Nat} {S : List Nat} {y4 y5 y6 y7 y10 y11 : Int32} (h_cd : M.1 cd = some (ob 4 [.int c0, .int (nI ml), .int c2, .int c3, .int c4, .ref q, .int (nI mj), .ref on, v8, v9, .ref t9])) (h_on : M.1 on = some (ob 5 [.ref b, .int (nI cb), .int (nI L), .int (nI o), .int y4, .int y5, .int y6, .int y7, .int (nI tc), .int (nI pc), .int y10, .int y11])) (h_t9 : M.1 t9 = some (ar .int L F)) (ho : o < 65536) (hsw : swN o = 0) (htc : tc < 65536) (hpc : pc < 65536) (hL : L < 65536) (hF : ∀ j, j < L → F j = nuA S j) (hSL : ∀ p ∈ S, p < L) (hSl : S.length < 65536) : pt (mT g) 85 [.ref cd] M (fun v M' => (v = some (.int (nI (thG (fun _ => (pc : Int) + y10.toInt) S tc 0))) ∧ M = M')) := by
  refine pt_in (b := mb_85 g) rfl (fun kf => ?_)
  show pl (mT g) kf (mb_85 g).2 (0, [(0, .ref cd)], [], M) _
  have LL : ∀ (kf : Nat), (∀ (i : Nat), (i ≤ tc) → (thG (fun _ => (pc : Int) + y10.toInt) S (tc - i) i = thG (fun _ => (pc : Int) + y10.toInt) S tc 0) →  pl (mT g) kf (mb_85 g).2 (2, [(0, .ref cd), (1, .int (nI i))], [], M) (fun v M' => (v = some (.int (nI (thG (fun _ => (pc : Int) + y10.toInt) S tc 0))) ∧ M = M'))) := by
    intro kf
    induction kf with
    | zero => exact (by intros; exact pl_0)
    | succ kf ih =>
      intro i hi hs
      refine ps_st1 (S' := (3, [(0, .ref cd), (1, .int (nI i))], [.int (nI i)], M)) rfl rfl rfl ?_
      refine ps_st (S' := (4, [(0, .ref cd), (1, .int (nI i))], [.ref cd, .int (nI i)], M)) rfl rfl rfl ?_
      refine ps_get (S' := (7, [(0, .ref cd), (1, .int (nI i))], [.ref on, .int (nI i)], M)) rfl h_cd rfl rfl ?_
      refine ps_get (S' := (10, [(0, .ref cd), (1, .int (nI i))], [.int (nI tc), .int (nI i)], M)) rfl h_on rfl rfl ?_
      refine ps_if2 (S1 := (36, [(0, .ref cd), (1, .int (nI i))], [], M)) (S2 := (13, [(0, .ref cd), (1, .int (nI i))], [], M)) rfl rfl rfl (fun c_10 => ?_) (fun c_10 => ?_)
      · have c_10 : (nI tc) ≤ (nI i) := of_decide_eq_true c_10
        have n_10 : tc ≤ i := (le_nI (p := tc) (n := i) (by omega) (by omega)).mp c_10
        refine ps_st (S' := (37, [(0, .ref cd), (1, .int (nI i))], [.int 1], M)) rfl rfl rfl ?_
        exact ps_ret rfl rfl (⟨congrArg (fun x => some (Value.int (nI x))) (show 1 = thG (fun _ => (pc : Int) + y10.toInt) S tc 0 from by rw [← hs, show tc - i = 0 by omega]; rfl), rfl⟩)
      · have c_10 : ¬ ((nI tc) ≤ (nI i)) := of_decide_eq_false c_10
        have n_10 : ¬ (tc ≤ i) := fun h9 => c_10 ((le_nI (p := tc) (n := i) (by omega) (by omega)).mpr h9)
        refine ps_st (S' := (14, [(0, .ref cd), (1, .int (nI i))], [.ref cd], M)) rfl rfl rfl ?_
        refine ps_st (S' := (15, [(0, .ref cd), (1, .int (nI i))], [.ref cd, .ref cd], M)) rfl rfl rfl ?_
        refine ps_get (S' := (18, [(0, .ref cd), (1, .int (nI i))], [.ref on, .ref cd], M)) rfl h_cd rfl rfl ?_
        refine ps_st (S' := (19, [(0, .ref cd), (1, .int (nI i))], [.int (nI i), .ref on, .ref cd], M)) rfl rfl rfl ?_
        refine pl_call (a := [.ref on, .int (nI i)]) (rest := [.ref cd]) rfl rfl rfl (dk_targetJ (on := on) (b := b) (cb := cb) (L := L) (y4 := y4) (y5 := y5) (y6 := y6) (y7 := y7) (y8 := (nI tc)) (y10 := y10) (y11 := y11) (o := o) (pc := pc) (i := (nI i)) h_on (ho) (hsw)) (fun v1 M2 q3 => ?_)
        obtain ⟨rfl, rfl⟩ := q3
        show pl _ _ _ (22, [(0, .ref cd), (1, .int (nI i))], [.long ((Int32.toInt64 (nI pc)) + (Int32.toInt64 y10)), .ref cd], M) _
        refine pl_call (a := [.ref cd, .long ((Int32.toInt64 (nI pc)) + (Int32.toInt64 y10))]) (rest := []) rfl rfl rfl (dk_numberAt (cd := cd) (q := q) (on := on) (t9 := t9) (L := L) (ml := ml) (mj := mj) (F := F) (c0 := c0) (c2 := c2) (c3 := c3) (c4 := c4) (v8 := v8) (v9 := v9) (t := ((Int32.toInt64 (nI pc)) + (Int32.toInt64 y10))) h_cd h_t9 (hL)) (fun v4 M5 q6 => ?_)
        obtain ⟨rfl, rfl⟩ := q6
        show pl _ _ _ (25, [(0, .ref cd), (1, .int (nI i))], [.int (naI F L ((Int32.toInt64 (nI pc)) + (Int32.toInt64 y10)))], M) _
        have hna := na_ge (t := ((Int32.toInt64 (nI pc)) + (Int32.toInt64 y10))) hF hSL hSl
        refine ps_if (S1 := (30, [(0, .ref cd), (1, .int (nI i))], [], M)) (S2 := (28, [(0, .ref cd), (1, .int (nI i))], [], M)) rfl rfl rfl (fun c_25 => ?_) (fun c_25 => ?_)
        · have c_25 : 0 ≤ (naI F L ((Int32.toInt64 (nI pc)) + (Int32.toInt64 y10))) := of_decide_eq_true c_25
          have hok : 0 ≤ (fun _ => (pc : Int) + y10.toInt) i ∧ ((fun _ => (pc : Int) + y10.toInt) i).toNat ∈ S := by have h9 := hna.mp c_25; rw [t64_val (by omega)] at h9; exact h9
          refine ps_st (S' := (33, [(1, .int ((nI i) + 1)), (0, .ref cd)], [], M)) rfl rfl rfl ?_
          rw [nI_add1 (p := i) (k := 1) (x := 1) rfl (by omega)]
          show pl _ _ _ (_, [(1, .int (nI (i + 1))), (0, .ref cd)], [], M) _
          refine ps_st (S' := (2, [(0, .ref cd), (1, .int (nI (i + 1)))], [], M)) rfl rfl rfl ?_
          exact ih (i + 1)  (by omega) (by
              rw [← hs, thG_st (i := i) (j := i) (by omega), if_pos hok])
        · have c_25 : ¬ (0 ≤ (naI F L ((Int32.toInt64 (nI pc)) + (Int32.toInt64 y10)))) := of_decide_eq_false c_25
          have hno : ¬ (0 ≤ (fun _ => (pc : Int) + y10.toInt) i ∧ ((fun _ => (pc : Int) + y10.toInt) i).toNat ∈ S) := fun h9 => c_25 (hna.mpr (by rw [t64_val (by omega)]; exact h9))
          refine ps_st (S' := (29, [(0, .ref cd), (1, .int (nI i))], [.int 0], M)) rfl rfl rfl ?_
          exact ps_ret rfl rfl (⟨congrArg (fun x => some (Value.int (nI x))) (show 0 = thG (fun _ => (pc : Int) + y10.toInt) S tc 0 from by rw [← hs, thG_st (i := i) (j := i) (by omega), if_neg hno]), rfl⟩)
  refine ps_st (S' := (1, [(0, .ref cd)], [.int 0], M)) rfl rfl rfl ?_
  refine ps_st (S' := (2, [(0, .ref cd), (1, .int 0)], [], M)) rfl rfl rfl ?_
  exact (LL kf) (0)  (by omega) (rfl)
set_option maxHeartbeats 1000000 in
theorem dk_targetsHoldS {g : xe_G} {M : mi_H} {f : Nat → Int32} {n da sw : Nat} {cd q on t9 L ml mj : Nat} {F : Nat → Int32} {c0 c2 c3 c4 : Int32} {v8 v9 : Value} {b cb pc o tc : Nat} {S : List Nat} {y4 y5 y6 y7 y10 : Int32} (h_cd : M.1 cd = some (ob 4 [.int c0, .int (nI ml), .int c2, .int c3, .int c4, .ref q, .int (nI mj), .ref on, v8, v9, .ref t9])) (h_on : M.1 on = some (ob 5 [.ref b, .int (nI cb), .int (nI L), .int (nI o), .int y4, .int y5, .int y6, .int y7, .int (nI tc), .int (nI pc), .int y10, .int (nI sw)])) (h_b : M.1 b = some (ob 1 [.ref da])) (h_da : M.1 da = some (ar .byte n f)) (h_t9 : M.1 t9 = some (ar .int L F)) (hn : n ≤ 65540) (ho : o = 170 ∨ o = 171) (hsw : sw < 65540 ∧ cb < 65540) (htc : tc < 65536) (hpc : pc < 65536) (hin : ∀ i, i < tc → cb + (sw + 4 + (if o = 170 then 4 * i + 4 else 8 * i)) + 4 ≤ n) (hi0 : cb + sw + 4 ≤ n) (hL : L < 65536) (hF : ∀ j, j < L → F j = nuA S j) (hSL : ∀ p ∈ S, p < L) (hSl : S.length < 65536) : pt (mT g) 85 [.ref cd] M (fun v M' => (v = some (.int (nI (thG (fun i => (pc : Int) + (tdS f cb o sw i).toInt) S tc 0))) ∧ M = M')) := by
  refine pt_in (b := mb_85 g) rfl (fun kf => ?_)
  show pl (mT g) kf (mb_85 g).2 (0, [(0, .ref cd)], [], M) _
  have LL : ∀ (kf : Nat), (∀ (i : Nat), (i ≤ tc) → (thG (fun i => (pc : Int) + (tdS f cb o sw i).toInt) S (tc - i) i = thG (fun i => (pc : Int) + (tdS f cb o sw i).toInt) S tc 0) →  pl (mT g) kf (mb_85 g).2 (2, [(0, .ref cd), (1, .int (nI i))], [], M) (fun v M' => (v = some (.int (nI (thG (fun i => (pc : Int) + (tdS f cb o sw i).toInt) S tc 0))) ∧ M = M'))) := by
    intro kf
    induction kf with
    | zero => exact (by intros; exact pl_0)
    | succ kf ih =>
      intro i hi hs
      refine ps_st1 (S' := (3, [(0, .ref cd), (1, .int (nI i))], [.int (nI i)], M)) rfl rfl rfl ?_
      refine ps_st (S' := (4, [(0, .ref cd), (1, .int (nI i))], [.ref cd, .int (nI i)], M)) rfl rfl rfl ?_
      refine ps_get (S' := (7, [(0, .ref cd), (1, .int (nI i))], [.ref on, .int (nI i)], M)) rfl h_cd rfl rfl ?_
      refine ps_get (S' := (10, [(0, .ref cd), (1, .int (nI i))], [.int (nI tc), .int (nI i)], M)) rfl h_on rfl rfl ?_
      refine ps_if2 (S1 := (36, [(0, .ref cd), (1, .int (nI i))], [], M)) (S2 := (13, [(0, .ref cd), (1, .int (nI i))], [], M)) rfl rfl rfl (fun c_10 => ?_) (fun c_10 => ?_)
      · have c_10 : (nI tc) ≤ (nI i) := of_decide_eq_true c_10
        have n_10 : tc ≤ i := (le_nI (p := tc) (n := i) (by omega) (by omega)).mp c_10
        refine ps_st (S' := (37, [(0, .ref cd), (1, .int (nI i))], [.int 1], M)) rfl rfl rfl ?_
        exact ps_ret rfl rfl (⟨congrArg (fun x => some (Value.int (nI x))) (show 1 = thG (fun i => (pc : Int) + (tdS f cb o sw i).toInt) S tc 0 from by rw [← hs, show tc - i = 0 by omega]; rfl), rfl⟩)
      · have c_10 : ¬ ((nI tc) ≤ (nI i)) := of_decide_eq_false c_10
        have n_10 : ¬ (tc ≤ i) := fun h9 => c_10 ((le_nI (p := tc) (n := i) (by omega) (by omega)).mpr h9)
        refine ps_st (S' := (14, [(0, .ref cd), (1, .int (nI i))], [.ref cd], M)) rfl rfl rfl ?_
        refine ps_st (S' := (15, [(0, .ref cd), (1, .int (nI i))], [.ref cd, .ref cd], M)) rfl rfl rfl ?_
        refine ps_get (S' := (18, [(0, .ref cd), (1, .int (nI i))], [.ref on, .ref cd], M)) rfl h_cd rfl rfl ?_
        refine ps_st (S' := (19, [(0, .ref cd), (1, .int (nI i))], [.int (nI i), .ref on, .ref cd], M)) rfl rfl rfl ?_
        refine pl_call (a := [.ref on, .int (nI i)]) (rest := [.ref cd]) rfl rfl rfl (dk_targetS (f := f) (n := n) (on := on) (b := b) (da := da) (cb := cb) (L := L) (y4 := y4) (y5 := y5) (y6 := y6) (y7 := y7) (y8 := (nI tc)) (y10 := y10) (o := o) (pc := pc) (sw := sw) (i := i) h_on h_b h_da (hn) (ho) (hsw) (by omega) (hin i (by omega)) (hi0)) (fun v1 M2 q3 => ?_)
        obtain ⟨rfl, rfl⟩ := q3
        show pl _ _ _ (22, [(0, .ref cd), (1, .int (nI i))], [.long ((Int32.toInt64 (nI pc)) + (Int32.toInt64 (tdS f cb o sw i))), .ref cd], M) _
        refine pl_call (a := [.ref cd, .long ((Int32.toInt64 (nI pc)) + (Int32.toInt64 (tdS f cb o sw i)))]) (rest := []) rfl rfl rfl (dk_numberAt (cd := cd) (q := q) (on := on) (t9 := t9) (L := L) (ml := ml) (mj := mj) (F := F) (c0 := c0) (c2 := c2) (c3 := c3) (c4 := c4) (v8 := v8) (v9 := v9) (t := ((Int32.toInt64 (nI pc)) + (Int32.toInt64 (tdS f cb o sw i)))) h_cd h_t9 (hL)) (fun v4 M5 q6 => ?_)
        obtain ⟨rfl, rfl⟩ := q6
        show pl _ _ _ (25, [(0, .ref cd), (1, .int (nI i))], [.int (naI F L ((Int32.toInt64 (nI pc)) + (Int32.toInt64 (tdS f cb o sw i))))], M) _
        have hna := na_ge (t := ((Int32.toInt64 (nI pc)) + (Int32.toInt64 (tdS f cb o sw i)))) hF hSL hSl
        refine ps_if (S1 := (30, [(0, .ref cd), (1, .int (nI i))], [], M)) (S2 := (28, [(0, .ref cd), (1, .int (nI i))], [], M)) rfl rfl rfl (fun c_25 => ?_) (fun c_25 => ?_)
        · have c_25 : 0 ≤ (naI F L ((Int32.toInt64 (nI pc)) + (Int32.toInt64 (tdS f cb o sw i)))) := of_decide_eq_true c_25
          have hok : 0 ≤ (fun i => (pc : Int) + (tdS f cb o sw i).toInt) i ∧ ((fun i => (pc : Int) + (tdS f cb o sw i).toInt) i).toNat ∈ S := by have h9 := hna.mp c_25; rw [t64_val (by omega)] at h9; exact h9
          refine ps_st (S' := (33, [(1, .int ((nI i) + 1)), (0, .ref cd)], [], M)) rfl rfl rfl ?_
          rw [nI_add1 (p := i) (k := 1) (x := 1) rfl (by omega)]
          show pl _ _ _ (_, [(1, .int (nI (i + 1))), (0, .ref cd)], [], M) _
          refine ps_st (S' := (2, [(0, .ref cd), (1, .int (nI (i + 1)))], [], M)) rfl rfl rfl ?_
          exact ih (i + 1)  (by omega) (by
              rw [← hs, thG_st (i := i) (j := i) (by omega), if_pos hok])
        · have c_25 : ¬ (0 ≤ (naI F L ((Int32.toInt64 (nI pc)) + (Int32.toInt64 (tdS f cb o sw i))))) := of_decide_eq_false c_25
          have hno : ¬ (0 ≤ (fun i => (pc : Int) + (tdS f cb o sw i).toInt) i ∧ ((fun i => (pc : Int) + (tdS f cb o sw i).toInt) i).toNat ∈ S) := fun h9 => c_25 (hna.mpr (by rw [t64_val (by omega)]; exact h9))
          refine ps_st (S' := (29, [(0, .ref cd), (1, .int (nI i))], [.int 0], M)) rfl rfl rfl ?_
          exact ps_ret rfl rfl (⟨congrArg (fun x => some (Value.int (nI x))) (show 0 = thG (fun i => (pc : Int) + (tdS f cb o sw i).toInt) S tc 0 from by rw [← hs, thG_st (i := i) (j := i) (by omega), if_neg hno]), rfl⟩)
  refine ps_st (S' := (1, [(0, .ref cd)], [.int 0], M)) rfl rfl rfl ?_
  refine ps_st (S' := (2, [(0, .ref cd), (1, .int 0)], [], M)) rfl rfl rfl ?_
  exact (LL kf) (0)  (by omega) (rfl)
theorem dk_targetsHold7 {g : xe_G} {M : mi_H} {f : Nat → Int32} {n q : Nat} {cd on b da cb L ml mj pc t9 : Nat} {x : IC} {F : Nat → Int32} {S : List Nat} {c0 c2 c3 c4 y10 y11 : Int32} {v8 v9 : Value} (h_cd : M.1 cd = some (ob 4 [.int c0, .int (nI ml), .int c2, .int c3, .int c4, .ref q, .int (nI mj), .ref on, v8, v9, .ref t9])) (h_on : M.1 on = some (ob 5 [.ref b, .int (nI cb), .int (nI L), .int (nI x.1), .int (nI x.2.1), .int x.2.2.1, .int x.2.2.2.1, .int (nI x.2.2.2.2.1), .int (nI x.2.2.2.2.2.1), .int (nI pc), .int (x.2.2.2.2.2.2.1.getD y10), .int ((x.2.2.2.2.2.2.2.map nI).getD y11)])) (h_b : M.1 b = some (ob 1 [.ref da])) (h_da : M.1 da = some (ar .byte n f)) (h_t9 : M.1 t9 = some (ar .int L F)) (hn : n ≤ 65540) (hcl : cb + L + 4 ≤ n) (hx : inC f cb L pc = some x) (hL : L < 65536) (hF : ∀ j, j < L → F j = nuA S j) (hSL : ∀ p ∈ S, p < L) (hSl : S.length < 65536) : pt (mT g) 85 [.ref cd] M (fun v M' => (v = some (.int (nI (thN f cb S pc x x.2.2.2.2.2.1 0))) ∧ M = M')) := by
  obtain ⟨o, sz, fi, se, lp, tc, of, sw⟩ := x
  obtain ⟨ho, -, hs, -⟩ := in_in hx
  have hpc := in_sz hx
  dsimp only at ho hs hpc h_on ⊢
  rcases hs with ⟨h1, h2, h3⟩ | ⟨h1, h2, h3, h4⟩
  · subst h1
    by_cases ht : tc = 0
    · subst ht
      exact (dk_targetsHoldJ (y10 := of.getD y10) h_cd h_on h_t9 (by omega) h2 (by decide) (by omega) hL hF hSL hSl).mono (fun v M' h => ⟨h.1.trans (congrArg (fun x => some (Value.int (nI x))) (thG_z.trans (thG_z (T := fun i => tgI f cb pc (o, sz, fi, se, lp, 0, of, none) i)).symm)), h.2⟩)
    · have hof : ∃ d, of = some d := in_of hx h2 ht
      obtain ⟨d, rfl⟩ := hof
      have e := thG_cg (S := S) (T := fun i => tgI f cb pc (o, sz, fi, se, lp, tc, some d, none) i) (T' := fun _ => (pc : Int) + d.toInt) tc 0 (fun j => tg_J)
      exact (dk_targetsHoldJ (y10 := d) h_cd h_on h_t9 (by omega) h2 (by omega) (by omega) hL hF hSL hSl).mono (fun v M' h => ⟨h.1.trans (congrArg (fun x => some (Value.int (nI x))) e.symm), h.2⟩)
  · subst h1
    obtain ⟨a1, a2, a3⟩ := sw_in h4 h2
    dsimp only at a2 a3
    have hpd := pd_le pc
    have htc : tc < 65536 := Nat.not_le.mp (fun h9 => by
      have := a3 65535 (by omega)
      split at this <;> omega)
    have e := thG_cg (S := S) (T := fun i => tgI f cb pc (o, sz, fi, se, lp, tc, of, some (pdN pc)) i) (T' := fun i => (pc : Int) + (tdS f cb o (pdN pc) i).toInt) tc 0 (fun j => tg_S)
    refine (dk_targetsHoldS (sw := pdN pc) h_cd h_on h_b h_da h_t9 hn h2 (by omega) htc (by omega) (fun i hi => by
      have h8 := a3 i hi
      by_cases hq : o = 170
      · rw [if_pos hq] at h8 ⊢
        omega
      · rw [if_neg hq] at h8 ⊢
        omega) (by omega) hL hF hSL hSl).mono (fun v M' h => ⟨h.1.trans (congrArg (fun x => some (Value.int (nI x))) e.symm), h.2⟩)
end
section

theorem oh_le (f : Nat → Int32) (n : Nat) (E : List (Nat × Nat)) (mj ml o v w lp : Nat) : ohN f n E mj ml o v w lp < 2 := by
  have h1 := le1_ld1 f n E mj v (tg f E v)
  have h2 := le1_ld2 f n E v (tg f E v)
  have h3 := le1_ca f n E mj o v w (tg f E v)
  have h4 : plnN f n E v < 2 := by
    unfold plnN
    split <;> decide
  unfold ohN
  repeat' split
  all_goals first | exact h1 | exact h2 | exact h3 | exact h4 | decide
theorem okI_le (f : Nat → Int32) (n : Nat) (E : List (Nat × Nat)) (mj ml : Nat) (x : IC) : okI f n E mj ml x < 2 := by
  unfold okI
  split
  · decide
  · exact oh_le _ _ _ _ _ _ _ _ _
theorem upd_nI {F : Nat → Int32} {k j : Nat} {v : Int32} (hk : k < 1073741824) : upd F (Int32.toNatClampNeg (nI k)) v j = if j = k then v else F j := by
  rw [nI_toNat hk]
  rfl
theorem getD_app {S : List Nat} {p i : Nat} (h : i < S.length + 1) : (S ++ [p]).getD i 0 = if i = S.length then p else S.getD i 0 := by
  by_cases e : i = S.length
  · rw [if_pos e, e]
    exact getD_at
  · rw [if_neg e]
    exact getD_lo (by omega)
theorem st_snoc {F : Nat → Int32} {S : List Nat} {p : Nat} (h : ∀ i, i < S.length → F i = nI (S.getD i 0)) (hl : S.length < 1073741824) : ∀ i, i < (S ++ [p]).length → upd F (Int32.toNatClampNeg (nI S.length)) (nI p) i = nI ((S ++ [p]).getD i 0) := fun i hi => by
  simp only [List.length_append, List.length_cons, List.length_nil] at hi
  rw [upd_nI hl, getD_app (by omega)]
  split
  · rfl
  · exact h i (by omega)
theorem nu_snoc {F : Nat → Int32} {S : List Nat} {p L : Nat} (h : ∀ j, j < L → F j = nuA S j) (hp : p ∉ S) (hl : p < 1073741824) : ∀ j, j < L → upd F (Int32.toNatClampNeg (nI p)) (nI (S.length + 1)) j = nuA (S ++ [p]) j := fun j hj => by
  rw [upd_nI hl, nuA_snoc hp]
  split
  · rfl
  · exact h j hj
theorem getD_mem {S : List Nat} {k : Nat} (h : k < S.length) : S.getD k 0 ∈ S := by
  rw [List.getD_eq_getElem?_getD, List.getElem?_eq_getElem h]
  exact List.getElem_mem h
theorem fb_st {f : Nat → Int32} {cb L k : Nat} {S : List Nat} (h : k < S.length) : fbS f cb L S (S.drop k) = match inC f cb L (S.getD k 0) with
    | none => fbS f cb L S (S.drop (k + 1))
    | some x => if thN f cb S (S.getD k 0) x x.2.2.2.2.2.1 0 = 0 then some (S.getD k 0) else fbS f cb L S (S.drop (k + 1)) := by
  have e : S.getD k 0 = S[k] := by rw [List.getD_eq_getElem?_getD, List.getElem?_eq_getElem h]; rfl
  rw [List.drop_eq_getElem_cons h, e]
  rfl
theorem m2_ne {k p : Nat} (hk : k < 65536) (hp : p < 65536) : ¬ (-2 - nI p = nI k) := fun h => by
  have h1 := congrArg Int32.toInt h
  rw [Int32.toInt_sub, nI_val (by omega), nI_val (by omega), show (-2 : Int32).toInt = -2 from rfl, Int.bmod_eq_of_le (by omega) (by omega)] at h1
  omega
set_option maxHeartbeats 1000000 in
theorem dk_cutUpC {g : xe_G} {M : mi_H} {cd q on L ml mj : Nat} {c0 c3 c4 x8 : Int32} {v9 v10 : Value} (h_cd : M.1 cd = some (ob 4 [.int c0, .int (nI ml), .int (nI L), .int c3, .int c4, .ref q, .int (nI mj), .ref on, .int x8, v9, v10])) (hx : ¬ x8 = 0) : pt (mT g) 76 [.ref cd] M (fun v M' => (v = some (.int x8) ∧ M = M')) := by
  refine pt_in (b := mb_76 g) rfl (fun kf => ?_)
  show pl (mT g) kf (mb_76 g).2 (0, [(0, .ref cd)], [], M) _
  refine ps_st (S' := (1, [(0, .ref cd)], [.ref cd], M)) rfl rfl rfl ?_
  refine ps_get (S' := (4, [(0, .ref cd)], [.int x8], M)) rfl h_cd rfl rfl ?_
  refine ps_if (S1 := (12, [(0, .ref cd)], [], M)) (S2 := (7, [(0, .ref cd)], [], M)) rfl rfl rfl (fun c_4 => ?_) (fun c_4 => ?_)
  · exact absurd (of_decide_eq_true c_4) (hx)
  refine ps_st (S' := (8, [(0, .ref cd)], [.ref cd], M)) rfl rfl rfl ?_
  refine ps_get (S' := (11, [(0, .ref cd)], [.int x8], M)) rfl h_cd rfl rfl ?_
  exact ps_reti rfl (⟨rfl, rfl⟩)
set_option maxHeartbeats 1000000 in
theorem dk_cutUp7 {g : xe_G} {M : mi_H} {f : Nat → Int32} {n N q : Nat} {E : List (Nat × Nat)} {cd on b da cb L ml mj : Nat} {c0 c3 c4 : Int32} {y3 y4 y5 y6 y7 y8 y9 y10 y11 : Int32} {v9 v10 : Value} (h_cd : M.1 cd = some (ob 4 [.int c0, .int (nI ml), .int (nI L), .int c3, .int c4, .ref q, .int (nI mj), .ref on, .int 0, v9, v10])) (h_on : M.1 on = some (ob 5 [.ref b, .int (nI cb), .int (nI L), .int y3, .int y4, .int y5, .int y6, .int y7, .int y8, .int y9, .int y10, .int y11])) (h_b : M.1 b = some (ob 1 [.ref da])) (h_da : M.1 da = some (ar .byte n f)) (hn : n ≤ 65540) (hmj : mj < 65536) (hml : ml < 65536) (hcl : cb + L + 4 ≤ n) (hL : 1 ≤ L ∧ L < 65536) (h0 : tg f E 0 = 0) (hCP : CP f n E) (hV : PV g f n N E q M) (l_cd : cd < M.2.1) (l_on : on < M.2.1) (l_b : b < M.2.1) (l_da : da < M.2.1) (l_q : q < M.2.1) : pt (mT g) 76 [.ref cd] M (fun v M' => (∃ (F9 F10 : Nat → Int32) (z3 z4 z5 z6 z7 z8 z9 z10 z11 : Int32), (∀ S, cutS f n E mj cb L ml = .inr S → (∀ i, i < S.length → F9 i = nI (S.getD i 0)) ∧ ∀ j, j < L → F10 j = nuA S j) ∧ v = some (.int (cutV f n E mj cb L ml)) ∧ M'.1 cd = some (ob 4 [.int c0, .int (nI ml), .int (nI L), .int c3, .int c4, .ref q, .int (nI mj), .ref on, .int (cutV f n E mj cb L ml), .ref (M.2.1), .ref (M.2.1 + 1)]) ∧ M'.1 on = some (ob 5 [.ref b, .int (nI cb), .int (nI L), .int z3, .int z4, .int z5, .int z6, .int z7, .int z8, .int z9, .int z10, .int z11]) ∧ M'.1 (M.2.1) = some (ar .int L F9) ∧ M'.1 (M.2.1 + 1) = some (ar .int L F10) ∧ gm [cd, on] M M' ∧ M'.2.1 = M.2.1 + 2)) := by
  refine pt_in (b := mb_76 g) rfl (fun kf => ?_)
  show pl (mT g) kf (mb_76 g).2 (0, [(0, .ref cd)], [], M) _
  have hF : gm [cd, on] M M := gm.rf
  obtain ⟨z0, tp0⟩ : ∃ z0, M.2.1 = z0 := ⟨_, rfl⟩
  have LL : ∀ (kf : Nat), (∀ (pc : Nat) (S : List Nat) (F9 F10 : Nat → Int32) (y3 y4 y5 y6 y7 y8 y9 y10 y11 : Int32) (M1 : mi_H), (M1.1 cd = some (ob 4 [.int c0, .int (nI ml), .int (nI L), .int c3, .int c4, .ref q, .int (nI mj), .ref on, .int 0, .ref z0, .ref (z0 + 1)])) → (M1.1 on = some (ob 5 [.ref b, .int (nI cb), .int (nI L), .int y3, .int y4, .int y5, .int y6, .int y7, .int y8, .int y9, .int y10, .int y11])) → (M1.1 b = some (ob 1 [.ref da])) → (M1.1 da = some (ar .byte n f)) → (M1.1 z0 = some (ar .int L F9)) → (M1.1 (z0 + 1) = some (ar .int L F10)) → (gm [cd, on] M M1) → (M1.2.1 = z0 + 2) → (S.length ≤ pc ∧ pc ≤ L) → (∀ p ∈ S, p < pc) → (∀ i, i < S.length → F9 i = nI (S.getD i 0)) → (∀ j, j < L → F10 j = nuA S j) → (cuS f n E mj cb L ml (L - S.length) pc S = cuS f n E mj cb L ml L 0 []) →  pl (mT g) kf (mb_76 g).2 (39, [(0, .ref cd), (1, .int (nI L)), (2, .int (nI S.length)), (3, .int (nI pc))], [], M1) (fun v M' => (∃ (F9 F10 : Nat → Int32) (z3 z4 z5 z6 z7 z8 z9 z10 z11 : Int32), (∀ S, cutS f n E mj cb L ml = .inr S → (∀ i, i < S.length → F9 i = nI (S.getD i 0)) ∧ ∀ j, j < L → F10 j = nuA S j) ∧ v = some (.int (cutV f n E mj cb L ml)) ∧ M'.1 cd = some (ob 4 [.int c0, .int (nI ml), .int (nI L), .int c3, .int c4, .ref q, .int (nI mj), .ref on, .int (cutV f n E mj cb L ml), .ref (M.2.1), .ref (M.2.1 + 1)]) ∧ M'.1 on = some (ob 5 [.ref b, .int (nI cb), .int (nI L), .int z3, .int z4, .int z5, .int z6, .int z7, .int z8, .int z9, .int z10, .int z11]) ∧ M'.1 (M.2.1) = some (ar .int L F9) ∧ M'.1 (M.2.1 + 1) = some (ar .int L F10) ∧ gm [cd, on] M M' ∧ M'.2.1 = M.2.1 + 2))) ∧ (∀ (k : Nat) (S : List Nat) (x8 : Int32) (F9 F10 : Nat → Int32) (y3 y4 y5 y6 y7 y8 y9 y10 y11 : Int32) (M1 : mi_H), (M1.1 cd = some (ob 4 [.int c0, .int (nI ml), .int (nI L), .int c3, .int c4, .ref q, .int (nI mj), .ref on, .int x8, .ref z0, .ref (z0 + 1)])) → (M1.1 on = some (ob 5 [.ref b, .int (nI cb), .int (nI L), .int y3, .int y4, .int y5, .int y6, .int y7, .int y8, .int y9, .int y10, .int y11])) → (M1.1 b = some (ob 1 [.ref da])) → (M1.1 da = some (ar .byte n f)) → (M1.1 z0 = some (ar .int L F9)) → (M1.1 (z0 + 1) = some (ar .int L F10)) → (gm [cd, on] M M1) → (M1.2.1 = z0 + 2) → (cuS f n E mj cb L ml L 0 [] = .inr S) → (S.length ≤ L) → (∀ p ∈ S, p < L) → (∀ i, i < S.length → F9 i = nI (S.getD i 0)) → (∀ j, j < L → F10 j = nuA S j) → (k ≤ S.length) → ((x8 = nI S.length ∧ fbS f cb L S (S.drop (k)) = fbS f cb L S S) ∨ ∃ p, p < 65536 ∧ x8 = -2 - nI p ∧ fbS f cb L S S = some p) →  pl (mT g) kf (mb_76 g).2 (117, [(0, .ref cd), (2, .int (nI S.length)), (3, .int (nI k))], [], M1) (fun v M' => (∃ (F9 F10 : Nat → Int32) (z3 z4 z5 z6 z7 z8 z9 z10 z11 : Int32), (∀ S, cutS f n E mj cb L ml = .inr S → (∀ i, i < S.length → F9 i = nI (S.getD i 0)) ∧ ∀ j, j < L → F10 j = nuA S j) ∧ v = some (.int (cutV f n E mj cb L ml)) ∧ M'.1 cd = some (ob 4 [.int c0, .int (nI ml), .int (nI L), .int c3, .int c4, .ref q, .int (nI mj), .ref on, .int (cutV f n E mj cb L ml), .ref (M.2.1), .ref (M.2.1 + 1)]) ∧ M'.1 on = some (ob 5 [.ref b, .int (nI cb), .int (nI L), .int z3, .int z4, .int z5, .int z6, .int z7, .int z8, .int z9, .int z10, .int z11]) ∧ M'.1 (M.2.1) = some (ar .int L F9) ∧ M'.1 (M.2.1 + 1) = some (ar .int L F10) ∧ gm [cd, on] M M' ∧ M'.2.1 = M.2.1 + 2))) := by
    intro kf
    induction kf with
    | zero => exact ⟨by intros; exact pl_0, by intros; exact pl_0⟩
    | succ kf ih =>
      refine ⟨?_, ?_⟩
      · skip
        intro pc S F9 F10 y3 y4 y5 y6 y7 y8 y9 y10 y11 M1 hl_cd hl_on hl_b hl_da hl_z0 hl_z0___1 hF1 tp1 hSp hlt hf9 hf10 hs
        refine ps_st1 (S' := (40, [(0, .ref cd), (1, .int (nI L)), (2, .int (nI S.length)), (3, .int (nI pc))], [.int (nI pc)], M1)) rfl rfl rfl ?_
        refine ps_st (S' := (41, [(0, .ref cd), (1, .int (nI L)), (2, .int (nI S.length)), (3, .int (nI pc))], [.int (nI L), .int (nI pc)], M1)) rfl rfl rfl ?_
        refine ps_if2 (S1 := (110, [(0, .ref cd), (2, .int (nI S.length))], [], M1)) (S2 := (44, [(0, .ref cd), (1, .int (nI L)), (2, .int (nI S.length)), (3, .int (nI pc))], [], M1)) rfl rfl rfl (fun c_41 => ?_) (fun c_41 => ?_)
        · have c_41 : (nI L) ≤ (nI pc) := of_decide_eq_true c_41
          have n_41 : L ≤ pc := (le_nI (p := L) (n := pc) (by omega) (by omega)).mp c_41
          have hcu : cuS f n E mj cb L ml L 0 [] = .inr S := by rw [← hs]; exact cuS_end (by omega)
          refine ps_st (S' := (111, [(0, .ref cd), (2, .int (nI S.length))], [.ref cd], M1)) rfl rfl rfl ?_
          refine ps_st (S' := (112, [(0, .ref cd), (2, .int (nI S.length))], [.int (nI S.length), .ref cd], M1)) rfl rfl rfl ?_
          refine ps_put (l' := [.int c0, .int (nI ml), .int (nI L), .int c3, .int c4, .ref q, .int (nI mj), .ref on, .int (nI S.length), .ref z0, .ref (z0 + 1)]) rfl hl_cd rfl rfl (fun M1 h2 f3 z4 => ?_)
          have h5 := (f3 on (ob_ne hl_on hl_cd (by decide))).trans hl_on
          have h6 := (f3 b (ob_ne hl_b hl_cd (by decide))).trans hl_b
          have h7 := (f3 da (Ne.symm (ob_ar hl_cd hl_da))).trans hl_da
          have h8 := (f3 z0 (show z0 ≠ cd by omega)).trans hl_z0
          have h9 := (f3 (z0 + 1) (show (z0 + 1) ≠ cd by omega)).trans hl_z0___1
          have hF10 := hF1.up (Or.inl (by simp)) f3 (by rw [z4]; exact Nat.le_refl _)
          have tp11 : M1.2.1 = z0 + 2 := by rw [z4]; exact tp1
          show pl _ _ _ (115, [(0, .ref cd), (2, .int (nI S.length))], [], M1) _
          refine ps_st (S' := (116, [(0, .ref cd), (2, .int (nI S.length))], [.int 0], M1)) rfl rfl rfl ?_
          refine ps_st (S' := (117, [(0, .ref cd), (2, .int (nI S.length)), (3, .int 0)], [], M1)) rfl rfl rfl ?_
          exact ih.2 (0) (S) ((nI S.length)) (F9) (F10) (y3) (y4) (y5) (y6) (y7) (y8) (y9) (y10) (y11) M1 h2 h5 h6 h7 h8 h9 hF10 (tp11) (hcu) (by omega) (fun p hp => (by have := hlt p hp; omega)) (hf9) (hf10) (by omega) (Or.inl ⟨rfl, rfl⟩)
        · have c_41 : ¬ ((nI L) ≤ (nI pc)) := of_decide_eq_false c_41
          have n_41 : ¬ (L ≤ pc) := fun h9 => c_41 ((le_nI (p := L) (n := pc) (by omega) (by omega)).mpr h9)
          refine ps_st (S' := (45, [(0, .ref cd), (1, .int (nI L)), (2, .int (nI S.length)), (3, .int (nI pc))], [.int (nI S.length)], M1)) rfl rfl rfl ?_
          refine ps_st (S' := (46, [(0, .ref cd), (1, .int (nI L)), (2, .int (nI S.length)), (3, .int (nI pc))], [.int (nI L), .int (nI S.length)], M1)) rfl rfl rfl ?_
          refine ps_if2 (S1 := (110, [(0, .ref cd), (2, .int (nI S.length))], [], M1)) (S2 := (49, [(0, .ref cd), (1, .int (nI L)), (2, .int (nI S.length)), (3, .int (nI pc))], [], M1)) rfl rfl rfl (fun c_46 => ?_) (fun c_46 => ?_)
          · have c_46 : (nI L) ≤ (nI S.length) := of_decide_eq_true c_46
            have n_46 : L ≤ S.length := (le_nI (p := L) (n := S.length) (by omega) (by omega)).mp c_46
            have hcu : cuS f n E mj cb L ml L 0 [] = .inr S := by rw [← hs]; exact cuS_end (by omega)
            refine ps_st (S' := (111, [(0, .ref cd), (2, .int (nI S.length))], [.ref cd], M1)) rfl rfl rfl ?_
            refine ps_st (S' := (112, [(0, .ref cd), (2, .int (nI S.length))], [.int (nI S.length), .ref cd], M1)) rfl rfl rfl ?_
            refine ps_put (l' := [.int c0, .int (nI ml), .int (nI L), .int c3, .int c4, .ref q, .int (nI mj), .ref on, .int (nI S.length), .ref z0, .ref (z0 + 1)]) rfl hl_cd rfl rfl (fun M12 h13 f14 z15 => ?_)
            have h16 := (f14 on (ob_ne hl_on hl_cd (by decide))).trans hl_on
            have h17 := (f14 b (ob_ne hl_b hl_cd (by decide))).trans hl_b
            have h18 := (f14 da (Ne.symm (ob_ar hl_cd hl_da))).trans hl_da
            have h19 := (f14 z0 (show z0 ≠ cd by omega)).trans hl_z0
            have h20 := (f14 (z0 + 1) (show (z0 + 1) ≠ cd by omega)).trans hl_z0___1
            have hF21 := hF1.up (Or.inl (by simp)) f14 (by rw [z15]; exact Nat.le_refl _)
            have tp22 : M12.2.1 = z0 + 2 := by rw [z15]; exact tp1
            show pl _ _ _ (115, [(0, .ref cd), (2, .int (nI S.length))], [], M12) _
            refine ps_st (S' := (116, [(0, .ref cd), (2, .int (nI S.length))], [.int 0], M12)) rfl rfl rfl ?_
            refine ps_st (S' := (117, [(0, .ref cd), (2, .int (nI S.length)), (3, .int 0)], [], M12)) rfl rfl rfl ?_
            exact ih.2 (0) (S) ((nI S.length)) (F9) (F10) (y3) (y4) (y5) (y6) (y7) (y8) (y9) (y10) (y11) M12 h13 h16 h17 h18 h19 h20 hF21 (tp22) (hcu) (by omega) (fun p hp => (by have := hlt p hp; omega)) (hf9) (hf10) (by omega) (Or.inl ⟨rfl, rfl⟩)
          · have c_46 : ¬ ((nI L) ≤ (nI S.length)) := of_decide_eq_false c_46
            have n_46 : ¬ (L ≤ S.length) := fun h9 => c_46 ((le_nI (p := L) (n := S.length) (by omega) (by omega)).mpr h9)
            refine ps_st (S' := (50, [(0, .ref cd), (1, .int (nI L)), (2, .int (nI S.length)), (3, .int (nI pc))], [.ref cd], M1)) rfl rfl rfl ?_
            refine ps_get (S' := (53, [(0, .ref cd), (1, .int (nI L)), (2, .int (nI S.length)), (3, .int (nI pc))], [.ref on], M1)) rfl hl_cd rfl rfl ?_
            refine ps_st (S' := (54, [(0, .ref cd), (1, .int (nI L)), (2, .int (nI S.length)), (3, .int (nI pc))], [.int (nI pc), .ref on], M1)) rfl rfl rfl ?_
            refine pl_call (a := [.ref on, .int (nI pc)]) (rest := []) rfl rfl rfl (dk_isTakenApart (f := f) (n := n) (on := on) (b := b) (da := da) (cb := cb) (L := L) (y3 := y3) (y4 := y4) (y5 := y5) (y6 := y6) (y7 := y7) (y8 := y8) (y9 := y9) (y10 := y10) (y11 := y11) (pc := pc) hl_on hl_b hl_da (hn) (hcl) (by omega)) (fun v23 M24 q25 => ?_)
            rcases q25 with q25 | q25
            · skip
              obtain ⟨x26, q54_s, rfl, h27, f28⟩ := q25
              have h30 := (f28.1 cd (nin1 (ob_ne hl_cd hl_on (by decide)))).trans hl_cd
              have h31 := (f28.1 b (nin1 (ob_ne hl_b hl_on (by decide)))).trans hl_b
              have h32 := (f28.1 da (nin1 (Ne.symm (ob_ar hl_on hl_da)))).trans hl_da
              have h33 := (f28.1 z0 (nin1 (show z0 ≠ on by omega))).trans hl_z0
              have h34 := (f28.1 (z0 + 1) (nin1 (show (z0 + 1) ≠ on by omega))).trans hl_z0___1
              have hF35 := hF1.trf f28 (by intro z hz; simp only [List.mem_cons, List.not_mem_nil, or_false] at hz ⊢; try omega)
              have tp36 : M24.2.1 = z0 + 2 := by rw [f28.2]; exact tp1
              show pl _ _ _ (57, [(0, .ref cd), (1, .int (nI L)), (2, .int (nI S.length)), (3, .int (nI pc))], [.int 1], M24) _
              have hsz := in_sz q54_s
              refine ps_if (S1 := (67, [(0, .ref cd), (3, .int (nI pc))], [], M24)) (S2 := (60, [(0, .ref cd), (1, .int (nI L)), (2, .int (nI S.length)), (3, .int (nI pc))], [], M24)) rfl rfl rfl (fun c_57 => ?_) (fun c_57 => ?_)
              · exact absurd (of_decide_eq_true c_57) (by decide)
              refine ps_st (S' := (61, [(0, .ref cd), (1, .int (nI L)), (2, .int (nI S.length)), (3, .int (nI pc))], [.ref cd], M24)) rfl rfl rfl ?_
              refine pl_call (a := [.ref cd]) (rest := []) rfl rfl rfl (dk_operandsHold7 (f := f) (n := n) (N := N) (q := q) (E := E) (cd := cd) (on := on) (b := b) (cb := cb) (L := L) (ml := ml) (mj := mj) (pc := pc) (x := x26) (c0 := c0) (c2 := (nI L)) (c3 := c3) (c4 := c4) (y10 := y10) (y11 := y11) (v8 := (.int 0)) (v9 := (.ref z0)) (v10 := (.ref (z0 + 1))) h30 h27 (hmj) (hml) (h0) (hCP) (q54_s) (hV.keep hF35 (n7c h_cd (by decide) (n7c h_on (by decide) n7nil)))) (fun v37 M38 q39 => ?_)
              obtain ⟨rfl, rfl⟩ := q39
              show pl _ _ _ (64, [(0, .ref cd), (1, .int (nI L)), (2, .int (nI S.length)), (3, .int (nI pc))], [.int (nI (okI f n E mj ml x26))], M24) _
              have hok9 := okI_le f n E mj ml x26
              refine ps_if (S1 := (80, [(0, .ref cd), (1, .int (nI L)), (2, .int (nI S.length)), (3, .int (nI pc))], [], M24)) (S2 := (67, [(0, .ref cd), (3, .int (nI pc))], [], M24)) rfl rfl rfl (fun c_64 => ?_) (fun c_64 => ?_)
              · have c_64 : ¬ (nI (okI f n E mj ml x26)) = 0 := of_decide_eq_true c_64
                have n_64 : ¬ (okI f n E mj ml x26 = 0) := fun h9 => c_64 ((eq_nI (p := okI f n E mj ml x26) (n := 0) (by omega) (by decide)).mpr h9)
                refine ps_st (S' := (81, [(0, .ref cd), (1, .int (nI L)), (2, .int (nI S.length)), (3, .int (nI pc))], [.ref cd], M24)) rfl rfl rfl ?_
                refine ps_get (S' := (84, [(0, .ref cd), (1, .int (nI L)), (2, .int (nI S.length)), (3, .int (nI pc))], [.ref z0], M24)) rfl h30 rfl rfl ?_
                refine ps_st (S' := (85, [(0, .ref cd), (1, .int (nI L)), (2, .int (nI S.length)), (3, .int (nI pc))], [.int (nI S.length), .ref z0], M24)) rfl rfl rfl ?_
                refine ps_st (S' := (86, [(0, .ref cd), (1, .int (nI L)), (2, .int (nI S.length)), (3, .int (nI pc))], [.int (nI pc), .int (nI S.length), .ref z0], M24)) rfl rfl rfl ?_
                refine ps_ast rfl h33 (fun M40 i0_86 i1_86 h41 f42 z43 => ?_)
                have h44 := (f42 cd (show cd ≠ z0 by omega)).trans h30
                have h45 := (f42 on (show on ≠ z0 by omega)).trans h27
                have h46 := (f42 b (show b ≠ z0 by omega)).trans h31
                have h47 := (f42 da (show da ≠ z0 by omega)).trans h32
                have h48 := (f42 (z0 + 1) (show (z0 + 1) ≠ z0 by omega)).trans h34
                have hF49 := hF35.up (Or.inr (by omega)) f42 (by rw [z43]; exact Nat.le_refl _)
                have tp50 : M40.2.1 = z0 + 2 := by rw [z43]; exact tp36
                show pl _ _ _ (87, [(0, .ref cd), (1, .int (nI L)), (2, .int (nI S.length)), (3, .int (nI pc))], [], M40) _
                refine ps_st (S' := (90, [(2, .int ((nI S.length) + 1)), (0, .ref cd), (1, .int (nI L)), (3, .int (nI pc))], [], M40)) rfl rfl rfl ?_
                rw [nI_add1 (p := S.length) (k := 1) (x := 1) rfl (by omega)]
                show pl _ _ _ (_, [(2, .int (nI (S.length + 1))), (0, .ref cd), (1, .int (nI L)), (3, .int (nI pc))], [], M40) _
                refine ps_st (S' := (91, [(2, .int (nI (S.length + 1))), (0, .ref cd), (1, .int (nI L)), (3, .int (nI pc))], [.ref cd], M40)) rfl rfl rfl ?_
                refine ps_get (S' := (94, [(2, .int (nI (S.length + 1))), (0, .ref cd), (1, .int (nI L)), (3, .int (nI pc))], [.ref (z0 + 1)], M40)) rfl h44 rfl rfl ?_
                refine ps_st (S' := (95, [(2, .int (nI (S.length + 1))), (0, .ref cd), (1, .int (nI L)), (3, .int (nI pc))], [.int (nI pc), .ref (z0 + 1)], M40)) rfl rfl rfl ?_
                refine ps_st (S' := (96, [(2, .int (nI (S.length + 1))), (0, .ref cd), (1, .int (nI L)), (3, .int (nI pc))], [.int (nI (S.length + 1)), .int (nI pc), .ref (z0 + 1)], M40)) rfl rfl rfl ?_
                refine ps_ast rfl h48 (fun M51 i0_96 i1_96 h52 f53 z54 => ?_)
                have h55 := (f53 cd (show cd ≠ (z0 + 1) by omega)).trans h44
                have h56 := (f53 on (show on ≠ (z0 + 1) by omega)).trans h45
                have h57 := (f53 b (show b ≠ (z0 + 1) by omega)).trans h46
                have h58 := (f53 da (show da ≠ (z0 + 1) by omega)).trans h47
                have h59 := (f53 z0 (show z0 ≠ (z0 + 1) by omega)).trans h41
                have hF60 := hF49.up (Or.inr (by omega)) f53 (by rw [z54]; exact Nat.le_refl _)
                have tp61 : M51.2.1 = z0 + 2 := by rw [z54]; exact tp50
                show pl _ _ _ (97, [(2, .int (nI (S.length + 1))), (0, .ref cd), (1, .int (nI L)), (3, .int (nI pc))], [], M51) _
                refine ps_st (S' := (98, [(2, .int (nI (S.length + 1))), (0, .ref cd), (1, .int (nI L)), (3, .int (nI pc))], [.int (nI pc)], M51)) rfl rfl rfl ?_
                refine ps_st (S' := (99, [(2, .int (nI (S.length + 1))), (0, .ref cd), (1, .int (nI L)), (3, .int (nI pc))], [.ref cd, .int (nI pc)], M51)) rfl rfl rfl ?_
                refine ps_get (S' := (102, [(2, .int (nI (S.length + 1))), (0, .ref cd), (1, .int (nI L)), (3, .int (nI pc))], [.ref on, .int (nI pc)], M51)) rfl h55 rfl rfl ?_
                refine ps_get (S' := (105, [(2, .int (nI (S.length + 1))), (0, .ref cd), (1, .int (nI L)), (3, .int (nI pc))], [.int (nI x26.2.1), .int (nI pc)], M51)) rfl h56 rfl rfl ?_
                refine ps_st (S' := (106, [(2, .int (nI (S.length + 1))), (0, .ref cd), (1, .int (nI L)), (3, .int (nI pc))], [.int ((nI pc) + (nI x26.2.1))], M51)) rfl rfl rfl ?_
                rw [nI_add1 (p := pc) (k := x26.2.1) (x := (nI x26.2.1)) rfl (by omega)]
                show pl _ _ _ (_, [(2, .int (nI (S.length + 1))), (0, .ref cd), (1, .int (nI L)), (3, .int (nI pc))], [.int (nI (pc + x26.2.1))], M51) _
                refine ps_st (S' := (107, [(3, .int (nI (pc + x26.2.1))), (2, .int (nI (S.length + 1))), (0, .ref cd), (1, .int (nI L))], [], M51)) rfl rfl rfl ?_
                refine ps_st (S' := (39, [(0, .ref cd), (1, .int (nI L)), (2, .int (nI (S.length + 1))), (3, .int (nI (pc + x26.2.1)))], [], M51)) rfl rfl rfl ?_
                rw [show nI (S.length + 1) = nI (S ++ [pc]).length from by rw [List.length_append]; rfl]
                have hva : vaN f n E mj cb L ml pc = x26.2.1 := by unfold vaN; rw [q54_s]; dsimp only; rw [if_neg n_64]
                exact ih.1 (pc + x26.2.1) (S ++ [pc]) ((upd F9 (Int32.toNatClampNeg (nI S.length)) (nI pc))) ((upd F10 (Int32.toNatClampNeg (nI pc)) (nI (S.length + 1)))) ((nI x26.1)) ((nI x26.2.1)) (x26.2.2.1) (x26.2.2.2.1) ((nI x26.2.2.2.2.1)) ((nI x26.2.2.2.2.2.1)) ((nI pc)) ((x26.2.2.2.2.2.2.1.getD y10)) (((x26.2.2.2.2.2.2.2.map nI).getD y11)) M51 h55 h56 h57 h58 h59 h52 hF60 (tp61) (by simp only [List.length_append, List.length_cons, List.length_nil]; omega) (fun p hp => (by rcases List.mem_append.mp hp with h8 | h8; have := hlt p h8; omega; rw [List.mem_singleton.mp h8]; omega)) (st_snoc hf9 (by omega)) (nu_snoc hf10 (fun h8 => absurd (hlt pc h8) (Nat.lt_irrefl _)) (by omega)) (by
                    rw [← hs, cuS_st (i := S.length) (by omega), if_neg (by omega), if_neg (by omega), hva, List.length_append]
                    rfl)
              · have c_64 : ¬ (¬ (nI (okI f n E mj ml x26)) = 0) := of_decide_eq_false c_64
                have n_64 : okI f n E mj ml x26 = 0 := (eq_nI (p := okI f n E mj ml x26) (n := 0) (by omega) (by decide)).mp (Decidable.not_not.mp c_64)
                refine ps_st (S' := (68, [(0, .ref cd), (3, .int (nI pc))], [.ref cd], M24)) rfl rfl rfl ?_
                refine ps_st (S' := (70, [(0, .ref cd), (3, .int (nI pc))], [.int (-2), .ref cd], M24)) rfl rfl rfl ?_
                refine ps_st (S' := (71, [(0, .ref cd), (3, .int (nI pc))], [.int (nI pc), .int (-2), .ref cd], M24)) rfl rfl rfl ?_
                refine ps_st (S' := (72, [(0, .ref cd), (3, .int (nI pc))], [.int ((-2) - (nI pc)), .ref cd], M24)) rfl rfl rfl ?_
                refine ps_put (l' := [.int c0, .int (nI ml), .int (nI L), .int c3, .int c4, .ref q, .int (nI mj), .ref on, .int ((-2) - (nI pc)), .ref z0, .ref (z0 + 1)]) rfl h30 rfl rfl (fun M62 h63 f64 z65 => ?_)
                have h66 := (f64 on (ob_ne h27 h30 (by decide))).trans h27
                have h67 := (f64 b (ob_ne h31 h30 (by decide))).trans h31
                have h68 := (f64 da (Ne.symm (ob_ar h30 h32))).trans h32
                have h69 := (f64 z0 (show z0 ≠ cd by omega)).trans h33
                have h70 := (f64 (z0 + 1) (show (z0 + 1) ≠ cd by omega)).trans h34
                have hF71 := hF35.up (Or.inl (by simp)) f64 (by rw [z65]; exact Nat.le_refl _)
                have tp72 : M62.2.1 = z0 + 2 := by rw [z65]; exact tp36
                show pl _ _ _ (75, [(0, .ref cd), (3, .int (nI pc))], [], M62) _
                refine ps_st (S' := (76, [(0, .ref cd), (3, .int (nI pc))], [.ref cd], M62)) rfl rfl rfl ?_
                refine ps_get (S' := (79, [(0, .ref cd), (3, .int (nI pc))], [.int ((-2) - (nI pc))], M62)) rfl h63 rfl rfl ?_
                have hva : vaN f n E mj cb L ml pc = 0 := by unfold vaN; rw [q54_s]; dsimp only; rw [if_pos n_64]
                have hcu : cuS f n E mj cb L ml L 0 [] = .inl pc := by rw [← hs, cuS_st (i := S.length) (by omega), if_neg (by omega), if_pos hva]
                have hcv : -2 - nI pc = cutV f n E mj cb L ml := by unfold cutV cutS; rw [hcu]
                exact ps_reti rfl (⟨F9, F10, (nI x26.1), (nI x26.2.1), x26.2.2.1, x26.2.2.2.1, (nI x26.2.2.2.2.1), (nI x26.2.2.2.2.2.1), (nI pc), (x26.2.2.2.2.2.2.1.getD y10), ((x26.2.2.2.2.2.2.2.map nI).getD y11), fun S' h8 => (by unfold cutS at h8; rw [hcu] at h8; cases h8), by rw [← hcv], by rw [tp0, ← hcv]; exact h63, h66, by rw [tp0]; exact h69, by rw [tp0]; exact h70, hF71, by rw [tp0]; exact tp72⟩)
            · skip
              obtain ⟨z373, z474, z575, z676, z777, z878, z979, z1080, z1181, q54_s, rfl, h82, f83⟩ := q25
              have h85 := (f83.1 cd (nin1 (ob_ne hl_cd hl_on (by decide)))).trans hl_cd
              have h86 := (f83.1 b (nin1 (ob_ne hl_b hl_on (by decide)))).trans hl_b
              have h87 := (f83.1 da (nin1 (Ne.symm (ob_ar hl_on hl_da)))).trans hl_da
              have h88 := (f83.1 z0 (nin1 (show z0 ≠ on by omega))).trans hl_z0
              have h89 := (f83.1 (z0 + 1) (nin1 (show (z0 + 1) ≠ on by omega))).trans hl_z0___1
              have hF90 := hF1.trf f83 (by intro z hz; simp only [List.mem_cons, List.not_mem_nil, or_false] at hz ⊢; try omega)
              have tp91 : M24.2.1 = z0 + 2 := by rw [f83.2]; exact tp1
              show pl _ _ _ (57, [(0, .ref cd), (1, .int (nI L)), (2, .int (nI S.length)), (3, .int (nI pc))], [.int 0], M24) _
              refine ps_if (S1 := (67, [(0, .ref cd), (3, .int (nI pc))], [], M24)) (S2 := (60, [(0, .ref cd), (1, .int (nI L)), (2, .int (nI S.length)), (3, .int (nI pc))], [], M24)) rfl rfl rfl (fun c_57 => ?_) (fun c_57 => ?_)
              rotate_left
              · exact absurd (by decide) (of_decide_eq_false c_57)
              refine ps_st (S' := (68, [(0, .ref cd), (3, .int (nI pc))], [.ref cd], M24)) rfl rfl rfl ?_
              refine ps_st (S' := (70, [(0, .ref cd), (3, .int (nI pc))], [.int (-2), .ref cd], M24)) rfl rfl rfl ?_
              refine ps_st (S' := (71, [(0, .ref cd), (3, .int (nI pc))], [.int (nI pc), .int (-2), .ref cd], M24)) rfl rfl rfl ?_
              refine ps_st (S' := (72, [(0, .ref cd), (3, .int (nI pc))], [.int ((-2) - (nI pc)), .ref cd], M24)) rfl rfl rfl ?_
              refine ps_put (l' := [.int c0, .int (nI ml), .int (nI L), .int c3, .int c4, .ref q, .int (nI mj), .ref on, .int ((-2) - (nI pc)), .ref z0, .ref (z0 + 1)]) rfl h85 rfl rfl (fun M92 h93 f94 z95 => ?_)
              have h96 := (f94 on (ob_ne h82 h85 (by decide))).trans h82
              have h97 := (f94 b (ob_ne h86 h85 (by decide))).trans h86
              have h98 := (f94 da (Ne.symm (ob_ar h85 h87))).trans h87
              have h99 := (f94 z0 (show z0 ≠ cd by omega)).trans h88
              have h100 := (f94 (z0 + 1) (show (z0 + 1) ≠ cd by omega)).trans h89
              have hF101 := hF90.up (Or.inl (by simp)) f94 (by rw [z95]; exact Nat.le_refl _)
              have tp102 : M92.2.1 = z0 + 2 := by rw [z95]; exact tp91
              show pl _ _ _ (75, [(0, .ref cd), (3, .int (nI pc))], [], M92) _
              refine ps_st (S' := (76, [(0, .ref cd), (3, .int (nI pc))], [.ref cd], M92)) rfl rfl rfl ?_
              refine ps_get (S' := (79, [(0, .ref cd), (3, .int (nI pc))], [.int ((-2) - (nI pc))], M92)) rfl h93 rfl rfl ?_
              have hva : vaN f n E mj cb L ml pc = 0 := by unfold vaN; rw [q54_s]
              have hcu : cuS f n E mj cb L ml L 0 [] = .inl pc := by rw [← hs, cuS_st (i := S.length) (by omega), if_neg (by omega), if_pos hva]
              have hcv : -2 - nI pc = cutV f n E mj cb L ml := by unfold cutV cutS; rw [hcu]
              exact ps_reti rfl (⟨F9, F10, z373, z474, z575, z676, z777, z878, z979, z1080, z1181, fun S' h8 => (by unfold cutS at h8; rw [hcu] at h8; cases h8), by rw [← hcv], by rw [tp0, ← hcv]; exact h93, h96, by rw [tp0]; exact h99, by rw [tp0]; exact h100, hF101, by rw [tp0]; exact tp102⟩)
      · skip
        intro k S x8 F9 F10 y3 y4 y5 y6 y7 y8 y9 y10 y11 M1 hl_cd hl_on hl_b hl_da hl_z0 hl_z0___1 hF1 tp1 hcu hSb hlt hf9 hf10 hk hx8
        refine ps_st1 (S' := (118, [(0, .ref cd), (2, .int (nI S.length)), (3, .int (nI k))], [.int (nI k)], M1)) rfl rfl rfl ?_
        refine ps_st (S' := (119, [(0, .ref cd), (2, .int (nI S.length)), (3, .int (nI k))], [.int (nI S.length), .int (nI k)], M1)) rfl rfl rfl ?_
        refine ps_if2 (S1 := (172, [(0, .ref cd)], [], M1)) (S2 := (122, [(0, .ref cd), (2, .int (nI S.length)), (3, .int (nI k))], [], M1)) rfl rfl rfl (fun c_119 => ?_) (fun c_119 => ?_)
        · have c_119 : (nI S.length) ≤ (nI k) := of_decide_eq_true c_119
          have n_119 : S.length ≤ k := (le_nI (p := S.length) (n := k) (by omega) (by omega)).mp c_119
          have hcv : x8 = cutV f n E mj cb L ml := by
            unfold cutV cutS
            rw [hcu]
            dsimp only
            rcases hx8 with ⟨e1, e2⟩ | ⟨p, hp, e1, e2⟩
            · rw [← e2, List.drop_eq_nil_of_le (by omega)]
              exact e1
            · rw [e2]
              exact e1
          refine ps_st (S' := (173, [(0, .ref cd)], [.ref cd], M1)) rfl rfl rfl ?_
          refine ps_get (S' := (176, [(0, .ref cd)], [.int x8], M1)) rfl hl_cd rfl rfl ?_
          exact ps_reti rfl (⟨F9, F10, y3, y4, y5, y6, y7, y8, y9, y10, y11, fun S' h8 => (by unfold cutS at h8; rw [hcu] at h8; dsimp only at h8; split at h8; cases h8; cases h8; exact ⟨hf9, hf10⟩), by rw [hcv], by rw [tp0, ← hcv]; exact hl_cd, hl_on, by rw [tp0]; exact hl_z0, by rw [tp0]; exact hl_z0___1, hF1, by rw [tp0]; exact tp1⟩)
        · have c_119 : ¬ ((nI S.length) ≤ (nI k)) := of_decide_eq_false c_119
          have n_119 : ¬ (S.length ≤ k) := fun h9 => c_119 ((le_nI (p := S.length) (n := k) (by omega) (by omega)).mpr h9)
          refine ps_st (S' := (123, [(0, .ref cd), (2, .int (nI S.length)), (3, .int (nI k))], [.ref cd], M1)) rfl rfl rfl ?_
          refine ps_get (S' := (126, [(0, .ref cd), (2, .int (nI S.length)), (3, .int (nI k))], [.int x8], M1)) rfl hl_cd rfl rfl ?_
          refine ps_st (S' := (127, [(0, .ref cd), (2, .int (nI S.length)), (3, .int (nI k))], [.int (nI S.length), .int x8], M1)) rfl rfl rfl ?_
          refine ps_if2 (S1 := (172, [(0, .ref cd)], [], M1)) (S2 := (130, [(0, .ref cd), (2, .int (nI S.length)), (3, .int (nI k))], [], M1)) rfl rfl rfl (fun c_127 => ?_) (fun c_127 => ?_)
          · have c_127 : ¬ x8 = (nI S.length) := of_decide_eq_true c_127
            have hcv : x8 = cutV f n E mj cb L ml := by
              unfold cutV cutS
              rw [hcu]
              dsimp only
              rcases hx8 with ⟨e1, e2⟩ | ⟨p, hp, e1, e2⟩
              · exact absurd e1 c_127
              · rw [e2]
                exact e1
            refine ps_st (S' := (173, [(0, .ref cd)], [.ref cd], M1)) rfl rfl rfl ?_
            refine ps_get (S' := (176, [(0, .ref cd)], [.int x8], M1)) rfl hl_cd rfl rfl ?_
            exact ps_reti rfl (⟨F9, F10, y3, y4, y5, y6, y7, y8, y9, y10, y11, fun S' h8 => (by unfold cutS at h8; rw [hcu] at h8; dsimp only at h8; split at h8; cases h8; cases h8; exact ⟨hf9, hf10⟩), by rw [hcv], by rw [tp0, ← hcv]; exact hl_cd, hl_on, by rw [tp0]; exact hl_z0, by rw [tp0]; exact hl_z0___1, hF1, by rw [tp0]; exact tp1⟩)
          · have c_127 : ¬ (¬ x8 = (nI S.length)) := of_decide_eq_false c_127
            have hx9 := hx8.resolve_right (fun h8 => (by obtain ⟨p, hp, e1, -⟩ := h8; exact m2_ne (by omega) hp (e1.symm.trans (Decidable.not_not.mp c_127))))
            have hpk : S.getD k 0 < L := hlt _ (getD_mem (by omega))
            refine ps_st (S' := (131, [(0, .ref cd), (2, .int (nI S.length)), (3, .int (nI k))], [.ref cd], M1)) rfl rfl rfl ?_
            refine ps_get (S' := (134, [(0, .ref cd), (2, .int (nI S.length)), (3, .int (nI k))], [.ref on], M1)) rfl hl_cd rfl rfl ?_
            refine ps_st (S' := (135, [(0, .ref cd), (2, .int (nI S.length)), (3, .int (nI k))], [.ref cd, .ref on], M1)) rfl rfl rfl ?_
            refine ps_get (S' := (138, [(0, .ref cd), (2, .int (nI S.length)), (3, .int (nI k))], [.ref z0, .ref on], M1)) rfl hl_cd rfl rfl ?_
            refine ps_st (S' := (139, [(0, .ref cd), (2, .int (nI S.length)), (3, .int (nI k))], [.int (nI k), .ref z0, .ref on], M1)) rfl rfl rfl ?_
            refine ps_ald (S' := (140, [(0, .ref cd), (2, .int (nI S.length)), (3, .int (nI k))], [.int (F9 (Int32.toNatClampNeg (nI k))), .ref on], M1)) rfl hl_z0 rfl (fun i0_139 i1_139 => ?_)
            rw [show (F9 (Int32.toNatClampNeg (nI k))) = (nI (S.getD k 0)) from (congrArg F9 (nI_toNat (k := k) (by omega))).trans (hf9 k (by omega))]
            show pl _ _ _ (_, [(0, .ref cd), (2, .int (nI S.length)), (3, .int (nI k))], [.int (nI (S.getD k 0)), .ref on], M1) _
            refine pl_call (a := [.ref on, .int (nI (S.getD k 0))]) (rest := []) rfl rfl rfl (dk_isTakenApart (f := f) (n := n) (on := on) (b := b) (da := da) (cb := cb) (L := L) (y3 := y3) (y4 := y4) (y5 := y5) (y6 := y6) (y7 := y7) (y8 := y8) (y9 := y9) (y10 := y10) (y11 := y11) (pc := (S.getD k 0)) hl_on hl_b hl_da (hn) (hcl) (hpk)) (fun v103 M104 q105 => ?_)
            rcases q105 with q105 | q105
            · skip
              obtain ⟨x106, q140_s, rfl, h107, f108⟩ := q105
              have h110 := (f108.1 cd (nin1 (ob_ne hl_cd hl_on (by decide)))).trans hl_cd
              have h111 := (f108.1 b (nin1 (ob_ne hl_b hl_on (by decide)))).trans hl_b
              have h112 := (f108.1 da (nin1 (Ne.symm (ob_ar hl_on hl_da)))).trans hl_da
              have h113 := (f108.1 z0 (nin1 (show z0 ≠ on by omega))).trans hl_z0
              have h114 := (f108.1 (z0 + 1) (nin1 (show (z0 + 1) ≠ on by omega))).trans hl_z0___1
              have hF115 := hF1.trf f108 (by intro z hz; simp only [List.mem_cons, List.not_mem_nil, or_false] at hz ⊢; try omega)
              have tp116 : M104.2.1 = z0 + 2 := by rw [f108.2]; exact tp1
              show pl _ _ _ (143, [(0, .ref cd), (2, .int (nI S.length)), (3, .int (nI k))], [.int 1], M104) _
              refine ps_if (S1 := (166, [(0, .ref cd), (2, .int (nI S.length)), (3, .int (nI k))], [], M104)) (S2 := (146, [(0, .ref cd), (2, .int (nI S.length)), (3, .int (nI k))], [], M104)) rfl rfl rfl (fun c_143 => ?_) (fun c_143 => ?_)
              · exact absurd (of_decide_eq_true c_143) (by decide)
              refine ps_st (S' := (147, [(0, .ref cd), (2, .int (nI S.length)), (3, .int (nI k))], [.ref cd], M104)) rfl rfl rfl ?_
              refine pl_call (a := [.ref cd]) (rest := []) rfl rfl rfl (dk_targetsHold7 (f := f) (n := n) (q := q) (cd := cd) (on := on) (b := b) (da := da) (cb := cb) (L := L) (ml := ml) (mj := mj) (pc := (S.getD k 0)) (t9 := (z0 + 1)) (x := x106) (F := F10) (S := S) (c0 := c0) (c2 := (nI L)) (c3 := c3) (c4 := c4) (y10 := y10) (y11 := y11) (v8 := (.int x8)) (v9 := (.ref z0)) h110 h107 h111 h112 h114 (hn) (hcl) (q140_s) (by omega) (hf10) (hlt) (by omega)) (fun v117 M118 q119 => ?_)
              obtain ⟨rfl, rfl⟩ := q119
              show pl _ _ _ (150, [(0, .ref cd), (2, .int (nI S.length)), (3, .int (nI k))], [.int (nI (thN f cb S (S.getD k 0) x106 x106.2.2.2.2.2.1 0))], M104) _
              have hth9 : thN f cb S (S.getD k 0) x106 x106.2.2.2.2.2.1 0 < 2 := thG_le _ _
              refine ps_if (S1 := (166, [(0, .ref cd), (2, .int (nI S.length)), (3, .int (nI k))], [], M104)) (S2 := (153, [(0, .ref cd), (2, .int (nI S.length)), (3, .int (nI k))], [], M104)) rfl rfl rfl (fun c_150 => ?_) (fun c_150 => ?_)
              · have c_150 : ¬ (nI (thN f cb S (S.getD k 0) x106 x106.2.2.2.2.2.1 0)) = 0 := of_decide_eq_true c_150
                have n_150 : ¬ (thN f cb S (S.getD k 0) x106 x106.2.2.2.2.2.1 0 = 0) := fun h9 => c_150 ((eq_nI (p := thN f cb S (S.getD k 0) x106 x106.2.2.2.2.2.1 0) (n := 0) (by omega) (by decide)).mpr h9)
                refine ps_st (S' := (169, [(3, .int ((nI k) + 1)), (0, .ref cd), (2, .int (nI S.length))], [], M104)) rfl rfl rfl ?_
                rw [nI_add1 (p := k) (k := 1) (x := 1) rfl (by omega)]
                show pl _ _ _ (_, [(3, .int (nI (k + 1))), (0, .ref cd), (2, .int (nI S.length))], [], M104) _
                refine ps_st (S' := (117, [(0, .ref cd), (2, .int (nI S.length)), (3, .int (nI (k + 1)))], [], M104)) rfl rfl rfl ?_
                exact ih.2 (k + 1) (S) (x8) (F9) (F10) ((nI x106.1)) ((nI x106.2.1)) (x106.2.2.1) (x106.2.2.2.1) ((nI x106.2.2.2.2.1)) ((nI x106.2.2.2.2.2.1)) ((nI (S.getD k 0))) ((x106.2.2.2.2.2.2.1.getD y10)) (((x106.2.2.2.2.2.2.2.map nI).getD y11)) M104 h110 h107 h111 h112 h113 h114 hF115 (tp116) (hcu) (hSb) (hlt) (hf9) (hf10) (by omega) (Or.inl ⟨hx9.1, by
                    rw [← hx9.2, fb_st (k := k) (by omega), q140_s]
                    dsimp only
                    rw [if_neg n_150]⟩)
              · have c_150 : ¬ (¬ (nI (thN f cb S (S.getD k 0) x106 x106.2.2.2.2.2.1 0)) = 0) := of_decide_eq_false c_150
                have n_150 : thN f cb S (S.getD k 0) x106 x106.2.2.2.2.2.1 0 = 0 := (eq_nI (p := thN f cb S (S.getD k 0) x106 x106.2.2.2.2.2.1 0) (n := 0) (by omega) (by decide)).mp (Decidable.not_not.mp c_150)
                refine ps_st (S' := (154, [(0, .ref cd), (2, .int (nI S.length)), (3, .int (nI k))], [.ref cd], M104)) rfl rfl rfl ?_
                refine ps_st (S' := (156, [(0, .ref cd), (2, .int (nI S.length)), (3, .int (nI k))], [.int (-2), .ref cd], M104)) rfl rfl rfl ?_
                refine ps_st (S' := (157, [(0, .ref cd), (2, .int (nI S.length)), (3, .int (nI k))], [.ref cd, .int (-2), .ref cd], M104)) rfl rfl rfl ?_
                refine ps_get (S' := (160, [(0, .ref cd), (2, .int (nI S.length)), (3, .int (nI k))], [.ref z0, .int (-2), .ref cd], M104)) rfl h110 rfl rfl ?_
                refine ps_st (S' := (161, [(0, .ref cd), (2, .int (nI S.length)), (3, .int (nI k))], [.int (nI k), .ref z0, .int (-2), .ref cd], M104)) rfl rfl rfl ?_
                refine ps_ald (S' := (162, [(0, .ref cd), (2, .int (nI S.length)), (3, .int (nI k))], [.int (F9 (Int32.toNatClampNeg (nI k))), .int (-2), .ref cd], M104)) rfl h113 rfl (fun i0_161 i1_161 => ?_)
                rw [show (F9 (Int32.toNatClampNeg (nI k))) = (nI (S.getD k 0)) from (congrArg F9 (nI_toNat (k := k) (by omega))).trans (hf9 k (by omega))]
                show pl _ _ _ (_, [(0, .ref cd), (2, .int (nI S.length)), (3, .int (nI k))], [.int (nI (S.getD k 0)), .int (-2), .ref cd], M104) _
                refine ps_st (S' := (163, [(0, .ref cd), (2, .int (nI S.length)), (3, .int (nI k))], [.int ((-2) - (nI (S.getD k 0))), .ref cd], M104)) rfl rfl rfl ?_
                refine ps_put (l' := [.int c0, .int (nI ml), .int (nI L), .int c3, .int c4, .ref q, .int (nI mj), .ref on, .int ((-2) - (nI (S.getD k 0))), .ref z0, .ref (z0 + 1)]) rfl h110 rfl rfl (fun M120 h121 f122 z123 => ?_)
                have h124 := (f122 on (ob_ne h107 h110 (by decide))).trans h107
                have h125 := (f122 b (ob_ne h111 h110 (by decide))).trans h111
                have h126 := (f122 da (Ne.symm (ob_ar h110 h112))).trans h112
                have h127 := (f122 z0 (show z0 ≠ cd by omega)).trans h113
                have h128 := (f122 (z0 + 1) (show (z0 + 1) ≠ cd by omega)).trans h114
                have hF129 := hF115.up (Or.inl (by simp)) f122 (by rw [z123]; exact Nat.le_refl _)
                have tp130 : M120.2.1 = z0 + 2 := by rw [z123]; exact tp116
                show pl _ _ _ (166, [(0, .ref cd), (2, .int (nI S.length)), (3, .int (nI k))], [], M120) _
                refine ps_st (S' := (169, [(3, .int ((nI k) + 1)), (0, .ref cd), (2, .int (nI S.length))], [], M120)) rfl rfl rfl ?_
                rw [nI_add1 (p := k) (k := 1) (x := 1) rfl (by omega)]
                show pl _ _ _ (_, [(3, .int (nI (k + 1))), (0, .ref cd), (2, .int (nI S.length))], [], M120) _
                refine ps_st (S' := (117, [(0, .ref cd), (2, .int (nI S.length)), (3, .int (nI (k + 1)))], [], M120)) rfl rfl rfl ?_
                exact ih.2 (k + 1) (S) (((-2) - (nI (S.getD k 0)))) (F9) (F10) ((nI x106.1)) ((nI x106.2.1)) (x106.2.2.1) (x106.2.2.2.1) ((nI x106.2.2.2.2.1)) ((nI x106.2.2.2.2.2.1)) ((nI (S.getD k 0))) ((x106.2.2.2.2.2.2.1.getD y10)) (((x106.2.2.2.2.2.2.2.map nI).getD y11)) M120 h121 h124 h125 h126 h127 h128 hF129 (tp130) (hcu) (hSb) (hlt) (hf9) (hf10) (by omega) (Or.inr ⟨S.getD k 0, by omega, rfl, by
                    rw [← hx9.2, fb_st (by omega), q140_s]
                    dsimp only
                    rw [if_pos n_150]⟩)
            · skip
              obtain ⟨z3131, z4132, z5133, z6134, z7135, z8136, z9137, z10138, z11139, q140_s, rfl, h140, f141⟩ := q105
              have h143 := (f141.1 cd (nin1 (ob_ne hl_cd hl_on (by decide)))).trans hl_cd
              have h144 := (f141.1 b (nin1 (ob_ne hl_b hl_on (by decide)))).trans hl_b
              have h145 := (f141.1 da (nin1 (Ne.symm (ob_ar hl_on hl_da)))).trans hl_da
              have h146 := (f141.1 z0 (nin1 (show z0 ≠ on by omega))).trans hl_z0
              have h147 := (f141.1 (z0 + 1) (nin1 (show (z0 + 1) ≠ on by omega))).trans hl_z0___1
              have hF148 := hF1.trf f141 (by intro z hz; simp only [List.mem_cons, List.not_mem_nil, or_false] at hz ⊢; try omega)
              have tp149 : M104.2.1 = z0 + 2 := by rw [f141.2]; exact tp1
              show pl _ _ _ (143, [(0, .ref cd), (2, .int (nI S.length)), (3, .int (nI k))], [.int 0], M104) _
              refine ps_if (S1 := (166, [(0, .ref cd), (2, .int (nI S.length)), (3, .int (nI k))], [], M104)) (S2 := (146, [(0, .ref cd), (2, .int (nI S.length)), (3, .int (nI k))], [], M104)) rfl rfl rfl (fun c_143 => ?_) (fun c_143 => ?_)
              rotate_left
              · exact absurd (by decide) (of_decide_eq_false c_143)
              refine ps_st (S' := (169, [(3, .int ((nI k) + 1)), (0, .ref cd), (2, .int (nI S.length))], [], M104)) rfl rfl rfl ?_
              rw [nI_add1 (p := k) (k := 1) (x := 1) rfl (by omega)]
              show pl _ _ _ (_, [(3, .int (nI (k + 1))), (0, .ref cd), (2, .int (nI S.length))], [], M104) _
              refine ps_st (S' := (117, [(0, .ref cd), (2, .int (nI S.length)), (3, .int (nI (k + 1)))], [], M104)) rfl rfl rfl ?_
              exact ih.2 (k + 1) (S) (x8) (F9) (F10) (z3131) (z4132) (z5133) (z6134) (z7135) (z8136) (z9137) (z10138) (z11139) M104 h143 h140 h144 h145 h146 h147 hF148 (tp149) (hcu) (hSb) (hlt) (hf9) (hf10) (by omega) (Or.inl ⟨hx9.1, by
                  rw [← hx9.2, fb_st (k := k) (by omega), q140_s]⟩)
  refine ps_st (S' := (1, [(0, .ref cd)], [.ref cd], M)) rfl rfl rfl ?_
  refine ps_get (S' := (4, [(0, .ref cd)], [.int 0], M)) rfl h_cd rfl rfl ?_
  refine ps_if (S1 := (12, [(0, .ref cd)], [], M)) (S2 := (7, [(0, .ref cd)], [], M)) rfl rfl rfl (fun c_4 => ?_) (fun c_4 => ?_)
  rotate_left
  · exact absurd (by decide) (of_decide_eq_false c_4)
  refine ps_st (S' := (13, [(0, .ref cd)], [.int 0], M)) rfl rfl rfl ?_
  refine ps_st (S' := (14, [(0, .ref cd)], [.ref cd, .int 0], M)) rfl rfl rfl ?_
  refine ps_get (S' := (17, [(0, .ref cd)], [.int (nI L), .int 0], M)) rfl h_cd rfl rfl ?_
  refine ps_st (S' := (20, [(0, .ref cd)], [.int (if 0 < (nI L) then (nI L) else 0)], M)) rfl rfl rfl ?_
  rw [nmax0 (by omega)]
  show pl _ _ _ (_, [(0, .ref cd)], [.int (nI (L))], M) _
  refine ps_st (S' := (21, [(1, .int (nI (L))), (0, .ref cd)], [], M)) rfl rfl rfl ?_
  refine ps_st (S' := (22, [(1, .int (nI (L))), (0, .ref cd)], [.ref cd], M)) rfl rfl rfl ?_
  refine ps_st (S' := (23, [(1, .int (nI (L))), (0, .ref cd)], [.int (nI (L)), .ref cd], M)) rfl rfl rfl ?_
  refine ps_newa rfl tp0 (fun M150 i0_23 h151 f152 tp153 => ?_)
  rw [nI_toNat (by omega)] at h151
  have h154 := (f152 cd (show cd ≠ z0 by omega)).trans h_cd
  have h155 := (f152 on (show on ≠ z0 by omega)).trans h_on
  have h156 := (f152 b (show b ≠ z0 by omega)).trans h_b
  have h157 := (f152 da (show da ≠ z0 by omega)).trans h_da
  have hF158 := hF.up (Or.inr (by omega)) f152 (by omega)
  show pl _ _ _ (25, [(1, .int (nI (L))), (0, .ref cd)], [.ref z0, .ref cd], M150) _
  refine ps_put (l' := [.int c0, .int (nI ml), .int (nI L), .int c3, .int c4, .ref q, .int (nI mj), .ref on, .int 0, .ref z0, v10]) rfl h154 rfl rfl (fun M159 h160 f161 z162 => ?_)
  have h163 := (f161 on (ob_ne h155 h154 (by decide))).trans h155
  have h164 := (f161 b (ob_ne h156 h154 (by decide))).trans h156
  have h165 := (f161 da (Ne.symm (ob_ar h154 h157))).trans h157
  have h166 := (f161 z0 (show z0 ≠ cd by omega)).trans h151
  have hF167 := hF158.up (Or.inl (by simp)) f161 (by rw [z162]; exact Nat.le_refl _)
  have tp168 : M159.2.1 = z0 + 1 := by rw [z162]; exact tp153
  show pl _ _ _ (28, [(1, .int (nI (L))), (0, .ref cd)], [], M159) _
  refine ps_st (S' := (29, [(1, .int (nI (L))), (0, .ref cd)], [.ref cd], M159)) rfl rfl rfl ?_
  refine ps_st (S' := (30, [(1, .int (nI (L))), (0, .ref cd)], [.int (nI (L)), .ref cd], M159)) rfl rfl rfl ?_
  refine ps_newa rfl tp168 (fun M169 i0_30 h170 f171 tp172 => ?_)
  rw [nI_toNat (by omega)] at h170
  have h173 := (f171 cd (show cd ≠ (z0 + 1) by omega)).trans h160
  have h174 := (f171 on (show on ≠ (z0 + 1) by omega)).trans h163
  have h175 := (f171 b (show b ≠ (z0 + 1) by omega)).trans h164
  have h176 := (f171 da (show da ≠ (z0 + 1) by omega)).trans h165
  have h177 := (f171 z0 (show z0 ≠ (z0 + 1) by omega)).trans h166
  have hF178 := hF167.up (Or.inr (by omega)) f171 (by omega)
  show pl _ _ _ (32, [(1, .int (nI (L))), (0, .ref cd)], [.ref (z0 + 1), .ref cd], M169) _
  refine ps_put (l' := [.int c0, .int (nI ml), .int (nI L), .int c3, .int c4, .ref q, .int (nI mj), .ref on, .int 0, .ref z0, .ref (z0 + 1)]) rfl h173 rfl rfl (fun M179 h180 f181 z182 => ?_)
  have h183 := (f181 on (ob_ne h174 h173 (by decide))).trans h174
  have h184 := (f181 b (ob_ne h175 h173 (by decide))).trans h175
  have h185 := (f181 da (Ne.symm (ob_ar h173 h176))).trans h176
  have h186 := (f181 z0 (show z0 ≠ cd by omega)).trans h177
  have h187 := (f181 (z0 + 1) (show (z0 + 1) ≠ cd by omega)).trans h170
  have hF188 := hF178.up (Or.inl (by simp)) f181 (by rw [z182]; exact Nat.le_refl _)
  have tp189 : M179.2.1 = z0 + 2 := by rw [z182]; exact tp172
  show pl _ _ _ (35, [(1, .int (nI (L))), (0, .ref cd)], [], M179) _
  refine ps_st (S' := (36, [(1, .int (nI (L))), (0, .ref cd)], [.int 0], M179)) rfl rfl rfl ?_
  refine ps_st (S' := (37, [(2, .int 0), (1, .int (nI (L))), (0, .ref cd)], [], M179)) rfl rfl rfl ?_
  refine ps_st (S' := (38, [(2, .int 0), (1, .int (nI (L))), (0, .ref cd)], [.int 0], M179)) rfl rfl rfl ?_
  refine ps_st (S' := (39, [(0, .ref cd), (1, .int (nI (L))), (2, .int 0), (3, .int 0)], [], M179)) rfl rfl rfl ?_
  exact (LL kf).1 (0) ([]) (fun _ => 0) (fun _ => 0) (y3) (y4) (y5) (y6) (y7) (y8) (y9) (y10) (y11) M179 h180 h183 h184 h185 h186 h187 hF188 (tp189) (by simp) (fun p hp => (by cases hp)) (fun i hi => absurd hi (Nat.not_lt_zero _)) (fun j _ => rfl) (rfl)
end
