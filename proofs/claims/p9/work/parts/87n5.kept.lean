/-! what the class keeps (my own text) -/
section KCA
variable {g : xe_G} {f : Nat → Int32} {n N q c da : Nat} {E : List (Nat × Nat)} {M M' : mi_H}
/-- members, whatever became of what isn't theirs -/
theorem MV.mov3 {B : List Nat} {mm k : Nat} {G : Nat → Nat} (h : MV f B mm G k M) (hz : M.2.1 ≤ M'.2.1) (hm : ∀ z c', z < M.2.1 → M.1 z = some c' → (∀ o, c' = .inr o → o.1 = 6) → (∀ k F, c' ≠ ar .byte k F) → M'.1 z = some c') : MV f B mm G k M' :=
  h.move hz (fun C n R e => (hm mm _ h.1 e (fun o h9 => by cases h9) (fun k F h9 => by
    simp only [ar, ro, Sum.inl.injEq, Prod.mk.injEq] at h9
    exact absurd h9.1 (fun e9 => by cases e9))).trans e.symm) (fun i hi x1 x2 x3 x4 v e => ⟨x1, x2, x3, x4, v, hm _ _ (h.2.2.2 i hi).1 e (fun o h9 => by cases h9; rfl) (fun k F h9 => by cases h9), fun _ => ⟨rfl, rfl, rfl, rfl, rfl⟩⟩)
/-- what a kept file tells of its members and its attributes -/
def KCM (f : Nat → Int32) (n : Nat) (E : List (Nat × Nat)) (p1 pF pM pA q : Nat) (w : List Value) (M : mi_H) : Prop := ∃ (fr mr : Nat) (G1 G2 : Nat → Nat) (k1 k2 bc : Nat) (K : KT), w = [.int (nI (by2 f 4)), .int (nI (by2 f 6)), .int (nI p1), .int (nI (by2 f (p1 + 6))), .ref fr, .ref mr, .int (nI (by2 f pA)), .int (nI (pA + 2)), .int (nI K.1), .int (nI bc), .int (nI K.2.1), .int (nI K.2.2.1), .int (nI K.2.2.2.1), .int (nI K.2.2.2.2.1), .int K.2.2.2.2.2] ∧ MV f (mbs f n (by2 f pF) (pF + 2)) fr G1 k1 M ∧ MV f (mbs f n (by2 f pM) (pM + 2)) mr G2 k2 M ∧ s_class f n p1 = .inr pF ∧ s_mbs f n pF = .inr pM ∧ s_mbs f n pM = .inr pA ∧ s_attributes f n pA = .inr n ∧ clS f n E (by2 f p1) (by2 f 6) (by2 f pA) (pA + 2) 0 0 = .inr bc ∧ clU f n E (by2 f 6) (by2 f pA) (pA + 2) (0, 0, 0, 0, 0, -1) = K ∧ DF f n E (mbs f n (by2 f pF) (pF + 2)) G1 (mbs f n (by2 f pF) (pF + 2)).length M ∧ DMk f n E (by2 f 6) q (mbs f n (by2 f pM) (pM + 2)) G2 M
theorem KCM.mov3 {p1 pF pM pA q : Nat} {w : List Value} (h : KCM f n E p1 pF pM pA q w M) (hz : M.2.1 ≤ M'.2.1) (hm : ∀ z c', z < M.2.1 → M.1 z = some c' → (∀ o, c' = .inr o → o.1 = 6) → (∀ k F, c' ≠ ar .byte k F) → M'.1 z = some c') (hq : H4 M M') : KCM f n E p1 pF pM pA q w M' := by
  obtain ⟨fr, mr, G1, G2, k1, k2, bc, K, h1, h2, h3, g1, g2, g3, g4, g5, g6, g7, g8⟩ := h
  exact ⟨fr, mr, G1, G2, k1, k2, bc, K, h1, h2.mov3 hz hm, h3.mov3 hz hm, g1, g2, g3, g4, g5, g6, g7.mov3 hz hm, g8.mov3 hz hm hq⟩
/-- a file that is kept: its bytes, its pool -/
def KC (g : xe_G) (f : Nat → Int32) (n c da : Nat) (M : mi_H) : Prop := ∃ (b q N : Nat) (E : List (Nat × Nat)) (p1 pF pM pA : Nat) (w : List Value), M.1 c = some (ob 3 (.ref b :: .ref q :: w)) ∧ M.1 b = some (ob 1 [.ref da]) ∧ M.1 da = some (ar .byte n f) ∧ PV g f n N E q M ∧ s_whole f n = .inr (E, p1, pF, pM, pA) ∧ N = by2 f 8 ∧ (c < M.2.1 ∧ b < M.2.1 ∧ da < M.2.1) ∧ n ≤ 65540 ∧ KCM f n E p1 pF pM pA q w M
/-- bytes may change, and objects but for pools and literals -/
theorem PV.mov2 (h : PV g f n N E q M) (hz : M.2.1 ≤ M'.2.1) (hm : ∀ z c, z < M.2.1 → M.1 z = some c → (∀ o, c = .inr o → o.1 = 7 ∨ 100 ≤ o.1) → (∀ k F, c ≠ ar .byte k F) → M'.1 z = some c) : PV g f n N E q M' := by
  obtain ⟨hL, H, m, qq, F, cc, ⟨a0, a1, a6⟩, hT, ⟨b0, b1⟩, h3⟩ := h
  have hi : ∀ {z k : Nat} {F : Nat → Int32}, z < M.2.1 → M.1 z = some (ar .int k F) → M'.1 z = some (ar .int k F) := fun hl hc => hm _ _ hl hc (fun o h9 => by cases h9) (fun k F h9 => by simp [ar] at h9)
  have hc : ∀ {z k : Nat} {F : Nat → Int32}, z < M.2.1 → M.1 z = some (ar .char k F) → M'.1 z = some (ar .char k F) := fun hl hc => hm _ _ hl hc (fun o h9 => by cases h9) (fun k F h9 => by simp [ar] at h9)
  have h7 := hm q _ b0 a0 (fun o h9 => by cases h9; exact Or.inl rfl) (fun k F h9 => by cases h9)
  refine ⟨fun k hk => ?_, H, m, qq, F, cc, ⟨h7, fun i h1 h2 => hi (b1 i h1 (by omega)) (a1 i h1 h2), hc (b1 6 (by decide) (by decide)) a6⟩, hT, ⟨by omega, fun i h1 h2 => Nat.lt_of_lt_of_le (b1 i h1 h2) hz⟩, h3⟩
  obtain ⟨k1, k', fl, k2, k3, k4⟩ := hL k hk
  exact ⟨by omega, k', fl, k2, hm _ _ k1 k3 (fun o h9 => by cases h9; exact Or.inr (Nat.le_add_right _ _)) (fun k F h9 => by cases h9), k4⟩
theorem KC.mov2 (h : KC g f n c da M) (hz : M.2.1 ≤ M'.2.1) (hm : ∀ z c', z < M.2.1 → M.1 z = some c' → (∀ o, c' = .inr o → o.1 = 7 ∨ o.1 = 3 ∨ o.1 = 1 ∨ 100 ≤ o.1 ∨ o.1 = 6) → (∀ k F, c' = ar .byte k F → z = da) → M'.1 z = some c') (hq : H4 M M') : KC g f n c da M' := by
  obtain ⟨b, q, N, E, p1, pF, pM, pA, w, h1, h2, h3, h4, h5, h6, ⟨l1, l2, l3⟩, h8⟩ := h
  exact ⟨b, q, N, E, p1, pF, pM, pA, w, hm c _ l1 h1 (fun o h9 => by cases h9; exact Or.inr (Or.inl rfl)) (fun k F h9 => by cases h9), hm b _ l2 h2 (fun o h9 => by cases h9; exact Or.inr (Or.inr (Or.inl rfl))) (fun k F h9 => by cases h9), hm da _ l3 h3 (fun o h9 => by cases h9) (fun k F h9 => rfl), h4.mov2 hz (fun z c' hl hc ho hb => hm z c' hl hc (fun o h9 => (ho o h9).elim Or.inl (fun h => Or.inr (Or.inr (Or.inr (Or.inl h))))) (fun k F h9 => absurd h9 (hb k F))), h5, h6, ⟨by omega, by omega, by omega⟩, h8.1, h8.2.mov3 hz (fun z c' hl hc ho hb => hm z c' hl hc (fun o h9 => Or.inr (Or.inr (Or.inr (Or.inr (ho o h9))))) (fun k F h9 => absurd h9 (hb k F))) hq⟩
theorem KC.fr (h : KC g f n c da M) (hf : frD M M') : KC g f n c da M' :=
  h.mov2 hf.1.2 (fun z c' hl hc ho _ => (hf.1.1 z hl (fun o h9 hw => by
    rw [hc] at h9
    have h1 := ho o (Option.some.inj h9)
    simp only [List.mem_cons, List.not_mem_nil, or_false] at hw
    omega)).trans hc) hf.2
theorem KC.gmk {S : List Nat} (h : KC g f n c da M) (hf : gm S M M') (hs : ∀ z ∈ S, (∃ l, M.1 z = some (ob 11 l)) ∨ (z ≠ da ∧ ∃ k F, M.1 z = some (ar .byte k F))) : KC g f n c da M' :=
  h.mov2 hf.2 (fun z c' hl hc ho hb => (hf.1 z hl (fun hz => by
    rcases hs z hz with ⟨l, e⟩ | ⟨e1, k, F, e⟩
    · rw [hc] at e
      have h1 := ho _ (Option.some.inj e)
      dsimp only at h1
      omega
    · rw [hc] at e
      exact e1 (hb k F (Option.some.inj e)))).trans hc) (fun z l hl hc h9 => ⟨l, (hf.1 z hl (fun hz => by
    rcases hs z hz with ⟨l2, e⟩ | ⟨-, k, F, e⟩
    · rw [hc] at e
      exact ob_411 (Option.some.inj e)
    · rw [hc] at e
      cases e)).trans hc, h9, rfl⟩)
/-- the same cells, others beside them -/
theorem KC.sp {F : Nat → Option mi_C} (h : KC g f n c da M) (hs : spR F M M') : KC g f n c da M' := by
  have ez : M'.2.1 = M.2.1 := by rw [hs.1]
  obtain ⟨b, q, N, E, p1, pF, pM, pA, w, h1, h2, h3, ⟨hL, H, m, qq, F', cc, ⟨a0, a1, a6⟩, hT, ⟨b0, b1⟩, h4⟩, h5, h6, ⟨l1, l2, l3⟩, h8⟩ := h
  refine ⟨b, q, N, E, p1, pF, pM, pA, w, hs.get h1, hs.get h2, hs.get h3, ⟨fun k hk => ?_, H, m, qq, F', cc, ⟨hs.get a0, fun i h1 h2 => hs.get (a1 i h1 h2), hs.get a6⟩, hT, ⟨by omega, fun i h1 h2 => by rw [ez]; exact b1 i h1 h2⟩, h4⟩, h5, h6, ⟨by omega, by omega, by omega⟩, h8.1, h8.2.mov3 (by omega) (fun z c' _ hc _ _ => hs.get hc) (fun z l _ hc h9 => ⟨l, hs.get hc, h9, rfl⟩)⟩
  obtain ⟨k1, k', fl, k2, k3, k4⟩ := hL k hk
  exact ⟨by omega, k', fl, k2, hs.get k3, k4⟩
/-- what is kept, if anything is -/
def KPC (g : xe_G) (ko : Option (Nat × (Nat → Int32))) (kv : Value) (cm : Nat) (M : mi_H) : Prop := match ko with
  | none => kv = .null
  | some p => ∃ c da, kv = .ref c ∧ KC g p.2 p.1 c da M ∧ da ≠ cm ∧ s_read p.2 p.1 = none
variable {ko : Option (Nat × (Nat → Int32))} {kv : Value} {cm x : Nat}
theorem KPC.mov (h : KPC g ko kv cm M) (hz : M.2.1 ≤ M'.2.1) (hm : ∀ a c', a < M.2.1 → M.1 a = some c' → (∀ l, c' ≠ ob 11 l) → M'.1 a = some c') : KPC g ko kv cm M' := by
  cases ko with
  | none => exact h
  | some p =>
    obtain ⟨c, da, h1, h2, h3, h4⟩ := h
    refine ⟨c, da, h1, h2.mov2 hz (fun z c' hl hc ho _ => hm z c' hl hc (fun l e => ?_)) (fun z l hl hc h9 => ⟨l, hm z _ hl hc (fun l2 e => ob_411 e), h9, rfl⟩), h3, h4⟩
    have h9 := ho (11, fun i => l[i]?) e
    dsimp only at h9
    omega
theorem KPC.fr (h : KPC g ko kv cm M) (hf : frD M M') : KPC g ko kv cm M' := by
  cases ko with
  | none => exact h
  | some p =>
    obtain ⟨c, da, h1, h2, h3, h4⟩ := h
    exact ⟨c, da, h1, h2.fr hf, h3, h4⟩
theorem KPC.gmk {S : List Nat} (h : KPC g ko kv cm M) (hf : gm S M M') (hs : ∀ z ∈ S, ∃ l, M.1 z = some (ob 11 l)) : KPC g ko kv cm M' := by
  cases ko with
  | none => exact h
  | some p =>
    obtain ⟨c, da, h1, h2, h3, h4⟩ := h
    exact ⟨c, da, h1, h2.gmk hf (fun z hz => Or.inl (hs z hz)), h3, h4⟩
theorem KPC.gmk2 {cm2 m : Nat} {C : Nat → Int32} {l : List Value} (h : KPC g ko kv cm M) (hf : gm [x, cm] M M') (hx : M.1 x = some (ob 11 l)) (hc : M.1 cm = some (ar .byte m C)) (hd : cm2 = cm ∨ M.2.1 ≤ cm2) : KPC g ko kv cm2 M' := by
  cases ko with
  | none => exact h
  | some p =>
    obtain ⟨c, da, h1, h2, h3, h4⟩ := h
    have hl : da < M.2.1 := by
      obtain ⟨b, q, N, E, p1, pF, pM, pA, w, -, -, -, -, -, -, ⟨-, -, l3⟩, -⟩ := h2
      exact l3
    refine ⟨c, da, h1, h2.gmk hf (fun z hz => ?_), fun e => ?_, h4⟩
    · simp only [List.mem_cons, List.not_mem_nil, or_false] at hz
      rcases hz with rfl | rfl
      · exact Or.inl ⟨l, hx⟩
      · exact Or.inr ⟨fun e => h3 e.symm, m, C, hc⟩
    · rcases hd with e2 | e2
      · exact h3 (e.trans e2)
      · omega
end KCA
set_option maxHeartbeats 1000000 in
theorem dk_holds2_c {g : xe_G} {M : mi_H} {f : Nat → Int32} {n N q : Nat} {E : List (Nat × Nat)} {ox ac o z9 c b da vd fr mr fa ic mj na pa e0 : Nat} {s1 mi ru wa k1 : Int32} {B1 B2 : List Nat} {G1 G2 : Nat → Nat} {og ga gf : Nat} {gn gw : Int32} {gk : Value} (h_ox : M.1 ox = some (ob 8 [.ref q, .int (nI mj), .ref vd])) (h_ac : M.1 ac = some (ob 0 [.ref c, .ref b, .ref q, .ref vd, .int s1])) (h_o : M.1 o = some (ob 2 [.ref c, .ref b, .ref q, .ref vd, .ref ac])) (h_c : M.1 c = some (ob 3 [.ref b, .ref q, .int mi, .int (nI mj), .int (nI fa), .int (nI ic), .ref fr, .ref mr, .int (nI na), .int (nI pa), .int k1, .int 0, .int 0, .int 0, .int 0, .int 0, .int (-1)])) (h_b : M.1 b = some (ob 1 [.ref da])) (h_da : M.1 da = some (ar .byte n f)) (h_vd : M.1 vd = some (ob 10 [.int ru, .int wa])) (h_og : M.1 og = some (ob 11 [.ref ga, .int gn, .ref gf, gk, .int gw])) (hn : n ≤ 65540) (hmj : mj < 65536) (hfa : fa + 8 ≤ n) (hic : fa + 8 + 2 * ic ≤ n) (hic2 : ic < 65536) (hna : na < 65536 ∧ pa ≤ n) (hat : s_atts f n na pa = .inr e0) (hB91 : B1.length < 65536) (hB92 : B2.length < 65536) (hB1 : ∀ i, i < B1.length → B1.getD i 0 + 8 ≤ n ∧ ∃ e0, s_atts f n (by2 f (B1.getD i 0 + 6)) (B1.getD i 0 + 8) = .inr e0) (hB2 : ∀ i, i < B2.length → B2.getD i 0 + 8 ≤ n ∧ ∃ e0, s_atts f n (by2 f (B2.getD i 0 + 6)) (B2.getD i 0 + 8) = .inr e0) (hDs : ∀ i j, i < B1.length → j < B2.length → ¬ G1 i = G2 j) (l_c : c < M.2.1) (l_b : b < M.2.1) (l_da : da < M.2.1) (l_vd : vd < M.2.1) (l_q : q < M.2.1) (l_og : og < M.2.1) (l_ox : ox < M.2.1) (l_ac : ac < M.2.1) (l_o : o < M.2.1) (hz9 : z9 ≤ M.2.1) (hq40 : chkP f n E mj (N - 1) 1 = none) (hq48 : hdS f n E fa = none) (hq56 : ifS f n E (fa + 8) ic 0 = none) (hq64 : flS f n E (by2 f fa) B1 B1.length 0 = none) (hq72 : mtS f n E (by2 f fa) mj B2 B2.length 0 = none) (hV : PV g f n N E q M) (hM1 : MV f B1 fr G1 B1.length M) (hM2 : MV f B2 mr G2 B2.length M) (hDF : DF f n E B1 G1 B1.length M) (hDM : DMe f n E mj q b B2 G2 M) (kf : Nat) : pl (mT g) kf (mb_11 g).2 (78, [(4, .ref o), (3, .ref ac), (2, .ref ox), (0, .ref c), (1, .ref vd)], [], M) (fun v M' => (∃ (bc : Nat) (K : KT), (s_chk f n N E mj fa ic B1 B2 na pa = none) ∧ (clS f n E (by2 f fa) mj na pa 0 0 = .inr bc) ∧ (clU f n E mj na pa (0, 0, 0, 0, 0, -1) = K) ∧ (PV g f n N E q M') ∧ (MV f B1 fr G1 B1.length M') ∧ (MV f B2 mr G2 B2.length M') ∧ (DF f n E B1 G1 B1.length M') ∧ (DMe f n E mj q b B2 G2 M') ∧ v = some (.int 1) ∧ M'.1 vd = some (ob 10 [.int ru, .int wa]) ∧ M'.1 og = some (ob 11 [.ref ga, .int gn, .ref gf, gk, .int gw]) ∧ M'.1 c = some (ob 3 [.ref b, .ref q, .int mi, .int (nI mj), .int (nI fa), .int (nI ic), .ref fr, .ref mr, .int (nI na), .int (nI pa), .int (nI K.1), .int (nI bc), .int (nI K.2.1), .int (nI K.2.2.1), .int (nI K.2.2.2.1), .int (nI K.2.2.2.2.1), .int K.2.2.2.2.2]) ∧ M'.1 b = some (ob 1 [.ref da]) ∧ M'.1 da = some (ar .byte n f) ∧ z9 ≤ M'.2.1) ∨ (∃ (e9 : Nat × Nat), (s_chk f n N E mj fa ic B1 B2 na pa = some e9) ∧ v = some (.int 0) ∧ M'.1 vd = some (ob 10 [.int (nI e9.1), .int (nI e9.2)]) ∧ M'.1 og = some (ob 11 [.ref ga, .int gn, .ref gf, gk, .int gw]) ∧ z9 ≤ M'.2.1)) := by
  obtain ⟨z0, tp0⟩ : ∃ z0, M.2.1 = z0 := ⟨_, rfl⟩
  refine ps_st (S' := (79, [(4, .ref o), (3, .ref ac), (2, .ref ox), (0, .ref c), (1, .ref vd)], [.ref ac], M)) rfl rfl rfl ?_
  refine pl_call (a := [.ref ac]) (rest := []) rfl rfl rfl (dk_ofClass (f := f) (n := n) (N := N) (q := q) (E := E) (ac := ac) (c := c) (b := b) (da := da) (vd := vd) (fr := fr) (mr := mr) (fa := fa) (ic := ic) (mj := mj) (na := na) (pa := pa) (mi := mi) (ru := ru) (wa := wa) (s1 := s1) (k1 := k1) (e0 := e0) (bc0 := 0) (K0 := (0, 0, 0, 0, 0, -1)) h_ac h_b h_da h_c h_vd (hn) (hmj) (hfa) (hna) (by decide) (hat) (rfl) (hV)) (fun v1 M2 q3 => ?_)
  rcases q3 with q3 | q3
  · skip
    obtain ⟨bc4, K5, s26, q79_s, q79_l, q79_U, rfl, h7, h8, h9, f10⟩ := q3
    have h12 := (f10.1 ox (nin3 (ob_ne h_ox h_ac (by decide)) (ob_ne h_ox h_vd (by decide)) (ob_ne h_ox h_c (by decide)))).trans h_ox
    have h13 := (f10.1 o (nin3 (ob_ne h_o h_ac (by decide)) (ob_ne h_o h_vd (by decide)) (ob_ne h_o h_c (by decide)))).trans h_o
    have h14 := (f10.1 b (nin3 (ob_ne h_b h_ac (by decide)) (ob_ne h_b h_vd (by decide)) (ob_ne h_b h_c (by decide)))).trans h_b
    have h15 := (f10.1 da (nin3 (Ne.symm (ob_ar h_ac h_da)) (Ne.symm (ob_ar h_vd h_da)) (Ne.symm (ob_ar h_c h_da)))).trans h_da
    have h16 := (f10.1 og (nin3 (ob_ne h_og h_ac (by decide)) (ob_ne h_og h_vd (by decide)) (ob_ne h_og h_c (by decide)))).trans h_og
    have tp18 : M2.2.1 = z0 := by rw [f10.2]; exact tp0
    have hV19 := hV.keep f10.gm (n7c h_ac (by decide) (n7c h_vd (by decide) (n7c h_c (by decide) (n7nil))))
    have hV20 := hM1.keep f10.gm (n6o h_ac (by decide) (n6o h_vd (by decide) (n6o h_c (by decide) (n6on))))
    have hV21 := hM2.keep f10.gm (n6o h_ac (by decide) (n6o h_vd (by decide) (n6o h_c (by decide) (n6on))))
    have hV22 := hDF.keep f10.gm (nDc h_ac (by decide) (nDc h_vd (by decide) (nDc h_c (by decide) (nDn))))
    have hV23 := hDM.keep f10.gm (nDc h_ac (by decide) (nDc h_vd (by decide) (nDc h_c (by decide) (nDn))))
    show pl _ _ _ (82, [(4, .ref o), (3, .ref ac), (2, .ref ox), (0, .ref c), (1, .ref vd)], [.int 1], M2) _
    clear h_ox h_ac h_o h_c h_b h_da h_vd h_og hV hM1 hM2 hDF hDM f10
    refine ps_if (S1 := (100, [], [], M2)) (S2 := (85, [(4, .ref o), (3, .ref ac), (2, .ref ox), (0, .ref c), (1, .ref vd)], [], M2)) rfl rfl rfl (fun c_82 => ?_) (fun c_82 => ?_)
    · exact absurd (of_decide_eq_true c_82) (by decide)
    refine ps_st (S' := (86, [(4, .ref o), (3, .ref ac), (2, .ref ox), (0, .ref c), (1, .ref vd)], [.ref ox], M2)) rfl rfl rfl ?_
    refine ps_st (S' := (87, [(4, .ref o), (3, .ref ac), (2, .ref ox), (0, .ref c), (1, .ref vd)], [.ref c, .ref ox], M2)) rfl rfl rfl ?_
    refine ps_get (S' := (90, [(4, .ref o), (3, .ref ac), (2, .ref ox), (0, .ref c), (1, .ref vd)], [.int (nI bc4), .ref ox], M2)) rfl h9 rfl rfl ?_
    refine pl_call (a := [.ref ox, .int (nI bc4)]) (rest := []) rfl rfl rfl (dk_bootstrapsHold (f := f) (n := n) (N := N) (q := q) (E := E) (o := ox) (vd := vd) (mj := mj) (bc := bc4) (ru := ru) (wa := wa) h12 h7 (hmj) (q79_l) (hV19)) (fun v24 M25 q26 => ?_)
    rcases q26 with q26 | q26
    · skip
      obtain ⟨q90_s, rfl, h27, f28⟩ := q26
      have h30 := (f28.1 ox (nin1 (ob_ne h12 h7 (by decide)))).trans h12
      have h31 := (f28.1 ac (nin1 (ob_ne h8 h7 (by decide)))).trans h8
      have h32 := (f28.1 o (nin1 (ob_ne h13 h7 (by decide)))).trans h13
      have h33 := (f28.1 c (nin1 (ob_ne h9 h7 (by decide)))).trans h9
      have h34 := (f28.1 b (nin1 (ob_ne h14 h7 (by decide)))).trans h14
      have h35 := (f28.1 da (nin1 (Ne.symm (ob_ar h7 h15)))).trans h15
      have h36 := (f28.1 og (nin1 (ob_ne h16 h7 (by decide)))).trans h16
      have tp38 : M25.2.1 = z0 := by rw [f28.2]; exact tp18
      have hV39 := hV19.keep f28.gm (n7c h7 (by decide) (n7nil))
      have hV40 := hV20.keep f28.gm (n6o h7 (by decide) (n6on))
      have hV41 := hV21.keep f28.gm (n6o h7 (by decide) (n6on))
      have hV42 := hV22.keep f28.gm (nDc h7 (by decide) (nDn))
      have hV43 := hV23.keep f28.gm (nDc h7 (by decide) (nDn))
      show pl _ _ _ (93, [(4, .ref o), (3, .ref ac), (2, .ref ox), (0, .ref c), (1, .ref vd)], [.int 1], M25) _
      clear h12 h8 h13 h9 h14 h15 h7 h16 hV19 hV20 hV21 hV22 hV23 f28
      refine ps_if (S1 := (100, [], [], M25)) (S2 := (96, [(4, .ref o), (3, .ref ac), (2, .ref ox), (0, .ref c), (1, .ref vd)], [], M25)) rfl rfl rfl (fun c_93 => ?_) (fun c_93 => ?_)
      · exact absurd (of_decide_eq_true c_93) (by decide)
      refine ps_st (S' := (97, [(4, .ref o), (3, .ref ac), (2, .ref ox), (0, .ref c), (1, .ref vd)], [.int 1], M25)) rfl rfl rfl ?_
      refine ps_st (S' := (101, [], [.int 1], M25)) rfl rfl rfl ?_
      exact ps_ret rfl rfl (Or.inl ⟨bc4, K5, by
          unfold s_chk
          rw [hq40]
          try dsimp only
          rw [hq48]
          try dsimp only
          rw [hq56]
          try dsimp only
          rw [hq64]
          try dsimp only
          rw [hq72]
          try dsimp only
          rw [q79_s]
          try dsimp only
          rw [q90_s]
          try dsimp only
          first | done | rfl, q79_s, q79_U, hV39, hV40, hV41, hV42, hV43, rfl, h27, h36, h33, h34, h35, by omega⟩)
    · skip
      obtain ⟨e44, q90_s, rfl, h45, f46⟩ := q26
      have h48 := (f46.1 ox (nin1 (ob_ne h12 h7 (by decide)))).trans h12
      have h49 := (f46.1 ac (nin1 (ob_ne h8 h7 (by decide)))).trans h8
      have h50 := (f46.1 o (nin1 (ob_ne h13 h7 (by decide)))).trans h13
      have h51 := (f46.1 c (nin1 (ob_ne h9 h7 (by decide)))).trans h9
      have h52 := (f46.1 b (nin1 (ob_ne h14 h7 (by decide)))).trans h14
      have h53 := (f46.1 da (nin1 (Ne.symm (ob_ar h7 h15)))).trans h15
      have h54 := (f46.1 og (nin1 (ob_ne h16 h7 (by decide)))).trans h16
      have tp56 : M25.2.1 = z0 := by rw [f46.2]; exact tp18
      have hV57 := hV19.keep f46.gm (n7c h7 (by decide) (n7nil))
      have hV58 := hV20.keep f46.gm (n6o h7 (by decide) (n6on))
      have hV59 := hV21.keep f46.gm (n6o h7 (by decide) (n6on))
      have hV60 := hV22.keep f46.gm (nDc h7 (by decide) (nDn))
      have hV61 := hV23.keep f46.gm (nDc h7 (by decide) (nDn))
      show pl _ _ _ (93, [(4, .ref o), (3, .ref ac), (2, .ref ox), (0, .ref c), (1, .ref vd)], [.int 0], M25) _
      clear h12 h8 h13 h9 h14 h15 h7 h16 hV19 hV20 hV21 hV22 hV23 f46
      refine ps_if (S1 := (100, [], [], M25)) (S2 := (96, [(4, .ref o), (3, .ref ac), (2, .ref ox), (0, .ref c), (1, .ref vd)], [], M25)) rfl rfl rfl (fun c_93 => ?_) (fun c_93 => ?_)
      rotate_left
      · exact absurd (by decide) (of_decide_eq_false c_93)
      refine ps_st (S' := (101, [], [.int 0], M25)) rfl rfl rfl ?_
      exact ps_ret rfl rfl (Or.inr ⟨e44, by
          unfold s_chk
          rw [hq40]
          try dsimp only
          rw [hq48]
          try dsimp only
          rw [hq56]
          try dsimp only
          rw [hq64]
          try dsimp only
          rw [hq72]
          try dsimp only
          rw [q79_s]
          try dsimp only
          rw [q90_s]
          try dsimp only
          first | done | rfl, rfl, h45, h54, by omega⟩)
  · skip
    obtain ⟨e962, q79_s, rfl, h63, f64⟩ := q3
    have h66 := (f64.1 ox (nin3 (ob_ne h_ox h_ac (by decide)) (ob_ne h_ox h_vd (by decide)) (ob_ne h_ox h_c (by decide)))).trans h_ox
    have h67 := (f64.1 o (nin3 (ob_ne h_o h_ac (by decide)) (ob_ne h_o h_vd (by decide)) (ob_ne h_o h_c (by decide)))).trans h_o
    have h68 := (f64.1 b (nin3 (ob_ne h_b h_ac (by decide)) (ob_ne h_b h_vd (by decide)) (ob_ne h_b h_c (by decide)))).trans h_b
    have h69 := (f64.1 da (nin3 (Ne.symm (ob_ar h_ac h_da)) (Ne.symm (ob_ar h_vd h_da)) (Ne.symm (ob_ar h_c h_da)))).trans h_da
    have h70 := (f64.1 og (nin3 (ob_ne h_og h_ac (by decide)) (ob_ne h_og h_vd (by decide)) (ob_ne h_og h_c (by decide)))).trans h_og
    have tp72 : M2.2.1 = z0 := by rw [f64.2]; exact tp0
    have hV73 := hV.keep f64.gm (n7c h_ac (by decide) (n7c h_vd (by decide) (n7c h_c (by decide) (n7nil))))
    have hV74 := hM1.keep f64.gm (n6o h_ac (by decide) (n6o h_vd (by decide) (n6o h_c (by decide) (n6on))))
    have hV75 := hM2.keep f64.gm (n6o h_ac (by decide) (n6o h_vd (by decide) (n6o h_c (by decide) (n6on))))
    have hV76 := hDF.keep f64.gm (nDc h_ac (by decide) (nDc h_vd (by decide) (nDc h_c (by decide) (nDn))))
    have hV77 := hDM.keep f64.gm (nDc h_ac (by decide) (nDc h_vd (by decide) (nDc h_c (by decide) (nDn))))
    show pl _ _ _ (82, [(4, .ref o), (3, .ref ac), (2, .ref ox), (0, .ref c), (1, .ref vd)], [.int 0], M2) _
    clear h_ox h_ac h_o h_c h_b h_da h_vd h_og hV hM1 hM2 hDF hDM f64
    refine ps_if (S1 := (100, [], [], M2)) (S2 := (85, [(4, .ref o), (3, .ref ac), (2, .ref ox), (0, .ref c), (1, .ref vd)], [], M2)) rfl rfl rfl (fun c_82 => ?_) (fun c_82 => ?_)
    rotate_left
    · exact absurd (by decide) (of_decide_eq_false c_82)
    refine ps_st (S' := (101, [], [.int 0], M2)) rfl rfl rfl ?_
    exact ps_ret rfl rfl (Or.inr ⟨e962, by
        unfold s_chk
        rw [hq40]
        try dsimp only
        rw [hq48]
        try dsimp only
        rw [hq56]
        try dsimp only
        rw [hq64]
        try dsimp only
        rw [hq72]
        try dsimp only
        rw [q79_s]
        try dsimp only
        first | done | rfl, rfl, h63, h70, by omega⟩)
set_option maxHeartbeats 1000000 in
theorem dk_holds2_b {g : xe_G} {M : mi_H} {f : Nat → Int32} {n N q : Nat} {E : List (Nat × Nat)} {ox ac o z9 c b da vd fr mr fa ic mj na pa e0 : Nat} {s1 mi ru wa k1 : Int32} {B1 B2 : List Nat} {G1 G2 : Nat → Nat} {og ga gf : Nat} {gn gw : Int32} {gk : Value} (h_ox : M.1 ox = some (ob 8 [.ref q, .int (nI mj), .ref vd])) (h_ac : M.1 ac = some (ob 0 [.ref c, .ref b, .ref q, .ref vd, .int s1])) (h_o : M.1 o = some (ob 2 [.ref c, .ref b, .ref q, .ref vd, .ref ac])) (h_c : M.1 c = some (ob 3 [.ref b, .ref q, .int mi, .int (nI mj), .int (nI fa), .int (nI ic), .ref fr, .ref mr, .int (nI na), .int (nI pa), .int k1, .int 0, .int 0, .int 0, .int 0, .int 0, .int (-1)])) (h_b : M.1 b = some (ob 1 [.ref da])) (h_da : M.1 da = some (ar .byte n f)) (h_vd : M.1 vd = some (ob 10 [.int ru, .int wa])) (h_og : M.1 og = some (ob 11 [.ref ga, .int gn, .ref gf, gk, .int gw])) (hn : n ≤ 65540) (hmj : mj < 65536) (hfa : fa + 8 ≤ n) (hic : fa + 8 + 2 * ic ≤ n) (hic2 : ic < 65536) (hna : na < 65536 ∧ pa ≤ n) (hat : s_atts f n na pa = .inr e0) (hB91 : B1.length < 65536) (hB92 : B2.length < 65536) (hB1 : ∀ i, i < B1.length → B1.getD i 0 + 8 ≤ n ∧ ∃ e0, s_atts f n (by2 f (B1.getD i 0 + 6)) (B1.getD i 0 + 8) = .inr e0) (hB2 : ∀ i, i < B2.length → B2.getD i 0 + 8 ≤ n ∧ ∃ e0, s_atts f n (by2 f (B2.getD i 0 + 6)) (B2.getD i 0 + 8) = .inr e0) (hDs : ∀ i j, i < B1.length → j < B2.length → ¬ G1 i = G2 j) (l_c : c < M.2.1) (l_b : b < M.2.1) (l_da : da < M.2.1) (l_vd : vd < M.2.1) (l_q : q < M.2.1) (l_og : og < M.2.1) (l_ox : ox < M.2.1) (l_ac : ac < M.2.1) (l_o : o < M.2.1) (hz9 : z9 ≤ M.2.1) (hq40 : chkP f n E mj (N - 1) 1 = none) (hq48 : hdS f n E fa = none) (hq56 : ifS f n E (fa + 8) ic 0 = none) (hV : PV g f n N E q M) (hM1 : MV f B1 fr G1 0 M) (hM2 : MV f B2 mr G2 0 M) (kf : Nat) : pl (mT g) kf (mb_11 g).2 (62, [(4, .ref o), (3, .ref ac), (2, .ref ox), (0, .ref c), (1, .ref vd)], [], M) (fun v M' => (∃ (bc : Nat) (K : KT), (s_chk f n N E mj fa ic B1 B2 na pa = none) ∧ (clS f n E (by2 f fa) mj na pa 0 0 = .inr bc) ∧ (clU f n E mj na pa (0, 0, 0, 0, 0, -1) = K) ∧ (PV g f n N E q M') ∧ (MV f B1 fr G1 B1.length M') ∧ (MV f B2 mr G2 B2.length M') ∧ (DF f n E B1 G1 B1.length M') ∧ (DMe f n E mj q b B2 G2 M') ∧ v = some (.int 1) ∧ M'.1 vd = some (ob 10 [.int ru, .int wa]) ∧ M'.1 og = some (ob 11 [.ref ga, .int gn, .ref gf, gk, .int gw]) ∧ M'.1 c = some (ob 3 [.ref b, .ref q, .int mi, .int (nI mj), .int (nI fa), .int (nI ic), .ref fr, .ref mr, .int (nI na), .int (nI pa), .int (nI K.1), .int (nI bc), .int (nI K.2.1), .int (nI K.2.2.1), .int (nI K.2.2.2.1), .int (nI K.2.2.2.2.1), .int K.2.2.2.2.2]) ∧ M'.1 b = some (ob 1 [.ref da]) ∧ M'.1 da = some (ar .byte n f) ∧ z9 ≤ M'.2.1) ∨ (∃ (e9 : Nat × Nat), (s_chk f n N E mj fa ic B1 B2 na pa = some e9) ∧ v = some (.int 0) ∧ M'.1 vd = some (ob 10 [.int (nI e9.1), .int (nI e9.2)]) ∧ M'.1 og = some (ob 11 [.ref ga, .int gn, .ref gf, gk, .int gw]) ∧ z9 ≤ M'.2.1)) := by
  obtain ⟨z0, tp0⟩ : ∃ z0, M.2.1 = z0 := ⟨_, rfl⟩
  refine ps_st (S' := (64, [(4, .ref o), (3, .ref ac), (2, .ref ox), (0, .ref c), (1, .ref vd)], [.ref o], M)) rfl rfl rfl ?_
  refine pl_call (a := [.ref o]) (rest := []) rfl rfl rfl (dk_fieldsHold7 (f := f) (n := n) (N := N) (q := q) (E := E) (o := o) (c := c) (b := b) (da := da) (vd := vd) (ac := ac) (mr := mr) (fa := fa) (ic := ic) (mj := mj) (na := na) (pa := pa) (mi := mi) (ru := ru) (wa := wa) (k1 := k1) (k2 := 0) (k3 := 0) (k4 := 0) (k5 := 0) (k6 := 0) (k7 := (-1)) (ox := ox) (og := og) (ga := ga) (gf := gf) (gn := gn) (gw := gw) (gk := gk) (s1 := s1) (B := B1) (G := G1) (mm := fr) (B2 := B2) (G2 := G2) (m2 := mr) (kk2 := 0) h_ox h_og h_o h_c h_b h_da h_vd h_ac (hn) (hmj) (hfa) (hB91) (hB1) (hDs) (by omega) (by omega) (by omega) (by omega) (by omega) (by omega) (by omega) (by omega) (by omega) (hV) (hM1) (hM2)) (fun v1 M2 q3 => ?_)
  rcases q3 with q3 | q3
  · skip
    obtain ⟨s24, q64_s, q64_V, q64_W, q64_X, q64_D, rfl, h5, h6, h7, h8, h9, h10, h11, h12, tp14⟩ := q3
    obtain ⟨t15, tp16⟩ : ∃ t9, M2.2.1 = t9 := ⟨_, rfl⟩
    rw [tp0, tp16] at tp14
    show pl _ _ _ (67, [(4, .ref o), (3, .ref ac), (2, .ref ox), (0, .ref c), (1, .ref vd)], [.int 1], M2) _
    refine ps_if (S1 := (100, [], [], M2)) (S2 := (70, [(4, .ref o), (3, .ref ac), (2, .ref ox), (0, .ref c), (1, .ref vd)], [], M2)) rfl rfl rfl (fun c_67 => ?_) (fun c_67 => ?_)
    · exact absurd (of_decide_eq_true c_67) (by decide)
    refine ps_st (S' := (72, [(4, .ref o), (3, .ref ac), (2, .ref ox), (0, .ref c), (1, .ref vd)], [.ref o], M2)) rfl rfl rfl ?_
    refine pl_call (a := [.ref o]) (rest := []) rfl rfl rfl (dk_methodsHold7 (f := f) (n := n) (N := N) (q := q) (E := E) (o := o) (c := c) (b := b) (da := da) (vd := vd) (ac := ac) (fr := fr) (fa := fa) (ic := ic) (mj := mj) (na := na) (pa := pa) (mi := mi) (ru := ru) (wa := wa) (k1 := k1) (k2 := 0) (k3 := 0) (k4 := 0) (k5 := 0) (k6 := 0) (k7 := (-1)) (ox := ox) (og := og) (ga := ga) (gf := gf) (gn := gn) (gw := gw) (gk := gk) (s1 := s24) (B := B2) (G := G2) (mm := mr) (B2 := B1) (G2 := G1) (m2 := fr) (kk2 := B1.length) h5 h6 h7 h8 h9 h10 h11 h12 (hn) (hmj) (hfa) (hB92) (hB2) (fun i j hi hj e9 => hDs j i hj hi e9.symm) (by omega) (by omega) (by omega) (by omega) (by omega) (by omega) (by omega) (by omega) (by omega) (q64_V) (q64_W) (q64_X) (q64_D)) (fun v17 M18 q19 => ?_)
    rcases q19 with q19 | q19
    · skip
      obtain ⟨s220, q72_s, q72_V, q72_W, q72_X, q72_D, q72_O, rfl, h21, h22, h23, h24, h25, h26, h27, h28, tp30⟩ := q19
      obtain ⟨t31, tp32⟩ : ∃ t9, M18.2.1 = t9 := ⟨_, rfl⟩
      rw [tp16, tp32] at tp30
      show pl _ _ _ (75, [(4, .ref o), (3, .ref ac), (2, .ref ox), (0, .ref c), (1, .ref vd)], [.int 1], M18) _
      have hDM9 : DMe f n E mj q b B2 G2 M18 := ⟨_, q72_D⟩
      refine ps_if (S1 := (100, [], [], M18)) (S2 := (78, [(4, .ref o), (3, .ref ac), (2, .ref ox), (0, .ref c), (1, .ref vd)], [], M18)) rfl rfl rfl (fun c_75 => ?_) (fun c_75 => ?_)
      · exact absurd (of_decide_eq_true c_75) (by decide)
      exact dk_holds2_c (z9 := z9) (e0 := e0) h21 h28 h23 h24 h25 h26 h27 h22 hn hmj hfa hic hic2 hna hat hB91 hB92 hB1 hB2 hDs (by omega) (by omega) (by omega) (by omega) (by omega) (by omega) (by omega) (by omega) (by omega) (by omega) hq40 hq48 hq56 q64_s q72_s q72_V q72_W q72_X q72_O hDM9 kf
    · skip
      obtain ⟨e933, q72_s, rfl, h34, h35, tp37⟩ := q19
      obtain ⟨t38, tp39⟩ : ∃ t9, M18.2.1 = t9 := ⟨_, rfl⟩
      rw [tp16, tp39] at tp37
      show pl _ _ _ (75, [(4, .ref o), (3, .ref ac), (2, .ref ox), (0, .ref c), (1, .ref vd)], [.int 0], M18) _
      refine ps_if (S1 := (100, [], [], M18)) (S2 := (78, [(4, .ref o), (3, .ref ac), (2, .ref ox), (0, .ref c), (1, .ref vd)], [], M18)) rfl rfl rfl (fun c_75 => ?_) (fun c_75 => ?_)
      rotate_left
      · exact absurd (by decide) (of_decide_eq_false c_75)
      refine ps_st (S' := (101, [], [.int 0], M18)) rfl rfl rfl ?_
      exact ps_ret rfl rfl (Or.inr ⟨e933, by
          unfold s_chk
          rw [hq40]
          try dsimp only
          rw [hq48]
          try dsimp only
          rw [hq56]
          try dsimp only
          rw [q64_s]
          try dsimp only
          rw [q72_s]
          try dsimp only
          first | done | rfl, rfl, h34, h35, by omega⟩)
  · skip
    obtain ⟨e940, q64_s, rfl, h41, h42, tp44⟩ := q3
    obtain ⟨t45, tp46⟩ : ∃ t9, M2.2.1 = t9 := ⟨_, rfl⟩
    rw [tp0, tp46] at tp44
    show pl _ _ _ (67, [(4, .ref o), (3, .ref ac), (2, .ref ox), (0, .ref c), (1, .ref vd)], [.int 0], M2) _
    refine ps_if (S1 := (100, [], [], M2)) (S2 := (70, [(4, .ref o), (3, .ref ac), (2, .ref ox), (0, .ref c), (1, .ref vd)], [], M2)) rfl rfl rfl (fun c_67 => ?_) (fun c_67 => ?_)
    rotate_left
    · exact absurd (by decide) (of_decide_eq_false c_67)
    refine ps_st (S' := (101, [], [.int 0], M2)) rfl rfl rfl ?_
    exact ps_ret rfl rfl (Or.inr ⟨e940, by
        unfold s_chk
        rw [hq40]
        try dsimp only
        rw [hq48]
        try dsimp only
        rw [hq56]
        try dsimp only
        rw [q64_s]
        try dsimp only
        first | done | rfl, rfl, h41, h42, by omega⟩)
set_option maxHeartbeats 1000000 in
theorem dk_holds2 {g : xe_G} {M : mi_H} {f : Nat → Int32} {n N q : Nat} {E : List (Nat × Nat)} {c b da vd fr mr fa ic mj na pa e0 : Nat} {mi ru wa k1 : Int32} {B1 B2 : List Nat} {G1 G2 : Nat → Nat} {og ga gf : Nat} {gn gw : Int32} {gk : Value} (h_c : M.1 c = some (ob 3 [.ref b, .ref q, .int mi, .int (nI mj), .int (nI fa), .int (nI ic), .ref fr, .ref mr, .int (nI na), .int (nI pa), .int k1, .int 0, .int 0, .int 0, .int 0, .int 0, .int (-1)])) (h_b : M.1 b = some (ob 1 [.ref da])) (h_da : M.1 da = some (ar .byte n f)) (h_vd : M.1 vd = some (ob 10 [.int ru, .int wa])) (h_og : M.1 og = some (ob 11 [.ref ga, .int gn, .ref gf, gk, .int gw])) (hn : n ≤ 65540) (hmj : mj < 65536) (hfa : fa + 8 ≤ n) (hic : fa + 8 + 2 * ic ≤ n) (hic2 : ic < 65536) (hna : na < 65536 ∧ pa ≤ n) (hat : s_atts f n na pa = .inr e0) (hB91 : B1.length < 65536) (hB92 : B2.length < 65536) (hB1 : ∀ i, i < B1.length → B1.getD i 0 + 8 ≤ n ∧ ∃ e0, s_atts f n (by2 f (B1.getD i 0 + 6)) (B1.getD i 0 + 8) = .inr e0) (hB2 : ∀ i, i < B2.length → B2.getD i 0 + 8 ≤ n ∧ ∃ e0, s_atts f n (by2 f (B2.getD i 0 + 6)) (B2.getD i 0 + 8) = .inr e0) (hDs : ∀ i j, i < B1.length → j < B2.length → ¬ G1 i = G2 j) (l_c : c < M.2.1) (l_b : b < M.2.1) (l_da : da < M.2.1) (l_vd : vd < M.2.1) (l_q : q < M.2.1) (l_og : og < M.2.1) (hW : PW g f n N E q M) (hM1 : MV f B1 fr G1 0 M) (hM2 : MV f B2 mr G2 0 M) : pt (mT g) 11 [.ref c, .ref vd] M (fun v M' => (∃ (bc : Nat) (K : KT), (s_chk f n N E mj fa ic B1 B2 na pa = none) ∧ (clS f n E (by2 f fa) mj na pa 0 0 = .inr bc) ∧ (clU f n E mj na pa (0, 0, 0, 0, 0, -1) = K) ∧ (PV g f n N E q M') ∧ (MV f B1 fr G1 B1.length M') ∧ (MV f B2 mr G2 B2.length M') ∧ (DF f n E B1 G1 B1.length M') ∧ (DMe f n E mj q b B2 G2 M') ∧ v = some (.int 1) ∧ M'.1 vd = some (ob 10 [.int ru, .int wa]) ∧ M'.1 og = some (ob 11 [.ref ga, .int gn, .ref gf, gk, .int gw]) ∧ M'.1 c = some (ob 3 [.ref b, .ref q, .int mi, .int (nI mj), .int (nI fa), .int (nI ic), .ref fr, .ref mr, .int (nI na), .int (nI pa), .int (nI K.1), .int (nI bc), .int (nI K.2.1), .int (nI K.2.2.1), .int (nI K.2.2.2.1), .int (nI K.2.2.2.2.1), .int K.2.2.2.2.2]) ∧ M'.1 b = some (ob 1 [.ref da]) ∧ M'.1 da = some (ar .byte n f) ∧ M.2.1 ≤ M'.2.1) ∨ (∃ (e9 : Nat × Nat), (s_chk f n N E mj fa ic B1 B2 na pa = some e9) ∧ v = some (.int 0) ∧ M'.1 vd = some (ob 10 [.int (nI e9.1), .int (nI e9.2)]) ∧ M'.1 og = some (ob 11 [.ref ga, .int gn, .ref gf, gk, .int gw]) ∧ M.2.1 ≤ M'.2.1)) := by
  refine pt_in (b := mb_11 g) rfl (fun kf => ?_)
  show pl (mT g) kf (mb_11 g).2 (0, [(0, .ref c), (1, .ref vd)], [], M) _
  obtain ⟨z0, tp0⟩ : ∃ z0, M.2.1 = z0 := ⟨_, rfl⟩
  obtain ⟨hL, H, m, qq, F, cc, hP, hT, hBd, hb, hVF, hD⟩ := hW
  have h_q := hP.1
  have h_qq_1 := hP.2.1 1 (by decide) (by decide)
  have h_qq_2 := hP.2.1 2 (by decide) (by decide)
  have h_qq_3 := hP.2.1 3 (by decide) (by decide)
  have h_qq_4 := hP.2.1 4 (by decide) (by decide)
  have h_qq_5 := hP.2.1 5 (by decide) (by decide)
  have h_qq_6 := hP.2.2
  have l_qq_1 := hBd.2 1 (by decide) (by decide)
  have l_qq_2 := hBd.2 2 (by decide) (by decide)
  have l_qq_3 := hBd.2 3 (by decide) (by decide)
  have l_qq_4 := hBd.2 4 (by decide) (by decide)
  have l_qq_5 := hBd.2 5 (by decide) (by decide)
  have l_qq_6 := hBd.2 6 (by decide) (by decide)
  have l_fr := hM1.1
  have l_mr := hM2.1
  refine ps_st (S' := (1, [(0, .ref c), (1, .ref vd)], [.ref c], M)) rfl rfl rfl ?_
  refine ps_get (S' := (4, [(0, .ref c), (1, .ref vd)], [.ref q], M)) rfl h_c rfl rfl ?_
  refine pl_call (a := [.ref q]) (rest := []) rfl rfl rfl (dk_describeTexts (f := f) (n := n) (N := N) (H := H) (m := m) (q := q) (E := E) (qq := qq) (F := F) (cc := cc) h_q h_qq_1 h_qq_2 h_qq_3 h_qq_4 h_qq_5 h_qq_6 (by omega) (hVF) (hD)) (fun v1 M2 q3 => ?_)
  obtain ⟨G54, q4_s, rfl, h5, f6⟩ := q3
  have h8 := (f6.1 c (nin1 (ob_ar h_c h_qq_5))).trans h_c
  have h9 := (f6.1 b (nin1 (ob_ar h_b h_qq_5))).trans h_b
  have h10 := (f6.1 da (nin1 (ar_ne h_da h_qq_5 (by decide)))).trans h_da
  have h11 := (f6.1 vd (nin1 (ob_ar h_vd h_qq_5))).trans h_vd
  have h12 := (f6.1 og (nin1 (ob_ar h_og h_qq_5))).trans h_og
  have h13 := (f6.1 q (nin1 (ob_ar h_q h_qq_5))).trans h_q
  have h14 := (f6.1 (qq 1) (nin1 (hD 1 (by decide) (by decide)))).trans h_qq_1
  have h15 := (f6.1 (qq 2) (nin1 (hD 2 (by decide) (by decide)))).trans h_qq_2
  have h16 := (f6.1 (qq 3) (nin1 (hD 3 (by decide) (by decide)))).trans h_qq_3
  have h17 := (f6.1 (qq 4) (nin1 (hD 4 (by decide) (by decide)))).trans h_qq_4
  have h18 := (f6.1 (qq 6) (nin1 (ar_ne h_qq_6 h_qq_5 (by decide)))).trans h_qq_6
  have tp20 : M2.2.1 = z0 := by rw [f6.2]; exact tp0
  show pl _ _ _ (7, [(0, .ref c), (1, .ref vd)], [], M2) _
  have hV21 := hM1.keepX f6.gm h_qq_5 (by decide)
  have hV22 := hM2.keepX f6.gm h_qq_5 (by decide)
  have hV23 := hL.keepX f6.gm h_qq_5
  have hV : PV g f n N E q M2 := PV_of hV23 (PL5 h13 h14 h15 h16 h17 h5 h18) hT hBd f6.2 hb hVF q4_s
  clear h_c h_b h_da h_vd h_og h_q h_qq_1 h_qq_2 h_qq_3 h_qq_4 h_qq_5 h_qq_6 hM1 hM2 hL f6
  refine ps_newz rfl tp20 (fun M24 h25 f26 tp27 => ?_)
  have h28 := (f26 c (show c ≠ z0 by omega)).trans h8
  have h29 := (f26 b (show b ≠ z0 by omega)).trans h9
  have h30 := (f26 da (show da ≠ z0 by omega)).trans h10
  have h31 := (f26 vd (show vd ≠ z0 by omega)).trans h11
  have h32 := (f26 og (show og ≠ z0 by omega)).trans h12
  have hV33 := hV.new tp20 f26 tp27
  have hV34 := hV21.new tp20 f26 tp27
  have hV35 := hV22.new tp20 f26 tp27
  clear h8 h9 h10 h11 h12 hV hV21 hV22 f26
  show pl _ _ _ (10, [(0, .ref c), (1, .ref vd)], [.ref z0], M24) _
  refine ps_st (S' := (11, [(0, .ref c), (1, .ref vd)], [.ref z0, .ref z0], M24)) rfl rfl rfl ?_
  refine ps_st (S' := (12, [(0, .ref c), (1, .ref vd)], [.ref c, .ref z0, .ref z0], M24)) rfl rfl rfl ?_
  refine ps_st (S' := (13, [(0, .ref c), (1, .ref vd)], [.ref vd, .ref c, .ref z0, .ref z0], M24)) rfl rfl rfl ?_
  refine pl_call (a := [.ref z0, .ref c, .ref vd]) (rest := [.ref z0]) rfl rfl rfl (dk_poolCheck0 (q := q) (c := c) (b := b) (fr := fr) (mr := mr) (fa := fa) (ic := ic) (mj := mj) (na := na) (pa := pa) (vd := vd) (o8 := z0) (mi := mi) (k1 := k1) (k2 := 0) (k3 := 0) (k4 := 0) (k5 := 0) (k6 := 0) (k7 := (-1)) h25 h28) (fun v37 M38 q39 => ?_)
  obtain ⟨rfl, h40, f41⟩ := q39
  have h43 := (f41.1 c (nin1 (show c ≠ z0 by omega))).trans h28
  have h44 := (f41.1 b (nin1 (show b ≠ z0 by omega))).trans h29
  have h45 := (f41.1 da (nin1 (show da ≠ z0 by omega))).trans h30
  have h46 := (f41.1 vd (nin1 (show vd ≠ z0 by omega))).trans h31
  have h47 := (f41.1 og (nin1 (show og ≠ z0 by omega))).trans h32
  have tp49 : M38.2.1 = z0 + 1 := by rw [f41.2]; exact tp27
  have hV50 := hV33.keep f41.gm (n7c h25 (by decide) (n7nil))
  have hV51 := hV34.keep f41.gm (n6o h25 (by decide) (n6on))
  have hV52 := hV35.keep f41.gm (n6o h25 (by decide) (n6on))
  show pl _ _ _ (16, [(0, .ref c), (1, .ref vd)], [.ref z0], M38) _
  clear h28 h29 h30 h31 h32 h25 hV33 hV34 hV35 f41
  refine ps_st (S' := (17, [(2, .ref z0), (0, .ref c), (1, .ref vd)], [], M38)) rfl rfl rfl ?_
  refine ps_newz rfl tp49 (fun M53 h54 f55 tp56 => ?_)
  have h57 := (f55 c (show c ≠ (z0 + 1) by omega)).trans h43
  have h58 := (f55 b (show b ≠ (z0 + 1) by omega)).trans h44
  have h59 := (f55 da (show da ≠ (z0 + 1) by omega)).trans h45
  have h60 := (f55 vd (show vd ≠ (z0 + 1) by omega)).trans h46
  have h61 := (f55 og (show og ≠ (z0 + 1) by omega)).trans h47
  have h62 := (f55 z0 (show z0 ≠ (z0 + 1) by omega)).trans h40
  have hV63 := hV50.new tp49 f55 tp56
  have hV64 := hV51.new tp49 f55 tp56
  have hV65 := hV52.new tp49 f55 tp56
  clear h43 h44 h45 h46 h47 h40 hV50 hV51 hV52 f55
  show pl _ _ _ (20, [(2, .ref z0), (0, .ref c), (1, .ref vd)], [.ref (z0 + 1)], M53) _
  refine ps_st (S' := (21, [(2, .ref z0), (0, .ref c), (1, .ref vd)], [.ref (z0 + 1), .ref (z0 + 1)], M53)) rfl rfl rfl ?_
  refine ps_st (S' := (22, [(2, .ref z0), (0, .ref c), (1, .ref vd)], [.ref c, .ref (z0 + 1), .ref (z0 + 1)], M53)) rfl rfl rfl ?_
  refine ps_st (S' := (23, [(2, .ref z0), (0, .ref c), (1, .ref vd)], [.ref vd, .ref c, .ref (z0 + 1), .ref (z0 + 1)], M53)) rfl rfl rfl ?_
  refine pl_call (a := [.ref (z0 + 1), .ref c, .ref vd]) (rest := [.ref (z0 + 1)]) rfl rfl rfl (dk_attrCheck0 (q := q) (c := c) (b := b) (fr := fr) (mr := mr) (fa := fa) (ic := ic) (mj := mj) (na := na) (pa := pa) (vd := vd) (o0 := (z0 + 1)) (mi := mi) (k1 := k1) (k2 := 0) (k3 := 0) (k4 := 0) (k5 := 0) (k6 := 0) (k7 := (-1)) h54 h57) (fun v67 M68 q69 => ?_)
  obtain ⟨rfl, h70, f71⟩ := q69
  have h73 := (f71.1 c (nin1 (show c ≠ (z0 + 1) by omega))).trans h57
  have h74 := (f71.1 b (nin1 (show b ≠ (z0 + 1) by omega))).trans h58
  have h75 := (f71.1 da (nin1 (show da ≠ (z0 + 1) by omega))).trans h59
  have h76 := (f71.1 vd (nin1 (show vd ≠ (z0 + 1) by omega))).trans h60
  have h77 := (f71.1 og (nin1 (show og ≠ (z0 + 1) by omega))).trans h61
  have h78 := (f71.1 z0 (nin1 (show z0 ≠ (z0 + 1) by omega))).trans h62
  have tp80 : M68.2.1 = z0 + 2 := by rw [f71.2]; exact tp56
  have hV81 := hV63.keep f71.gm (n7c h54 (by decide) (n7nil))
  have hV82 := hV64.keep f71.gm (n6o h54 (by decide) (n6on))
  have hV83 := hV65.keep f71.gm (n6o h54 (by decide) (n6on))
  show pl _ _ _ (26, [(2, .ref z0), (0, .ref c), (1, .ref vd)], [.ref (z0 + 1)], M68) _
  clear h57 h58 h59 h60 h61 h62 h54 hV63 hV64 hV65 f71
  refine ps_st (S' := (27, [(3, .ref (z0 + 1)), (2, .ref z0), (0, .ref c), (1, .ref vd)], [], M68)) rfl rfl rfl ?_
  refine ps_newz rfl tp80 (fun M84 h85 f86 tp87 => ?_)
  have h88 := (f86 c (show c ≠ (z0 + 2) by omega)).trans h73
  have h89 := (f86 b (show b ≠ (z0 + 2) by omega)).trans h74
  have h90 := (f86 da (show da ≠ (z0 + 2) by omega)).trans h75
  have h91 := (f86 vd (show vd ≠ (z0 + 2) by omega)).trans h76
  have h92 := (f86 og (show og ≠ (z0 + 2) by omega)).trans h77
  have h93 := (f86 z0 (show z0 ≠ (z0 + 2) by omega)).trans h78
  have h94 := (f86 (z0 + 1) (show (z0 + 1) ≠ (z0 + 2) by omega)).trans h70
  have hV95 := hV81.new tp80 f86 tp87
  have hV96 := hV82.new tp80 f86 tp87
  have hV97 := hV83.new tp80 f86 tp87
  clear h73 h74 h75 h76 h77 h78 h70 hV81 hV82 hV83 f86
  show pl _ _ _ (30, [(3, .ref (z0 + 1)), (2, .ref z0), (0, .ref c), (1, .ref vd)], [.ref (z0 + 2)], M84) _
  refine ps_st (S' := (31, [(3, .ref (z0 + 1)), (2, .ref z0), (0, .ref c), (1, .ref vd)], [.ref (z0 + 2), .ref (z0 + 2)], M84)) rfl rfl rfl ?_
  refine ps_st (S' := (32, [(3, .ref (z0 + 1)), (2, .ref z0), (0, .ref c), (1, .ref vd)], [.ref c, .ref (z0 + 2), .ref (z0 + 2)], M84)) rfl rfl rfl ?_
  refine ps_st (S' := (33, [(3, .ref (z0 + 1)), (2, .ref z0), (0, .ref c), (1, .ref vd)], [.ref vd, .ref c, .ref (z0 + 2), .ref (z0 + 2)], M84)) rfl rfl rfl ?_
  refine ps_st (S' := (34, [(3, .ref (z0 + 1)), (2, .ref z0), (0, .ref c), (1, .ref vd)], [.ref (z0 + 1), .ref vd, .ref c, .ref (z0 + 2), .ref (z0 + 2)], M84)) rfl rfl rfl ?_
  refine pl_call (a := [.ref (z0 + 2), .ref c, .ref vd, .ref (z0 + 1)]) (rest := [.ref (z0 + 2)]) rfl rfl rfl (dk_classCheck0 (q := q) (c := c) (b := b) (fr := fr) (mr := mr) (fa := fa) (ic := ic) (mj := mj) (na := na) (pa := pa) (vd := vd) (o2 := (z0 + 2)) (ac := (z0 + 1)) (mi := mi) (k1 := k1) (k2 := 0) (k3 := 0) (k4 := 0) (k5 := 0) (k6 := 0) (k7 := (-1)) h85 h88) (fun v99 M100 q101 => ?_)
  obtain ⟨rfl, h102, f103⟩ := q101
  have h105 := (f103.1 c (nin1 (show c ≠ (z0 + 2) by omega))).trans h88
  have h106 := (f103.1 b (nin1 (show b ≠ (z0 + 2) by omega))).trans h89
  have h107 := (f103.1 da (nin1 (show da ≠ (z0 + 2) by omega))).trans h90
  have h108 := (f103.1 vd (nin1 (show vd ≠ (z0 + 2) by omega))).trans h91
  have h109 := (f103.1 og (nin1 (show og ≠ (z0 + 2) by omega))).trans h92
  have h110 := (f103.1 z0 (nin1 (show z0 ≠ (z0 + 2) by omega))).trans h93
  have h111 := (f103.1 (z0 + 1) (nin1 (show (z0 + 1) ≠ (z0 + 2) by omega))).trans h94
  have tp113 : M100.2.1 = z0 + 3 := by rw [f103.2]; exact tp87
  have hV114 := hV95.keep f103.gm (n7c h85 (by decide) (n7nil))
  have hV115 := hV96.keep f103.gm (n6o h85 (by decide) (n6on))
  have hV116 := hV97.keep f103.gm (n6o h85 (by decide) (n6on))
  show pl _ _ _ (37, [(3, .ref (z0 + 1)), (2, .ref z0), (0, .ref c), (1, .ref vd)], [.ref (z0 + 2)], M100) _
  clear h88 h89 h90 h91 h92 h93 h94 h85 hV95 hV96 hV97 f103
  refine ps_st (S' := (39, [(4, .ref (z0 + 2)), (3, .ref (z0 + 1)), (2, .ref z0), (0, .ref c), (1, .ref vd)], [], M100)) rfl rfl rfl ?_
  refine ps_st (S' := (40, [(4, .ref (z0 + 2)), (3, .ref (z0 + 1)), (2, .ref z0), (0, .ref c), (1, .ref vd)], [.ref z0], M100)) rfl rfl rfl ?_
  refine pl_call (a := [.ref z0]) (rest := []) rfl rfl rfl (dk_entriesHold (f := f) (n := n) (N := N) (q := q) (E := E) (o := z0) (vd := vd) (mj := mj) (ru := ru) (wa := wa) h110 h108 (hmj) (hV114)) (fun v117 M118 q119 => ?_)
  rcases q119 with q119 | q119
  · skip
    obtain ⟨q40_s, rfl, h120, f121⟩ := q119
    have h123 := (f121.1 c (nin1 (ob_ne h105 h108 (by decide)))).trans h105
    have h124 := (f121.1 b (nin1 (ob_ne h106 h108 (by decide)))).trans h106
    have h125 := (f121.1 da (nin1 (Ne.symm (ob_ar h108 h107)))).trans h107
    have h126 := (f121.1 og (nin1 (ob_ne h109 h108 (by decide)))).trans h109
    have h127 := (f121.1 z0 (nin1 (show z0 ≠ vd by omega))).trans h110
    have h128 := (f121.1 (z0 + 1) (nin1 (show (z0 + 1) ≠ vd by omega))).trans h111
    have h129 := (f121.1 (z0 + 2) (nin1 (show (z0 + 2) ≠ vd by omega))).trans h102
    have tp131 : M118.2.1 = z0 + 3 := by rw [f121.2]; exact tp113
    have hV132 := hV114.keep f121.gm (n7c h108 (by decide) (n7nil))
    have hV133 := hV115.keep f121.gm (n6o h108 (by decide) (n6on))
    have hV134 := hV116.keep f121.gm (n6o h108 (by decide) (n6on))
    show pl _ _ _ (43, [(4, .ref (z0 + 2)), (3, .ref (z0 + 1)), (2, .ref z0), (0, .ref c), (1, .ref vd)], [.int 1], M118) _
    clear h105 h106 h107 h108 h109 h110 h111 h102 hV114 hV115 hV116 f121
    refine ps_if (S1 := (100, [], [], M118)) (S2 := (46, [(4, .ref (z0 + 2)), (3, .ref (z0 + 1)), (2, .ref z0), (0, .ref c), (1, .ref vd)], [], M118)) rfl rfl rfl (fun c_43 => ?_) (fun c_43 => ?_)
    · exact absurd (of_decide_eq_true c_43) (by decide)
    refine ps_st (S' := (48, [(4, .ref (z0 + 2)), (3, .ref (z0 + 1)), (2, .ref z0), (0, .ref c), (1, .ref vd)], [.ref (z0 + 2)], M118)) rfl rfl rfl ?_
    refine pl_call (a := [.ref (z0 + 2)]) (rest := []) rfl rfl rfl (dk_headHolds (f := f) (n := n) (N := N) (q := q) (E := E) (o := (z0 + 2)) (c := c) (b := b) (da := da) (vd := vd) (ac := (z0 + 1)) (fr := fr) (mr := mr) (fa := fa) (ic := ic) (mj := mj) (na := na) (pa := pa) (mi := mi) (ru := ru) (wa := wa) (k1 := k1) (k2 := 0) (k3 := 0) (k4 := 0) (k5 := 0) (k6 := 0) (k7 := (-1)) h129 h123 h124 h125 h120 (hn) (hmj) (hfa) (hV132)) (fun v135 M136 q137 => ?_)
    rcases q137 with q137 | q137
    · skip
      obtain ⟨q48_s, rfl, h138, f139⟩ := q137
      have h141 := (f139.1 c (nin1 (ob_ne h123 h120 (by decide)))).trans h123
      have h142 := (f139.1 b (nin1 (ob_ne h124 h120 (by decide)))).trans h124
      have h143 := (f139.1 da (nin1 (Ne.symm (ob_ar h120 h125)))).trans h125
      have h144 := (f139.1 og (nin1 (ob_ne h126 h120 (by decide)))).trans h126
      have h145 := (f139.1 z0 (nin1 (show z0 ≠ vd by omega))).trans h127
      have h146 := (f139.1 (z0 + 1) (nin1 (show (z0 + 1) ≠ vd by omega))).trans h128
      have h147 := (f139.1 (z0 + 2) (nin1 (show (z0 + 2) ≠ vd by omega))).trans h129
      have tp149 : M136.2.1 = z0 + 3 := by rw [f139.2]; exact tp131
      have hV150 := hV132.keep f139.gm (n7c h120 (by decide) (n7nil))
      have hV151 := hV133.keep f139.gm (n6o h120 (by decide) (n6on))
      have hV152 := hV134.keep f139.gm (n6o h120 (by decide) (n6on))
      show pl _ _ _ (51, [(4, .ref (z0 + 2)), (3, .ref (z0 + 1)), (2, .ref z0), (0, .ref c), (1, .ref vd)], [.int 1], M136) _
      clear h123 h124 h125 h120 h126 h127 h128 h129 hV132 hV133 hV134 f139
      refine ps_if (S1 := (100, [], [], M136)) (S2 := (54, [(4, .ref (z0 + 2)), (3, .ref (z0 + 1)), (2, .ref z0), (0, .ref c), (1, .ref vd)], [], M136)) rfl rfl rfl (fun c_51 => ?_) (fun c_51 => ?_)
      · exact absurd (of_decide_eq_true c_51) (by decide)
      refine ps_st (S' := (56, [(4, .ref (z0 + 2)), (3, .ref (z0 + 1)), (2, .ref z0), (0, .ref c), (1, .ref vd)], [.ref (z0 + 2)], M136)) rfl rfl rfl ?_
      refine pl_call (a := [.ref (z0 + 2)]) (rest := []) rfl rfl rfl (dk_interfacesHold (f := f) (n := n) (N := N) (q := q) (E := E) (o := (z0 + 2)) (c := c) (b := b) (da := da) (vd := vd) (ac := (z0 + 1)) (fr := fr) (mr := mr) (fa := fa) (ic := ic) (mj := mj) (na := na) (pa := pa) (mi := mi) (ru := ru) (wa := wa) (k1 := k1) (k2 := 0) (k3 := 0) (k4 := 0) (k5 := 0) (k6 := 0) (k7 := (-1)) h147 h141 h142 h143 h138 (hn) (hmj) (hfa) (hic) (hV150)) (fun v153 M154 q155 => ?_)
      rcases q155 with q155 | q155
      · skip
        obtain ⟨q56_s, rfl, h156, f157⟩ := q155
        have h159 := (f157.1 c (nin1 (ob_ne h141 h138 (by decide)))).trans h141
        have h160 := (f157.1 b (nin1 (ob_ne h142 h138 (by decide)))).trans h142
        have h161 := (f157.1 da (nin1 (Ne.symm (ob_ar h138 h143)))).trans h143
        have h162 := (f157.1 og (nin1 (ob_ne h144 h138 (by decide)))).trans h144
        have h163 := (f157.1 z0 (nin1 (show z0 ≠ vd by omega))).trans h145
        have h164 := (f157.1 (z0 + 1) (nin1 (show (z0 + 1) ≠ vd by omega))).trans h146
        have h165 := (f157.1 (z0 + 2) (nin1 (show (z0 + 2) ≠ vd by omega))).trans h147
        have tp167 : M154.2.1 = z0 + 3 := by rw [f157.2]; exact tp149
        have hV168 := hV150.keep f157.gm (n7c h138 (by decide) (n7nil))
        have hV169 := hV151.keep f157.gm (n6o h138 (by decide) (n6on))
        have hV170 := hV152.keep f157.gm (n6o h138 (by decide) (n6on))
        show pl _ _ _ (59, [(4, .ref (z0 + 2)), (3, .ref (z0 + 1)), (2, .ref z0), (0, .ref c), (1, .ref vd)], [.int 1], M154) _
        clear h141 h142 h143 h138 h144 h145 h146 h147 hV150 hV151 hV152 f157
        refine ps_if (S1 := (100, [], [], M154)) (S2 := (62, [(4, .ref (z0 + 2)), (3, .ref (z0 + 1)), (2, .ref z0), (0, .ref c), (1, .ref vd)], [], M154)) rfl rfl rfl (fun c_59 => ?_) (fun c_59 => ?_)
        · exact absurd (of_decide_eq_true c_59) (by decide)
        exact dk_holds2_b (z9 := M.2.1) (e0 := e0) h163 h164 h165 h159 h160 h161 h156 h162 hn hmj hfa hic hic2 hna hat hB91 hB92 hB1 hB2 hDs (by omega) (by omega) (by omega) (by omega) (by omega) (by omega) (by omega) (by omega) (by omega) (by omega) q40_s q48_s q56_s hV168 hV169 hV170 kf
      · skip
        obtain ⟨e171, q56_s, rfl, h172, f173⟩ := q155
        have h175 := (f173.1 c (nin1 (ob_ne h141 h138 (by decide)))).trans h141
        have h176 := (f173.1 b (nin1 (ob_ne h142 h138 (by decide)))).trans h142
        have h177 := (f173.1 da (nin1 (Ne.symm (ob_ar h138 h143)))).trans h143
        have h178 := (f173.1 og (nin1 (ob_ne h144 h138 (by decide)))).trans h144
        have h179 := (f173.1 z0 (nin1 (show z0 ≠ vd by omega))).trans h145
        have h180 := (f173.1 (z0 + 1) (nin1 (show (z0 + 1) ≠ vd by omega))).trans h146
        have h181 := (f173.1 (z0 + 2) (nin1 (show (z0 + 2) ≠ vd by omega))).trans h147
        have tp183 : M154.2.1 = z0 + 3 := by rw [f173.2]; exact tp149
        have hV184 := hV150.keep f173.gm (n7c h138 (by decide) (n7nil))
        have hV185 := hV151.keep f173.gm (n6o h138 (by decide) (n6on))
        have hV186 := hV152.keep f173.gm (n6o h138 (by decide) (n6on))
        show pl _ _ _ (59, [(4, .ref (z0 + 2)), (3, .ref (z0 + 1)), (2, .ref z0), (0, .ref c), (1, .ref vd)], [.int 0], M154) _
        clear h141 h142 h143 h138 h144 h145 h146 h147 hV150 hV151 hV152 f173
        refine ps_if (S1 := (100, [], [], M154)) (S2 := (62, [(4, .ref (z0 + 2)), (3, .ref (z0 + 1)), (2, .ref z0), (0, .ref c), (1, .ref vd)], [], M154)) rfl rfl rfl (fun c_59 => ?_) (fun c_59 => ?_)
        rotate_left
        · exact absurd (by decide) (of_decide_eq_false c_59)
        refine ps_st (S' := (101, [], [.int 0], M154)) rfl rfl rfl ?_
        exact ps_ret rfl rfl (Or.inr ⟨e171, by
            unfold s_chk
            rw [q40_s]
            try dsimp only
            rw [q48_s]
            try dsimp only
            rw [q56_s]
            try dsimp only
            first | done | rfl, rfl, h172, h178, by omega⟩)
    · skip
      obtain ⟨e187, q48_s, rfl, h188, f189⟩ := q137
      have h191 := (f189.1 c (nin1 (ob_ne h123 h120 (by decide)))).trans h123
      have h192 := (f189.1 b (nin1 (ob_ne h124 h120 (by decide)))).trans h124
      have h193 := (f189.1 da (nin1 (Ne.symm (ob_ar h120 h125)))).trans h125
      have h194 := (f189.1 og (nin1 (ob_ne h126 h120 (by decide)))).trans h126
      have h195 := (f189.1 z0 (nin1 (show z0 ≠ vd by omega))).trans h127
      have h196 := (f189.1 (z0 + 1) (nin1 (show (z0 + 1) ≠ vd by omega))).trans h128
      have h197 := (f189.1 (z0 + 2) (nin1 (show (z0 + 2) ≠ vd by omega))).trans h129
      have tp199 : M136.2.1 = z0 + 3 := by rw [f189.2]; exact tp131
      have hV200 := hV132.keep f189.gm (n7c h120 (by decide) (n7nil))
      have hV201 := hV133.keep f189.gm (n6o h120 (by decide) (n6on))
      have hV202 := hV134.keep f189.gm (n6o h120 (by decide) (n6on))
      show pl _ _ _ (51, [(4, .ref (z0 + 2)), (3, .ref (z0 + 1)), (2, .ref z0), (0, .ref c), (1, .ref vd)], [.int 0], M136) _
      clear h123 h124 h125 h120 h126 h127 h128 h129 hV132 hV133 hV134 f189
      refine ps_if (S1 := (100, [], [], M136)) (S2 := (54, [(4, .ref (z0 + 2)), (3, .ref (z0 + 1)), (2, .ref z0), (0, .ref c), (1, .ref vd)], [], M136)) rfl rfl rfl (fun c_51 => ?_) (fun c_51 => ?_)
      rotate_left
      · exact absurd (by decide) (of_decide_eq_false c_51)
      refine ps_st (S' := (101, [], [.int 0], M136)) rfl rfl rfl ?_
      exact ps_ret rfl rfl (Or.inr ⟨e187, by
          unfold s_chk
          rw [q40_s]
          try dsimp only
          rw [q48_s]
          try dsimp only
          first | done | rfl, rfl, h188, h194, by omega⟩)
  · skip
    obtain ⟨e203, q40_s, rfl, h204, f205⟩ := q119
    have h207 := (f205.1 c (nin1 (ob_ne h105 h108 (by decide)))).trans h105
    have h208 := (f205.1 b (nin1 (ob_ne h106 h108 (by decide)))).trans h106
    have h209 := (f205.1 da (nin1 (Ne.symm (ob_ar h108 h107)))).trans h107
    have h210 := (f205.1 og (nin1 (ob_ne h109 h108 (by decide)))).trans h109
    have h211 := (f205.1 z0 (nin1 (show z0 ≠ vd by omega))).trans h110
    have h212 := (f205.1 (z0 + 1) (nin1 (show (z0 + 1) ≠ vd by omega))).trans h111
    have h213 := (f205.1 (z0 + 2) (nin1 (show (z0 + 2) ≠ vd by omega))).trans h102
    have tp215 : M118.2.1 = z0 + 3 := by rw [f205.2]; exact tp113
    have hV216 := hV114.keep f205.gm (n7c h108 (by decide) (n7nil))
    have hV217 := hV115.keep f205.gm (n6o h108 (by decide) (n6on))
    have hV218 := hV116.keep f205.gm (n6o h108 (by decide) (n6on))
    show pl _ _ _ (43, [(4, .ref (z0 + 2)), (3, .ref (z0 + 1)), (2, .ref z0), (0, .ref c), (1, .ref vd)], [.int 0], M118) _
    clear h105 h106 h107 h108 h109 h110 h111 h102 hV114 hV115 hV116 f205
    refine ps_if (S1 := (100, [], [], M118)) (S2 := (46, [(4, .ref (z0 + 2)), (3, .ref (z0 + 1)), (2, .ref z0), (0, .ref c), (1, .ref vd)], [], M118)) rfl rfl rfl (fun c_43 => ?_) (fun c_43 => ?_)
    rotate_left
    · exact absurd (by decide) (of_decide_eq_false c_43)
    refine ps_st (S' := (101, [], [.int 0], M118)) rfl rfl rfl ?_
    exact ps_ret rfl rfl (Or.inr ⟨e203, by
        unfold s_chk
        rw [q40_s]
        try dsimp only
        first | done | rfl, rfl, h204, h210, by omega⟩)
set_option maxHeartbeats 1000000 in
theorem dk_read2 {g : xe_G} {M : mi_H} {f : Nat → Int32} {n o ca da : Nat} {cn wp : Int32} {kv : Value} (h_o : M.1 o = some (ob 11 [.ref ca, .int cn, .ref da, kv, .int wp])) (h_da : M.1 da = some (ar .byte n f)) (hn : n ≤ 65540) (l_o : o < M.2.1) (l_da : da < M.2.1) (hL : LT g M) : pt (mT g) 18 [.ref o] M (fun v M' => (∃ (c2 : Nat), (s_read f n = none) ∧ (KC g f n c2 da M') ∧ (M.2.1 ≤ c2) ∧ v = some (.int 0) ∧ M'.1 o = some (ob 11 [.ref ca, .int cn, .ref g.1, .ref c2, .int (-1)]) ∧ M.2.1 ≤ M'.2.1) ∨ (∃ (e9 : Nat × Nat), (s_read f n = some e9) ∧ v = some (.int (nI e9.1)) ∧ M'.1 o = some (ob 11 [.ref ca, .int cn, .ref g.1, kv, .int (nI e9.2)]) ∧ M.2.1 ≤ M'.2.1)) := by
  refine pt_in (b := mb_18 g) rfl (fun kf => ?_)
  show pl (mT g) kf (mb_18 g).2 (0, [(0, .ref o)], [], M) _
  obtain ⟨z0, tp0⟩ : ∃ z0, M.2.1 = z0 := ⟨_, rfl⟩
  refine ps_newz rfl tp0 (fun M1 h2 f3 tp4 => ?_)
  have h5 := (f3 o (show o ≠ z0 by omega)).trans h_o
  have h6 := (f3 da (show da ≠ z0 by omega)).trans h_da
  have hV7 := hL.new tp0 f3 tp4
  clear h_o h_da hL f3
  show pl _ _ _ (3, [(0, .ref o)], [.ref z0], M1) _
  refine ps_st (S' := (4, [(0, .ref o)], [.ref z0, .ref z0], M1)) rfl rfl rfl ?_
  refine ps_newz rfl tp4 (fun M9 h10 f11 tp12 => ?_)
  have h13 := (f11 o (show o ≠ (z0 + 1) by omega)).trans h5
  have h14 := (f11 da (show da ≠ (z0 + 1) by omega)).trans h6
  have h15 := (f11 z0 (show z0 ≠ (z0 + 1) by omega)).trans h2
  have hV16 := hV7.new tp4 f11 tp12
  clear h5 h6 h2 hV7 f11
  show pl _ _ _ (7, [(0, .ref o)], [.ref (z0 + 1), .ref z0, .ref z0], M9) _
  refine ps_st (S' := (8, [(0, .ref o)], [.ref (z0 + 1), .ref (z0 + 1), .ref z0, .ref z0], M9)) rfl rfl rfl ?_
  refine ps_st (S' := (9, [(0, .ref o)], [.ref o, .ref (z0 + 1), .ref (z0 + 1), .ref z0, .ref z0], M9)) rfl rfl rfl ?_
  refine ps_get (S' := (12, [(0, .ref o)], [.ref da, .ref (z0 + 1), .ref (z0 + 1), .ref z0, .ref z0], M9)) rfl h13 rfl rfl ?_
  refine pl_call (a := [.ref (z0 + 1), .ref da]) (rest := [.ref (z0 + 1), .ref z0, .ref z0]) rfl rfl rfl (dk_bytes0 (o1 := (z0 + 1)) (da := da) h10) (fun v18 M19 q20 => ?_)
  obtain ⟨rfl, h21, f22⟩ := q20
  have h24 := (f22.1 o (nin1 (show o ≠ (z0 + 1) by omega))).trans h13
  have h25 := (f22.1 da (nin1 (show da ≠ (z0 + 1) by omega))).trans h14
  have h26 := (f22.1 z0 (nin1 (show z0 ≠ (z0 + 1) by omega))).trans h15
  have tp28 : M19.2.1 = z0 + 2 := by rw [f22.2]; exact tp12
  have hV29 := hV16.keep f22.gm (n7c h10 (by decide) (n7nil))
  show pl _ _ _ (15, [(0, .ref o)], [.ref (z0 + 1), .ref z0, .ref z0], M19) _
  clear h13 h14 h15 h10 hV16 f22
  refine pl_call (a := [.ref z0, .ref (z0 + 1)]) (rest := [.ref z0]) rfl rfl rfl (dk_classFile0 (o3 := z0) (b := (z0 + 1)) h26 (by omega)) (fun v30 M31 q32 => ?_)
  obtain ⟨u133, u634, u735, rfl, h36, f37, tp38⟩ := q32
  have h39 := (f37.1 o (by omega) (nin1 (show o ≠ z0 by omega))).trans h24
  have h40 := (f37.1 da (by omega) (nin1 (show da ≠ z0 by omega))).trans h25
  have h41 := (f37.1 (z0 + 1) (by omega) (nin1 (show (z0 + 1) ≠ z0 by omega))).trans h21
  obtain ⟨t43, tp44⟩ : ∃ t9, M31.2.1 = t9 := ⟨_, rfl⟩
  rw [tp28, tp44] at tp38
  have hV45 := hV29.keep f37 (n7c h26 (by decide) (n7nil))
  show pl _ _ _ (18, [(0, .ref o)], [.ref z0], M31) _
  clear h24 h25 h26 h21 hV29 f37
  refine ps_st (S' := (19, [(1, .ref z0), (0, .ref o)], [], M31)) rfl rfl rfl ?_
  refine ps_newz rfl tp44 (fun M46 h47 f48 tp49 => ?_)
  have h50 := (f48 o (show o ≠ t43 by omega)).trans h39
  have h51 := (f48 da (show da ≠ t43 by omega)).trans h40
  have h52 := (f48 z0 (show z0 ≠ t43 by omega)).trans h36
  have h53 := (f48 (z0 + 1) (show (z0 + 1) ≠ t43 by omega)).trans h41
  have hV54 := hV45.new tp44 f48 tp49
  clear h39 h40 h36 h41 hV45 f48
  show pl _ _ _ (22, [(1, .ref z0), (0, .ref o)], [.ref t43], M46) _
  refine ps_st (S' := (23, [(1, .ref z0), (0, .ref o)], [.ref t43, .ref t43], M46)) rfl rfl rfl ?_
  refine pl_call (a := [.ref t43]) (rest := [.ref t43]) rfl rfl rfl (dk_verdict0 (o10 := t43) h47) (fun v56 M57 q58 => ?_)
  obtain ⟨rfl, h59, f60⟩ := q58
  have h62 := (f60.1 o (nin1 (show o ≠ t43 by omega))).trans h50
  have h63 := (f60.1 da (nin1 (show da ≠ t43 by omega))).trans h51
  have h64 := (f60.1 z0 (nin1 (show z0 ≠ t43 by omega))).trans h52
  have h65 := (f60.1 (z0 + 1) (nin1 (show (z0 + 1) ≠ t43 by omega))).trans h53
  have tp67 : M57.2.1 = t43 + 1 := by rw [f60.2]; exact tp49
  have hV68 := hV54.keep f60.gm (n7c h47 (by decide) (n7nil))
  show pl _ _ _ (26, [(1, .ref z0), (0, .ref o)], [.ref t43], M57) _
  clear h50 h51 h52 h53 h47 hV54 f60
  refine ps_st (S' := (27, [(2, .ref t43), (1, .ref z0), (0, .ref o)], [], M57)) rfl rfl rfl ?_
  refine ps_st (S' := (28, [(2, .ref t43), (1, .ref z0), (0, .ref o)], [.ref o], M57)) rfl rfl rfl ?_
  refine ps_st (S' := (31, [(2, .ref t43), (1, .ref z0), (0, .ref o)], [.ref g.1, .ref o], M57)) rfl rfl rfl ?_
  refine ps_put (l' := [.ref ca, .int cn, .ref g.1, kv, .int wp]) rfl h62 rfl rfl (fun M69 h70 f71 z72 => ?_)
  have h73 := (f71 da (Ne.symm (ob_ar h62 h63))).trans h63
  have h74 := (f71 z0 (show z0 ≠ o by omega)).trans h64
  have h75 := (f71 (z0 + 1) (show (z0 + 1) ≠ o by omega)).trans h65
  have h76 := (f71 t43 (show t43 ≠ o by omega)).trans h59
  have hV77 := hV68.put h62 (by decide) f71 z72
  have tp79 : M69.2.1 = t43 + 1 := by rw [z72]; exact tp67
  clear h62 h63 h64 h65 h59 hV68 f71
  show pl _ _ _ (34, [(2, .ref t43), (1, .ref z0), (0, .ref o)], [], M69) _
  refine ps_st (S' := (35, [(2, .ref t43), (1, .ref z0), (0, .ref o)], [.ref z0], M69)) rfl rfl rfl ?_
  refine ps_st (S' := (36, [(2, .ref t43), (1, .ref z0), (0, .ref o)], [.ref t43, .ref z0], M69)) rfl rfl rfl ?_
  refine pl_call (a := [.ref z0, .ref t43]) (rest := []) rfl rfl rfl (dk_isWhole (f := f) (n := n) (c := z0) (b := (z0 + 1)) (da := da) (vd := t43) (ru := 0) (wa := (-1)) (mi := 0) (ma := 0) (fa := 0) (ic := 0) (ac := 0) (aa := 0) (k1 := 0) (k2 := 0) (k3 := 0) (k4 := 0) (k5 := 0) (k6 := 0) (k7 := (-1)) (u1 := u133) (u6 := u634) (u7 := u735) (og := o) (ga := ca) (gf := g.1) (gn := cn) (gw := wp) (gk := kv) h74 h75 h73 h76 h70 (hn) (by omega) (by omega) (by omega) (by omega) (by omega) (hV77)) (fun v80 M81 q82 => ?_)
  rcases q82 with q82 | q82
  · skip
    obtain ⟨E83, q84, p185, pF86, pM87, pA88, m189, m290, G191, G292, q36_s, q36_b, q36_c, q36_f, q36_m, q36_a, q36_V, q36_M1, q36_M2, q36_D, rfl, h93, h94, h95, h96, h97, tp99⟩ := q82
    obtain ⟨t100, tp101⟩ : ∃ t9, M81.2.1 = t9 := ⟨_, rfl⟩
    rw [tp79, tp101] at tp99
    show pl _ _ _ (39, [(2, .ref t43), (1, .ref z0), (0, .ref o)], [.int 1], M81) _
    refine ps_if (S1 := (55, [(0, .ref o), (2, .ref t43)], [], M81)) (S2 := (42, [(2, .ref t43), (1, .ref z0), (0, .ref o)], [], M81)) rfl rfl rfl (fun c_39 => ?_) (fun c_39 => ?_)
    · exact absurd (of_decide_eq_true c_39) (by decide)
    refine ps_st (S' := (43, [(2, .ref t43), (1, .ref z0), (0, .ref o)], [.ref z0], M81)) rfl rfl rfl ?_
    refine ps_st (S' := (44, [(2, .ref t43), (1, .ref z0), (0, .ref o)], [.ref t43, .ref z0], M81)) rfl rfl rfl ?_
    have hb1 := mbs_of q36_f
    have hb2 := mbs_of q36_m
    have hc9 := s_class_in q36_c
    obtain ⟨ha8, ha9⟩ := s_atts_of q36_a
    have hu1 := by2_lt f pF86
    have hu2 := by2_lt f pM87
    refine pl_call (a := [.ref z0, .ref t43]) (rest := []) rfl rfl rfl (dk_holds2 (f := f) (n := n) (N := (by2 f 8)) (q := q84) (E := E83) (c := z0) (b := (z0 + 1)) (da := da) (vd := t43) (fr := m189) (mr := m290) (fa := p185) (ic := (by2 f (p185 + 6))) (mj := (by2 f 6)) (na := (by2 f pA88)) (pa := (pA88 + 2)) (e0 := n) (mi := (nI (by2 f 4))) (ru := 0) (wa := (-1)) (k1 := 0) (B1 := (mbs f n (by2 f pF86) (pF86 + 2))) (B2 := (mbs f n (by2 f pM87) (pM87 + 2))) (G1 := G191) (G2 := G292) (og := o) (ga := ca) (gf := g.1) (gn := cn) (gw := wp) (gk := kv) h93 h94 h95 h96 h97 (hn) (by2_lt _ _) (by omega) (by omega) (by2_lt _ _) (⟨by2_lt _ _, by omega⟩) (ha9) (by omega) (by omega) (hb1.2) (hb2.2) (q36_D) (by omega) (by omega) (by omega) (by omega) (by omega) (by omega) (q36_V) (q36_M1) (q36_M2)) (fun v102 M103 q104 => ?_)
    rcases q104 with q104 | q104
    · skip
      obtain ⟨bc105, K106, q44_s, q44_B, q44_U, q44_V, q44_M1, q44_M2, q44_D1, q44_D2, rfl, h107, h108, h109, h110, h111, tp113⟩ := q104
      obtain ⟨t114, tp115⟩ : ∃ t9, M103.2.1 = t9 := ⟨_, rfl⟩
      rw [tp101, tp115] at tp113
      show pl _ _ _ (47, [(2, .ref t43), (1, .ref z0), (0, .ref o)], [.int 1], M103) _
      refine ps_if (S1 := (55, [(0, .ref o), (2, .ref t43)], [], M103)) (S2 := (50, [(2, .ref t43), (1, .ref z0), (0, .ref o)], [], M103)) rfl rfl rfl (fun c_47 => ?_) (fun c_47 => ?_)
      · exact absurd (of_decide_eq_true c_47) (by decide)
      refine ps_st (S' := (51, [(2, .ref t43), (1, .ref z0), (0, .ref o)], [.ref o], M103)) rfl rfl rfl ?_
      refine ps_st (S' := (52, [(2, .ref t43), (1, .ref z0), (0, .ref o)], [.ref z0, .ref o], M103)) rfl rfl rfl ?_
      refine ps_put (l' := [.ref ca, .int cn, .ref g.1, .ref z0, .int wp]) rfl h108 rfl rfl (fun M116 h117 f118 z119 => ?_)
      have h120 := (f118 t43 (show t43 ≠ o by omega)).trans h107
      have h121 := (f118 z0 (show z0 ≠ o by omega)).trans h109
      have h122 := (f118 (z0 + 1) (show (z0 + 1) ≠ o by omega)).trans h110
      have h123 := (f118 da (Ne.symm (ob_ar h108 h111))).trans h111
      have hV124 := q44_V.put h108 (by decide) f118 z119
      have hV125 := q44_M1.put h108 (by decide) f118 z119
      have hV126 := q44_M2.put h108 (by decide) f118 z119
      have hV127 := q44_D1.put h108 (by decide) f118 z119
      have hV128 := q44_D2.put h108 (by decide) f118 z119
      have tp130 : M116.2.1 = t114 := by rw [z119]; exact tp115
      clear h107 h108 h109 h110 h111 q44_V q44_M1 q44_M2 q44_D1 q44_D2 f118
      show pl _ _ _ (55, [(0, .ref o), (2, .ref t43)], [], M116) _
      refine ps_st (S' := (56, [(0, .ref o), (2, .ref t43)], [.ref o], M116)) rfl rfl rfl ?_
      refine ps_st (S' := (57, [(0, .ref o), (2, .ref t43)], [.ref t43, .ref o], M116)) rfl rfl rfl ?_
      refine ps_get (S' := (60, [(0, .ref o), (2, .ref t43)], [.int (-1), .ref o], M116)) rfl h120 rfl rfl ?_
      refine ps_put (l' := [.ref ca, .int cn, .ref g.1, .ref z0, .int (-1)]) rfl h117 rfl rfl (fun M131 h132 f133 z134 => ?_)
      have h135 := (f133 t43 (show t43 ≠ o by omega)).trans h120
      have h136 := (f133 z0 (show z0 ≠ o by omega)).trans h121
      have h137 := (f133 (z0 + 1) (show (z0 + 1) ≠ o by omega)).trans h122
      have h138 := (f133 da (Ne.symm (ob_ar h117 h123))).trans h123
      have hV139 := hV124.put h117 (by decide) f133 z134
      have hV140 := hV125.put h117 (by decide) f133 z134
      have hV141 := hV126.put h117 (by decide) f133 z134
      have hV142 := hV127.put h117 (by decide) f133 z134
      have hV143 := hV128.put h117 (by decide) f133 z134
      have tp145 : M131.2.1 = t114 := by rw [z134]; exact tp130
      clear h120 h117 h121 h122 h123 hV124 hV125 hV126 hV127 hV128 f133
      show pl _ _ _ (63, [(0, .ref o), (2, .ref t43)], [], M131) _
      refine ps_st (S' := (64, [(0, .ref o), (2, .ref t43)], [.ref t43], M131)) rfl rfl rfl ?_
      refine ps_get (S' := (67, [(0, .ref o), (2, .ref t43)], [.int 0], M131)) rfl h135 rfl rfl ?_
      have hrd : s_read f n = none := s_read_2 q36_s q44_s
      exact ps_ret rfl rfl (Or.inl ⟨z0, hrd, ⟨z0 + 1, q84, by2 f 8, E83, p185, pF86, pM87, pA88, _, h136, h137, h138, hV139, q36_s, rfl, ⟨by omega, by omega, by omega⟩, hn, ⟨m189, m290, G191, G292, _, _, _, _, rfl, hV140, hV141, q36_c, q36_f, q36_m, q36_a, q44_B, q44_U, hV142, hV143.k⟩⟩, by omega, rfl, h132, by omega⟩)
    · skip
      obtain ⟨e9146, q44_s, rfl, h147, h148, tp150⟩ := q104
      obtain ⟨t151, tp152⟩ : ∃ t9, M103.2.1 = t9 := ⟨_, rfl⟩
      rw [tp101, tp152] at tp150
      show pl _ _ _ (47, [(2, .ref t43), (1, .ref z0), (0, .ref o)], [.int 0], M103) _
      refine ps_if (S1 := (55, [(0, .ref o), (2, .ref t43)], [], M103)) (S2 := (50, [(2, .ref t43), (1, .ref z0), (0, .ref o)], [], M103)) rfl rfl rfl (fun c_47 => ?_) (fun c_47 => ?_)
      rotate_left
      · exact absurd (by decide) (of_decide_eq_false c_47)
      refine ps_st (S' := (56, [(0, .ref o), (2, .ref t43)], [.ref o], M103)) rfl rfl rfl ?_
      refine ps_st (S' := (57, [(0, .ref o), (2, .ref t43)], [.ref t43, .ref o], M103)) rfl rfl rfl ?_
      refine ps_get (S' := (60, [(0, .ref o), (2, .ref t43)], [.int (nI e9146.2), .ref o], M103)) rfl h147 rfl rfl ?_
      refine ps_put (l' := [.ref ca, .int cn, .ref g.1, kv, .int (nI e9146.2)]) rfl h148 rfl rfl (fun M153 h154 f155 z156 => ?_)
      have h157 := (f155 t43 (show t43 ≠ o by omega)).trans h147
      have tp159 : M153.2.1 = t151 := by rw [z156]; exact tp152
      clear h147 h148 f155
      show pl _ _ _ (63, [(0, .ref o), (2, .ref t43)], [], M153) _
      refine ps_st (S' := (64, [(0, .ref o), (2, .ref t43)], [.ref t43], M153)) rfl rfl rfl ?_
      refine ps_get (S' := (67, [(0, .ref o), (2, .ref t43)], [.int (nI e9146.1)], M153)) rfl h157 rfl rfl ?_
      exact ps_reti rfl (Or.inr ⟨e9146, s_read_2 q36_s q44_s, rfl, h154, by omega⟩)
  · skip
    obtain ⟨e9160, q36_s, rfl, h161, h162, tp164⟩ := q82
    obtain ⟨t165, tp166⟩ : ∃ t9, M81.2.1 = t9 := ⟨_, rfl⟩
    rw [tp79, tp166] at tp164
    show pl _ _ _ (39, [(2, .ref t43), (1, .ref z0), (0, .ref o)], [.int 0], M81) _
    refine ps_if (S1 := (55, [(0, .ref o), (2, .ref t43)], [], M81)) (S2 := (42, [(2, .ref t43), (1, .ref z0), (0, .ref o)], [], M81)) rfl rfl rfl (fun c_39 => ?_) (fun c_39 => ?_)
    rotate_left
    · exact absurd (by decide) (of_decide_eq_false c_39)
    refine ps_st (S' := (56, [(0, .ref o), (2, .ref t43)], [.ref o], M81)) rfl rfl rfl ?_
    refine ps_st (S' := (57, [(0, .ref o), (2, .ref t43)], [.ref t43, .ref o], M81)) rfl rfl rfl ?_
    refine ps_get (S' := (60, [(0, .ref o), (2, .ref t43)], [.int (nI e9160.2), .ref o], M81)) rfl h161 rfl rfl ?_
    refine ps_put (l' := [.ref ca, .int cn, .ref g.1, kv, .int (nI e9160.2)]) rfl h162 rfl rfl (fun M167 h168 f169 z170 => ?_)
    have h171 := (f169 t43 (show t43 ≠ o by omega)).trans h161
    have tp173 : M167.2.1 = t165 := by rw [z170]; exact tp166
    clear h161 h162 f169
    show pl _ _ _ (63, [(0, .ref o), (2, .ref t43)], [], M167) _
    refine ps_st (S' := (64, [(0, .ref o), (2, .ref t43)], [.ref t43], M167)) rfl rfl rfl ?_
    refine ps_get (S' := (67, [(0, .ref o), (2, .ref t43)], [.int (nI e9160.1)], M167)) rfl h171 rfl rfl ?_
    exact ps_reti rfl (Or.inr ⟨e9160, s_read_1 q36_s, rfl, h168, by omega⟩)
