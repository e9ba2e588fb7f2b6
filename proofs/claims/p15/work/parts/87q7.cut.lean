
theorem s_ents_N {f : Nat → Int32} {n N mj : Nat} : ∀ {r k p p' : Nat} {E0 E : List (Nat × Nat)}, (∀ q ∈ E0, q.1 < N) → s_ents f n mj N r k p E0 = .inr (p', E) → ∀ q ∈ E, q.1 < N := by
  intro r
  induction r with
  | zero => intro k p p' E0 E h0 h; cases h; exact h0
  | succ r ih =>
    intro k p p' E0 E h0 h
    unfold s_ents at h
    split at h
    · cases h; exact h0
    · rename_i hk
      cases he : s_entry f n mj N k p with
      | inl e => rw [he] at h; cases h
      | inr y =>
        obtain ⟨p2, x⟩ := y
        rw [he] at h
        refine ih (k := if by1 f p = 5 ∨ by1 f p = 6 then k + 2 else k + 1) ?_ h
        intro q hq
        rcases List.mem_append.mp hq with hq | hq
        · exact h0 q hq
        · have e : q = (k, p) := by simpa using hq
          rw [e]
          dsimp only
          omega
theorem CP_wh {f : Nat → Int32} {n : Nat} {E : List (Nat × Nat)} {p1 pF pM pA : Nat} (h : s_whole f n = .inr (E, p1, pF, pM, pA)) (hr : s_read f n = none) : CP f n E := by
  have hp := whole_in h
  have hc : chkP f n E (by2 f 6) (by2 f 8 - 1) 1 = none := by
    unfold s_read at hr
    rw [h] at hr
    dsimp only at hr
    unfold s_chk at hr
    split at hr
    · cases hr
    · rename_i he
      exact he
  refine CP_of hc (fun q hq => ?_)
  unfold s_pool at hp
  split at hp
  · cases hp
  · split at hp
    · cases hp
    · exact ⟨s_ents_1 (by decide) (fun q hq => by cases hq) hp q hq, s_ents_N (fun q hq => by cases hq) hp q hq⟩
theorem PV.lq {g : xe_G} {f : Nat → Int32} {n N q : Nat} {E : List (Nat × Nat)} {M : mi_H} (h : PV g f n N E q M) : q < M.2.1 := by
  obtain ⟨-, H, m, qq, F, cc, -, -, ⟨b0, -⟩, -⟩ := h
  exact b0
theorem dk_cutK {g : xe_G} {M : mi_H} {ko : Option (Nat × (Nat → Int32))} {kv : Value} {cm o fl : Nat} {cn wp m : Int32} (hx : M.1 o = some (ob 11 [.ref cm, .int cn, .ref fl, kv, .int wp])) (hol : o < M.2.1) (hK : KPC g ko kv cm M) : pt (mT g) 6 [.ref o, .int m] M (fun v M' => v = some (.int (cuK ko m)) ∧ KPC g ko kv cm M') := by
  cases ko with
  | none =>
    have e : kv = .null := hK
    subst e
    exact (dk_cut0 hx).mono (fun v M' h => ⟨h.1, rfl⟩)
  | some y =>
    obtain ⟨c, da, rfl, ⟨b, q, N, E, p1, pF, pM, pA, w', k1, k2, k3, k4, k5, rfl, ⟨lc, lb, ld⟩, k7, fr, mr, G1, G2, i1, i2, bc, K, rfl, m1, m2, m3, m4, m5, m6, m7, m8, m9, Z, hZ, m10⟩, hdc, hrd⟩ := id hK
    have hb2 := mbs_len m5
    obtain ⟨R2, r2, r4⟩ := m2.2.1
    rw [cuK_is k5]
    by_cases hi : m < 0 ∨ nI (mbs y.2 y.1 (by2 y.2 pM) (pM + 2)).length ≤ m
    · rw [if_pos hi]
      exact (dk_cutN hx k1 r2 hi).mono (fun v M' h => ⟨h.1, h.2 ▸ hK⟩)
    · rw [if_neg hi]
      obtain ⟨ei, li⟩ := i32_in hb2 hi
      obtain ⟨k, ek⟩ : ∃ k, k = m.toNatClampNeg := ⟨_, rfl⟩
      rw [← ek] at ei li ⊢
      subst ei
      obtain ⟨la, v, hc, hcd⟩ := m10 k li
      have hr := r4 k li
      rcases hcd with ⟨hp, rfl⟩ | ⟨hp, rfl, lz, ⟨x8, v9, v10, hz, hct⟩, y3, y4, y5, y6, y7, y8, y9, y10, y11, hon⟩
      · unfold cuI
        rw [if_pos hp]
        exact (dk_cutB hx k1 r2 hc li hb2 hr).mono (fun v M' h => ⟨h.1, h.2 ▸ hK⟩)
      · unfold cuI
        rw [if_neg hp]
        have hin := (code_in k5 hrd m5 li).resolve_left hp
        have hin1 := hin.1
        have hin2 := hin.2.2
        refine (dk_cutG hx k1 r2 hc hz hon k2 k3 k7 (by2_lt _ _) (by2_lt _ _) (by omega) ⟨hin.2.1, by omega⟩ (tg_0 (whole_in k5)) (CP_wh k5 hrd) k4 hol lc m2.1 la (by omega) lz lb ld k4.lq hct li hb2 hr).mono (fun v M' h => ?_)
        obtain ⟨x9, z3, z4, z5, z6, z7, z8, z9, z10, z11, w9, w10, ht, hv, hcd', hon', hf, -⟩ := h
        have hm : ∀ z c', z < M.2.1 → M.1 z = some c' → (∀ o, c' = .inr o → ¬ o.1 = 4 ∧ ¬ o.1 = 5) → M'.1 z = some c' := fun z c' hl hc ho => (hf.1 z hl (fun h9 => by
          simp only [List.mem_cons, List.not_mem_nil, or_false] at h9
          rcases h9 with rfl | rfl
          · rw [hz] at hc
            exact (ho _ (Option.some.inj hc).symm).1 rfl
          · rw [hon] at hc
            exact (ho _ (Option.some.inj hc).symm).2 rfl)).trans hc
        have h8 : CD8 y.2 y.1 E (by2 y.2 6) q b (mK y.2 y.1 E ((mbs y.2 y.1 (by2 y.2 pM) (pM + 2)).getD k 0)).2.1 (Z k) M' := ⟨Nat.lt_of_lt_of_le lz hf.2, ⟨x9, w9, w10, hcd', ht⟩, z3, z4, z5, z6, z7, z8, z9, z10, z11, hon'⟩
        refine ⟨hv, c, da, rfl, ⟨b, q, _, E, p1, pF, pM, pA, _, hm c _ lc k1 (fun o h9 => by cases h9; exact ⟨show ¬ 3 = 4 by decide, show ¬ 3 = 5 by decide⟩), hm b _ lb k2 (fun o h9 => by cases h9; exact ⟨show ¬ 1 = 4 by decide, show ¬ 1 = 5 by decide⟩), hm da _ ld k3 (fun o h9 => by cases h9), k4.mov2 hf.2 (fun z c' hl hc ho _ => hm z c' hl hc (fun o h9 => by have := ho o h9; omega)), k5, rfl, ⟨Nat.lt_of_lt_of_le lc hf.2, Nat.lt_of_lt_of_le lb hf.2, Nat.lt_of_lt_of_le ld hf.2⟩, k7, fr, mr, G1, G2, i1, i2, bc, K, rfl, m1.mov3 hf.2 (fun z c' hl hc ho _ => hm z c' hl hc (fun o h9 => by have := ho o h9; omega)), m2.mov3 hf.2 (fun z c' hl hc ho _ => hm z c' hl hc (fun o h9 => by have := ho o h9; omega)), m3, m4, m5, m6, m7, m8, m9.mov3 hf.2 (fun z c' hl hc ho _ => hm z c' hl hc (fun o h9 => by have := ho o h9; omega)), m10.upd hZ hf li hp hz hon h8⟩, hdc, hrd⟩
theorem dk_jumpK {g : xe_G} {M : mi_H} {ko : Option (Nat × (Nat → Int32))} {kv : Value} {cm o fl : Nat} {cn wp m kk i ky : Int32} (hx : M.1 o = some (ob 11 [.ref cm, .int cn, .ref fl, kv, .int wp])) (hol : o < M.2.1) (hK : KPC g ko kv cm M) : pt (mT g) 14 [.ref o, .int m, .int kk, .int i, .int ky] M (fun v M' => v = some (.int (juK ko m kk i ky)) ∧ KPC g ko kv cm M') := by
  cases ko with
  | none =>
    have e : kv = .null := hK
    subst e
    exact (dk_jump0 hx).mono (fun v M' h => ⟨h.1, rfl⟩)
  | some y =>
    obtain ⟨c, da, rfl, ⟨b, q, N, E, p1, pF, pM, pA, w', k1, k2, k3, k4, k5, rfl, ⟨lc, lb, ld⟩, k7, fr, mr, G1, G2, i1, i2, bc, K, rfl, m1, m2, m3, m4, m5, m6, m7, m8, m9, Z, hZ, m10⟩, hdc, hrd⟩ := id hK
    have hb2 := mbs_len m5
    obtain ⟨R2, r2, r4⟩ := m2.2.1
    rw [juK_is k5]
    by_cases hi : m < 0 ∨ nI (mbs y.2 y.1 (by2 y.2 pM) (pM + 2)).length ≤ m
    · rw [if_pos hi]
      exact (dk_jumpN hx k1 r2 hi).mono (fun v M' h => ⟨h.1, h.2 ▸ hK⟩)
    · rw [if_neg hi]
      obtain ⟨ei, li⟩ := i32_in hb2 hi
      obtain ⟨k, ek⟩ : ∃ k, k = m.toNatClampNeg := ⟨_, rfl⟩
      rw [← ek] at ei li ⊢
      subst ei
      obtain ⟨la, v, hc, hcd⟩ := m10 k li
      have hr := r4 k li
      rcases hcd with ⟨hp, rfl⟩ | ⟨hp, rfl, lz, ⟨x8, v9, v10, hz, hct⟩, y3, y4, y5, y6, y7, y8, y9, y10, y11, hon⟩
      · unfold juI
        rw [if_pos hp]
        exact (dk_jumpB hx k1 r2 hc li hb2 hr).mono (fun v M' h => ⟨h.1, h.2 ▸ hK⟩)
      · unfold juI
        rw [if_neg hp]
        have hin := (code_in k5 hrd m5 li).resolve_left hp
        have hin1 := hin.1
        have hin2 := hin.2.2
        refine (dk_jumpG hx k1 r2 hc hz hon k2 k3 k7 (by2_lt _ _) (by2_lt _ _) (by omega) ⟨hin.2.1, by omega⟩ (tg_0 (whole_in k5)) (CP_wh k5 hrd) k4 hol lc m2.1 la (by omega) lz lb ld k4.lq hct li hb2 hr).mono (fun v M' h => ?_)
        obtain ⟨x9, z3, z4, z5, z6, z7, z8, z9, z10, z11, w9, w10, ht, hv, hcd', hon', hf, -⟩ := h
        have hm : ∀ z c', z < M.2.1 → M.1 z = some c' → (∀ o, c' = .inr o → ¬ o.1 = 4 ∧ ¬ o.1 = 5) → M'.1 z = some c' := fun z c' hl hc ho => (hf.1 z hl (fun h9 => by
          simp only [List.mem_cons, List.not_mem_nil, or_false] at h9
          rcases h9 with rfl | rfl
          · rw [hz] at hc
            exact (ho _ (Option.some.inj hc).symm).1 rfl
          · rw [hon] at hc
            exact (ho _ (Option.some.inj hc).symm).2 rfl)).trans hc
        have h8 : CD8 y.2 y.1 E (by2 y.2 6) q b (mK y.2 y.1 E ((mbs y.2 y.1 (by2 y.2 pM) (pM + 2)).getD k 0)).2.1 (Z k) M' := ⟨Nat.lt_of_lt_of_le lz hf.2, ⟨x9, w9, w10, hcd', ht⟩, z3, z4, z5, z6, z7, z8, z9, z10, z11, hon'⟩
        refine ⟨hv, c, da, rfl, ⟨b, q, _, E, p1, pF, pM, pA, _, hm c _ lc k1 (fun o h9 => by cases h9; exact ⟨show ¬ 3 = 4 by decide, show ¬ 3 = 5 by decide⟩), hm b _ lb k2 (fun o h9 => by cases h9; exact ⟨show ¬ 1 = 4 by decide, show ¬ 1 = 5 by decide⟩), hm da _ ld k3 (fun o h9 => by cases h9), k4.mov2 hf.2 (fun z c' hl hc ho _ => hm z c' hl hc (fun o h9 => by have := ho o h9; omega)), k5, rfl, ⟨Nat.lt_of_lt_of_le lc hf.2, Nat.lt_of_lt_of_le lb hf.2, Nat.lt_of_lt_of_le ld hf.2⟩, k7, fr, mr, G1, G2, i1, i2, bc, K, rfl, m1.mov3 hf.2 (fun z c' hl hc ho _ => hm z c' hl hc (fun o h9 => by have := ho o h9; omega)), m2.mov3 hf.2 (fun z c' hl hc ho _ => hm z c' hl hc (fun o h9 => by have := ho o h9; omega)), m3, m4, m5, m6, m7, m8, m9.mov3 hf.2 (fun z c' hl hc ho _ => hm z c' hl hc (fun o h9 => by have := ho o h9; omega)), m10.upd hZ hf li hp hz hon h8⟩, hdc, hrd⟩
theorem dk_instrK {g : xe_G} {M : mi_H} {ko : Option (Nat × (Nat → Int32))} {kv : Value} {cm o fl : Nat} {cn wp m kk w9x : Int32} (hx : M.1 o = some (ob 11 [.ref cm, .int cn, .ref fl, kv, .int wp])) (hol : o < M.2.1) (hK : KPC g ko kv cm M) (hw0 : ¬ w9x < 0) (hw4 : w9x ≤ 4) : pt (mT g) 12 [.ref o, .int m, .int kk, .int w9x] M (fun v M' => (∃ x : Int32, v = some (.int x)) ∧ KPC g ko kv cm M') := by
  cases ko with
  | none =>
    have e : kv = .null := hK
    subst e
    exact (dk_instr0 hx hw0 hw4).mono (fun v M' h => ⟨⟨_, h.1⟩, rfl⟩)
  | some y =>
    obtain ⟨c, da, rfl, ⟨b, q, N, E, p1, pF, pM, pA, w', k1, k2, k3, k4, k5, rfl, ⟨lc, lb, ld⟩, k7, fr, mr, G1, G2, i1, i2, bc, K, rfl, m1, m2, m3, m4, m5, m6, m7, m8, m9, Z, hZ, m10⟩, hdc, hrd⟩ := id hK
    have hb2 := mbs_len m5
    obtain ⟨R2, r2, r4⟩ := m2.2.1
    by_cases hi : m < 0 ∨ nI (mbs y.2 y.1 (by2 y.2 pM) (pM + 2)).length ≤ m
    · exact (dk_instrN hx k1 r2 hw0 hw4 hi).mono (fun v M' h => ⟨⟨_, h.1⟩, h.2 ▸ hK⟩)
    · obtain ⟨ei, li⟩ := i32_in hb2 hi
      obtain ⟨k, ek⟩ : ∃ k, k = m.toNatClampNeg := ⟨_, rfl⟩
      rw [← ek] at ei li
      subst ei
      obtain ⟨la, v, hc, hcd⟩ := m10 k li
      have hr := r4 k li
      rcases hcd with ⟨hp, rfl⟩ | ⟨hp, rfl, lz, ⟨x8, v9, v10, hz, hct⟩, y3, y4, y5, y6, y7, y8, y9, y10, y11, hon⟩
      · exact (dk_instrB hx k1 r2 hc hw0 hw4 li hb2 hr).mono (fun v M' h => ⟨⟨_, h.1⟩, h.2 ▸ hK⟩)
      · have hin := (code_in k5 hrd m5 li).resolve_left hp
        have hin1 := hin.1
        have hin2 := hin.2.2
        refine (dk_instrG hx k1 r2 hc hz hon k2 k3 k7 (by2_lt _ _) (by2_lt _ _) (by omega) ⟨hin.2.1, by omega⟩ (tg_0 (whole_in k5)) (CP_wh k5 hrd) k4 hol lc m2.1 la (by omega) lz lb ld k4.lq hct li hb2 hr hw0 hw4).mono (fun v M' h => ?_)
        obtain ⟨y0, x9, z3, z4, z5, z6, z7, z8, z9, z10, z11, w9, w10, ht, hv, hcd', hon', hf, -⟩ := h
        have hm : ∀ z c', z < M.2.1 → M.1 z = some c' → (∀ o, c' = .inr o → ¬ o.1 = 4 ∧ ¬ o.1 = 5) → M'.1 z = some c' := fun z c' hl hc ho => (hf.1 z hl (fun h9 => by
          simp only [List.mem_cons, List.not_mem_nil, or_false] at h9
          rcases h9 with rfl | rfl
          · rw [hz] at hc
            exact (ho _ (Option.some.inj hc).symm).1 rfl
          · rw [hon] at hc
            exact (ho _ (Option.some.inj hc).symm).2 rfl)).trans hc
        have h8 : CD8 y.2 y.1 E (by2 y.2 6) q b (mK y.2 y.1 E ((mbs y.2 y.1 (by2 y.2 pM) (pM + 2)).getD k 0)).2.1 (Z k) M' := ⟨Nat.lt_of_lt_of_le lz hf.2, ⟨x9, w9, w10, hcd', ht⟩, z3, z4, z5, z6, z7, z8, z9, z10, z11, hon'⟩
        refine ⟨⟨_, hv⟩, c, da, rfl, ⟨b, q, _, E, p1, pF, pM, pA, _, hm c _ lc k1 (fun o h9 => by cases h9; exact ⟨show ¬ 3 = 4 by decide, show ¬ 3 = 5 by decide⟩), hm b _ lb k2 (fun o h9 => by cases h9; exact ⟨show ¬ 1 = 4 by decide, show ¬ 1 = 5 by decide⟩), hm da _ ld k3 (fun o h9 => by cases h9), k4.mov2 hf.2 (fun z c' hl hc ho _ => hm z c' hl hc (fun o h9 => by have := ho o h9; omega)), k5, rfl, ⟨Nat.lt_of_lt_of_le lc hf.2, Nat.lt_of_lt_of_le lb hf.2, Nat.lt_of_lt_of_le ld hf.2⟩, k7, fr, mr, G1, G2, i1, i2, bc, K, rfl, m1.mov3 hf.2 (fun z c' hl hc ho _ => hm z c' hl hc (fun o h9 => by have := ho o h9; omega)), m2.mov3 hf.2 (fun z c' hl hc ho _ => hm z c' hl hc (fun o h9 => by have := ho o h9; omega)), m3, m4, m5, m6, m7, m8, m9.mov3 hf.2 (fun z c' hl hc ho _ => hm z c' hl hc (fun o h9 => by have := ho o h9; omega)), m10.upd hZ hf li hp hz hon h8⟩, hdc, hrd⟩
