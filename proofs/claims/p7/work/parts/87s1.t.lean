/-! an entry of the pool, as both sides tell it (my own text) -/
section ENA
variable {f : Nat → Int32} {n : Nat} {E : List (Nat × Nat)} {k mj : Nat}
end ENA
theorem dk_entryu {g : xe_G} {M : mi_H} {ko : Option (Nat × (Nat → Int32))} {kv : Value} {cm o fl : Nat} {cn wp k p : Int32} (hx : M.1 o = some (ob 11 [.ref cm, .int cn, .ref fl, kv, .int wp])) (hK : KPCu g ko kv cm M) (hp0 : ¬ p < 0) (hp1 : p ≤ 2) : pt (mT g) 8 [.ref o, .int k, .int p] M (fun v M' => v = some (.int (enK ko k p)) ∧ M = M') := by
  cases ko with
  | none =>
    have e : kv = .null := hK
    subst e
    exact dk_entry0 hx hp0 hp1
  | some r =>
    obtain ⟨c, da, rfl, ⟨b, q, N, E, p1, pF, pM, pA, w, h1, h2, h3, h4, h5, rfl, -⟩, -, -⟩ := hK
    rw [enK_is h5]
    have hN := by2_lt r.2 8
    unfold enI
    by_cases hk : k < 0 ∨ nI (by2 r.2 8) ≤ k
    · rw [if_pos hk]
      exact dk_entryN hx h1 hp0 hp1 h4 hk
    · rw [if_neg hk]
      obtain ⟨e, hj⟩ := i32_in hN hk
      obtain ⟨j, ej⟩ : ∃ j, j = k.toNatClampNeg := ⟨_, rfl⟩
      rw [← ej] at e hj ⊢
      subst e
      rcases i32_3 hp0 hp1 with rfl | rfl | rfl
      · exact dk_entry_0 hx h1 h4 hj
      · exact dk_entry_1 hx h1 h4 hj
      · exact dk_entry_2 hx h1 h4 hj
/-! a character of a text, as both sides tell it (my own text) -/
section CHA
variable {f : Nat → Int32} {n H m N : Nat} {E : List (Nat × Nat)} {F : Nat → Nat → Int32}
end CHA
theorem dk_characteru {g : xe_G} {M : mi_H} {ko : Option (Nat × (Nat → Int32))} {kv : Value} {cm o fl : Nat} {cn wp k i : Int32} (hx : M.1 o = some (ob 11 [.ref cm, .int cn, .ref fl, kv, .int wp])) (hK : KPCu g ko kv cm M) : pt (mT g) 3 [.ref o, .int k, .int i] M (fun v M' => v = some (.int (chK ko k i)) ∧ M = M') := by
  cases ko with
  | none =>
    have e : kv = .null := hK
    subst e
    exact dk_character0 hx
  | some r =>
    obtain ⟨c, da, rfl, ⟨b, q, N, E, p1, pF, pM, pA, w, h1, h2, h3, h4, h5, rfl, -⟩, -, -⟩ := hK
    rw [chK_is h5]
    exact dk_characterK hx h1 h4 (tg_0 (whole_in h5))
/-! the bits of a number, as both sides tell them (my own text) -/
section BIA
variable {f : Nat → Int32} {n : Nat} {E : List (Nat × Nat)} {j : Nat}
end BIA
theorem dk_bitsu {g : xe_G} {M : mi_H} {ko : Option (Nat × (Nat → Int32))} {kv : Value} {cm o fl : Nat} {cn wp k : Int32} (hx : M.1 o = some (ob 11 [.ref cm, .int cn, .ref fl, kv, .int wp])) (hK : KPCu g ko kv cm M) : pt (mT g) 1 [.ref o, .int k] M (fun v M' => v = some (.long (biK ko k)) ∧ M = M') := by
  cases ko with
  | none =>
    have e : kv = .null := hK
    subst e
    exact dk_bits0 hx
  | some r =>
    obtain ⟨c, da, rfl, ⟨b, q, N, E, p1, pF, pM, pA, w, h1, h2, h3, h4, h5, rfl, h6, h7, -⟩, -, -⟩ := hK
    rw [biK_is h5]
    have hpl := whole_in h5
    have h0 := tg_0 hpl
    by_cases ht : 3 ≤ tg r.2 E k.toNatClampNeg ∧ tg r.2 E k.toNatClampNeg ≤ 6
    · have hk0 : ¬ k < 0 := fun h9 => by rw [i32_cl h9, h0] at ht; omega
      have e := i32_nn hk0
      unfold biI
      obtain ⟨j, ej⟩ : ∃ j, j = k.toNatClampNeg := ⟨_, rfl⟩
      rw [← ej] at e ht ⊢
      have hj : j < 65536 := by
        obtain ⟨hL9, H, m, qq, F, cc, hP9, hT9, -, hb9, hVF, -⟩ := id h4
        refine Nat.not_le.mp (fun h9 => ?_)
        have h8 := hVF.2.1 j (by omega)
        omega
      subst e
      obtain ⟨p, hk9, hb9⟩ := tg_lk (f := r.2) (E := E) (k := j) (by omega)
      obtain ⟨u1, u2⟩ := nums_of hpl hk9
      rw [plc_of hk9]
      by_cases h34 : tg r.2 E j = 3 ∨ tg r.2 E j = 4
      · rw [if_pos h34]
        exact dk_bits4 hx h1 h2 h3 h4 hj h7 hk9 h34 (u1 (by omega))
      · have h56 : tg r.2 E j = 5 ∨ tg r.2 E j = 6 := by omega
        rw [if_neg h34, if_pos h56]
        exact dk_bits8 hx h1 h2 h3 h4 hj h7 hk9 h56 (u2 (by omega))
    · have e : biI r.2 E k = 0 := by
        unfold biI
        rw [if_neg (by omega), if_neg (by omega)]
      rw [e]
      exact dk_bitsT hx h1 h4 h0 ht
/-! places of a descriptor, as both sides tell them (my own text) -/
section PLA
variable {f : Nat → Int32} {n H m : Nat} {E : List (Nat × Nat)} {F : Nat → Nat → Int32} {l : List Nat}
end PLA
theorem dk_placesu {g : xe_G} {M : mi_H} {ko : Option (Nat × (Nat → Int32))} {kv : Value} {cm o fl : Nat} {cn wp k : Int32} (hx : M.1 o = some (ob 11 [.ref cm, .int cn, .ref fl, kv, .int wp])) (hK : KPCu g ko kv cm M) : pt (mT g) 17 [.ref o, .int k] M (fun v M' => v = some (.int (plK ko k)) ∧ M = M') := by
  cases ko with
  | none =>
    have e : kv = .null := hK
    subst e
    exact dk_places0 hx
  | some r =>
    obtain ⟨c, da, rfl, ⟨b, q, N, E, p1, pF, pM, pA, w, h1, h2, h3, h4, h5, rfl, -⟩, -, -⟩ := hK
    rw [plK_is h5]
    exact dk_placesK hx h1 h4 (tg_0 (whole_in h5))

