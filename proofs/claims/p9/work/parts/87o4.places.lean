/-! places of a descriptor, as both sides tell them (my own text) -/
section PLA
variable {f : Nat → Int32} {n H m : Nat} {E : List (Nat × Nat)} {F : Nat → Nat → Int32} {l : List Nat}
def plT (l : List Nat) : Int32 := if shN l = 0 then -1 else nI (shN l % 4096)
def plX (f : Nat → Int32) (n : Nat) (E : List (Nat × Nat)) (k : Int32) : Int32 := if tg f E k.toNatClampNeg = 1 then plT (tX f n E k.toNatClampNeg) else -1
/-- what is kept tells it -/
def plK (ko : Option (Nat × (Nat → Int32))) (k : Int32) : Int32 := match ko with
  | none => -1
  | some r => match s_whole r.2 r.1 with
    | .inl _ => -1
    | .inr y => plX r.2 r.1 y.1 k
theorem plK_is {r : Nat × (Nat → Int32)} {k : Int32} {y : Nat × Nat × Nat × Nat} (h : s_whole r.2 r.1 = .inr (E, y)) : plK (some r) k = plX r.2 r.1 E k := by
  show (match s_whole r.2 r.1 with | .inl _ => -1 | .inr y => plX r.2 r.1 y.1 k) = _
  rw [h]
theorem VF.plaR (h : VF f n E H m F) (hs : VS f n E F) (hH : H ≤ 65536) (h0 : tg f E 0 = 0) (k : Int32) : sp_placesTold H m F k = plX f n E k := by
  unfold sp_placesTold plX
  rw [h.tagR hH h0 k]
  obtain ⟨j, hj⟩ : ∃ j, j = k.toNatClampNeg := ⟨_, rfl⟩
  rw [← hj]
  by_cases h1 : tg f E j = 1
  · rw [if_neg (by rw [h1]; exact fun q => q rfl), if_pos h1, hs j h1]
    have hl := shN_lt (tX f n E j)
    unfold plT shI
    by_cases h2 : shN (tX f n E j) = 0
    · rw [if_pos h2, if_pos h2, if_neg (fun q => q rfl)]
    · rw [if_neg h2, if_neg h2, if_pos (fun q => absurd (congrArg Int32.toInt q) (by rw [nI_val (by omega)]; show ¬ ((shN (tX f n E j) : Nat) : Int) = -1; omega)), nI_rem (a := shN (tX f n E j)) (x := 4096) (k := 4096) rfl rfl (by decide) (by omega)]
  · rw [if_pos (show ¬ nI (tg f E j) = 1 from fun q => h1 ((eq_nI (p := tg f E j) (n := 1) (Nat.lt_trans (tg_lt _ _ _) (by decide)) (by decide)).mp q)), if_neg h1]
def wdN (x : Nat) : Nat := if x = 74 ∨ x = 68 then 1 else 0
theorem le1_wd (x : Nat) : wdN x < 2 := by unfold wdN; split <;> omega
theorem pW_wd (x : Nat) : pW x = wdN x + 1 := by unfold pW wdN; split <;> rfl
theorem fld_sh (h : ¬ fldN l = 0) : shN l = pW (l.getD 0 0) ∧ 0 < l.length := by
  have h1 : 0 < shN l ∧ shN l < 4096 := Decidable.byContradiction (fun q => h (if_neg q))
  by_cases h0 : l.length = 0
  · unfold shN s_sh at h1
    rw [if_pos h0] at h1
    omega
  · refine ⟨?_, by omega⟩
    by_cases h2 : l.getD 0 0 = 40
    · have h3 := mth_sh (l := l) (by omega) h2
      unfold s_ms at h3
      repeat' split at h3
      all_goals omega
    · have h3 : shN l = if s_ty (fun i => l.getD i 0) l.length 0 = some l.length then pW (l.getD 0 0) else 0 := by
        unfold shN s_sh
        rw [if_neg h0, if_neg h2]
      by_cases h4 : s_ty (fun i => l.getD i 0) l.length 0 = some l.length
      · rw [if_pos h4] at h3
        exact h3
      · rw [if_neg h4] at h3
        omega
theorem plT_f {t : Nat} {x : Int32} (h : ¬ fldN l = 0) (ht : t = pW (l.getD 0 0)) (hx : x = nI t) : x = plT l := by
  have h1 := (fld_sh h).1
  have h2 := pW_le (l.getD 0 0)
  have h3 := pW_wd (l.getD 0 0)
  unfold plT
  rw [if_neg (by omega), h1, ← ht, hx, Nat.mod_eq_of_lt (by omega)]
theorem plT_n (h : fldN l = 0) (h2 : mthN l = 0) : plT l = -1 := by
  have e : shN l = 0 := by
    unfold fldN at h
    unfold mthN at h2
    by_cases a : 4096 ≤ shN l
    · rw [if_pos a] at h2
      cases h2
    · by_cases b : 0 < shN l ∧ shN l < 4096
      · rw [if_pos b] at h
        cases h
      · omega
  unfold plT
  rw [if_pos e]
theorem plT_v {k W t : Nat} {x : Int32} (hm : ¬ mthN l = 0) (h : s_pl (fun i => l.getD i 0) l.length (l.length - 1) 1 0 = some (k, W)) (ht : t = if l.getD (l.length - 1) 0 = 86 ∧ l.length - 1 = k + 1 then 0 else pW (l.getD (k + 1) 0)) (hx : x = nI (1024 * t)) : nI W + x = plT l := by
  obtain ⟨h1, h2, k', W', hp, a1, a2, a3, a4, -, -⟩ := mth_in hm
  rw [h] at hp
  cases hp
  have hlow : 4096 ≤ shN l := Decidable.byContradiction (fun q => hm (if_neg q))
  have e := mth_sh h1 h2
  rw [ms_pl h, if_neg (by omega)] at e
  by_cases b : l.getD (k + 1) 0 = 86 ∧ k + 2 = l.length
  · rw [if_pos b] at e
    have ht0 : t = 0 := by
      rw [ht, if_pos ⟨by rw [show l.length - 1 = k + 1 by omega]; exact b.1, by omega⟩]
    unfold plT
    rw [e, if_neg (by omega), hx, ht0, show (4096 + W) % 4096 = W + 1024 * 0 by omega]
    exact nI_add1 rfl (by omega)
  · rw [if_neg b] at e
    by_cases d : s_ty (fun i => l.getD i 0) l.length (k + 1) = some l.length
    · rw [if_pos d] at e
      have e : shN l = 4096 + 1024 * pW (l.getD (k + 1) 0) + W := e
      have ht1 : t = pW (l.getD (k + 1) 0) := by
        rw [ht, if_neg (fun q => b ⟨by rw [← q.2]; exact q.1, by omega⟩)]
      have hw := pW_le (l.getD (k + 1) 0)
      unfold plT
      rw [e, if_neg (by omega), hx, ht1, show (4096 + 1024 * pW (l.getD (k + 1) 0) + W) % 4096 = W + 1024 * pW (l.getD (k + 1) 0) by omega]
      exact nI_add1 rfl (by omega)
    · rw [if_neg d] at e
      omega
end PLA
theorem dz_placesTold {g : xe_G} {M : mi_H} {f : Nat → Int32} {n N q : Nat} {E : List (Nat × Nat)} {k : Int32}  (hV : PV g f n N E q M) (h0 : tg f E 0 = 0) : pt (mT g) 131 [.ref q, .int k] M (fun v M' => (v = some (.int (plX f n E k)) ∧ M = M')) := by
  obtain ⟨hL9, H, m, qq, F, cc, hP9, hT9, -, hb9, hVF, hVS⟩ := id hV
  exact (ct_placesTold hP9 (d := 3) (by decide)).pt.mono (fun v M' h => ⟨by rw [h.1, hVF.plaR hVS hb9.1 h0], h.2.symm⟩)
set_option maxHeartbeats 1000000 in
theorem dk_places0 {g : xe_G} {M : mi_H} {o ca fl : Nat} {cn wp k : Int32} (h_o : M.1 o = some (ob 11 [.ref ca, .int cn, .ref fl, .null, .int wp]))  : pt (mT g) 17 [.ref o, .int k] M (fun v M' => (v = some (.int (-1)) ∧ M = M')) := by
  refine pt_in (b := mb_17 g) rfl (fun kf => ?_)
  show pl (mT g) kf (mb_17 g).2 (0, [(0, .ref o), (1, .int k)], [], M) _
  refine ps_st (S' := (1, [(0, .ref o), (1, .int k)], [.ref o], M)) rfl rfl rfl ?_
  refine ps_get (S' := (4, [(0, .ref o), (1, .int k)], [.null], M)) rfl h_o rfl rfl ?_
  refine ps_st (S' := (7, [(0, .ref o), (1, .int k)], [], M)) rfl rfl rfl ?_
  refine ps_st (S' := (8, [(0, .ref o), (1, .int k)], [.int (-1)], M)) rfl rfl rfl ?_
  refine ps_st (S' := (22, [], [.int (-1)], M)) rfl rfl rfl ?_
  exact ps_ret rfl rfl (⟨rfl, rfl⟩)
set_option maxHeartbeats 1000000 in
theorem dk_placesK {g : xe_G} {M : mi_H} {f : Nat → Int32} {n N q : Nat} {E : List (Nat × Nat)} {o ca fl c b : Nat} {cn wp : Int32} {w : List Value} {k : Int32} (h_o : M.1 o = some (ob 11 [.ref ca, .int cn, .ref fl, .ref c, .int wp])) (h_c : M.1 c = some (ob 3 (.ref b :: .ref q :: w))) (hV : PV g f n N E q M) (h0 : tg f E 0 = 0) : pt (mT g) 17 [.ref o, .int k] M (fun v M' => (v = some (.int (plX f n E k)) ∧ M = M')) := by
  refine pt_in (b := mb_17 g) rfl (fun kf => ?_)
  show pl (mT g) kf (mb_17 g).2 (0, [(0, .ref o), (1, .int k)], [], M) _
  obtain ⟨hL9, H, m, qq, F, cc, hP9, -, -, hb9, -⟩ := id hV
  have h_q := hP9.1
  have hN9 := hb9.2.2.1
  refine ps_st (S' := (1, [(0, .ref o), (1, .int k)], [.ref o], M)) rfl rfl rfl ?_
  refine ps_get (S' := (4, [(0, .ref o), (1, .int k)], [.ref c], M)) rfl h_o rfl rfl ?_
  refine ps_st (S' := (11, [(0, .ref o), (1, .int k)], [], M)) rfl rfl rfl ?_
  refine ps_st (S' := (12, [(0, .ref o), (1, .int k)], [.ref o], M)) rfl rfl rfl ?_
  refine ps_get (S' := (15, [(0, .ref o), (1, .int k)], [.ref c], M)) rfl h_o rfl rfl ?_
  refine ps_get (S' := (18, [(0, .ref o), (1, .int k)], [.ref q], M)) rfl h_c rfl rfl ?_
  refine ps_st (S' := (19, [(0, .ref o), (1, .int k)], [.int k, .ref q], M)) rfl rfl rfl ?_
  refine pl_call (a := [.ref q, .int k]) (rest := []) rfl rfl rfl (dz_placesTold (f := f) (n := n) (N := N) (q := q) (E := E) (k := k) (hV) (h0)) (fun v1 M2 q3 => ?_)
  obtain ⟨rfl, rfl⟩ := q3
  show pl _ _ _ (22, [], [.int (plX f n E k)], M) _
  exact ps_reti rfl (⟨rfl, rfl⟩)
theorem dk_places {g : xe_G} {M : mi_H} {ko : Option (Nat × (Nat → Int32))} {kv : Value} {cm o fl : Nat} {cn wp k : Int32} (hx : M.1 o = some (ob 11 [.ref cm, .int cn, .ref fl, kv, .int wp])) (hK : KPC g ko kv cm M) : pt (mT g) 17 [.ref o, .int k] M (fun v M' => v = some (.int (plK ko k)) ∧ M = M') := by
  cases ko with
  | none =>
    have e : kv = .null := hK
    subst e
    exact dk_places0 hx
  | some r =>
    obtain ⟨c, da, rfl, ⟨b, q, N, E, p1, pF, pM, pA, w, h1, h2, h3, h4, h5, rfl, -⟩, -, -⟩ := hK
    rw [plK_is h5]
    exact dk_placesK hx h1 h4 (tg_0 (whole_in h5))
