/-! reading members, and the end (laid by wip/p4/d16.py) -/

section MRA
variable {M M' : mi_H}
/-- where c members begin -/
def mbs (f : Nat → Int32) (n : Nat) : Nat → Nat → List Nat
  | 0, _ => []
  | c + 1, p => p :: (match s_attributes f n (p + 6) with
    | .inl _ => []
    | .inr p' => mbs f n c p')
def s_mbs (f : Nat → Int32) (n p : Nat) : (Nat × Nat) ⊕ Nat := if n < p + 2 then .inl (1, p) else s_mems f n (by2 f p) (p + 2)
def s_end (f : Nat → Int32) (n p : Nat) : Option (Nat × Nat) := match s_attributes f n p with
  | .inl e => some e
  | .inr p' => if p' = n then none else some (8, p')
theorem s_attributes_le2 {f : Nat → Int32} {n p p' : Nat} (h : s_attributes f n p = .inr p') : p + 2 ≤ p' ∧ p' ≤ n := by
  unfold s_attributes at h
  split at h
  · cases h
  · have := s_atts_le (by omega) h
    omega
theorem s_mems_st {f : Nat → Int32} {n c i p : Nat} (h : i < c) : s_mems f n (c - i) p = if n < p + 2 then .inl (1, p) else if n < p + 4 then .inl (1, p + 2) else if n < p + 6 then .inl (1, p + 4) else
    match s_attributes f n (p + 6) with
    | .inl e => .inl e
    | .inr p' => s_mems f n (c - (i + 1)) p' := by
  rw [show c - i = (c - (i + 1)) + 1 by omega]
  rfl
theorem mbs_st {f : Nat → Int32} {n c i p : Nat} (h : i < c) : mbs f n (c - i) p = p :: (match s_attributes f n (p + 6) with
    | .inl _ => []
    | .inr p' => mbs f n (c - (i + 1)) p') := by
  rw [show c - i = (c - (i + 1)) + 1 by omega]
  rfl
/-- members are well in the file -/
theorem mbs_in {f : Nat → Int32} {n : Nat} : ∀ {c p p' : Nat}, s_mems f n c p = .inr p' → (mbs f n c p).length = c ∧ ∀ i, i < (mbs f n c p).length → (mbs f n c p).getD i 0 + 8 ≤ n ∧ ∃ e0, s_atts f n (by2 f ((mbs f n c p).getD i 0 + 6)) ((mbs f n c p).getD i 0 + 8) = .inr e0 := by
  intro c
  induction c with
  | zero => intro p p' h; exact ⟨rfl, fun i hi => by cases hi⟩
  | succ c ih =>
    intro p p' h
    unfold s_mems at h
    split at h
    · cases h
    · split at h
      · cases h
      · split at h
        · cases h
        · cases ha : s_attributes f n (p + 6) with
          | inl e => rw [ha] at h; cases h
          | inr x =>
            rw [ha] at h
            have h2 := ih h
            have e : mbs f n (c + 1) p = p :: mbs f n c x := by
              show p :: _ = _
              rw [ha]
            rw [e]
            refine ⟨by rw [List.length_cons, h2.1], fun i hi => ?_⟩
            cases i with
            | zero =>
              show p + 8 ≤ n ∧ ∃ e0, s_atts f n (by2 f (p + 6)) (p + 8) = .inr e0
              have h3 := s_attributes_le2 ha
              unfold s_attributes at ha
              rw [if_neg (by omega)] at ha
              exact ⟨by omega, x, ha⟩
            | succ i => exact h2.2 i (by rw [List.length_cons] at hi; omega)
/-- members made so far, one behind the other from z0 on -/
def MR (f : Nat → Int32) (B : List Nat) (z0 i : Nat) (M : mi_H) : Prop := ∀ j, j < i → z0 + j < M.2.1 ∧ M.1 (z0 + j) = some (mcell f (B.getD j 0) 0 0 0 0 .null)
theorem MR.keep {f : Nat → Int32} {B S : List Nat} {z0 i : Nat} (h : MR f B z0 i M) (hf : gm S M M') (hs : ∀ z ∈ S, z < z0 ∨ z0 + i ≤ z) : MR f B z0 i M' := fun j hj => by
  obtain ⟨h1, h2⟩ := h j hj
  exact ⟨Nat.lt_of_lt_of_le h1 hf.2, (hf.1 _ h1 (fun hz => by have := hs _ hz; omega)).trans h2⟩
theorem nMnil {z0 i : Nat} : ∀ z ∈ ([] : List Nat), z < z0 ∨ z0 + i ≤ z := fun z hz => by cases hz
theorem nMc {z0 i a : Nat} {S : List Nat} (h : a < z0 ∨ z0 + i ≤ a) (hs : ∀ z ∈ S, z < z0 ∨ z0 + i ≤ z) : ∀ z ∈ a :: S, z < z0 ∨ z0 + i ≤ z := fun z hz => by
  rcases List.mem_cons.mp hz with rfl | hz
  · exact h
  · exact hs z hz
theorem MR.put {f : Nat → Int32} {B : List Nat} {z0 i a : Nat} (h : MR f B z0 i M) (ha : a < z0 ∨ z0 + i ≤ a) (hf : ∀ z, z ≠ a → M'.1 z = M.1 z) (hz : M'.2 = M.2) : MR f B z0 i M' :=
  h.keep (S := [a]) ⟨fun z _ h9 => hf z (fun e => h9 (by rw [e]; exact List.mem_cons_self)), by rw [hz]; exact Nat.le_refl _⟩ (nMc ha nMnil)
theorem MR.new {f : Nat → Int32} {B : List Nat} {z0 i a : Nat} (h : MR f B z0 i M) (ht : M.2.1 = a) (hf : ∀ z, z ≠ a → M'.1 z = M.1 z) (hz : M'.2.1 = a + 1) : MR f B z0 i M' :=
  h.keep (S := []) ⟨fun z hl _ => hf z (by omega), by omega⟩ nMnil
theorem getD_lo {B : List Nat} {x j : Nat} (h : j < B.length) : (B ++ [x]).getD j 0 = B.getD j 0 := by
  rw [List.getD_eq_getElem?_getD, List.getD_eq_getElem?_getD, List.getElem?_append_left h]
theorem getD_at {B : List Nat} {x : Nat} : (B ++ [x]).getD B.length 0 = x := by
  rw [List.getD_eq_getElem?_getD, List.getElem?_append_right (Nat.le_refl _), Nat.sub_self]
  rfl
theorem MR.snoc {f : Nat → Int32} {B : List Nat} {z0 i b : Nat} (h : MR f B z0 i M) (hB : B.length = i) (hc : M.1 (z0 + i) = some (mcell f b 0 0 0 0 .null)) (hl : z0 + i < M.2.1) : MR f (B ++ [b]) z0 (i + 1) M := fun j hj => by
  by_cases h1 : j = i
  · subst h1
    rw [← hB, getD_at, hB]
    exact ⟨hl, hc⟩
  · rw [getD_lo (by omega)]
    exact h j (by omega)
theorem upv_to {R : Nat → Value} {z0 i : Nat} (h : ∀ j, j < i → R j = .ref (z0 + j)) : ∀ j, j < i + 1 → upv R i (.ref (z0 + i)) j = .ref (z0 + j) := fun j hj => by
  unfold upv
  split
  · rename_i h1
    rw [h1]
  · exact h j (by omega)
theorem MR.mv {f : Nat → Int32} {B : List Nat} {mm z0 i : Nat} {R : Nat → Value} (h : MR f B z0 i M) (hB : B.length = i) (hm : M.1 mm = some (ro "ClassGate$Member" i R)) (hR : ∀ j, j < i → R j = .ref (z0 + j)) (hl : mm < M.2.1) : MV f B mm (fun j => z0 + j) 0 M := by
  subst hB
  refine ⟨hl, ⟨R, hm, hR⟩, fun a b _ _ e => ?_, fun j hj => ⟨(h j hj).1, 0, 0, 0, 0, .null, (h j hj).2, fun _ => ⟨rfl, rfl, rfl, rfl, rfl⟩⟩⟩
  have : z0 + a = z0 + b := e
  omega
end MRA
theorem dk_takes2 {g : xe_G} {M : mi_H} {r c b vd da n p : Nat} {f : Nat → Int32} {it ru wa : Int32} (h_r : M.1 r = some (ob 9 [.ref c, .ref b, .ref vd, .int (nI p), .int it])) (h_b : M.1 b = some (ob 1 [.ref da])) (h_da : M.1 da = some (ar .byte n f)) (h_vd : M.1 vd = some (ob 10 [.int ru, .int wa])) (hn : n ≤ 65540) (hp : p ≤ n) : pt (mT g) 159 [.ref r, .int 2] M (fun v M' => ((p + 2 ≤ n) ∧ v = some (.int 1) ∧ M'.1 r = some (ob 9 [.ref c, .ref b, .ref vd, .int (nI (p + 2)), .int (nI (by2 f p))]) ∧ M'.1 vd = some (ob 10 [.int ru, .int wa]) ∧ fm [r, vd] M M') ∨ ((n < p + 2) ∧ v = some (.int 0) ∧ M'.1 r = some (ob 9 [.ref c, .ref b, .ref vd, .int (nI p), .int it]) ∧ M'.1 vd = some (ob 10 [.int 1, .int (nI p)]) ∧ fm [r, vd] M M')) := dx_takes2 h_r h_b h_da h_vd hn hp
theorem dk_takesAttributes {g : xe_G} {M : mi_H} {r c b vd da n p : Nat} {f : Nat → Int32} {it ru wa : Int32} (h_r : M.1 r = some (ob 9 [.ref c, .ref b, .ref vd, .int (nI p), .int it])) (h_b : M.1 b = some (ob 1 [.ref da])) (h_da : M.1 da = some (ar .byte n f)) (h_vd : M.1 vd = some (ob 10 [.int ru, .int wa])) (hn : n ≤ 65540) (hp : p ≤ n) : pt (mT g) 160 [.ref r] M (fun v M' => (∃ (p' : Nat) (it' : Int32), (s_attributes f n p = .inr p') ∧ v = some (.int 1) ∧ M'.1 r = some (ob 9 [.ref c, .ref b, .ref vd, .int (nI p'), .int it']) ∧ M'.1 vd = some (ob 10 [.int ru, .int wa]) ∧ fm [r, vd] M M') ∨ (∃ (e : Nat × Nat), (s_attributes f n p = .inl e) ∧ v = some (.int 0) ∧ M'.1 vd = some (ob 10 [.int (nI e.1), .int (nI e.2)]) ∧ fm [r, vd] M M')) := dx_takesAttributes h_r h_b h_da h_vd hn hp
theorem dk_size {g : xe_G} {M : mi_H} {f : Nat → Int32} {n b da : Nat} (h_b : M.1 b = some (ob 1 [.ref da])) (h_da : M.1 da = some (ar .byte n f)) (hn : n ≤ 65540) : pt (mT g) 47 [.ref b] M (fun v M' => (v = some (.int (nI n)) ∧ M = M')) := (ct_size ⟨h_b, h_da, by omega⟩ (d := 1) (by decide)).pt.mono (fun v M' h => ⟨h.1, h.2.symm⟩)
theorem dk_u2g {g : xe_G} {M : mi_H} {f : Nat → Int32} {n b da : Nat} {x : Int32} (h_b : M.1 b = some (ob 1 [.ref da])) (h_da : M.1 da = some (ar .byte n f)) (hn : n ≤ 65540) : pt (mT g) 49 [.ref b, .int x] M (fun v M' => (v = some (.int (sp_u2 n f x)) ∧ M = M')) := (ct_u2 ⟨h_b, h_da, by omega⟩ (d := 3) (by decide)).pt.mono (fun v M' h => ⟨h.1, h.2.symm⟩)
set_option maxHeartbeats 1000000 in
theorem dk_roomFor {g : xe_G} {M : mi_H} {r c b vd da n p : Nat} {f : Nat → Int32} {it : Int32} {t : Nat} (h_r : M.1 r = some (ob 9 [.ref c, .ref b, .ref vd, .int (nI p), .int it])) (h_b : M.1 b = some (ob 1 [.ref da])) (h_da : M.1 da = some (ar .byte n f)) (hn : n ≤ 65540) (hp : p ≤ n) (ht : t < 65536) : pt (mT g) 158 [.ref r, .int (nI t)] M (fun v M' => (v = some (.int (nI (min t ((n - p) / 8)))) ∧ M = M')) := by
  refine pt_in (b := mb_158 g) rfl (fun kf => ?_)
  show pl (mT g) kf (mb_158 g).2 (0, [(0, .ref r), (1, .int (nI t))], [], M) _
  refine ps_st (S' := (1, [(0, .ref r), (1, .int (nI t))], [.int 0], M)) rfl rfl rfl ?_
  refine ps_st (S' := (2, [(0, .ref r), (1, .int (nI t))], [.int (nI t), .int 0], M)) rfl rfl rfl ?_
  refine ps_st (S' := (3, [(0, .ref r), (1, .int (nI t))], [.ref r, .int (nI t), .int 0], M)) rfl rfl rfl ?_
  refine ps_get (S' := (6, [(0, .ref r), (1, .int (nI t))], [.ref b, .int (nI t), .int 0], M)) rfl h_r rfl rfl ?_
  refine pl_call (a := [.ref b]) (rest := [.int (nI t), .int 0]) rfl rfl rfl (dk_size (f := f) (n := n) (b := b) (da := da) h_b h_da (hn)) (fun v1 M2 q3 => ?_)
  obtain ⟨rfl, rfl⟩ := q3
  show pl _ _ _ (9, [(0, .ref r), (1, .int (nI t))], [.int (nI n), .int (nI t), .int 0], M) _
  refine ps_st (S' := (10, [(0, .ref r), (1, .int (nI t))], [.ref r, .int (nI n), .int (nI t), .int 0], M)) rfl rfl rfl ?_
  refine ps_get (S' := (13, [(0, .ref r), (1, .int (nI t))], [.int (nI p), .int (nI n), .int (nI t), .int 0], M)) rfl h_r rfl rfl ?_
  refine ps_st (S' := (14, [(0, .ref r), (1, .int (nI t))], [.int ((nI n) - (nI p)), .int (nI t), .int 0], M)) rfl rfl rfl ?_
  rw [nI_sub1 (p := n) (k := p) (x := (nI p)) rfl (by omega) (by omega)]
  show pl _ _ _ (_, [(0, .ref r), (1, .int (nI t))], [.int (nI (n - p)), .int (nI t), .int 0], M) _
  refine ps_st (S' := (16, [(0, .ref r), (1, .int (nI t))], [.int 8, .int (nI (n - p)), .int (nI t), .int 0], M)) rfl rfl rfl ?_
  refine ps_st (S' := (17, [(0, .ref r), (1, .int (nI t))], [.int ((nI (n - p)) / 8), .int (nI t), .int 0], M)) rfl rfl rfl ?_
  rw [ndiv_nI (k := 8) rfl (by decide) (by omega)]
  show pl _ _ _ (_, [(0, .ref r), (1, .int (nI t))], [.int (nI ((n - p) / 8)), .int (nI t), .int 0], M) _
  refine ps_st (S' := (20, [(0, .ref r), (1, .int (nI t))], [.int (if (nI ((n - p) / 8)) < (nI t) then (nI ((n - p) / 8)) else (nI t)), .int 0], M)) rfl rfl rfl ?_
  rw [nmin_nI (by omega) (by omega)]
  show pl _ _ _ (_, [(0, .ref r), (1, .int (nI t))], [.int (nI (min t ((n - p) / 8))), .int 0], M) _
  refine ps_st (S' := (23, [(0, .ref r), (1, .int (nI t))], [.int (if 0 < (nI (min t ((n - p) / 8))) then (nI (min t ((n - p) / 8))) else 0)], M)) rfl rfl rfl ?_
  rw [nmax0 (by omega)]
  show pl _ _ _ (_, [(0, .ref r), (1, .int (nI t))], [.int (nI (min t ((n - p) / 8)))], M) _
  exact ps_reti rfl (⟨rfl, rfl⟩)
set_option maxHeartbeats 1000000 in
theorem dk_member0 {g : xe_G} {M : mi_H} {f : Nat → Int32} {n b da o6 p : Nat} (h_o6 : M.1 o6 = some (ob 6 [.int 0, .int 0, .int 0, .int 0, .int 0, .int 0, .int 0, .int 0, .int 0, .int 0, .null])) (h_b : M.1 b = some (ob 1 [.ref da])) (h_da : M.1 da = some (ar .byte n f)) (hn : n ≤ 65540) (hin : p + 8 ≤ n) : pt (mT g) 106 [.ref o6, .ref b, .int (nI p)] M (fun v M' => (v = none ∧ M'.1 o6 = some (ob 6 [.int (nI p), .int (nI (by2 f p)), .int (nI (by2 f (p + 2))), .int (nI (by2 f (p + 4))), .int (nI (by2 f (p + 6))), .int (nI (p + 8)), .int 0, .int 0, .int 0, .int 0, .null]) ∧ fm [o6] M M')) := by
  refine pt_in (b := mb_106 g) rfl (fun kf => ?_)
  show pl (mT g) kf (mb_106 g).2 (0, [(0, .ref o6), (1, .ref b), (2, .int (nI p))], [], M) _
  have hF : fm [o6] M M := fm.rf
  refine ps_st (S' := (1, [(0, .ref o6), (1, .ref b), (2, .int (nI p))], [.ref o6], M)) rfl rfl rfl ?_
  refine ps_st (S' := (4, [(0, .ref o6), (1, .ref b), (2, .int (nI p))], [], M)) rfl rfl rfl ?_
  refine ps_st (S' := (5, [(0, .ref o6), (1, .ref b), (2, .int (nI p))], [.ref o6], M)) rfl rfl rfl ?_
  refine ps_st (S' := (6, [(0, .ref o6), (1, .ref b), (2, .int (nI p))], [.int (nI p), .ref o6], M)) rfl rfl rfl ?_
  refine ps_put (l' := [.int (nI p), .int 0, .int 0, .int 0, .int 0, .int 0, .int 0, .int 0, .int 0, .int 0, .null]) rfl h_o6 rfl rfl (fun M1 h2 f3 z4 => ?_)
  have h5 := (f3 b (ob_ne h_b h_o6 (by decide))).trans h_b
  have h6 := (f3 da (Ne.symm (ob_ar h_o6 h_da))).trans h_da
  have hF7 := hF.up (by simp) f3 z4
  show pl _ _ _ (9, [(0, .ref o6), (1, .ref b), (2, .int (nI p))], [], M1) _
  refine ps_st (S' := (10, [(0, .ref o6), (1, .ref b), (2, .int (nI p))], [.ref o6], M1)) rfl rfl rfl ?_
  refine ps_st (S' := (11, [(0, .ref o6), (1, .ref b), (2, .int (nI p))], [.ref b, .ref o6], M1)) rfl rfl rfl ?_
  refine ps_st (S' := (12, [(0, .ref o6), (1, .ref b), (2, .int (nI p))], [.int (nI p), .ref b, .ref o6], M1)) rfl rfl rfl ?_
  refine pl_call (a := [.ref b, .int (nI p)]) (rest := [.ref o6]) rfl rfl rfl (dk_u2 (f := f) (n := n) (b := b) (da := da) (p := p) h5 h6 (hn) (by omega)) (fun v8 M9 q10 => ?_)
  obtain ⟨rfl, rfl⟩ := q10
  show pl _ _ _ (15, [(0, .ref o6), (1, .ref b), (2, .int (nI p))], [.int (nI (by2 f p)), .ref o6], M1) _
  have hu_12 := by2_lt f p
  refine ps_put (l' := [.int (nI p), .int (nI (by2 f p)), .int 0, .int 0, .int 0, .int 0, .int 0, .int 0, .int 0, .int 0, .null]) rfl h2 rfl rfl (fun M11 h12 f13 z14 => ?_)
  have h15 := (f13 b (ob_ne h5 h2 (by decide))).trans h5
  have h16 := (f13 da (Ne.symm (ob_ar h2 h6))).trans h6
  have hF17 := hF7.up (by simp) f13 z14
  show pl _ _ _ (18, [(0, .ref o6), (1, .ref b), (2, .int (nI p))], [], M11) _
  refine ps_st (S' := (19, [(0, .ref o6), (1, .ref b), (2, .int (nI p))], [.ref o6], M11)) rfl rfl rfl ?_
  refine ps_st (S' := (20, [(0, .ref o6), (1, .ref b), (2, .int (nI p))], [.ref b, .ref o6], M11)) rfl rfl rfl ?_
  refine ps_st (S' := (21, [(0, .ref o6), (1, .ref b), (2, .int (nI p))], [.int (nI p), .ref b, .ref o6], M11)) rfl rfl rfl ?_
  refine ps_st (S' := (22, [(0, .ref o6), (1, .ref b), (2, .int (nI p))], [.int 2, .int (nI p), .ref b, .ref o6], M11)) rfl rfl rfl ?_
  refine ps_st (S' := (23, [(0, .ref o6), (1, .ref b), (2, .int (nI p))], [.int ((nI p) + 2), .ref b, .ref o6], M11)) rfl rfl rfl ?_
  rw [nI_add1 (p := p) (k := 2) (x := 2) rfl (by omega)]
  show pl _ _ _ (_, [(0, .ref o6), (1, .ref b), (2, .int (nI p))], [.int (nI (p + 2)), .ref b, .ref o6], M11) _
  refine pl_call (a := [.ref b, .int (nI (p + 2))]) (rest := [.ref o6]) rfl rfl rfl (dk_u2 (f := f) (n := n) (b := b) (da := da) (p := (p + 2)) h15 h16 (hn) (by omega)) (fun v18 M19 q20 => ?_)
  obtain ⟨rfl, rfl⟩ := q20
  show pl _ _ _ (26, [(0, .ref o6), (1, .ref b), (2, .int (nI p))], [.int (nI (by2 f (p + 2))), .ref o6], M11) _
  have hu_23 := by2_lt f (p + 2)
  refine ps_put (l' := [.int (nI p), .int (nI (by2 f p)), .int (nI (by2 f (p + 2))), .int 0, .int 0, .int 0, .int 0, .int 0, .int 0, .int 0, .null]) rfl h12 rfl rfl (fun M21 h22 f23 z24 => ?_)
  have h25 := (f23 b (ob_ne h15 h12 (by decide))).trans h15
  have h26 := (f23 da (Ne.symm (ob_ar h12 h16))).trans h16
  have hF27 := hF17.up (by simp) f23 z24
  show pl _ _ _ (29, [(0, .ref o6), (1, .ref b), (2, .int (nI p))], [], M21) _
  refine ps_st (S' := (30, [(0, .ref o6), (1, .ref b), (2, .int (nI p))], [.ref o6], M21)) rfl rfl rfl ?_
  refine ps_st (S' := (31, [(0, .ref o6), (1, .ref b), (2, .int (nI p))], [.ref b, .ref o6], M21)) rfl rfl rfl ?_
  refine ps_st (S' := (32, [(0, .ref o6), (1, .ref b), (2, .int (nI p))], [.int (nI p), .ref b, .ref o6], M21)) rfl rfl rfl ?_
  refine ps_st (S' := (33, [(0, .ref o6), (1, .ref b), (2, .int (nI p))], [.int 4, .int (nI p), .ref b, .ref o6], M21)) rfl rfl rfl ?_
  refine ps_st (S' := (34, [(0, .ref o6), (1, .ref b), (2, .int (nI p))], [.int ((nI p) + 4), .ref b, .ref o6], M21)) rfl rfl rfl ?_
  rw [nI_add1 (p := p) (k := 4) (x := 4) rfl (by omega)]
  show pl _ _ _ (_, [(0, .ref o6), (1, .ref b), (2, .int (nI p))], [.int (nI (p + 4)), .ref b, .ref o6], M21) _
  refine pl_call (a := [.ref b, .int (nI (p + 4))]) (rest := [.ref o6]) rfl rfl rfl (dk_u2 (f := f) (n := n) (b := b) (da := da) (p := (p + 4)) h25 h26 (hn) (by omega)) (fun v28 M29 q30 => ?_)
  obtain ⟨rfl, rfl⟩ := q30
  show pl _ _ _ (37, [(0, .ref o6), (1, .ref b), (2, .int (nI p))], [.int (nI (by2 f (p + 4))), .ref o6], M21) _
  have hu_34 := by2_lt f (p + 4)
  refine ps_put (l' := [.int (nI p), .int (nI (by2 f p)), .int (nI (by2 f (p + 2))), .int (nI (by2 f (p + 4))), .int 0, .int 0, .int 0, .int 0, .int 0, .int 0, .null]) rfl h22 rfl rfl (fun M31 h32 f33 z34 => ?_)
  have h35 := (f33 b (ob_ne h25 h22 (by decide))).trans h25
  have h36 := (f33 da (Ne.symm (ob_ar h22 h26))).trans h26
  have hF37 := hF27.up (by simp) f33 z34
  show pl _ _ _ (40, [(0, .ref o6), (1, .ref b), (2, .int (nI p))], [], M31) _
  refine ps_st (S' := (41, [(0, .ref o6), (1, .ref b), (2, .int (nI p))], [.ref o6], M31)) rfl rfl rfl ?_
  refine ps_st (S' := (42, [(0, .ref o6), (1, .ref b), (2, .int (nI p))], [.ref b, .ref o6], M31)) rfl rfl rfl ?_
  refine ps_st (S' := (43, [(0, .ref o6), (1, .ref b), (2, .int (nI p))], [.int (nI p), .ref b, .ref o6], M31)) rfl rfl rfl ?_
  refine ps_st (S' := (45, [(0, .ref o6), (1, .ref b), (2, .int (nI p))], [.int 6, .int (nI p), .ref b, .ref o6], M31)) rfl rfl rfl ?_
  refine ps_st (S' := (46, [(0, .ref o6), (1, .ref b), (2, .int (nI p))], [.int ((nI p) + 6), .ref b, .ref o6], M31)) rfl rfl rfl ?_
  rw [nI_add1 (p := p) (k := 6) (x := 6) rfl (by omega)]
  show pl _ _ _ (_, [(0, .ref o6), (1, .ref b), (2, .int (nI p))], [.int (nI (p + 6)), .ref b, .ref o6], M31) _
  refine pl_call (a := [.ref b, .int (nI (p + 6))]) (rest := [.ref o6]) rfl rfl rfl (dk_u2 (f := f) (n := n) (b := b) (da := da) (p := (p + 6)) h35 h36 (hn) (by omega)) (fun v38 M39 q40 => ?_)
  obtain ⟨rfl, rfl⟩ := q40
  show pl _ _ _ (49, [(0, .ref o6), (1, .ref b), (2, .int (nI p))], [.int (nI (by2 f (p + 6))), .ref o6], M31) _
  have hu_46 := by2_lt f (p + 6)
  refine ps_put (l' := [.int (nI p), .int (nI (by2 f p)), .int (nI (by2 f (p + 2))), .int (nI (by2 f (p + 4))), .int (nI (by2 f (p + 6))), .int 0, .int 0, .int 0, .int 0, .int 0, .null]) rfl h32 rfl rfl (fun M41 h42 f43 z44 => ?_)
  have h45 := (f43 b (ob_ne h35 h32 (by decide))).trans h35
  have h46 := (f43 da (Ne.symm (ob_ar h32 h36))).trans h36
  have hF47 := hF37.up (by simp) f43 z44
  show pl _ _ _ (52, [(0, .ref o6), (1, .ref b), (2, .int (nI p))], [], M41) _
  refine ps_st (S' := (53, [(0, .ref o6), (1, .ref b), (2, .int (nI p))], [.ref o6], M41)) rfl rfl rfl ?_
  refine ps_st (S' := (54, [(0, .ref o6), (1, .ref b), (2, .int (nI p))], [.int (nI p), .ref o6], M41)) rfl rfl rfl ?_
  refine ps_st (S' := (56, [(0, .ref o6), (1, .ref b), (2, .int (nI p))], [.int 8, .int (nI p), .ref o6], M41)) rfl rfl rfl ?_
  refine ps_st (S' := (57, [(0, .ref o6), (1, .ref b), (2, .int (nI p))], [.int ((nI p) + 8), .ref o6], M41)) rfl rfl rfl ?_
  rw [nI_add1 (p := p) (k := 8) (x := 8) rfl (by omega)]
  show pl _ _ _ (_, [(0, .ref o6), (1, .ref b), (2, .int (nI p))], [.int (nI (p + 8)), .ref o6], M41) _
  refine ps_put (l' := [.int (nI p), .int (nI (by2 f p)), .int (nI (by2 f (p + 2))), .int (nI (by2 f (p + 4))), .int (nI (by2 f (p + 6))), .int (nI (p + 8)), .int 0, .int 0, .int 0, .int 0, .null]) rfl h42 rfl rfl (fun M48 h49 f50 z51 => ?_)
  have h52 := (f50 b (ob_ne h45 h42 (by decide))).trans h45
  have h53 := (f50 da (Ne.symm (ob_ar h42 h46))).trans h46
  have hF54 := hF47.up (by simp) f50 z51
  show pl _ _ _ (60, [(0, .ref o6), (1, .ref b), (2, .int (nI p))], [], M48) _
  exact ps_ret rfl rfl (⟨rfl, h49, hF54⟩)
set_option maxHeartbeats 1000000 in
theorem dk_takesMembers {g : xe_G} {M : mi_H} {r c b vd da n p : Nat} {f : Nat → Int32} {it ru wa : Int32} {mm t cap : Nat} (h_r : M.1 r = some (ob 9 [.ref c, .ref b, .ref vd, .int (nI p), .int it])) (h_b : M.1 b = some (ob 1 [.ref da])) (h_da : M.1 da = some (ar .byte n f)) (h_vd : M.1 vd = some (ob 10 [.int ru, .int wa])) (h_mm : M.1 mm = some (ro "ClassGate$Member" cap (fun _ => .null))) (hn : n ≤ 65540) (hp : p ≤ n) (ht : t < 65536) (hcap : cap = min t ((n - p) / 8)) (l_r : r < M.2.1) (l_b : b < M.2.1) (l_da : da < M.2.1) (l_vd : vd < M.2.1) (l_mm : mm < M.2.1) : pt (mT g) 167 [.ref r, .ref mm, .int (nI t)] M (fun v M' => (∃ (p' : Nat) (it' : Int32), (s_mems f n t p = .inr p') ∧ (MV f (mbs f n t p) mm (fun i => M.2.1 + i) 0 M') ∧ v = some (.int 1) ∧ M'.1 r = some (ob 9 [.ref c, .ref b, .ref vd, .int (nI p'), .int it']) ∧ M'.1 vd = some (ob 10 [.int ru, .int wa]) ∧ gm [r, vd, mm] M M' ∧ M.2.1 ≤ M'.2.1) ∨ (∃ (e : Nat × Nat), (s_mems f n t p = .inl e) ∧ v = some (.int 0) ∧ M'.1 vd = some (ob 10 [.int (nI e.1), .int (nI e.2)]) ∧ gm [r, vd, mm] M M' ∧ M.2.1 ≤ M'.2.1)) := by
  refine pt_in (b := mb_167 g) rfl (fun kf => ?_)
  show pl (mT g) kf (mb_167 g).2 (0, [(0, .ref r), (1, .ref mm), (2, .int (nI t))], [], M) _
  have hF : gm [r, vd, mm] M M := gm.rf
  obtain ⟨z0, tp0⟩ : ∃ z0, M.2.1 = z0 := ⟨_, rfl⟩
  have hW : MR f [] z0 0 M := fun j hj => by omega
  have LL : ∀ (kf : Nat), (∀ (i p1 : Nat) (B : List Nat) (it1 : Int32) (R : Nat → Value) (M1 : mi_H), (M1.1 r = some (ob 9 [.ref c, .ref b, .ref vd, .int (nI p1), .int it1])) → (M1.1 b = some (ob 1 [.ref da])) → (M1.1 da = some (ar .byte n f)) → (M1.1 vd = some (ob 10 [.int ru, .int wa])) → (M1.1 mm = some (ro "ClassGate$Member" cap R)) → (MR f B z0 i M1) → (gm [r, vd, mm] M M1) → (M1.2.1 = z0 + i) → (i ≤ t) → (p + 8 * i ≤ p1 ∧ p1 ≤ n) → (B.length = i) → (∀ j, j < i → R j = .ref (z0 + j)) → (s_mems f n (t - i) p1 = s_mems f n t p) → (B ++ mbs f n (t - i) p1 = mbs f n t p) →  pl (mT g) kf (mb_167 g).2 (2, [(0, .ref r), (1, .ref mm), (2, .int (nI t)), (3, .int (nI i))], [], M1) (fun v M' => (∃ (p' : Nat) (it' : Int32), (s_mems f n t p = .inr p') ∧ (MV f (mbs f n t p) mm (fun i => M.2.1 + i) 0 M') ∧ v = some (.int 1) ∧ M'.1 r = some (ob 9 [.ref c, .ref b, .ref vd, .int (nI p'), .int it']) ∧ M'.1 vd = some (ob 10 [.int ru, .int wa]) ∧ gm [r, vd, mm] M M' ∧ M.2.1 ≤ M'.2.1) ∨ (∃ (e : Nat × Nat), (s_mems f n t p = .inl e) ∧ v = some (.int 0) ∧ M'.1 vd = some (ob 10 [.int (nI e.1), .int (nI e.2)]) ∧ gm [r, vd, mm] M M' ∧ M.2.1 ≤ M'.2.1))) := by
    intro kf
    induction kf with
    | zero => exact (by intros; exact pl_0)
    | succ kf ih =>
      intro i p1 B it1 R M1 hl_r hl_b hl_da hl_vd hl_mm hW1 hF1 tp1 hi hp1 hB hR hs hb
      refine ps_st1 (S' := (3, [(0, .ref r), (1, .ref mm), (2, .int (nI t)), (3, .int (nI i))], [.int (nI i)], M1)) rfl rfl rfl ?_
      refine ps_st (S' := (4, [(0, .ref r), (1, .ref mm), (2, .int (nI t)), (3, .int (nI i))], [.int (nI t), .int (nI i)], M1)) rfl rfl rfl ?_
      refine ps_if2 (S1 := (74, [(0, .ref r), (1, .ref mm), (2, .int (nI t)), (3, .int (nI i))], [], M1)) (S2 := (7, [(0, .ref r), (1, .ref mm), (2, .int (nI t)), (3, .int (nI i))], [], M1)) rfl rfl rfl (fun c_4 => ?_) (fun c_4 => ?_)
      · have c_4 : (nI t) ≤ (nI i) := of_decide_eq_true c_4
        have n_4 : t ≤ i := (le_nI (p := t) (n := i) (by omega) (by omega)).mp c_4
        refine ps_st (S' := (75, [(0, .ref r), (1, .ref mm), (2, .int (nI t)), (3, .int (nI i))], [.int 1], M1)) rfl rfl rfl ?_
        exact ps_ret rfl rfl (Or.inl ⟨p1, _, by rw [← hs, show t - i = 0 by omega]; rfl, by
            have e9 : B = mbs f n t p := by rw [← hb, show t - i = 0 by omega, mbs, List.append_nil]
            have e8 : cap = i := by omega
            have hm8 := hl_mm
            rw [e8] at hm8
            rw [← e9, tp0]
            exact hW1.mv hB hm8 hR (by omega), rfl, hl_r, hl_vd, hF1, hF1.2⟩)
      · have c_4 : ¬ ((nI t) ≤ (nI i)) := of_decide_eq_false c_4
        have n_4 : ¬ (t ≤ i) := fun h9 => c_4 ((le_nI (p := t) (n := i) (by omega) (by omega)).mpr h9)
        refine ps_st (S' := (8, [(0, .ref r), (1, .ref mm), (2, .int (nI t)), (3, .int (nI i))], [.ref r], M1)) rfl rfl rfl ?_
        refine ps_get (S' := (11, [(0, .ref r), (1, .ref mm), (2, .int (nI t)), (3, .int (nI i))], [.int (nI p1)], M1)) rfl hl_r rfl rfl ?_
        refine ps_st (S' := (13, [(4, .int (nI p1)), (0, .ref r), (1, .ref mm), (2, .int (nI t)), (3, .int (nI i))], [], M1)) rfl rfl rfl ?_
        refine ps_st (S' := (14, [(4, .int (nI p1)), (0, .ref r), (1, .ref mm), (2, .int (nI t)), (3, .int (nI i))], [.ref r], M1)) rfl rfl rfl ?_
        refine ps_st (S' := (15, [(4, .int (nI p1)), (0, .ref r), (1, .ref mm), (2, .int (nI t)), (3, .int (nI i))], [.int 2, .ref r], M1)) rfl rfl rfl ?_
        refine pl_call (a := [.ref r, .int 2]) (rest := []) rfl rfl rfl (dk_takes2 (r := r) (c := c) (b := b) (vd := vd) (da := da) (n := n) (p := p1) (f := f) (it := it1) (ru := ru) (wa := wa) hl_r hl_b hl_da hl_vd (hn) (by omega)) (fun v1 M2 q3 => ?_)
        rcases q3 with q3 | q3
        · skip
          obtain ⟨q15_s, rfl, h4, h5, f6⟩ := q3
          have h8 := (f6.1 b (nin2 (ob_ne hl_b hl_r (by decide)) (ob_ne hl_b hl_vd (by decide)))).trans hl_b
          have h9 := (f6.1 da (nin2 (Ne.symm (ob_ar hl_r hl_da)) (Ne.symm (ob_ar hl_vd hl_da)))).trans hl_da
          have h10 := (f6.1 mm (nin2 (Ne.symm (ob_ro hl_r hl_mm)) (Ne.symm (ob_ro hl_vd hl_mm)))).trans hl_mm
          have hF11 := hF1.trf f6 (by intro z hz; simp only [List.mem_cons, List.not_mem_nil, or_false] at hz ⊢; try omega)
          have tp12 : M2.2.1 = z0 + i := by rw [f6.2]; exact tp1
          have hV13 := hW1.keep f6.gm (nMc (by omega) (nMc (by omega) (nMnil)))
          show pl _ _ _ (18, [(4, .int (nI p1)), (0, .ref r), (1, .ref mm), (2, .int (nI t)), (3, .int (nI i))], [.int 1], M2) _
          refine ps_if (S1 := (44, [], [], M2)) (S2 := (21, [(4, .int (nI p1)), (0, .ref r), (1, .ref mm), (2, .int (nI t)), (3, .int (nI i))], [], M2)) rfl rfl rfl (fun c_18 => ?_) (fun c_18 => ?_)
          · exact absurd (of_decide_eq_true c_18) (by decide)
          refine ps_st (S' := (22, [(4, .int (nI p1)), (0, .ref r), (1, .ref mm), (2, .int (nI t)), (3, .int (nI i))], [.ref r], M2)) rfl rfl rfl ?_
          refine ps_st (S' := (23, [(4, .int (nI p1)), (0, .ref r), (1, .ref mm), (2, .int (nI t)), (3, .int (nI i))], [.int 2, .ref r], M2)) rfl rfl rfl ?_
          refine pl_call (a := [.ref r, .int 2]) (rest := []) rfl rfl rfl (dk_takes2 (r := r) (c := c) (b := b) (vd := vd) (da := da) (n := n) (p := (p1 + 2)) (f := f) (it := (nI (by2 f p1))) (ru := ru) (wa := wa) h4 h8 h9 h5 (hn) (by omega)) (fun v14 M15 q16 => ?_)
          rcases q16 with q16 | q16
          · skip
            obtain ⟨q23_s, rfl, h17, h18, f19⟩ := q16
            have h21 := (f19.1 b (nin2 (ob_ne h8 h4 (by decide)) (ob_ne h8 h5 (by decide)))).trans h8
            have h22 := (f19.1 da (nin2 (Ne.symm (ob_ar h4 h9)) (Ne.symm (ob_ar h5 h9)))).trans h9
            have h23 := (f19.1 mm (nin2 (Ne.symm (ob_ro h4 h10)) (Ne.symm (ob_ro h5 h10)))).trans h10
            have hF24 := hF11.trf f19 (by intro z hz; simp only [List.mem_cons, List.not_mem_nil, or_false] at hz ⊢; try omega)
            have tp25 : M15.2.1 = z0 + i := by rw [f19.2]; exact tp12
            have hV26 := hV13.keep f19.gm (nMc (by omega) (nMc (by omega) (nMnil)))
            show pl _ _ _ (26, [(4, .int (nI p1)), (0, .ref r), (1, .ref mm), (2, .int (nI t)), (3, .int (nI i))], [.int 1], M15) _
            refine ps_if (S1 := (44, [], [], M15)) (S2 := (29, [(4, .int (nI p1)), (0, .ref r), (1, .ref mm), (2, .int (nI t)), (3, .int (nI i))], [], M15)) rfl rfl rfl (fun c_26 => ?_) (fun c_26 => ?_)
            · exact absurd (of_decide_eq_true c_26) (by decide)
            refine ps_st (S' := (30, [(4, .int (nI p1)), (0, .ref r), (1, .ref mm), (2, .int (nI t)), (3, .int (nI i))], [.ref r], M15)) rfl rfl rfl ?_
            refine ps_st (S' := (31, [(4, .int (nI p1)), (0, .ref r), (1, .ref mm), (2, .int (nI t)), (3, .int (nI i))], [.int 2, .ref r], M15)) rfl rfl rfl ?_
            refine pl_call (a := [.ref r, .int 2]) (rest := []) rfl rfl rfl (dk_takes2 (r := r) (c := c) (b := b) (vd := vd) (da := da) (n := n) (p := (p1 + 4)) (f := f) (it := (nI (by2 f (p1 + 2)))) (ru := ru) (wa := wa) h17 h21 h22 h18 (hn) (by omega)) (fun v27 M28 q29 => ?_)
            rcases q29 with q29 | q29
            · skip
              obtain ⟨q31_s, rfl, h30, h31, f32⟩ := q29
              have h34 := (f32.1 b (nin2 (ob_ne h21 h17 (by decide)) (ob_ne h21 h18 (by decide)))).trans h21
              have h35 := (f32.1 da (nin2 (Ne.symm (ob_ar h17 h22)) (Ne.symm (ob_ar h18 h22)))).trans h22
              have h36 := (f32.1 mm (nin2 (Ne.symm (ob_ro h17 h23)) (Ne.symm (ob_ro h18 h23)))).trans h23
              have hF37 := hF24.trf f32 (by intro z hz; simp only [List.mem_cons, List.not_mem_nil, or_false] at hz ⊢; try omega)
              have tp38 : M28.2.1 = z0 + i := by rw [f32.2]; exact tp25
              have hV39 := hV26.keep f32.gm (nMc (by omega) (nMc (by omega) (nMnil)))
              show pl _ _ _ (34, [(4, .int (nI p1)), (0, .ref r), (1, .ref mm), (2, .int (nI t)), (3, .int (nI i))], [.int 1], M28) _
              refine ps_if (S1 := (44, [], [], M28)) (S2 := (37, [(4, .int (nI p1)), (0, .ref r), (1, .ref mm), (2, .int (nI t)), (3, .int (nI i))], [], M28)) rfl rfl rfl (fun c_34 => ?_) (fun c_34 => ?_)
              · exact absurd (of_decide_eq_true c_34) (by decide)
              refine ps_st (S' := (38, [(4, .int (nI p1)), (0, .ref r), (1, .ref mm), (2, .int (nI t)), (3, .int (nI i))], [.ref r], M28)) rfl rfl rfl ?_
              refine pl_call (a := [.ref r]) (rest := []) rfl rfl rfl (dk_takesAttributes (r := r) (c := c) (b := b) (vd := vd) (da := da) (n := n) (p := (p1 + 6)) (f := f) (it := (nI (by2 f (p1 + 4)))) (ru := ru) (wa := wa) h30 h34 h35 h31 (hn) (by omega)) (fun v40 M41 q42 => ?_)
              rcases q42 with q42 | q42
              · skip
                obtain ⟨p'43, it'44, q38_s, rfl, h45, h46, f47⟩ := q42
                have h49 := (f47.1 b (nin2 (ob_ne h34 h30 (by decide)) (ob_ne h34 h31 (by decide)))).trans h34
                have h50 := (f47.1 da (nin2 (Ne.symm (ob_ar h30 h35)) (Ne.symm (ob_ar h31 h35)))).trans h35
                have h51 := (f47.1 mm (nin2 (Ne.symm (ob_ro h30 h36)) (Ne.symm (ob_ro h31 h36)))).trans h36
                have hF52 := hF37.trf f47 (by intro z hz; simp only [List.mem_cons, List.not_mem_nil, or_false] at hz ⊢; try omega)
                have tp53 : M41.2.1 = z0 + i := by rw [f47.2]; exact tp38
                have hV54 := hV39.keep f47.gm (nMc (by omega) (nMc (by omega) (nMnil)))
                show pl _ _ _ (41, [(4, .int (nI p1)), (0, .ref r), (1, .ref mm), (2, .int (nI t)), (3, .int (nI i))], [.int 1], M41) _
                have hle_38 := s_attributes_le2 q38_s
                refine ps_if (S1 := (46, [(4, .int (nI p1)), (0, .ref r), (1, .ref mm), (2, .int (nI t)), (3, .int (nI i))], [], M41)) (S2 := (44, [], [], M41)) rfl rfl rfl (fun c_41 => ?_) (fun c_41 => ?_)
                rotate_left
                · exact absurd (by decide) (of_decide_eq_false c_41)
                refine ps_st (S' := (47, [(4, .int (nI p1)), (0, .ref r), (1, .ref mm), (2, .int (nI t)), (3, .int (nI i))], [.int (nI i)], M41)) rfl rfl rfl ?_
                refine ps_st (S' := (48, [(4, .int (nI p1)), (0, .ref r), (1, .ref mm), (2, .int (nI t)), (3, .int (nI i))], [.ref mm, .int (nI i)], M41)) rfl rfl rfl ?_
                refine ps_aalen (S' := (49, [(4, .int (nI p1)), (0, .ref r), (1, .ref mm), (2, .int (nI t)), (3, .int (nI i))], [.int (nI cap), .int (nI i)], M41)) rfl h51 rfl ?_
                refine ps_if2 (S1 := (68, [(0, .ref r), (1, .ref mm), (2, .int (nI t)), (3, .int (nI i))], [], M41)) (S2 := (52, [(4, .int (nI p1)), (0, .ref r), (1, .ref mm), (2, .int (nI t)), (3, .int (nI i))], [], M41)) rfl rfl rfl (fun c_49 => ?_) (fun c_49 => ?_)
                · exact absurd (of_decide_eq_true c_49) (fun h9 => absurd ((le_nI (p := cap) (n := i) (by omega) (by omega)).mp h9) (by omega))
                refine ps_st (S' := (53, [(4, .int (nI p1)), (0, .ref r), (1, .ref mm), (2, .int (nI t)), (3, .int (nI i))], [.ref mm], M41)) rfl rfl rfl ?_
                refine ps_st (S' := (54, [(4, .int (nI p1)), (0, .ref r), (1, .ref mm), (2, .int (nI t)), (3, .int (nI i))], [.int (nI i), .ref mm], M41)) rfl rfl rfl ?_
                refine ps_newz rfl tp53 (fun M55 h56 f57 tp58 => ?_)
                have h59 := (f57 r (show r ≠ (z0 + i) by omega)).trans h45
                have h60 := (f57 b (show b ≠ (z0 + i) by omega)).trans h49
                have h61 := (f57 da (show da ≠ (z0 + i) by omega)).trans h50
                have h62 := (f57 vd (show vd ≠ (z0 + i) by omega)).trans h46
                have h63 := (f57 mm (show mm ≠ (z0 + i) by omega)).trans h51
                have hV64 := hV54.new tp53 f57 tp58
                have hF65 := hF52.up (Or.inr (by omega)) f57 (by omega)
                show pl _ _ _ (57, [(4, .int (nI p1)), (0, .ref r), (1, .ref mm), (2, .int (nI t)), (3, .int (nI i))], [.ref (z0 + i), .int (nI i), .ref mm], M55) _
                refine ps_st (S' := (58, [(4, .int (nI p1)), (0, .ref r), (1, .ref mm), (2, .int (nI t)), (3, .int (nI i))], [.ref (z0 + i), .ref (z0 + i), .int (nI i), .ref mm], M55)) rfl rfl rfl ?_
                refine ps_st (S' := (59, [(4, .int (nI p1)), (0, .ref r), (1, .ref mm), (2, .int (nI t)), (3, .int (nI i))], [.ref r, .ref (z0 + i), .ref (z0 + i), .int (nI i), .ref mm], M55)) rfl rfl rfl ?_
                refine ps_get (S' := (62, [(4, .int (nI p1)), (0, .ref r), (1, .ref mm), (2, .int (nI t)), (3, .int (nI i))], [.ref b, .ref (z0 + i), .ref (z0 + i), .int (nI i), .ref mm], M55)) rfl h59 rfl rfl ?_
                refine ps_st (S' := (64, [(4, .int (nI p1)), (0, .ref r), (1, .ref mm), (2, .int (nI t)), (3, .int (nI i))], [.int (nI p1), .ref b, .ref (z0 + i), .ref (z0 + i), .int (nI i), .ref mm], M55)) rfl rfl rfl ?_
                refine pl_call (a := [.ref (z0 + i), .ref b, .int (nI p1)]) (rest := [.ref (z0 + i), .int (nI i), .ref mm]) rfl rfl rfl (dk_member0 (f := f) (n := n) (b := b) (da := da) (o6 := (z0 + i)) (p := p1) h56 h60 h61 (hn) (by omega)) (fun v66 M67 q68 => ?_)
                obtain ⟨rfl, h69, f70⟩ := q68
                have h72 := (f70.1 r (nin1 (show r ≠ (z0 + i) by omega))).trans h59
                have h73 := (f70.1 b (nin1 (show b ≠ (z0 + i) by omega))).trans h60
                have h74 := (f70.1 da (nin1 (show da ≠ (z0 + i) by omega))).trans h61
                have h75 := (f70.1 vd (nin1 (show vd ≠ (z0 + i) by omega))).trans h62
                have h76 := (f70.1 mm (nin1 (show mm ≠ (z0 + i) by omega))).trans h63
                have hF77 := hF65.trf f70 (by intro z hz; simp only [List.mem_cons, List.not_mem_nil, or_false] at hz ⊢; try omega)
                have tp78 : M67.2.1 = z0 + i + 1 := by rw [f70.2]; exact tp58
                have hV79 := hV64.keep f70.gm (nMc (by omega) (nMnil))
                show pl _ _ _ (67, [(4, .int (nI p1)), (0, .ref r), (1, .ref mm), (2, .int (nI t)), (3, .int (nI i))], [.ref (z0 + i), .int (nI i), .ref mm], M67) _
                refine ps_aast rfl h76 (by omega) (fun M80 i1_67 h81 f82 z83 => ?_)
                have h84 := (f82 r (ob_ro h72 h76)).trans h72
                have h85 := (f82 b (ob_ro h73 h76)).trans h73
                have h86 := (f82 da (ar_ro h74 h76 (by decide))).trans h74
                have h87 := (f82 vd (ob_ro h75 h76)).trans h75
                have h88 := (f82 (z0 + i) (show (z0 + i) ≠ mm by omega)).trans h69
                have hV89 := hV79.put (by omega) f82 z83
                have hF90 := hF77.up (Or.inl (by simp)) f82 (by rw [z83]; exact Nat.le_refl _)
                have tp91 : M80.2.1 = z0 + i + 1 := by rw [z83]; exact tp78
                show pl _ _ _ (68, [(0, .ref r), (1, .ref mm), (2, .int (nI t)), (3, .int (nI i))], [], M80) _
                refine ps_st (S' := (71, [(3, .int ((nI i) + 1)), (0, .ref r), (1, .ref mm), (2, .int (nI t))], [], M80)) rfl rfl rfl ?_
                rw [nI_add1 (p := i) (k := 1) (x := 1) rfl (by omega)]
                show pl _ _ _ (_, [(3, .int (nI (i + 1))), (0, .ref r), (1, .ref mm), (2, .int (nI t))], [], M80) _
                refine ps_st (S' := (2, [(0, .ref r), (1, .ref mm), (2, .int (nI t)), (3, .int (nI (i + 1)))], [], M80)) rfl rfl rfl ?_
                have hW9 := hV89.snoc hB h88 (by omega)
                exact ih (i + 1) (p'43) (B ++ [p1]) (it'44) ((upv R i (.ref (z0 + i)))) M80 h84 h85 h86 h87 h81 hW9 hF90 (tp91) (by omega) (by omega) (by simp [hB]) (upv_to hR) (by
                    rw [← hs, s_mems_st (i := i) (p := p1) (by omega)]
                    rw [if_neg (by omega), if_neg (by omega), if_neg (by omega), q38_s]
                    first | done | rfl) (by
                    rw [← hb, mbs_st (i := i) (p := p1) (by omega), q38_s]
                    simp)
              · skip
                obtain ⟨e92, q38_s, rfl, h93, f94⟩ := q42
                have h96 := (f94.1 b (nin2 (ob_ne h34 h30 (by decide)) (ob_ne h34 h31 (by decide)))).trans h34
                have h97 := (f94.1 da (nin2 (Ne.symm (ob_ar h30 h35)) (Ne.symm (ob_ar h31 h35)))).trans h35
                have h98 := (f94.1 mm (nin2 (Ne.symm (ob_ro h30 h36)) (Ne.symm (ob_ro h31 h36)))).trans h36
                have hF99 := hF37.trf f94 (by intro z hz; simp only [List.mem_cons, List.not_mem_nil, or_false] at hz ⊢; try omega)
                have tp100 : M41.2.1 = z0 + i := by rw [f94.2]; exact tp38
                have hV101 := hV39.keep f94.gm (nMc (by omega) (nMc (by omega) (nMnil)))
                show pl _ _ _ (41, [(4, .int (nI p1)), (0, .ref r), (1, .ref mm), (2, .int (nI t)), (3, .int (nI i))], [.int 0], M41) _
                refine ps_if (S1 := (46, [(4, .int (nI p1)), (0, .ref r), (1, .ref mm), (2, .int (nI t)), (3, .int (nI i))], [], M41)) (S2 := (44, [], [], M41)) rfl rfl rfl (fun c_41 => ?_) (fun c_41 => ?_)
                · exact absurd (of_decide_eq_true c_41) (by decide)
                refine ps_st (S' := (45, [], [.int 0], M41)) rfl rfl rfl ?_
                exact ps_ret rfl rfl (Or.inr ⟨e92, by
                    rw [← hs, s_mems_st (i := i) (p := p1) (by omega)]
                    rw [if_neg (by omega), if_neg (by omega), if_neg (by omega), q38_s]
                    first | done | rfl, rfl, h93, hF99, hF99.2⟩)
            · skip
              obtain ⟨q31_s, rfl, h102, h103, f104⟩ := q29
              have h106 := (f104.1 b (nin2 (ob_ne h21 h17 (by decide)) (ob_ne h21 h18 (by decide)))).trans h21
              have h107 := (f104.1 da (nin2 (Ne.symm (ob_ar h17 h22)) (Ne.symm (ob_ar h18 h22)))).trans h22
              have h108 := (f104.1 mm (nin2 (Ne.symm (ob_ro h17 h23)) (Ne.symm (ob_ro h18 h23)))).trans h23
              have hF109 := hF24.trf f104 (by intro z hz; simp only [List.mem_cons, List.not_mem_nil, or_false] at hz ⊢; try omega)
              have tp110 : M28.2.1 = z0 + i := by rw [f104.2]; exact tp25
              have hV111 := hV26.keep f104.gm (nMc (by omega) (nMc (by omega) (nMnil)))
              show pl _ _ _ (34, [(4, .int (nI p1)), (0, .ref r), (1, .ref mm), (2, .int (nI t)), (3, .int (nI i))], [.int 0], M28) _
              refine ps_if (S1 := (44, [], [], M28)) (S2 := (37, [(4, .int (nI p1)), (0, .ref r), (1, .ref mm), (2, .int (nI t)), (3, .int (nI i))], [], M28)) rfl rfl rfl (fun c_34 => ?_) (fun c_34 => ?_)
              rotate_left
              · exact absurd (by decide) (of_decide_eq_false c_34)
              refine ps_st (S' := (45, [], [.int 0], M28)) rfl rfl rfl ?_
              exact ps_ret rfl rfl (Or.inr ⟨(1, p1 + 4), by
                  rw [← hs, s_mems_st (i := i) (p := p1) (by omega)]
                  rw [if_neg (by omega), if_neg (by omega), if_pos (by omega)]
                  first | done | rfl, rfl, h103, hF109, hF109.2⟩)
          · skip
            obtain ⟨q23_s, rfl, h112, h113, f114⟩ := q16
            have h116 := (f114.1 b (nin2 (ob_ne h8 h4 (by decide)) (ob_ne h8 h5 (by decide)))).trans h8
            have h117 := (f114.1 da (nin2 (Ne.symm (ob_ar h4 h9)) (Ne.symm (ob_ar h5 h9)))).trans h9
            have h118 := (f114.1 mm (nin2 (Ne.symm (ob_ro h4 h10)) (Ne.symm (ob_ro h5 h10)))).trans h10
            have hF119 := hF11.trf f114 (by intro z hz; simp only [List.mem_cons, List.not_mem_nil, or_false] at hz ⊢; try omega)
            have tp120 : M15.2.1 = z0 + i := by rw [f114.2]; exact tp12
            have hV121 := hV13.keep f114.gm (nMc (by omega) (nMc (by omega) (nMnil)))
            show pl _ _ _ (26, [(4, .int (nI p1)), (0, .ref r), (1, .ref mm), (2, .int (nI t)), (3, .int (nI i))], [.int 0], M15) _
            refine ps_if (S1 := (44, [], [], M15)) (S2 := (29, [(4, .int (nI p1)), (0, .ref r), (1, .ref mm), (2, .int (nI t)), (3, .int (nI i))], [], M15)) rfl rfl rfl (fun c_26 => ?_) (fun c_26 => ?_)
            rotate_left
            · exact absurd (by decide) (of_decide_eq_false c_26)
            refine ps_st (S' := (45, [], [.int 0], M15)) rfl rfl rfl ?_
            exact ps_ret rfl rfl (Or.inr ⟨(1, p1 + 2), by
                rw [← hs, s_mems_st (i := i) (p := p1) (by omega)]
                rw [if_neg (by omega), if_pos (by omega)]
                first | done | rfl, rfl, h113, hF119, hF119.2⟩)
        · skip
          obtain ⟨q15_s, rfl, h122, h123, f124⟩ := q3
          have h126 := (f124.1 b (nin2 (ob_ne hl_b hl_r (by decide)) (ob_ne hl_b hl_vd (by decide)))).trans hl_b
          have h127 := (f124.1 da (nin2 (Ne.symm (ob_ar hl_r hl_da)) (Ne.symm (ob_ar hl_vd hl_da)))).trans hl_da
          have h128 := (f124.1 mm (nin2 (Ne.symm (ob_ro hl_r hl_mm)) (Ne.symm (ob_ro hl_vd hl_mm)))).trans hl_mm
          have hF129 := hF1.trf f124 (by intro z hz; simp only [List.mem_cons, List.not_mem_nil, or_false] at hz ⊢; try omega)
          have tp130 : M2.2.1 = z0 + i := by rw [f124.2]; exact tp1
          have hV131 := hW1.keep f124.gm (nMc (by omega) (nMc (by omega) (nMnil)))
          show pl _ _ _ (18, [(4, .int (nI p1)), (0, .ref r), (1, .ref mm), (2, .int (nI t)), (3, .int (nI i))], [.int 0], M2) _
          refine ps_if (S1 := (44, [], [], M2)) (S2 := (21, [(4, .int (nI p1)), (0, .ref r), (1, .ref mm), (2, .int (nI t)), (3, .int (nI i))], [], M2)) rfl rfl rfl (fun c_18 => ?_) (fun c_18 => ?_)
          rotate_left
          · exact absurd (by decide) (of_decide_eq_false c_18)
          refine ps_st (S' := (45, [], [.int 0], M2)) rfl rfl rfl ?_
          exact ps_ret rfl rfl (Or.inr ⟨(1, p1), by
              rw [← hs, s_mems_st (i := i) (p := p1) (by omega)]
              rw [if_pos (by omega)]
              first | done | rfl, rfl, h123, hF129, hF129.2⟩)
  refine ps_st (S' := (1, [(0, .ref r), (1, .ref mm), (2, .int (nI t))], [.int 0], M)) rfl rfl rfl ?_
  refine ps_st (S' := (2, [(0, .ref r), (1, .ref mm), (2, .int (nI t)), (3, .int 0)], [], M)) rfl rfl rfl ?_
  exact (LL kf) (0) (p) ([]) (it) (fun _ => .null) M h_r h_b h_da h_vd h_mm hW hF (tp0) (by omega) (by omega) (rfl) (fun j hj => by omega) (rfl) (rfl)
set_option maxHeartbeats 1000000 in
theorem dk_takesFields {g : xe_G} {M : mi_H} {r c b vd da n p q fa ic mj : Nat} {f : Nat → Int32} {it ru wa : Int32} {mi x8 x9 k1 k2 k3 k4 k5 k6 k7 : Int32} {u6 u7 : Value} (h_r : M.1 r = some (ob 9 [.ref c, .ref b, .ref vd, .int (nI p), .int it])) (h_b : M.1 b = some (ob 1 [.ref da])) (h_da : M.1 da = some (ar .byte n f)) (h_vd : M.1 vd = some (ob 10 [.int ru, .int wa])) (h_c : M.1 c = some (ob 3 [.ref b, .ref q, .int mi, .int (nI mj), .int (nI fa), .int (nI ic), u6, u7, .int x8, .int x9, .int k1, .int k2, .int k3, .int k4, .int k5, .int k6, .int k7])) (hn : n ≤ 65540) (hp : p ≤ n) (l_r : r < M.2.1) (l_b : b < M.2.1) (l_da : da < M.2.1) (l_vd : vd < M.2.1) (l_c : c < M.2.1) : pt (mT g) 164 [.ref r] M (fun v M' => (∃ (p' mm : Nat) (it' : Int32) (G : Nat → Nat), (s_mbs f n p = .inr p') ∧ (p + 2 ≤ n) ∧ (∀ i, M.2.1 ≤ G i) ∧ (MV f (mbs f n (by2 f p) (p + 2)) mm G 0 M') ∧ v = some (.int 1) ∧ M'.1 r = some (ob 9 [.ref c, .ref b, .ref vd, .int (nI p'), .int it']) ∧ M'.1 vd = some (ob 10 [.int ru, .int wa]) ∧ M'.1 c = some (ob 3 [.ref b, .ref q, .int mi, .int (nI mj), .int (nI fa), .int (nI ic), .ref mm, u7, .int x8, .int x9, .int k1, .int k2, .int k3, .int k4, .int k5, .int k6, .int k7]) ∧ gm [r, vd, c] M M' ∧ M.2.1 ≤ M'.2.1) ∨ (∃ (e : Nat × Nat), (s_mbs f n p = .inl e) ∧ v = some (.int 0) ∧ M'.1 vd = some (ob 10 [.int (nI e.1), .int (nI e.2)]) ∧ gm [r, vd, c] M M' ∧ M.2.1 ≤ M'.2.1)) := by
  refine pt_in (b := mb_164 g) rfl (fun kf => ?_)
  show pl (mT g) kf (mb_164 g).2 (0, [(0, .ref r)], [], M) _
  have hF : gm [r, vd, c] M M := gm.rf
  obtain ⟨z0, tp0⟩ : ∃ z0, M.2.1 = z0 := ⟨_, rfl⟩
  refine ps_st (S' := (1, [(0, .ref r)], [.ref r], M)) rfl rfl rfl ?_
  refine ps_st (S' := (2, [(0, .ref r)], [.int 2, .ref r], M)) rfl rfl rfl ?_
  refine pl_call (a := [.ref r, .int 2]) (rest := []) rfl rfl rfl (dk_takes2 (r := r) (c := c) (b := b) (vd := vd) (da := da) (n := n) (p := p) (f := f) (it := it) (ru := ru) (wa := wa) h_r h_b h_da h_vd (hn) (by omega)) (fun v1 M2 q3 => ?_)
  rcases q3 with q3 | q3
  · skip
    obtain ⟨q2_s, rfl, h4, h5, f6⟩ := q3
    have h8 := (f6.1 b (nin2 (ob_ne h_b h_r (by decide)) (ob_ne h_b h_vd (by decide)))).trans h_b
    have h9 := (f6.1 da (nin2 (Ne.symm (ob_ar h_r h_da)) (Ne.symm (ob_ar h_vd h_da)))).trans h_da
    have h10 := (f6.1 c (nin2 (ob_ne h_c h_r (by decide)) (ob_ne h_c h_vd (by decide)))).trans h_c
    have hF11 := hF.trf f6 (by intro z hz; simp only [List.mem_cons, List.not_mem_nil, or_false] at hz ⊢; try omega)
    have tp12 : M2.2.1 = z0 := by rw [f6.2]; exact tp0
    show pl _ _ _ (5, [(0, .ref r)], [.int 1], M2) _
    refine ps_if (S1 := (10, [(0, .ref r)], [], M2)) (S2 := (8, [(0, .ref r)], [], M2)) rfl rfl rfl (fun c_5 => ?_) (fun c_5 => ?_)
    rotate_left
    · exact absurd (by decide) (of_decide_eq_false c_5)
    refine ps_st (S' := (11, [(0, .ref r)], [.ref r], M2)) rfl rfl rfl ?_
    refine ps_get (S' := (14, [(0, .ref r)], [.ref c], M2)) rfl h4 rfl rfl ?_
    refine ps_st (S' := (15, [(0, .ref r)], [.ref r, .ref c], M2)) rfl rfl rfl ?_
    refine ps_st (S' := (16, [(0, .ref r)], [.ref r, .ref r, .ref c], M2)) rfl rfl rfl ?_
    refine ps_get (S' := (19, [(0, .ref r)], [.int (nI (by2 f p)), .ref r, .ref c], M2)) rfl h4 rfl rfl ?_
    refine pl_call (a := [.ref r, .int (nI (by2 f p))]) (rest := [.ref c]) rfl rfl rfl (dk_roomFor (r := r) (c := c) (b := b) (vd := vd) (da := da) (n := n) (p := (p + 2)) (f := f) (it := (nI (by2 f p))) (t := (by2 f p)) h4 h8 h9 (hn) (by omega) (by2_lt _ _)) (fun v13 M14 q15 => ?_)
    obtain ⟨rfl, rfl⟩ := q15
    show pl _ _ _ (22, [(0, .ref r)], [.int (nI (min (by2 f p) ((n - (p + 2)) / 8))), .ref c], M2) _
    refine ps_anew rfl tp12 (fun M16 i0_22 h17 f18 tp19 => ?_)
    rw [nI_toNat (by omega)] at h17
    have h20 := (f18 r (show r ≠ z0 by omega)).trans h4
    have h21 := (f18 b (show b ≠ z0 by omega)).trans h8
    have h22 := (f18 da (show da ≠ z0 by omega)).trans h9
    have h23 := (f18 vd (show vd ≠ z0 by omega)).trans h5
    have h24 := (f18 c (show c ≠ z0 by omega)).trans h10
    have hF25 := hF11.up (Or.inr (by omega)) f18 (by omega)
    show pl _ _ _ (25, [(0, .ref r)], [.ref z0, .ref c], M16) _
    refine ps_put (l' := [.ref b, .ref q, .int mi, .int (nI mj), .int (nI fa), .int (nI ic), .ref z0, u7, .int x8, .int x9, .int k1, .int k2, .int k3, .int k4, .int k5, .int k6, .int k7]) rfl h24 rfl rfl (fun M26 h27 f28 z29 => ?_)
    have h30 := (f28 r (ob_ne h20 h24 (by decide))).trans h20
    have h31 := (f28 b (ob_ne h21 h24 (by decide))).trans h21
    have h32 := (f28 da (Ne.symm (ob_ar h24 h22))).trans h22
    have h33 := (f28 vd (ob_ne h23 h24 (by decide))).trans h23
    have h34 := (f28 z0 (show z0 ≠ c by omega)).trans h17
    have hF35 := hF25.up (Or.inl (by simp)) f28 (by rw [z29]; exact Nat.le_refl _)
    have tp36 : M26.2.1 = z0 + 1 := by rw [z29]; exact tp19
    show pl _ _ _ (28, [(0, .ref r)], [], M26) _
    refine ps_st (S' := (29, [(0, .ref r)], [.ref r], M26)) rfl rfl rfl ?_
    refine ps_st (S' := (30, [(0, .ref r)], [.ref r, .ref r], M26)) rfl rfl rfl ?_
    refine ps_get (S' := (33, [(0, .ref r)], [.ref c, .ref r], M26)) rfl h30 rfl rfl ?_
    refine ps_get (S' := (36, [(0, .ref r)], [.ref z0, .ref r], M26)) rfl h27 rfl rfl ?_
    refine ps_st (S' := (37, [(0, .ref r)], [.ref r, .ref z0, .ref r], M26)) rfl rfl rfl ?_
    refine ps_get (S' := (40, [(0, .ref r)], [.int (nI (by2 f p)), .ref z0, .ref r], M26)) rfl h30 rfl rfl ?_
    refine pl_call (a := [.ref r, .ref z0, .int (nI (by2 f p))]) (rest := []) rfl rfl rfl (dk_takesMembers (r := r) (c := c) (b := b) (vd := vd) (da := da) (n := n) (p := (p + 2)) (f := f) (it := (nI (by2 f p))) (ru := ru) (wa := wa) (mm := z0) (t := (by2 f p)) (cap := (min (by2 f p) ((n - (p + 2)) / 8))) h30 h31 h32 h33 h34 (hn) (by omega) (by2_lt _ _) (rfl) (by omega) (by omega) (by omega) (by omega) (by omega)) (fun v37 M38 q39 => ?_)
    rcases q39 with q39 | q39
    · skip
      obtain ⟨p'40, it'41, q40_s, q40_V, rfl, h42, h43, f44, tp45⟩ := q39
      have h46 := (f44.1 b (by omega) (nin3 (ob_ne h31 h30 (by decide)) (ob_ne h31 h33 (by decide)) (show b ≠ z0 by omega))).trans h31
      have h47 := (f44.1 da (by omega) (nin3 (Ne.symm (ob_ar h30 h32)) (Ne.symm (ob_ar h33 h32)) (show da ≠ z0 by omega))).trans h32
      have h48 := (f44.1 c (by omega) (nin3 (ob_ne h27 h30 (by decide)) (ob_ne h27 h33 (by decide)) (show c ≠ z0 by omega))).trans h27
      obtain ⟨t50, tp51⟩ : ∃ t9, M38.2.1 = t9 := ⟨_, rfl⟩
      rw [tp36, tp51] at tp45
      have hF49 := hF35.tr f44 (by intro z hz; simp only [List.mem_cons, List.not_mem_nil, or_false] at hz ⊢; try omega)
      show pl _ _ _ (43, [(0, .ref r)], [.int 1], M38) _
      exact ps_ret rfl rfl (Or.inl ⟨p'40, z0, _, _, by
          unfold s_mbs
          rw [if_neg (by omega)]
          exact q40_s, by omega, fun i => by show M.2.1 ≤ _; omega, q40_V, rfl, h42, h43, h48, hF49, hF49.2⟩)
    · skip
      obtain ⟨e52, q40_s, rfl, h53, f54, tp55⟩ := q39
      have h56 := (f54.1 b (by omega) (nin3 (ob_ne h31 h30 (by decide)) (ob_ne h31 h33 (by decide)) (show b ≠ z0 by omega))).trans h31
      have h57 := (f54.1 da (by omega) (nin3 (Ne.symm (ob_ar h30 h32)) (Ne.symm (ob_ar h33 h32)) (show da ≠ z0 by omega))).trans h32
      have h58 := (f54.1 c (by omega) (nin3 (ob_ne h27 h30 (by decide)) (ob_ne h27 h33 (by decide)) (show c ≠ z0 by omega))).trans h27
      obtain ⟨t60, tp61⟩ : ∃ t9, M38.2.1 = t9 := ⟨_, rfl⟩
      rw [tp36, tp61] at tp55
      have hF59 := hF35.tr f54 (by intro z hz; simp only [List.mem_cons, List.not_mem_nil, or_false] at hz ⊢; try omega)
      show pl _ _ _ (43, [(0, .ref r)], [.int 0], M38) _
      exact ps_ret rfl rfl (Or.inr ⟨e52, by
          unfold s_mbs
          rw [if_neg (by omega)]
          exact q40_s, rfl, h53, hF59, hF59.2⟩)
  · skip
    obtain ⟨q2_s, rfl, h62, h63, f64⟩ := q3
    have h66 := (f64.1 b (nin2 (ob_ne h_b h_r (by decide)) (ob_ne h_b h_vd (by decide)))).trans h_b
    have h67 := (f64.1 da (nin2 (Ne.symm (ob_ar h_r h_da)) (Ne.symm (ob_ar h_vd h_da)))).trans h_da
    have h68 := (f64.1 c (nin2 (ob_ne h_c h_r (by decide)) (ob_ne h_c h_vd (by decide)))).trans h_c
    have hF69 := hF.trf f64 (by intro z hz; simp only [List.mem_cons, List.not_mem_nil, or_false] at hz ⊢; try omega)
    have tp70 : M2.2.1 = z0 := by rw [f64.2]; exact tp0
    show pl _ _ _ (5, [(0, .ref r)], [.int 0], M2) _
    refine ps_if (S1 := (10, [(0, .ref r)], [], M2)) (S2 := (8, [(0, .ref r)], [], M2)) rfl rfl rfl (fun c_5 => ?_) (fun c_5 => ?_)
    · exact absurd (of_decide_eq_true c_5) (by decide)
    refine ps_st (S' := (9, [(0, .ref r)], [.int 0], M2)) rfl rfl rfl ?_
    exact ps_ret rfl rfl (Or.inr ⟨(1, p), by
        unfold s_mbs
        rw [if_pos (by omega)], rfl, h63, hF69, hF69.2⟩)
set_option maxHeartbeats 1000000 in
theorem dk_takesMethods {g : xe_G} {M : mi_H} {r c b vd da n p q fa ic mj : Nat} {f : Nat → Int32} {it ru wa : Int32} {mi x8 x9 k1 k2 k3 k4 k5 k6 k7 : Int32} {m1 : Nat} {u7 : Value} (h_r : M.1 r = some (ob 9 [.ref c, .ref b, .ref vd, .int (nI p), .int it])) (h_b : M.1 b = some (ob 1 [.ref da])) (h_da : M.1 da = some (ar .byte n f)) (h_vd : M.1 vd = some (ob 10 [.int ru, .int wa])) (h_c : M.1 c = some (ob 3 [.ref b, .ref q, .int mi, .int (nI mj), .int (nI fa), .int (nI ic), .ref m1, u7, .int x8, .int x9, .int k1, .int k2, .int k3, .int k4, .int k5, .int k6, .int k7])) (hn : n ≤ 65540) (hp : p ≤ n) (l_r : r < M.2.1) (l_b : b < M.2.1) (l_da : da < M.2.1) (l_vd : vd < M.2.1) (l_c : c < M.2.1) : pt (mT g) 168 [.ref r] M (fun v M' => (∃ (p' mm : Nat) (it' : Int32) (G : Nat → Nat), (s_mbs f n p = .inr p') ∧ (p + 2 ≤ n) ∧ (∀ i, M.2.1 ≤ G i) ∧ (MV f (mbs f n (by2 f p) (p + 2)) mm G 0 M') ∧ v = some (.int 1) ∧ M'.1 r = some (ob 9 [.ref c, .ref b, .ref vd, .int (nI p'), .int it']) ∧ M'.1 vd = some (ob 10 [.int ru, .int wa]) ∧ M'.1 c = some (ob 3 [.ref b, .ref q, .int mi, .int (nI mj), .int (nI fa), .int (nI ic), .ref m1, .ref mm, .int x8, .int x9, .int k1, .int k2, .int k3, .int k4, .int k5, .int k6, .int k7]) ∧ gm [r, vd, c] M M' ∧ M.2.1 ≤ M'.2.1) ∨ (∃ (e : Nat × Nat), (s_mbs f n p = .inl e) ∧ v = some (.int 0) ∧ M'.1 vd = some (ob 10 [.int (nI e.1), .int (nI e.2)]) ∧ gm [r, vd, c] M M' ∧ M.2.1 ≤ M'.2.1)) := by
  refine pt_in (b := mb_168 g) rfl (fun kf => ?_)
  show pl (mT g) kf (mb_168 g).2 (0, [(0, .ref r)], [], M) _
  have hF : gm [r, vd, c] M M := gm.rf
  obtain ⟨z0, tp0⟩ : ∃ z0, M.2.1 = z0 := ⟨_, rfl⟩
  refine ps_st (S' := (1, [(0, .ref r)], [.ref r], M)) rfl rfl rfl ?_
  refine ps_st (S' := (2, [(0, .ref r)], [.int 2, .ref r], M)) rfl rfl rfl ?_
  refine pl_call (a := [.ref r, .int 2]) (rest := []) rfl rfl rfl (dk_takes2 (r := r) (c := c) (b := b) (vd := vd) (da := da) (n := n) (p := p) (f := f) (it := it) (ru := ru) (wa := wa) h_r h_b h_da h_vd (hn) (by omega)) (fun v1 M2 q3 => ?_)
  rcases q3 with q3 | q3
  · skip
    obtain ⟨q2_s, rfl, h4, h5, f6⟩ := q3
    have h8 := (f6.1 b (nin2 (ob_ne h_b h_r (by decide)) (ob_ne h_b h_vd (by decide)))).trans h_b
    have h9 := (f6.1 da (nin2 (Ne.symm (ob_ar h_r h_da)) (Ne.symm (ob_ar h_vd h_da)))).trans h_da
    have h10 := (f6.1 c (nin2 (ob_ne h_c h_r (by decide)) (ob_ne h_c h_vd (by decide)))).trans h_c
    have hF11 := hF.trf f6 (by intro z hz; simp only [List.mem_cons, List.not_mem_nil, or_false] at hz ⊢; try omega)
    have tp12 : M2.2.1 = z0 := by rw [f6.2]; exact tp0
    show pl _ _ _ (5, [(0, .ref r)], [.int 1], M2) _
    refine ps_if (S1 := (10, [(0, .ref r)], [], M2)) (S2 := (8, [(0, .ref r)], [], M2)) rfl rfl rfl (fun c_5 => ?_) (fun c_5 => ?_)
    rotate_left
    · exact absurd (by decide) (of_decide_eq_false c_5)
    refine ps_st (S' := (11, [(0, .ref r)], [.ref r], M2)) rfl rfl rfl ?_
    refine ps_get (S' := (14, [(0, .ref r)], [.ref c], M2)) rfl h4 rfl rfl ?_
    refine ps_st (S' := (15, [(0, .ref r)], [.ref r, .ref c], M2)) rfl rfl rfl ?_
    refine ps_st (S' := (16, [(0, .ref r)], [.ref r, .ref r, .ref c], M2)) rfl rfl rfl ?_
    refine ps_get (S' := (19, [(0, .ref r)], [.int (nI (by2 f p)), .ref r, .ref c], M2)) rfl h4 rfl rfl ?_
    refine pl_call (a := [.ref r, .int (nI (by2 f p))]) (rest := [.ref c]) rfl rfl rfl (dk_roomFor (r := r) (c := c) (b := b) (vd := vd) (da := da) (n := n) (p := (p + 2)) (f := f) (it := (nI (by2 f p))) (t := (by2 f p)) h4 h8 h9 (hn) (by omega) (by2_lt _ _)) (fun v13 M14 q15 => ?_)
    obtain ⟨rfl, rfl⟩ := q15
    show pl _ _ _ (22, [(0, .ref r)], [.int (nI (min (by2 f p) ((n - (p + 2)) / 8))), .ref c], M2) _
    refine ps_anew rfl tp12 (fun M16 i0_22 h17 f18 tp19 => ?_)
    rw [nI_toNat (by omega)] at h17
    have h20 := (f18 r (show r ≠ z0 by omega)).trans h4
    have h21 := (f18 b (show b ≠ z0 by omega)).trans h8
    have h22 := (f18 da (show da ≠ z0 by omega)).trans h9
    have h23 := (f18 vd (show vd ≠ z0 by omega)).trans h5
    have h24 := (f18 c (show c ≠ z0 by omega)).trans h10
    have hF25 := hF11.up (Or.inr (by omega)) f18 (by omega)
    show pl _ _ _ (25, [(0, .ref r)], [.ref z0, .ref c], M16) _
    refine ps_put (l' := [.ref b, .ref q, .int mi, .int (nI mj), .int (nI fa), .int (nI ic), .ref m1, .ref z0, .int x8, .int x9, .int k1, .int k2, .int k3, .int k4, .int k5, .int k6, .int k7]) rfl h24 rfl rfl (fun M26 h27 f28 z29 => ?_)
    have h30 := (f28 r (ob_ne h20 h24 (by decide))).trans h20
    have h31 := (f28 b (ob_ne h21 h24 (by decide))).trans h21
    have h32 := (f28 da (Ne.symm (ob_ar h24 h22))).trans h22
    have h33 := (f28 vd (ob_ne h23 h24 (by decide))).trans h23
    have h34 := (f28 z0 (show z0 ≠ c by omega)).trans h17
    have hF35 := hF25.up (Or.inl (by simp)) f28 (by rw [z29]; exact Nat.le_refl _)
    have tp36 : M26.2.1 = z0 + 1 := by rw [z29]; exact tp19
    show pl _ _ _ (28, [(0, .ref r)], [], M26) _
    refine ps_st (S' := (29, [(0, .ref r)], [.ref r], M26)) rfl rfl rfl ?_
    refine ps_st (S' := (30, [(0, .ref r)], [.ref r, .ref r], M26)) rfl rfl rfl ?_
    refine ps_get (S' := (33, [(0, .ref r)], [.ref c, .ref r], M26)) rfl h30 rfl rfl ?_
    refine ps_get (S' := (36, [(0, .ref r)], [.ref z0, .ref r], M26)) rfl h27 rfl rfl ?_
    refine ps_st (S' := (37, [(0, .ref r)], [.ref r, .ref z0, .ref r], M26)) rfl rfl rfl ?_
    refine ps_get (S' := (40, [(0, .ref r)], [.int (nI (by2 f p)), .ref z0, .ref r], M26)) rfl h30 rfl rfl ?_
    refine pl_call (a := [.ref r, .ref z0, .int (nI (by2 f p))]) (rest := []) rfl rfl rfl (dk_takesMembers (r := r) (c := c) (b := b) (vd := vd) (da := da) (n := n) (p := (p + 2)) (f := f) (it := (nI (by2 f p))) (ru := ru) (wa := wa) (mm := z0) (t := (by2 f p)) (cap := (min (by2 f p) ((n - (p + 2)) / 8))) h30 h31 h32 h33 h34 (hn) (by omega) (by2_lt _ _) (rfl) (by omega) (by omega) (by omega) (by omega) (by omega)) (fun v37 M38 q39 => ?_)
    rcases q39 with q39 | q39
    · skip
      obtain ⟨p'40, it'41, q40_s, q40_V, rfl, h42, h43, f44, tp45⟩ := q39
      have h46 := (f44.1 b (by omega) (nin3 (ob_ne h31 h30 (by decide)) (ob_ne h31 h33 (by decide)) (show b ≠ z0 by omega))).trans h31
      have h47 := (f44.1 da (by omega) (nin3 (Ne.symm (ob_ar h30 h32)) (Ne.symm (ob_ar h33 h32)) (show da ≠ z0 by omega))).trans h32
      have h48 := (f44.1 c (by omega) (nin3 (ob_ne h27 h30 (by decide)) (ob_ne h27 h33 (by decide)) (show c ≠ z0 by omega))).trans h27
      obtain ⟨t50, tp51⟩ : ∃ t9, M38.2.1 = t9 := ⟨_, rfl⟩
      rw [tp36, tp51] at tp45
      have hF49 := hF35.tr f44 (by intro z hz; simp only [List.mem_cons, List.not_mem_nil, or_false] at hz ⊢; try omega)
      show pl _ _ _ (43, [(0, .ref r)], [.int 1], M38) _
      exact ps_ret rfl rfl (Or.inl ⟨p'40, z0, _, _, by
          unfold s_mbs
          rw [if_neg (by omega)]
          exact q40_s, by omega, fun i => by show M.2.1 ≤ _; omega, q40_V, rfl, h42, h43, h48, hF49, hF49.2⟩)
    · skip
      obtain ⟨e52, q40_s, rfl, h53, f54, tp55⟩ := q39
      have h56 := (f54.1 b (by omega) (nin3 (ob_ne h31 h30 (by decide)) (ob_ne h31 h33 (by decide)) (show b ≠ z0 by omega))).trans h31
      have h57 := (f54.1 da (by omega) (nin3 (Ne.symm (ob_ar h30 h32)) (Ne.symm (ob_ar h33 h32)) (show da ≠ z0 by omega))).trans h32
      have h58 := (f54.1 c (by omega) (nin3 (ob_ne h27 h30 (by decide)) (ob_ne h27 h33 (by decide)) (show c ≠ z0 by omega))).trans h27
      obtain ⟨t60, tp61⟩ : ∃ t9, M38.2.1 = t9 := ⟨_, rfl⟩
      rw [tp36, tp61] at tp55
      have hF59 := hF35.tr f54 (by intro z hz; simp only [List.mem_cons, List.not_mem_nil, or_false] at hz ⊢; try omega)
      show pl _ _ _ (43, [(0, .ref r)], [.int 0], M38) _
      exact ps_ret rfl rfl (Or.inr ⟨e52, by
          unfold s_mbs
          rw [if_neg (by omega)]
          exact q40_s, rfl, h53, hF59, hF59.2⟩)
  · skip
    obtain ⟨q2_s, rfl, h62, h63, f64⟩ := q3
    have h66 := (f64.1 b (nin2 (ob_ne h_b h_r (by decide)) (ob_ne h_b h_vd (by decide)))).trans h_b
    have h67 := (f64.1 da (nin2 (Ne.symm (ob_ar h_r h_da)) (Ne.symm (ob_ar h_vd h_da)))).trans h_da
    have h68 := (f64.1 c (nin2 (ob_ne h_c h_r (by decide)) (ob_ne h_c h_vd (by decide)))).trans h_c
    have hF69 := hF.trf f64 (by intro z hz; simp only [List.mem_cons, List.not_mem_nil, or_false] at hz ⊢; try omega)
    have tp70 : M2.2.1 = z0 := by rw [f64.2]; exact tp0
    show pl _ _ _ (5, [(0, .ref r)], [.int 0], M2) _
    refine ps_if (S1 := (10, [(0, .ref r)], [], M2)) (S2 := (8, [(0, .ref r)], [], M2)) rfl rfl rfl (fun c_5 => ?_) (fun c_5 => ?_)
    · exact absurd (of_decide_eq_true c_5) (by decide)
    refine ps_st (S' := (9, [(0, .ref r)], [.int 0], M2)) rfl rfl rfl ?_
    exact ps_ret rfl rfl (Or.inr ⟨(1, p), by
        unfold s_mbs
        rw [if_pos (by omega)], rfl, h63, hF69, hF69.2⟩)
set_option maxHeartbeats 1000000 in
theorem dk_takesEnd {g : xe_G} {M : mi_H} {r c b vd da n p q fa ic mj : Nat} {f : Nat → Int32} {it ru wa : Int32} {mi x8 x9 k1 k2 k3 k4 k5 k6 k7 : Int32} {m1 m2 : Nat} (h_r : M.1 r = some (ob 9 [.ref c, .ref b, .ref vd, .int (nI p), .int it])) (h_b : M.1 b = some (ob 1 [.ref da])) (h_da : M.1 da = some (ar .byte n f)) (h_vd : M.1 vd = some (ob 10 [.int ru, .int wa])) (h_c : M.1 c = some (ob 3 [.ref b, .ref q, .int mi, .int (nI mj), .int (nI fa), .int (nI ic), .ref m1, .ref m2, .int x8, .int x9, .int k1, .int k2, .int k3, .int k4, .int k5, .int k6, .int k7])) (hn : n ≤ 65540) (hp : p ≤ n) : pt (mT g) 162 [.ref r] M (fun v M' => (∃ (it' : Int32), (s_end f n p = none) ∧ (s_attributes f n p = .inr n) ∧ v = some (.int 1) ∧ M'.1 r = some (ob 9 [.ref c, .ref b, .ref vd, .int (nI n), .int it']) ∧ M'.1 vd = some (ob 10 [.int ru, .int wa]) ∧ M'.1 c = some (ob 3 [.ref b, .ref q, .int mi, .int (nI mj), .int (nI fa), .int (nI ic), .ref m1, .ref m2, .int (nI (by2 f p)), .int (nI (p + 2)), .int k1, .int k2, .int k3, .int k4, .int k5, .int k6, .int k7]) ∧ fm [r, vd, c] M M') ∨ (∃ (e : Nat × Nat), (s_end f n p = some e) ∧ v = some (.int 0) ∧ M'.1 vd = some (ob 10 [.int (nI e.1), .int (nI e.2)]) ∧ fm [r, vd, c] M M')) := by
  refine pt_in (b := mb_162 g) rfl (fun kf => ?_)
  show pl (mT g) kf (mb_162 g).2 (0, [(0, .ref r)], [], M) _
  have hF : fm [r, vd, c] M M := fm.rf
  refine ps_st (S' := (1, [(0, .ref r)], [.ref r], M)) rfl rfl rfl ?_
  refine ps_get (S' := (4, [(0, .ref r)], [.ref c], M)) rfl h_r rfl rfl ?_
  refine ps_st (S' := (5, [(0, .ref r)], [.ref r, .ref c], M)) rfl rfl rfl ?_
  refine ps_get (S' := (8, [(0, .ref r)], [.ref b, .ref c], M)) rfl h_r rfl rfl ?_
  refine ps_st (S' := (9, [(0, .ref r)], [.ref r, .ref b, .ref c], M)) rfl rfl rfl ?_
  refine ps_get (S' := (12, [(0, .ref r)], [.int (nI p), .ref b, .ref c], M)) rfl h_r rfl rfl ?_
  refine pl_call (a := [.ref b, .int (nI p)]) (rest := [.ref c]) rfl rfl rfl (dk_u2g (f := f) (n := n) (b := b) (da := da) (x := (nI p)) h_b h_da (hn)) (fun v1 M2 q3 => ?_)
  obtain ⟨rfl, rfl⟩ := q3
  show pl _ _ _ (15, [(0, .ref r)], [.int (sp_u2 n f (nI p)), .ref c], M) _
  refine ps_put (l' := [.ref b, .ref q, .int mi, .int (nI mj), .int (nI fa), .int (nI ic), .ref m1, .ref m2, .int (sp_u2 n f (nI p)), .int x9, .int k1, .int k2, .int k3, .int k4, .int k5, .int k6, .int k7]) rfl h_c rfl rfl (fun M4 h5 f6 z7 => ?_)
  have h8 := (f6 r (ob_ne h_r h_c (by decide))).trans h_r
  have h9 := (f6 b (ob_ne h_b h_c (by decide))).trans h_b
  have h10 := (f6 da (Ne.symm (ob_ar h_c h_da))).trans h_da
  have h11 := (f6 vd (ob_ne h_vd h_c (by decide))).trans h_vd
  have hF12 := hF.up (by simp) f6 z7
  show pl _ _ _ (18, [(0, .ref r)], [], M4) _
  refine ps_st (S' := (19, [(0, .ref r)], [.ref r], M4)) rfl rfl rfl ?_
  refine ps_get (S' := (22, [(0, .ref r)], [.ref c], M4)) rfl h8 rfl rfl ?_
  refine ps_st (S' := (23, [(0, .ref r)], [.ref r, .ref c], M4)) rfl rfl rfl ?_
  refine ps_get (S' := (26, [(0, .ref r)], [.int (nI p), .ref c], M4)) rfl h8 rfl rfl ?_
  refine ps_st (S' := (27, [(0, .ref r)], [.int 2, .int (nI p), .ref c], M4)) rfl rfl rfl ?_
  refine ps_st (S' := (28, [(0, .ref r)], [.int ((nI p) + 2), .ref c], M4)) rfl rfl rfl ?_
  rw [nI_add1 (p := p) (k := 2) (x := 2) rfl (by omega)]
  show pl _ _ _ (_, [(0, .ref r)], [.int (nI (p + 2)), .ref c], M4) _
  refine ps_put (l' := [.ref b, .ref q, .int mi, .int (nI mj), .int (nI fa), .int (nI ic), .ref m1, .ref m2, .int (sp_u2 n f (nI p)), .int (nI (p + 2)), .int k1, .int k2, .int k3, .int k4, .int k5, .int k6, .int k7]) rfl h5 rfl rfl (fun M13 h14 f15 z16 => ?_)
  have h17 := (f15 r (ob_ne h8 h5 (by decide))).trans h8
  have h18 := (f15 b (ob_ne h9 h5 (by decide))).trans h9
  have h19 := (f15 da (Ne.symm (ob_ar h5 h10))).trans h10
  have h20 := (f15 vd (ob_ne h11 h5 (by decide))).trans h11
  have hF21 := hF12.up (by simp) f15 z16
  show pl _ _ _ (31, [(0, .ref r)], [], M13) _
  refine ps_st (S' := (32, [(0, .ref r)], [.ref r], M13)) rfl rfl rfl ?_
  refine pl_call (a := [.ref r]) (rest := []) rfl rfl rfl (dk_takesAttributes (r := r) (c := c) (b := b) (vd := vd) (da := da) (n := n) (p := p) (f := f) (it := it) (ru := ru) (wa := wa) h17 h18 h19 h20 (hn) (by omega)) (fun v22 M23 q24 => ?_)
  rcases q24 with q24 | q24
  · skip
    obtain ⟨p'25, it'26, q32_s, rfl, h27, h28, f29⟩ := q24
    have h31 := (f29.1 b (nin2 (ob_ne h18 h17 (by decide)) (ob_ne h18 h20 (by decide)))).trans h18
    have h32 := (f29.1 da (nin2 (Ne.symm (ob_ar h17 h19)) (Ne.symm (ob_ar h20 h19)))).trans h19
    have h33 := (f29.1 c (nin2 (ob_ne h14 h17 (by decide)) (ob_ne h14 h20 (by decide)))).trans h14
    have hF34 := hF21.tr f29 (by simp)
    show pl _ _ _ (35, [(0, .ref r)], [.int 1], M23) _
    have hle_32 := s_attributes_le2 q32_s
    refine ps_if (S1 := (40, [(0, .ref r)], [], M23)) (S2 := (38, [(0, .ref r)], [], M23)) rfl rfl rfl (fun c_35 => ?_) (fun c_35 => ?_)
    rotate_left
    · exact absurd (by decide) (of_decide_eq_false c_35)
    refine ps_st (S' := (41, [(0, .ref r)], [.ref r], M23)) rfl rfl rfl ?_
    refine ps_get (S' := (44, [(0, .ref r)], [.int (nI p'25)], M23)) rfl h27 rfl rfl ?_
    refine ps_st (S' := (45, [(0, .ref r)], [.ref r, .int (nI p'25)], M23)) rfl rfl rfl ?_
    refine ps_get (S' := (48, [(0, .ref r)], [.ref b, .int (nI p'25)], M23)) rfl h27 rfl rfl ?_
    refine pl_call (a := [.ref b]) (rest := [.int (nI p'25)]) rfl rfl rfl (dk_size (f := f) (n := n) (b := b) (da := da) h31 h32 (hn)) (fun v35 M36 q37 => ?_)
    obtain ⟨rfl, rfl⟩ := q37
    show pl _ _ _ (51, [(0, .ref r)], [.int (nI n), .int (nI p'25)], M23) _
    refine ps_if2 (S1 := (70, [], [], M23)) (S2 := (54, [(0, .ref r)], [], M23)) rfl rfl rfl (fun c_51 => ?_) (fun c_51 => ?_)
    · have c_51 : (nI p'25) = (nI n) := of_decide_eq_true c_51
      have n_51 : p'25 = n := (eq_nI (p := p'25) (n := n) (by omega) (by omega)).mp c_51
      refine ps_st (S' := (71, [], [.int 1], M23)) rfl rfl rfl ?_
      refine ps_st (S' := (75, [], [.int 1], M23)) rfl rfl rfl ?_
      exact ps_ret rfl rfl (Or.inl ⟨_, by
          unfold s_end
          rw [q32_s]
          dsimp only
          rw [if_pos n_51], by rw [q32_s, n_51], rfl, by rw [← n_51]; exact h27, h28, by rw [← u2_nI hn (p := p) (by omega)]; exact h33, hF34⟩)
    · have c_51 : ¬ ((nI p'25) = (nI n)) := of_decide_eq_false c_51
      have n_51 : ¬ (p'25 = n) := fun h9 => c_51 ((eq_nI (p := p'25) (n := n) (by omega) (by omega)).mpr h9)
      refine ps_st (S' := (55, [(0, .ref r)], [.ref r], M23)) rfl rfl rfl ?_
      refine ps_get (S' := (58, [(0, .ref r)], [.ref vd], M23)) rfl h27 rfl rfl ?_
      refine ps_st (S' := (60, [(0, .ref r)], [.int 8, .ref vd], M23)) rfl rfl rfl ?_
      refine ps_st (S' := (61, [(0, .ref r)], [.ref r, .int 8, .ref vd], M23)) rfl rfl rfl ?_
      refine ps_get (S' := (64, [(0, .ref r)], [.int (nI p'25), .int 8, .ref vd], M23)) rfl h27 rfl rfl ?_
      refine pl_call (a := [.ref vd, .int 8, .int (nI p'25)]) (rest := []) rfl rfl rfl (dk_wrong (vd := vd) (ru := ru) (wa := wa) (x1 := 8) (x2 := (nI p'25)) h28) (fun v38 M39 q40 => ?_)
      obtain ⟨rfl, h41, f42⟩ := q40
      have h44 := (f42.1 r (nin1 (ob_ne h27 h28 (by decide)))).trans h27
      have h45 := (f42.1 b (nin1 (ob_ne h31 h28 (by decide)))).trans h31
      have h46 := (f42.1 da (nin1 (Ne.symm (ob_ar h28 h32)))).trans h32
      have h47 := (f42.1 c (nin1 (ob_ne h33 h28 (by decide)))).trans h33
      have hF48 := hF34.tr f42 (by simp)
      show pl _ _ _ (67, [(0, .ref r)], [.int 0], M39) _
      refine ps_if (S1 := (74, [(0, .ref r)], [], M39)) (S2 := (70, [], [], M39)) rfl rfl rfl (fun c_67 => ?_) (fun c_67 => ?_)
      rotate_left
      · exact absurd (by decide) (of_decide_eq_false c_67)
      refine ps_st (S' := (75, [], [.int 0], M39)) rfl rfl rfl ?_
      exact ps_ret rfl rfl (Or.inr ⟨(8, p'25), by
          unfold s_end
          rw [q32_s]
          dsimp only
          rw [if_neg n_51], rfl, h41, hF48⟩)
  · skip
    obtain ⟨e49, q32_s, rfl, h50, f51⟩ := q24
    have h53 := (f51.1 b (nin2 (ob_ne h18 h17 (by decide)) (ob_ne h18 h20 (by decide)))).trans h18
    have h54 := (f51.1 da (nin2 (Ne.symm (ob_ar h17 h19)) (Ne.symm (ob_ar h20 h19)))).trans h19
    have h55 := (f51.1 c (nin2 (ob_ne h14 h17 (by decide)) (ob_ne h14 h20 (by decide)))).trans h14
    have hF56 := hF21.tr f51 (by simp)
    show pl _ _ _ (35, [(0, .ref r)], [.int 0], M23) _
    refine ps_if (S1 := (40, [(0, .ref r)], [], M23)) (S2 := (38, [(0, .ref r)], [], M23)) rfl rfl rfl (fun c_35 => ?_) (fun c_35 => ?_)
    · exact absurd (of_decide_eq_true c_35) (by decide)
    refine ps_st (S' := (39, [(0, .ref r)], [.int 0], M23)) rfl rfl rfl ?_
    exact ps_ret rfl rfl (Or.inr ⟨e49, by
        unfold s_end
        rw [q32_s], rfl, h50, hF56⟩)
