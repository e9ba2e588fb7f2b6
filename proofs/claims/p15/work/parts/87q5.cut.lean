
theorem oh_le (f : Nat → Int32) (n : Nat) (E : List (Nat × Nat)) (mj ml o v w lp : Nat) : ohN f n E mj ml o v w lp < 2 := by
  have h1 := le1_ld1 f n E mj v (tg f E v)
  have h2 := le1_ld2 f n E v (tg f E v)
  have h3 := le1_ca f n E mj o v w (tg f E v)
  have h4 : plnN f n E v < 2 := by
    unfold plnN
    split <;> decide
  unfold ohN
  repeat' split
  all_goals first | exact h1 | exact h2 | exact h3 | exact h4 | decide
theorem okI_le (f : Nat → Int32) (n : Nat) (E : List (Nat × Nat)) (mj ml : Nat) (x : IC) : okI f n E mj ml x < 2 := by
  unfold okI
  split
  · decide
  · exact oh_le _ _ _ _ _ _ _ _ _
theorem upd_nI {F : Nat → Int32} {k j : Nat} {v : Int32} (hk : k < 1073741824) : upd F (Int32.toNatClampNeg (nI k)) v j = if j = k then v else F j := by
  rw [nI_toNat hk]
  rfl
theorem getD_app {S : List Nat} {p i : Nat} (h : i < S.length + 1) : (S ++ [p]).getD i 0 = if i = S.length then p else S.getD i 0 := by
  by_cases e : i = S.length
  · rw [if_pos e, e]
    exact getD_at
  · rw [if_neg e]
    exact getD_lo (by omega)
theorem st_snoc {F : Nat → Int32} {S : List Nat} {p : Nat} (h : ∀ i, i < S.length → F i = nI (S.getD i 0)) (hl : S.length < 1073741824) : ∀ i, i < (S ++ [p]).length → upd F (Int32.toNatClampNeg (nI S.length)) (nI p) i = nI ((S ++ [p]).getD i 0) := fun i hi => by
  simp only [List.length_append, List.length_cons, List.length_nil] at hi
  rw [upd_nI hl, getD_app (by omega)]
  split
  · rfl
  · exact h i (by omega)
theorem nu_snoc {F : Nat → Int32} {S : List Nat} {p L : Nat} (h : ∀ j, j < L → F j = nuA S j) (hp : p ∉ S) (hl : p < 1073741824) : ∀ j, j < L → upd F (Int32.toNatClampNeg (nI p)) (nI (S.length + 1)) j = nuA (S ++ [p]) j := fun j hj => by
  rw [upd_nI hl, nuA_snoc hp]
  split
  · rfl
  · exact h j hj
theorem getD_mem {S : List Nat} {k : Nat} (h : k < S.length) : S.getD k 0 ∈ S := by
  rw [List.getD_eq_getElem?_getD, List.getElem?_eq_getElem h]
  exact List.getElem_mem h
theorem fb_st {f : Nat → Int32} {cb L k : Nat} {S : List Nat} (h : k < S.length) : fbS f cb L S (S.drop k) = match inC f cb L (S.getD k 0) with
    | none => fbS f cb L S (S.drop (k + 1))
    | some x => if thN f cb S (S.getD k 0) x x.2.2.2.2.2.1 0 = 0 then some (S.getD k 0) else fbS f cb L S (S.drop (k + 1)) := by
  have e : S.getD k 0 = S[k] := by rw [List.getD_eq_getElem?_getD, List.getElem?_eq_getElem h]; rfl
  rw [List.drop_eq_getElem_cons h, e]
  rfl
theorem m2_ne {k p : Nat} (hk : k < 65536) (hp : p < 65536) : ¬ (-2 - nI p = nI k) := fun h => by
  have h1 := congrArg Int32.toInt h
  rw [Int32.toInt_sub, nI_val (by omega), nI_val (by omega), show (-2 : Int32).toInt = -2 from rfl, Int.bmod_eq_of_le (by omega) (by omega)] at h1
  omega
set_option maxHeartbeats 1000000 in
theorem dk_cutUpC {g : xe_G} {M : mi_H} {cd q on L ml mj : Nat} {c0 c3 c4 x8 : Int32} {v9 v10 : Value} (h_cd : M.1 cd = some (ob 4 [.int c0, .int (nI ml), .int (nI L), .int c3, .int c4, .ref q, .int (nI mj), .ref on, .int x8, v9, v10])) (hx : ¬ x8 = 0) : pt (mT g) 76 [.ref cd] M (fun v M' => (v = some (.int x8) ∧ M = M')) := by
  refine pt_in (b := mb_76 g) rfl (fun kf => ?_)
  show pl (mT g) kf (mb_76 g).2 (0, [(0, .ref cd)], [], M) _
  refine ps_st (S' := (1, [(0, .ref cd)], [.ref cd], M)) rfl rfl rfl ?_
  refine ps_get (S' := (4, [(0, .ref cd)], [.int x8], M)) rfl h_cd rfl rfl ?_
  refine ps_if (S1 := (12, [(0, .ref cd)], [], M)) (S2 := (7, [(0, .ref cd)], [], M)) rfl rfl rfl (fun c_4 => ?_) (fun c_4 => ?_)
  · exact absurd (of_decide_eq_true c_4) (hx)
  refine ps_st (S' := (8, [(0, .ref cd)], [.ref cd], M)) rfl rfl rfl ?_
  refine ps_get (S' := (11, [(0, .ref cd)], [.int x8], M)) rfl h_cd rfl rfl ?_
  exact ps_reti rfl (⟨rfl, rfl⟩)
set_option maxHeartbeats 1000000 in
theorem dk_cutUp7 {g : xe_G} {M : mi_H} {f : Nat → Int32} {n N q : Nat} {E : List (Nat × Nat)} {cd on b da cb L ml mj : Nat} {c0 c3 c4 : Int32} {y3 y4 y5 y6 y7 y8 y9 y10 y11 : Int32} {v9 v10 : Value} (h_cd : M.1 cd = some (ob 4 [.int c0, .int (nI ml), .int (nI L), .int c3, .int c4, .ref q, .int (nI mj), .ref on, .int 0, v9, v10])) (h_on : M.1 on = some (ob 5 [.ref b, .int (nI cb), .int (nI L), .int y3, .int y4, .int y5, .int y6, .int y7, .int y8, .int y9, .int y10, .int y11])) (h_b : M.1 b = some (ob 1 [.ref da])) (h_da : M.1 da = some (ar .byte n f)) (hn : n ≤ 65540) (hmj : mj < 65536) (hml : ml < 65536) (hcl : cb + L + 4 ≤ n) (hL : 1 ≤ L ∧ L < 65536) (h0 : tg f E 0 = 0) (hCP : CP f n E) (hV : PV g f n N E q M) (l_cd : cd < M.2.1) (l_on : on < M.2.1) (l_b : b < M.2.1) (l_da : da < M.2.1) (l_q : q < M.2.1) : pt (mT g) 76 [.ref cd] M (fun v M' => (∃ (F9 F10 : Nat → Int32) (z3 z4 z5 z6 z7 z8 z9 z10 z11 : Int32), (∀ S, cutS f n E mj cb L ml = .inr S → (∀ i, i < S.length → F9 i = nI (S.getD i 0)) ∧ ∀ j, j < L → F10 j = nuA S j) ∧ v = some (.int (cutV f n E mj cb L ml)) ∧ M'.1 cd = some (ob 4 [.int c0, .int (nI ml), .int (nI L), .int c3, .int c4, .ref q, .int (nI mj), .ref on, .int (cutV f n E mj cb L ml), .ref (M.2.1), .ref (M.2.1 + 1)]) ∧ M'.1 on = some (ob 5 [.ref b, .int (nI cb), .int (nI L), .int z3, .int z4, .int z5, .int z6, .int z7, .int z8, .int z9, .int z10, .int z11]) ∧ M'.1 (M.2.1) = some (ar .int L F9) ∧ M'.1 (M.2.1 + 1) = some (ar .int L F10) ∧ gm [cd, on] M M' ∧ M'.2.1 = M.2.1 + 2)) := by
  refine pt_in (b := mb_76 g) rfl (fun kf => ?_)
  show pl (mT g) kf (mb_76 g).2 (0, [(0, .ref cd)], [], M) _
  have hF : gm [cd, on] M M := gm.rf
  obtain ⟨z0, tp0⟩ : ∃ z0, M.2.1 = z0 := ⟨_, rfl⟩
  have LL : ∀ (kf : Nat), (∀ (pc : Nat) (S : List Nat) (F9 F10 : Nat → Int32) (y3 y4 y5 y6 y7 y8 y9 y10 y11 : Int32) (M1 : mi_H), (M1.1 cd = some (ob 4 [.int c0, .int (nI ml), .int (nI L), .int c3, .int c4, .ref q, .int (nI mj), .ref on, .int 0, .ref z0, .ref (z0 + 1)])) → (M1.1 on = some (ob 5 [.ref b, .int (nI cb), .int (nI L), .int y3, .int y4, .int y5, .int y6, .int y7, .int y8, .int y9, .int y10, .int y11])) → (M1.1 b = some (ob 1 [.ref da])) → (M1.1 da = some (ar .byte n f)) → (M1.1 z0 = some (ar .int L F9)) → (M1.1 (z0 + 1) = some (ar .int L F10)) → (gm [cd, on] M M1) → (M1.2.1 = z0 + 2) → (S.length ≤ pc ∧ pc ≤ L) → (∀ p ∈ S, p < pc) → (∀ i, i < S.length → F9 i = nI (S.getD i 0)) → (∀ j, j < L → F10 j = nuA S j) → (cuS f n E mj cb L ml (L - S.length) pc S = cuS f n E mj cb L ml L 0 []) →  pl (mT g) kf (mb_76 g).2 (39, [(0, .ref cd), (1, .int (nI L)), (2, .int (nI S.length)), (3, .int (nI pc))], [], M1) (fun v M' => (∃ (F9 F10 : Nat → Int32) (z3 z4 z5 z6 z7 z8 z9 z10 z11 : Int32), (∀ S, cutS f n E mj cb L ml = .inr S → (∀ i, i < S.length → F9 i = nI (S.getD i 0)) ∧ ∀ j, j < L → F10 j = nuA S j) ∧ v = some (.int (cutV f n E mj cb L ml)) ∧ M'.1 cd = some (ob 4 [.int c0, .int (nI ml), .int (nI L), .int c3, .int c4, .ref q, .int (nI mj), .ref on, .int (cutV f n E mj cb L ml), .ref (M.2.1), .ref (M.2.1 + 1)]) ∧ M'.1 on = some (ob 5 [.ref b, .int (nI cb), .int (nI L), .int z3, .int z4, .int z5, .int z6, .int z7, .int z8, .int z9, .int z10, .int z11]) ∧ M'.1 (M.2.1) = some (ar .int L F9) ∧ M'.1 (M.2.1 + 1) = some (ar .int L F10) ∧ gm [cd, on] M M' ∧ M'.2.1 = M.2.1 + 2))) ∧ (∀ (k : Nat) (S : List Nat) (x8 : Int32) (F9 F10 : Nat → Int32) (y3 y4 y5 y6 y7 y8 y9 y10 y11 : Int32) (M1 : mi_H), (M1.1 cd = some (ob 4 [.int c0, .int (nI ml), .int (nI L), .int c3, .int c4, .ref q, .int (nI mj), .ref on, .int x8, .ref z0, .ref (z0 + 1)])) → (M1.1 on = some (ob 5 [.ref b, .int (nI cb), .int (nI L), .int y3, .int y4, .int y5, .int y6, .int y7, .int y8, .int y9, .int y10, .int y11])) → (M1.1 b = some (ob 1 [.ref da])) → (M1.1 da = some (ar .byte n f)) → (M1.1 z0 = some (ar .int L F9)) → (M1.1 (z0 + 1) = some (ar .int L F10)) → (gm [cd, on] M M1) → (M1.2.1 = z0 + 2) → (cuS f n E mj cb L ml L 0 [] = .inr S) → (S.length ≤ L) → (∀ p ∈ S, p < L) → (∀ i, i < S.length → F9 i = nI (S.getD i 0)) → (∀ j, j < L → F10 j = nuA S j) → (k ≤ S.length) → ((x8 = nI S.length ∧ fbS f cb L S (S.drop (k)) = fbS f cb L S S) ∨ ∃ p, p < 65536 ∧ x8 = -2 - nI p ∧ fbS f cb L S S = some p) →  pl (mT g) kf (mb_76 g).2 (117, [(0, .ref cd), (2, .int (nI S.length)), (3, .int (nI k))], [], M1) (fun v M' => (∃ (F9 F10 : Nat → Int32) (z3 z4 z5 z6 z7 z8 z9 z10 z11 : Int32), (∀ S, cutS f n E mj cb L ml = .inr S → (∀ i, i < S.length → F9 i = nI (S.getD i 0)) ∧ ∀ j, j < L → F10 j = nuA S j) ∧ v = some (.int (cutV f n E mj cb L ml)) ∧ M'.1 cd = some (ob 4 [.int c0, .int (nI ml), .int (nI L), .int c3, .int c4, .ref q, .int (nI mj), .ref on, .int (cutV f n E mj cb L ml), .ref (M.2.1), .ref (M.2.1 + 1)]) ∧ M'.1 on = some (ob 5 [.ref b, .int (nI cb), .int (nI L), .int z3, .int z4, .int z5, .int z6, .int z7, .int z8, .int z9, .int z10, .int z11]) ∧ M'.1 (M.2.1) = some (ar .int L F9) ∧ M'.1 (M.2.1 + 1) = some (ar .int L F10) ∧ gm [cd, on] M M' ∧ M'.2.1 = M.2.1 + 2))) := by
    intro kf
    induction kf with
    | zero => exact ⟨by intros; exact pl_0, by intros; exact pl_0⟩
    | succ kf ih =>
      refine ⟨?_, ?_⟩
      · skip
        intro pc S F9 F10 y3 y4 y5 y6 y7 y8 y9 y10 y11 M1 hl_cd hl_on hl_b hl_da hl_z0 hl_z0___1 hF1 tp1 hSp hlt hf9 hf10 hs
        refine ps_st1 (S' := (40, [(0, .ref cd), (1, .int (nI L)), (2, .int (nI S.length)), (3, .int (nI pc))], [.int (nI pc)], M1)) rfl rfl rfl ?_
        refine ps_st (S' := (41, [(0, .ref cd), (1, .int (nI L)), (2, .int (nI S.length)), (3, .int (nI pc))], [.int (nI L), .int (nI pc)], M1)) rfl rfl rfl ?_
        refine ps_if2 (S1 := (110, [(0, .ref cd), (2, .int (nI S.length))], [], M1)) (S2 := (44, [(0, .ref cd), (1, .int (nI L)), (2, .int (nI S.length)), (3, .int (nI pc))], [], M1)) rfl rfl rfl (fun c_41 => ?_) (fun c_41 => ?_)
        · have c_41 : (nI L) ≤ (nI pc) := of_decide_eq_true c_41
          have n_41 : L ≤ pc := (le_nI (p := L) (n := pc) (by omega) (by omega)).mp c_41
          have hcu : cuS f n E mj cb L ml L 0 [] = .inr S := by rw [← hs]; exact cuS_end (by omega)
          refine ps_st (S' := (111, [(0, .ref cd), (2, .int (nI S.length))], [.ref cd], M1)) rfl rfl rfl ?_
          refine ps_st (S' := (112, [(0, .ref cd), (2, .int (nI S.length))], [.int (nI S.length), .ref cd], M1)) rfl rfl rfl ?_
          refine ps_put (l' := [.int c0, .int (nI ml), .int (nI L), .int c3, .int c4, .ref q, .int (nI mj), .ref on, .int (nI S.length), .ref z0, .ref (z0 + 1)]) rfl hl_cd rfl rfl (fun M1 h2 f3 z4 => ?_)
          have h5 := (f3 on (ob_ne hl_on hl_cd (by decide))).trans hl_on
          have h6 := (f3 b (ob_ne hl_b hl_cd (by decide))).trans hl_b
          have h7 := (f3 da (Ne.symm (ob_ar hl_cd hl_da))).trans hl_da
          have h8 := (f3 z0 (show z0 ≠ cd by omega)).trans hl_z0
          have h9 := (f3 (z0 + 1) (show (z0 + 1) ≠ cd by omega)).trans hl_z0___1
          have hF10 := hF1.up (Or.inl (by simp)) f3 (by rw [z4]; exact Nat.le_refl _)
          have tp11 : M1.2.1 = z0 + 2 := by rw [z4]; exact tp1
          show pl _ _ _ (115, [(0, .ref cd), (2, .int (nI S.length))], [], M1) _
          refine ps_st (S' := (116, [(0, .ref cd), (2, .int (nI S.length))], [.int 0], M1)) rfl rfl rfl ?_
          refine ps_st (S' := (117, [(0, .ref cd), (2, .int (nI S.length)), (3, .int 0)], [], M1)) rfl rfl rfl ?_
          exact ih.2 (0) (S) ((nI S.length)) (F9) (F10) (y3) (y4) (y5) (y6) (y7) (y8) (y9) (y10) (y11) M1 h2 h5 h6 h7 h8 h9 hF10 (tp11) (hcu) (by omega) (fun p hp => (by have := hlt p hp; omega)) (hf9) (hf10) (by omega) (Or.inl ⟨rfl, rfl⟩)
        · have c_41 : ¬ ((nI L) ≤ (nI pc)) := of_decide_eq_false c_41
          have n_41 : ¬ (L ≤ pc) := fun h9 => c_41 ((le_nI (p := L) (n := pc) (by omega) (by omega)).mpr h9)
          refine ps_st (S' := (45, [(0, .ref cd), (1, .int (nI L)), (2, .int (nI S.length)), (3, .int (nI pc))], [.int (nI S.length)], M1)) rfl rfl rfl ?_
          refine ps_st (S' := (46, [(0, .ref cd), (1, .int (nI L)), (2, .int (nI S.length)), (3, .int (nI pc))], [.int (nI L), .int (nI S.length)], M1)) rfl rfl rfl ?_
          refine ps_if2 (S1 := (110, [(0, .ref cd), (2, .int (nI S.length))], [], M1)) (S2 := (49, [(0, .ref cd), (1, .int (nI L)), (2, .int (nI S.length)), (3, .int (nI pc))], [], M1)) rfl rfl rfl (fun c_46 => ?_) (fun c_46 => ?_)
          · have c_46 : (nI L) ≤ (nI S.length) := of_decide_eq_true c_46
            have n_46 : L ≤ S.length := (le_nI (p := L) (n := S.length) (by omega) (by omega)).mp c_46
            have hcu : cuS f n E mj cb L ml L 0 [] = .inr S := by rw [← hs]; exact cuS_end (by omega)
            refine ps_st (S' := (111, [(0, .ref cd), (2, .int (nI S.length))], [.ref cd], M1)) rfl rfl rfl ?_
            refine ps_st (S' := (112, [(0, .ref cd), (2, .int (nI S.length))], [.int (nI S.length), .ref cd], M1)) rfl rfl rfl ?_
            refine ps_put (l' := [.int c0, .int (nI ml), .int (nI L), .int c3, .int c4, .ref q, .int (nI mj), .ref on, .int (nI S.length), .ref z0, .ref (z0 + 1)]) rfl hl_cd rfl rfl (fun M12 h13 f14 z15 => ?_)
            have h16 := (f14 on (ob_ne hl_on hl_cd (by decide))).trans hl_on
            have h17 := (f14 b (ob_ne hl_b hl_cd (by decide))).trans hl_b
            have h18 := (f14 da (Ne.symm (ob_ar hl_cd hl_da))).trans hl_da
            have h19 := (f14 z0 (show z0 ≠ cd by omega)).trans hl_z0
            have h20 := (f14 (z0 + 1) (show (z0 + 1) ≠ cd by omega)).trans hl_z0___1
            have hF21 := hF1.up (Or.inl (by simp)) f14 (by rw [z15]; exact Nat.le_refl _)
            have tp22 : M12.2.1 = z0 + 2 := by rw [z15]; exact tp1
            show pl _ _ _ (115, [(0, .ref cd), (2, .int (nI S.length))], [], M12) _
            refine ps_st (S' := (116, [(0, .ref cd), (2, .int (nI S.length))], [.int 0], M12)) rfl rfl rfl ?_
            refine ps_st (S' := (117, [(0, .ref cd), (2, .int (nI S.length)), (3, .int 0)], [], M12)) rfl rfl rfl ?_
            exact ih.2 (0) (S) ((nI S.length)) (F9) (F10) (y3) (y4) (y5) (y6) (y7) (y8) (y9) (y10) (y11) M12 h13 h16 h17 h18 h19 h20 hF21 (tp22) (hcu) (by omega) (fun p hp => (by have := hlt p hp; omega)) (hf9) (hf10) (by omega) (Or.inl ⟨rfl, rfl⟩)
          · have c_46 : ¬ ((nI L) ≤ (nI S.length)) := of_decide_eq_false c_46
            have n_46 : ¬ (L ≤ S.length) := fun h9 => c_46 ((le_nI (p := L) (n := S.length) (by omega) (by omega)).mpr h9)
            refine ps_st (S' := (50, [(0, .ref cd), (1, .int (nI L)), (2, .int (nI S.length)), (3, .int (nI pc))], [.ref cd], M1)) rfl rfl rfl ?_
            refine ps_get (S' := (53, [(0, .ref cd), (1, .int (nI L)), (2, .int (nI S.length)), (3, .int (nI pc))], [.ref on], M1)) rfl hl_cd rfl rfl ?_
            refine ps_st (S' := (54, [(0, .ref cd), (1, .int (nI L)), (2, .int (nI S.length)), (3, .int (nI pc))], [.int (nI pc), .ref on], M1)) rfl rfl rfl ?_
            refine pl_call (a := [.ref on, .int (nI pc)]) (rest := []) rfl rfl rfl (dk_isTakenApart (f := f) (n := n) (on := on) (b := b) (da := da) (cb := cb) (L := L) (y3 := y3) (y4 := y4) (y5 := y5) (y6 := y6) (y7 := y7) (y8 := y8) (y9 := y9) (y10 := y10) (y11 := y11) (pc := pc) hl_on hl_b hl_da (hn) (hcl) (by omega)) (fun v23 M24 q25 => ?_)
            rcases q25 with q25 | q25
            · skip
              obtain ⟨x26, q54_s, rfl, h27, f28⟩ := q25
              have h30 := (f28.1 cd (nin1 (ob_ne hl_cd hl_on (by decide)))).trans hl_cd
              have h31 := (f28.1 b (nin1 (ob_ne hl_b hl_on (by decide)))).trans hl_b
              have h32 := (f28.1 da (nin1 (Ne.symm (ob_ar hl_on hl_da)))).trans hl_da
              have h33 := (f28.1 z0 (nin1 (show z0 ≠ on by omega))).trans hl_z0
              have h34 := (f28.1 (z0 + 1) (nin1 (show (z0 + 1) ≠ on by omega))).trans hl_z0___1
              have hF35 := hF1.trf f28 (by intro z hz; simp only [List.mem_cons, List.not_mem_nil, or_false] at hz ⊢; try omega)
              have tp36 : M24.2.1 = z0 + 2 := by rw [f28.2]; exact tp1
              show pl _ _ _ (57, [(0, .ref cd), (1, .int (nI L)), (2, .int (nI S.length)), (3, .int (nI pc))], [.int 1], M24) _
              have hsz := in_sz q54_s
              refine ps_if (S1 := (67, [(0, .ref cd), (3, .int (nI pc))], [], M24)) (S2 := (60, [(0, .ref cd), (1, .int (nI L)), (2, .int (nI S.length)), (3, .int (nI pc))], [], M24)) rfl rfl rfl (fun c_57 => ?_) (fun c_57 => ?_)
              · exact absurd (of_decide_eq_true c_57) (by decide)
              refine ps_st (S' := (61, [(0, .ref cd), (1, .int (nI L)), (2, .int (nI S.length)), (3, .int (nI pc))], [.ref cd], M24)) rfl rfl rfl ?_
              refine pl_call (a := [.ref cd]) (rest := []) rfl rfl rfl (dk_operandsHold7 (f := f) (n := n) (N := N) (q := q) (E := E) (cd := cd) (on := on) (b := b) (cb := cb) (L := L) (ml := ml) (mj := mj) (pc := pc) (x := x26) (c0 := c0) (c2 := (nI L)) (c3 := c3) (c4 := c4) (y10 := y10) (y11 := y11) (v8 := (.int 0)) (v9 := (.ref z0)) (v10 := (.ref (z0 + 1))) h30 h27 (hmj) (hml) (h0) (hCP) (q54_s) (hV.keep hF35 (n7c h_cd (by decide) (n7c h_on (by decide) n7nil)))) (fun v37 M38 q39 => ?_)
              obtain ⟨rfl, rfl⟩ := q39
              show pl _ _ _ (64, [(0, .ref cd), (1, .int (nI L)), (2, .int (nI S.length)), (3, .int (nI pc))], [.int (nI (okI f n E mj ml x26))], M24) _
              have hok9 := okI_le f n E mj ml x26
              refine ps_if (S1 := (80, [(0, .ref cd), (1, .int (nI L)), (2, .int (nI S.length)), (3, .int (nI pc))], [], M24)) (S2 := (67, [(0, .ref cd), (3, .int (nI pc))], [], M24)) rfl rfl rfl (fun c_64 => ?_) (fun c_64 => ?_)
              · have c_64 : ¬ (nI (okI f n E mj ml x26)) = 0 := of_decide_eq_true c_64
                have n_64 : ¬ (okI f n E mj ml x26 = 0) := fun h9 => c_64 ((eq_nI (p := okI f n E mj ml x26) (n := 0) (by omega) (by decide)).mpr h9)
                refine ps_st (S' := (81, [(0, .ref cd), (1, .int (nI L)), (2, .int (nI S.length)), (3, .int (nI pc))], [.ref cd], M24)) rfl rfl rfl ?_
                refine ps_get (S' := (84, [(0, .ref cd), (1, .int (nI L)), (2, .int (nI S.length)), (3, .int (nI pc))], [.ref z0], M24)) rfl h30 rfl rfl ?_
                refine ps_st (S' := (85, [(0, .ref cd), (1, .int (nI L)), (2, .int (nI S.length)), (3, .int (nI pc))], [.int (nI S.length), .ref z0], M24)) rfl rfl rfl ?_
                refine ps_st (S' := (86, [(0, .ref cd), (1, .int (nI L)), (2, .int (nI S.length)), (3, .int (nI pc))], [.int (nI pc), .int (nI S.length), .ref z0], M24)) rfl rfl rfl ?_
                refine ps_ast rfl h33 (fun M40 i0_86 i1_86 h41 f42 z43 => ?_)
                have h44 := (f42 cd (show cd ≠ z0 by omega)).trans h30
                have h45 := (f42 on (show on ≠ z0 by omega)).trans h27
                have h46 := (f42 b (show b ≠ z0 by omega)).trans h31
                have h47 := (f42 da (show da ≠ z0 by omega)).trans h32
                have h48 := (f42 (z0 + 1) (show (z0 + 1) ≠ z0 by omega)).trans h34
                have hF49 := hF35.up (Or.inr (by omega)) f42 (by rw [z43]; exact Nat.le_refl _)
                have tp50 : M40.2.1 = z0 + 2 := by rw [z43]; exact tp36
                show pl _ _ _ (87, [(0, .ref cd), (1, .int (nI L)), (2, .int (nI S.length)), (3, .int (nI pc))], [], M40) _
                refine ps_st (S' := (90, [(2, .int ((nI S.length) + 1)), (0, .ref cd), (1, .int (nI L)), (3, .int (nI pc))], [], M40)) rfl rfl rfl ?_
                rw [nI_add1 (p := S.length) (k := 1) (x := 1) rfl (by omega)]
                show pl _ _ _ (_, [(2, .int (nI (S.length + 1))), (0, .ref cd), (1, .int (nI L)), (3, .int (nI pc))], [], M40) _
                refine ps_st (S' := (91, [(2, .int (nI (S.length + 1))), (0, .ref cd), (1, .int (nI L)), (3, .int (nI pc))], [.ref cd], M40)) rfl rfl rfl ?_
                refine ps_get (S' := (94, [(2, .int (nI (S.length + 1))), (0, .ref cd), (1, .int (nI L)), (3, .int (nI pc))], [.ref (z0 + 1)], M40)) rfl h44 rfl rfl ?_
                refine ps_st (S' := (95, [(2, .int (nI (S.length + 1))), (0, .ref cd), (1, .int (nI L)), (3, .int (nI pc))], [.int (nI pc), .ref (z0 + 1)], M40)) rfl rfl rfl ?_
                refine ps_st (S' := (96, [(2, .int (nI (S.length + 1))), (0, .ref cd), (1, .int (nI L)), (3, .int (nI pc))], [.int (nI (S.length + 1)), .int (nI pc), .ref (z0 + 1)], M40)) rfl rfl rfl ?_
                refine ps_ast rfl h48 (fun M51 i0_96 i1_96 h52 f53 z54 => ?_)
                have h55 := (f53 cd (show cd ≠ (z0 + 1) by omega)).trans h44
                have h56 := (f53 on (show on ≠ (z0 + 1) by omega)).trans h45
                have h57 := (f53 b (show b ≠ (z0 + 1) by omega)).trans h46
                have h58 := (f53 da (show da ≠ (z0 + 1) by omega)).trans h47
                have h59 := (f53 z0 (show z0 ≠ (z0 + 1) by omega)).trans h41
                have hF60 := hF49.up (Or.inr (by omega)) f53 (by rw [z54]; exact Nat.le_refl _)
                have tp61 : M51.2.1 = z0 + 2 := by rw [z54]; exact tp50
                show pl _ _ _ (97, [(2, .int (nI (S.length + 1))), (0, .ref cd), (1, .int (nI L)), (3, .int (nI pc))], [], M51) _
                refine ps_st (S' := (98, [(2, .int (nI (S.length + 1))), (0, .ref cd), (1, .int (nI L)), (3, .int (nI pc))], [.int (nI pc)], M51)) rfl rfl rfl ?_
                refine ps_st (S' := (99, [(2, .int (nI (S.length + 1))), (0, .ref cd), (1, .int (nI L)), (3, .int (nI pc))], [.ref cd, .int (nI pc)], M51)) rfl rfl rfl ?_
                refine ps_get (S' := (102, [(2, .int (nI (S.length + 1))), (0, .ref cd), (1, .int (nI L)), (3, .int (nI pc))], [.ref on, .int (nI pc)], M51)) rfl h55 rfl rfl ?_
                refine ps_get (S' := (105, [(2, .int (nI (S.length + 1))), (0, .ref cd), (1, .int (nI L)), (3, .int (nI pc))], [.int (nI x26.2.1), .int (nI pc)], M51)) rfl h56 rfl rfl ?_
                refine ps_st (S' := (106, [(2, .int (nI (S.length + 1))), (0, .ref cd), (1, .int (nI L)), (3, .int (nI pc))], [.int ((nI pc) + (nI x26.2.1))], M51)) rfl rfl rfl ?_
                rw [nI_add1 (p := pc) (k := x26.2.1) (x := (nI x26.2.1)) rfl (by omega)]
                show pl _ _ _ (_, [(2, .int (nI (S.length + 1))), (0, .ref cd), (1, .int (nI L)), (3, .int (nI pc))], [.int (nI (pc + x26.2.1))], M51) _
                refine ps_st (S' := (107, [(3, .int (nI (pc + x26.2.1))), (2, .int (nI (S.length + 1))), (0, .ref cd), (1, .int (nI L))], [], M51)) rfl rfl rfl ?_
                refine ps_st (S' := (39, [(0, .ref cd), (1, .int (nI L)), (2, .int (nI (S.length + 1))), (3, .int (nI (pc + x26.2.1)))], [], M51)) rfl rfl rfl ?_
                rw [show nI (S.length + 1) = nI (S ++ [pc]).length from by rw [List.length_append]; rfl]
                have hva : vaN f n E mj cb L ml pc = x26.2.1 := by unfold vaN; rw [q54_s]; dsimp only; rw [if_neg n_64]
                exact ih.1 (pc + x26.2.1) (S ++ [pc]) ((upd F9 (Int32.toNatClampNeg (nI S.length)) (nI pc))) ((upd F10 (Int32.toNatClampNeg (nI pc)) (nI (S.length + 1)))) ((nI x26.1)) ((nI x26.2.1)) (x26.2.2.1) (x26.2.2.2.1) ((nI x26.2.2.2.2.1)) ((nI x26.2.2.2.2.2.1)) ((nI pc)) ((x26.2.2.2.2.2.2.1.getD y10)) (((x26.2.2.2.2.2.2.2.map nI).getD y11)) M51 h55 h56 h57 h58 h59 h52 hF60 (tp61) (by simp only [List.length_append, List.length_cons, List.length_nil]; omega) (fun p hp => (by rcases List.mem_append.mp hp with h8 | h8; have := hlt p h8; omega; rw [List.mem_singleton.mp h8]; omega)) (st_snoc hf9 (by omega)) (nu_snoc hf10 (fun h8 => absurd (hlt pc h8) (Nat.lt_irrefl _)) (by omega)) (by
                    rw [← hs, cuS_st (i := S.length) (by omega), if_neg (by omega), if_neg (by omega), hva, List.length_append]
                    rfl)
              · have c_64 : ¬ (¬ (nI (okI f n E mj ml x26)) = 0) := of_decide_eq_false c_64
                have n_64 : okI f n E mj ml x26 = 0 := (eq_nI (p := okI f n E mj ml x26) (n := 0) (by omega) (by decide)).mp (Decidable.not_not.mp c_64)
                refine ps_st (S' := (68, [(0, .ref cd), (3, .int (nI pc))], [.ref cd], M24)) rfl rfl rfl ?_
                refine ps_st (S' := (70, [(0, .ref cd), (3, .int (nI pc))], [.int (-2), .ref cd], M24)) rfl rfl rfl ?_
                refine ps_st (S' := (71, [(0, .ref cd), (3, .int (nI pc))], [.int (nI pc), .int (-2), .ref cd], M24)) rfl rfl rfl ?_
                refine ps_st (S' := (72, [(0, .ref cd), (3, .int (nI pc))], [.int ((-2) - (nI pc)), .ref cd], M24)) rfl rfl rfl ?_
                refine ps_put (l' := [.int c0, .int (nI ml), .int (nI L), .int c3, .int c4, .ref q, .int (nI mj), .ref on, .int ((-2) - (nI pc)), .ref z0, .ref (z0 + 1)]) rfl h30 rfl rfl (fun M62 h63 f64 z65 => ?_)
                have h66 := (f64 on (ob_ne h27 h30 (by decide))).trans h27
                have h67 := (f64 b (ob_ne h31 h30 (by decide))).trans h31
                have h68 := (f64 da (Ne.symm (ob_ar h30 h32))).trans h32
                have h69 := (f64 z0 (show z0 ≠ cd by omega)).trans h33
                have h70 := (f64 (z0 + 1) (show (z0 + 1) ≠ cd by omega)).trans h34
                have hF71 := hF35.up (Or.inl (by simp)) f64 (by rw [z65]; exact Nat.le_refl _)
                have tp72 : M62.2.1 = z0 + 2 := by rw [z65]; exact tp36
                show pl _ _ _ (75, [(0, .ref cd), (3, .int (nI pc))], [], M62) _
                refine ps_st (S' := (76, [(0, .ref cd), (3, .int (nI pc))], [.ref cd], M62)) rfl rfl rfl ?_
                refine ps_get (S' := (79, [(0, .ref cd), (3, .int (nI pc))], [.int ((-2) - (nI pc))], M62)) rfl h63 rfl rfl ?_
                have hva : vaN f n E mj cb L ml pc = 0 := by unfold vaN; rw [q54_s]; dsimp only; rw [if_pos n_64]
                have hcu : cuS f n E mj cb L ml L 0 [] = .inl pc := by rw [← hs, cuS_st (i := S.length) (by omega), if_neg (by omega), if_pos hva]
                have hcv : -2 - nI pc = cutV f n E mj cb L ml := by unfold cutV cutS; rw [hcu]
                exact ps_reti rfl (⟨F9, F10, (nI x26.1), (nI x26.2.1), x26.2.2.1, x26.2.2.2.1, (nI x26.2.2.2.2.1), (nI x26.2.2.2.2.2.1), (nI pc), (x26.2.2.2.2.2.2.1.getD y10), ((x26.2.2.2.2.2.2.2.map nI).getD y11), fun S' h8 => (by unfold cutS at h8; rw [hcu] at h8; cases h8), by rw [← hcv], by rw [tp0, ← hcv]; exact h63, h66, by rw [tp0]; exact h69, by rw [tp0]; exact h70, hF71, by rw [tp0]; exact tp72⟩)
            · skip
              obtain ⟨z373, z474, z575, z676, z777, z878, z979, z1080, z1181, q54_s, rfl, h82, f83⟩ := q25
              have h85 := (f83.1 cd (nin1 (ob_ne hl_cd hl_on (by decide)))).trans hl_cd
              have h86 := (f83.1 b (nin1 (ob_ne hl_b hl_on (by decide)))).trans hl_b
              have h87 := (f83.1 da (nin1 (Ne.symm (ob_ar hl_on hl_da)))).trans hl_da
              have h88 := (f83.1 z0 (nin1 (show z0 ≠ on by omega))).trans hl_z0
              have h89 := (f83.1 (z0 + 1) (nin1 (show (z0 + 1) ≠ on by omega))).trans hl_z0___1
              have hF90 := hF1.trf f83 (by intro z hz; simp only [List.mem_cons, List.not_mem_nil, or_false] at hz ⊢; try omega)
              have tp91 : M24.2.1 = z0 + 2 := by rw [f83.2]; exact tp1
              show pl _ _ _ (57, [(0, .ref cd), (1, .int (nI L)), (2, .int (nI S.length)), (3, .int (nI pc))], [.int 0], M24) _
              refine ps_if (S1 := (67, [(0, .ref cd), (3, .int (nI pc))], [], M24)) (S2 := (60, [(0, .ref cd), (1, .int (nI L)), (2, .int (nI S.length)), (3, .int (nI pc))], [], M24)) rfl rfl rfl (fun c_57 => ?_) (fun c_57 => ?_)
              rotate_left
              · exact absurd (by decide) (of_decide_eq_false c_57)
              refine ps_st (S' := (68, [(0, .ref cd), (3, .int (nI pc))], [.ref cd], M24)) rfl rfl rfl ?_
              refine ps_st (S' := (70, [(0, .ref cd), (3, .int (nI pc))], [.int (-2), .ref cd], M24)) rfl rfl rfl ?_
              refine ps_st (S' := (71, [(0, .ref cd), (3, .int (nI pc))], [.int (nI pc), .int (-2), .ref cd], M24)) rfl rfl rfl ?_
              refine ps_st (S' := (72, [(0, .ref cd), (3, .int (nI pc))], [.int ((-2) - (nI pc)), .ref cd], M24)) rfl rfl rfl ?_
              refine ps_put (l' := [.int c0, .int (nI ml), .int (nI L), .int c3, .int c4, .ref q, .int (nI mj), .ref on, .int ((-2) - (nI pc)), .ref z0, .ref (z0 + 1)]) rfl h85 rfl rfl (fun M92 h93 f94 z95 => ?_)
              have h96 := (f94 on (ob_ne h82 h85 (by decide))).trans h82
              have h97 := (f94 b (ob_ne h86 h85 (by decide))).trans h86
              have h98 := (f94 da (Ne.symm (ob_ar h85 h87))).trans h87
              have h99 := (f94 z0 (show z0 ≠ cd by omega)).trans h88
              have h100 := (f94 (z0 + 1) (show (z0 + 1) ≠ cd by omega)).trans h89
              have hF101 := hF90.up (Or.inl (by simp)) f94 (by rw [z95]; exact Nat.le_refl _)
              have tp102 : M92.2.1 = z0 + 2 := by rw [z95]; exact tp91
              show pl _ _ _ (75, [(0, .ref cd), (3, .int (nI pc))], [], M92) _
              refine ps_st (S' := (76, [(0, .ref cd), (3, .int (nI pc))], [.ref cd], M92)) rfl rfl rfl ?_
              refine ps_get (S' := (79, [(0, .ref cd), (3, .int (nI pc))], [.int ((-2) - (nI pc))], M92)) rfl h93 rfl rfl ?_
              have hva : vaN f n E mj cb L ml pc = 0 := by unfold vaN; rw [q54_s]
              have hcu : cuS f n E mj cb L ml L 0 [] = .inl pc := by rw [← hs, cuS_st (i := S.length) (by omega), if_neg (by omega), if_pos hva]
              have hcv : -2 - nI pc = cutV f n E mj cb L ml := by unfold cutV cutS; rw [hcu]
              exact ps_reti rfl (⟨F9, F10, z373, z474, z575, z676, z777, z878, z979, z1080, z1181, fun S' h8 => (by unfold cutS at h8; rw [hcu] at h8; cases h8), by rw [← hcv], by rw [tp0, ← hcv]; exact h93, h96, by rw [tp0]; exact h99, by rw [tp0]; exact h100, hF101, by rw [tp0]; exact tp102⟩)
      · skip
        intro k S x8 F9 F10 y3 y4 y5 y6 y7 y8 y9 y10 y11 M1 hl_cd hl_on hl_b hl_da hl_z0 hl_z0___1 hF1 tp1 hcu hSb hlt hf9 hf10 hk hx8
        refine ps_st1 (S' := (118, [(0, .ref cd), (2, .int (nI S.length)), (3, .int (nI k))], [.int (nI k)], M1)) rfl rfl rfl ?_
        refine ps_st (S' := (119, [(0, .ref cd), (2, .int (nI S.length)), (3, .int (nI k))], [.int (nI S.length), .int (nI k)], M1)) rfl rfl rfl ?_
        refine ps_if2 (S1 := (172, [(0, .ref cd)], [], M1)) (S2 := (122, [(0, .ref cd), (2, .int (nI S.length)), (3, .int (nI k))], [], M1)) rfl rfl rfl (fun c_119 => ?_) (fun c_119 => ?_)
        · have c_119 : (nI S.length) ≤ (nI k) := of_decide_eq_true c_119
          have n_119 : S.length ≤ k := (le_nI (p := S.length) (n := k) (by omega) (by omega)).mp c_119
          have hcv : x8 = cutV f n E mj cb L ml := by
            unfold cutV cutS
            rw [hcu]
            dsimp only
            rcases hx8 with ⟨e1, e2⟩ | ⟨p, hp, e1, e2⟩
            · rw [← e2, List.drop_eq_nil_of_le (by omega)]
              exact e1
            · rw [e2]
              exact e1
          refine ps_st (S' := (173, [(0, .ref cd)], [.ref cd], M1)) rfl rfl rfl ?_
          refine ps_get (S' := (176, [(0, .ref cd)], [.int x8], M1)) rfl hl_cd rfl rfl ?_
          exact ps_reti rfl (⟨F9, F10, y3, y4, y5, y6, y7, y8, y9, y10, y11, fun S' h8 => (by unfold cutS at h8; rw [hcu] at h8; dsimp only at h8; split at h8; cases h8; cases h8; exact ⟨hf9, hf10⟩), by rw [hcv], by rw [tp0, ← hcv]; exact hl_cd, hl_on, by rw [tp0]; exact hl_z0, by rw [tp0]; exact hl_z0___1, hF1, by rw [tp0]; exact tp1⟩)
        · have c_119 : ¬ ((nI S.length) ≤ (nI k)) := of_decide_eq_false c_119
          have n_119 : ¬ (S.length ≤ k) := fun h9 => c_119 ((le_nI (p := S.length) (n := k) (by omega) (by omega)).mpr h9)
          refine ps_st (S' := (123, [(0, .ref cd), (2, .int (nI S.length)), (3, .int (nI k))], [.ref cd], M1)) rfl rfl rfl ?_
          refine ps_get (S' := (126, [(0, .ref cd), (2, .int (nI S.length)), (3, .int (nI k))], [.int x8], M1)) rfl hl_cd rfl rfl ?_
          refine ps_st (S' := (127, [(0, .ref cd), (2, .int (nI S.length)), (3, .int (nI k))], [.int (nI S.length), .int x8], M1)) rfl rfl rfl ?_
          refine ps_if2 (S1 := (172, [(0, .ref cd)], [], M1)) (S2 := (130, [(0, .ref cd), (2, .int (nI S.length)), (3, .int (nI k))], [], M1)) rfl rfl rfl (fun c_127 => ?_) (fun c_127 => ?_)
          · have c_127 : ¬ x8 = (nI S.length) := of_decide_eq_true c_127
            have hcv : x8 = cutV f n E mj cb L ml := by
              unfold cutV cutS
              rw [hcu]
              dsimp only
              rcases hx8 with ⟨e1, e2⟩ | ⟨p, hp, e1, e2⟩
              · exact absurd e1 c_127
              · rw [e2]
                exact e1
            refine ps_st (S' := (173, [(0, .ref cd)], [.ref cd], M1)) rfl rfl rfl ?_
            refine ps_get (S' := (176, [(0, .ref cd)], [.int x8], M1)) rfl hl_cd rfl rfl ?_
            exact ps_reti rfl (⟨F9, F10, y3, y4, y5, y6, y7, y8, y9, y10, y11, fun S' h8 => (by unfold cutS at h8; rw [hcu] at h8; dsimp only at h8; split at h8; cases h8; cases h8; exact ⟨hf9, hf10⟩), by rw [hcv], by rw [tp0, ← hcv]; exact hl_cd, hl_on, by rw [tp0]; exact hl_z0, by rw [tp0]; exact hl_z0___1, hF1, by rw [tp0]; exact tp1⟩)
          · have c_127 : ¬ (¬ x8 = (nI S.length)) := of_decide_eq_false c_127
            have hx9 := hx8.resolve_right (fun h8 => (by obtain ⟨p, hp, e1, -⟩ := h8; exact m2_ne (by omega) hp (e1.symm.trans (Decidable.not_not.mp c_127))))
            have hpk : S.getD k 0 < L := hlt _ (getD_mem (by omega))
            refine ps_st (S' := (131, [(0, .ref cd), (2, .int (nI S.length)), (3, .int (nI k))], [.ref cd], M1)) rfl rfl rfl ?_
            refine ps_get (S' := (134, [(0, .ref cd), (2, .int (nI S.length)), (3, .int (nI k))], [.ref on], M1)) rfl hl_cd rfl rfl ?_
            refine ps_st (S' := (135, [(0, .ref cd), (2, .int (nI S.length)), (3, .int (nI k))], [.ref cd, .ref on], M1)) rfl rfl rfl ?_
            refine ps_get (S' := (138, [(0, .ref cd), (2, .int (nI S.length)), (3, .int (nI k))], [.ref z0, .ref on], M1)) rfl hl_cd rfl rfl ?_
            refine ps_st (S' := (139, [(0, .ref cd), (2, .int (nI S.length)), (3, .int (nI k))], [.int (nI k), .ref z0, .ref on], M1)) rfl rfl rfl ?_
            refine ps_ald (S' := (140, [(0, .ref cd), (2, .int (nI S.length)), (3, .int (nI k))], [.int (F9 (Int32.toNatClampNeg (nI k))), .ref on], M1)) rfl hl_z0 rfl (fun i0_139 i1_139 => ?_)
            rw [show (F9 (Int32.toNatClampNeg (nI k))) = (nI (S.getD k 0)) from (congrArg F9 (nI_toNat (k := k) (by omega))).trans (hf9 k (by omega))]
            show pl _ _ _ (_, [(0, .ref cd), (2, .int (nI S.length)), (3, .int (nI k))], [.int (nI (S.getD k 0)), .ref on], M1) _
            refine pl_call (a := [.ref on, .int (nI (S.getD k 0))]) (rest := []) rfl rfl rfl (dk_isTakenApart (f := f) (n := n) (on := on) (b := b) (da := da) (cb := cb) (L := L) (y3 := y3) (y4 := y4) (y5 := y5) (y6 := y6) (y7 := y7) (y8 := y8) (y9 := y9) (y10 := y10) (y11 := y11) (pc := (S.getD k 0)) hl_on hl_b hl_da (hn) (hcl) (hpk)) (fun v103 M104 q105 => ?_)
            rcases q105 with q105 | q105
            · skip
              obtain ⟨x106, q140_s, rfl, h107, f108⟩ := q105
              have h110 := (f108.1 cd (nin1 (ob_ne hl_cd hl_on (by decide)))).trans hl_cd
              have h111 := (f108.1 b (nin1 (ob_ne hl_b hl_on (by decide)))).trans hl_b
              have h112 := (f108.1 da (nin1 (Ne.symm (ob_ar hl_on hl_da)))).trans hl_da
              have h113 := (f108.1 z0 (nin1 (show z0 ≠ on by omega))).trans hl_z0
              have h114 := (f108.1 (z0 + 1) (nin1 (show (z0 + 1) ≠ on by omega))).trans hl_z0___1
              have hF115 := hF1.trf f108 (by intro z hz; simp only [List.mem_cons, List.not_mem_nil, or_false] at hz ⊢; try omega)
              have tp116 : M104.2.1 = z0 + 2 := by rw [f108.2]; exact tp1
              show pl _ _ _ (143, [(0, .ref cd), (2, .int (nI S.length)), (3, .int (nI k))], [.int 1], M104) _
              refine ps_if (S1 := (166, [(0, .ref cd), (2, .int (nI S.length)), (3, .int (nI k))], [], M104)) (S2 := (146, [(0, .ref cd), (2, .int (nI S.length)), (3, .int (nI k))], [], M104)) rfl rfl rfl (fun c_143 => ?_) (fun c_143 => ?_)
              · exact absurd (of_decide_eq_true c_143) (by decide)
              refine ps_st (S' := (147, [(0, .ref cd), (2, .int (nI S.length)), (3, .int (nI k))], [.ref cd], M104)) rfl rfl rfl ?_
              refine pl_call (a := [.ref cd]) (rest := []) rfl rfl rfl (dk_targetsHold7 (f := f) (n := n) (q := q) (cd := cd) (on := on) (b := b) (da := da) (cb := cb) (L := L) (ml := ml) (mj := mj) (pc := (S.getD k 0)) (t9 := (z0 + 1)) (x := x106) (F := F10) (S := S) (c0 := c0) (c2 := (nI L)) (c3 := c3) (c4 := c4) (y10 := y10) (y11 := y11) (v8 := (.int x8)) (v9 := (.ref z0)) h110 h107 h111 h112 h114 (hn) (hcl) (q140_s) (by omega) (hf10) (hlt) (by omega)) (fun v117 M118 q119 => ?_)
              obtain ⟨rfl, rfl⟩ := q119
              show pl _ _ _ (150, [(0, .ref cd), (2, .int (nI S.length)), (3, .int (nI k))], [.int (nI (thN f cb S (S.getD k 0) x106 x106.2.2.2.2.2.1 0))], M104) _
              have hth9 : thN f cb S (S.getD k 0) x106 x106.2.2.2.2.2.1 0 < 2 := thG_le _ _
              refine ps_if (S1 := (166, [(0, .ref cd), (2, .int (nI S.length)), (3, .int (nI k))], [], M104)) (S2 := (153, [(0, .ref cd), (2, .int (nI S.length)), (3, .int (nI k))], [], M104)) rfl rfl rfl (fun c_150 => ?_) (fun c_150 => ?_)
              · have c_150 : ¬ (nI (thN f cb S (S.getD k 0) x106 x106.2.2.2.2.2.1 0)) = 0 := of_decide_eq_true c_150
                have n_150 : ¬ (thN f cb S (S.getD k 0) x106 x106.2.2.2.2.2.1 0 = 0) := fun h9 => c_150 ((eq_nI (p := thN f cb S (S.getD k 0) x106 x106.2.2.2.2.2.1 0) (n := 0) (by omega) (by decide)).mpr h9)
                refine ps_st (S' := (169, [(3, .int ((nI k) + 1)), (0, .ref cd), (2, .int (nI S.length))], [], M104)) rfl rfl rfl ?_
                rw [nI_add1 (p := k) (k := 1) (x := 1) rfl (by omega)]
                show pl _ _ _ (_, [(3, .int (nI (k + 1))), (0, .ref cd), (2, .int (nI S.length))], [], M104) _
                refine ps_st (S' := (117, [(0, .ref cd), (2, .int (nI S.length)), (3, .int (nI (k + 1)))], [], M104)) rfl rfl rfl ?_
                exact ih.2 (k + 1) (S) (x8) (F9) (F10) ((nI x106.1)) ((nI x106.2.1)) (x106.2.2.1) (x106.2.2.2.1) ((nI x106.2.2.2.2.1)) ((nI x106.2.2.2.2.2.1)) ((nI (S.getD k 0))) ((x106.2.2.2.2.2.2.1.getD y10)) (((x106.2.2.2.2.2.2.2.map nI).getD y11)) M104 h110 h107 h111 h112 h113 h114 hF115 (tp116) (hcu) (hSb) (hlt) (hf9) (hf10) (by omega) (Or.inl ⟨hx9.1, by
                    rw [← hx9.2, fb_st (k := k) (by omega), q140_s]
                    dsimp only
                    rw [if_neg n_150]⟩)
              · have c_150 : ¬ (¬ (nI (thN f cb S (S.getD k 0) x106 x106.2.2.2.2.2.1 0)) = 0) := of_decide_eq_false c_150
                have n_150 : thN f cb S (S.getD k 0) x106 x106.2.2.2.2.2.1 0 = 0 := (eq_nI (p := thN f cb S (S.getD k 0) x106 x106.2.2.2.2.2.1 0) (n := 0) (by omega) (by decide)).mp (Decidable.not_not.mp c_150)
                refine ps_st (S' := (154, [(0, .ref cd), (2, .int (nI S.length)), (3, .int (nI k))], [.ref cd], M104)) rfl rfl rfl ?_
                refine ps_st (S' := (156, [(0, .ref cd), (2, .int (nI S.length)), (3, .int (nI k))], [.int (-2), .ref cd], M104)) rfl rfl rfl ?_
                refine ps_st (S' := (157, [(0, .ref cd), (2, .int (nI S.length)), (3, .int (nI k))], [.ref cd, .int (-2), .ref cd], M104)) rfl rfl rfl ?_
                refine ps_get (S' := (160, [(0, .ref cd), (2, .int (nI S.length)), (3, .int (nI k))], [.ref z0, .int (-2), .ref cd], M104)) rfl h110 rfl rfl ?_
                refine ps_st (S' := (161, [(0, .ref cd), (2, .int (nI S.length)), (3, .int (nI k))], [.int (nI k), .ref z0, .int (-2), .ref cd], M104)) rfl rfl rfl ?_
                refine ps_ald (S' := (162, [(0, .ref cd), (2, .int (nI S.length)), (3, .int (nI k))], [.int (F9 (Int32.toNatClampNeg (nI k))), .int (-2), .ref cd], M104)) rfl h113 rfl (fun i0_161 i1_161 => ?_)
                rw [show (F9 (Int32.toNatClampNeg (nI k))) = (nI (S.getD k 0)) from (congrArg F9 (nI_toNat (k := k) (by omega))).trans (hf9 k (by omega))]
                show pl _ _ _ (_, [(0, .ref cd), (2, .int (nI S.length)), (3, .int (nI k))], [.int (nI (S.getD k 0)), .int (-2), .ref cd], M104) _
                refine ps_st (S' := (163, [(0, .ref cd), (2, .int (nI S.length)), (3, .int (nI k))], [.int ((-2) - (nI (S.getD k 0))), .ref cd], M104)) rfl rfl rfl ?_
                refine ps_put (l' := [.int c0, .int (nI ml), .int (nI L), .int c3, .int c4, .ref q, .int (nI mj), .ref on, .int ((-2) - (nI (S.getD k 0))), .ref z0, .ref (z0 + 1)]) rfl h110 rfl rfl (fun M120 h121 f122 z123 => ?_)
                have h124 := (f122 on (ob_ne h107 h110 (by decide))).trans h107
                have h125 := (f122 b (ob_ne h111 h110 (by decide))).trans h111
                have h126 := (f122 da (Ne.symm (ob_ar h110 h112))).trans h112
                have h127 := (f122 z0 (show z0 ≠ cd by omega)).trans h113
                have h128 := (f122 (z0 + 1) (show (z0 + 1) ≠ cd by omega)).trans h114
                have hF129 := hF115.up (Or.inl (by simp)) f122 (by rw [z123]; exact Nat.le_refl _)
                have tp130 : M120.2.1 = z0 + 2 := by rw [z123]; exact tp116
                show pl _ _ _ (166, [(0, .ref cd), (2, .int (nI S.length)), (3, .int (nI k))], [], M120) _
                refine ps_st (S' := (169, [(3, .int ((nI k) + 1)), (0, .ref cd), (2, .int (nI S.length))], [], M120)) rfl rfl rfl ?_
                rw [nI_add1 (p := k) (k := 1) (x := 1) rfl (by omega)]
                show pl _ _ _ (_, [(3, .int (nI (k + 1))), (0, .ref cd), (2, .int (nI S.length))], [], M120) _
                refine ps_st (S' := (117, [(0, .ref cd), (2, .int (nI S.length)), (3, .int (nI (k + 1)))], [], M120)) rfl rfl rfl ?_
                exact ih.2 (k + 1) (S) (((-2) - (nI (S.getD k 0)))) (F9) (F10) ((nI x106.1)) ((nI x106.2.1)) (x106.2.2.1) (x106.2.2.2.1) ((nI x106.2.2.2.2.1)) ((nI x106.2.2.2.2.2.1)) ((nI (S.getD k 0))) ((x106.2.2.2.2.2.2.1.getD y10)) (((x106.2.2.2.2.2.2.2.map nI).getD y11)) M120 h121 h124 h125 h126 h127 h128 hF129 (tp130) (hcu) (hSb) (hlt) (hf9) (hf10) (by omega) (Or.inr ⟨S.getD k 0, by omega, rfl, by
                    rw [← hx9.2, fb_st (by omega), q140_s]
                    dsimp only
                    rw [if_pos n_150]⟩)
            · skip
              obtain ⟨z3131, z4132, z5133, z6134, z7135, z8136, z9137, z10138, z11139, q140_s, rfl, h140, f141⟩ := q105
              have h143 := (f141.1 cd (nin1 (ob_ne hl_cd hl_on (by decide)))).trans hl_cd
              have h144 := (f141.1 b (nin1 (ob_ne hl_b hl_on (by decide)))).trans hl_b
              have h145 := (f141.1 da (nin1 (Ne.symm (ob_ar hl_on hl_da)))).trans hl_da
              have h146 := (f141.1 z0 (nin1 (show z0 ≠ on by omega))).trans hl_z0
              have h147 := (f141.1 (z0 + 1) (nin1 (show (z0 + 1) ≠ on by omega))).trans hl_z0___1
              have hF148 := hF1.trf f141 (by intro z hz; simp only [List.mem_cons, List.not_mem_nil, or_false] at hz ⊢; try omega)
              have tp149 : M104.2.1 = z0 + 2 := by rw [f141.2]; exact tp1
              show pl _ _ _ (143, [(0, .ref cd), (2, .int (nI S.length)), (3, .int (nI k))], [.int 0], M104) _
              refine ps_if (S1 := (166, [(0, .ref cd), (2, .int (nI S.length)), (3, .int (nI k))], [], M104)) (S2 := (146, [(0, .ref cd), (2, .int (nI S.length)), (3, .int (nI k))], [], M104)) rfl rfl rfl (fun c_143 => ?_) (fun c_143 => ?_)
              rotate_left
              · exact absurd (by decide) (of_decide_eq_false c_143)
              refine ps_st (S' := (169, [(3, .int ((nI k) + 1)), (0, .ref cd), (2, .int (nI S.length))], [], M104)) rfl rfl rfl ?_
              rw [nI_add1 (p := k) (k := 1) (x := 1) rfl (by omega)]
              show pl _ _ _ (_, [(3, .int (nI (k + 1))), (0, .ref cd), (2, .int (nI S.length))], [], M104) _
              refine ps_st (S' := (117, [(0, .ref cd), (2, .int (nI S.length)), (3, .int (nI (k + 1)))], [], M104)) rfl rfl rfl ?_
              exact ih.2 (k + 1) (S) (x8) (F9) (F10) (z3131) (z4132) (z5133) (z6134) (z7135) (z8136) (z9137) (z10138) (z11139) M104 h143 h140 h144 h145 h146 h147 hF148 (tp149) (hcu) (hSb) (hlt) (hf9) (hf10) (by omega) (Or.inl ⟨hx9.1, by
                  rw [← hx9.2, fb_st (k := k) (by omega), q140_s]⟩)
  refine ps_st (S' := (1, [(0, .ref cd)], [.ref cd], M)) rfl rfl rfl ?_
  refine ps_get (S' := (4, [(0, .ref cd)], [.int 0], M)) rfl h_cd rfl rfl ?_
  refine ps_if (S1 := (12, [(0, .ref cd)], [], M)) (S2 := (7, [(0, .ref cd)], [], M)) rfl rfl rfl (fun c_4 => ?_) (fun c_4 => ?_)
  rotate_left
  · exact absurd (by decide) (of_decide_eq_false c_4)
  refine ps_st (S' := (13, [(0, .ref cd)], [.int 0], M)) rfl rfl rfl ?_
  refine ps_st (S' := (14, [(0, .ref cd)], [.ref cd, .int 0], M)) rfl rfl rfl ?_
  refine ps_get (S' := (17, [(0, .ref cd)], [.int (nI L), .int 0], M)) rfl h_cd rfl rfl ?_
  refine ps_st (S' := (20, [(0, .ref cd)], [.int (if 0 < (nI L) then (nI L) else 0)], M)) rfl rfl rfl ?_
  rw [nmax0 (by omega)]
  show pl _ _ _ (_, [(0, .ref cd)], [.int (nI (L))], M) _
  refine ps_st (S' := (21, [(1, .int (nI (L))), (0, .ref cd)], [], M)) rfl rfl rfl ?_
  refine ps_st (S' := (22, [(1, .int (nI (L))), (0, .ref cd)], [.ref cd], M)) rfl rfl rfl ?_
  refine ps_st (S' := (23, [(1, .int (nI (L))), (0, .ref cd)], [.int (nI (L)), .ref cd], M)) rfl rfl rfl ?_
  refine ps_newa rfl tp0 (fun M150 i0_23 h151 f152 tp153 => ?_)
  rw [nI_toNat (by omega)] at h151
  have h154 := (f152 cd (show cd ≠ z0 by omega)).trans h_cd
  have h155 := (f152 on (show on ≠ z0 by omega)).trans h_on
  have h156 := (f152 b (show b ≠ z0 by omega)).trans h_b
  have h157 := (f152 da (show da ≠ z0 by omega)).trans h_da
  have hF158 := hF.up (Or.inr (by omega)) f152 (by omega)
  show pl _ _ _ (25, [(1, .int (nI (L))), (0, .ref cd)], [.ref z0, .ref cd], M150) _
  refine ps_put (l' := [.int c0, .int (nI ml), .int (nI L), .int c3, .int c4, .ref q, .int (nI mj), .ref on, .int 0, .ref z0, v10]) rfl h154 rfl rfl (fun M159 h160 f161 z162 => ?_)
  have h163 := (f161 on (ob_ne h155 h154 (by decide))).trans h155
  have h164 := (f161 b (ob_ne h156 h154 (by decide))).trans h156
  have h165 := (f161 da (Ne.symm (ob_ar h154 h157))).trans h157
  have h166 := (f161 z0 (show z0 ≠ cd by omega)).trans h151
  have hF167 := hF158.up (Or.inl (by simp)) f161 (by rw [z162]; exact Nat.le_refl _)
  have tp168 : M159.2.1 = z0 + 1 := by rw [z162]; exact tp153
  show pl _ _ _ (28, [(1, .int (nI (L))), (0, .ref cd)], [], M159) _
  refine ps_st (S' := (29, [(1, .int (nI (L))), (0, .ref cd)], [.ref cd], M159)) rfl rfl rfl ?_
  refine ps_st (S' := (30, [(1, .int (nI (L))), (0, .ref cd)], [.int (nI (L)), .ref cd], M159)) rfl rfl rfl ?_
  refine ps_newa rfl tp168 (fun M169 i0_30 h170 f171 tp172 => ?_)
  rw [nI_toNat (by omega)] at h170
  have h173 := (f171 cd (show cd ≠ (z0 + 1) by omega)).trans h160
  have h174 := (f171 on (show on ≠ (z0 + 1) by omega)).trans h163
  have h175 := (f171 b (show b ≠ (z0 + 1) by omega)).trans h164
  have h176 := (f171 da (show da ≠ (z0 + 1) by omega)).trans h165
  have h177 := (f171 z0 (show z0 ≠ (z0 + 1) by omega)).trans h166
  have hF178 := hF167.up (Or.inr (by omega)) f171 (by omega)
  show pl _ _ _ (32, [(1, .int (nI (L))), (0, .ref cd)], [.ref (z0 + 1), .ref cd], M169) _
  refine ps_put (l' := [.int c0, .int (nI ml), .int (nI L), .int c3, .int c4, .ref q, .int (nI mj), .ref on, .int 0, .ref z0, .ref (z0 + 1)]) rfl h173 rfl rfl (fun M179 h180 f181 z182 => ?_)
  have h183 := (f181 on (ob_ne h174 h173 (by decide))).trans h174
  have h184 := (f181 b (ob_ne h175 h173 (by decide))).trans h175
  have h185 := (f181 da (Ne.symm (ob_ar h173 h176))).trans h176
  have h186 := (f181 z0 (show z0 ≠ cd by omega)).trans h177
  have h187 := (f181 (z0 + 1) (show (z0 + 1) ≠ cd by omega)).trans h170
  have hF188 := hF178.up (Or.inl (by simp)) f181 (by rw [z182]; exact Nat.le_refl _)
  have tp189 : M179.2.1 = z0 + 2 := by rw [z182]; exact tp172
  show pl _ _ _ (35, [(1, .int (nI (L))), (0, .ref cd)], [], M179) _
  refine ps_st (S' := (36, [(1, .int (nI (L))), (0, .ref cd)], [.int 0], M179)) rfl rfl rfl ?_
  refine ps_st (S' := (37, [(2, .int 0), (1, .int (nI (L))), (0, .ref cd)], [], M179)) rfl rfl rfl ?_
  refine ps_st (S' := (38, [(2, .int 0), (1, .int (nI (L))), (0, .ref cd)], [.int 0], M179)) rfl rfl rfl ?_
  refine ps_st (S' := (39, [(0, .ref cd), (1, .int (nI (L))), (2, .int 0), (3, .int 0)], [], M179)) rfl rfl rfl ?_
  exact (LL kf).1 (0) ([]) (fun _ => 0) (fun _ => 0) (y3) (y4) (y5) (y6) (y7) (y8) (y9) (y10) (y11) M179 h180 h183 h184 h185 h186 h187 hF188 (tp189) (by simp) (fun p hp => (by cases hp)) (fun i hi => absurd hi (Nat.not_lt_zero _)) (fun j _ => rfl) (rfl)
