
theorem in_s7 {f : Nat → Int32} {cb L pc o : Nat} {x : IC} (h : inC f cb L pc = some x) (ho : by1 f (cb + pc) = o) (h7 : o = 170 ∨ o = 171) : x.1 = o ∧ x.2.2.2.2.2.2.2 = some (pdN pc) ∧ swS f cb L pc o = some (x.2.1, x.2.2.1, x.2.2.2.1, x.2.2.2.2.2.1) := by
  subst ho
  unfold inC at h
  split at h
  · cases h
  · first | rw [if_pos h7] at h | skip
    split at h
    · cases h
    · rename_i x1 hs
      cases h
      exact ⟨rfl, rfl, hs⟩
theorem in_ns {f : Nat → Int32} {cb L pc : Nat} {x : IC} (h : inC f cb L pc = some x) (hn : ¬ (by1 f (cb + pc) = 170 ∨ by1 f (cb + pc) = 171)) : swN x.1 = 0 := by
  obtain ⟨-, -, hs, -⟩ := in_in h
  rcases hs with ⟨-, h1, -⟩ | ⟨-, h2, h3, -⟩
  · exact h1
  · rw [h3] at h2
    exact absurd h2 hn
theorem sw_lo {f : Nat → Int32} {cb L pc : Nat} {x : Nat × Int32 × Int32 × Nat} (h : swS f cb L pc 170 = some x) : x.2.1 = nI (by4 f (cb + (pdN pc + 4))) := by
  unfold swS at h
  split at h
  · cases h
  · rw [if_pos rfl] at h
    unfold tbS at h
    split at h
    · cases h
    · split at h
      · cases h
      · cases h
        rfl
theorem thG_all {T : Nat → Int} {S : List Nat} : ∀ (r i : Nat), ¬ thG T S r i = 0 → ∀ j, i ≤ j → j < i + r → 0 ≤ T j ∧ (T j).toNat ∈ S
  | 0, i, _, j, h1, h2 => by omega
  | r + 1, i, h, j, h1, h2 => by
    unfold thG at h
    split at h
    · rename_i h3
      by_cases e : j = i
      · subst e
        exact h3
      · exact thG_all r (i + 1) h j (by omega) (by omega)
    · exact absurd rfl h
theorem fbS_none {f : Nat → Int32} {cb L : Nat} {S : List Nat} : ∀ (l : List Nat), fbS f cb L S l = none → ∀ p ∈ l, ∀ x, inC f cb L p = some x → ¬ thN f cb S p x x.2.2.2.2.2.1 0 = 0
  | [], _, p, hp, _, _ => by cases hp
  | a :: l, h, p, hp, x, hx => by
    unfold fbS at h
    rcases List.mem_cons.mp hp with rfl | hp
    · rw [hx] at h
      dsimp only at h
      split at h
      · cases h
      · assumption
    · split at h
      · exact fbS_none l h p hp x hx
      · split at h
        · cases h
        · exact fbS_none l h p hp x hx
theorem th_all {f : Nat → Int32} {n : Nat} {E : List (Nat × Nat)} {mj cb L ml pc : Nat} {S : List Nat} {x : IC} (h : cutS f n E mj cb L ml = .inr S) (hp : pc ∈ S) (hx : inC f cb L pc = some x) : ∀ i, i < x.2.2.2.2.2.1 → 0 ≤ tgI f cb pc x i ∧ (tgI f cb pc x i).toNat ∈ S := by
  unfold cutS at h
  split at h
  · cases h
  · split at h
    · cases h
    · rename_i S1 hc hb
      cases h
      intro i hi
      exact thG_all _ 0 (fbS_none S hb pc hp x hx) i (Nat.zero_le _) (by omega)
theorem add_t9 {p t : Nat} {x : Int32} (h : (p : Int) + x.toInt = (t : Int)) (hp : p < 65540) (ht : t < 65540) : nI p + x = nI t := Int32.toInt_inj.mp (by
  rw [Int32.toInt_add, nI_val (by omega), nI_val (by omega), h]
  exact Int.bmod_eq_of_le (by omega) (by omega))
theorem nb_at {S : List Nat} {t : Nat} {T : Int} (ht : t ∈ S) (e : T = (t : Int)) (hSl : S.length < 65536) : nuA S t - 1 = nbI S T := by
  subst e
  unfold nbI
  rw [Int.toNat_natCast, if_pos ⟨Int.natCast_nonneg t, ht⟩]
  rcases nu_m1 (S := S) (k := t) hSl with ⟨h1, h2⟩ | ⟨h1, h2⟩
  · exact h2
  · exact absurd ht h1
set_option maxHeartbeats 2000000 in
theorem rd_jumpVX {g : xe_G} {m0 : Nat} {q : Nat → Nat} {z : Nat × Nat} {I : rI} {R : rR} {M : mi_H} {n : Nat} {f : Nat → Int32} {tx : List (List Nat)} {cN : Nat} {A : Nat → Nat} {N mj : Nat} {E : List (Nat × Nat)} {n2 s9 k : Nat} {B : List Nat} {cb L ml : Nat} {kk i w : Int32} (hR : RS g m0 q z I R M) (hi51 : I 51 = some 0) (hi52 : I 52 = some (nI N)) (hi53 : I 53 = some (nI mj)) (hi9 : I 9 = some (nI s9)) (hi18 : I 18 = some (nI n2)) (hi26 : I 26 = some (nI B.length)) (hF : FK n f I R) (hY : SYT tx cN A I R) (hP : RPV f n E tx N I R) (hQ : MQX f n E B 0 B.length I R) (hU : CUZ f n E mj B I R) (hEP : EP f n E) (hN : N < 65536) (hmj : mj < 65536) (hs9 : s9 < tx.length ∧ tx.getD s9 [] = ltx 14) (hCP : CP f n E) (hPF : PF f n E) (hn2 : n2 ≤ 65540) (hk : k < B.length) (hBl : B.length < 65536) (hc0 : ¬ cpM f n E B k = 0) (hci : CIN f n (cpM f n E B k)) (hcp : cpM f n E B k + 14 = cb ∧ by4 f (cpM f n E B k + 10) = L ∧ by2 f (cpM f n E B k + 8) = ml) : pt (mT g) 220 [.ref m0, .int (nI k), .int kk, .int i, .int w] M (fun v M' => (∃  (I' : rI) (R' : rR), v = some (.int (jvI f n E mj cb L ml kk i w)) ∧ RS g m0 q z I' R' M' ∧ eqI [0, 74, 75, 76, 77, 78, 79] I I' ∧ eqR [80, 81] R R' ∧ I' 0 = some 0 ∧ CUZ f n E mj B I' R')) := by
  refine pt_in (b := mb_220 g) rfl (fun kf => ?_)
  show pl (mT g) kf (mb_220 g).2 (0, [(0, .ref m0), (1, .int (nI k)), (2, .int kk), (3, .int i), (4, .int w)], [], M) _
  have hEI : eqI [0, 74, 75, 76, 77, 78, 79] I I := eqI.rf
  have hER : eqR [80, 81] R R := eqR.rf
  have hn := hF.1
  have hcl : cb + L + 4 ≤ n := by have := hci.1; rw [← hcp.1, ← hcp.2.1]; omega
  have hL : 1 ≤ L ∧ L < 65536 := by have := hci.2; rw [← hcp.2.1]; omega
  refine ps_st (S' := (1, [(0, .ref m0), (1, .int (nI k)), (2, .int kk), (3, .int i), (4, .int w)], [.ref m0], M)) rfl rfl rfl ?_
  refine ps_st (S' := (2, [(0, .ref m0), (1, .int (nI k)), (2, .int kk), (3, .int i), (4, .int w)], [.int 0, .ref m0], M)) rfl rfl rfl ?_
  refine pr_put (j := 0) rfl hR rfl (fun M1 I2 hR3 hi4 hI5 => ?_)
  have hi6 := (hI5 51 (by decide)).trans hi51
  have hi7 := (hI5 52 (by decide)).trans hi52
  have hi8 := (hI5 53 (by decide)).trans hi53
  have hi10 := (hI5 9 (by decide)).trans hi9
  have hi11 := (hI5 18 (by decide)).trans hi18
  have hi12 := (hI5 26 (by decide)).trans hi26
  have hF_13 := hF.mono (pIx hI5 (by decide)) (fun _ _ => rfl)
  have hY_14 := hY.mono (pIx hI5 (by decide)) (fun _ _ => rfl)
  have hP_15 := hP.mono (pIx hI5 (by decide)) (fun _ _ => rfl)
  have hQ_16 := hQ.mono (pIx hI5 (by decide)) (fun _ _ => rfl)
  have hU_17 := hU.mono (pIx hI5 (by decide)) (fun _ _ => rfl)
  have hEI18 := hEI.put hI5 (by decide)
  show pl _ _ _ (5, [(0, .ref m0), (1, .int (nI k)), (2, .int kk), (3, .int i), (4, .int w)], [], M1) _
  refine ps_st (S' := (6, [(0, .ref m0), (1, .int (nI k)), (2, .int kk), (3, .int i), (4, .int w)], [.ref m0], M1)) rfl rfl rfl ?_
  refine ps_st (S' := (7, [(0, .ref m0), (1, .int (nI k)), (2, .int kk), (3, .int i), (4, .int w)], [.int (nI k), .ref m0], M1)) rfl rfl rfl ?_
  refine pl_call (a := [.ref m0, .int (nI k)]) (rest := []) rfl rfl rfl (rd_noCodeV (f := f) (n := n) (n2 := n2) (k := k) (E := E) (B := B) hR3 hi11 hi12 hQ_16 (hn2) (hk) (hBl) (hc0) (by have := hci.1; have := hF.1; omega)) (fun v19 M20 q21 => ?_)
  obtain ⟨rfl, rfl⟩ := q21
  show pl _ _ _ (10, [(0, .ref m0), (1, .int (nI k)), (2, .int kk), (3, .int i), (4, .int w)], [.int 0], M1) _
  refine ps_if (S1 := (33, [], [], M1)) (S2 := (13, [(0, .ref m0), (1, .int (nI k)), (2, .int kk), (3, .int i), (4, .int w)], [], M1)) rfl rfl rfl (fun c_10 => ?_) (fun c_10 => ?_)
  · exact absurd (of_decide_eq_true c_10) (by decide)
  refine ps_st (S' := (14, [(0, .ref m0), (1, .int (nI k)), (2, .int kk), (3, .int i), (4, .int w)], [.ref m0], M1)) rfl rfl rfl ?_
  refine ps_st (S' := (15, [(0, .ref m0), (1, .int (nI k)), (2, .int kk), (3, .int i), (4, .int w)], [.int (nI k), .ref m0], M1)) rfl rfl rfl ?_
  have g22 := hQ_16 k hk
  rw [Nat.zero_add] at g22
  unfold MWc at g22
  refine pl_call (a := [.ref m0, .int (nI k)]) (rest := []) rfl rfl rfl (rd_cuts8 (n := n) (f := f) (tx := tx) (cN := cN) (A := A) (N := N) (mj := mj) (E := E) (cb := cb) (L := L) (ml := ml) (s9 := s9) (m := k) (B := B) hR3 hi6 hi7 hi8 hi10 hF_13 hY_14 hP_15 hU_17 (hEP) (hN) (hmj) (by rw [← hcp.2.2]; exact by2_lt _ _) (hs9) (hCP) (hPF) (hcl) (hL) (by omega) (by rw [g22.2.1.1.1, if_neg (show ¬ (mK f n E (B.getD k 0)).2.1 = 0 from hc0), ← hcp.1]; rfl) (by rw [g22.2.1.1.2.1, if_neg (show ¬ (mK f n E (B.getD k 0)).2.1 = 0 from hc0), ← hcp.2.1]; rfl) (by rw [g22.2.1.1.2.2.2.1, if_neg (show ¬ (mK f n E (B.getD k 0)).2.1 = 0 from hc0), ← hcp.2.2]; rfl) (hBl) (hk) (hcp)) (fun v23 M24 q25 => ?_)
  rcases q25 with q25 | q25
  · skip
    obtain ⟨p26, I27, R28, q15_s, q15_l, rfl, hR29, hI30, hX31, hi32, hi33, hi34, hi35, hX_36⟩ := q25
    have hi37 := (hI30 51 (by decide)).trans hi6
    have hi38 := (hI30 52 (by decide)).trans hi7
    have hi39 := (hI30 53 (by decide)).trans hi8
    have hi40 := (hI30 9 (by decide)).trans hi10
    have hi41 := (hI30 18 (by decide)).trans hi11
    have hi42 := (hI30 26 (by decide)).trans hi12
    have hi43 := (hI30 0 (by decide)).trans hi4
    have hF_44 := hF_13.mono (cIx hI30 (by decide)) (cRx hX31 (by decide))
    have hY_45 := hY_14.mono (cIx hI30 (by decide)) (cRx hX31 (by decide))
    have hP_46 := hP_15.mono (cIx hI30 (by decide)) (cRx hX31 (by decide))
    have hQ_47 := hQ_16.mono (cIx hI30 (by decide)) (cRx hX31 (by decide))
    have hEI48 := hEI18.tr hI30 (by decide)
    have hER49 := hER.tr hX31 (by decide)
    show pl _ _ _ (18, [(0, .ref m0), (1, .int (nI k)), (2, .int kk), (3, .int i), (4, .int w)], [.int 0], M24) _
    refine ps_if (S1 := (33, [], [], M24)) (S2 := (21, [(0, .ref m0), (1, .int (nI k)), (2, .int kk), (3, .int i), (4, .int w)], [], M24)) rfl rfl rfl (fun c_18 => ?_) (fun c_18 => ?_)
    rotate_left
    · exact absurd (by decide) (of_decide_eq_false c_18)
    refine ps_st (S' := (34, [], [.int (-1)], M24)) rfl rfl rfl ?_
    exact ps_ret rfl rfl (⟨I27, R28, congrArg (fun x => some (Value.int x)) (by
        unfold jvI
        rw [q15_s]), hR29, hEI48, hER49, hi43, Or.inr ⟨k, hk, hc0, by rw [hcp.1, hcp.2.1, hcp.2.2]; exact hX_36⟩⟩)
  · skip
    obtain ⟨S50, I51, R52, q15_s, q15_l, rfl, hR53, hI54, hX55, hi56, hi57, hi58, hi59, hi60, hX_61, hW_62, hB_63⟩ := q25
    have hi64 := (hI54 51 (by decide)).trans hi6
    have hi65 := (hI54 52 (by decide)).trans hi7
    have hi66 := (hI54 53 (by decide)).trans hi8
    have hi67 := (hI54 9 (by decide)).trans hi10
    have hi68 := (hI54 18 (by decide)).trans hi11
    have hi69 := (hI54 26 (by decide)).trans hi12
    have hi70 := (hI54 0 (by decide)).trans hi4
    have hF_71 := hF_13.mono (cIx hI54 (by decide)) (cRx hX55 (by decide))
    have hY_72 := hY_14.mono (cIx hI54 (by decide)) (cRx hX55 (by decide))
    have hP_73 := hP_15.mono (cIx hI54 (by decide)) (cRx hX55 (by decide))
    have hQ_74 := hQ_16.mono (cIx hI54 (by decide)) (cRx hX55 (by decide))
    have hEI75 := hEI18.tr hI54 (by decide)
    have hER76 := hER.tr hX55 (by decide)
    show pl _ _ _ (18, [(0, .ref m0), (1, .int (nI k)), (2, .int kk), (3, .int i), (4, .int w)], [.int 1], M24) _
    refine ps_if (S1 := (33, [], [], M24)) (S2 := (21, [(0, .ref m0), (1, .int (nI k)), (2, .int kk), (3, .int i), (4, .int w)], [], M24)) rfl rfl rfl (fun c_18 => ?_) (fun c_18 => ?_)
    · exact absurd (of_decide_eq_true c_18) (by decide)
    refine ps_st (S' := (22, [(0, .ref m0), (1, .int (nI k)), (2, .int kk), (3, .int i), (4, .int w)], [.int kk], M24)) rfl rfl rfl ?_
    refine ps_if (S1 := (33, [], [], M24)) (S2 := (25, [(0, .ref m0), (1, .int (nI k)), (2, .int kk), (3, .int i), (4, .int w)], [], M24)) rfl rfl rfl (fun c_22 => ?_) (fun c_22 => ?_)
    · have c_22 : kk < 0 := of_decide_eq_true c_22
      refine ps_st (S' := (34, [], [.int (-1)], M24)) rfl rfl rfl ?_
      exact ps_ret rfl rfl (⟨I51, R52, congrArg (fun x => some (Value.int x)) (by
          exact (jv_lo c_22).symm), hR53, hEI75, hER76, hi70, Or.inr ⟨k, hk, hc0, by rw [hcp.1, hcp.2.1, hcp.2.2]; exact hX_61⟩⟩)
    · have c_22 : ¬ (kk < 0) := of_decide_eq_false c_22
      refine ps_st (S' := (26, [(0, .ref m0), (1, .int (nI k)), (2, .int kk), (3, .int i), (4, .int w)], [.int kk], M24)) rfl rfl rfl ?_
      refine ps_st (S' := (27, [(0, .ref m0), (1, .int (nI k)), (2, .int kk), (3, .int i), (4, .int w)], [.ref m0, .int kk], M24)) rfl rfl rfl ?_
      refine pr_int (j := 75) (S' := (30, [(0, .ref m0), (1, .int (nI k)), (2, .int kk), (3, .int i), (4, .int w)], [.int (nI S50.length), .int kk], M24)) rfl hR53 rfl hi56 rfl ?_
      refine ps_if2 (S1 := (35, [(0, .ref m0), (1, .int (nI k)), (2, .int kk), (3, .int i), (4, .int w)], [], M24)) (S2 := (33, [], [], M24)) rfl rfl rfl (fun c_30 => ?_) (fun c_30 => ?_)
      · have c_30 : kk < (nI S50.length) := of_decide_eq_true c_30
        have hSl9 : S50.length ≤ L := q15_l.1
        obtain ⟨ek, lj⟩ := i32_in (N := S50.length) (by omega) (show ¬ (kk < 0 ∨ nI S50.length ≤ kk) from fun h9 => h9.elim c_22 (fun h8 => Int32.not_lt.mpr h8 c_30))
        obtain ⟨j, ej⟩ : ∃ j, j = kk.toNatClampNeg := ⟨_, rfl⟩
        rw [← ej] at ek lj
        clear ej
        subst ek
        obtain ⟨pc, hpc⟩ : ∃ pc, pc = S50.getD j 0 := ⟨_, rfl⟩
        have hmem : pc ∈ S50 := by rw [hpc]; exact getD_mem lj
        have hpl9 := q15_l.2 pc hmem
        have hpl := hpl9.1
        obtain ⟨x, hx⟩ := va_in hpl9.2
        have hjv : jvI f n E mj cb L ml (nI j) i w = jpI f cb L S50 pc i w := by rw [jv_in q15_s lj (by omega), ← hpc]
        have hb1_ := by1_lt f (cb + pc)
        show pl _ _ _ (35, [(0, .ref m0), (1, .int (nI k)), (2, .int (nI j)), (3, .int i), (4, .int w)], [], M24) _
        refine ps_st (S' := (36, [(0, .ref m0), (1, .int (nI k)), (2, .int (nI j)), (3, .int i), (4, .int w)], [.ref m0], M24)) rfl rfl rfl ?_
        refine pr_ref (j := 80) (S' := (39, [(0, .ref m0), (1, .int (nI k)), (2, .int (nI j)), (3, .int i), (4, .int w)], [.ref (q 80)], M24)) rfl hR53 rfl rfl ?_
        refine ps_st (S' := (40, [(0, .ref m0), (1, .int (nI k)), (2, .int (nI j)), (3, .int i), (4, .int w)], [.int (nI j), .ref (q 80)], M24)) rfl rfl rfl ?_
        refine pr_ld (a := 80) (j := j) (y := (nI pc)) (S' := (41, [(0, .ref m0), (1, .int (nI k)), (2, .int (nI j)), (3, .int i), (4, .int w)], [.int (nI pc)], M24)) rfl hR53 rfl (by omega) (fun _ => by rw [hpc]; exact hB_63 j (by omega)) rfl (fun i1_40 => ?_)
        refine ps_st (S' := (43, [(5, .int (nI pc)), (0, .ref m0), (1, .int (nI k)), (2, .int (nI j)), (3, .int i), (4, .int w)], [], M24)) rfl rfl rfl ?_
        refine ps_st (S' := (44, [(5, .int (nI pc)), (0, .ref m0), (1, .int (nI k)), (2, .int (nI j)), (3, .int i), (4, .int w)], [.ref m0], M24)) rfl rfl rfl ?_
        refine ps_st (S' := (46, [(5, .int (nI pc)), (0, .ref m0), (1, .int (nI k)), (2, .int (nI j)), (3, .int i), (4, .int w)], [.int (nI pc), .ref m0], M24)) rfl rfl rfl ?_
        refine pl_call (a := [.ref m0, .int (nI pc)]) (rest := []) rfl rfl rfl (rd_b1 (n := n) (f := f) (cb := cb) (p := pc) hR53 hi58 hF_71 (by omega)) (fun v77 M78 q79 => ?_)
        obtain ⟨rfl, rfl⟩ := q79
        show pl _ _ _ (49, [(5, .int (nI pc)), (0, .ref m0), (1, .int (nI k)), (2, .int (nI j)), (3, .int i), (4, .int w)], [.int (nI (by1 f (cb + pc)))], M24) _
        show pl _ _ _ (_, [(5, .int (nI pc)), (0, .ref m0), (1, .int (nI k)), (2, .int (nI j)), (3, .int i), (4, .int w)], [.int (nI (by1 f (cb + pc)))], M24) _
        have hb_46 := by1_lt f (cb + pc)
        refine ps_st (S' := (51, [(6, .int (nI (by1 f (cb + pc)))), (5, .int (nI pc)), (0, .ref m0), (1, .int (nI k)), (2, .int (nI j)), (3, .int i), (4, .int w)], [], M24)) rfl rfl rfl ?_
        refine ps_st (S' := (53, [(6, .int (nI (by1 f (cb + pc)))), (5, .int (nI pc)), (0, .ref m0), (1, .int (nI k)), (2, .int (nI j)), (3, .int i), (4, .int w)], [.int (nI (by1 f (cb + pc)))], M24)) rfl rfl rfl ?_
        refine ps_st (S' := (56, [(6, .int (nI (by1 f (cb + pc)))), (5, .int (nI pc)), (0, .ref m0), (1, .int (nI k)), (2, .int (nI j)), (3, .int i), (4, .int w)], [.int 170, .int (nI (by1 f (cb + pc)))], M24)) rfl rfl rfl ?_
        refine ps_if2 (S1 := (67, [(0, .ref m0), (3, .int i), (4, .int w), (5, .int (nI pc)), (6, .int (nI (by1 f (cb + pc))))], [], M24)) (S2 := (59, [(6, .int (nI (by1 f (cb + pc)))), (5, .int (nI pc)), (0, .ref m0), (1, .int (nI k)), (2, .int (nI j)), (3, .int i), (4, .int w)], [], M24)) rfl rfl rfl (fun c_56 => ?_) (fun c_56 => ?_)
        · have c_56 : (nI (by1 f (cb + pc))) = 170 := of_decide_eq_true c_56
          have n_56 : by1 f (cb + pc) = 170 := (eq_nI (p := by1 f (cb + pc)) (n := 170) (Nat.lt_trans (by1_lt _ _) (by decide)) (by decide)).mp c_56
          obtain ⟨e1, e2, e4⟩ := in_s7 hx n_56 (by decide)
          have hth := th_all q15_s hmem hx
          obtain ⟨xo, xz, xf, xs, xl, xt, xm, xw⟩ := x
          dsimp only at e1 e2 e4 hth
          subst e1
          subst e2
          have hlo := sw_lo e4
          obtain ⟨nu, b1, b2, b3, b4, b5⟩ := sw_t hL.2 e4
          dsimp only at b2 hlo
          subst b2
          refine ps_st (S' := (68, [(0, .ref m0), (3, .int i), (4, .int w), (5, .int (nI pc)), (6, .int (nI (by1 f (cb + pc))))], [.int i], M24)) rfl rfl rfl ?_
          refine ps_if (S1 := (81, [], [], M24)) (S2 := (71, [(0, .ref m0), (3, .int i), (4, .int w), (5, .int (nI pc)), (6, .int (nI (by1 f (cb + pc))))], [], M24)) rfl rfl rfl (fun c_68 => ?_) (fun c_68 => ?_)
          · have c_68 : i < 0 := of_decide_eq_true c_68
            refine ps_st (S' := (82, [], [.int (-1)], M24)) rfl rfl rfl ?_
            exact ps_ret rfl rfl (⟨I51, R52, congrArg (fun x => some (Value.int x)) (by
                rw [hjv]
                unfold jpI
                rw [hx]
                dsimp only
                rw [if_pos (Or.inr (Or.inl c_68))]), hR53, hEI75, hER76, hi70, Or.inr ⟨k, hk, hc0, by rw [hcp.1, hcp.2.1, hcp.2.2]; exact hX_61⟩⟩)
          · have c_68 : ¬ (i < 0) := of_decide_eq_false c_68
            refine ps_st (S' := (72, [(0, .ref m0), (3, .int i), (4, .int w), (5, .int (nI pc)), (6, .int (nI (by1 f (cb + pc))))], [.int i], M24)) rfl rfl rfl ?_
            refine ps_st (S' := (73, [(0, .ref m0), (3, .int i), (4, .int w), (5, .int (nI pc)), (6, .int (nI (by1 f (cb + pc))))], [.ref m0, .int i], M24)) rfl rfl rfl ?_
            refine ps_st (S' := (75, [(0, .ref m0), (3, .int i), (4, .int w), (5, .int (nI pc)), (6, .int (nI (by1 f (cb + pc))))], [.int (nI pc), .ref m0, .int i], M24)) rfl rfl rfl ?_
            refine pl_call (a := [.ref m0, .int (nI pc)]) (rest := [.int i]) rfl rfl rfl (rd_waysT (n := n) (f := f) (cb := cb) (L := L) (pc := pc) (nu := nu) hR53 hi58 hF_71 (hcl) (hpl) (by omega) (n_56) (b1) (by omega) (b4)) (fun v80 M81 q82 => ?_)
            obtain ⟨rfl, rfl⟩ := q82
            show pl _ _ _ (78, [(0, .ref m0), (3, .int i), (4, .int w), (5, .int (nI pc)), (6, .int (nI (by1 f (cb + pc))))], [.int (nI (nu + 1)), .int i], M24) _
            refine ps_if2 (S1 := (83, [(0, .ref m0), (3, .int i), (4, .int w), (5, .int (nI pc)), (6, .int (nI (by1 f (cb + pc))))], [], M24)) (S2 := (81, [], [], M24)) rfl rfl rfl (fun c_78 => ?_) (fun c_78 => ?_)
            · have c_78 : i < (nI (nu + 1)) := of_decide_eq_true c_78
              have hnj0 : ¬ (i < 0 ∨ nI (nu + 1) ≤ i) := fun h9 => h9.elim c_68 (fun h8 => Int32.not_lt.mpr h8 c_78)
              obtain ⟨ei, lu⟩ := i32_in (N := (nu + 1)) (by omega) hnj0
              obtain ⟨u, eu⟩ : ∃ u, u = i.toNatClampNeg := ⟨_, rfl⟩
              rw [← eu] at ei lu
              clear eu
              subst ei
              have hnj : ¬ (swN 170 = 0 ∨ nI u < 0 ∨ nI (nu + 1) ≤ nI u) := fun h9 => h9.elim (by decide) hnj0
              have hju : (nI u).toNatClampNeg = u := nI_toNat (by omega)
              have hb5 := b5 u lu
              have hpd := pd_le pc
              show pl _ _ _ (83, [(0, .ref m0), (3, .int (nI u)), (4, .int w), (5, .int (nI pc)), (6, .int (nI (by1 f (cb + pc))))], [], M24) _
              refine ps_st (S' := (85, [(0, .ref m0), (3, .int (nI u)), (4, .int w), (5, .int (nI pc)), (6, .int (nI (by1 f (cb + pc))))], [.int w], M24)) rfl rfl rfl ?_
              refine ps_if (S1 := (108, [(0, .ref m0), (3, .int (nI u)), (4, .int w), (5, .int (nI pc)), (6, .int (nI (by1 f (cb + pc))))], [], M24)) (S2 := (88, [(0, .ref m0), (3, .int (nI u)), (4, .int w), (5, .int (nI pc)), (6, .int (nI (by1 f (cb + pc))))], [], M24)) rfl rfl rfl (fun c_85 => ?_) (fun c_85 => ?_)
              · have c_85 : ¬ w = 0 := of_decide_eq_true c_85
                refine ps_st (S' := (109, [(0, .ref m0), (3, .int (nI u)), (4, .int w), (5, .int (nI pc)), (6, .int (nI (by1 f (cb + pc))))], [.int (nI u)], M24)) rfl rfl rfl ?_
                refine ps_if (S1 := (114, [(0, .ref m0), (3, .int (nI u)), (4, .int w), (5, .int (nI pc)), (6, .int (nI (by1 f (cb + pc))))], [], M24)) (S2 := (112, [(0, .ref m0), (3, .int (nI u)), (4, .int w), (5, .int (nI pc)), (6, .int (nI (by1 f (cb + pc))))], [], M24)) rfl rfl rfl (fun c_109 => ?_) (fun c_109 => ?_)
                · have c_109 : ¬ (nI u) = 0 := of_decide_eq_true c_109
                  have n_109 : ¬ (u = 0) := fun h9 => c_109 ((eq_nI (p := u) (n := 0) (by omega) (by decide)).mpr h9)
                  refine ps_st (S' := (116, [(0, .ref m0), (3, .int (nI u)), (4, .int w), (5, .int (nI pc)), (6, .int (nI (by1 f (cb + pc))))], [.int (nI (by1 f (cb + pc)))], M24)) rfl rfl rfl ?_
                  refine ps_st (S' := (119, [(0, .ref m0), (3, .int (nI u)), (4, .int w), (5, .int (nI pc)), (6, .int (nI (by1 f (cb + pc))))], [.int 170, .int (nI (by1 f (cb + pc)))], M24)) rfl rfl rfl ?_
                  refine ps_if2 (S1 := (140, [(0, .ref m0), (3, .int (nI u)), (4, .int w), (5, .int (nI pc)), (6, .int (nI (by1 f (cb + pc))))], [], M24)) (S2 := (122, [(0, .ref m0), (3, .int (nI u)), (4, .int w), (5, .int (nI pc)), (6, .int (nI (by1 f (cb + pc))))], [], M24)) rfl rfl rfl (fun c_119 => ?_) (fun c_119 => ?_)
                  · exact absurd (of_decide_eq_true c_119) (fun h9 => h9 (by rw [n_56]; rfl))
                  refine ps_st (S' := (123, [(0, .ref m0), (3, .int (nI u)), (4, .int w), (5, .int (nI pc)), (6, .int (nI (by1 f (cb + pc))))], [.ref m0], M24)) rfl rfl rfl ?_
                  refine ps_st (S' := (125, [(0, .ref m0), (3, .int (nI u)), (4, .int w), (5, .int (nI pc)), (6, .int (nI (by1 f (cb + pc))))], [.int (nI pc), .ref m0], M24)) rfl rfl rfl ?_
                  refine pl_call (a := [.int (nI pc)]) (rest := [.ref m0]) rfl rfl rfl (rd_pad (p := pc) hR53 (by omega)) (fun v83 M84 q85 => ?_)
                  obtain ⟨rfl, rfl⟩ := q85
                  show pl _ _ _ (128, [(0, .ref m0), (3, .int (nI u)), (4, .int w), (5, .int (nI pc)), (6, .int (nI (by1 f (cb + pc))))], [.int (nI (pdN pc)), .ref m0], M24) _
                  have hpd_125 := pd_le pc
                  refine ps_st (S' := (129, [(0, .ref m0), (3, .int (nI u)), (4, .int w), (5, .int (nI pc)), (6, .int (nI (by1 f (cb + pc))))], [.int 4, .int (nI (pdN pc)), .ref m0], M24)) rfl rfl rfl ?_
                  refine ps_st (S' := (130, [(0, .ref m0), (3, .int (nI u)), (4, .int w), (5, .int (nI pc)), (6, .int (nI (by1 f (cb + pc))))], [.int ((nI (pdN pc)) + 4), .ref m0], M24)) rfl rfl rfl ?_
                  rw [nI_add1 (p := pdN pc) (k := 4) (x := 4) rfl (by omega)]
                  show pl _ _ _ (_, [(0, .ref m0), (3, .int (nI u)), (4, .int w), (5, .int (nI pc)), (6, .int (nI (by1 f (cb + pc))))], [.int (nI (pdN pc + 4)), .ref m0], M24) _
                  refine pl_call (a := [.ref m0, .int (nI (pdN pc + 4))]) (rest := []) rfl rfl rfl (rd_b4 (n := n) (f := f) (cb := cb) (p := (pdN pc + 4)) hR53 hi58 hF_71 (by omega)) (fun v86 M87 q88 => ?_)
                  obtain ⟨rfl, rfl⟩ := q88
                  show pl _ _ _ (133, [(0, .ref m0), (3, .int (nI u)), (4, .int w), (5, .int (nI pc)), (6, .int (nI (by1 f (cb + pc))))], [.int (nI (by4 f (cb + (pdN pc + 4))))], M24) _
                  show pl _ _ _ (_, [(0, .ref m0), (3, .int (nI u)), (4, .int w), (5, .int (nI pc)), (6, .int (nI (by1 f (cb + pc))))], [.int (nI (by4 f (cb + pdN pc + 4)))], M24) _
                  have hb_130 := by4_lt f (cb + pdN pc + 4)
                  refine ps_st (S' := (134, [(0, .ref m0), (3, .int (nI u)), (4, .int w), (5, .int (nI pc)), (6, .int (nI (by1 f (cb + pc))))], [.int (nI u), .int (nI (by4 f (cb + pdN pc + 4)))], M24)) rfl rfl rfl ?_
                  refine ps_st (S' := (135, [(0, .ref m0), (3, .int (nI u)), (4, .int w), (5, .int (nI pc)), (6, .int (nI (by1 f (cb + pc))))], [.int ((nI (by4 f (cb + pdN pc + 4))) + (nI u))], M24)) rfl rfl rfl ?_
                  refine ps_st (S' := (136, [(0, .ref m0), (3, .int (nI u)), (4, .int w), (5, .int (nI pc)), (6, .int (nI (by1 f (cb + pc))))], [.int 1, .int ((nI (by4 f (cb + pdN pc + 4))) + (nI u))], M24)) rfl rfl rfl ?_
                  refine ps_st (S' := (137, [(0, .ref m0), (3, .int (nI u)), (4, .int w), (5, .int (nI pc)), (6, .int (nI (by1 f (cb + pc))))], [.int (((nI (by4 f (cb + pdN pc + 4))) + (nI u)) - 1)], M24)) rfl rfl rfl ?_
                  refine ps_st (S' := (154, [], [.int (((nI (by4 f (cb + pdN pc + 4))) + (nI u)) - 1)], M24)) rfl rfl rfl ?_
                  exact ps_reti rfl (⟨I51, R52, congrArg (fun x => some (Value.int x)) (by
                      rw [hjv]
                      unfold jpI
                      rw [hx]
                      dsimp only
                      rw [if_neg hnj, if_neg c_85, hju]
                      unfold kyI
                      rw [if_neg (by omega), if_pos rfl, hlo]
                      rfl), hR53, hEI75, hER76, hi70, Or.inr ⟨k, hk, hc0, by rw [hcp.1, hcp.2.1, hcp.2.2]; exact hX_61⟩⟩)
                · have c_109 : ¬ (¬ (nI u) = 0) := of_decide_eq_false c_109
                  have n_109 : u = 0 := (eq_nI (p := u) (n := 0) (by omega) (by decide)).mp (Decidable.not_not.mp c_109)
                  refine ps_st (S' := (113, [(0, .ref m0), (3, .int (nI u)), (4, .int w), (5, .int (nI pc)), (6, .int (nI (by1 f (cb + pc))))], [.int 0], M24)) rfl rfl rfl ?_
                  exact ps_ret rfl rfl (⟨I51, R52, congrArg (fun x => some (Value.int x)) (by
                      rw [hjv]
                      unfold jpI
                      rw [hx]
                      dsimp only
                      rw [if_neg hnj, if_neg c_85, hju]
                      unfold kyI
                      rw [if_pos (by omega)]), hR53, hEI75, hER76, hi70, Or.inr ⟨k, hk, hc0, by rw [hcp.1, hcp.2.1, hcp.2.2]; exact hX_61⟩⟩)
              · have c_85 : ¬ (¬ w = 0) := of_decide_eq_false c_85
                refine ps_st (S' := (89, [(0, .ref m0), (3, .int (nI u)), (4, .int w), (5, .int (nI pc)), (6, .int (nI (by1 f (cb + pc))))], [.ref m0], M24)) rfl rfl rfl ?_
                refine pr_ref (j := 81) (S' := (92, [(0, .ref m0), (3, .int (nI u)), (4, .int w), (5, .int (nI pc)), (6, .int (nI (by1 f (cb + pc))))], [.ref (q 81)], M24)) rfl hR53 rfl rfl ?_
                refine ps_st (S' := (94, [(0, .ref m0), (3, .int (nI u)), (4, .int w), (5, .int (nI pc)), (6, .int (nI (by1 f (cb + pc))))], [.int (nI pc), .ref (q 81)], M24)) rfl rfl rfl ?_
                refine ps_st (S' := (95, [(0, .ref m0), (3, .int (nI u)), (4, .int w), (5, .int (nI pc)), (6, .int (nI (by1 f (cb + pc))))], [.ref m0, .int (nI pc), .ref (q 81)], M24)) rfl rfl rfl ?_
                refine ps_st (S' := (96, [(0, .ref m0), (3, .int (nI u)), (4, .int w), (5, .int (nI pc)), (6, .int (nI (by1 f (cb + pc))))], [.ref m0, .ref m0, .int (nI pc), .ref (q 81)], M24)) rfl rfl rfl ?_
                refine ps_st (S' := (98, [(0, .ref m0), (3, .int (nI u)), (4, .int w), (5, .int (nI pc)), (6, .int (nI (by1 f (cb + pc))))], [.int (nI pc), .ref m0, .ref m0, .int (nI pc), .ref (q 81)], M24)) rfl rfl rfl ?_
                refine ps_st (S' := (99, [(0, .ref m0), (3, .int (nI u)), (4, .int w), (5, .int (nI pc)), (6, .int (nI (by1 f (cb + pc))))], [.int (nI u), .int (nI pc), .ref m0, .ref m0, .int (nI pc), .ref (q 81)], M24)) rfl rfl rfl ?_
                refine pl_call (a := [.ref m0, .int (nI pc), .int (nI u)]) (rest := [.ref m0, .int (nI pc), .ref (q 81)]) rfl rfl rfl (rd_wayAt (n := n) (f := f) (cb := cb) (L := L) (pc := pc) (o := 170) (i := u) hR53 hi58 hF_71 (hcl) (hpl) (n_56) (by decide) (by omega)) (fun v89 M90 q91 => ?_)
                obtain ⟨rfl, rfl⟩ := q91
                show pl _ _ _ (102, [(0, .ref m0), (3, .int (nI u)), (4, .int w), (5, .int (nI pc)), (6, .int (nI (by1 f (cb + pc))))], [.int (nI (waN 170 (pdN pc) u)), .ref m0, .int (nI pc), .ref (q 81)], M24) _
                refine pl_call (a := [.ref m0, .int (nI (waN 170 (pdN pc) u))]) (rest := [.int (nI pc), .ref (q 81)]) rfl rfl rfl (rd_b4 (n := n) (f := f) (cb := cb) (p := (waN 170 (pdN pc) u)) hR53 hi58 hF_71 (by omega)) (fun v92 M93 q94 => ?_)
                obtain ⟨rfl, rfl⟩ := q94
                show pl _ _ _ (105, [(0, .ref m0), (3, .int (nI u)), (4, .int w), (5, .int (nI pc)), (6, .int (nI (by1 f (cb + pc))))], [.int (nI (by4 f (cb + (waN 170 (pdN pc) u)))), .int (nI pc), .ref (q 81)], M24) _
                show pl _ _ _ (_, [(0, .ref m0), (3, .int (nI u)), (4, .int w), (5, .int (nI pc)), (6, .int (nI (by1 f (cb + pc))))], [.int (nI (by4 f (cb + waN 170 (pdN pc) u))), .int (nI pc), .ref (q 81)], M24) _
                have hb_102 := by4_lt f (cb + waN 170 (pdN pc) u)
                refine ps_st (S' := (106, [(0, .ref m0), (3, .int (nI u)), (4, .int w), (5, .int (nI pc)), (6, .int (nI (by1 f (cb + pc))))], [.int ((nI pc) + (nI (by4 f (cb + waN 170 (pdN pc) u)))), .ref (q 81)], M24)) rfl rfl rfl ?_
                obtain ⟨t9, et9, ht9⟩ : ∃ t9 : Nat, (pc : Int) + (nI (by4 f (cb + waN 170 (pdN pc) u))).toInt = (t9 : Int) ∧ t9 ∈ S50 := by
                  have h8 := hth u lu
                  rw [td_wa] at h8
                  exact ⟨_, (Int.toNat_of_nonneg h8.1).symm, h8.2⟩
                have hlt9 := (q15_l.2 t9 ht9).1
                rw [show ((nI pc) + (nI (by4 f (cb + waN 170 (pdN pc) u)))) = nI t9 from add_t9 et9 (by omega) (by omega)]
                show pl _ _ _ (_, [(0, .ref m0), (3, .int (nI u)), (4, .int w), (5, .int (nI pc)), (6, .int (nI (by1 f (cb + pc))))], [.int (nI t9), .ref (q 81)], M24) _
                refine pr_ld (a := 81) (j := t9) (y := (nuA S50 t9 - 1)) (S' := (107, [(0, .ref m0), (3, .int (nI u)), (4, .int w), (5, .int (nI pc)), (6, .int (nI (by1 f (cb + pc))))], [.int (nuA S50 t9 - 1)], M24)) rfl hR53 rfl (by omega) (fun _ => hW_62 t9 (by omega)) rfl (fun i1_106 => ?_)
                exact ps_reti rfl (⟨I51, R52, congrArg (fun x => some (Value.int x)) (by
                    rw [hjv]
                    unfold jpI
                    rw [hx]
                    dsimp only
                    rw [if_neg hnj, if_pos (Decidable.not_not.mp c_85), hju, td_wa]
                    exact nb_at ht9 et9 (by omega)), hR53, hEI75, hER76, hi70, Or.inr ⟨k, hk, hc0, by rw [hcp.1, hcp.2.1, hcp.2.2]; exact hX_61⟩⟩)
            · have c_78 : ¬ (i < (nI (nu + 1))) := of_decide_eq_false c_78
              refine ps_st (S' := (82, [], [.int (-1)], M24)) rfl rfl rfl ?_
              exact ps_ret rfl rfl (⟨I51, R52, congrArg (fun x => some (Value.int x)) (by
                  rw [hjv]
                  unfold jpI
                  rw [hx]
                  dsimp only
                  rw [if_pos (Or.inr (Or.inr (Int32.not_lt.mp c_78)))]), hR53, hEI75, hER76, hi70, Or.inr ⟨k, hk, hc0, by rw [hcp.1, hcp.2.1, hcp.2.2]; exact hX_61⟩⟩)
        · have c_56 : ¬ ((nI (by1 f (cb + pc))) = 170) := of_decide_eq_false c_56
          have n_56 : ¬ (by1 f (cb + pc) = 170) := fun h9 => c_56 ((eq_nI (p := by1 f (cb + pc)) (n := 170) (Nat.lt_trans (by1_lt _ _) (by decide)) (by decide)).mpr h9)
          refine ps_st (S' := (61, [(6, .int (nI (by1 f (cb + pc)))), (5, .int (nI pc)), (0, .ref m0), (1, .int (nI k)), (2, .int (nI j)), (3, .int i), (4, .int w)], [.int (nI (by1 f (cb + pc)))], M24)) rfl rfl rfl ?_
          refine ps_st (S' := (64, [(6, .int (nI (by1 f (cb + pc)))), (5, .int (nI pc)), (0, .ref m0), (1, .int (nI k)), (2, .int (nI j)), (3, .int i), (4, .int w)], [.int 171, .int (nI (by1 f (cb + pc)))], M24)) rfl rfl rfl ?_
          refine ps_if2 (S1 := (81, [], [], M24)) (S2 := (67, [(0, .ref m0), (3, .int i), (4, .int w), (5, .int (nI pc)), (6, .int (nI (by1 f (cb + pc))))], [], M24)) rfl rfl rfl (fun c_64 => ?_) (fun c_64 => ?_)
          · have c_64 : ¬ (nI (by1 f (cb + pc))) = 171 := of_decide_eq_true c_64
            have n_64 : ¬ (by1 f (cb + pc) = 171) := fun h9 => c_64 ((eq_nI (p := by1 f (cb + pc)) (n := 171) (Nat.lt_trans (by1_lt _ _) (by decide)) (by decide)).mpr h9)
            refine ps_st (S' := (82, [], [.int (-1)], M24)) rfl rfl rfl ?_
            exact ps_ret rfl rfl (⟨I51, R52, congrArg (fun x => some (Value.int x)) (by
                rw [hjv]
                unfold jpI
                rw [hx]
                dsimp only
                rw [if_pos (Or.inl (in_ns hx (by omega)))]), hR53, hEI75, hER76, hi70, Or.inr ⟨k, hk, hc0, by rw [hcp.1, hcp.2.1, hcp.2.2]; exact hX_61⟩⟩)
          · have c_64 : ¬ (¬ (nI (by1 f (cb + pc))) = 171) := of_decide_eq_false c_64
            have n_64 : by1 f (cb + pc) = 171 := (eq_nI (p := by1 f (cb + pc)) (n := 171) (Nat.lt_trans (by1_lt _ _) (by decide)) (by decide)).mp (Decidable.not_not.mp c_64)
            obtain ⟨e1, e2, e4⟩ := in_s7 hx n_64 (by decide)
            have hth := th_all q15_s hmem hx
            obtain ⟨xo, xz, xf, xs, xl, xt, xm, xw⟩ := x
            dsimp only at e1 e2 e4 hth
            subst e1
            subst e2
            obtain ⟨b2, b3, b4, b5⟩ := sw_k hL.2 e4
            dsimp only at b2
            subst b2
            refine ps_st (S' := (68, [(0, .ref m0), (3, .int i), (4, .int w), (5, .int (nI pc)), (6, .int (nI (by1 f (cb + pc))))], [.int i], M24)) rfl rfl rfl ?_
            refine ps_if (S1 := (81, [], [], M24)) (S2 := (71, [(0, .ref m0), (3, .int i), (4, .int w), (5, .int (nI pc)), (6, .int (nI (by1 f (cb + pc))))], [], M24)) rfl rfl rfl (fun c_68 => ?_) (fun c_68 => ?_)
            · have c_68 : i < 0 := of_decide_eq_true c_68
              refine ps_st (S' := (82, [], [.int (-1)], M24)) rfl rfl rfl ?_
              exact ps_ret rfl rfl (⟨I51, R52, congrArg (fun x => some (Value.int x)) (by
                  rw [hjv]
                  unfold jpI
                  rw [hx]
                  dsimp only
                  rw [if_pos (Or.inr (Or.inl c_68))]), hR53, hEI75, hER76, hi70, Or.inr ⟨k, hk, hc0, by rw [hcp.1, hcp.2.1, hcp.2.2]; exact hX_61⟩⟩)
            · have c_68 : ¬ (i < 0) := of_decide_eq_false c_68
              refine ps_st (S' := (72, [(0, .ref m0), (3, .int i), (4, .int w), (5, .int (nI pc)), (6, .int (nI (by1 f (cb + pc))))], [.int i], M24)) rfl rfl rfl ?_
              refine ps_st (S' := (73, [(0, .ref m0), (3, .int i), (4, .int w), (5, .int (nI pc)), (6, .int (nI (by1 f (cb + pc))))], [.ref m0, .int i], M24)) rfl rfl rfl ?_
              refine ps_st (S' := (75, [(0, .ref m0), (3, .int i), (4, .int w), (5, .int (nI pc)), (6, .int (nI (by1 f (cb + pc))))], [.int (nI pc), .ref m0, .int i], M24)) rfl rfl rfl ?_
              refine pl_call (a := [.ref m0, .int (nI pc)]) (rest := [.int i]) rfl rfl rfl (rd_waysK (n := n) (f := f) (cb := cb) (L := L) (pc := pc) hR53 hi58 hF_71 (hcl) (hpl) (b4) (n_64) (by omega)) (fun v95 M96 q97 => ?_)
              obtain ⟨rfl, rfl⟩ := q97
              show pl _ _ _ (78, [(0, .ref m0), (3, .int i), (4, .int w), (5, .int (nI pc)), (6, .int (nI (by1 f (cb + pc))))], [.int (nI (by4 f (cb + pdN pc + 4) + 1)), .int i], M24) _
              refine ps_if2 (S1 := (83, [(0, .ref m0), (3, .int i), (4, .int w), (5, .int (nI pc)), (6, .int (nI (by1 f (cb + pc))))], [], M24)) (S2 := (81, [], [], M24)) rfl rfl rfl (fun c_78 => ?_) (fun c_78 => ?_)
              · have c_78 : i < (nI (by4 f (cb + pdN pc + 4) + 1)) := of_decide_eq_true c_78
                have hnj0 : ¬ (i < 0 ∨ nI (by4 f (cb + pdN pc + 4) + 1) ≤ i) := fun h9 => h9.elim c_68 (fun h8 => Int32.not_lt.mpr h8 c_78)
                obtain ⟨ei, lu⟩ := i32_in (N := (by4 f (cb + pdN pc + 4) + 1)) (by omega) hnj0
                obtain ⟨u, eu⟩ : ∃ u, u = i.toNatClampNeg := ⟨_, rfl⟩
                rw [← eu] at ei lu
                clear eu
                subst ei
                have hnj : ¬ (swN 171 = 0 ∨ nI u < 0 ∨ nI (by4 f (cb + pdN pc + 4) + 1) ≤ nI u) := fun h9 => h9.elim (by decide) hnj0
                have hju : (nI u).toNatClampNeg = u := nI_toNat (by omega)
                have hb5 := b5 u lu
                have hpd := pd_le pc
                show pl _ _ _ (83, [(0, .ref m0), (3, .int (nI u)), (4, .int w), (5, .int (nI pc)), (6, .int (nI (by1 f (cb + pc))))], [], M24) _
                refine ps_st (S' := (85, [(0, .ref m0), (3, .int (nI u)), (4, .int w), (5, .int (nI pc)), (6, .int (nI (by1 f (cb + pc))))], [.int w], M24)) rfl rfl rfl ?_
                refine ps_if (S1 := (108, [(0, .ref m0), (3, .int (nI u)), (4, .int w), (5, .int (nI pc)), (6, .int (nI (by1 f (cb + pc))))], [], M24)) (S2 := (88, [(0, .ref m0), (3, .int (nI u)), (4, .int w), (5, .int (nI pc)), (6, .int (nI (by1 f (cb + pc))))], [], M24)) rfl rfl rfl (fun c_85 => ?_) (fun c_85 => ?_)
                · have c_85 : ¬ w = 0 := of_decide_eq_true c_85
                  refine ps_st (S' := (109, [(0, .ref m0), (3, .int (nI u)), (4, .int w), (5, .int (nI pc)), (6, .int (nI (by1 f (cb + pc))))], [.int (nI u)], M24)) rfl rfl rfl ?_
                  refine ps_if (S1 := (114, [(0, .ref m0), (3, .int (nI u)), (4, .int w), (5, .int (nI pc)), (6, .int (nI (by1 f (cb + pc))))], [], M24)) (S2 := (112, [(0, .ref m0), (3, .int (nI u)), (4, .int w), (5, .int (nI pc)), (6, .int (nI (by1 f (cb + pc))))], [], M24)) rfl rfl rfl (fun c_109 => ?_) (fun c_109 => ?_)
                  · have c_109 : ¬ (nI u) = 0 := of_decide_eq_true c_109
                    have n_109 : ¬ (u = 0) := fun h9 => c_109 ((eq_nI (p := u) (n := 0) (by omega) (by decide)).mpr h9)
                    refine ps_st (S' := (116, [(0, .ref m0), (3, .int (nI u)), (4, .int w), (5, .int (nI pc)), (6, .int (nI (by1 f (cb + pc))))], [.int (nI (by1 f (cb + pc)))], M24)) rfl rfl rfl ?_
                    refine ps_st (S' := (119, [(0, .ref m0), (3, .int (nI u)), (4, .int w), (5, .int (nI pc)), (6, .int (nI (by1 f (cb + pc))))], [.int 170, .int (nI (by1 f (cb + pc)))], M24)) rfl rfl rfl ?_
                    refine ps_if2 (S1 := (140, [(0, .ref m0), (3, .int (nI u)), (4, .int w), (5, .int (nI pc)), (6, .int (nI (by1 f (cb + pc))))], [], M24)) (S2 := (122, [(0, .ref m0), (3, .int (nI u)), (4, .int w), (5, .int (nI pc)), (6, .int (nI (by1 f (cb + pc))))], [], M24)) rfl rfl rfl (fun c_119 => ?_) (fun c_119 => ?_)
                    rotate_left
                    · exact absurd (by rw [n_64]; decide) (of_decide_eq_false c_119)
                    have hb6 := hb5
                    unfold waN at hb6
                    rw [if_neg (by omega), if_neg (by decide)] at hb6
                    refine ps_st (S' := (141, [(0, .ref m0), (3, .int (nI u)), (4, .int w), (5, .int (nI pc)), (6, .int (nI (by1 f (cb + pc))))], [.ref m0], M24)) rfl rfl rfl ?_
                    refine ps_st (S' := (143, [(0, .ref m0), (3, .int (nI u)), (4, .int w), (5, .int (nI pc)), (6, .int (nI (by1 f (cb + pc))))], [.int (nI pc), .ref m0], M24)) rfl rfl rfl ?_
                    refine pl_call (a := [.int (nI pc)]) (rest := [.ref m0]) rfl rfl rfl (rd_pad (p := pc) hR53 (by omega)) (fun v98 M99 q100 => ?_)
                    obtain ⟨rfl, rfl⟩ := q100
                    show pl _ _ _ (146, [(0, .ref m0), (3, .int (nI u)), (4, .int w), (5, .int (nI pc)), (6, .int (nI (by1 f (cb + pc))))], [.int (nI (pdN pc)), .ref m0], M24) _
                    have hpd_143 := pd_le pc
                    refine ps_st (S' := (148, [(0, .ref m0), (3, .int (nI u)), (4, .int w), (5, .int (nI pc)), (6, .int (nI (by1 f (cb + pc))))], [.int 8, .int (nI (pdN pc)), .ref m0], M24)) rfl rfl rfl ?_
                    refine ps_st (S' := (149, [(0, .ref m0), (3, .int (nI u)), (4, .int w), (5, .int (nI pc)), (6, .int (nI (by1 f (cb + pc))))], [.int (nI u), .int 8, .int (nI (pdN pc)), .ref m0], M24)) rfl rfl rfl ?_
                    refine ps_st (S' := (150, [(0, .ref m0), (3, .int (nI u)), (4, .int w), (5, .int (nI pc)), (6, .int (nI (by1 f (cb + pc))))], [.int (8 * (nI u)), .int (nI (pdN pc)), .ref m0], M24)) rfl rfl rfl ?_
                    rw [nI_mul1 (p := 8) (k := u) (x := 8) (y := (nI u)) rfl rfl (by omega)]
                    show pl _ _ _ (_, [(0, .ref m0), (3, .int (nI u)), (4, .int w), (5, .int (nI pc)), (6, .int (nI (by1 f (cb + pc))))], [.int (nI (8 * u)), .int (nI (pdN pc)), .ref m0], M24) _
                    refine ps_st (S' := (151, [(0, .ref m0), (3, .int (nI u)), (4, .int w), (5, .int (nI pc)), (6, .int (nI (by1 f (cb + pc))))], [.int ((nI (pdN pc)) + (nI (8 * u))), .ref m0], M24)) rfl rfl rfl ?_
                    rw [nI_add1 (p := pdN pc) (k := 8 * u) (x := (nI (8 * u))) rfl (by omega)]
                    show pl _ _ _ (_, [(0, .ref m0), (3, .int (nI u)), (4, .int w), (5, .int (nI pc)), (6, .int (nI (by1 f (cb + pc))))], [.int (nI (pdN pc + 8 * u)), .ref m0], M24) _
                    refine pl_call (a := [.ref m0, .int (nI (pdN pc + 8 * u))]) (rest := []) rfl rfl rfl (rd_b4 (n := n) (f := f) (cb := cb) (p := (pdN pc + 8 * u)) hR53 hi58 hF_71 (by omega)) (fun v101 M102 q103 => ?_)
                    obtain ⟨rfl, rfl⟩ := q103
                    show pl _ _ _ (154, [], [.int (nI (by4 f (cb + (pdN pc + 8 * u))))], M24) _
                    show pl _ _ _ (_, [], [.int (nI (by4 f (cb + (pdN pc + 8 * u))))], M24) _
                    have hb_151 := by4_lt f (cb + (pdN pc + 8 * u))
                    exact ps_reti rfl (⟨I51, R52, congrArg (fun x => some (Value.int x)) (by
                        rw [hjv]
                        unfold jpI
                        rw [hx]
                        dsimp only
                        rw [if_neg hnj, if_neg c_85, hju]
                        unfold kyI
                        rw [if_neg (by omega), if_neg (by decide)]), hR53, hEI75, hER76, hi70, Or.inr ⟨k, hk, hc0, by rw [hcp.1, hcp.2.1, hcp.2.2]; exact hX_61⟩⟩)
                  · have c_109 : ¬ (¬ (nI u) = 0) := of_decide_eq_false c_109
                    have n_109 : u = 0 := (eq_nI (p := u) (n := 0) (by omega) (by decide)).mp (Decidable.not_not.mp c_109)
                    refine ps_st (S' := (113, [(0, .ref m0), (3, .int (nI u)), (4, .int w), (5, .int (nI pc)), (6, .int (nI (by1 f (cb + pc))))], [.int 0], M24)) rfl rfl rfl ?_
                    exact ps_ret rfl rfl (⟨I51, R52, congrArg (fun x => some (Value.int x)) (by
                        rw [hjv]
                        unfold jpI
                        rw [hx]
                        dsimp only
                        rw [if_neg hnj, if_neg c_85, hju]
                        unfold kyI
                        rw [if_pos (by omega)]), hR53, hEI75, hER76, hi70, Or.inr ⟨k, hk, hc0, by rw [hcp.1, hcp.2.1, hcp.2.2]; exact hX_61⟩⟩)
                · have c_85 : ¬ (¬ w = 0) := of_decide_eq_false c_85
                  refine ps_st (S' := (89, [(0, .ref m0), (3, .int (nI u)), (4, .int w), (5, .int (nI pc)), (6, .int (nI (by1 f (cb + pc))))], [.ref m0], M24)) rfl rfl rfl ?_
                  refine pr_ref (j := 81) (S' := (92, [(0, .ref m0), (3, .int (nI u)), (4, .int w), (5, .int (nI pc)), (6, .int (nI (by1 f (cb + pc))))], [.ref (q 81)], M24)) rfl hR53 rfl rfl ?_
                  refine ps_st (S' := (94, [(0, .ref m0), (3, .int (nI u)), (4, .int w), (5, .int (nI pc)), (6, .int (nI (by1 f (cb + pc))))], [.int (nI pc), .ref (q 81)], M24)) rfl rfl rfl ?_
                  refine ps_st (S' := (95, [(0, .ref m0), (3, .int (nI u)), (4, .int w), (5, .int (nI pc)), (6, .int (nI (by1 f (cb + pc))))], [.ref m0, .int (nI pc), .ref (q 81)], M24)) rfl rfl rfl ?_
                  refine ps_st (S' := (96, [(0, .ref m0), (3, .int (nI u)), (4, .int w), (5, .int (nI pc)), (6, .int (nI (by1 f (cb + pc))))], [.ref m0, .ref m0, .int (nI pc), .ref (q 81)], M24)) rfl rfl rfl ?_
                  refine ps_st (S' := (98, [(0, .ref m0), (3, .int (nI u)), (4, .int w), (5, .int (nI pc)), (6, .int (nI (by1 f (cb + pc))))], [.int (nI pc), .ref m0, .ref m0, .int (nI pc), .ref (q 81)], M24)) rfl rfl rfl ?_
                  refine ps_st (S' := (99, [(0, .ref m0), (3, .int (nI u)), (4, .int w), (5, .int (nI pc)), (6, .int (nI (by1 f (cb + pc))))], [.int (nI u), .int (nI pc), .ref m0, .ref m0, .int (nI pc), .ref (q 81)], M24)) rfl rfl rfl ?_
                  refine pl_call (a := [.ref m0, .int (nI pc), .int (nI u)]) (rest := [.ref m0, .int (nI pc), .ref (q 81)]) rfl rfl rfl (rd_wayAt (n := n) (f := f) (cb := cb) (L := L) (pc := pc) (o := 171) (i := u) hR53 hi58 hF_71 (hcl) (hpl) (n_64) (by decide) (by omega)) (fun v104 M105 q106 => ?_)
                  obtain ⟨rfl, rfl⟩ := q106
                  show pl _ _ _ (102, [(0, .ref m0), (3, .int (nI u)), (4, .int w), (5, .int (nI pc)), (6, .int (nI (by1 f (cb + pc))))], [.int (nI (waN 171 (pdN pc) u)), .ref m0, .int (nI pc), .ref (q 81)], M24) _
                  refine pl_call (a := [.ref m0, .int (nI (waN 171 (pdN pc) u))]) (rest := [.int (nI pc), .ref (q 81)]) rfl rfl rfl (rd_b4 (n := n) (f := f) (cb := cb) (p := (waN 171 (pdN pc) u)) hR53 hi58 hF_71 (by omega)) (fun v107 M108 q109 => ?_)
                  obtain ⟨rfl, rfl⟩ := q109
                  show pl _ _ _ (105, [(0, .ref m0), (3, .int (nI u)), (4, .int w), (5, .int (nI pc)), (6, .int (nI (by1 f (cb + pc))))], [.int (nI (by4 f (cb + (waN 171 (pdN pc) u)))), .int (nI pc), .ref (q 81)], M24) _
                  show pl _ _ _ (_, [(0, .ref m0), (3, .int (nI u)), (4, .int w), (5, .int (nI pc)), (6, .int (nI (by1 f (cb + pc))))], [.int (nI (by4 f (cb + waN 171 (pdN pc) u))), .int (nI pc), .ref (q 81)], M24) _
                  have hb_102 := by4_lt f (cb + waN 171 (pdN pc) u)
                  refine ps_st (S' := (106, [(0, .ref m0), (3, .int (nI u)), (4, .int w), (5, .int (nI pc)), (6, .int (nI (by1 f (cb + pc))))], [.int ((nI pc) + (nI (by4 f (cb + waN 171 (pdN pc) u)))), .ref (q 81)], M24)) rfl rfl rfl ?_
                  obtain ⟨t9, et9, ht9⟩ : ∃ t9 : Nat, (pc : Int) + (nI (by4 f (cb + waN 171 (pdN pc) u))).toInt = (t9 : Int) ∧ t9 ∈ S50 := by
                    have h8 := hth u lu
                    rw [td_wa] at h8
                    exact ⟨_, (Int.toNat_of_nonneg h8.1).symm, h8.2⟩
                  have hlt9 := (q15_l.2 t9 ht9).1
                  rw [show ((nI pc) + (nI (by4 f (cb + waN 171 (pdN pc) u)))) = nI t9 from add_t9 et9 (by omega) (by omega)]
                  show pl _ _ _ (_, [(0, .ref m0), (3, .int (nI u)), (4, .int w), (5, .int (nI pc)), (6, .int (nI (by1 f (cb + pc))))], [.int (nI t9), .ref (q 81)], M24) _
                  refine pr_ld (a := 81) (j := t9) (y := (nuA S50 t9 - 1)) (S' := (107, [(0, .ref m0), (3, .int (nI u)), (4, .int w), (5, .int (nI pc)), (6, .int (nI (by1 f (cb + pc))))], [.int (nuA S50 t9 - 1)], M24)) rfl hR53 rfl (by omega) (fun _ => hW_62 t9 (by omega)) rfl (fun i1_106 => ?_)
                  exact ps_reti rfl (⟨I51, R52, congrArg (fun x => some (Value.int x)) (by
                      rw [hjv]
                      unfold jpI
                      rw [hx]
                      dsimp only
                      rw [if_neg hnj, if_pos (Decidable.not_not.mp c_85), hju, td_wa]
                      exact nb_at ht9 et9 (by omega)), hR53, hEI75, hER76, hi70, Or.inr ⟨k, hk, hc0, by rw [hcp.1, hcp.2.1, hcp.2.2]; exact hX_61⟩⟩)
              · have c_78 : ¬ (i < (nI (by4 f (cb + pdN pc + 4) + 1))) := of_decide_eq_false c_78
                refine ps_st (S' := (82, [], [.int (-1)], M24)) rfl rfl rfl ?_
                exact ps_ret rfl rfl (⟨I51, R52, congrArg (fun x => some (Value.int x)) (by
                    rw [hjv]
                    unfold jpI
                    rw [hx]
                    dsimp only
                    rw [if_pos (Or.inr (Or.inr (Int32.not_lt.mp c_78)))]), hR53, hEI75, hER76, hi70, Or.inr ⟨k, hk, hc0, by rw [hcp.1, hcp.2.1, hcp.2.2]; exact hX_61⟩⟩)
      · have c_30 : ¬ (kk < (nI S50.length)) := of_decide_eq_false c_30
        refine ps_st (S' := (34, [], [.int (-1)], M24)) rfl rfl rfl ?_
        exact ps_ret rfl rfl (⟨I51, R52, congrArg (fun x => some (Value.int x)) (by
            unfold jvI
            rw [q15_s]
            dsimp only
            rw [if_pos (Or.inr (Int32.not_lt.mp c_30))]), hR53, hEI75, hER76, hi70, Or.inr ⟨k, hk, hc0, by rw [hcp.1, hcp.2.1, hcp.2.2]; exact hX_61⟩⟩)
theorem rd_jumpK9 {g : xe_G} {m0 : Nat} {q : Nat → Nat} {z : Nat × Nat} {I : rI} {R : rR} {M : mi_H} {ko : Option (Nat × (Nat → Int32))} {m kk i w : Int32} (hR : RS g m0 q z I R M) (hK : KPR ko I R) : pt (mT g) 220 [.ref m0, .int m, .int kk, .int i, .int w] M (fun v M' => ∃ (I' : rI) (R' : rR), v = some (.int (juK ko m kk i w)) ∧ RS g m0 q z I' R' M' ∧ eqI [0, 74, 75, 76, 77, 78, 79] I I' ∧ eqR [80, 81] R R' ∧ ∀ p, ko = some p → CU8 p.2 p.1 I' R') := by
  cases ko with
  | none =>
    obtain ⟨kn, h2, h3⟩ := hK
    exact (rd_jumpK hR h2 h3).mono (fun v M' h => by
        obtain ⟨I', R', hv, b1, b2, b3, b4⟩ := h
        exact ⟨I', R', hv, b1, fun k9 h9 => b2 k9 (fun h8 => h9 (by rw [List.mem_singleton.mp h8]; decide)), fun k9 _ => b3 k9 (by simp), fun p e => by cases e⟩)
  | some y =>
    obtain ⟨h2, h3, ⟨-, h8⟩, hrd, tx, cN, A, E, N, mj, p1, pF, pM, pA, k1, k2, k3, k4, k5, k6, k7, rfl, rfl, m1, m2, m3, m4, m5, m6, m7, m8, ⟨a1, a2, a3, a4, a5, s9, a6, a7⟩, -⟩ := hK
    have hN := by2_lt y.2 8
    have hEP := (EP_of (whole_in k7)).1
    have hb2 := mbs_len m6
    rw [juK_is k7]
    by_cases hi : m < 0 ∨ nI (mbs y.2 y.1 (by2 y.2 pM) (pM + 2)).length ≤ m
    · rw [if_pos hi]
      exact (rd_jumpN hR h2 m2 h3 hi).mono (fun v M' h => by
          obtain ⟨I', R', hv, b1, b2, b3, b4⟩ := h
          exact ⟨I', R', hv, b1, fun k9 h9 => b2 k9 (fun h8 => h9 (by rw [List.mem_singleton.mp h8]; decide)), fun k9 _ => b3 k9 (by simp), fun p e => by cases e; exact h8.mono (fun k9 h9 => b2 k9 (by revert k9; decide)) (fun k9 _ => b3 k9 (by simp))⟩)
    · rw [if_neg hi]
      obtain ⟨ei, li⟩ := i32_in hb2 hi
      obtain ⟨k, ek⟩ : ∃ k, k = m.toNatClampNeg := ⟨_, rfl⟩
      rw [← ek] at ei li ⊢
      subst ei
      have hin := code_in k7 hrd m6 li
      by_cases hp : (mK y.2 y.1 E ((mbs y.2 y.1 (by2 y.2 pM) (pM + 2)).getD k 0)).2.1 = 0
      · unfold juI
        rw [if_pos hp]
        exact (rd_jumpC hR h2 m2 a5 h3 li hb2 hp).mono (fun v M' h => by
            obtain ⟨I', R', hv, b1, b2, b3, b4⟩ := h
            exact ⟨I', R', hv, b1, fun k9 h9 => b2 k9 (fun h8 => h9 (by rw [List.mem_singleton.mp h8]; decide)), fun k9 _ => b3 k9 (by simp), fun p e => by cases e; exact h8.mono (fun k9 h9 => b2 k9 (by revert k9; decide)) (fun k9 _ => b3 k9 (by simp))⟩)
      · unfold juI
        rw [if_neg hp]
        refine (rd_jumpVX hR k4 k5 k6 a6 h2 m2 k1 k2 k3 a5 (h8 _ _ _ _ _ k7) hEP hN (by2_lt _ _) a7 (CP_of (rd_cp k7 hrd) k3.1) (PF_of (rd_cp k7 hrd) k3.1) h3 li hb2 hp (hin.resolve_left hp) ⟨rfl, rfl, rfl⟩).mono (fun v M' h => ?_)
        obtain ⟨I', R', hv, b1, b2, b3, -, hU⟩ := h
        exact ⟨I', R', hv, b1, b2, b3, fun p e => by
          cases e
          intro E2 q1 qF qM qA h9
          rw [k7] at h9
          cases h9
          exact hU⟩
