set_option maxHeartbeats 1000000 in
theorem rd_cutsC0 {g : xe_G} {m0 : Nat} {q : Nat → Nat} {z : Nat × Nat} {I : rI} {R : rR} {M : mi_H} {m p : Nat} (hR : RS g m0 q z I R M) (hi74 : I 74 = some (nI m)) (hi76 : I 76 = some (nI p))  (hp : p < 65536) : pt (mT g) 200 [.ref m0, .int (nI m)] M (fun v M' => (v = some (.int 0) ∧ M = M')) := by
  refine pt_in (b := mb_200 g) rfl (fun kf => ?_)
  show pl (mT g) kf (mb_200 g).2 (0, [(0, .ref m0), (1, .int (nI m))], [], M) _
  refine ps_st (S' := (1, [(0, .ref m0), (1, .int (nI m))], [.ref m0], M)) rfl rfl rfl ?_
  refine pr_int (j := 74) (S' := (4, [(0, .ref m0), (1, .int (nI m))], [.int (nI m)], M)) rfl hR rfl hi74 rfl ?_
  refine ps_st (S' := (5, [(0, .ref m0), (1, .int (nI m))], [.int (nI m), .int (nI m)], M)) rfl rfl rfl ?_
  refine ps_if2 (S1 := (21, [(0, .ref m0), (1, .int (nI m))], [], M)) (S2 := (8, [(0, .ref m0), (1, .int (nI m))], [], M)) rfl rfl rfl (fun c_5 => ?_) (fun c_5 => ?_)
  · exact absurd (of_decide_eq_true c_5) (fun h9 => h9 rfl)
  refine ps_st (S' := (9, [(0, .ref m0), (1, .int (nI m))], [.ref m0], M)) rfl rfl rfl ?_
  refine pr_int (j := 76) (S' := (12, [(0, .ref m0), (1, .int (nI m))], [.int (nI p)], M)) rfl hR rfl hi76 rfl ?_
  refine ps_if (S1 := (19, [(0, .ref m0), (1, .int (nI m))], [], M)) (S2 := (15, [(0, .ref m0), (1, .int (nI m))], [], M)) rfl rfl rfl (fun c_12 => ?_) (fun c_12 => ?_)
  rotate_left
  · exact absurd (Int32.not_lt.mp (nI_n0 (by omega))) (of_decide_eq_false c_12)
  refine ps_st (S' := (20, [], [.int 0], M)) rfl rfl rfl ?_
  exact ps_ret rfl rfl (⟨rfl, rfl⟩)
set_option maxHeartbeats 1000000 in
theorem rd_cutsC1 {g : xe_G} {m0 : Nat} {q : Nat → Nat} {z : Nat × Nat} {I : rI} {R : rR} {M : mi_H} {m : Nat} (hR : RS g m0 q z I R M) (hi74 : I 74 = some (nI m)) (hi76 : I 76 = some (-1))   : pt (mT g) 200 [.ref m0, .int (nI m)] M (fun v M' => (v = some (.int 1) ∧ M = M')) := by
  refine pt_in (b := mb_200 g) rfl (fun kf => ?_)
  show pl (mT g) kf (mb_200 g).2 (0, [(0, .ref m0), (1, .int (nI m))], [], M) _
  refine ps_st (S' := (1, [(0, .ref m0), (1, .int (nI m))], [.ref m0], M)) rfl rfl rfl ?_
  refine pr_int (j := 74) (S' := (4, [(0, .ref m0), (1, .int (nI m))], [.int (nI m)], M)) rfl hR rfl hi74 rfl ?_
  refine ps_st (S' := (5, [(0, .ref m0), (1, .int (nI m))], [.int (nI m), .int (nI m)], M)) rfl rfl rfl ?_
  refine ps_if2 (S1 := (21, [(0, .ref m0), (1, .int (nI m))], [], M)) (S2 := (8, [(0, .ref m0), (1, .int (nI m))], [], M)) rfl rfl rfl (fun c_5 => ?_) (fun c_5 => ?_)
  · exact absurd (of_decide_eq_true c_5) (fun h9 => h9 rfl)
  refine ps_st (S' := (9, [(0, .ref m0), (1, .int (nI m))], [.ref m0], M)) rfl rfl rfl ?_
  refine pr_int (j := 76) (S' := (12, [(0, .ref m0), (1, .int (nI m))], [.int (-1)], M)) rfl hR rfl hi76 rfl ?_
  refine ps_if (S1 := (19, [(0, .ref m0), (1, .int (nI m))], [], M)) (S2 := (15, [(0, .ref m0), (1, .int (nI m))], [], M)) rfl rfl rfl (fun c_12 => ?_) (fun c_12 => ?_)
  · exact absurd (of_decide_eq_true c_12) (by decide)
  refine ps_st (S' := (16, [(0, .ref m0), (1, .int (nI m))], [.int 1], M)) rfl rfl rfl ?_
  refine ps_st (S' := (20, [], [.int 1], M)) rfl rfl rfl ?_
  exact ps_ret rfl rfl (⟨rfl, rfl⟩)
theorem rd_cuts8 {g : xe_G} {m0 : Nat} {q : Nat → Nat} {z : Nat × Nat} {I : rI} {R : rR} {M : mi_H} {n : Nat} {f : Nat → Int32} {tx : List (List Nat)} {cN : Nat} {A : Nat → Nat} {N mj : Nat} {E : List (Nat × Nat)} {cb L ml s9 m : Nat} {B : List Nat} (hR : RS g m0 q z I R M) (hi51 : I 51 = some 0) (hi52 : I 52 = some (nI N)) (hi53 : I 53 = some (nI mj)) (hi9 : I 9 = some (nI s9)) (hF : FK n f I R) (hY : SYT tx cN A I R) (hP : RPV f n E tx N I R) (hU : CUZ f n E mj B I R) (hEP : EP f n E) (hN : N < 65536) (hmj : mj < 65536) (hml : ml < 65536) (hs9 : s9 < tx.length ∧ tx.getD s9 [] = ltx 14) (hCP : CP f n E) (hPF : PF f n E) (hcl : cb + L + 4 ≤ n) (hL : 1 ≤ L ∧ L < 65536) (hm : m < 65536) (h37 : R 37 m = some (nI cb)) (h38 : R 38 m = some (nI L)) (h40 : R 40 m = some (nI ml)) (hBl : B.length < 65536) (hmB : m < B.length) (hcp : cpM f n E B m + 14 = cb ∧ by4 f (cpM f n E B m + 10) = L ∧ by2 f (cpM f n E B m + 8) = ml) : pt (mT g) 200 [.ref m0, .int (nI m)] M (fun v M' => (∃ (p : Nat) (I' : rI) (R' : rR), (cutS f n E mj cb L ml = .inl p) ∧ (p < 65536) ∧ v = some (.int 0) ∧ RS g m0 q z I' R' M' ∧ eqI [74, 75, 76, 77, 78, 79] I I' ∧ eqR [80, 81] R R' ∧ I' 76 = some (nI p) ∧ I' 77 = some (nI cb) ∧ I' 78 = some (nI L) ∧ I' 79 = some (nI ml) ∧ CUX f n E mj cb L ml m I' R') ∨ (∃ (S : List Nat) (I' : rI) (R' : rR), (cutS f n E mj cb L ml = .inr S) ∧ (S.length ≤ L ∧ ∀ p ∈ S, p < L ∧ ¬ vaN f n E mj cb L ml p = 0) ∧ v = some (.int 1) ∧ RS g m0 q z I' R' M' ∧ eqI [74, 75, 76, 77, 78, 79] I I' ∧ eqR [80, 81] R R' ∧ I' 75 = some (nI S.length) ∧ I' 76 = some (-1) ∧ I' 77 = some (nI cb) ∧ I' 78 = some (nI L) ∧ I' 79 = some (nI ml) ∧ CUX f n E mj cb L ml m I' R' ∧ WH S L I' R' ∧ BG S I' R')) := by
  have key : ∀ co : Int32, I 74 = some co → ¬ co = nI m → _ := fun co h74 hne => (rd_cutsN (co := co) hR hi51 hi52 hi53 hi9 h74 hF hY hP hEP hN hmj hml hs9 hCP hPF hcl hL hm h37 h38 h40 hne)
  have fin : ∀ co : Int32, I 74 = some co → ¬ co = nI m → pt (mT g) 200 [.ref m0, .int (nI m)] M (fun v M' => (∃ (p : Nat) (I' : rI) (R' : rR), (cutS f n E mj cb L ml = .inl p) ∧ (p < 65536) ∧ v = some (.int 0) ∧ RS g m0 q z I' R' M' ∧ eqI [74, 75, 76, 77, 78, 79] I I' ∧ eqR [80, 81] R R' ∧ I' 76 = some (nI p) ∧ I' 77 = some (nI cb) ∧ I' 78 = some (nI L) ∧ I' 79 = some (nI ml) ∧ CUX f n E mj cb L ml m I' R') ∨ (∃ (S : List Nat) (I' : rI) (R' : rR), (cutS f n E mj cb L ml = .inr S) ∧ (S.length ≤ L ∧ ∀ p ∈ S, p < L ∧ ¬ vaN f n E mj cb L ml p = 0) ∧ v = some (.int 1) ∧ RS g m0 q z I' R' M' ∧ eqI [74, 75, 76, 77, 78, 79] I I' ∧ eqR [80, 81] R R' ∧ I' 75 = some (nI S.length) ∧ I' 76 = some (-1) ∧ I' 77 = some (nI cb) ∧ I' 78 = some (nI L) ∧ I' 79 = some (nI ml) ∧ CUX f n E mj cb L ml m I' R' ∧ WH S L I' R' ∧ BG S I' R')) := fun co h74 hne => (key co h74 hne).mono (fun v M' h => by
    rcases h with ⟨p, I', R', a1, a2, a3, a4, a5, a6, b1, b2, b3, b4, b5⟩ | ⟨S, I', R', a1, a2, a3, a4, a5, a6, b1, b2, b3, b4, b5, b6, b7, b8⟩
    · exact Or.inl ⟨p, I', R', a1, a2, a3, a4, a5, a6, b5, b2, b3, b4, b1, b2, b3, b4, Or.inl ⟨p, a2, a1, b5⟩⟩
    · exact Or.inr ⟨S, I', R', a1, a2, a3, a4, a5, a6, b5, b6, b2, b3, b4, ⟨b1, b2, b3, b4, Or.inr ⟨S, a1, a2, b5, b6, b7, b8⟩⟩, b7, b8⟩)
  rcases hU with hU | ⟨k, k1, k2, hX⟩
  · exact fin (-1) hU (fun h9 => m1_ne (by omega) h9)
  · by_cases e : k = m
    · subst e
      obtain ⟨c1, c2, c3⟩ := hcp
      rw [c1, c2, c3] at hX
      obtain ⟨b1, b2, b3, b4, hX5⟩ := hX
      rcases hX5 with ⟨p, d1, d2, d3⟩ | ⟨S, d1, d2, d3, d4, d5, d6⟩
      · exact (rd_cutsC0 hR b1 d3 d1).mono (fun v M' h => by
          obtain ⟨h1, h2⟩ := h
          subst h2
          exact Or.inl ⟨p, I, R, d2, d1, h1, hR, eqI.rf, eqR.rf, d3, b2, b3, b4, b1, b2, b3, b4, Or.inl ⟨p, d1, d2, d3⟩⟩)
      · exact (rd_cutsC1 hR b1 d4).mono (fun v M' h => by
          obtain ⟨h1, h2⟩ := h
          subst h2
          exact Or.inr ⟨S, I, R, d1, d2, h1, hR, eqI.rf, eqR.rf, d3, d4, b2, b3, b4, ⟨b1, b2, b3, b4, Or.inr ⟨S, d1, d2, d3, d4, d5, d6⟩⟩, d5, d6⟩)
    · exact fin (nI k) hX.1 (fun h9 => e ((eq_nI (by have := hm; omega) (by omega)).mp h9))
set_option maxHeartbeats 1000000 in
theorem rd_noCodeK {g : xe_G} {m0 : Nat} {q : Nat → Nat} {z : Nat × Nat} {I : rI} {R : rR} {M : mi_H} {kn m : Int32} (hR : RS g m0 q z I R M) (hi18 : I 18 = some kn)  (hk : kn < 0) : pt (mT g) 227 [.ref m0, .int m] M (fun v M' => (v = some (.int 1) ∧ M = M')) := by
  refine pt_in (b := mb_227 g) rfl (fun kf => ?_)
  show pl (mT g) kf (mb_227 g).2 (0, [(0, .ref m0), (1, .int m)], [], M) _
  refine ps_st (S' := (1, [(0, .ref m0), (1, .int m)], [.ref m0], M)) rfl rfl rfl ?_
  refine pr_int (j := 18) (S' := (4, [(0, .ref m0), (1, .int m)], [.int kn], M)) rfl hR rfl hi18 rfl ?_
  refine ps_if (S1 := (28, [], [], M)) (S2 := (7, [(0, .ref m0), (1, .int m)], [], M)) rfl rfl rfl (fun c_4 => ?_) (fun c_4 => ?_)
  rotate_left
  · exact absurd (hk) (of_decide_eq_false c_4)
  refine ps_st (S' := (29, [], [.int 1], M)) rfl rfl rfl ?_
  refine ps_st (S' := (33, [], [.int 1], M)) rfl rfl rfl ?_
  exact ps_ret rfl rfl (⟨rfl, rfl⟩)
set_option maxHeartbeats 1000000 in
theorem rd_noCodeN {g : xe_G} {m0 : Nat} {q : Nat → Nat} {z : Nat × Nat} {I : rI} {R : rR} {M : mi_H} {n2 l : Nat} {m : Int32} (hR : RS g m0 q z I R M) (hi18 : I 18 = some (nI n2)) (hi26 : I 26 = some (nI l))  (hn2 : n2 ≤ 65540) (hi : m < 0 ∨ nI l ≤ m) : pt (mT g) 227 [.ref m0, .int m] M (fun v M' => (v = some (.int 1) ∧ M = M')) := by
  refine pt_in (b := mb_227 g) rfl (fun kf => ?_)
  show pl (mT g) kf (mb_227 g).2 (0, [(0, .ref m0), (1, .int m)], [], M) _
  refine ps_st (S' := (1, [(0, .ref m0), (1, .int m)], [.ref m0], M)) rfl rfl rfl ?_
  refine pr_int (j := 18) (S' := (4, [(0, .ref m0), (1, .int m)], [.int (nI n2)], M)) rfl hR rfl hi18 rfl ?_
  refine ps_if (S1 := (28, [], [], M)) (S2 := (7, [(0, .ref m0), (1, .int m)], [], M)) rfl rfl rfl (fun c_4 => ?_) (fun c_4 => ?_)
  · exact absurd (of_decide_eq_true c_4) (nI_n0 (by omega))
  refine ps_st (S' := (8, [(0, .ref m0), (1, .int m)], [.int m], M)) rfl rfl rfl ?_
  refine ps_if (S1 := (28, [], [], M)) (S2 := (11, [(0, .ref m0), (1, .int m)], [], M)) rfl rfl rfl (fun c_8 => ?_) (fun c_8 => ?_)
  · have c_8 : m < 0 := of_decide_eq_true c_8
    refine ps_st (S' := (29, [], [.int 1], M)) rfl rfl rfl ?_
    refine ps_st (S' := (33, [], [.int 1], M)) rfl rfl rfl ?_
    exact ps_ret rfl rfl (⟨rfl, rfl⟩)
  · have c_8 : ¬ (m < 0) := of_decide_eq_false c_8
    refine ps_st (S' := (12, [(0, .ref m0), (1, .int m)], [.int m], M)) rfl rfl rfl ?_
    refine ps_st (S' := (13, [(0, .ref m0), (1, .int m)], [.ref m0, .int m], M)) rfl rfl rfl ?_
    refine pr_int (j := 26) (S' := (16, [(0, .ref m0), (1, .int m)], [.int (nI l), .int m], M)) rfl hR rfl hi26 rfl ?_
    refine ps_if2 (S1 := (28, [], [], M)) (S2 := (19, [(0, .ref m0), (1, .int m)], [], M)) rfl rfl rfl (fun c_16 => ?_) (fun c_16 => ?_)
    rotate_left
    · exact absurd (hi.resolve_left c_8) (of_decide_eq_false c_16)
    refine ps_st (S' := (29, [], [.int 1], M)) rfl rfl rfl ?_
    refine ps_st (S' := (33, [], [.int 1], M)) rfl rfl rfl ?_
    exact ps_ret rfl rfl (⟨rfl, rfl⟩)
set_option maxHeartbeats 1000000 in
theorem rd_noCodeC {g : xe_G} {m0 : Nat} {q : Nat → Nat} {z : Nat × Nat} {I : rI} {R : rR} {M : mi_H} {f : Nat → Int32} {n n2 k : Nat} {E : List (Nat × Nat)} {B : List Nat} (hR : RS g m0 q z I R M) (hi18 : I 18 = some (nI n2)) (hi26 : I 26 = some (nI B.length)) (hQ : MQX f n E B 0 B.length I R) (hn2 : n2 ≤ 65540) (hk : k < B.length) (hBl : B.length < 65536) (hc0 : cpM f n E B k = 0) : pt (mT g) 227 [.ref m0, .int (nI k)] M (fun v M' => (v = some (.int 1) ∧ M = M')) := by
  refine pt_in (b := mb_227 g) rfl (fun kf => ?_)
  show pl (mT g) kf (mb_227 g).2 (0, [(0, .ref m0), (1, .int (nI k))], [], M) _
  have g9 := hQ k hk
  rw [Nat.zero_add] at g9
  unfold MWc at g9
  refine ps_st (S' := (1, [(0, .ref m0), (1, .int (nI k))], [.ref m0], M)) rfl rfl rfl ?_
  refine pr_int (j := 18) (S' := (4, [(0, .ref m0), (1, .int (nI k))], [.int (nI n2)], M)) rfl hR rfl hi18 rfl ?_
  refine ps_if (S1 := (28, [], [], M)) (S2 := (7, [(0, .ref m0), (1, .int (nI k))], [], M)) rfl rfl rfl (fun c_4 => ?_) (fun c_4 => ?_)
  · exact absurd (of_decide_eq_true c_4) (nI_n0 (by omega))
  refine ps_st (S' := (8, [(0, .ref m0), (1, .int (nI k))], [.int (nI k)], M)) rfl rfl rfl ?_
  refine ps_if (S1 := (28, [], [], M)) (S2 := (11, [(0, .ref m0), (1, .int (nI k))], [], M)) rfl rfl rfl (fun c_8 => ?_) (fun c_8 => ?_)
  · exact absurd (of_decide_eq_true c_8) (nI_n0 (by omega))
  refine ps_st (S' := (12, [(0, .ref m0), (1, .int (nI k))], [.int (nI k)], M)) rfl rfl rfl ?_
  refine ps_st (S' := (13, [(0, .ref m0), (1, .int (nI k))], [.ref m0, .int (nI k)], M)) rfl rfl rfl ?_
  refine pr_int (j := 26) (S' := (16, [(0, .ref m0), (1, .int (nI k))], [.int (nI B.length), .int (nI k)], M)) rfl hR rfl hi26 rfl ?_
  refine ps_if2 (S1 := (28, [], [], M)) (S2 := (19, [(0, .ref m0), (1, .int (nI k))], [], M)) rfl rfl rfl (fun c_16 => ?_) (fun c_16 => ?_)
  · exact absurd (of_decide_eq_true c_16) (fun h9 => absurd ((le_nI (p := B.length) (n := k) (by omega) (by omega)).mp h9) (by omega))
  refine ps_st (S' := (20, [(0, .ref m0), (1, .int (nI k))], [.ref m0], M)) rfl rfl rfl ?_
  refine pr_ref (j := 37) (S' := (23, [(0, .ref m0), (1, .int (nI k))], [.ref (q 37)], M)) rfl hR rfl rfl ?_
  refine ps_st (S' := (24, [(0, .ref m0), (1, .int (nI k))], [.int (nI k), .ref (q 37)], M)) rfl rfl rfl ?_
  refine pr_ld (a := 37) (j := k) (y := (-1)) (S' := (25, [(0, .ref m0), (1, .int (nI k))], [.int (-1)], M)) rfl hR rfl (by omega) (fun _ => by rw [g9.2.1.1.1, if_pos (show (mK f n E (B.getD k 0)).2.1 = 0 from hc0)]) rfl (fun i1_24 => ?_)
  refine ps_if (S1 := (32, [(0, .ref m0), (1, .int (nI k))], [], M)) (S2 := (28, [], [], M)) rfl rfl rfl (fun c_25 => ?_) (fun c_25 => ?_)
  · exact absurd (of_decide_eq_true c_25) (by decide)
  refine ps_st (S' := (29, [], [.int 1], M)) rfl rfl rfl ?_
  refine ps_st (S' := (33, [], [.int 1], M)) rfl rfl rfl ?_
  exact ps_ret rfl rfl (⟨rfl, rfl⟩)
set_option maxHeartbeats 1000000 in
theorem rd_noCodeV {g : xe_G} {m0 : Nat} {q : Nat → Nat} {z : Nat × Nat} {I : rI} {R : rR} {M : mi_H} {f : Nat → Int32} {n n2 k : Nat} {E : List (Nat × Nat)} {B : List Nat} (hR : RS g m0 q z I R M) (hi18 : I 18 = some (nI n2)) (hi26 : I 26 = some (nI B.length)) (hQ : MQX f n E B 0 B.length I R) (hn2 : n2 ≤ 65540) (hk : k < B.length) (hBl : B.length < 65536) (hc0 : ¬ cpM f n E B k = 0) (hcb : cpM f n E B k < 65540) : pt (mT g) 227 [.ref m0, .int (nI k)] M (fun v M' => (v = some (.int 0) ∧ M = M')) := by
  refine pt_in (b := mb_227 g) rfl (fun kf => ?_)
  show pl (mT g) kf (mb_227 g).2 (0, [(0, .ref m0), (1, .int (nI k))], [], M) _
  have g9 := hQ k hk
  rw [Nat.zero_add] at g9
  unfold MWc at g9
  refine ps_st (S' := (1, [(0, .ref m0), (1, .int (nI k))], [.ref m0], M)) rfl rfl rfl ?_
  refine pr_int (j := 18) (S' := (4, [(0, .ref m0), (1, .int (nI k))], [.int (nI n2)], M)) rfl hR rfl hi18 rfl ?_
  refine ps_if (S1 := (28, [], [], M)) (S2 := (7, [(0, .ref m0), (1, .int (nI k))], [], M)) rfl rfl rfl (fun c_4 => ?_) (fun c_4 => ?_)
  · exact absurd (of_decide_eq_true c_4) (nI_n0 (by omega))
  refine ps_st (S' := (8, [(0, .ref m0), (1, .int (nI k))], [.int (nI k)], M)) rfl rfl rfl ?_
  refine ps_if (S1 := (28, [], [], M)) (S2 := (11, [(0, .ref m0), (1, .int (nI k))], [], M)) rfl rfl rfl (fun c_8 => ?_) (fun c_8 => ?_)
  · exact absurd (of_decide_eq_true c_8) (nI_n0 (by omega))
  refine ps_st (S' := (12, [(0, .ref m0), (1, .int (nI k))], [.int (nI k)], M)) rfl rfl rfl ?_
  refine ps_st (S' := (13, [(0, .ref m0), (1, .int (nI k))], [.ref m0, .int (nI k)], M)) rfl rfl rfl ?_
  refine pr_int (j := 26) (S' := (16, [(0, .ref m0), (1, .int (nI k))], [.int (nI B.length), .int (nI k)], M)) rfl hR rfl hi26 rfl ?_
  refine ps_if2 (S1 := (28, [], [], M)) (S2 := (19, [(0, .ref m0), (1, .int (nI k))], [], M)) rfl rfl rfl (fun c_16 => ?_) (fun c_16 => ?_)
  · exact absurd (of_decide_eq_true c_16) (fun h9 => absurd ((le_nI (p := B.length) (n := k) (by omega) (by omega)).mp h9) (by omega))
  refine ps_st (S' := (20, [(0, .ref m0), (1, .int (nI k))], [.ref m0], M)) rfl rfl rfl ?_
  refine pr_ref (j := 37) (S' := (23, [(0, .ref m0), (1, .int (nI k))], [.ref (q 37)], M)) rfl hR rfl rfl ?_
  refine ps_st (S' := (24, [(0, .ref m0), (1, .int (nI k))], [.int (nI k), .ref (q 37)], M)) rfl rfl rfl ?_
  refine pr_ld (a := 37) (j := k) (y := (nI (cpM f n E B k + 14))) (S' := (25, [(0, .ref m0), (1, .int (nI k))], [.int (nI (cpM f n E B k + 14))], M)) rfl hR rfl (by omega) (fun _ => by rw [g9.2.1.1.1, if_neg (show ¬ (mK f n E (B.getD k 0)).2.1 = 0 from hc0)]; rfl) rfl (fun i1_24 => ?_)
  refine ps_if (S1 := (32, [(0, .ref m0), (1, .int (nI k))], [], M)) (S2 := (28, [], [], M)) rfl rfl rfl (fun c_25 => ?_) (fun c_25 => ?_)
  rotate_left
  · exact absurd (Int32.not_lt.mp (nI_n0 (by omega))) (of_decide_eq_false c_25)
  refine ps_st (S' := (33, [], [.int 0], M)) rfl rfl rfl ?_
  exact ps_ret rfl rfl (⟨rfl, rfl⟩)
set_option maxHeartbeats 1000000 in
theorem rd_cutK {g : xe_G} {m0 : Nat} {q : Nat → Nat} {z : Nat × Nat} {I : rI} {R : rR} {M : mi_H} {kn m : Int32} (hR : RS g m0 q z I R M) (hi18 : I 18 = some kn)  (hk : kn < 0) : pt (mT g) 199 [.ref m0, .int m] M (fun v M' => (∃  (I' : rI) (R' : rR), v = some (.int (-1)) ∧ RS g m0 q z I' R' M' ∧ eqI [0] I I' ∧ eqR [] R R' ∧ I' 0 = some 0)) := by
  refine pt_in (b := mb_199 g) rfl (fun kf => ?_)
  show pl (mT g) kf (mb_199 g).2 (0, [(0, .ref m0), (1, .int m)], [], M) _
  have hEI : eqI [0] I I := eqI.rf
  have hER : eqR [] R R := eqR.rf
  refine ps_st (S' := (1, [(0, .ref m0), (1, .int m)], [.ref m0], M)) rfl rfl rfl ?_
  refine ps_st (S' := (2, [(0, .ref m0), (1, .int m)], [.int 0, .ref m0], M)) rfl rfl rfl ?_
  refine pr_put (j := 0) rfl hR rfl (fun M1 I2 hR3 hi4 hI5 => ?_)
  have hi6 := (hI5 18 (by decide)).trans hi18
  have hEI7 := hEI.put hI5 (by decide)
  show pl _ _ _ (5, [(0, .ref m0), (1, .int m)], [], M1) _
  refine ps_st (S' := (6, [(0, .ref m0), (1, .int m)], [.ref m0], M1)) rfl rfl rfl ?_
  refine ps_st (S' := (7, [(0, .ref m0), (1, .int m)], [.int m, .ref m0], M1)) rfl rfl rfl ?_
  refine pl_call (a := [.ref m0, .int m]) (rest := []) rfl rfl rfl (rd_noCodeK (kn := kn) (m := m) hR3 hi6 (hk)) (fun v8 M9 q10 => ?_)
  obtain ⟨rfl, rfl⟩ := q10
  show pl _ _ _ (10, [(0, .ref m0), (1, .int m)], [.int 1], M1) _
  refine ps_if (S1 := (15, [(0, .ref m0), (1, .int m)], [], M1)) (S2 := (13, [(0, .ref m0), (1, .int m)], [], M1)) rfl rfl rfl (fun c_10 => ?_) (fun c_10 => ?_)
  · exact absurd (of_decide_eq_true c_10) (by decide)
  refine ps_st (S' := (14, [(0, .ref m0), (1, .int m)], [.int (-1)], M1)) rfl rfl rfl ?_
  exact ps_ret rfl rfl (⟨I2, R, rfl, hR3, hEI7, hER, hi4⟩)
set_option maxHeartbeats 1000000 in
theorem rd_cutN {g : xe_G} {m0 : Nat} {q : Nat → Nat} {z : Nat × Nat} {I : rI} {R : rR} {M : mi_H} {n2 l : Nat} {m : Int32} (hR : RS g m0 q z I R M) (hi18 : I 18 = some (nI n2)) (hi26 : I 26 = some (nI l))  (hn2 : n2 ≤ 65540) (hi : m < 0 ∨ nI l ≤ m) : pt (mT g) 199 [.ref m0, .int m] M (fun v M' => (∃  (I' : rI) (R' : rR), v = some (.int (-1)) ∧ RS g m0 q z I' R' M' ∧ eqI [0] I I' ∧ eqR [] R R' ∧ I' 0 = some 0)) := by
  refine pt_in (b := mb_199 g) rfl (fun kf => ?_)
  show pl (mT g) kf (mb_199 g).2 (0, [(0, .ref m0), (1, .int m)], [], M) _
  have hEI : eqI [0] I I := eqI.rf
  have hER : eqR [] R R := eqR.rf
  refine ps_st (S' := (1, [(0, .ref m0), (1, .int m)], [.ref m0], M)) rfl rfl rfl ?_
  refine ps_st (S' := (2, [(0, .ref m0), (1, .int m)], [.int 0, .ref m0], M)) rfl rfl rfl ?_
  refine pr_put (j := 0) rfl hR rfl (fun M1 I2 hR3 hi4 hI5 => ?_)
  have hi6 := (hI5 18 (by decide)).trans hi18
  have hi7 := (hI5 26 (by decide)).trans hi26
  have hEI8 := hEI.put hI5 (by decide)
  show pl _ _ _ (5, [(0, .ref m0), (1, .int m)], [], M1) _
  refine ps_st (S' := (6, [(0, .ref m0), (1, .int m)], [.ref m0], M1)) rfl rfl rfl ?_
  refine ps_st (S' := (7, [(0, .ref m0), (1, .int m)], [.int m, .ref m0], M1)) rfl rfl rfl ?_
  refine pl_call (a := [.ref m0, .int m]) (rest := []) rfl rfl rfl (rd_noCodeN (n2 := n2) (l := l) (m := m) hR3 hi6 hi7 (hn2) (hi)) (fun v9 M10 q11 => ?_)
  obtain ⟨rfl, rfl⟩ := q11
  show pl _ _ _ (10, [(0, .ref m0), (1, .int m)], [.int 1], M1) _
  refine ps_if (S1 := (15, [(0, .ref m0), (1, .int m)], [], M1)) (S2 := (13, [(0, .ref m0), (1, .int m)], [], M1)) rfl rfl rfl (fun c_10 => ?_) (fun c_10 => ?_)
  · exact absurd (of_decide_eq_true c_10) (by decide)
  refine ps_st (S' := (14, [(0, .ref m0), (1, .int m)], [.int (-1)], M1)) rfl rfl rfl ?_
  exact ps_ret rfl rfl (⟨I2, R, rfl, hR3, hEI8, hER, hi4⟩)
set_option maxHeartbeats 1000000 in
theorem rd_cutC {g : xe_G} {m0 : Nat} {q : Nat → Nat} {z : Nat × Nat} {I : rI} {R : rR} {M : mi_H} {f : Nat → Int32} {n n2 k : Nat} {E : List (Nat × Nat)} {B : List Nat} (hR : RS g m0 q z I R M) (hi18 : I 18 = some (nI n2)) (hi26 : I 26 = some (nI B.length)) (hQ : MQX f n E B 0 B.length I R) (hn2 : n2 ≤ 65540) (hk : k < B.length) (hBl : B.length < 65536) (hc0 : cpM f n E B k = 0) : pt (mT g) 199 [.ref m0, .int (nI k)] M (fun v M' => (∃  (I' : rI) (R' : rR), v = some (.int (-1)) ∧ RS g m0 q z I' R' M' ∧ eqI [0] I I' ∧ eqR [] R R' ∧ I' 0 = some 0)) := by
  refine pt_in (b := mb_199 g) rfl (fun kf => ?_)
  show pl (mT g) kf (mb_199 g).2 (0, [(0, .ref m0), (1, .int (nI k))], [], M) _
  have hEI : eqI [0] I I := eqI.rf
  have hER : eqR [] R R := eqR.rf
  refine ps_st (S' := (1, [(0, .ref m0), (1, .int (nI k))], [.ref m0], M)) rfl rfl rfl ?_
  refine ps_st (S' := (2, [(0, .ref m0), (1, .int (nI k))], [.int 0, .ref m0], M)) rfl rfl rfl ?_
  refine pr_put (j := 0) rfl hR rfl (fun M1 I2 hR3 hi4 hI5 => ?_)
  have hi6 := (hI5 18 (by decide)).trans hi18
  have hi7 := (hI5 26 (by decide)).trans hi26
  have hQ_8 := hQ.mono (pIx hI5 (by decide)) (fun _ _ => rfl)
  have hEI9 := hEI.put hI5 (by decide)
  show pl _ _ _ (5, [(0, .ref m0), (1, .int (nI k))], [], M1) _
  refine ps_st (S' := (6, [(0, .ref m0), (1, .int (nI k))], [.ref m0], M1)) rfl rfl rfl ?_
  refine ps_st (S' := (7, [(0, .ref m0), (1, .int (nI k))], [.int (nI k), .ref m0], M1)) rfl rfl rfl ?_
  refine pl_call (a := [.ref m0, .int (nI k)]) (rest := []) rfl rfl rfl (rd_noCodeC (f := f) (n := n) (n2 := n2) (k := k) (E := E) (B := B) hR3 hi6 hi7 hQ_8 (hn2) (hk) (hBl) (hc0)) (fun v10 M11 q12 => ?_)
  obtain ⟨rfl, rfl⟩ := q12
  show pl _ _ _ (10, [(0, .ref m0), (1, .int (nI k))], [.int 1], M1) _
  refine ps_if (S1 := (15, [(0, .ref m0), (1, .int (nI k))], [], M1)) (S2 := (13, [(0, .ref m0), (1, .int (nI k))], [], M1)) rfl rfl rfl (fun c_10 => ?_) (fun c_10 => ?_)
  · exact absurd (of_decide_eq_true c_10) (by decide)
  refine ps_st (S' := (14, [(0, .ref m0), (1, .int (nI k))], [.int (-1)], M1)) rfl rfl rfl ?_
  exact ps_ret rfl rfl (⟨I2, R, rfl, hR3, hEI9, hER, hi4⟩)
set_option maxHeartbeats 1000000 in
theorem rd_cutV {g : xe_G} {m0 : Nat} {q : Nat → Nat} {z : Nat × Nat} {I : rI} {R : rR} {M : mi_H} {n : Nat} {f : Nat → Int32} {tx : List (List Nat)} {cN : Nat} {A : Nat → Nat} {N mj : Nat} {E : List (Nat × Nat)} {n2 s9 k : Nat} {B : List Nat} (hR : RS g m0 q z I R M) (hi51 : I 51 = some 0) (hi52 : I 52 = some (nI N)) (hi53 : I 53 = some (nI mj)) (hi9 : I 9 = some (nI s9)) (hi18 : I 18 = some (nI n2)) (hi26 : I 26 = some (nI B.length)) (hF : FK n f I R) (hY : SYT tx cN A I R) (hP : RPV f n E tx N I R) (hQ : MQX f n E B 0 B.length I R) (hU : CUZ f n E mj B I R) (hEP : EP f n E) (hN : N < 65536) (hmj : mj < 65536) (hs9 : s9 < tx.length ∧ tx.getD s9 [] = ltx 14) (hCP : CP f n E) (hPF : PF f n E) (hn2 : n2 ≤ 65540) (hk : k < B.length) (hBl : B.length < 65536) (hc0 : ¬ cpM f n E B k = 0) (hci : CIN f n (cpM f n E B k)) : pt (mT g) 199 [.ref m0, .int (nI k)] M (fun v M' => (∃  (I' : rI) (R' : rR), v = some (.int (cutV f n E mj (cpM f n E B k + 14) (by4 f (cpM f n E B k + 10)) (by2 f (cpM f n E B k + 8)))) ∧ RS g m0 q z I' R' M' ∧ eqI [0, 74, 75, 76, 77, 78, 79] I I' ∧ eqR [80, 81] R R' ∧ I' 0 = some 0 ∧ CUZ f n E mj B I' R')) := by
  refine pt_in (b := mb_199 g) rfl (fun kf => ?_)
  show pl (mT g) kf (mb_199 g).2 (0, [(0, .ref m0), (1, .int (nI k))], [], M) _
  have hEI : eqI [0, 74, 75, 76, 77, 78, 79] I I := eqI.rf
  have hER : eqR [80, 81] R R := eqR.rf
  have hn := hF.1
  refine ps_st (S' := (1, [(0, .ref m0), (1, .int (nI k))], [.ref m0], M)) rfl rfl rfl ?_
  refine ps_st (S' := (2, [(0, .ref m0), (1, .int (nI k))], [.int 0, .ref m0], M)) rfl rfl rfl ?_
  refine pr_put (j := 0) rfl hR rfl (fun M1 I2 hR3 hi4 hI5 => ?_)
  have hi6 := (hI5 51 (by decide)).trans hi51
  have hi7 := (hI5 52 (by decide)).trans hi52
  have hi8 := (hI5 53 (by decide)).trans hi53
  have hi10 := (hI5 9 (by decide)).trans hi9
  have hi11 := (hI5 18 (by decide)).trans hi18
  have hi12 := (hI5 26 (by decide)).trans hi26
  have hF_13 := hF.mono (pIx hI5 (by decide)) (fun _ _ => rfl)
  have hY_14 := hY.mono (pIx hI5 (by decide)) (fun _ _ => rfl)
  have hP_15 := hP.mono (pIx hI5 (by decide)) (fun _ _ => rfl)
  have hQ_16 := hQ.mono (pIx hI5 (by decide)) (fun _ _ => rfl)
  have hU_17 := hU.mono (pIx hI5 (by decide)) (fun _ _ => rfl)
  have hEI18 := hEI.put hI5 (by decide)
  show pl _ _ _ (5, [(0, .ref m0), (1, .int (nI k))], [], M1) _
  refine ps_st (S' := (6, [(0, .ref m0), (1, .int (nI k))], [.ref m0], M1)) rfl rfl rfl ?_
  refine ps_st (S' := (7, [(0, .ref m0), (1, .int (nI k))], [.int (nI k), .ref m0], M1)) rfl rfl rfl ?_
  refine pl_call (a := [.ref m0, .int (nI k)]) (rest := []) rfl rfl rfl (rd_noCodeV (f := f) (n := n) (n2 := n2) (k := k) (E := E) (B := B) hR3 hi11 hi12 hQ_16 (hn2) (hk) (hBl) (hc0) (by have := hci.1; have := hF.1; omega)) (fun v19 M20 q21 => ?_)
  obtain ⟨rfl, rfl⟩ := q21
  show pl _ _ _ (10, [(0, .ref m0), (1, .int (nI k))], [.int 0], M1) _
  refine ps_if (S1 := (15, [(0, .ref m0), (1, .int (nI k))], [], M1)) (S2 := (13, [(0, .ref m0), (1, .int (nI k))], [], M1)) rfl rfl rfl (fun c_10 => ?_) (fun c_10 => ?_)
  rotate_left
  · exact absurd (by decide) (of_decide_eq_false c_10)
  refine ps_st (S' := (16, [(0, .ref m0), (1, .int (nI k))], [.ref m0], M1)) rfl rfl rfl ?_
  refine ps_st (S' := (17, [(0, .ref m0), (1, .int (nI k))], [.int (nI k), .ref m0], M1)) rfl rfl rfl ?_
  have g22 := hQ_16 k hk
  rw [Nat.zero_add] at g22
  unfold MWc at g22
  refine pl_call (a := [.ref m0, .int (nI k)]) (rest := []) rfl rfl rfl (rd_cuts8 (n := n) (f := f) (tx := tx) (cN := cN) (A := A) (N := N) (mj := mj) (E := E) (cb := (cpM f n E B k + 14)) (L := (by4 f (cpM f n E B k + 10))) (ml := (by2 f (cpM f n E B k + 8))) (s9 := s9) (m := k) (B := B) hR3 hi6 hi7 hi8 hi10 hF_13 hY_14 hP_15 hU_17 (hEP) (hN) (hmj) (by2_lt _ _) (hs9) (hCP) (hPF) (by have := hci.1; omega) (⟨hci.2.1, by have := hci.2.2; omega⟩) (by omega) (by rw [g22.2.1.1.1, if_neg (show ¬ (mK f n E (B.getD k 0)).2.1 = 0 from hc0)]; rfl) (by rw [g22.2.1.1.2.1, if_neg (show ¬ (mK f n E (B.getD k 0)).2.1 = 0 from hc0)]; rfl) (by rw [g22.2.1.1.2.2.2.1, if_neg (show ¬ (mK f n E (B.getD k 0)).2.1 = 0 from hc0)]; rfl) (hBl) (hk) (⟨rfl, rfl, rfl⟩)) (fun v23 M24 q25 => ?_)
  rcases q25 with q25 | q25
  · skip
    obtain ⟨p26, I27, R28, q17_s, q17_l, rfl, hR29, hI30, hX31, hi32, hi33, hi34, hi35, hX_36⟩ := q25
    have hi37 := (hI30 51 (by decide)).trans hi6
    have hi38 := (hI30 52 (by decide)).trans hi7
    have hi39 := (hI30 53 (by decide)).trans hi8
    have hi40 := (hI30 9 (by decide)).trans hi10
    have hi41 := (hI30 18 (by decide)).trans hi11
    have hi42 := (hI30 26 (by decide)).trans hi12
    have hi43 := (hI30 0 (by decide)).trans hi4
    have hF_44 := hF_13.mono (cIx hI30 (by decide)) (cRx hX31 (by decide))
    have hY_45 := hY_14.mono (cIx hI30 (by decide)) (cRx hX31 (by decide))
    have hP_46 := hP_15.mono (cIx hI30 (by decide)) (cRx hX31 (by decide))
    have hQ_47 := hQ_16.mono (cIx hI30 (by decide)) (cRx hX31 (by decide))
    have hEI48 := hEI18.tr hI30 (by decide)
    have hER49 := hER.tr hX31 (by decide)
    show pl _ _ _ (20, [(0, .ref m0), (1, .int (nI k))], [.int 0], M24) _
    refine ps_if (S1 := (30, [(0, .ref m0), (1, .int (nI k))], [], M24)) (S2 := (23, [(0, .ref m0), (1, .int (nI k))], [], M24)) rfl rfl rfl (fun c_20 => ?_) (fun c_20 => ?_)
    rotate_left
    · exact absurd (by decide) (of_decide_eq_false c_20)
    refine ps_st (S' := (32, [(0, .ref m0), (1, .int (nI k))], [.int (-2)], M24)) rfl rfl rfl ?_
    refine ps_st (S' := (33, [(0, .ref m0), (1, .int (nI k))], [.ref m0, .int (-2)], M24)) rfl rfl rfl ?_
    refine pr_int (j := 76) (S' := (36, [(0, .ref m0), (1, .int (nI k))], [.int (nI p26), .int (-2)], M24)) rfl hR29 rfl hi32 rfl ?_
    refine ps_st (S' := (37, [], [.int ((-2) - (nI p26))], M24)) rfl rfl rfl ?_
    exact ps_reti rfl (⟨I27, R28, by unfold cutV; rw [q17_s], hR29, hEI48, hER49, hi43, Or.inr ⟨k, hk, hc0, hX_36⟩⟩)
  · skip
    obtain ⟨S50, I51, R52, q17_s, q17_l, rfl, hR53, hI54, hX55, hi56, hi57, hi58, hi59, hi60, hX_61, hW_62, hB_63⟩ := q25
    have hi64 := (hI54 51 (by decide)).trans hi6
    have hi65 := (hI54 52 (by decide)).trans hi7
    have hi66 := (hI54 53 (by decide)).trans hi8
    have hi67 := (hI54 9 (by decide)).trans hi10
    have hi68 := (hI54 18 (by decide)).trans hi11
    have hi69 := (hI54 26 (by decide)).trans hi12
    have hi70 := (hI54 0 (by decide)).trans hi4
    have hF_71 := hF_13.mono (cIx hI54 (by decide)) (cRx hX55 (by decide))
    have hY_72 := hY_14.mono (cIx hI54 (by decide)) (cRx hX55 (by decide))
    have hP_73 := hP_15.mono (cIx hI54 (by decide)) (cRx hX55 (by decide))
    have hQ_74 := hQ_16.mono (cIx hI54 (by decide)) (cRx hX55 (by decide))
    have hEI75 := hEI18.tr hI54 (by decide)
    have hER76 := hER.tr hX55 (by decide)
    show pl _ _ _ (20, [(0, .ref m0), (1, .int (nI k))], [.int 1], M24) _
    refine ps_if (S1 := (30, [(0, .ref m0), (1, .int (nI k))], [], M24)) (S2 := (23, [(0, .ref m0), (1, .int (nI k))], [], M24)) rfl rfl rfl (fun c_20 => ?_) (fun c_20 => ?_)
    · exact absurd (of_decide_eq_true c_20) (by decide)
    refine ps_st (S' := (24, [(0, .ref m0), (1, .int (nI k))], [.ref m0], M24)) rfl rfl rfl ?_
    refine pr_int (j := 75) (S' := (27, [(0, .ref m0), (1, .int (nI k))], [.int (nI S50.length)], M24)) rfl hR53 rfl hi56 rfl ?_
    refine ps_st (S' := (37, [], [.int (nI S50.length)], M24)) rfl rfl rfl ?_
    exact ps_reti rfl (⟨I51, R52, by unfold cutV; rw [q17_s], hR53, hEI75, hER76, hi70, Or.inr ⟨k, hk, hc0, hX_61⟩⟩)
