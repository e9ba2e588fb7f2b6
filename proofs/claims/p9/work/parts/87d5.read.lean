/-! the pool is made and read (laid by wip/p4/d5.py) -/
section CLA
/-- how many characters the texts of these entries have -/
def chE (f : Nat → Int32) (n p : Nat) : Nat := if by1 f p = 1 then (match s_utf f n (p + 1) with | .inr l => l.length | .inl _ => 0) else 0
def chL (f : Nat → Int32) (n : Nat) : List (Nat × Nat) → Nat
  | [] => 0
  | q :: r => chE f n q.2 + chL f n r
theorem chL_app {f : Nat → Int32} {n k p : Nat} : ∀ {E : List (Nat × Nat)}, chL f n (E ++ [(k, p)]) = chL f n E + (if by1 f p = 1 then (match s_utf f n (p + 1) with | .inr l => l.length | .inl _ => 0) else 0) := by
  intro E
  induction E with
  | nil =>
    show chE f n p + 0 = 0 + chE f n p
    omega
  | cons q r ih =>
    show chE f n q.2 + chL f n (r ++ [(k, p)]) = chE f n q.2 + chL f n r + _
    rw [ih]
    omega
end CLA
set_option maxHeartbeats 1000000 in
theorem dx_pool {g : xe_G} {M : mi_H} {pq N n : Nat} (h_pq : M.1 pq = some (ob 7 [.int 0, .null, .null, .null, .null, .null, .null, .int 0])) (hq : pq < M.2.1) (hN : N < 65536) (hn : n ≤ 65540) : pt (mT g) 110 [.ref pq, .int (nI N), .int (nI n)] M (fun v M' => (v = none ∧ M'.1 pq = some (ob 7 [.int (nI N), .ref (M.2.1), .ref (M.2.1 + 1), .ref (M.2.1 + 2), .ref (M.2.1 + 3), .ref (M.2.1 + 4), .ref (M.2.1 + 5), .int 0]) ∧ M'.1 (M.2.1) = some (ar .int (min N (n / 3 + 1)) (fun _ => 0)) ∧ M'.1 (M.2.1 + 1) = some (ar .int (min N (n / 3 + 1)) (fun _ => 0)) ∧ M'.1 (M.2.1 + 2) = some (ar .int (min N (n / 3 + 1)) (fun _ => 0)) ∧ M'.1 (M.2.1 + 3) = some (ar .int (min N (n / 3 + 1)) (fun _ => 0)) ∧ M'.1 (M.2.1 + 4) = some (ar .int (min N (n / 3 + 1)) (fun _ => 0)) ∧ M'.1 (M.2.1 + 5) = some (ar .char n (fun _ => 0)) ∧ gm [pq] M M' ∧ M'.2.1 = M.2.1 + 6)) := by
  refine pt_in (b := mb_110 g) rfl (fun kf => ?_)
  show pl (mT g) kf (mb_110 g).2 (0, [(0, .ref pq), (1, .int (nI N)), (2, .int (nI n))], [], M) _
  have hF : gm [pq] M M := gm.rf
  obtain ⟨z0, tp0⟩ : ∃ z0, M.2.1 = z0 := ⟨_, rfl⟩
  refine ps_st (S' := (1, [(0, .ref pq), (1, .int (nI N)), (2, .int (nI n))], [.ref pq], M)) rfl rfl rfl ?_
  refine ps_st (S' := (4, [(0, .ref pq), (1, .int (nI N)), (2, .int (nI n))], [], M)) rfl rfl rfl ?_
  refine ps_st (S' := (5, [(0, .ref pq), (1, .int (nI N)), (2, .int (nI n))], [.ref pq], M)) rfl rfl rfl ?_
  refine ps_st (S' := (6, [(0, .ref pq), (1, .int (nI N)), (2, .int (nI n))], [.int (nI N), .ref pq], M)) rfl rfl rfl ?_
  refine ps_put (l' := [.int (nI N), .null, .null, .null, .null, .null, .null, .int 0]) rfl h_pq rfl rfl (fun M1 h2 f3 z4 => ?_)
  have hF5 := hF.up (Or.inl (by simp)) f3 (by rw [z4]; exact Nat.le_refl _)
  have tp6 : M1.2.1 = z0 := by rw [z4]; exact tp0
  show pl _ _ _ (9, [(0, .ref pq), (1, .int (nI N)), (2, .int (nI n))], [], M1) _
  refine ps_st (S' := (10, [(0, .ref pq), (1, .int (nI N)), (2, .int (nI n))], [.int 0], M1)) rfl rfl rfl ?_
  refine ps_st (S' := (11, [(0, .ref pq), (1, .int (nI N)), (2, .int (nI n))], [.int (nI N), .int 0], M1)) rfl rfl rfl ?_
  refine ps_st (S' := (12, [(0, .ref pq), (1, .int (nI N)), (2, .int (nI n))], [.int (nI n), .int (nI N), .int 0], M1)) rfl rfl rfl ?_
  refine ps_st (S' := (13, [(0, .ref pq), (1, .int (nI N)), (2, .int (nI n))], [.int 3, .int (nI n), .int (nI N), .int 0], M1)) rfl rfl rfl ?_
  refine ps_st (S' := (14, [(0, .ref pq), (1, .int (nI N)), (2, .int (nI n))], [.int ((nI n) / 3), .int (nI N), .int 0], M1)) rfl rfl rfl ?_
  rw [ndiv_nI (k := 3) rfl (by decide) (by omega)]
  show pl _ _ _ (_, [(0, .ref pq), (1, .int (nI N)), (2, .int (nI n))], [.int (nI (n / 3)), .int (nI N), .int 0], M1) _
  refine ps_st (S' := (15, [(0, .ref pq), (1, .int (nI N)), (2, .int (nI n))], [.int 1, .int (nI (n / 3)), .int (nI N), .int 0], M1)) rfl rfl rfl ?_
  refine ps_st (S' := (16, [(0, .ref pq), (1, .int (nI N)), (2, .int (nI n))], [.int ((nI (n / 3)) + 1), .int (nI N), .int 0], M1)) rfl rfl rfl ?_
  rw [nI_add1 (p := n / 3) (k := 1) (x := 1) rfl (by omega)]
  show pl _ _ _ (_, [(0, .ref pq), (1, .int (nI N)), (2, .int (nI n))], [.int (nI (n / 3 + 1)), .int (nI N), .int 0], M1) _
  refine ps_st (S' := (19, [(0, .ref pq), (1, .int (nI N)), (2, .int (nI n))], [.int (if (nI (n / 3 + 1)) < (nI N) then (nI (n / 3 + 1)) else (nI N)), .int 0], M1)) rfl rfl rfl ?_
  rw [nmin_nI (by omega) (by omega)]
  show pl _ _ _ (_, [(0, .ref pq), (1, .int (nI N)), (2, .int (nI n))], [.int (nI (min N (n / 3 + 1))), .int 0], M1) _
  refine ps_st (S' := (22, [(0, .ref pq), (1, .int (nI N)), (2, .int (nI n))], [.int (if 0 < (nI (min N (n / 3 + 1))) then (nI (min N (n / 3 + 1))) else 0)], M1)) rfl rfl rfl ?_
  rw [nmax0 (by omega)]
  show pl _ _ _ (_, [(0, .ref pq), (1, .int (nI N)), (2, .int (nI n))], [.int (nI (min N (n / 3 + 1)))], M1) _
  refine ps_st (S' := (23, [(3, .int (nI (min N (n / 3 + 1)))), (0, .ref pq), (1, .int (nI N)), (2, .int (nI n))], [], M1)) rfl rfl rfl ?_
  refine ps_st (S' := (24, [(3, .int (nI (min N (n / 3 + 1)))), (0, .ref pq), (1, .int (nI N)), (2, .int (nI n))], [.ref pq], M1)) rfl rfl rfl ?_
  refine ps_st (S' := (25, [(3, .int (nI (min N (n / 3 + 1)))), (0, .ref pq), (1, .int (nI N)), (2, .int (nI n))], [.int (nI (min N (n / 3 + 1))), .ref pq], M1)) rfl rfl rfl ?_
  refine ps_newa rfl tp6 (fun M7 i0_25 h8 f9 tp10 => ?_)
  rw [nI_toNat (by omega)] at h8
  have h11 := (f9 pq (show pq ≠ z0 by omega)).trans h2
  have hF12 := hF5.up (Or.inr (by omega)) f9 (by omega)
  show pl _ _ _ (27, [(3, .int (nI (min N (n / 3 + 1)))), (0, .ref pq), (1, .int (nI N)), (2, .int (nI n))], [.ref z0, .ref pq], M7) _
  refine ps_put (l' := [.int (nI N), .ref z0, .null, .null, .null, .null, .null, .int 0]) rfl h11 rfl rfl (fun M13 h14 f15 z16 => ?_)
  have h17 := (f15 z0 (show z0 ≠ pq by omega)).trans h8
  have hF18 := hF12.up (Or.inl (by simp)) f15 (by rw [z16]; exact Nat.le_refl _)
  have tp19 : M13.2.1 = z0 + 1 := by rw [z16]; exact tp10
  show pl _ _ _ (30, [(3, .int (nI (min N (n / 3 + 1)))), (0, .ref pq), (1, .int (nI N)), (2, .int (nI n))], [], M13) _
  refine ps_st (S' := (31, [(3, .int (nI (min N (n / 3 + 1)))), (0, .ref pq), (1, .int (nI N)), (2, .int (nI n))], [.ref pq], M13)) rfl rfl rfl ?_
  refine ps_st (S' := (32, [(3, .int (nI (min N (n / 3 + 1)))), (0, .ref pq), (1, .int (nI N)), (2, .int (nI n))], [.int (nI (min N (n / 3 + 1))), .ref pq], M13)) rfl rfl rfl ?_
  refine ps_newa rfl tp19 (fun M20 i0_32 h21 f22 tp23 => ?_)
  rw [nI_toNat (by omega)] at h21
  have h24 := (f22 pq (show pq ≠ (z0 + 1) by omega)).trans h14
  have h25 := (f22 z0 (show z0 ≠ (z0 + 1) by omega)).trans h17
  have hF26 := hF18.up (Or.inr (by omega)) f22 (by omega)
  show pl _ _ _ (34, [(3, .int (nI (min N (n / 3 + 1)))), (0, .ref pq), (1, .int (nI N)), (2, .int (nI n))], [.ref (z0 + 1), .ref pq], M20) _
  refine ps_put (l' := [.int (nI N), .ref z0, .ref (z0 + 1), .null, .null, .null, .null, .int 0]) rfl h24 rfl rfl (fun M27 h28 f29 z30 => ?_)
  have h31 := (f29 z0 (show z0 ≠ pq by omega)).trans h25
  have h32 := (f29 (z0 + 1) (show (z0 + 1) ≠ pq by omega)).trans h21
  have hF33 := hF26.up (Or.inl (by simp)) f29 (by rw [z30]; exact Nat.le_refl _)
  have tp34 : M27.2.1 = z0 + 2 := by rw [z30]; exact tp23
  show pl _ _ _ (37, [(3, .int (nI (min N (n / 3 + 1)))), (0, .ref pq), (1, .int (nI N)), (2, .int (nI n))], [], M27) _
  refine ps_st (S' := (38, [(3, .int (nI (min N (n / 3 + 1)))), (0, .ref pq), (1, .int (nI N)), (2, .int (nI n))], [.ref pq], M27)) rfl rfl rfl ?_
  refine ps_st (S' := (39, [(3, .int (nI (min N (n / 3 + 1)))), (0, .ref pq), (1, .int (nI N)), (2, .int (nI n))], [.int (nI (min N (n / 3 + 1))), .ref pq], M27)) rfl rfl rfl ?_
  refine ps_newa rfl tp34 (fun M35 i0_39 h36 f37 tp38 => ?_)
  rw [nI_toNat (by omega)] at h36
  have h39 := (f37 pq (show pq ≠ (z0 + 2) by omega)).trans h28
  have h40 := (f37 z0 (show z0 ≠ (z0 + 2) by omega)).trans h31
  have h41 := (f37 (z0 + 1) (show (z0 + 1) ≠ (z0 + 2) by omega)).trans h32
  have hF42 := hF33.up (Or.inr (by omega)) f37 (by omega)
  show pl _ _ _ (41, [(3, .int (nI (min N (n / 3 + 1)))), (0, .ref pq), (1, .int (nI N)), (2, .int (nI n))], [.ref (z0 + 2), .ref pq], M35) _
  refine ps_put (l' := [.int (nI N), .ref z0, .ref (z0 + 1), .ref (z0 + 2), .null, .null, .null, .int 0]) rfl h39 rfl rfl (fun M43 h44 f45 z46 => ?_)
  have h47 := (f45 z0 (show z0 ≠ pq by omega)).trans h40
  have h48 := (f45 (z0 + 1) (show (z0 + 1) ≠ pq by omega)).trans h41
  have h49 := (f45 (z0 + 2) (show (z0 + 2) ≠ pq by omega)).trans h36
  have hF50 := hF42.up (Or.inl (by simp)) f45 (by rw [z46]; exact Nat.le_refl _)
  have tp51 : M43.2.1 = z0 + 3 := by rw [z46]; exact tp38
  show pl _ _ _ (44, [(3, .int (nI (min N (n / 3 + 1)))), (0, .ref pq), (1, .int (nI N)), (2, .int (nI n))], [], M43) _
  refine ps_st (S' := (45, [(3, .int (nI (min N (n / 3 + 1)))), (0, .ref pq), (1, .int (nI N)), (2, .int (nI n))], [.ref pq], M43)) rfl rfl rfl ?_
  refine ps_st (S' := (46, [(3, .int (nI (min N (n / 3 + 1)))), (0, .ref pq), (1, .int (nI N)), (2, .int (nI n))], [.int (nI (min N (n / 3 + 1))), .ref pq], M43)) rfl rfl rfl ?_
  refine ps_newa rfl tp51 (fun M52 i0_46 h53 f54 tp55 => ?_)
  rw [nI_toNat (by omega)] at h53
  have h56 := (f54 pq (show pq ≠ (z0 + 3) by omega)).trans h44
  have h57 := (f54 z0 (show z0 ≠ (z0 + 3) by omega)).trans h47
  have h58 := (f54 (z0 + 1) (show (z0 + 1) ≠ (z0 + 3) by omega)).trans h48
  have h59 := (f54 (z0 + 2) (show (z0 + 2) ≠ (z0 + 3) by omega)).trans h49
  have hF60 := hF50.up (Or.inr (by omega)) f54 (by omega)
  show pl _ _ _ (48, [(3, .int (nI (min N (n / 3 + 1)))), (0, .ref pq), (1, .int (nI N)), (2, .int (nI n))], [.ref (z0 + 3), .ref pq], M52) _
  refine ps_put (l' := [.int (nI N), .ref z0, .ref (z0 + 1), .ref (z0 + 2), .ref (z0 + 3), .null, .null, .int 0]) rfl h56 rfl rfl (fun M61 h62 f63 z64 => ?_)
  have h65 := (f63 z0 (show z0 ≠ pq by omega)).trans h57
  have h66 := (f63 (z0 + 1) (show (z0 + 1) ≠ pq by omega)).trans h58
  have h67 := (f63 (z0 + 2) (show (z0 + 2) ≠ pq by omega)).trans h59
  have h68 := (f63 (z0 + 3) (show (z0 + 3) ≠ pq by omega)).trans h53
  have hF69 := hF60.up (Or.inl (by simp)) f63 (by rw [z64]; exact Nat.le_refl _)
  have tp70 : M61.2.1 = z0 + 4 := by rw [z64]; exact tp55
  show pl _ _ _ (51, [(3, .int (nI (min N (n / 3 + 1)))), (0, .ref pq), (1, .int (nI N)), (2, .int (nI n))], [], M61) _
  refine ps_st (S' := (52, [(3, .int (nI (min N (n / 3 + 1)))), (0, .ref pq), (1, .int (nI N)), (2, .int (nI n))], [.ref pq], M61)) rfl rfl rfl ?_
  refine ps_st (S' := (53, [(3, .int (nI (min N (n / 3 + 1)))), (0, .ref pq), (1, .int (nI N)), (2, .int (nI n))], [.int (nI (min N (n / 3 + 1))), .ref pq], M61)) rfl rfl rfl ?_
  refine ps_newa rfl tp70 (fun M71 i0_53 h72 f73 tp74 => ?_)
  rw [nI_toNat (by omega)] at h72
  have h75 := (f73 pq (show pq ≠ (z0 + 4) by omega)).trans h62
  have h76 := (f73 z0 (show z0 ≠ (z0 + 4) by omega)).trans h65
  have h77 := (f73 (z0 + 1) (show (z0 + 1) ≠ (z0 + 4) by omega)).trans h66
  have h78 := (f73 (z0 + 2) (show (z0 + 2) ≠ (z0 + 4) by omega)).trans h67
  have h79 := (f73 (z0 + 3) (show (z0 + 3) ≠ (z0 + 4) by omega)).trans h68
  have hF80 := hF69.up (Or.inr (by omega)) f73 (by omega)
  show pl _ _ _ (55, [(3, .int (nI (min N (n / 3 + 1)))), (0, .ref pq), (1, .int (nI N)), (2, .int (nI n))], [.ref (z0 + 4), .ref pq], M71) _
  refine ps_put (l' := [.int (nI N), .ref z0, .ref (z0 + 1), .ref (z0 + 2), .ref (z0 + 3), .ref (z0 + 4), .null, .int 0]) rfl h75 rfl rfl (fun M81 h82 f83 z84 => ?_)
  have h85 := (f83 z0 (show z0 ≠ pq by omega)).trans h76
  have h86 := (f83 (z0 + 1) (show (z0 + 1) ≠ pq by omega)).trans h77
  have h87 := (f83 (z0 + 2) (show (z0 + 2) ≠ pq by omega)).trans h78
  have h88 := (f83 (z0 + 3) (show (z0 + 3) ≠ pq by omega)).trans h79
  have h89 := (f83 (z0 + 4) (show (z0 + 4) ≠ pq by omega)).trans h72
  have hF90 := hF80.up (Or.inl (by simp)) f83 (by rw [z84]; exact Nat.le_refl _)
  have tp91 : M81.2.1 = z0 + 5 := by rw [z84]; exact tp74
  show pl _ _ _ (58, [(3, .int (nI (min N (n / 3 + 1)))), (0, .ref pq), (1, .int (nI N)), (2, .int (nI n))], [], M81) _
  refine ps_st (S' := (59, [(3, .int (nI (min N (n / 3 + 1)))), (0, .ref pq), (1, .int (nI N)), (2, .int (nI n))], [.ref pq], M81)) rfl rfl rfl ?_
  refine ps_st (S' := (60, [(3, .int (nI (min N (n / 3 + 1)))), (0, .ref pq), (1, .int (nI N)), (2, .int (nI n))], [.int 0, .ref pq], M81)) rfl rfl rfl ?_
  refine ps_st (S' := (61, [(3, .int (nI (min N (n / 3 + 1)))), (0, .ref pq), (1, .int (nI N)), (2, .int (nI n))], [.int (nI n), .int 0, .ref pq], M81)) rfl rfl rfl ?_
  refine ps_st (S' := (64, [(3, .int (nI (min N (n / 3 + 1)))), (0, .ref pq), (1, .int (nI N)), (2, .int (nI n))], [.int (if 0 < (nI n) then (nI n) else 0), .ref pq], M81)) rfl rfl rfl ?_
  rw [nmax0 (by omega)]
  show pl _ _ _ (_, [(3, .int (nI (min N (n / 3 + 1)))), (0, .ref pq), (1, .int (nI N)), (2, .int (nI n))], [.int (nI (n)), .ref pq], M81) _
  refine ps_newa rfl tp91 (fun M92 i0_64 h93 f94 tp95 => ?_)
  rw [nI_toNat (by omega)] at h93
  have h96 := (f94 pq (show pq ≠ (z0 + 5) by omega)).trans h82
  have h97 := (f94 z0 (show z0 ≠ (z0 + 5) by omega)).trans h85
  have h98 := (f94 (z0 + 1) (show (z0 + 1) ≠ (z0 + 5) by omega)).trans h86
  have h99 := (f94 (z0 + 2) (show (z0 + 2) ≠ (z0 + 5) by omega)).trans h87
  have h100 := (f94 (z0 + 3) (show (z0 + 3) ≠ (z0 + 5) by omega)).trans h88
  have h101 := (f94 (z0 + 4) (show (z0 + 4) ≠ (z0 + 5) by omega)).trans h89
  have hF102 := hF90.up (Or.inr (by omega)) f94 (by omega)
  show pl _ _ _ (66, [(3, .int (nI (min N (n / 3 + 1)))), (0, .ref pq), (1, .int (nI N)), (2, .int (nI n))], [.ref (z0 + 5), .ref pq], M92) _
  refine ps_put (l' := [.int (nI N), .ref z0, .ref (z0 + 1), .ref (z0 + 2), .ref (z0 + 3), .ref (z0 + 4), .ref (z0 + 5), .int 0]) rfl h96 rfl rfl (fun M103 h104 f105 z106 => ?_)
  have h107 := (f105 z0 (show z0 ≠ pq by omega)).trans h97
  have h108 := (f105 (z0 + 1) (show (z0 + 1) ≠ pq by omega)).trans h98
  have h109 := (f105 (z0 + 2) (show (z0 + 2) ≠ pq by omega)).trans h99
  have h110 := (f105 (z0 + 3) (show (z0 + 3) ≠ pq by omega)).trans h100
  have h111 := (f105 (z0 + 4) (show (z0 + 4) ≠ pq by omega)).trans h101
  have h112 := (f105 (z0 + 5) (show (z0 + 5) ≠ pq by omega)).trans h93
  have hF113 := hF102.up (Or.inl (by simp)) f105 (by rw [z106]; exact Nat.le_refl _)
  have tp114 : M103.2.1 = z0 + 6 := by rw [z106]; exact tp95
  show pl _ _ _ (69, [(3, .int (nI (min N (n / 3 + 1)))), (0, .ref pq), (1, .int (nI N)), (2, .int (nI n))], [], M103) _
  exact ps_ret rfl rfl (⟨rfl, by rw [tp0]; exact h104, by rw [tp0]; exact h107, by rw [tp0]; exact h108, by rw [tp0]; exact h109, by rw [tp0]; exact h110, by rw [tp0]; exact h111, by rw [tp0]; exact h112, hF113, by rw [tp0]; exact tp114⟩)
set_option maxHeartbeats 1000000 in
theorem dx_tagOf {g : xe_G} {M : mi_H} {pq q1 q2 q3 q4 q5 q6 hd cc : Nat} {sz : Int32} {F1 : Nat → Int32} {k : Nat} (h_pq : M.1 pq = some (ob 7 [.int sz, .ref q1, .ref q2, .ref q3, .ref q4, .ref q5, .ref q6, .int (nI cc)])) (h_q1 : M.1 q1 = some (ar .int hd F1)) (hh : hd < 1073741824) (hk : k < hd) : pt (mT g) 138 [.ref pq, .int (nI k)] M (fun v M' => (v = some (.int (F1 k)) ∧ fm [] M M')) := by
  refine pt_in (b := mb_138 g) rfl (fun kf => ?_)
  show pl (mT g) kf (mb_138 g).2 (0, [(0, .ref pq), (1, .int (nI k))], [], M) _
  have hF : fm [] M M := fm.rf
  refine ps_st (S' := (1, [(0, .ref pq), (1, .int (nI k))], [.int (nI k)], M)) rfl rfl rfl ?_
  refine ps_if (S1 := (13, [], [], M)) (S2 := (4, [(0, .ref pq), (1, .int (nI k))], [], M)) rfl rfl rfl (fun c_1 => ?_) (fun c_1 => ?_)
  · exact absurd (of_decide_eq_true c_1) (nI_n0 (by omega))
  refine ps_st (S' := (5, [(0, .ref pq), (1, .int (nI k))], [.int (nI k)], M)) rfl rfl rfl ?_
  refine ps_st (S' := (6, [(0, .ref pq), (1, .int (nI k))], [.ref pq, .int (nI k)], M)) rfl rfl rfl ?_
  refine ps_get (S' := (9, [(0, .ref pq), (1, .int (nI k))], [.ref q1, .int (nI k)], M)) rfl h_pq rfl rfl ?_
  refine ps_alen (S' := (10, [(0, .ref pq), (1, .int (nI k))], [.int (nI hd), .int (nI k)], M)) rfl h_q1 rfl ?_
  refine ps_if2 (S1 := (17, [(0, .ref pq), (1, .int (nI k))], [], M)) (S2 := (13, [], [], M)) rfl rfl rfl (fun c_10 => ?_) (fun c_10 => ?_)
  rotate_left
  · exact absurd ((lt_nI (by omega) (by omega)).mpr (by omega)) (of_decide_eq_false c_10)
  refine ps_st (S' := (18, [(0, .ref pq), (1, .int (nI k))], [.ref pq], M)) rfl rfl rfl ?_
  refine ps_get (S' := (21, [(0, .ref pq), (1, .int (nI k))], [.ref q1], M)) rfl h_pq rfl rfl ?_
  refine ps_st (S' := (22, [(0, .ref pq), (1, .int (nI k))], [.int (nI k), .ref q1], M)) rfl rfl rfl ?_
  refine ps_ald (S' := (23, [], [.int (F1 (Int32.toNatClampNeg (nI k)))], M)) rfl h_q1 rfl (fun i0_22 i1_22 => ?_)
  exact ps_ret rfl rfl (⟨by rw [nI_toNat (by omega)], hF⟩)
set_option maxHeartbeats 1000000 in
theorem dx_isWide {g : xe_G} {M : mi_H} {pq q1 q2 q3 q4 q5 q6 hd cc : Nat} {sz : Int32} {F1 : Nat → Int32} {k t : Nat} (h_pq : M.1 pq = some (ob 7 [.int sz, .ref q1, .ref q2, .ref q3, .ref q4, .ref q5, .ref q6, .int (nI cc)])) (h_q1 : M.1 q1 = some (ar .int hd F1)) (hh : hd < 1073741824) (hk : k < hd) (hf : F1 k = nI t) (ht : t < 256) : pt (mT g) 125 [.ref pq, .int (nI k)] M (fun v M' => ((t = 5 ∨ t = 6) ∧ v = some (.int 1) ∧ fm [] M M') ∨ ((¬ (t = 5 ∨ t = 6)) ∧ v = some (.int 0) ∧ fm [] M M')) := by
  refine pt_in (b := mb_125 g) rfl (fun kf => ?_)
  show pl (mT g) kf (mb_125 g).2 (0, [(0, .ref pq), (1, .int (nI k))], [], M) _
  have hF : fm [] M M := fm.rf
  refine ps_st (S' := (1, [(0, .ref pq), (1, .int (nI k))], [.ref pq], M)) rfl rfl rfl ?_
  refine ps_st (S' := (2, [(0, .ref pq), (1, .int (nI k))], [.int (nI k), .ref pq], M)) rfl rfl rfl ?_
  refine pl_call (a := [.ref pq, .int (nI k)]) (rest := []) rfl rfl rfl (dx_tagOf h_pq h_q1 (hh) (hk)) (fun v1 M2 q3 => ?_)
  obtain ⟨rfl, f4⟩ := q3
  have h6 := (f4.1 pq (by simp)).trans h_pq
  have h7 := (f4.1 q1 (by simp)).trans h_q1
  have hF8 := hF.tr f4 (by simp)
  show pl _ _ _ (5, [(0, .ref pq), (1, .int (nI k))], [.int (F1 k)], M2) _
  rw [hf]
  show pl _ _ _ (_, [(0, .ref pq), (1, .int (nI k))], [.int (nI t)], M2) _
  refine ps_st (S' := (6, [(2, .int (nI t)), (0, .ref pq), (1, .int (nI k))], [], M2)) rfl rfl rfl ?_
  refine ps_st (S' := (7, [(2, .int (nI t)), (0, .ref pq), (1, .int (nI k))], [.int (nI t)], M2)) rfl rfl rfl ?_
  refine ps_st (S' := (8, [(2, .int (nI t)), (0, .ref pq), (1, .int (nI k))], [.int 5, .int (nI t)], M2)) rfl rfl rfl ?_
  refine ps_if2 (S1 := (17, [], [], M2)) (S2 := (11, [(2, .int (nI t)), (0, .ref pq), (1, .int (nI k))], [], M2)) rfl rfl rfl (fun c_8 => ?_) (fun c_8 => ?_)
  · have c_8 : (nI t) = 5 := of_decide_eq_true c_8
    have n_8 : t = 5 := (eq_nI (p := t) (n := 5) (by omega) (by decide)).mp c_8
    refine ps_st (S' := (18, [], [.int 1], M2)) rfl rfl rfl ?_
    refine ps_st (S' := (22, [], [.int 1], M2)) rfl rfl rfl ?_
    exact ps_ret rfl rfl (Or.inl ⟨by omega, rfl, hF8⟩)
  · have c_8 : ¬ ((nI t) = 5) := of_decide_eq_false c_8
    have n_8 : ¬ (t = 5) := fun h9 => c_8 ((eq_nI (p := t) (n := 5) (by omega) (by decide)).mpr h9)
    refine ps_st (S' := (12, [(2, .int (nI t)), (0, .ref pq), (1, .int (nI k))], [.int (nI t)], M2)) rfl rfl rfl ?_
    refine ps_st (S' := (14, [(2, .int (nI t)), (0, .ref pq), (1, .int (nI k))], [.int 6, .int (nI t)], M2)) rfl rfl rfl ?_
    refine ps_if2 (S1 := (21, [(2, .int (nI t)), (0, .ref pq), (1, .int (nI k))], [], M2)) (S2 := (17, [], [], M2)) rfl rfl rfl (fun c_14 => ?_) (fun c_14 => ?_)
    · have c_14 : ¬ (nI t) = 6 := of_decide_eq_true c_14
      have n_14 : ¬ (t = 6) := fun h9 => c_14 ((eq_nI (p := t) (n := 6) (by omega) (by decide)).mpr h9)
      refine ps_st (S' := (22, [], [.int 0], M2)) rfl rfl rfl ?_
      exact ps_ret rfl rfl (Or.inr ⟨by omega, rfl, hF8⟩)
    · have c_14 : ¬ (¬ (nI t) = 6) := of_decide_eq_false c_14
      have n_14 : t = 6 := (eq_nI (p := t) (n := 6) (by omega) (by decide)).mp (Decidable.not_not.mp c_14)
      refine ps_st (S' := (18, [], [.int 1], M2)) rfl rfl rfl ?_
      refine ps_st (S' := (22, [], [.int 1], M2)) rfl rfl rfl ?_
      exact ps_ret rfl rfl (Or.inl ⟨by omega, rfl, hF8⟩)
theorem poolC.to {f : Nat → Int32} {n : Nat} {F1 F2 F3 F4 F6 : Nat → Int32} {cc k k' : Nat} {E : List (Nat × Nat)} (h : poolC f n F1 F2 F3 F4 F6 cc k E) (hk : k ≤ k') : poolC f n F1 F2 F3 F4 F6 cc k' E := ⟨fun q hq => ⟨Nat.lt_of_lt_of_le (h.1 q hq).1 hk, (h.1 q hq).2⟩, h.2⟩
set_option maxHeartbeats 1000000 in
theorem dx_takesPool {g : xe_G} {M : mi_H} {r c b vd da n mj : Nat} {f : Nat → Int32} {it ru wa mi fa ic ac aa k1 k2 k3 k4 k5 k6 k7 : Int32} {u1 u6 u7 : Value} (h_r : M.1 r = some (ob 9 [.ref c, .ref b, .ref vd, .int (nI 8), .int it])) (h_b : M.1 b = some (ob 1 [.ref da])) (h_da : M.1 da = some (ar .byte n f)) (h_vd : M.1 vd = some (ob 10 [.int ru, .int wa])) (h_c : M.1 c = some (ob 3 [.ref b, u1, .int mi, .int (nI mj), .int fa, .int ic, u6, u7, .int ac, .int aa, .int k1, .int k2, .int k3, .int k4, .int k5, .int k6, .int k7])) (hn : n ≤ 65540) (h8 : 8 ≤ n) (hj : mj < 65536) (l_r : r < M.2.1) (l_b : b < M.2.1) (l_da : da < M.2.1) (l_vd : vd < M.2.1) (l_c : c < M.2.1) : pt (mT g) 169 [.ref r] M (fun v M' => (∃ (p' cc : Nat) (it' : Int32) (E : List (Nat × Nat)) (F1 F2 F3 F4 F6 : Nat → Int32), (s_pool f n mj = .inr (p', E)) ∧ (poolC f n F1 F2 F3 F4 F6 cc (by2 f 8) E) ∧ (p' ≤ n ∧ cc ≤ p' ∧ 10 ≤ n) ∧ (cc = chL f n E) ∧ v = some (.int 1) ∧ M'.1 r = some (ob 9 [.ref c, .ref b, .ref vd, .int (nI p'), .int it']) ∧ M'.1 vd = some (ob 10 [.int ru, .int wa]) ∧ M'.1 c = some (ob 3 [.ref b, .ref (M.2.1), .int mi, .int (nI mj), .int fa, .int ic, u6, u7, .int ac, .int aa, .int k1, .int k2, .int k3, .int k4, .int k5, .int k6, .int k7]) ∧ M'.1 (M.2.1) = some (ob 7 [.int (nI (by2 f 8)), .ref (M.2.1 + 1), .ref (M.2.1 + 2), .ref (M.2.1 + 3), .ref (M.2.1 + 4), .ref (M.2.1 + 5), .ref (M.2.1 + 6), .int (nI cc)]) ∧ M'.1 (M.2.1 + 1) = some (ar .int (hldC f n) F1) ∧ M'.1 (M.2.1 + 2) = some (ar .int (hldC f n) F2) ∧ M'.1 (M.2.1 + 3) = some (ar .int (hldC f n) F3) ∧ M'.1 (M.2.1 + 4) = some (ar .int (hldC f n) F4) ∧ M'.1 (M.2.1 + 5) = some (ar .int (hldC f n) (fun _ => 0)) ∧ M'.1 (M.2.1 + 6) = some (ar .char n F6) ∧ gm [r, vd, c] M M' ∧ M'.2.1 = M.2.1 + 7) ∨ (∃ (e : Nat × Nat), (s_pool f n mj = .inl e) ∧ v = some (.int 0) ∧ M'.1 vd = some (ob 10 [.int (nI e.1), .int (nI e.2)]) ∧ gm [r, vd, c] M M' ∧ M.2.1 ≤ M'.2.1)) := by
  refine pt_in (b := mb_169 g) rfl (fun kf => ?_)
  show pl (mT g) kf (mb_169 g).2 (0, [(0, .ref r)], [], M) _
  have hF : gm [r, vd, c] M M := gm.rf
  obtain ⟨z0, tp0⟩ : ∃ z0, M.2.1 = z0 := ⟨_, rfl⟩
  have hb2 := by2_lt f 8
  have L61 : ∀ (kf : Nat) (k p1 cc : Nat) (E : List (Nat × Nat)) (it1 : Int32) (F1 F2 F3 F4 F6 : Nat → Int32) (M1 : mi_H), (M1.1 r = some (ob 9 [.ref c, .ref b, .ref vd, .int (nI p1), .int it1])) → (M1.1 b = some (ob 1 [.ref da])) → (M1.1 da = some (ar .byte n f)) → (M1.1 vd = some (ob 10 [.int ru, .int wa])) → (M1.1 c = some (ob 3 [.ref b, .ref z0, .int mi, .int (nI mj), .int fa, .int ic, u6, u7, .int ac, .int aa, .int k1, .int k2, .int k3, .int k4, .int k5, .int k6, .int k7])) → (M1.1 z0 = some (ob 7 [.int (nI (by2 f 8)), .ref (z0 + 1), .ref (z0 + 2), .ref (z0 + 3), .ref (z0 + 4), .ref (z0 + 5), .ref (z0 + 6), .int (nI cc)])) → (M1.1 (z0 + 1) = some (ar .int (hldC f n) F1)) → (M1.1 (z0 + 2) = some (ar .int (hldC f n) F2)) → (M1.1 (z0 + 3) = some (ar .int (hldC f n) F3)) → (M1.1 (z0 + 4) = some (ar .int (hldC f n) F4)) → (M1.1 (z0 + 5) = some (ar .int (hldC f n) (fun _ => 0))) → (M1.1 (z0 + 6) = some (ar .char n F6)) → (gm [r, vd, c] M M1) → (M1.2.1 = z0 + 7) → (1 ≤ k ∧ 7 + 3 * k ≤ p1 ∧ p1 ≤ n ∧ 10 ≤ n ∧ k ≤ by2 f 8) → (cc ≤ p1) → (¬ by2 f 8 = 0) → (poolC f n F1 F2 F3 F4 F6 cc k E) → (s_ents f n mj (by2 f 8) (by2 f 8 - k) k p1 E = s_ents f n mj (by2 f 8) (by2 f 8 - 1) 1 10 []) → (cc = chL f n E) → pl (mT g) kf (mb_169 g).2 (61, [(0, .ref r), (2, .ref z0), (3, .int (nI k))], [], M1) (fun v M' => (∃ (p' cc : Nat) (it' : Int32) (E : List (Nat × Nat)) (F1 F2 F3 F4 F6 : Nat → Int32), (s_pool f n mj = .inr (p', E)) ∧ (poolC f n F1 F2 F3 F4 F6 cc (by2 f 8) E) ∧ (p' ≤ n ∧ cc ≤ p' ∧ 10 ≤ n) ∧ (cc = chL f n E) ∧ v = some (.int 1) ∧ M'.1 r = some (ob 9 [.ref c, .ref b, .ref vd, .int (nI p'), .int it']) ∧ M'.1 vd = some (ob 10 [.int ru, .int wa]) ∧ M'.1 c = some (ob 3 [.ref b, .ref (M.2.1), .int mi, .int (nI mj), .int fa, .int ic, u6, u7, .int ac, .int aa, .int k1, .int k2, .int k3, .int k4, .int k5, .int k6, .int k7]) ∧ M'.1 (M.2.1) = some (ob 7 [.int (nI (by2 f 8)), .ref (M.2.1 + 1), .ref (M.2.1 + 2), .ref (M.2.1 + 3), .ref (M.2.1 + 4), .ref (M.2.1 + 5), .ref (M.2.1 + 6), .int (nI cc)]) ∧ M'.1 (M.2.1 + 1) = some (ar .int (hldC f n) F1) ∧ M'.1 (M.2.1 + 2) = some (ar .int (hldC f n) F2) ∧ M'.1 (M.2.1 + 3) = some (ar .int (hldC f n) F3) ∧ M'.1 (M.2.1 + 4) = some (ar .int (hldC f n) F4) ∧ M'.1 (M.2.1 + 5) = some (ar .int (hldC f n) (fun _ => 0)) ∧ M'.1 (M.2.1 + 6) = some (ar .char n F6) ∧ gm [r, vd, c] M M' ∧ M'.2.1 = M.2.1 + 7) ∨ (∃ (e : Nat × Nat), (s_pool f n mj = .inl e) ∧ v = some (.int 0) ∧ M'.1 vd = some (ob 10 [.int (nI e.1), .int (nI e.2)]) ∧ gm [r, vd, c] M M' ∧ M.2.1 ≤ M'.2.1)) := by
    intro kf
    induction kf with
    | zero => intros; exact pl_0
    | succ kf ih =>
      intro k p1 cc E it1 F1 F2 F3 F4 F6 M1 hl_r hl_b hl_da hl_vd hl_c hl_z0 hl_z0___1 hl_z0___2 hl_z0___3 hl_z0___4 hl_z0___5 hl_z0___6 hF1 tp1 hk1 hc h0 hP hs hcs
      have hb2 := by2_lt f 8
      refine ps_st1 (S' := (62, [(0, .ref r), (2, .ref z0), (3, .int (nI k))], [.int (nI k)], M1)) rfl rfl rfl ?_
      refine ps_st (S' := (63, [(0, .ref r), (2, .ref z0), (3, .int (nI k))], [.ref z0, .int (nI k)], M1)) rfl rfl rfl ?_
      refine ps_get (S' := (66, [(0, .ref r), (2, .ref z0), (3, .int (nI k))], [.int (nI (by2 f 8)), .int (nI k)], M1)) rfl hl_z0 rfl rfl ?_
      refine ps_if2 (S1 := (98, [(0, .ref r), (2, .ref z0), (3, .int (nI k))], [], M1)) (S2 := (69, [(0, .ref r), (2, .ref z0), (3, .int (nI k))], [], M1)) rfl rfl rfl (fun c_66 => ?_) (fun c_66 => ?_)
      · have c_66 : (nI (by2 f 8)) ≤ (nI k) := of_decide_eq_true c_66
        have n_66 : by2 f 8 ≤ k := (le_nI (p := by2 f 8) (n := k) (Nat.lt_trans (by2_lt _ _) (by decide)) (by omega)).mp c_66
        refine ps_st (S' := (99, [(0, .ref r), (2, .ref z0), (3, .int (nI k))], [.int 1], M1)) rfl rfl rfl ?_
        exact ps_ret rfl rfl (Or.inl ⟨p1, cc, _, E, F1, F2, F3, F4, F6, by
            unfold s_pool
            rw [if_neg (by omega), if_neg (by omega), ← hs]
            exact s_ents_0 (by omega), hP.to (by omega), by omega, hcs, rfl, by first | exact hl_r | (rw [tp0]; exact hl_r), by first | exact hl_vd | (rw [tp0]; exact hl_vd), by first | exact hl_c | (rw [tp0]; exact hl_c), by first | exact hl_z0 | (rw [tp0]; exact hl_z0), by first | exact hl_z0___1 | (rw [tp0]; exact hl_z0___1), by first | exact hl_z0___2 | (rw [tp0]; exact hl_z0___2), by first | exact hl_z0___3 | (rw [tp0]; exact hl_z0___3), by first | exact hl_z0___4 | (rw [tp0]; exact hl_z0___4), by first | exact hl_z0___5 | (rw [tp0]; exact hl_z0___5), by first | exact hl_z0___6 | (rw [tp0]; exact hl_z0___6), hF1, by rw [tp0]; exact tp1⟩)
      · have c_66 : ¬ ((nI (by2 f 8)) ≤ (nI k)) := of_decide_eq_false c_66
        have n_66 : ¬ (by2 f 8 ≤ k) := fun h9 => c_66 ((le_nI (p := by2 f 8) (n := k) (Nat.lt_trans (by2_lt _ _) (by decide)) (by omega)).mpr h9)
        refine ps_st (S' := (70, [(0, .ref r), (2, .ref z0), (3, .int (nI k))], [.ref r], M1)) rfl rfl rfl ?_
        refine ps_st (S' := (71, [(0, .ref r), (2, .ref z0), (3, .int (nI k))], [.int (nI k), .ref r], M1)) rfl rfl rfl ?_
        refine pl_call (a := [.ref r, .int (nI k)]) (rest := []) rfl rfl rfl (dx_takesEntry hl_r hl_b hl_da hl_vd hl_c hl_z0 hl_z0___1 hl_z0___3 hl_z0___4 hl_z0___2 hl_z0___6 (hn) (by omega) (by unfold dst5; omega) (by unfold hldC; omega) (rfl) (by omega) (by2_lt _ _) (hj) (by omega) (fun h9 => by unfold hldC; omega)) (fun v1 M2 q3 => ?_)
        rcases q3 with q3 | q3 | q3 | q3
        · skip
          obtain ⟨p'4, l5, it'6, q71_s, q71_c, q71_e, rfl, h7, h8, h9, h10, h11, h12, h13, h14, f15⟩ := q3
          have h17 := (f15.1 b (nin8 (ob_ne hl_b hl_r (by decide)) (ob_ne hl_b hl_vd (by decide)) (show b ≠ z0 by omega) (show b ≠ (z0 + 1) by omega) (show b ≠ (z0 + 2) by omega) (show b ≠ (z0 + 3) by omega) (show b ≠ (z0 + 4) by omega) (show b ≠ (z0 + 6) by omega))).trans hl_b
          have h18 := (f15.1 da (nin8 (Ne.symm (ob_ar hl_r hl_da)) (Ne.symm (ob_ar hl_vd hl_da)) (show da ≠ z0 by omega) (show da ≠ (z0 + 1) by omega) (show da ≠ (z0 + 2) by omega) (show da ≠ (z0 + 3) by omega) (show da ≠ (z0 + 4) by omega) (show da ≠ (z0 + 6) by omega))).trans hl_da
          have h19 := (f15.1 c (nin8 (ob_ne hl_c hl_r (by decide)) (ob_ne hl_c hl_vd (by decide)) (show c ≠ z0 by omega) (show c ≠ (z0 + 1) by omega) (show c ≠ (z0 + 2) by omega) (show c ≠ (z0 + 3) by omega) (show c ≠ (z0 + 4) by omega) (show c ≠ (z0 + 6) by omega))).trans hl_c
          have h20 := (f15.1 (z0 + 5) (nin8 (show (z0 + 5) ≠ r by omega) (show (z0 + 5) ≠ vd by omega) (show (z0 + 5) ≠ z0 by omega) (show (z0 + 5) ≠ (z0 + 1) by omega) (show (z0 + 5) ≠ (z0 + 2) by omega) (show (z0 + 5) ≠ (z0 + 3) by omega) (show (z0 + 5) ≠ (z0 + 4) by omega) (show (z0 + 5) ≠ (z0 + 6) by omega))).trans hl_z0___5
          have hF21 := hF1.trf f15 (by intro z hz; simp only [List.mem_cons, List.not_mem_nil, or_false] at hz ⊢; try omega)
          have tp22 : M2.2.1 = z0 + 7 := by rw [f15.2]; exact tp1
          show pl _ _ _ (74, [(0, .ref r), (2, .ref z0), (3, .int (nI k))], [.int 1], M2) _
          refine ps_if (S1 := (79, [(0, .ref r), (2, .ref z0), (3, .int (nI k))], [], M2)) (S2 := (77, [(0, .ref r), (2, .ref z0), (3, .int (nI k))], [], M2)) rfl rfl rfl (fun c_74 => ?_) (fun c_74 => ?_)
          rotate_left
          · exact absurd (by decide) (of_decide_eq_false c_74)
          refine ps_st (S' := (80, [(0, .ref r), (2, .ref z0), (3, .int (nI k))], [.int (nI k)], M2)) rfl rfl rfl ?_
          refine ps_st (S' := (81, [(0, .ref r), (2, .ref z0), (3, .int (nI k))], [.ref z0, .int (nI k)], M2)) rfl rfl rfl ?_
          refine ps_st (S' := (82, [(0, .ref r), (2, .ref z0), (3, .int (nI k))], [.int (nI k), .ref z0, .int (nI k)], M2)) rfl rfl rfl ?_
          refine pl_call (a := [.ref z0, .int (nI k)]) (rest := [.int (nI k)]) rfl rfl rfl (dx_isWide h11 h7 (by unfold hldC; omega) (by unfold hldC; omega) (updq_at) (by1_lt _ _)) (fun v23 M24 q25 => ?_)
          rcases q25 with q25 | q25
          · skip
            obtain ⟨q82_y, rfl, f26⟩ := q25
            have h28 := (f26.1 r (by simp)).trans h9
            have h29 := (f26.1 b (by simp)).trans h17
            have h30 := (f26.1 da (by simp)).trans h18
            have h31 := (f26.1 vd (by simp)).trans h10
            have h32 := (f26.1 c (by simp)).trans h19
            have h33 := (f26.1 z0 (by simp)).trans h11
            have h34 := (f26.1 (z0 + 1) (by simp)).trans h7
            have h35 := (f26.1 (z0 + 2) (by simp)).trans h8
            have h36 := (f26.1 (z0 + 3) (by simp)).trans h12
            have h37 := (f26.1 (z0 + 4) (by simp)).trans h13
            have h38 := (f26.1 (z0 + 5) (by simp)).trans h20
            have h39 := (f26.1 (z0 + 6) (by simp)).trans h14
            have hF40 := hF21.trf f26 (by intro z hz; simp only [List.mem_cons, List.not_mem_nil, or_false] at hz ⊢; try omega)
            have tp41 : M24.2.1 = z0 + 7 := by rw [f26.2]; exact tp22
            show pl _ _ _ (85, [(0, .ref r), (2, .ref z0), (3, .int (nI k))], [.int 1, .int (nI k)], M24) _
            refine ps_if (S1 := (92, [(0, .ref r), (2, .ref z0), (3, .int (nI k))], [.int (nI k)], M24)) (S2 := (88, [(0, .ref r), (2, .ref z0), (3, .int (nI k))], [.int (nI k)], M24)) rfl rfl rfl (fun c_85 => ?_) (fun c_85 => ?_)
            · exact absurd (of_decide_eq_true c_85) (by decide)
            refine ps_st (S' := (89, [(0, .ref r), (2, .ref z0), (3, .int (nI k))], [.int 2, .int (nI k)], M24)) rfl rfl rfl ?_
            refine ps_st (S' := (93, [(0, .ref r), (2, .ref z0)], [.int 2, .int (nI k)], M24)) rfl rfl rfl ?_
            refine ps_st (S' := (94, [(0, .ref r), (2, .ref z0)], [.int ((nI k) + 2)], M24)) rfl rfl rfl ?_
            rw [nI_add1 (p := k) (k := 2) (x := 2) rfl (by omega)]
            show pl _ _ _ (_, [(0, .ref r), (2, .ref z0)], [.int (nI (k + 2))], M24) _
            refine ps_st (S' := (95, [(3, .int (nI (k + 2))), (0, .ref r), (2, .ref z0)], [], M24)) rfl rfl rfl ?_
            refine ps_st (S' := (61, [(0, .ref r), (2, .ref z0), (3, .int (nI (k + 2)))], [], M24)) rfl rfl rfl ?_
            exact ih (k + 2) (p'4) (cc + l5.length) (E ++ [(k, p1)]) (it'6) ((upd F1 k (nI (by1 f p1)))) ((upd F2 k (nI p1))) ((upd F3 k (nI cc))) ((upd F4 k (nI l5.length))) ((wr F6 cc l5)) M24 h28 h29 h30 h31 h32 h33 h34 h35 h36 h37 h38 h39 hF40 (tp41) (by obtain ⟨t1, t2, t3⟩ := s_entry_txt q71_s; omega) (by omega) (by omega) (by
                obtain ⟨t1, t2, t3⟩ := s_entry_txt q71_s
                refine hP.add (k' := k + 2) (p := p1) (by omega) (by omega) (fun j hj => updq_ne hj) (fun j hj => updq_ne hj) (fun j hj => wr_lo hj) ⟨updq_at, updq_at, fun _ => ⟨_, cc, t2, updq_at, updq_at, Nat.le_refl _, fun i hi => wr_in hi⟩, fun h7 => by omega⟩) (by
                rw [← hs, s_ents_step (by omega) q71_s, if_pos (by omega)]) (by
                obtain ⟨t1, t2, t3⟩ := s_entry_txt q71_s
                rw [chL_app, hcs, if_pos t1, t2]
                first | done | rfl)
          · skip
            obtain ⟨q82_n, rfl, f42⟩ := q25
            have h44 := (f42.1 r (by simp)).trans h9
            have h45 := (f42.1 b (by simp)).trans h17
            have h46 := (f42.1 da (by simp)).trans h18
            have h47 := (f42.1 vd (by simp)).trans h10
            have h48 := (f42.1 c (by simp)).trans h19
            have h49 := (f42.1 z0 (by simp)).trans h11
            have h50 := (f42.1 (z0 + 1) (by simp)).trans h7
            have h51 := (f42.1 (z0 + 2) (by simp)).trans h8
            have h52 := (f42.1 (z0 + 3) (by simp)).trans h12
            have h53 := (f42.1 (z0 + 4) (by simp)).trans h13
            have h54 := (f42.1 (z0 + 5) (by simp)).trans h20
            have h55 := (f42.1 (z0 + 6) (by simp)).trans h14
            have hF56 := hF21.trf f42 (by intro z hz; simp only [List.mem_cons, List.not_mem_nil, or_false] at hz ⊢; try omega)
            have tp57 : M24.2.1 = z0 + 7 := by rw [f42.2]; exact tp22
            show pl _ _ _ (85, [(0, .ref r), (2, .ref z0), (3, .int (nI k))], [.int 0, .int (nI k)], M24) _
            refine ps_if (S1 := (92, [(0, .ref r), (2, .ref z0), (3, .int (nI k))], [.int (nI k)], M24)) (S2 := (88, [(0, .ref r), (2, .ref z0), (3, .int (nI k))], [.int (nI k)], M24)) rfl rfl rfl (fun c_85 => ?_) (fun c_85 => ?_)
            rotate_left
            · exact absurd (by decide) (of_decide_eq_false c_85)
            refine ps_st (S' := (93, [(0, .ref r), (2, .ref z0)], [.int 1, .int (nI k)], M24)) rfl rfl rfl ?_
            refine ps_st (S' := (94, [(0, .ref r), (2, .ref z0)], [.int ((nI k) + 1)], M24)) rfl rfl rfl ?_
            rw [nI_add1 (p := k) (k := 1) (x := 1) rfl (by omega)]
            show pl _ _ _ (_, [(0, .ref r), (2, .ref z0)], [.int (nI (k + 1))], M24) _
            refine ps_st (S' := (95, [(3, .int (nI (k + 1))), (0, .ref r), (2, .ref z0)], [], M24)) rfl rfl rfl ?_
            refine ps_st (S' := (61, [(0, .ref r), (2, .ref z0), (3, .int (nI (k + 1)))], [], M24)) rfl rfl rfl ?_
            exact ih (k + 1) (p'4) (cc + l5.length) (E ++ [(k, p1)]) (it'6) ((upd F1 k (nI (by1 f p1)))) ((upd F2 k (nI p1))) ((upd F3 k (nI cc))) ((upd F4 k (nI l5.length))) ((wr F6 cc l5)) M24 h44 h45 h46 h47 h48 h49 h50 h51 h52 h53 h54 h55 hF56 (tp57) (by obtain ⟨t1, t2, t3⟩ := s_entry_txt q71_s; omega) (by omega) (by omega) (by
                obtain ⟨t1, t2, t3⟩ := s_entry_txt q71_s
                refine hP.add (k' := k + 1) (p := p1) (by omega) (by omega) (fun j hj => updq_ne hj) (fun j hj => updq_ne hj) (fun j hj => wr_lo hj) ⟨updq_at, updq_at, fun _ => ⟨_, cc, t2, updq_at, updq_at, Nat.le_refl _, fun i hi => wr_in hi⟩, fun h7 => by omega⟩) (by
                rw [← hs, s_ents_step (by omega) q71_s, if_neg (by omega)]) (by
                obtain ⟨t1, t2, t3⟩ := s_entry_txt q71_s
                rw [chL_app, hcs, if_pos t1, t2]
                first | done | rfl)
        · skip
          obtain ⟨p'58, it'59, q71_s, q71_e, rfl, h60, h61, h62, h63, h64, h65, h66, h67, f68⟩ := q3
          have h70 := (f68.1 b (nin8 (ob_ne hl_b hl_r (by decide)) (ob_ne hl_b hl_vd (by decide)) (show b ≠ z0 by omega) (show b ≠ (z0 + 1) by omega) (show b ≠ (z0 + 2) by omega) (show b ≠ (z0 + 3) by omega) (show b ≠ (z0 + 4) by omega) (show b ≠ (z0 + 6) by omega))).trans hl_b
          have h71 := (f68.1 da (nin8 (Ne.symm (ob_ar hl_r hl_da)) (Ne.symm (ob_ar hl_vd hl_da)) (show da ≠ z0 by omega) (show da ≠ (z0 + 1) by omega) (show da ≠ (z0 + 2) by omega) (show da ≠ (z0 + 3) by omega) (show da ≠ (z0 + 4) by omega) (show da ≠ (z0 + 6) by omega))).trans hl_da
          have h72 := (f68.1 c (nin8 (ob_ne hl_c hl_r (by decide)) (ob_ne hl_c hl_vd (by decide)) (show c ≠ z0 by omega) (show c ≠ (z0 + 1) by omega) (show c ≠ (z0 + 2) by omega) (show c ≠ (z0 + 3) by omega) (show c ≠ (z0 + 4) by omega) (show c ≠ (z0 + 6) by omega))).trans hl_c
          have h73 := (f68.1 (z0 + 5) (nin8 (show (z0 + 5) ≠ r by omega) (show (z0 + 5) ≠ vd by omega) (show (z0 + 5) ≠ z0 by omega) (show (z0 + 5) ≠ (z0 + 1) by omega) (show (z0 + 5) ≠ (z0 + 2) by omega) (show (z0 + 5) ≠ (z0 + 3) by omega) (show (z0 + 5) ≠ (z0 + 4) by omega) (show (z0 + 5) ≠ (z0 + 6) by omega))).trans hl_z0___5
          have hF74 := hF1.trf f68 (by intro z hz; simp only [List.mem_cons, List.not_mem_nil, or_false] at hz ⊢; try omega)
          have tp75 : M2.2.1 = z0 + 7 := by rw [f68.2]; exact tp1
          show pl _ _ _ (74, [(0, .ref r), (2, .ref z0), (3, .int (nI k))], [.int 1], M2) _
          refine ps_if (S1 := (79, [(0, .ref r), (2, .ref z0), (3, .int (nI k))], [], M2)) (S2 := (77, [(0, .ref r), (2, .ref z0), (3, .int (nI k))], [], M2)) rfl rfl rfl (fun c_74 => ?_) (fun c_74 => ?_)
          rotate_left
          · exact absurd (by decide) (of_decide_eq_false c_74)
          refine ps_st (S' := (80, [(0, .ref r), (2, .ref z0), (3, .int (nI k))], [.int (nI k)], M2)) rfl rfl rfl ?_
          refine ps_st (S' := (81, [(0, .ref r), (2, .ref z0), (3, .int (nI k))], [.ref z0, .int (nI k)], M2)) rfl rfl rfl ?_
          refine ps_st (S' := (82, [(0, .ref r), (2, .ref z0), (3, .int (nI k))], [.int (nI k), .ref z0, .int (nI k)], M2)) rfl rfl rfl ?_
          refine pl_call (a := [.ref z0, .int (nI k)]) (rest := [.int (nI k)]) rfl rfl rfl (dx_isWide h64 h60 (by unfold hldC; omega) (by unfold hldC; omega) (updq_at) (by1_lt _ _)) (fun v76 M77 q78 => ?_)
          rcases q78 with q78 | q78
          · skip
            obtain ⟨q82_y, rfl, f79⟩ := q78
            have h81 := (f79.1 r (by simp)).trans h62
            have h82 := (f79.1 b (by simp)).trans h70
            have h83 := (f79.1 da (by simp)).trans h71
            have h84 := (f79.1 vd (by simp)).trans h63
            have h85 := (f79.1 c (by simp)).trans h72
            have h86 := (f79.1 z0 (by simp)).trans h64
            have h87 := (f79.1 (z0 + 1) (by simp)).trans h60
            have h88 := (f79.1 (z0 + 2) (by simp)).trans h61
            have h89 := (f79.1 (z0 + 3) (by simp)).trans h65
            have h90 := (f79.1 (z0 + 4) (by simp)).trans h66
            have h91 := (f79.1 (z0 + 5) (by simp)).trans h73
            have h92 := (f79.1 (z0 + 6) (by simp)).trans h67
            have hF93 := hF74.trf f79 (by intro z hz; simp only [List.mem_cons, List.not_mem_nil, or_false] at hz ⊢; try omega)
            have tp94 : M77.2.1 = z0 + 7 := by rw [f79.2]; exact tp75
            show pl _ _ _ (85, [(0, .ref r), (2, .ref z0), (3, .int (nI k))], [.int 1, .int (nI k)], M77) _
            refine ps_if (S1 := (92, [(0, .ref r), (2, .ref z0), (3, .int (nI k))], [.int (nI k)], M77)) (S2 := (88, [(0, .ref r), (2, .ref z0), (3, .int (nI k))], [.int (nI k)], M77)) rfl rfl rfl (fun c_85 => ?_) (fun c_85 => ?_)
            · exact absurd (of_decide_eq_true c_85) (by decide)
            refine ps_st (S' := (89, [(0, .ref r), (2, .ref z0), (3, .int (nI k))], [.int 2, .int (nI k)], M77)) rfl rfl rfl ?_
            refine ps_st (S' := (93, [(0, .ref r), (2, .ref z0)], [.int 2, .int (nI k)], M77)) rfl rfl rfl ?_
            refine ps_st (S' := (94, [(0, .ref r), (2, .ref z0)], [.int ((nI k) + 2)], M77)) rfl rfl rfl ?_
            rw [nI_add1 (p := k) (k := 2) (x := 2) rfl (by omega)]
            show pl _ _ _ (_, [(0, .ref r), (2, .ref z0)], [.int (nI (k + 2))], M77) _
            refine ps_st (S' := (95, [(3, .int (nI (k + 2))), (0, .ref r), (2, .ref z0)], [], M77)) rfl rfl rfl ?_
            refine ps_st (S' := (61, [(0, .ref r), (2, .ref z0), (3, .int (nI (k + 2)))], [], M77)) rfl rfl rfl ?_
            exact ih (k + 2) (p'58) (cc) (E ++ [(k, p1)]) (it'59) ((upd F1 k (nI (by1 f p1)))) ((upd F2 k (nI p1))) (F3) (F4) (F6) M77 h81 h82 h83 h84 h85 h86 h87 h88 h89 h90 h91 h92 hF93 (tp94) (by have t1 := s_entry_pl q71_s; omega) (by omega) (by omega) (by
                have t1 := s_entry_pl q71_s
                refine hP.add (k' := k + 2) (p := p1) (by omega) (by omega) (fun j hj => rfl) (fun j hj => rfl) (fun j hj => rfl) ⟨updq_at, updq_at, fun h1 => by omega, fun h7 => by omega⟩) (by
                rw [← hs, s_ents_step (by omega) q71_s, if_pos (by omega)]) (by
                have t1 := s_entry_pl q71_s
                rw [chL_app, hcs, if_neg (by omega)]
                first | done | rfl)
          · skip
            obtain ⟨q82_n, rfl, f95⟩ := q78
            have h97 := (f95.1 r (by simp)).trans h62
            have h98 := (f95.1 b (by simp)).trans h70
            have h99 := (f95.1 da (by simp)).trans h71
            have h100 := (f95.1 vd (by simp)).trans h63
            have h101 := (f95.1 c (by simp)).trans h72
            have h102 := (f95.1 z0 (by simp)).trans h64
            have h103 := (f95.1 (z0 + 1) (by simp)).trans h60
            have h104 := (f95.1 (z0 + 2) (by simp)).trans h61
            have h105 := (f95.1 (z0 + 3) (by simp)).trans h65
            have h106 := (f95.1 (z0 + 4) (by simp)).trans h66
            have h107 := (f95.1 (z0 + 5) (by simp)).trans h73
            have h108 := (f95.1 (z0 + 6) (by simp)).trans h67
            have hF109 := hF74.trf f95 (by intro z hz; simp only [List.mem_cons, List.not_mem_nil, or_false] at hz ⊢; try omega)
            have tp110 : M77.2.1 = z0 + 7 := by rw [f95.2]; exact tp75
            show pl _ _ _ (85, [(0, .ref r), (2, .ref z0), (3, .int (nI k))], [.int 0, .int (nI k)], M77) _
            refine ps_if (S1 := (92, [(0, .ref r), (2, .ref z0), (3, .int (nI k))], [.int (nI k)], M77)) (S2 := (88, [(0, .ref r), (2, .ref z0), (3, .int (nI k))], [.int (nI k)], M77)) rfl rfl rfl (fun c_85 => ?_) (fun c_85 => ?_)
            rotate_left
            · exact absurd (by decide) (of_decide_eq_false c_85)
            refine ps_st (S' := (93, [(0, .ref r), (2, .ref z0)], [.int 1, .int (nI k)], M77)) rfl rfl rfl ?_
            refine ps_st (S' := (94, [(0, .ref r), (2, .ref z0)], [.int ((nI k) + 1)], M77)) rfl rfl rfl ?_
            rw [nI_add1 (p := k) (k := 1) (x := 1) rfl (by omega)]
            show pl _ _ _ (_, [(0, .ref r), (2, .ref z0)], [.int (nI (k + 1))], M77) _
            refine ps_st (S' := (95, [(3, .int (nI (k + 1))), (0, .ref r), (2, .ref z0)], [], M77)) rfl rfl rfl ?_
            refine ps_st (S' := (61, [(0, .ref r), (2, .ref z0), (3, .int (nI (k + 1)))], [], M77)) rfl rfl rfl ?_
            exact ih (k + 1) (p'58) (cc) (E ++ [(k, p1)]) (it'59) ((upd F1 k (nI (by1 f p1)))) ((upd F2 k (nI p1))) (F3) (F4) (F6) M77 h97 h98 h99 h100 h101 h102 h103 h104 h105 h106 h107 h108 hF109 (tp110) (by have t1 := s_entry_pl q71_s; omega) (by omega) (by omega) (by
                have t1 := s_entry_pl q71_s
                refine hP.add (k' := k + 1) (p := p1) (by omega) (by omega) (fun j hj => rfl) (fun j hj => rfl) (fun j hj => rfl) ⟨updq_at, updq_at, fun h1 => by omega, fun h7 => by omega⟩) (by
                rw [← hs, s_ents_step (by omega) q71_s, if_neg (by omega)]) (by
                have t1 := s_entry_pl q71_s
                rw [chL_app, hcs, if_neg (by omega)]
                first | done | rfl)
        · skip
          obtain ⟨p'111, x112, y113, it'114, q71_s, q71_e, rfl, h115, h116, h117, h118, h119, h120, h121, h122, f123⟩ := q3
          have h125 := (f123.1 b (nin8 (ob_ne hl_b hl_r (by decide)) (ob_ne hl_b hl_vd (by decide)) (show b ≠ z0 by omega) (show b ≠ (z0 + 1) by omega) (show b ≠ (z0 + 2) by omega) (show b ≠ (z0 + 3) by omega) (show b ≠ (z0 + 4) by omega) (show b ≠ (z0 + 6) by omega))).trans hl_b
          have h126 := (f123.1 da (nin8 (Ne.symm (ob_ar hl_r hl_da)) (Ne.symm (ob_ar hl_vd hl_da)) (show da ≠ z0 by omega) (show da ≠ (z0 + 1) by omega) (show da ≠ (z0 + 2) by omega) (show da ≠ (z0 + 3) by omega) (show da ≠ (z0 + 4) by omega) (show da ≠ (z0 + 6) by omega))).trans hl_da
          have h127 := (f123.1 c (nin8 (ob_ne hl_c hl_r (by decide)) (ob_ne hl_c hl_vd (by decide)) (show c ≠ z0 by omega) (show c ≠ (z0 + 1) by omega) (show c ≠ (z0 + 2) by omega) (show c ≠ (z0 + 3) by omega) (show c ≠ (z0 + 4) by omega) (show c ≠ (z0 + 6) by omega))).trans hl_c
          have h128 := (f123.1 (z0 + 5) (nin8 (show (z0 + 5) ≠ r by omega) (show (z0 + 5) ≠ vd by omega) (show (z0 + 5) ≠ z0 by omega) (show (z0 + 5) ≠ (z0 + 1) by omega) (show (z0 + 5) ≠ (z0 + 2) by omega) (show (z0 + 5) ≠ (z0 + 3) by omega) (show (z0 + 5) ≠ (z0 + 4) by omega) (show (z0 + 5) ≠ (z0 + 6) by omega))).trans hl_z0___5
          have hF129 := hF1.trf f123 (by intro z hz; simp only [List.mem_cons, List.not_mem_nil, or_false] at hz ⊢; try omega)
          have tp130 : M2.2.1 = z0 + 7 := by rw [f123.2]; exact tp1
          show pl _ _ _ (74, [(0, .ref r), (2, .ref z0), (3, .int (nI k))], [.int 1], M2) _
          refine ps_if (S1 := (79, [(0, .ref r), (2, .ref z0), (3, .int (nI k))], [], M2)) (S2 := (77, [(0, .ref r), (2, .ref z0), (3, .int (nI k))], [], M2)) rfl rfl rfl (fun c_74 => ?_) (fun c_74 => ?_)
          rotate_left
          · exact absurd (by decide) (of_decide_eq_false c_74)
          refine ps_st (S' := (80, [(0, .ref r), (2, .ref z0), (3, .int (nI k))], [.int (nI k)], M2)) rfl rfl rfl ?_
          refine ps_st (S' := (81, [(0, .ref r), (2, .ref z0), (3, .int (nI k))], [.ref z0, .int (nI k)], M2)) rfl rfl rfl ?_
          refine ps_st (S' := (82, [(0, .ref r), (2, .ref z0), (3, .int (nI k))], [.int (nI k), .ref z0, .int (nI k)], M2)) rfl rfl rfl ?_
          refine pl_call (a := [.ref z0, .int (nI k)]) (rest := [.int (nI k)]) rfl rfl rfl (dx_isWide h119 h115 (by unfold hldC; omega) (by unfold hldC; omega) (updq_at) (by1_lt _ _)) (fun v131 M132 q133 => ?_)
          rcases q133 with q133 | q133
          · skip
            obtain ⟨q82_y, rfl, f134⟩ := q133
            have h136 := (f134.1 r (by simp)).trans h117
            have h137 := (f134.1 b (by simp)).trans h125
            have h138 := (f134.1 da (by simp)).trans h126
            have h139 := (f134.1 vd (by simp)).trans h118
            have h140 := (f134.1 c (by simp)).trans h127
            have h141 := (f134.1 z0 (by simp)).trans h119
            have h142 := (f134.1 (z0 + 1) (by simp)).trans h115
            have h143 := (f134.1 (z0 + 2) (by simp)).trans h116
            have h144 := (f134.1 (z0 + 3) (by simp)).trans h120
            have h145 := (f134.1 (z0 + 4) (by simp)).trans h121
            have h146 := (f134.1 (z0 + 5) (by simp)).trans h128
            have h147 := (f134.1 (z0 + 6) (by simp)).trans h122
            have hF148 := hF129.trf f134 (by intro z hz; simp only [List.mem_cons, List.not_mem_nil, or_false] at hz ⊢; try omega)
            have tp149 : M132.2.1 = z0 + 7 := by rw [f134.2]; exact tp130
            show pl _ _ _ (85, [(0, .ref r), (2, .ref z0), (3, .int (nI k))], [.int 1, .int (nI k)], M132) _
            refine ps_if (S1 := (92, [(0, .ref r), (2, .ref z0), (3, .int (nI k))], [.int (nI k)], M132)) (S2 := (88, [(0, .ref r), (2, .ref z0), (3, .int (nI k))], [.int (nI k)], M132)) rfl rfl rfl (fun c_85 => ?_) (fun c_85 => ?_)
            · exact absurd (of_decide_eq_true c_85) (by decide)
            refine ps_st (S' := (89, [(0, .ref r), (2, .ref z0), (3, .int (nI k))], [.int 2, .int (nI k)], M132)) rfl rfl rfl ?_
            refine ps_st (S' := (93, [(0, .ref r), (2, .ref z0)], [.int 2, .int (nI k)], M132)) rfl rfl rfl ?_
            refine ps_st (S' := (94, [(0, .ref r), (2, .ref z0)], [.int ((nI k) + 2)], M132)) rfl rfl rfl ?_
            rw [nI_add1 (p := k) (k := 2) (x := 2) rfl (by omega)]
            show pl _ _ _ (_, [(0, .ref r), (2, .ref z0)], [.int (nI (k + 2))], M132) _
            refine ps_st (S' := (95, [(3, .int (nI (k + 2))), (0, .ref r), (2, .ref z0)], [], M132)) rfl rfl rfl ?_
            refine ps_st (S' := (61, [(0, .ref r), (2, .ref z0), (3, .int (nI (k + 2)))], [], M132)) rfl rfl rfl ?_
            exact ih (k + 2) (p'111) (cc) (E ++ [(k, p1)]) (it'114) ((upd F1 k (nI (by1 f p1)))) ((upd F2 k (nI p1))) ((upd F3 k (nI x112))) ((upd F4 k (nI y113))) (F6) M132 h136 h137 h138 h139 h140 h141 h142 h143 h144 h145 h146 h147 hF148 (tp149) (by obtain ⟨t1, t2⟩ := s_entry_ix q71_s; omega) (by omega) (by omega) (by
                obtain ⟨t1, t2⟩ := s_entry_ix q71_s
                refine hP.add (k' := k + 2) (p := p1) (by omega) (by omega) (fun j hj => updq_ne hj) (fun j hj => updq_ne hj) (fun j hj => rfl) ⟨updq_at, updq_at, fun h1 => by omega, fun h7 => ⟨_, _, _, t1, updq_at, updq_at⟩⟩) (by
                rw [← hs, s_ents_step (by omega) q71_s, if_pos (by omega)]) (by
                obtain ⟨t1, t2⟩ := s_entry_ix q71_s
                rw [chL_app, hcs, if_neg (by omega)]
                first | done | rfl)
          · skip
            obtain ⟨q82_n, rfl, f150⟩ := q133
            have h152 := (f150.1 r (by simp)).trans h117
            have h153 := (f150.1 b (by simp)).trans h125
            have h154 := (f150.1 da (by simp)).trans h126
            have h155 := (f150.1 vd (by simp)).trans h118
            have h156 := (f150.1 c (by simp)).trans h127
            have h157 := (f150.1 z0 (by simp)).trans h119
            have h158 := (f150.1 (z0 + 1) (by simp)).trans h115
            have h159 := (f150.1 (z0 + 2) (by simp)).trans h116
            have h160 := (f150.1 (z0 + 3) (by simp)).trans h120
            have h161 := (f150.1 (z0 + 4) (by simp)).trans h121
            have h162 := (f150.1 (z0 + 5) (by simp)).trans h128
            have h163 := (f150.1 (z0 + 6) (by simp)).trans h122
            have hF164 := hF129.trf f150 (by intro z hz; simp only [List.mem_cons, List.not_mem_nil, or_false] at hz ⊢; try omega)
            have tp165 : M132.2.1 = z0 + 7 := by rw [f150.2]; exact tp130
            show pl _ _ _ (85, [(0, .ref r), (2, .ref z0), (3, .int (nI k))], [.int 0, .int (nI k)], M132) _
            refine ps_if (S1 := (92, [(0, .ref r), (2, .ref z0), (3, .int (nI k))], [.int (nI k)], M132)) (S2 := (88, [(0, .ref r), (2, .ref z0), (3, .int (nI k))], [.int (nI k)], M132)) rfl rfl rfl (fun c_85 => ?_) (fun c_85 => ?_)
            rotate_left
            · exact absurd (by decide) (of_decide_eq_false c_85)
            refine ps_st (S' := (93, [(0, .ref r), (2, .ref z0)], [.int 1, .int (nI k)], M132)) rfl rfl rfl ?_
            refine ps_st (S' := (94, [(0, .ref r), (2, .ref z0)], [.int ((nI k) + 1)], M132)) rfl rfl rfl ?_
            rw [nI_add1 (p := k) (k := 1) (x := 1) rfl (by omega)]
            show pl _ _ _ (_, [(0, .ref r), (2, .ref z0)], [.int (nI (k + 1))], M132) _
            refine ps_st (S' := (95, [(3, .int (nI (k + 1))), (0, .ref r), (2, .ref z0)], [], M132)) rfl rfl rfl ?_
            refine ps_st (S' := (61, [(0, .ref r), (2, .ref z0), (3, .int (nI (k + 1)))], [], M132)) rfl rfl rfl ?_
            exact ih (k + 1) (p'111) (cc) (E ++ [(k, p1)]) (it'114) ((upd F1 k (nI (by1 f p1)))) ((upd F2 k (nI p1))) ((upd F3 k (nI x112))) ((upd F4 k (nI y113))) (F6) M132 h152 h153 h154 h155 h156 h157 h158 h159 h160 h161 h162 h163 hF164 (tp165) (by obtain ⟨t1, t2⟩ := s_entry_ix q71_s; omega) (by omega) (by omega) (by
                obtain ⟨t1, t2⟩ := s_entry_ix q71_s
                refine hP.add (k' := k + 1) (p := p1) (by omega) (by omega) (fun j hj => updq_ne hj) (fun j hj => updq_ne hj) (fun j hj => rfl) ⟨updq_at, updq_at, fun h1 => by omega, fun h7 => ⟨_, _, _, t1, updq_at, updq_at⟩⟩) (by
                rw [← hs, s_ents_step (by omega) q71_s, if_neg (by omega)]) (by
                obtain ⟨t1, t2⟩ := s_entry_ix q71_s
                rw [chL_app, hcs, if_neg (by omega)]
                first | done | rfl)
        · skip
          obtain ⟨e166, q71_s, rfl, h167, f168⟩ := q3
          have h170 := (f168.1 b (nin8 (ob_ne hl_b hl_r (by decide)) (ob_ne hl_b hl_vd (by decide)) (show b ≠ z0 by omega) (show b ≠ (z0 + 1) by omega) (show b ≠ (z0 + 2) by omega) (show b ≠ (z0 + 3) by omega) (show b ≠ (z0 + 4) by omega) (show b ≠ (z0 + 6) by omega))).trans hl_b
          have h171 := (f168.1 da (nin8 (Ne.symm (ob_ar hl_r hl_da)) (Ne.symm (ob_ar hl_vd hl_da)) (show da ≠ z0 by omega) (show da ≠ (z0 + 1) by omega) (show da ≠ (z0 + 2) by omega) (show da ≠ (z0 + 3) by omega) (show da ≠ (z0 + 4) by omega) (show da ≠ (z0 + 6) by omega))).trans hl_da
          have h172 := (f168.1 c (nin8 (ob_ne hl_c hl_r (by decide)) (ob_ne hl_c hl_vd (by decide)) (show c ≠ z0 by omega) (show c ≠ (z0 + 1) by omega) (show c ≠ (z0 + 2) by omega) (show c ≠ (z0 + 3) by omega) (show c ≠ (z0 + 4) by omega) (show c ≠ (z0 + 6) by omega))).trans hl_c
          have h173 := (f168.1 (z0 + 5) (nin8 (show (z0 + 5) ≠ r by omega) (show (z0 + 5) ≠ vd by omega) (show (z0 + 5) ≠ z0 by omega) (show (z0 + 5) ≠ (z0 + 1) by omega) (show (z0 + 5) ≠ (z0 + 2) by omega) (show (z0 + 5) ≠ (z0 + 3) by omega) (show (z0 + 5) ≠ (z0 + 4) by omega) (show (z0 + 5) ≠ (z0 + 6) by omega))).trans hl_z0___5
          have hF174 := hF1.trf f168 (by intro z hz; simp only [List.mem_cons, List.not_mem_nil, or_false] at hz ⊢; try omega)
          have tp175 : M2.2.1 = z0 + 7 := by rw [f168.2]; exact tp1
          show pl _ _ _ (74, [(0, .ref r), (2, .ref z0), (3, .int (nI k))], [.int 0], M2) _
          refine ps_if (S1 := (79, [(0, .ref r), (2, .ref z0), (3, .int (nI k))], [], M2)) (S2 := (77, [(0, .ref r), (2, .ref z0), (3, .int (nI k))], [], M2)) rfl rfl rfl (fun c_74 => ?_) (fun c_74 => ?_)
          · exact absurd (of_decide_eq_true c_74) (by decide)
          refine ps_st (S' := (78, [(0, .ref r), (2, .ref z0), (3, .int (nI k))], [.int 0], M2)) rfl rfl rfl ?_
          exact ps_ret rfl rfl (Or.inr ⟨_, by
              unfold s_pool
              rw [if_neg (by omega), if_neg (by omega), ← hs]
              exact s_ents_bad (by omega) q71_s, rfl, h167, hF174, hF174.2⟩)
  refine ps_st (S' := (1, [(0, .ref r)], [.ref r], M)) rfl rfl rfl ?_
  refine ps_get (S' := (4, [(0, .ref r)], [.int (nI 8)], M)) rfl h_r rfl rfl ?_
  refine ps_st (S' := (5, [(1, .int (nI 8)), (0, .ref r)], [], M)) rfl rfl rfl ?_
  refine ps_st (S' := (6, [(1, .int (nI 8)), (0, .ref r)], [.ref r], M)) rfl rfl rfl ?_
  refine ps_st (S' := (7, [(1, .int (nI 8)), (0, .ref r)], [.int 2, .ref r], M)) rfl rfl rfl ?_
  refine pl_call (a := [.ref r, .int 2]) (rest := []) rfl rfl rfl (dx_takes2 h_r h_b h_da h_vd (hn) (by omega)) (fun v176 M177 q178 => ?_)
  rcases q178 with q178 | q178
  · skip
    obtain ⟨q7_ok, rfl, h179, h180, f181⟩ := q178
    have h183 := (f181.1 b (nin2 (ob_ne h_b h_r (by decide)) (ob_ne h_b h_vd (by decide)))).trans h_b
    have h184 := (f181.1 da (nin2 (Ne.symm (ob_ar h_r h_da)) (Ne.symm (ob_ar h_vd h_da)))).trans h_da
    have h185 := (f181.1 c (nin2 (ob_ne h_c h_r (by decide)) (ob_ne h_c h_vd (by decide)))).trans h_c
    have hF186 := hF.trf f181 (by intro z hz; simp only [List.mem_cons, List.not_mem_nil, or_false] at hz ⊢; try omega)
    have tp187 : M177.2.1 = z0 := by rw [f181.2]; exact tp0
    show pl _ _ _ (10, [(1, .int (nI 8)), (0, .ref r)], [.int 1], M177) _
    refine ps_if (S1 := (15, [(1, .int (nI 8)), (0, .ref r)], [], M177)) (S2 := (13, [(1, .int (nI 8)), (0, .ref r)], [], M177)) rfl rfl rfl (fun c_10 => ?_) (fun c_10 => ?_)
    rotate_left
    · exact absurd (by decide) (of_decide_eq_false c_10)
    refine ps_st (S' := (16, [(1, .int (nI 8)), (0, .ref r)], [.ref r], M177)) rfl rfl rfl ?_
    refine ps_get (S' := (19, [(1, .int (nI 8)), (0, .ref r)], [.int (nI (by2 f 8))], M177)) rfl h179 rfl rfl ?_
    refine ps_if (S1 := (32, [(1, .int (nI 8)), (0, .ref r)], [], M177)) (S2 := (22, [(1, .int (nI 8)), (0, .ref r)], [], M177)) rfl rfl rfl (fun c_19 => ?_) (fun c_19 => ?_)
    · have c_19 : ¬ (nI (by2 f 8)) = 0 := of_decide_eq_true c_19
      have n_19 : ¬ (by2 f 8 = 0) := fun h9 => c_19 ((eq_nI (p := by2 f 8) (n := 0) (Nat.lt_trans (by2_lt _ _) (by decide)) (by decide)).mpr h9)
      refine ps_newz rfl tp187 (fun M188 h189 f190 tp191 => ?_)
      have h192 := (f190 r (show r ≠ z0 by omega)).trans h179
      have h193 := (f190 b (show b ≠ z0 by omega)).trans h183
      have h194 := (f190 da (show da ≠ z0 by omega)).trans h184
      have h195 := (f190 vd (show vd ≠ z0 by omega)).trans h180
      have h196 := (f190 c (show c ≠ z0 by omega)).trans h185
      have hF197 := hF186.up (Or.inr (by omega)) f190 (by omega)
      show pl _ _ _ (35, [(1, .int (nI 8)), (0, .ref r)], [.ref z0], M188) _
      refine ps_st (S' := (36, [(1, .int (nI 8)), (0, .ref r)], [.ref z0, .ref z0], M188)) rfl rfl rfl ?_
      refine ps_st (S' := (37, [(1, .int (nI 8)), (0, .ref r)], [.ref r, .ref z0, .ref z0], M188)) rfl rfl rfl ?_
      refine ps_get (S' := (40, [(1, .int (nI 8)), (0, .ref r)], [.int (nI (by2 f 8)), .ref z0, .ref z0], M188)) rfl h192 rfl rfl ?_
      refine ps_st (S' := (41, [(1, .int (nI 8)), (0, .ref r)], [.ref r, .int (nI (by2 f 8)), .ref z0, .ref z0], M188)) rfl rfl rfl ?_
      refine ps_get (S' := (44, [(1, .int (nI 8)), (0, .ref r)], [.ref b, .int (nI (by2 f 8)), .ref z0, .ref z0], M188)) rfl h192 rfl rfl ?_
      refine pl_call (a := [.ref b]) (rest := [.int (nI (by2 f 8)), .ref z0, .ref z0]) rfl rfl rfl (dx_size h193 h194 (hn)) (fun v198 M199 q200 => ?_)
      obtain ⟨rfl, f201⟩ := q200
      have h203 := (f201.1 r (by simp)).trans h192
      have h204 := (f201.1 b (by simp)).trans h193
      have h205 := (f201.1 da (by simp)).trans h194
      have h206 := (f201.1 vd (by simp)).trans h195
      have h207 := (f201.1 c (by simp)).trans h196
      have h208 := (f201.1 z0 (by simp)).trans h189
      have hF209 := hF197.trf f201 (by intro z hz; simp only [List.mem_cons, List.not_mem_nil, or_false] at hz ⊢; try omega)
      have tp210 : M199.2.1 = z0 + 1 := by rw [f201.2]; exact tp191
      show pl _ _ _ (47, [(1, .int (nI 8)), (0, .ref r)], [.int (sp_size n f ), .int (nI (by2 f 8)), .ref z0, .ref z0], M199) _
      refine pl_call (a := [.ref z0, .int (nI (by2 f 8)), .int (sp_size n f )]) (rest := [.ref z0]) rfl rfl rfl (dx_pool h208 (by omega) (by2_lt _ _) (hn)) (fun v211 M212 q213 => ?_)
      obtain ⟨rfl, h214, h215, h216, h217, h218, h219, h220, f221, tp222⟩ := q213
      rw [tp210] at h214 h215 h216 h217 h218 h219 h220 tp222
      have h223 := (f221.1 r (by omega) (nin1 (show r ≠ z0 by omega))).trans h203
      have h224 := (f221.1 b (by omega) (nin1 (show b ≠ z0 by omega))).trans h204
      have h225 := (f221.1 da (by omega) (nin1 (show da ≠ z0 by omega))).trans h205
      have h226 := (f221.1 vd (by omega) (nin1 (show vd ≠ z0 by omega))).trans h206
      have h227 := (f221.1 c (by omega) (nin1 (show c ≠ z0 by omega))).trans h207
      have hF228 := hF209.tr f221 (by intro z hz; simp only [List.mem_cons, List.not_mem_nil, or_false] at hz ⊢; try omega)
      show pl _ _ _ (50, [(1, .int (nI 8)), (0, .ref r)], [.ref z0], M212) _
      refine ps_st (S' := (51, [(2, .ref z0), (1, .int (nI 8)), (0, .ref r)], [], M212)) rfl rfl rfl ?_
      refine ps_st (S' := (52, [(2, .ref z0), (1, .int (nI 8)), (0, .ref r)], [.ref r], M212)) rfl rfl rfl ?_
      refine ps_get (S' := (55, [(2, .ref z0), (1, .int (nI 8)), (0, .ref r)], [.ref c], M212)) rfl h223 rfl rfl ?_
      refine ps_st (S' := (56, [(2, .ref z0), (1, .int (nI 8)), (0, .ref r)], [.ref z0, .ref c], M212)) rfl rfl rfl ?_
      refine ps_put (l' := [.ref b, .ref z0, .int mi, .int (nI mj), .int fa, .int ic, u6, u7, .int ac, .int aa, .int k1, .int k2, .int k3, .int k4, .int k5, .int k6, .int k7]) rfl h227 rfl rfl (fun M229 h230 f231 z232 => ?_)
      have h233 := (f231 r (ob_ne h223 h227 (by decide))).trans h223
      have h234 := (f231 b (ob_ne h224 h227 (by decide))).trans h224
      have h235 := (f231 da (Ne.symm (ob_ar h227 h225))).trans h225
      have h236 := (f231 vd (ob_ne h226 h227 (by decide))).trans h226
      have h237 := (f231 z0 (show z0 ≠ c by omega)).trans h214
      have h238 := (f231 (z0 + 1) (show (z0 + 1) ≠ c by omega)).trans h215
      have h239 := (f231 (z0 + 2) (show (z0 + 2) ≠ c by omega)).trans h216
      have h240 := (f231 (z0 + 3) (show (z0 + 3) ≠ c by omega)).trans h217
      have h241 := (f231 (z0 + 4) (show (z0 + 4) ≠ c by omega)).trans h218
      have h242 := (f231 (z0 + 5) (show (z0 + 5) ≠ c by omega)).trans h219
      have h243 := (f231 (z0 + 6) (show (z0 + 6) ≠ c by omega)).trans h220
      have hF244 := hF228.up (Or.inl (by simp)) f231 (by rw [z232]; exact Nat.le_refl _)
      have tp245 : M229.2.1 = z0 + 7 := by rw [z232]; exact tp222
      show pl _ _ _ (59, [(2, .ref z0), (1, .int (nI 8)), (0, .ref r)], [], M229) _
      refine ps_st (S' := (60, [(2, .ref z0), (1, .int (nI 8)), (0, .ref r)], [.int 1], M229)) rfl rfl rfl ?_
      refine ps_st (S' := (61, [(0, .ref r), (2, .ref z0), (3, .int 1)], [], M229)) rfl rfl rfl ?_
      exact L61 kf (1) (10) (0) ([]) ((nI (by2 f 8))) (fun _ => 0) (fun _ => 0) (fun _ => 0) (fun _ => 0) (fun _ => 0) M229 h233 h234 h235 h236 h230 h237 h238 h239 h240 h241 h242 h243 hF244 (tp245) (by omega) (by omega) (by omega) (⟨fun q hq => by simp at hq, fun j hj => rfl⟩) (rfl) (rfl)
    · have c_19 : ¬ (¬ (nI (by2 f 8)) = 0) := of_decide_eq_false c_19
      have n_19 : by2 f 8 = 0 := (eq_nI (p := by2 f 8) (n := 0) (Nat.lt_trans (by2_lt _ _) (by decide)) (by decide)).mp (Decidable.not_not.mp c_19)
      refine ps_st (S' := (23, [(1, .int (nI 8)), (0, .ref r)], [.ref r], M177)) rfl rfl rfl ?_
      refine ps_get (S' := (26, [(1, .int (nI 8)), (0, .ref r)], [.ref vd], M177)) rfl h179 rfl rfl ?_
      refine ps_st (S' := (27, [(1, .int (nI 8)), (0, .ref r)], [.int 4, .ref vd], M177)) rfl rfl rfl ?_
      refine ps_st (S' := (28, [(1, .int (nI 8)), (0, .ref r)], [.int (nI 8), .int 4, .ref vd], M177)) rfl rfl rfl ?_
      refine pl_call (a := [.ref vd, .int 4, .int (nI 8)]) (rest := []) rfl rfl rfl (dx_wrong h180) (fun v246 M247 q248 => ?_)
      obtain ⟨rfl, h249, f250⟩ := q248
      have h252 := (f250.1 r (nin1 (ob_ne h179 h180 (by decide)))).trans h179
      have h253 := (f250.1 b (nin1 (ob_ne h183 h180 (by decide)))).trans h183
      have h254 := (f250.1 da (nin1 (Ne.symm (ob_ar h180 h184)))).trans h184
      have h255 := (f250.1 c (nin1 (ob_ne h185 h180 (by decide)))).trans h185
      have hF256 := hF186.trf f250 (by intro z hz; simp only [List.mem_cons, List.not_mem_nil, or_false] at hz ⊢; try omega)
      have tp257 : M247.2.1 = z0 := by rw [f250.2]; exact tp187
      show pl _ _ _ (31, [(1, .int (nI 8)), (0, .ref r)], [.int 0], M247) _
      exact ps_ret rfl rfl (Or.inr ⟨(4, 8), by
          unfold s_pool
          rw [if_neg (by omega), if_pos (by omega)], rfl, h249, hF256, hF256.2⟩)
  · skip
    obtain ⟨q7_no, rfl, h258, h259, f260⟩ := q178
    have h262 := (f260.1 b (nin2 (ob_ne h_b h_r (by decide)) (ob_ne h_b h_vd (by decide)))).trans h_b
    have h263 := (f260.1 da (nin2 (Ne.symm (ob_ar h_r h_da)) (Ne.symm (ob_ar h_vd h_da)))).trans h_da
    have h264 := (f260.1 c (nin2 (ob_ne h_c h_r (by decide)) (ob_ne h_c h_vd (by decide)))).trans h_c
    have hF265 := hF.trf f260 (by intro z hz; simp only [List.mem_cons, List.not_mem_nil, or_false] at hz ⊢; try omega)
    have tp266 : M177.2.1 = z0 := by rw [f260.2]; exact tp0
    show pl _ _ _ (10, [(1, .int (nI 8)), (0, .ref r)], [.int 0], M177) _
    refine ps_if (S1 := (15, [(1, .int (nI 8)), (0, .ref r)], [], M177)) (S2 := (13, [(1, .int (nI 8)), (0, .ref r)], [], M177)) rfl rfl rfl (fun c_10 => ?_) (fun c_10 => ?_)
    · exact absurd (of_decide_eq_true c_10) (by decide)
    refine ps_st (S' := (14, [(1, .int (nI 8)), (0, .ref r)], [.int 0], M177)) rfl rfl rfl ?_
    exact ps_ret rfl rfl (Or.inr ⟨(1, 8), by
        unfold s_pool
        rw [if_pos (by omega)], rfl, h259, hF265, hF265.2⟩)
