section
/-! the pool is made and read (laid by wip/p4/d5.py) -/
section CLA
/-- how many characters the texts of these entries have -/
def chE (f : Nat → Int32) (n p : Nat) : Nat := if by1 f p = 1 then (match s_utf f n (p + 1) with | .inr l => l.length | .inl _ => 0) else 0
def chL (f : Nat → Int32) (n : Nat) : List (Nat × Nat) → Nat
  | [] => 0
  | q :: r => chE f n q.2 + chL f n r
theorem chL_app {f : Nat → Int32} {n k p : Nat} : ∀ {E : List (Nat × Nat)}, chL f n (E ++ [(k, p)]) = chL f n E + (if by1 f p = 1 then (match s_utf f n (p + 1) with | .inr l => l.length | .inl _ => 0) else 0) := by
  intro E
  induction E with
  | nil =>
    show chE f n p + 0 = 0 + chE f n p
    omega
  | cons q r ih =>
    show chE f n q.2 + chL f n (r ++ [(k, p)]) = chE f n q.2 + chL f n r + _
    rw [ih]
    omega
end CLA
set_option maxHeartbeats 1000000 in
theorem dx_pool {g : xe_G} {M : mi_H} {pq N n : Nat} (h_pq : M.1 pq = some (ob 7 [.int 0, .null, .null, .null, .null, .null, .null, .int 0])) (hq : pq < M.2.1) (hN : N < 65536) (hn : n ≤ 65540) : pt (mT g) 110 [.ref pq, .int (nI N), .int (nI n)] M (fun v M' => (v = none ∧ M'.1 pq = some (ob 7 [.int (nI N), .ref (M.2.1), .ref (M.2.1 + 1), .ref (M.2.1 + 2), .ref (M.2.1 + 3), .ref (M.2.1 + 4), .ref (M.2.1 + 5), .int 0]) ∧ M'.1 (M.2.1) = some (ar .int (min N (n / 3 + 1)) (fun _ => 0)) ∧ M'.1 (M.2.1 + 1) = some (ar .int (min N (n / 3 + 1)) (fun _ => 0)) ∧ M'.1 (M.2.1 + 2) = some (ar .int (min N (n / 3 + 1)) (fun _ => 0)) ∧ M'.1 (M.2.1 + 3) = some (ar .int (min N (n / 3 + 1)) (fun _ => 0)) ∧ M'.1 (M.2.1 + 4) = some (ar .int (min N (n / 3 + 1)) (fun _ => 0)) ∧ M'.1 (M.2.1 + 5) = some (ar .char n (fun _ => 0)) ∧ gm [pq] M M' ∧ M'.2.1 = M.2.1 + 6)) := by
  refine pt_in (b := mb_110 g) rfl (fun kf => ?_)
  show pl (mT g) kf (mb_110 g).2 (0, [(0, .ref pq), (1, .int (nI N)), (2, .int (nI n))], [], M) _
  have hF : gm [pq] M M := gm.rf
  obtain ⟨z0, tp0⟩ : ∃ z0, M.2.1 = z0 := ⟨_, rfl⟩
  refine ps_st (S' := (1, [(0, .ref pq), (1, .int (nI N)), (2, .int (nI n))], [.ref pq], M)) rfl rfl rfl ?_
  refine ps_st (S' := (4, [(0, .ref pq), (1, .int (nI N)), (2, .int (nI n))], [], M)) rfl rfl rfl ?_
  refine ps_st (S' := (5, [(0, .ref pq), (1, .int (nI N)), (2, .int (nI n))], [.ref pq], M)) rfl rfl rfl ?_
  refine ps_st (S' := (6, [(0, .ref pq), (1, .int (nI N)), (2, .int (nI n))], [.int (nI N), .ref pq], M)) rfl rfl rfl ?_
  refine ps_put (l' := [.int (nI N), .null, .null, .null, .null, .null, .null, .int 0]) rfl h_pq rfl rfl (fun M1 h2 f3 z4 => ?_)
  have hF5 := hF.up (Or.inl (by simp)) f3 (by rw [z4]; exact Nat.le_refl _)
  have tp6 : M1.2.1 = z0 := by rw [z4]; exact tp0
  show pl _ _ _ (9, [(0, .ref pq), (1, .int (nI N)), (2, .int (nI n))], [], M1) _
  refine ps_st (S' := (10, [(0, .ref pq), (1, .int (nI N)), (2, .int (nI n))], [.int 0], M1)) rfl rfl rfl ?_
  refine ps_st (S' := (11, [(0, .ref pq), (1, .int (nI N)), (2, .int (nI n))], [.int (nI N), .int 0], M1)) rfl rfl rfl ?_
  refine ps_st (S' := (12, [(0, .ref pq), (1, .int (nI N)), (2, .int (nI n))], [.int (nI n), .int (nI N), .int 0], M1)) rfl rfl rfl ?_
  refine ps_st (S' := (13, [(0, .ref pq), (1, .int (nI N)), (2, .int (nI n))], [.int 3, .int (nI n), .int (nI N), .int 0], M1)) rfl rfl rfl ?_
  refine ps_st (S' := (14, [(0, .ref pq), (1, .int (nI N)), (2, .int (nI n))], [.int ((nI n) / 3), .int (nI N), .int 0], M1)) rfl rfl rfl ?_
  rw [ndiv_nI (k := 3) rfl (by decide) (by omega)]
  show pl _ _ _ (_, [(0, .ref pq), (1, .int (nI N)), (2, .int (nI n))], [.int (nI (n / 3)), .int (nI N), .int 0], M1) _
  refine ps_st (S' := (15, [(0, .ref pq), (1, .int (nI N)), (2, .int (nI n))], [.int 1, .int (nI (n / 3)), .int (nI N), .int 0], M1)) rfl rfl rfl ?_
  refine ps_st (S' := (16, [(0, .ref pq), (1, .int (nI N)), (2, .int (nI n))], [.int ((nI (n / 3)) + 1), .int (nI N), .int 0], M1)) rfl rfl rfl ?_
  rw [nI_add1 (p := n / 3) (k := 1) (x := 1) rfl (by omega)]
  show pl _ _ _ (_, [(0, .ref pq), (1, .int (nI N)), (2, .int (nI n))], [.int (nI (n / 3 + 1)), .int (nI N), .int 0], M1) _
  refine ps_st (S' := (19, [(0, .ref pq), (1, .int (nI N)), (2, .int (nI n))], [.int (if (nI (n / 3 + 1)) < (nI N) then (nI (n / 3 + 1)) else (nI N)), .int 0], M1)) rfl rfl rfl ?_
  rw [nmin_nI (by omega) (by omega)]
  show pl _ _ _ (_, [(0, .ref pq), (1, .int (nI N)), (2, .int (nI n))], [.int (nI (min N (n / 3 + 1))), .int 0], M1) _
  refine ps_st (S' := (22, [(0, .ref pq), (1, .int (nI N)), (2, .int (nI n))], [.int (if 0 < (nI (min N (n / 3 + 1))) then (nI (min N (n / 3 + 1))) else 0)], M1)) rfl rfl rfl ?_
  rw [nmax0 (by omega)]
  show pl _ _ _ (_, [(0, .ref pq), (1, .int (nI N)), (2, .int (nI n))], [.int (nI (min N (n / 3 + 1)))], M1) _
  refine ps_st (S' := (23, [(3, .int (nI (min N (n / 3 + 1)))), (0, .ref pq), (1, .int (nI N)), (2, .int (nI n))], [], M1)) rfl rfl rfl ?_
  refine ps_st (S' := (24, [(3, .int (nI (min N (n / 3 + 1)))), (0, .ref pq), (1, .int (nI N)), (2, .int (nI n))], [.ref pq], M1)) rfl rfl rfl ?_
  refine ps_st (S' := (25, [(3, .int (nI (min N (n / 3 + 1)))), (0, .ref pq), (1, .int (nI N)), (2, .int (nI n))], [.int (nI (min N (n / 3 + 1))), .ref pq], M1)) rfl rfl rfl ?_
  refine ps_newa rfl tp6 (fun M7 i0_25 h8 f9 tp10 => ?_)
  rw [nI_toNat (by omega)] at h8
  have h11 := (f9 pq (show pq ≠ z0 by omega)).trans h2
  have hF12 := hF5.up (Or.inr (by omega)) f9 (by omega)
  show pl _ _ _ (27, [(3, .int (nI (min N (n / 3 + 1)))), (0, .ref pq), (1, .int (nI N)), (2, .int (nI n))], [.ref z0, .ref pq], M7) _
  refine ps_put (l' := [.int (nI N), .ref z0, .null, .null, .null, .null, .null, .int 0]) rfl h11 rfl rfl (fun M13 h14 f15 z16 => ?_)
  have h17 := (f15 z0 (show z0 ≠ pq by omega)).trans h8
  have hF18 := hF12.up (Or.inl (by simp)) f15 (by rw [z16]; exact Nat.le_refl _)
  have tp19 : M13.2.1 = z0 + 1 := by rw [z16]; exact tp10
  show pl _ _ _ (30, [(3, .int (nI (min N (n / 3 + 1)))), (0, .ref pq), (1, .int (nI N)), (2, .int (nI n))], [], M13) _
  refine ps_st (S' := (31, [(3, .int (nI (min N (n / 3 + 1)))), (0, .ref pq), (1, .int (nI N)), (2, .int (nI n))], [.ref pq], M13)) rfl rfl rfl ?_
  refine ps_st (S' := (32, [(3, .int (nI (min N (n / 3 + 1)))), (0, .ref pq), (1, .int (nI N)), (2, .int (nI n))], [.int (nI (min N (n / 3 + 1))), .ref pq], M13)) rfl rfl rfl ?_
  refine ps_newa rfl tp19 (fun M20 i0_32 h21 f22 tp23 => ?_)
  rw [nI_toNat (by omega)] at h21
  have h24 := (f22 pq (show pq ≠ (z0 + 1) by omega)).trans h14
  have h25 := (f22 z0 (show z0 ≠ (z0 + 1) by omega)).trans h17
  have hF26 := hF18.up (Or.inr (by omega)) f22 (by omega)
  show pl _ _ _ (34, [(3, .int (nI (min N (n / 3 + 1)))), (0, .ref pq), (1, .int (nI N)), (2, .int (nI n))], [.ref (z0 + 1), .ref pq], M20) _
  refine ps_put (l' := [.int (nI N), .ref z0, .ref (z0 + 1), .null, .null, .null, .null, .int 0]) rfl h24 rfl rfl (fun M27 h28 f29 z30 => ?_)
  have h31 := (f29 z0 (show z0 ≠ pq by omega)).trans h25
  have h32 := (f29 (z0 + 1) (show (z0 + 1) ≠ pq by omega)).trans h21
  have hF33 := hF26.up (Or.inl (by simp)) f29 (by rw [z30]; exact Nat.le_refl _)
  have tp34 : M27.2.1 = z0 + 2 := by rw [z30]; exact tp23
  show pl _ _ _ (37, [(3, .int (nI (min N (n / 3 + 1)))), (0, .ref pq), (1, .int (nI N)), (2, .int (nI n))], [], M27) _
  refine ps_st (S' := (38, [(3, .int (nI (min N (n / 3 + 1)))), (0, .ref pq), (1, .int (nI N)), (2, .int (nI n))], [.ref pq], M27)) rfl rfl rfl ?_
  refine ps_st (S' := (39, [(3, .int (nI (min N (n / 3 + 1)))), (0, .ref pq), (1, .int (nI N)), (2, .int (nI n))], [.int (nI (min N (n / 3 + 1))), .ref pq], M27)) rfl rfl rfl ?_
  refine ps_newa rfl tp34 (fun M35 i0_39 h36 f37 tp38 => ?_)
  rw [nI_toNat (by omega)] at h36
  have h39 := (f37 pq (show pq ≠ (z0 + 2) by omega)).trans h28
  have h40 := (f37 z0 (show z0 ≠ (z0 + 2) by omega)).trans h31
  have h41 := (f37 (z0 + 1) (show (z0 + 1) ≠ (z0 + 2) by omega)).trans h32
  have hF42 := hF33.up (Or.inr (by omega)) f37 (by omega)
  show pl _ _ _ (41, [(3, .int (nI (min N (n / 3 + 1)))), (0, .ref pq), (1, .int (nI N)), (2, .int (nI n))], [.ref (z0 + 2), .ref pq], M35) _
  refine ps_put (l' := [.int (nI N), .ref z0, .ref (z0 + 1), .ref (z0 + 2), .null, .null, .null, .int 0]) rfl h39 rfl rfl (fun M43 h44 f45 z46 => ?_)
  have h47 := (f45 z0 (show z0 ≠ pq by omega)).trans h40
  have h48 := (f45 (z0 + 1) (show (z0 + 1) ≠ pq by omega)).trans h41
  have h49 := (f45 (z0 + 2) (show (z0 + 2) ≠ pq by omega)).trans h36
  have hF50 := hF42.up (Or.inl (by simp)) f45 (by rw [z46]; exact Nat.le_refl _)
  have tp51 : M43.2.1 = z0 + 3 := by rw [z46]; exact tp38
  show pl _ _ _ (44, [(3, .int (nI (min N (n / 3 + 1)))), (0, .ref pq), (1, .int (nI N)), (2, .int (nI n))], [], M43) _
  refine ps_st (S' := (45, [(3, .int (nI (min N (n / 3 + 1)))), (0, .ref pq), (1, .int (nI N)), (2, .int (nI n))], [.ref pq], M43)) rfl rfl rfl ?_
  refine ps_st (S' := (46, [(3, .int (nI (min N (n / 3 + 1)))), (0, .ref pq), (1, .int (nI N)), (2, .int (nI n))], [.int (nI (min N (n / 3 + 1))), .ref pq], M43)) rfl rfl rfl ?_
  refine ps_newa rfl tp51 (fun M52 i0_46 h53 f54 tp55 => ?_)
  rw [nI_toNat (by omega)] at h53
  have h56 := (f54 pq (show pq ≠ (z0 + 3) by omega)).trans h44
  have h57 := (f54 z0 (show z0 ≠ (z0 + 3) by omega)).trans h47
  have h58 := (f54 (z0 + 1) (show (z0 + 1) ≠ (z0 + 3) by omega)).trans h48
  have h59 := (f54 (z0 + 2) (show (z0 + 2) ≠ (z0 + 3) by omega)).trans h49
  have hF60 := hF50.up (Or.inr (by omega)) f54 (by omega)
  show pl _ _ _ (48, [(3, .int (nI (min N (n / 3 + 1)))), (0, .ref pq), (1, .int (nI N)), (2, .int (nI n))], [.ref (z0 + 3), .ref pq], M52) _
  refine ps_put (l' := [.int (nI N), .ref z0, .ref (z0 + 1), .ref (z0 + 2), .ref (z0 + 3), .null, .null, .int 0]) rfl h56 rfl rfl (fun M61 h62 f63 z64 => ?_)
  have h65 := (f63 z0 (show z0 ≠ pq by omega)).trans h57
  have h66 := (f63 (z0 + 1) (show (z0 + 1) ≠ pq by omega)).trans h58
  have h67 := (f63 (z0 + 2) (show (z0 + 2) ≠ pq by omega)).trans h59
  have h68 := (f63 (z0 + 3) (show (z0 + 3) ≠ pq by omega)).trans h53
  have hF69 := hF60.up (Or.inl (by simp)) f63 (by rw [z64]; exact Nat.le_refl _)
  have tp70 : M61.2.1 = z0 + 4 := by rw [z64]; exact tp55
  show pl _ _ _ (51, [(3, .int (nI (min N (n / 3 + 1)))), (0, .ref pq), (1, .int (nI N)), (2, .int (nI n))], [], M61) _
  refine ps_st (S' := (52, [(3, .int (nI (min N (n / 3 + 1)))), (0, .ref pq), (1, .int (nI N)), (2, .int (nI n))], [.ref pq], M61)) rfl rfl rfl ?_
  refine ps_st (S' := (53, [(3, .int (nI (min N (n / 3 + 1)))), (0, .ref pq), (1, .int (nI N)), (2, .int (nI n))], [.int (nI (min N (n / 3 + 1))), .ref pq], M61)) rfl rfl rfl ?_
  refine ps_newa rfl tp70 (fun M71 i0_53 h72 f73 tp74 => ?_)
  rw [nI_toNat (by omega)] at h72
  have h75 := (f73 pq (show pq ≠ (z0 + 4) by omega)).trans h62
  have h76 := (f73 z0 (show z0 ≠ (z0 + 4) by omega)).trans h65
  have h77 := (f73 (z0 + 1) (show (z0 + 1) ≠ (z0 + 4) by omega)).trans h66
  have h78 := (f73 (z0 + 2) (show (z0 + 2) ≠ (z0 + 4) by omega)).trans h67
  have h79 := (f73 (z0 + 3) (show (z0 + 3) ≠ (z0 + 4) by omega)).trans h68
  have hF80 := hF69.up (Or.inr (by omega)) f73 (by omega)
  show pl _ _ _ (55, [(3, .int (nI (min N (n / 3 + 1)))), (0, .ref pq), (1, .int (nI N)), (2, .int (nI n))], [.ref (z0 + 4), .ref pq], M71) _
  refine ps_put (l' := [.int (nI N), .ref z0, .ref (z0 + 1), .ref (z0 + 2), .ref (z0 + 3), .ref (z0 + 4), .null, .int 0]) rfl h75 rfl rfl (fun M81 h82 f83 z84 => ?_)
  have h85 := (f83 z0 (show z0 ≠ pq by omega)).trans h76
  have h86 := (f83 (z0 + 1) (show (z0 + 1) ≠ pq by omega)).trans h77
  have h87 := (f83 (z0 + 2) (show (z0 + 2) ≠ pq by omega)).trans h78
  have h88 := (f83 (z0 + 3) (show (z0 + 3) ≠ pq by omega)).trans h79
  have h89 := (f83 (z0 + 4) (show (z0 + 4) ≠ pq by omega)).trans h72
  have hF90 := hF80.up (Or.inl (by simp)) f83 (by rw [z84]; exact Nat.le_refl _)
  have tp91 : M81.2.1 = z0 + 5 := by rw [z84]; exact tp74
  show pl _ _ _ (58, [(3, .int (nI (min N (n / 3 + 1)))), (0, .ref pq), (1, .int (nI N)), (2, .int (nI n))], [], M81) _
  refine ps_st (S' := (59, [(3, .int (nI (min N (n / 3 + 1)))), (0, .ref pq), (1, .int (nI N)), (2, .int (nI n))], [.ref pq], M81)) rfl rfl rfl ?_
  refine ps_st (S' := (60, [(3, .int (nI (min N (n / 3 + 1)))), (0, .ref pq), (1, .int (nI N)), (2, .int (nI n))], [.int 0, .ref pq], M81)) rfl rfl rfl ?_
  refine ps_st (S' := (61, [(3, .int (nI (min N (n / 3 + 1)))), (0, .ref pq), (1, .int (nI N)), (2, .int (nI n))], [.int (nI n), .int 0, .ref pq], M81)) rfl rfl rfl ?_
  refine ps_st (S' := (64, [(3, .int (nI (min N (n / 3 + 1)))), (0, .ref pq), (1, .int (nI N)), (2, .int (nI n))], [.int (if 0 < (nI n) then (nI n) else 0), .ref pq], M81)) rfl rfl rfl ?_
  rw [nmax0 (by omega)]
  show pl _ _ _ (_, [(3, .int (nI (min N (n / 3 + 1)))), (0, .ref pq), (1, .int (nI N)), (2, .int (nI n))], [.int (nI (n)), .ref pq], M81) _
  refine ps_newa rfl tp91 (fun M92 i0_64 h93 f94 tp95 => ?_)
  rw [nI_toNat (by omega)] at h93
  have h96 := (f94 pq (show pq ≠ (z0 + 5) by omega)).trans h82
  have h97 := (f94 z0 (show z0 ≠ (z0 + 5) by omega)).trans h85
  have h98 := (f94 (z0 + 1) (show (z0 + 1) ≠ (z0 + 5) by omega)).trans h86
  have h99 := (f94 (z0 + 2) (show (z0 + 2) ≠ (z0 + 5) by omega)).trans h87
  have h100 := (f94 (z0 + 3) (show (z0 + 3) ≠ (z0 + 5) by omega)).trans h88
  have h101 := (f94 (z0 + 4) (show (z0 + 4) ≠ (z0 + 5) by omega)).trans h89
  have hF102 := hF90.up (Or.inr (by omega)) f94 (by omega)
  show pl _ _ _ (66, [(3, .int (nI (min N (n / 3 + 1)))), (0, .ref pq), (1, .int (nI N)), (2, .int (nI n))], [.ref (z0 + 5), .ref pq], M92) _
  refine ps_put (l' := [.int (nI N), .ref z0, .ref (z0 + 1), .ref (z0 + 2), .ref (z0 + 3), .ref (z0 + 4), .ref (z0 + 5), .int 0]) rfl h96 rfl rfl (fun M103 h104 f105 z106 => ?_)
  have h107 := (f105 z0 (show z0 ≠ pq by omega)).trans h97
  have h108 := (f105 (z0 + 1) (show (z0 + 1) ≠ pq by omega)).trans h98
  have h109 := (f105 (z0 + 2) (show (z0 + 2) ≠ pq by omega)).trans h99
  have h110 := (f105 (z0 + 3) (show (z0 + 3) ≠ pq by omega)).trans h100
  have h111 := (f105 (z0 + 4) (show (z0 + 4) ≠ pq by omega)).trans h101
  have h112 := (f105 (z0 + 5) (show (z0 + 5) ≠ pq by omega)).trans h93
  have hF113 := hF102.up (Or.inl (by simp)) f105 (by rw [z106]; exact Nat.le_refl _)
  have tp114 : M103.2.1 = z0 + 6 := by rw [z106]; exact tp95
  show pl _ _ _ (69, [(3, .int (nI (min N (n / 3 + 1)))), (0, .ref pq), (1, .int (nI N)), (2, .int (nI n))], [], M103) _
  exact ps_ret rfl rfl (⟨rfl, by rw [tp0]; exact h104, by rw [tp0]; exact h107, by rw [tp0]; exact h108, by rw [tp0]; exact h109, by rw [tp0]; exact h110, by rw [tp0]; exact h111, by rw [tp0]; exact h112, hF113, by rw [tp0]; exact tp114⟩)
set_option maxHeartbeats 1000000 in
theorem dx_tagOf {g : xe_G} {M : mi_H} {pq q1 q2 q3 q4 q5 q6 hd cc : Nat} {sz : Int32} {F1 : Nat → Int32} {k : Nat} (h_pq : M.1 pq = some (ob 7 [.int sz, .ref q1, .ref q2, .ref q3, .ref q4, .ref q5, .ref q6, .int (nI cc)])) (h_q1 : M.1 q1 = some (ar .int hd F1)) (hh : hd < 1073741824) (hk : k < hd) : pt (mT g) 138 [.ref pq, .int (nI k)] M (fun v M' => (v = some (.int (F1 k)) ∧ fm [] M M')) := by
  refine pt_in (b := mb_138 g) rfl (fun kf => ?_)
  show pl (mT g) kf (mb_138 g).2 (0, [(0, .ref pq), (1, .int (nI k))], [], M) _
  have hF : fm [] M M := fm.rf
  refine ps_st (S' := (1, [(0, .ref pq), (1, .int (nI k))], [.int (nI k)], M)) rfl rfl rfl ?_
  refine ps_if (S1 := (13, [], [], M)) (S2 := (4, [(0, .ref pq), (1, .int (nI k))], [], M)) rfl rfl rfl (fun c_1 => ?_) (fun c_1 => ?_)
  · exact absurd (of_decide_eq_true c_1) (nI_n0 (by omega))
  refine ps_st (S' := (5, [(0, .ref pq), (1, .int (nI k))], [.int (nI k)], M)) rfl rfl rfl ?_
  refine ps_st (S' := (6, [(0, .ref pq), (1, .int (nI k))], [.ref pq, .int (nI k)], M)) rfl rfl rfl ?_
  refine ps_get (S' := (9, [(0, .ref pq), (1, .int (nI k))], [.ref q1, .int (nI k)], M)) rfl h_pq rfl rfl ?_
  refine ps_alen (S' := (10, [(0, .ref pq), (1, .int (nI k))], [.int (nI hd), .int (nI k)], M)) rfl h_q1 rfl ?_
  refine ps_if2 (S1 := (17, [(0, .ref pq), (1, .int (nI k))], [], M)) (S2 := (13, [], [], M)) rfl rfl rfl (fun c_10 => ?_) (fun c_10 => ?_)
  rotate_left
  · exact absurd ((lt_nI (by omega) (by omega)).mpr (by omega)) (of_decide_eq_false c_10)
  refine ps_st (S' := (18, [(0, .ref pq), (1, .int (nI k))], [.ref pq], M)) rfl rfl rfl ?_
  refine ps_get (S' := (21, [(0, .ref pq), (1, .int (nI k))], [.ref q1], M)) rfl h_pq rfl rfl ?_
  refine ps_st (S' := (22, [(0, .ref pq), (1, .int (nI k))], [.int (nI k), .ref q1], M)) rfl rfl rfl ?_
  refine ps_ald (S' := (23, [], [.int (F1 (Int32.toNatClampNeg (nI k)))], M)) rfl h_q1 rfl (fun i0_22 i1_22 => ?_)
  exact ps_ret rfl rfl (⟨by rw [nI_toNat (by omega)], hF⟩)
set_option maxHeartbeats 1000000 in
theorem dx_isWide {g : xe_G} {M : mi_H} {pq q1 q2 q3 q4 q5 q6 hd cc : Nat} {sz : Int32} {F1 : Nat → Int32} {k t : Nat} (h_pq : M.1 pq = some (ob 7 [.int sz, .ref q1, .ref q2, .ref q3, .ref q4, .ref q5, .ref q6, .int (nI cc)])) (h_q1 : M.1 q1 = some (ar .int hd F1)) (hh : hd < 1073741824) (hk : k < hd) (hf : F1 k = nI t) (ht : t < 256) : pt (mT g) 125 [.ref pq, .int (nI k)] M (fun v M' => ((t = 5 ∨ t = 6) ∧ v = some (.int 1) ∧ fm [] M M') ∨ ((¬ (t = 5 ∨ t = 6)) ∧ v = some (.int 0) ∧ fm [] M M')) := by
  refine pt_in (b := mb_125 g) rfl (fun kf => ?_)
  show pl (mT g) kf (mb_125 g).2 (0, [(0, .ref pq), (1, .int (nI k))], [], M) _
  have hF : fm [] M M := fm.rf
  refine ps_st (S' := (1, [(0, .ref pq), (1, .int (nI k))], [.ref pq], M)) rfl rfl rfl ?_
  refine ps_st (S' := (2, [(0, .ref pq), (1, .int (nI k))], [.int (nI k), .ref pq], M)) rfl rfl rfl ?_
  refine pl_call (a := [.ref pq, .int (nI k)]) (rest := []) rfl rfl rfl (dx_tagOf h_pq h_q1 (hh) (hk)) (fun v1 M2 q3 => ?_)
  obtain ⟨rfl, f4⟩ := q3
  have h6 := (f4.1 pq (by simp)).trans h_pq
  have h7 := (f4.1 q1 (by simp)).trans h_q1
  have hF8 := hF.tr f4 (by simp)
  show pl _ _ _ (5, [(0, .ref pq), (1, .int (nI k))], [.int (F1 k)], M2) _
  rw [hf]
  show pl _ _ _ (_, [(0, .ref pq), (1, .int (nI k))], [.int (nI t)], M2) _
  refine ps_st (S' := (6, [(2, .int (nI t)), (0, .ref pq), (1, .int (nI k))], [], M2)) rfl rfl rfl ?_
  refine ps_st (S' := (7, [(2, .int (nI t)), (0, .ref pq), (1, .int (nI k))], [.int (nI t)], M2)) rfl rfl rfl ?_
  refine ps_st (S' := (8, [(2, .int (nI t)), (0, .ref pq), (1, .int (nI k))], [.int 5, .int (nI t)], M2)) rfl rfl rfl ?_
  refine ps_if2 (S1 := (17, [], [], M2)) (S2 := (11, [(2, .int (nI t)), (0, .ref pq), (1, .int (nI k))], [], M2)) rfl rfl rfl (fun c_8 => ?_) (fun c_8 => ?_)
  · have c_8 : (nI t) = 5 := of_decide_eq_true c_8
    have n_8 : t = 5 := (eq_nI (p := t) (n := 5) (by omega) (by decide)).mp c_8
    refine ps_st (S' := (18, [], [.int 1], M2)) rfl rfl rfl ?_
    refine ps_st (S' := (22, [], [.int 1], M2)) rfl rfl rfl ?_
    exact ps_ret rfl rfl (Or.inl ⟨by omega, rfl, hF8⟩)
  · have c_8 : ¬ ((nI t) = 5) := of_decide_eq_false c_8
    have n_8 : ¬ (t = 5) := fun h9 => c_8 ((eq_nI (p := t) (n := 5) (by omega) (by decide)).mpr h9)
    refine ps_st (S' := (12, [(2, .int (nI t)), (0, .ref pq), (1, .int (nI k))], [.int (nI t)], M2)) rfl rfl rfl ?_
    refine ps_st (S' := (14, [(2, .int (nI t)), (0, .ref pq), (1, .int (nI k))], [.int 6, .int (nI t)], M2)) rfl rfl rfl ?_
    refine ps_if2 (S1 := (21, [(2, .int (nI t)), (0, .ref pq), (1, .int (nI k))], [], M2)) (S2 := (17, [], [], M2)) rfl rfl rfl (fun c_14 => ?_) (fun c_14 => ?_)
    · have c_14 : ¬ (nI t) = 6 := of_decide_eq_true c_14
      have n_14 : ¬ (t = 6) := fun h9 => c_14 ((eq_nI (p := t) (n := 6) (by omega) (by decide)).mpr h9)
      refine ps_st (S' := (22, [], [.int 0], M2)) rfl rfl rfl ?_
      exact ps_ret rfl rfl (Or.inr ⟨by omega, rfl, hF8⟩)
    · have c_14 : ¬ (¬ (nI t) = 6) := of_decide_eq_false c_14
      have n_14 : t = 6 := (eq_nI (p := t) (n := 6) (by omega) (by decide)).mp (Decidable.not_not.mp c_14)
      refine ps_st (S' := (18, [], [.int 1], M2)) rfl rfl rfl ?_
      refine ps_st (S' := (22, [], [.int 1], M2)) rfl rfl rfl ?_
      exact ps_ret rfl rfl (Or.inl ⟨by omega, rfl, hF8⟩)
theorem poolC.to {f : Nat → Int32} {n : Nat} {F1 F2 F3 F4 F6 : Nat → Int32} {cc k k' : Nat} {E : List (Nat × Nat)} (h : poolC f n F1 F2 F3 F4 F6 cc k E) (hk : k ≤ k') : poolC f n F1 F2 F3 F4 F6 cc k' E := ⟨fun q hq => ⟨Nat.lt_of_lt_of_le (h.1 q hq).1 hk, (h.1 q hq).2⟩, h.2⟩
set_option maxHeartbeats 1000000 in
theorem dx_takesPool {g : xe_G} {M : mi_H} {r c b vd da n mj : Nat} {f : Nat → Int32} {it ru wa mi fa ic ac aa k1 k2 k3 k4 k5 k6 k7 : Int32} {u1 u6 u7 : Value} (h_r : M.1 r = some (ob 9 [.ref c, .ref b, .ref vd, .int (nI 8), .int it])) (h_b : M.1 b = some (ob 1 [.ref da])) (h_da : M.1 da = some (ar .byte n f)) (h_vd : M.1 vd = some (ob 10 [.int ru, .int wa])) (h_c : M.1 c = some (ob 3 [.ref b, u1, .int mi, .int (nI mj), .int fa, .int ic, u6, u7, .int ac, .int aa, .int k1, .int k2, .int k3, .int k4, .int k5, .int k6, .int k7])) (hn : n ≤ 65540) (h8 : 8 ≤ n) (hj : mj < 65536) (l_r : r < M.2.1) (l_b : b < M.2.1) (l_da : da < M.2.1) (l_vd : vd < M.2.1) (l_c : c < M.2.1) : pt (mT g) 169 [.ref r] M (fun v M' => (∃ (p' cc : Nat) (it' : Int32) (E : List (Nat × Nat)) (F1 F2 F3 F4 F6 : Nat → Int32), (s_pool f n mj = .inr (p', E)) ∧ (poolC f n F1 F2 F3 F4 F6 cc (by2 f 8) E) ∧ (p' ≤ n ∧ cc ≤ p' ∧ 10 ≤ n) ∧ (cc = chL f n E) ∧ v = some (.int 1) ∧ M'.1 r = some (ob 9 [.ref c, .ref b, .ref vd, .int (nI p'), .int it']) ∧ M'.1 vd = some (ob 10 [.int ru, .int wa]) ∧ M'.1 c = some (ob 3 [.ref b, .ref (M.2.1), .int mi, .int (nI mj), .int fa, .int ic, u6, u7, .int ac, .int aa, .int k1, .int k2, .int k3, .int k4, .int k5, .int k6, .int k7]) ∧ M'.1 (M.2.1) = some (ob 7 [.int (nI (by2 f 8)), .ref (M.2.1 + 1), .ref (M.2.1 + 2), .ref (M.2.1 + 3), .ref (M.2.1 + 4), .ref (M.2.1 + 5), .ref (M.2.1 + 6), .int (nI cc)]) ∧ M'.1 (M.2.1 + 1) = some (ar .int (hldC f n) F1) ∧ M'.1 (M.2.1 + 2) = some (ar .int (hldC f n) F2) ∧ M'.1 (M.2.1 + 3) = some (ar .int (hldC f n) F3) ∧ M'.1 (M.2.1 + 4) = some (ar .int (hldC f n) F4) ∧ M'.1 (M.2.1 + 5) = some (ar .int (hldC f n) (fun _ => 0)) ∧ M'.1 (M.2.1 + 6) = some (ar .char n F6) ∧ gm [r, vd, c] M M' ∧ M'.2.1 = M.2.1 + 7) ∨ (∃ (e : Nat × Nat), (s_pool f n mj = .inl e) ∧ v = some (.int 0) ∧ M'.1 vd = some (ob 10 [.int (nI e.1), .int (nI e.2)]) ∧ gm [r, vd, c] M M' ∧ M.2.1 ≤ M'.2.1)) := by
  refine pt_in (b := mb_169 g) rfl (fun kf => ?_)
  show pl (mT g) kf (mb_169 g).2 (0, [(0, .ref r)], [], M) _
  have hF : gm [r, vd, c] M M := gm.rf
  obtain ⟨z0, tp0⟩ : ∃ z0, M.2.1 = z0 := ⟨_, rfl⟩
  have hb2 := by2_lt f 8
  have L61 : ∀ (kf : Nat) (k p1 cc : Nat) (E : List (Nat × Nat)) (it1 : Int32) (F1 F2 F3 F4 F6 : Nat → Int32) (M1 : mi_H), (M1.1 r = some (ob 9 [.ref c, .ref b, .ref vd, .int (nI p1), .int it1])) → (M1.1 b = some (ob 1 [.ref da])) → (M1.1 da = some (ar .byte n f)) → (M1.1 vd = some (ob 10 [.int ru, .int wa])) → (M1.1 c = some (ob 3 [.ref b, .ref z0, .int mi, .int (nI mj), .int fa, .int ic, u6, u7, .int ac, .int aa, .int k1, .int k2, .int k3, .int k4, .int k5, .int k6, .int k7])) → (M1.1 z0 = some (ob 7 [.int (nI (by2 f 8)), .ref (z0 + 1), .ref (z0 + 2), .ref (z0 + 3), .ref (z0 + 4), .ref (z0 + 5), .ref (z0 + 6), .int (nI cc)])) → (M1.1 (z0 + 1) = some (ar .int (hldC f n) F1)) → (M1.1 (z0 + 2) = some (ar .int (hldC f n) F2)) → (M1.1 (z0 + 3) = some (ar .int (hldC f n) F3)) → (M1.1 (z0 + 4) = some (ar .int (hldC f n) F4)) → (M1.1 (z0 + 5) = some (ar .int (hldC f n) (fun _ => 0))) → (M1.1 (z0 + 6) = some (ar .char n F6)) → (gm [r, vd, c] M M1) → (M1.2.1 = z0 + 7) → (1 ≤ k ∧ 7 + 3 * k ≤ p1 ∧ p1 ≤ n ∧ 10 ≤ n ∧ k ≤ by2 f 8) → (cc ≤ p1) → (¬ by2 f 8 = 0) → (poolC f n F1 F2 F3 F4 F6 cc k E) → (s_ents f n mj (by2 f 8) (by2 f 8 - k) k p1 E = s_ents f n mj (by2 f 8) (by2 f 8 - 1) 1 10 []) → (cc = chL f n E) → pl (mT g) kf (mb_169 g).2 (61, [(0, .ref r), (2, .ref z0), (3, .int (nI k))], [], M1) (fun v M' => (∃ (p' cc : Nat) (it' : Int32) (E : List (Nat × Nat)) (F1 F2 F3 F4 F6 : Nat → Int32), (s_pool f n mj = .inr (p', E)) ∧ (poolC f n F1 F2 F3 F4 F6 cc (by2 f 8) E) ∧ (p' ≤ n ∧ cc ≤ p' ∧ 10 ≤ n) ∧ (cc = chL f n E) ∧ v = some (.int 1) ∧ M'.1 r = some (ob 9 [.ref c, .ref b, .ref vd, .int (nI p'), .int it']) ∧ M'.1 vd = some (ob 10 [.int ru, .int wa]) ∧ M'.1 c = some (ob 3 [.ref b, .ref (M.2.1), .int mi, .int (nI mj), .int fa, .int ic, u6, u7, .int ac, .int aa, .int k1, .int k2, .int k3, .int k4, .int k5, .int k6, .int k7]) ∧ M'.1 (M.2.1) = some (ob 7 [.int (nI (by2 f 8)), .ref (M.2.1 + 1), .ref (M.2.1 + 2), .ref (M.2.1 + 3), .ref (M.2.1 + 4), .ref (M.2.1 + 5), .ref (M.2.1 + 6), .int (nI cc)]) ∧ M'.1 (M.2.1 + 1) = some (ar .int (hldC f n) F1) ∧ M'.1 (M.2.1 + 2) = some (ar .int (hldC f n) F2) ∧ M'.1 (M.2.1 + 3) = some (ar .int (hldC f n) F3) ∧ M'.1 (M.2.1 + 4) = some (ar .int (hldC f n) F4) ∧ M'.1 (M.2.1 + 5) = some (ar .int (hldC f n) (fun _ => 0)) ∧ M'.1 (M.2.1 + 6) = some (ar .char n F6) ∧ gm [r, vd, c] M M' ∧ M'.2.1 = M.2.1 + 7) ∨ (∃ (e : Nat × Nat), (s_pool f n mj = .inl e) ∧ v = some (.int 0) ∧ M'.1 vd = some (ob 10 [.int (nI e.1), .int (nI e.2)]) ∧ gm [r, vd, c] M M' ∧ M.2.1 ≤ M'.2.1)) := by
    intro kf
    induction kf with
    | zero => intros; exact pl_0
    | succ kf ih =>
      intro k p1 cc E it1 F1 F2 F3 F4 F6 M1 hl_r hl_b hl_da hl_vd hl_c hl_z0 hl_z0___1 hl_z0___2 hl_z0___3 hl_z0___4 hl_z0___5 hl_z0___6 hF1 tp1 hk1 hc h0 hP hs hcs
      have hb2 := by2_lt f 8
      refine ps_st1 (S' := (62, [(0, .ref r), (2, .ref z0), (3, .int (nI k))], [.int (nI k)], M1)) rfl rfl rfl ?_
      refine ps_st (S' := (63, [(0, .ref r), (2, .ref z0), (3, .int (nI k))], [.ref z0, .int (nI k)], M1)) rfl rfl rfl ?_
      refine ps_get (S' := (66, [(0, .ref r), (2, .ref z0), (3, .int (nI k))], [.int (nI (by2 f 8)), .int (nI k)], M1)) rfl hl_z0 rfl rfl ?_
      refine ps_if2 (S1 := (98, [(0, .ref r), (2, .ref z0), (3, .int (nI k))], [], M1)) (S2 := (69, [(0, .ref r), (2, .ref z0), (3, .int (nI k))], [], M1)) rfl rfl rfl (fun c_66 => ?_) (fun c_66 => ?_)
      · have c_66 : (nI (by2 f 8)) ≤ (nI k) := of_decide_eq_true c_66
        have n_66 : by2 f 8 ≤ k := (le_nI (p := by2 f 8) (n := k) (Nat.lt_trans (by2_lt _ _) (by decide)) (by omega)).mp c_66
        refine ps_st (S' := (99, [(0, .ref r), (2, .ref z0), (3, .int (nI k))], [.int 1], M1)) rfl rfl rfl ?_
        exact ps_ret rfl rfl (Or.inl ⟨p1, cc, _, E, F1, F2, F3, F4, F6, by
            unfold s_pool
            rw [if_neg (by omega), if_neg (by omega), ← hs]
            exact s_ents_0 (by omega), hP.to (by omega), by omega, hcs, rfl, by first | exact hl_r | (rw [tp0]; exact hl_r), by first | exact hl_vd | (rw [tp0]; exact hl_vd), by first | exact hl_c | (rw [tp0]; exact hl_c), by first | exact hl_z0 | (rw [tp0]; exact hl_z0), by first | exact hl_z0___1 | (rw [tp0]; exact hl_z0___1), by first | exact hl_z0___2 | (rw [tp0]; exact hl_z0___2), by first | exact hl_z0___3 | (rw [tp0]; exact hl_z0___3), by first | exact hl_z0___4 | (rw [tp0]; exact hl_z0___4), by first | exact hl_z0___5 | (rw [tp0]; exact hl_z0___5), by first | exact hl_z0___6 | (rw [tp0]; exact hl_z0___6), hF1, by rw [tp0]; exact tp1⟩)
      · have c_66 : ¬ ((nI (by2 f 8)) ≤ (nI k)) := of_decide_eq_false c_66
        have n_66 : ¬ (by2 f 8 ≤ k) := fun h9 => c_66 ((le_nI (p := by2 f 8) (n := k) (Nat.lt_trans (by2_lt _ _) (by decide)) (by omega)).mpr h9)
        refine ps_st (S' := (70, [(0, .ref r), (2, .ref z0), (3, .int (nI k))], [.ref r], M1)) rfl rfl rfl ?_
        refine ps_st (S' := (71, [(0, .ref r), (2, .ref z0), (3, .int (nI k))], [.int (nI k), .ref r], M1)) rfl rfl rfl ?_
        refine pl_call (a := [.ref r, .int (nI k)]) (rest := []) rfl rfl rfl (dx_takesEntry hl_r hl_b hl_da hl_vd hl_c hl_z0 hl_z0___1 hl_z0___3 hl_z0___4 hl_z0___2 hl_z0___6 (hn) (by omega) (by unfold dst5; omega) (by unfold hldC; omega) (rfl) (by omega) (by2_lt _ _) (hj) (by omega) (fun h9 => by unfold hldC; omega)) (fun v1 M2 q3 => ?_)
        rcases q3 with q3 | q3 | q3 | q3
        · skip
          obtain ⟨p'4, l5, it'6, q71_s, q71_c, q71_e, rfl, h7, h8, h9, h10, h11, h12, h13, h14, f15⟩ := q3
          have h17 := (f15.1 b (nin8 (ob_ne hl_b hl_r (by decide)) (ob_ne hl_b hl_vd (by decide)) (show b ≠ z0 by omega) (show b ≠ (z0 + 1) by omega) (show b ≠ (z0 + 2) by omega) (show b ≠ (z0 + 3) by omega) (show b ≠ (z0 + 4) by omega) (show b ≠ (z0 + 6) by omega))).trans hl_b
          have h18 := (f15.1 da (nin8 (Ne.symm (ob_ar hl_r hl_da)) (Ne.symm (ob_ar hl_vd hl_da)) (show da ≠ z0 by omega) (show da ≠ (z0 + 1) by omega) (show da ≠ (z0 + 2) by omega) (show da ≠ (z0 + 3) by omega) (show da ≠ (z0 + 4) by omega) (show da ≠ (z0 + 6) by omega))).trans hl_da
          have h19 := (f15.1 c (nin8 (ob_ne hl_c hl_r (by decide)) (ob_ne hl_c hl_vd (by decide)) (show c ≠ z0 by omega) (show c ≠ (z0 + 1) by omega) (show c ≠ (z0 + 2) by omega) (show c ≠ (z0 + 3) by omega) (show c ≠ (z0 + 4) by omega) (show c ≠ (z0 + 6) by omega))).trans hl_c
          have h20 := (f15.1 (z0 + 5) (nin8 (show (z0 + 5) ≠ r by omega) (show (z0 + 5) ≠ vd by omega) (show (z0 + 5) ≠ z0 by omega) (show (z0 + 5) ≠ (z0 + 1) by omega) (show (z0 + 5) ≠ (z0 + 2) by omega) (show (z0 + 5) ≠ (z0 + 3) by omega) (show (z0 + 5) ≠ (z0 + 4) by omega) (show (z0 + 5) ≠ (z0 + 6) by omega))).trans hl_z0___5
          have hF21 := hF1.trf f15 (by intro z hz; simp only [List.mem_cons, List.not_mem_nil, or_false] at hz ⊢; try omega)
          have tp22 : M2.2.1 = z0 + 7 := by rw [f15.2]; exact tp1
          show pl _ _ _ (74, [(0, .ref r), (2, .ref z0), (3, .int (nI k))], [.int 1], M2) _
          refine ps_if (S1 := (79, [(0, .ref r), (2, .ref z0), (3, .int (nI k))], [], M2)) (S2 := (77, [(0, .ref r), (2, .ref z0), (3, .int (nI k))], [], M2)) rfl rfl rfl (fun c_74 => ?_) (fun c_74 => ?_)
          rotate_left
          · exact absurd (by decide) (of_decide_eq_false c_74)
          refine ps_st (S' := (80, [(0, .ref r), (2, .ref z0), (3, .int (nI k))], [.int (nI k)], M2)) rfl rfl rfl ?_
          refine ps_st (S' := (81, [(0, .ref r), (2, .ref z0), (3, .int (nI k))], [.ref z0, .int (nI k)], M2)) rfl rfl rfl ?_
          refine ps_st (S' := (82, [(0, .ref r), (2, .ref z0), (3, .int (nI k))], [.int (nI k), .ref z0, .int (nI k)], M2)) rfl rfl rfl ?_
          refine pl_call (a := [.ref z0, .int (nI k)]) (rest := [.int (nI k)]) rfl rfl rfl (dx_isWide h11 h7 (by unfold hldC; omega) (by unfold hldC; omega) (updq_at) (by1_lt _ _)) (fun v23 M24 q25 => ?_)
          rcases q25 with q25 | q25
          · skip
            obtain ⟨q82_y, rfl, f26⟩ := q25
            have h28 := (f26.1 r (by simp)).trans h9
            have h29 := (f26.1 b (by simp)).trans h17
            have h30 := (f26.1 da (by simp)).trans h18
            have h31 := (f26.1 vd (by simp)).trans h10
            have h32 := (f26.1 c (by simp)).trans h19
            have h33 := (f26.1 z0 (by simp)).trans h11
            have h34 := (f26.1 (z0 + 1) (by simp)).trans h7
            have h35 := (f26.1 (z0 + 2) (by simp)).trans h8
            have h36 := (f26.1 (z0 + 3) (by simp)).trans h12
            have h37 := (f26.1 (z0 + 4) (by simp)).trans h13
            have h38 := (f26.1 (z0 + 5) (by simp)).trans h20
            have h39 := (f26.1 (z0 + 6) (by simp)).trans h14
            have hF40 := hF21.trf f26 (by intro z hz; simp only [List.mem_cons, List.not_mem_nil, or_false] at hz ⊢; try omega)
            have tp41 : M24.2.1 = z0 + 7 := by rw [f26.2]; exact tp22
            show pl _ _ _ (85, [(0, .ref r), (2, .ref z0), (3, .int (nI k))], [.int 1, .int (nI k)], M24) _
            refine ps_if (S1 := (92, [(0, .ref r), (2, .ref z0), (3, .int (nI k))], [.int (nI k)], M24)) (S2 := (88, [(0, .ref r), (2, .ref z0), (3, .int (nI k))], [.int (nI k)], M24)) rfl rfl rfl (fun c_85 => ?_) (fun c_85 => ?_)
            · exact absurd (of_decide_eq_true c_85) (by decide)
            refine ps_st (S' := (89, [(0, .ref r), (2, .ref z0), (3, .int (nI k))], [.int 2, .int (nI k)], M24)) rfl rfl rfl ?_
            refine ps_st (S' := (93, [(0, .ref r), (2, .ref z0)], [.int 2, .int (nI k)], M24)) rfl rfl rfl ?_
            refine ps_st (S' := (94, [(0, .ref r), (2, .ref z0)], [.int ((nI k) + 2)], M24)) rfl rfl rfl ?_
            rw [nI_add1 (p := k) (k := 2) (x := 2) rfl (by omega)]
            show pl _ _ _ (_, [(0, .ref r), (2, .ref z0)], [.int (nI (k + 2))], M24) _
            refine ps_st (S' := (95, [(3, .int (nI (k + 2))), (0, .ref r), (2, .ref z0)], [], M24)) rfl rfl rfl ?_
            refine ps_st (S' := (61, [(0, .ref r), (2, .ref z0), (3, .int (nI (k + 2)))], [], M24)) rfl rfl rfl ?_
            exact ih (k + 2) (p'4) (cc + l5.length) (E ++ [(k, p1)]) (it'6) ((upd F1 k (nI (by1 f p1)))) ((upd F2 k (nI p1))) ((upd F3 k (nI cc))) ((upd F4 k (nI l5.length))) ((wr F6 cc l5)) M24 h28 h29 h30 h31 h32 h33 h34 h35 h36 h37 h38 h39 hF40 (tp41) (by obtain ⟨t1, t2, t3⟩ := s_entry_txt q71_s; omega) (by omega) (by omega) (by
                obtain ⟨t1, t2, t3⟩ := s_entry_txt q71_s
                refine hP.add (k' := k + 2) (p := p1) (by omega) (by omega) (fun j hj => updq_ne hj) (fun j hj => updq_ne hj) (fun j hj => wr_lo hj) ⟨updq_at, updq_at, fun _ => ⟨_, cc, t2, updq_at, updq_at, Nat.le_refl _, fun i hi => wr_in hi⟩, fun h7 => by omega⟩) (by
                rw [← hs, s_ents_step (by omega) q71_s, if_pos (by omega)]) (by
                obtain ⟨t1, t2, t3⟩ := s_entry_txt q71_s
                rw [chL_app, hcs, if_pos t1, t2]
                first | done | rfl)
          · skip
            obtain ⟨q82_n, rfl, f42⟩ := q25
            have h44 := (f42.1 r (by simp)).trans h9
            have h45 := (f42.1 b (by simp)).trans h17
            have h46 := (f42.1 da (by simp)).trans h18
            have h47 := (f42.1 vd (by simp)).trans h10
            have h48 := (f42.1 c (by simp)).trans h19
            have h49 := (f42.1 z0 (by simp)).trans h11
            have h50 := (f42.1 (z0 + 1) (by simp)).trans h7
            have h51 := (f42.1 (z0 + 2) (by simp)).trans h8
            have h52 := (f42.1 (z0 + 3) (by simp)).trans h12
            have h53 := (f42.1 (z0 + 4) (by simp)).trans h13
            have h54 := (f42.1 (z0 + 5) (by simp)).trans h20
            have h55 := (f42.1 (z0 + 6) (by simp)).trans h14
            have hF56 := hF21.trf f42 (by intro z hz; simp only [List.mem_cons, List.not_mem_nil, or_false] at hz ⊢; try omega)
            have tp57 : M24.2.1 = z0 + 7 := by rw [f42.2]; exact tp22
            show pl _ _ _ (85, [(0, .ref r), (2, .ref z0), (3, .int (nI k))], [.int 0, .int (nI k)], M24) _
            refine ps_if (S1 := (92, [(0, .ref r), (2, .ref z0), (3, .int (nI k))], [.int (nI k)], M24)) (S2 := (88, [(0, .ref r), (2, .ref z0), (3, .int (nI k))], [.int (nI k)], M24)) rfl rfl rfl (fun c_85 => ?_) (fun c_85 => ?_)
            rotate_left
            · exact absurd (by decide) (of_decide_eq_false c_85)
            refine ps_st (S' := (93, [(0, .ref r), (2, .ref z0)], [.int 1, .int (nI k)], M24)) rfl rfl rfl ?_
            refine ps_st (S' := (94, [(0, .ref r), (2, .ref z0)], [.int ((nI k) + 1)], M24)) rfl rfl rfl ?_
            rw [nI_add1 (p := k) (k := 1) (x := 1) rfl (by omega)]
            show pl _ _ _ (_, [(0, .ref r), (2, .ref z0)], [.int (nI (k + 1))], M24) _
            refine ps_st (S' := (95, [(3, .int (nI (k + 1))), (0, .ref r), (2, .ref z0)], [], M24)) rfl rfl rfl ?_
            refine ps_st (S' := (61, [(0, .ref r), (2, .ref z0), (3, .int (nI (k + 1)))], [], M24)) rfl rfl rfl ?_
            exact ih (k + 1) (p'4) (cc + l5.length) (E ++ [(k, p1)]) (it'6) ((upd F1 k (nI (by1 f p1)))) ((upd F2 k (nI p1))) ((upd F3 k (nI cc))) ((upd F4 k (nI l5.length))) ((wr F6 cc l5)) M24 h44 h45 h46 h47 h48 h49 h50 h51 h52 h53 h54 h55 hF56 (tp57) (by obtain ⟨t1, t2, t3⟩ := s_entry_txt q71_s; omega) (by omega) (by omega) (by
                obtain ⟨t1, t2, t3⟩ := s_entry_txt q71_s
                refine hP.add (k' := k + 1) (p := p1) (by omega) (by omega) (fun j hj => updq_ne hj) (fun j hj => updq_ne hj) (fun j hj => wr_lo hj) ⟨updq_at, updq_at, fun _ => ⟨_, cc, t2, updq_at, updq_at, Nat.le_refl _, fun i hi => wr_in hi⟩, fun h7 => by omega⟩) (by
                rw [← hs, s_ents_step (by omega) q71_s, if_neg (by omega)]) (by
                obtain ⟨t1, t2, t3⟩ := s_entry_txt q71_s
                rw [chL_app, hcs, if_pos t1, t2]
                first | done | rfl)
        · skip
          obtain ⟨p'58, it'59, q71_s, q71_e, rfl, h60, h61, h62, h63, h64, h65, h66, h67, f68⟩ := q3
          have h70 := (f68.1 b (nin8 (ob_ne hl_b hl_r (by decide)) (ob_ne hl_b hl_vd (by decide)) (show b ≠ z0 by omega) (show b ≠ (z0 + 1) by omega) (show b ≠ (z0 + 2) by omega) (show b ≠ (z0 + 3) by omega) (show b ≠ (z0 + 4) by omega) (show b ≠ (z0 + 6) by omega))).trans hl_b
          have h71 := (f68.1 da (nin8 (Ne.symm (ob_ar hl_r hl_da)) (Ne.symm (ob_ar hl_vd hl_da)) (show da ≠ z0 by omega) (show da ≠ (z0 + 1) by omega) (show da ≠ (z0 + 2) by omega) (show da ≠ (z0 + 3) by omega) (show da ≠ (z0 + 4) by omega) (show da ≠ (z0 + 6) by omega))).trans hl_da
          have h72 := (f68.1 c (nin8 (ob_ne hl_c hl_r (by decide)) (ob_ne hl_c hl_vd (by decide)) (show c ≠ z0 by omega) (show c ≠ (z0 + 1) by omega) (show c ≠ (z0 + 2) by omega) (show c ≠ (z0 + 3) by omega) (show c ≠ (z0 + 4) by omega) (show c ≠ (z0 + 6) by omega))).trans hl_c
          have h73 := (f68.1 (z0 + 5) (nin8 (show (z0 + 5) ≠ r by omega) (show (z0 + 5) ≠ vd by omega) (show (z0 + 5) ≠ z0 by omega) (show (z0 + 5) ≠ (z0 + 1) by omega) (show (z0 + 5) ≠ (z0 + 2) by omega) (show (z0 + 5) ≠ (z0 + 3) by omega) (show (z0 + 5) ≠ (z0 + 4) by omega) (show (z0 + 5) ≠ (z0 + 6) by omega))).trans hl_z0___5
          have hF74 := hF1.trf f68 (by intro z hz; simp only [List.mem_cons, List.not_mem_nil, or_false] at hz ⊢; try omega)
          have tp75 : M2.2.1 = z0 + 7 := by rw [f68.2]; exact tp1
          show pl _ _ _ (74, [(0, .ref r), (2, .ref z0), (3, .int (nI k))], [.int 1], M2) _
          refine ps_if (S1 := (79, [(0, .ref r), (2, .ref z0), (3, .int (nI k))], [], M2)) (S2 := (77, [(0, .ref r), (2, .ref z0), (3, .int (nI k))], [], M2)) rfl rfl rfl (fun c_74 => ?_) (fun c_74 => ?_)
          rotate_left
          · exact absurd (by decide) (of_decide_eq_false c_74)
          refine ps_st (S' := (80, [(0, .ref r), (2, .ref z0), (3, .int (nI k))], [.int (nI k)], M2)) rfl rfl rfl ?_
          refine ps_st (S' := (81, [(0, .ref r), (2, .ref z0), (3, .int (nI k))], [.ref z0, .int (nI k)], M2)) rfl rfl rfl ?_
          refine ps_st (S' := (82, [(0, .ref r), (2, .ref z0), (3, .int (nI k))], [.int (nI k), .ref z0, .int (nI k)], M2)) rfl rfl rfl ?_
          refine pl_call (a := [.ref z0, .int (nI k)]) (rest := [.int (nI k)]) rfl rfl rfl (dx_isWide h64 h60 (by unfold hldC; omega) (by unfold hldC; omega) (updq_at) (by1_lt _ _)) (fun v76 M77 q78 => ?_)
          rcases q78 with q78 | q78
          · skip
            obtain ⟨q82_y, rfl, f79⟩ := q78
            have h81 := (f79.1 r (by simp)).trans h62
            have h82 := (f79.1 b (by simp)).trans h70
            have h83 := (f79.1 da (by simp)).trans h71
            have h84 := (f79.1 vd (by simp)).trans h63
            have h85 := (f79.1 c (by simp)).trans h72
            have h86 := (f79.1 z0 (by simp)).trans h64
            have h87 := (f79.1 (z0 + 1) (by simp)).trans h60
            have h88 := (f79.1 (z0 + 2) (by simp)).trans h61
            have h89 := (f79.1 (z0 + 3) (by simp)).trans h65
            have h90 := (f79.1 (z0 + 4) (by simp)).trans h66
            have h91 := (f79.1 (z0 + 5) (by simp)).trans h73
            have h92 := (f79.1 (z0 + 6) (by simp)).trans h67
            have hF93 := hF74.trf f79 (by intro z hz; simp only [List.mem_cons, List.not_mem_nil, or_false] at hz ⊢; try omega)
            have tp94 : M77.2.1 = z0 + 7 := by rw [f79.2]; exact tp75
            show pl _ _ _ (85, [(0, .ref r), (2, .ref z0), (3, .int (nI k))], [.int 1, .int (nI k)], M77) _
            refine ps_if (S1 := (92, [(0, .ref r), (2, .ref z0), (3, .int (nI k))], [.int (nI k)], M77)) (S2 := (88, [(0, .ref r), (2, .ref z0), (3, .int (nI k))], [.int (nI k)], M77)) rfl rfl rfl (fun c_85 => ?_) (fun c_85 => ?_)
            · exact absurd (of_decide_eq_true c_85) (by decide)
            refine ps_st (S' := (89, [(0, .ref r), (2, .ref z0), (3, .int (nI k))], [.int 2, .int (nI k)], M77)) rfl rfl rfl ?_
            refine ps_st (S' := (93, [(0, .ref r), (2, .ref z0)], [.int 2, .int (nI k)], M77)) rfl rfl rfl ?_
            refine ps_st (S' := (94, [(0, .ref r), (2, .ref z0)], [.int ((nI k) + 2)], M77)) rfl rfl rfl ?_
            rw [nI_add1 (p := k) (k := 2) (x := 2) rfl (by omega)]
            show pl _ _ _ (_, [(0, .ref r), (2, .ref z0)], [.int (nI (k + 2))], M77) _
            refine ps_st (S' := (95, [(3, .int (nI (k + 2))), (0, .ref r), (2, .ref z0)], [], M77)) rfl rfl rfl ?_
            refine ps_st (S' := (61, [(0, .ref r), (2, .ref z0), (3, .int (nI (k + 2)))], [], M77)) rfl rfl rfl ?_
            exact ih (k + 2) (p'58) (cc) (E ++ [(k, p1)]) (it'59) ((upd F1 k (nI (by1 f p1)))) ((upd F2 k (nI p1))) (F3) (F4) (F6) M77 h81 h82 h83 h84 h85 h86 h87 h88 h89 h90 h91 h92 hF93 (tp94) (by have t1 := s_entry_pl q71_s; omega) (by omega) (by omega) (by
                have t1 := s_entry_pl q71_s
                refine hP.add (k' := k + 2) (p := p1) (by omega) (by omega) (fun j hj => rfl) (fun j hj => rfl) (fun j hj => rfl) ⟨updq_at, updq_at, fun h1 => by omega, fun h7 => by omega⟩) (by
                rw [← hs, s_ents_step (by omega) q71_s, if_pos (by omega)]) (by
                have t1 := s_entry_pl q71_s
                rw [chL_app, hcs, if_neg (by omega)]
                first | done | rfl)
          · skip
            obtain ⟨q82_n, rfl, f95⟩ := q78
            have h97 := (f95.1 r (by simp)).trans h62
            have h98 := (f95.1 b (by simp)).trans h70
            have h99 := (f95.1 da (by simp)).trans h71
            have h100 := (f95.1 vd (by simp)).trans h63
            have h101 := (f95.1 c (by simp)).trans h72
            have h102 := (f95.1 z0 (by simp)).trans h64
            have h103 := (f95.1 (z0 + 1) (by simp)).trans h60
            have h104 := (f95.1 (z0 + 2) (by simp)).trans h61
            have h105 := (f95.1 (z0 + 3) (by simp)).trans h65
            have h106 := (f95.1 (z0 + 4) (by simp)).trans h66
            have h107 := (f95.1 (z0 + 5) (by simp)).trans h73
            have h108 := (f95.1 (z0 + 6) (by simp)).trans h67
            have hF109 := hF74.trf f95 (by intro z hz; simp only [List.mem_cons, List.not_mem_nil, or_false] at hz ⊢; try omega)
            have tp110 : M77.2.1 = z0 + 7 := by rw [f95.2]; exact tp75
            show pl _ _ _ (85, [(0, .ref r), (2, .ref z0), (3, .int (nI k))], [.int 0, .int (nI k)], M77) _
            refine ps_if (S1 := (92, [(0, .ref r), (2, .ref z0), (3, .int (nI k))], [.int (nI k)], M77)) (S2 := (88, [(0, .ref r), (2, .ref z0), (3, .int (nI k))], [.int (nI k)], M77)) rfl rfl rfl (fun c_85 => ?_) (fun c_85 => ?_)
            rotate_left
            · exact absurd (by decide) (of_decide_eq_false c_85)
            refine ps_st (S' := (93, [(0, .ref r), (2, .ref z0)], [.int 1, .int (nI k)], M77)) rfl rfl rfl ?_
            refine ps_st (S' := (94, [(0, .ref r), (2, .ref z0)], [.int ((nI k) + 1)], M77)) rfl rfl rfl ?_
            rw [nI_add1 (p := k) (k := 1) (x := 1) rfl (by omega)]
            show pl _ _ _ (_, [(0, .ref r), (2, .ref z0)], [.int (nI (k + 1))], M77) _
            refine ps_st (S' := (95, [(3, .int (nI (k + 1))), (0, .ref r), (2, .ref z0)], [], M77)) rfl rfl rfl ?_
            refine ps_st (S' := (61, [(0, .ref r), (2, .ref z0), (3, .int (nI (k + 1)))], [], M77)) rfl rfl rfl ?_
            exact ih (k + 1) (p'58) (cc) (E ++ [(k, p1)]) (it'59) ((upd F1 k (nI (by1 f p1)))) ((upd F2 k (nI p1))) (F3) (F4) (F6) M77 h97 h98 h99 h100 h101 h102 h103 h104 h105 h106 h107 h108 hF109 (tp110) (by have t1 := s_entry_pl q71_s; omega) (by omega) (by omega) (by
                have t1 := s_entry_pl q71_s
                refine hP.add (k' := k + 1) (p := p1) (by omega) (by omega) (fun j hj => rfl) (fun j hj => rfl) (fun j hj => rfl) ⟨updq_at, updq_at, fun h1 => by omega, fun h7 => by omega⟩) (by
                rw [← hs, s_ents_step (by omega) q71_s, if_neg (by omega)]) (by
                have t1 := s_entry_pl q71_s
                rw [chL_app, hcs, if_neg (by omega)]
                first | done | rfl)
        · skip
          obtain ⟨p'111, x112, y113, it'114, q71_s, q71_e, rfl, h115, h116, h117, h118, h119, h120, h121, h122, f123⟩ := q3
          have h125 := (f123.1 b (nin8 (ob_ne hl_b hl_r (by decide)) (ob_ne hl_b hl_vd (by decide)) (show b ≠ z0 by omega) (show b ≠ (z0 + 1) by omega) (show b ≠ (z0 + 2) by omega) (show b ≠ (z0 + 3) by omega) (show b ≠ (z0 + 4) by omega) (show b ≠ (z0 + 6) by omega))).trans hl_b
          have h126 := (f123.1 da (nin8 (Ne.symm (ob_ar hl_r hl_da)) (Ne.symm (ob_ar hl_vd hl_da)) (show da ≠ z0 by omega) (show da ≠ (z0 + 1) by omega) (show da ≠ (z0 + 2) by omega) (show da ≠ (z0 + 3) by omega) (show da ≠ (z0 + 4) by omega) (show da ≠ (z0 + 6) by omega))).trans hl_da
          have h127 := (f123.1 c (nin8 (ob_ne hl_c hl_r (by decide)) (ob_ne hl_c hl_vd (by decide)) (show c ≠ z0 by omega) (show c ≠ (z0 + 1) by omega) (show c ≠ (z0 + 2) by omega) (show c ≠ (z0 + 3) by omega) (show c ≠ (z0 + 4) by omega) (show c ≠ (z0 + 6) by omega))).trans hl_c
          have h128 := (f123.1 (z0 + 5) (nin8 (show (z0 + 5) ≠ r by omega) (show (z0 + 5) ≠ vd by omega) (show (z0 + 5) ≠ z0 by omega) (show (z0 + 5) ≠ (z0 + 1) by omega) (show (z0 + 5) ≠ (z0 + 2) by omega) (show (z0 + 5) ≠ (z0 + 3) by omega) (show (z0 + 5) ≠ (z0 + 4) by omega) (show (z0 + 5) ≠ (z0 + 6) by omega))).trans hl_z0___5
          have hF129 := hF1.trf f123 (by intro z hz; simp only [List.mem_cons, List.not_mem_nil, or_false] at hz ⊢; try omega)
          have tp130 : M2.2.1 = z0 + 7 := by rw [f123.2]; exact tp1
          show pl _ _ _ (74, [(0, .ref r), (2, .ref z0), (3, .int (nI k))], [.int 1], M2) _
          refine ps_if (S1 := (79, [(0, .ref r), (2, .ref z0), (3, .int (nI k))], [], M2)) (S2 := (77, [(0, .ref r), (2, .ref z0), (3, .int (nI k))], [], M2)) rfl rfl rfl (fun c_74 => ?_) (fun c_74 => ?_)
          rotate_left
          · exact absurd (by decide) (of_decide_eq_false c_74)
          refine ps_st (S' := (80, [(0, .ref r), (2, .ref z0), (3, .int (nI k))], [.int (nI k)], M2)) rfl rfl rfl ?_
          refine ps_st (S' := (81, [(0, .ref r), (2, .ref z0), (3, .int (nI k))], [.ref z0, .int (nI k)], M2)) rfl rfl rfl ?_
          refine ps_st (S' := (82, [(0, .ref r), (2, .ref z0), (3, .int (nI k))], [.int (nI k), .ref z0, .int (nI k)], M2)) rfl rfl rfl ?_
          refine pl_call (a := [.ref z0, .int (nI k)]) (rest := [.int (nI k)]) rfl rfl rfl (dx_isWide h119 h115 (by unfold hldC; omega) (by unfold hldC; omega) (updq_at) (by1_lt _ _)) (fun v131 M132 q133 => ?_)
          rcases q133 with q133 | q133
          · skip
            obtain ⟨q82_y, rfl, f134⟩ := q133
            have h136 := (f134.1 r (by simp)).trans h117
            have h137 := (f134.1 b (by simp)).trans h125
            have h138 := (f134.1 da (by simp)).trans h126
            have h139 := (f134.1 vd (by simp)).trans h118
            have h140 := (f134.1 c (by simp)).trans h127
            have h141 := (f134.1 z0 (by simp)).trans h119
            have h142 := (f134.1 (z0 + 1) (by simp)).trans h115
            have h143 := (f134.1 (z0 + 2) (by simp)).trans h116
            have h144 := (f134.1 (z0 + 3) (by simp)).trans h120
            have h145 := (f134.1 (z0 + 4) (by simp)).trans h121
            have h146 := (f134.1 (z0 + 5) (by simp)).trans h128
            have h147 := (f134.1 (z0 + 6) (by simp)).trans h122
            have hF148 := hF129.trf f134 (by intro z hz; simp only [List.mem_cons, List.not_mem_nil, or_false] at hz ⊢; try omega)
            have tp149 : M132.2.1 = z0 + 7 := by rw [f134.2]; exact tp130
            show pl _ _ _ (85, [(0, .ref r), (2, .ref z0), (3, .int (nI k))], [.int 1, .int (nI k)], M132) _
            refine ps_if (S1 := (92, [(0, .ref r), (2, .ref z0), (3, .int (nI k))], [.int (nI k)], M132)) (S2 := (88, [(0, .ref r), (2, .ref z0), (3, .int (nI k))], [.int (nI k)], M132)) rfl rfl rfl (fun c_85 => ?_) (fun c_85 => ?_)
            · exact absurd (of_decide_eq_true c_85) (by decide)
            refine ps_st (S' := (89, [(0, .ref r), (2, .ref z0), (3, .int (nI k))], [.int 2, .int (nI k)], M132)) rfl rfl rfl ?_
            refine ps_st (S' := (93, [(0, .ref r), (2, .ref z0)], [.int 2, .int (nI k)], M132)) rfl rfl rfl ?_
            refine ps_st (S' := (94, [(0, .ref r), (2, .ref z0)], [.int ((nI k) + 2)], M132)) rfl rfl rfl ?_
            rw [nI_add1 (p := k) (k := 2) (x := 2) rfl (by omega)]
            show pl _ _ _ (_, [(0, .ref r), (2, .ref z0)], [.int (nI (k + 2))], M132) _
            refine ps_st (S' := (95, [(3, .int (nI (k + 2))), (0, .ref r), (2, .ref z0)], [], M132)) rfl rfl rfl ?_
            refine ps_st (S' := (61, [(0, .ref r), (2, .ref z0), (3, .int (nI (k + 2)))], [], M132)) rfl rfl rfl ?_
            exact ih (k + 2) (p'111) (cc) (E ++ [(k, p1)]) (it'114) ((upd F1 k (nI (by1 f p1)))) ((upd F2 k (nI p1))) ((upd F3 k (nI x112))) ((upd F4 k (nI y113))) (F6) M132 h136 h137 h138 h139 h140 h141 h142 h143 h144 h145 h146 h147 hF148 (tp149) (by obtain ⟨t1, t2⟩ := s_entry_ix q71_s; omega) (by omega) (by omega) (by
                obtain ⟨t1, t2⟩ := s_entry_ix q71_s
                refine hP.add (k' := k + 2) (p := p1) (by omega) (by omega) (fun j hj => updq_ne hj) (fun j hj => updq_ne hj) (fun j hj => rfl) ⟨updq_at, updq_at, fun h1 => by omega, fun h7 => ⟨_, _, _, t1, updq_at, updq_at⟩⟩) (by
                rw [← hs, s_ents_step (by omega) q71_s, if_pos (by omega)]) (by
                obtain ⟨t1, t2⟩ := s_entry_ix q71_s
                rw [chL_app, hcs, if_neg (by omega)]
                first | done | rfl)
          · skip
            obtain ⟨q82_n, rfl, f150⟩ := q133
            have h152 := (f150.1 r (by simp)).trans h117
            have h153 := (f150.1 b (by simp)).trans h125
            have h154 := (f150.1 da (by simp)).trans h126
            have h155 := (f150.1 vd (by simp)).trans h118
            have h156 := (f150.1 c (by simp)).trans h127
            have h157 := (f150.1 z0 (by simp)).trans h119
            have h158 := (f150.1 (z0 + 1) (by simp)).trans h115
            have h159 := (f150.1 (z0 + 2) (by simp)).trans h116
            have h160 := (f150.1 (z0 + 3) (by simp)).trans h120
            have h161 := (f150.1 (z0 + 4) (by simp)).trans h121
            have h162 := (f150.1 (z0 + 5) (by simp)).trans h128
            have h163 := (f150.1 (z0 + 6) (by simp)).trans h122
            have hF164 := hF129.trf f150 (by intro z hz; simp only [List.mem_cons, List.not_mem_nil, or_false] at hz ⊢; try omega)
            have tp165 : M132.2.1 = z0 + 7 := by rw [f150.2]; exact tp130
            show pl _ _ _ (85, [(0, .ref r), (2, .ref z0), (3, .int (nI k))], [.int 0, .int (nI k)], M132) _
            refine ps_if (S1 := (92, [(0, .ref r), (2, .ref z0), (3, .int (nI k))], [.int (nI k)], M132)) (S2 := (88, [(0, .ref r), (2, .ref z0), (3, .int (nI k))], [.int (nI k)], M132)) rfl rfl rfl (fun c_85 => ?_) (fun c_85 => ?_)
            rotate_left
            · exact absurd (by decide) (of_decide_eq_false c_85)
            refine ps_st (S' := (93, [(0, .ref r), (2, .ref z0)], [.int 1, .int (nI k)], M132)) rfl rfl rfl ?_
            refine ps_st (S' := (94, [(0, .ref r), (2, .ref z0)], [.int ((nI k) + 1)], M132)) rfl rfl rfl ?_
            rw [nI_add1 (p := k) (k := 1) (x := 1) rfl (by omega)]
            show pl _ _ _ (_, [(0, .ref r), (2, .ref z0)], [.int (nI (k + 1))], M132) _
            refine ps_st (S' := (95, [(3, .int (nI (k + 1))), (0, .ref r), (2, .ref z0)], [], M132)) rfl rfl rfl ?_
            refine ps_st (S' := (61, [(0, .ref r), (2, .ref z0), (3, .int (nI (k + 1)))], [], M132)) rfl rfl rfl ?_
            exact ih (k + 1) (p'111) (cc) (E ++ [(k, p1)]) (it'114) ((upd F1 k (nI (by1 f p1)))) ((upd F2 k (nI p1))) ((upd F3 k (nI x112))) ((upd F4 k (nI y113))) (F6) M132 h152 h153 h154 h155 h156 h157 h158 h159 h160 h161 h162 h163 hF164 (tp165) (by obtain ⟨t1, t2⟩ := s_entry_ix q71_s; omega) (by omega) (by omega) (by
                obtain ⟨t1, t2⟩ := s_entry_ix q71_s
                refine hP.add (k' := k + 1) (p := p1) (by omega) (by omega) (fun j hj => updq_ne hj) (fun j hj => updq_ne hj) (fun j hj => rfl) ⟨updq_at, updq_at, fun h1 => by omega, fun h7 => ⟨_, _, _, t1, updq_at, updq_at⟩⟩) (by
                rw [← hs, s_ents_step (by omega) q71_s, if_neg (by omega)]) (by
                obtain ⟨t1, t2⟩ := s_entry_ix q71_s
                rw [chL_app, hcs, if_neg (by omega)]
                first | done | rfl)
        · skip
          obtain ⟨e166, q71_s, rfl, h167, f168⟩ := q3
          have h170 := (f168.1 b (nin8 (ob_ne hl_b hl_r (by decide)) (ob_ne hl_b hl_vd (by decide)) (show b ≠ z0 by omega) (show b ≠ (z0 + 1) by omega) (show b ≠ (z0 + 2) by omega) (show b ≠ (z0 + 3) by omega) (show b ≠ (z0 + 4) by omega) (show b ≠ (z0 + 6) by omega))).trans hl_b
          have h171 := (f168.1 da (nin8 (Ne.symm (ob_ar hl_r hl_da)) (Ne.symm (ob_ar hl_vd hl_da)) (show da ≠ z0 by omega) (show da ≠ (z0 + 1) by omega) (show da ≠ (z0 + 2) by omega) (show da ≠ (z0 + 3) by omega) (show da ≠ (z0 + 4) by omega) (show da ≠ (z0 + 6) by omega))).trans hl_da
          have h172 := (f168.1 c (nin8 (ob_ne hl_c hl_r (by decide)) (ob_ne hl_c hl_vd (by decide)) (show c ≠ z0 by omega) (show c ≠ (z0 + 1) by omega) (show c ≠ (z0 + 2) by omega) (show c ≠ (z0 + 3) by omega) (show c ≠ (z0 + 4) by omega) (show c ≠ (z0 + 6) by omega))).trans hl_c
          have h173 := (f168.1 (z0 + 5) (nin8 (show (z0 + 5) ≠ r by omega) (show (z0 + 5) ≠ vd by omega) (show (z0 + 5) ≠ z0 by omega) (show (z0 + 5) ≠ (z0 + 1) by omega) (show (z0 + 5) ≠ (z0 + 2) by omega) (show (z0 + 5) ≠ (z0 + 3) by omega) (show (z0 + 5) ≠ (z0 + 4) by omega) (show (z0 + 5) ≠ (z0 + 6) by omega))).trans hl_z0___5
          have hF174 := hF1.trf f168 (by intro z hz; simp only [List.mem_cons, List.not_mem_nil, or_false] at hz ⊢; try omega)
          have tp175 : M2.2.1 = z0 + 7 := by rw [f168.2]; exact tp1
          show pl _ _ _ (74, [(0, .ref r), (2, .ref z0), (3, .int (nI k))], [.int 0], M2) _
          refine ps_if (S1 := (79, [(0, .ref r), (2, .ref z0), (3, .int (nI k))], [], M2)) (S2 := (77, [(0, .ref r), (2, .ref z0), (3, .int (nI k))], [], M2)) rfl rfl rfl (fun c_74 => ?_) (fun c_74 => ?_)
          · exact absurd (of_decide_eq_true c_74) (by decide)
          refine ps_st (S' := (78, [(0, .ref r), (2, .ref z0), (3, .int (nI k))], [.int 0], M2)) rfl rfl rfl ?_
          exact ps_ret rfl rfl (Or.inr ⟨_, by
              unfold s_pool
              rw [if_neg (by omega), if_neg (by omega), ← hs]
              exact s_ents_bad (by omega) q71_s, rfl, h167, hF174, hF174.2⟩)
  refine ps_st (S' := (1, [(0, .ref r)], [.ref r], M)) rfl rfl rfl ?_
  refine ps_get (S' := (4, [(0, .ref r)], [.int (nI 8)], M)) rfl h_r rfl rfl ?_
  refine ps_st (S' := (5, [(1, .int (nI 8)), (0, .ref r)], [], M)) rfl rfl rfl ?_
  refine ps_st (S' := (6, [(1, .int (nI 8)), (0, .ref r)], [.ref r], M)) rfl rfl rfl ?_
  refine ps_st (S' := (7, [(1, .int (nI 8)), (0, .ref r)], [.int 2, .ref r], M)) rfl rfl rfl ?_
  refine pl_call (a := [.ref r, .int 2]) (rest := []) rfl rfl rfl (dx_takes2 h_r h_b h_da h_vd (hn) (by omega)) (fun v176 M177 q178 => ?_)
  rcases q178 with q178 | q178
  · skip
    obtain ⟨q7_ok, rfl, h179, h180, f181⟩ := q178
    have h183 := (f181.1 b (nin2 (ob_ne h_b h_r (by decide)) (ob_ne h_b h_vd (by decide)))).trans h_b
    have h184 := (f181.1 da (nin2 (Ne.symm (ob_ar h_r h_da)) (Ne.symm (ob_ar h_vd h_da)))).trans h_da
    have h185 := (f181.1 c (nin2 (ob_ne h_c h_r (by decide)) (ob_ne h_c h_vd (by decide)))).trans h_c
    have hF186 := hF.trf f181 (by intro z hz; simp only [List.mem_cons, List.not_mem_nil, or_false] at hz ⊢; try omega)
    have tp187 : M177.2.1 = z0 := by rw [f181.2]; exact tp0
    show pl _ _ _ (10, [(1, .int (nI 8)), (0, .ref r)], [.int 1], M177) _
    refine ps_if (S1 := (15, [(1, .int (nI 8)), (0, .ref r)], [], M177)) (S2 := (13, [(1, .int (nI 8)), (0, .ref r)], [], M177)) rfl rfl rfl (fun c_10 => ?_) (fun c_10 => ?_)
    rotate_left
    · exact absurd (by decide) (of_decide_eq_false c_10)
    refine ps_st (S' := (16, [(1, .int (nI 8)), (0, .ref r)], [.ref r], M177)) rfl rfl rfl ?_
    refine ps_get (S' := (19, [(1, .int (nI 8)), (0, .ref r)], [.int (nI (by2 f 8))], M177)) rfl h179 rfl rfl ?_
    refine ps_if (S1 := (32, [(1, .int (nI 8)), (0, .ref r)], [], M177)) (S2 := (22, [(1, .int (nI 8)), (0, .ref r)], [], M177)) rfl rfl rfl (fun c_19 => ?_) (fun c_19 => ?_)
    · have c_19 : ¬ (nI (by2 f 8)) = 0 := of_decide_eq_true c_19
      have n_19 : ¬ (by2 f 8 = 0) := fun h9 => c_19 ((eq_nI (p := by2 f 8) (n := 0) (Nat.lt_trans (by2_lt _ _) (by decide)) (by decide)).mpr h9)
      refine ps_newz rfl tp187 (fun M188 h189 f190 tp191 => ?_)
      have h192 := (f190 r (show r ≠ z0 by omega)).trans h179
      have h193 := (f190 b (show b ≠ z0 by omega)).trans h183
      have h194 := (f190 da (show da ≠ z0 by omega)).trans h184
      have h195 := (f190 vd (show vd ≠ z0 by omega)).trans h180
      have h196 := (f190 c (show c ≠ z0 by omega)).trans h185
      have hF197 := hF186.up (Or.inr (by omega)) f190 (by omega)
      show pl _ _ _ (35, [(1, .int (nI 8)), (0, .ref r)], [.ref z0], M188) _
      refine ps_st (S' := (36, [(1, .int (nI 8)), (0, .ref r)], [.ref z0, .ref z0], M188)) rfl rfl rfl ?_
      refine ps_st (S' := (37, [(1, .int (nI 8)), (0, .ref r)], [.ref r, .ref z0, .ref z0], M188)) rfl rfl rfl ?_
      refine ps_get (S' := (40, [(1, .int (nI 8)), (0, .ref r)], [.int (nI (by2 f 8)), .ref z0, .ref z0], M188)) rfl h192 rfl rfl ?_
      refine ps_st (S' := (41, [(1, .int (nI 8)), (0, .ref r)], [.ref r, .int (nI (by2 f 8)), .ref z0, .ref z0], M188)) rfl rfl rfl ?_
      refine ps_get (S' := (44, [(1, .int (nI 8)), (0, .ref r)], [.ref b, .int (nI (by2 f 8)), .ref z0, .ref z0], M188)) rfl h192 rfl rfl ?_
      refine pl_call (a := [.ref b]) (rest := [.int (nI (by2 f 8)), .ref z0, .ref z0]) rfl rfl rfl (dx_size h193 h194 (hn)) (fun v198 M199 q200 => ?_)
      obtain ⟨rfl, f201⟩ := q200
      have h203 := (f201.1 r (by simp)).trans h192
      have h204 := (f201.1 b (by simp)).trans h193
      have h205 := (f201.1 da (by simp)).trans h194
      have h206 := (f201.1 vd (by simp)).trans h195
      have h207 := (f201.1 c (by simp)).trans h196
      have h208 := (f201.1 z0 (by simp)).trans h189
      have hF209 := hF197.trf f201 (by intro z hz; simp only [List.mem_cons, List.not_mem_nil, or_false] at hz ⊢; try omega)
      have tp210 : M199.2.1 = z0 + 1 := by rw [f201.2]; exact tp191
      show pl _ _ _ (47, [(1, .int (nI 8)), (0, .ref r)], [.int (sp_size n f ), .int (nI (by2 f 8)), .ref z0, .ref z0], M199) _
      refine pl_call (a := [.ref z0, .int (nI (by2 f 8)), .int (sp_size n f )]) (rest := [.ref z0]) rfl rfl rfl (dx_pool h208 (by omega) (by2_lt _ _) (hn)) (fun v211 M212 q213 => ?_)
      obtain ⟨rfl, h214, h215, h216, h217, h218, h219, h220, f221, tp222⟩ := q213
      rw [tp210] at h214 h215 h216 h217 h218 h219 h220 tp222
      have h223 := (f221.1 r (by omega) (nin1 (show r ≠ z0 by omega))).trans h203
      have h224 := (f221.1 b (by omega) (nin1 (show b ≠ z0 by omega))).trans h204
      have h225 := (f221.1 da (by omega) (nin1 (show da ≠ z0 by omega))).trans h205
      have h226 := (f221.1 vd (by omega) (nin1 (show vd ≠ z0 by omega))).trans h206
      have h227 := (f221.1 c (by omega) (nin1 (show c ≠ z0 by omega))).trans h207
      have hF228 := hF209.tr f221 (by intro z hz; simp only [List.mem_cons, List.not_mem_nil, or_false] at hz ⊢; try omega)
      show pl _ _ _ (50, [(1, .int (nI 8)), (0, .ref r)], [.ref z0], M212) _
      refine ps_st (S' := (51, [(2, .ref z0), (1, .int (nI 8)), (0, .ref r)], [], M212)) rfl rfl rfl ?_
      refine ps_st (S' := (52, [(2, .ref z0), (1, .int (nI 8)), (0, .ref r)], [.ref r], M212)) rfl rfl rfl ?_
      refine ps_get (S' := (55, [(2, .ref z0), (1, .int (nI 8)), (0, .ref r)], [.ref c], M212)) rfl h223 rfl rfl ?_
      refine ps_st (S' := (56, [(2, .ref z0), (1, .int (nI 8)), (0, .ref r)], [.ref z0, .ref c], M212)) rfl rfl rfl ?_
      refine ps_put (l' := [.ref b, .ref z0, .int mi, .int (nI mj), .int fa, .int ic, u6, u7, .int ac, .int aa, .int k1, .int k2, .int k3, .int k4, .int k5, .int k6, .int k7]) rfl h227 rfl rfl (fun M229 h230 f231 z232 => ?_)
      have h233 := (f231 r (ob_ne h223 h227 (by decide))).trans h223
      have h234 := (f231 b (ob_ne h224 h227 (by decide))).trans h224
      have h235 := (f231 da (Ne.symm (ob_ar h227 h225))).trans h225
      have h236 := (f231 vd (ob_ne h226 h227 (by decide))).trans h226
      have h237 := (f231 z0 (show z0 ≠ c by omega)).trans h214
      have h238 := (f231 (z0 + 1) (show (z0 + 1) ≠ c by omega)).trans h215
      have h239 := (f231 (z0 + 2) (show (z0 + 2) ≠ c by omega)).trans h216
      have h240 := (f231 (z0 + 3) (show (z0 + 3) ≠ c by omega)).trans h217
      have h241 := (f231 (z0 + 4) (show (z0 + 4) ≠ c by omega)).trans h218
      have h242 := (f231 (z0 + 5) (show (z0 + 5) ≠ c by omega)).trans h219
      have h243 := (f231 (z0 + 6) (show (z0 + 6) ≠ c by omega)).trans h220
      have hF244 := hF228.up (Or.inl (by simp)) f231 (by rw [z232]; exact Nat.le_refl _)
      have tp245 : M229.2.1 = z0 + 7 := by rw [z232]; exact tp222
      show pl _ _ _ (59, [(2, .ref z0), (1, .int (nI 8)), (0, .ref r)], [], M229) _
      refine ps_st (S' := (60, [(2, .ref z0), (1, .int (nI 8)), (0, .ref r)], [.int 1], M229)) rfl rfl rfl ?_
      refine ps_st (S' := (61, [(0, .ref r), (2, .ref z0), (3, .int 1)], [], M229)) rfl rfl rfl ?_
      exact L61 kf (1) (10) (0) ([]) ((nI (by2 f 8))) (fun _ => 0) (fun _ => 0) (fun _ => 0) (fun _ => 0) (fun _ => 0) M229 h233 h234 h235 h236 h230 h237 h238 h239 h240 h241 h242 h243 hF244 (tp245) (by omega) (by omega) (by omega) (⟨fun q hq => by simp at hq, fun j hj => rfl⟩) (rfl) (rfl)
    · have c_19 : ¬ (¬ (nI (by2 f 8)) = 0) := of_decide_eq_false c_19
      have n_19 : by2 f 8 = 0 := (eq_nI (p := by2 f 8) (n := 0) (Nat.lt_trans (by2_lt _ _) (by decide)) (by decide)).mp (Decidable.not_not.mp c_19)
      refine ps_st (S' := (23, [(1, .int (nI 8)), (0, .ref r)], [.ref r], M177)) rfl rfl rfl ?_
      refine ps_get (S' := (26, [(1, .int (nI 8)), (0, .ref r)], [.ref vd], M177)) rfl h179 rfl rfl ?_
      refine ps_st (S' := (27, [(1, .int (nI 8)), (0, .ref r)], [.int 4, .ref vd], M177)) rfl rfl rfl ?_
      refine ps_st (S' := (28, [(1, .int (nI 8)), (0, .ref r)], [.int (nI 8), .int 4, .ref vd], M177)) rfl rfl rfl ?_
      refine pl_call (a := [.ref vd, .int 4, .int (nI 8)]) (rest := []) rfl rfl rfl (dx_wrong h180) (fun v246 M247 q248 => ?_)
      obtain ⟨rfl, h249, f250⟩ := q248
      have h252 := (f250.1 r (nin1 (ob_ne h179 h180 (by decide)))).trans h179
      have h253 := (f250.1 b (nin1 (ob_ne h183 h180 (by decide)))).trans h183
      have h254 := (f250.1 da (nin1 (Ne.symm (ob_ar h180 h184)))).trans h184
      have h255 := (f250.1 c (nin1 (ob_ne h185 h180 (by decide)))).trans h185
      have hF256 := hF186.trf f250 (by intro z hz; simp only [List.mem_cons, List.not_mem_nil, or_false] at hz ⊢; try omega)
      have tp257 : M247.2.1 = z0 := by rw [f250.2]; exact tp187
      show pl _ _ _ (31, [(1, .int (nI 8)), (0, .ref r)], [.int 0], M247) _
      exact ps_ret rfl rfl (Or.inr ⟨(4, 8), by
          unfold s_pool
          rw [if_neg (by omega), if_pos (by omega)], rfl, h249, hF256, hF256.2⟩)
  · skip
    obtain ⟨q7_no, rfl, h258, h259, f260⟩ := q178
    have h262 := (f260.1 b (nin2 (ob_ne h_b h_r (by decide)) (ob_ne h_b h_vd (by decide)))).trans h_b
    have h263 := (f260.1 da (nin2 (Ne.symm (ob_ar h_r h_da)) (Ne.symm (ob_ar h_vd h_da)))).trans h_da
    have h264 := (f260.1 c (nin2 (ob_ne h_c h_r (by decide)) (ob_ne h_c h_vd (by decide)))).trans h_c
    have hF265 := hF.trf f260 (by intro z hz; simp only [List.mem_cons, List.not_mem_nil, or_false] at hz ⊢; try omega)
    have tp266 : M177.2.1 = z0 := by rw [f260.2]; exact tp0
    show pl _ _ _ (10, [(1, .int (nI 8)), (0, .ref r)], [.int 0], M177) _
    refine ps_if (S1 := (15, [(1, .int (nI 8)), (0, .ref r)], [], M177)) (S2 := (13, [(1, .int (nI 8)), (0, .ref r)], [], M177)) rfl rfl rfl (fun c_10 => ?_) (fun c_10 => ?_)
    · exact absurd (of_decide_eq_true c_10) (by decide)
    refine ps_st (S' := (14, [(1, .int (nI 8)), (0, .ref r)], [.int 0], M177)) rfl rfl rfl ?_
    exact ps_ret rfl rfl (Or.inr ⟨(1, 8), by
        unfold s_pool
        rw [if_pos (by omega)], rfl, h259, hF265, hF265.2⟩)
end
section
/-! what a file's pool holds, as both sides see it (my own text) -/
section VWA
/-- the place of aN entry -/
def lk : List (Nat × Nat) → Nat → Option Nat
  | [], _ => none
  | q :: r, j => if q.1 = j then some q.2 else lk r j
theorem lk_in : ∀ {E : List (Nat × Nat)} {j p : Nat}, lk E j = some p → (j, p) ∈ E := by
  intro E
  induction E with
  | nil => intro j p h; cases h
  | cons q r ih =>
    intro j p h
    unfold lk at h
    split at h
    · rename_i h1
      cases h
      rw [← h1]
      exact List.mem_cons_self
    · exact List.mem_cons_of_mem _ (ih h)
theorem lk_no : ∀ {E : List (Nat × Nat)} {j : Nat}, lk E j = none → ∀ q ∈ E, ¬ q.1 = j := by
  intro E
  induction E with
  | nil => intro j h q hq; cases hq
  | cons q0 r ih =>
    intro j h q hq
    unfold lk at h
    split at h
    · cases h
    · rename_i h1
      rcases List.mem_cons.mp hq with rfl | hq
      · exact h1
      · exact ih h q hq
def tg (f : Nat → Int32) (E : List (Nat × Nat)) (j : Nat) : Nat := match lk E j with
  | some p => by1 f p
  | none => 0
def ixa (f : Nat → Int32) (p : Nat) : Nat := if by1 f p < 7 then 0 else if by1 f p = 15 then by1 f (p + 1) else by2 f (p + 1)
def ixb (f : Nat → Int32) (p : Nat) : Nat := if by1 f p < 7 then 0 else if by1 f p = 15 then by2 f (p + 2) else if by1 f p = 7 ∨ by1 f p = 8 ∨ by1 f p = 16 ∨ by1 f p = 19 ∨ by1 f p = 20 then 0 else by2 f (p + 3)
def fi (f : Nat → Int32) (E : List (Nat × Nat)) (j : Nat) : Nat := match lk E j with
  | some p => ixa f p
  | none => 0
def se (f : Nat → Int32) (E : List (Nat × Nat)) (j : Nat) : Nat := match lk E j with
  | some p => ixb f p
  | none => 0
def txo (s : (Nat × Nat) ⊕ List Nat) : List Nat := match s with
  | .inl _ => []
  | .inr l => l
def tX (f : Nat → Int32) (n : Nat) (E : List (Nat × Nat)) (j : Nat) : List Nat := match lk E j with
  | some p => if by1 f p = 1 then txo (s_utf f n (p + 1)) else []
  | none => []
theorem tg_lt (f : Nat → Int32) (E : List (Nat × Nat)) (j : Nat) : tg f E j < 256 := by
  unfold tg
  split
  · exact by1_lt _ _
  · omega
theorem fi_lt (f : Nat → Int32) (E : List (Nat × Nat)) (j : Nat) : fi f E j < 65536 := by
  unfold fi ixa
  split
  · rename_i p _
    have h1 := by1_lt f (p + 1)
    have h2 := by2_lt f (p + 1)
    repeat' split
    all_goals omega
  · omega
theorem se_lt (f : Nat → Int32) (E : List (Nat × Nat)) (j : Nat) : se f E j < 65536 := by
  unfold se ixb
  split
  · rename_i p _
    have h1 := by2_lt f (p + 2)
    have h2 := by2_lt f (p + 3)
    repeat' split
    all_goals omega
  · omega
theorem tx_no {f : Nat → Int32} {n : Nat} {E : List (Nat × Nat)} {j : Nat} (h : ¬ tg f E j = 1) : tX f n E j = [] := by
  unfold tg at h
  unfold tX
  split
  · rename_i p hp
    rw [hp] at h
    dsimp only at h
    rw [if_neg h]
  · rfl
theorem fi_no {f : Nat → Int32} {E : List (Nat × Nat)} {j : Nat} (h : tg f E j < 7) : fi f E j = 0 := by
  unfold tg at h
  unfold fi ixa
  split
  · rename_i p hp
    rw [hp] at h
    dsimp only at h
    rw [if_pos h]
  · rfl
theorem se_no {f : Nat → Int32} {E : List (Nat × Nat)} {j : Nat} (h : tg f E j < 7) : se f E j = 0 := by
  unfold tg at h
  unfold se ixb
  split
  · rename_i p hp
    rw [hp] at h
    dsimp only at h
    rw [if_pos h]
  · rfl
theorem s_text_ch {f : Nat → Int32} {e : Nat} : ∀ {r p : Nat} {l l' : List Nat}, (∀ c ∈ l, c < 65536) → s_text f e r p l = .inr l' → ∀ c ∈ l', c < 65536 := by
  intro r
  induction r with
  | zero => intro p l l' h hs; cases hs; exact h
  | succ r ih =>
    intro p l l' h hs
    unfold s_text at hs
    split at hs
    · cases hs; exact h
    · split at hs
      · cases hs
      · refine ih (fun c hc => ?_) hs
        rcases List.mem_append.mp hc with hc | hc
        · exact h c hc
        · have : c = u8n f p (u8k f e p) := by simpa using hc
          rw [this]
          exact (u8n_eq _ _ _).2
theorem s_text_len {f : Nat → Int32} {e : Nat} : ∀ {r p : Nat} {l l' : List Nat}, s_text f e r p l = .inr l' → l'.length ≤ l.length + r := by
  intro r
  induction r with
  | zero => intro p l l' hs; cases hs; omega
  | succ r ih =>
    intro p l l' hs
    unfold s_text at hs
    split at hs
    · cases hs; omega
    · split at hs
      · cases hs
      · have := ih hs
        simp only [List.length_append, List.length_cons, List.length_nil] at this
        omega
theorem s_utf_ch {f : Nat → Int32} {n p : Nat} : (∀ c ∈ txo (s_utf f n p), c < 65536) ∧ (txo (s_utf f n p)).length < 65536 := by
  unfold s_utf
  split
  · exact ⟨fun c hc => (by cases hc), by show 0 < 65536; decide⟩
  · split
    · exact ⟨fun c hc => (by cases hc), by show 0 < 65536; decide⟩
    · cases hs : s_text f (p + 2 + by2 f p) (by2 f p) (p + 2) [] with
      | inl w => exact ⟨fun c hc => (by cases hc), by simp [txo]⟩
      | inr l =>
        have h1 := s_text_ch (fun c hc => by cases hc) hs
        have h2 := s_text_len hs
        have h3 := by2_lt f p
        simp only [List.length_nil] at h2
        exact ⟨h1, by show l.length < 65536; omega⟩
theorem tx_len (f : Nat → Int32) (n : Nat) (E : List (Nat × Nat)) (j : Nat) : (tX f n E j).length < 65536 := by
  unfold tX
  split
  · split
    · exact s_utf_ch.2
    · simp
  · simp
theorem tx_ch (f : Nat → Int32) (n : Nat) (E : List (Nat × Nat)) (j i : Nat) : (tX f n E j).getD i 0 < 65536 := by
  have h : ∀ c ∈ tX f n E j, c < 65536 := by
    unfold tX
    split
    · split
      · exact s_utf_ch.1
      · intro c hc; cases hc
    · intro c hc; cases hc
  by_cases hi : i < (tX f n E j).length
  · rw [List.getD_eq_getElem?_getD, List.getElem?_eq_getElem hi, Option.getD_some]
    exact h _ (List.getElem_mem hi)
  · rw [List.getD_eq_getElem?_getD, List.getElem?_eq_none (by omega)]
    decide
/-- texts of literals -/
def ltx (k : Nat) : List Nat := (xe_lt k).2.2.2.map (fun c => c.toInt.toNat)
/-- literals of the class are where they were, each with a text equal to its own -/
def LT (g : xe_G) (M : mi_H) : Prop := ∀ k, k < 15 → g.2.1 k < M.2.1 ∧ ∃ (k' : Nat) (fl : Nat → Option Value), k' < 30 ∧ M.1 (g.2.1 k) = some (.inr (100 + k', fl)) ∧ (xe_lt k').2.2.2 = (xe_lt k).2.2.2
end VWA
section VWB
variable {T : Nat → Option (Nat × mi_B)} {tb : mi_B} {pc k : Nat} {lv : List (Nat × Value)} {st : List Value} {M : mi_H} {S' : mi_S} {Q : Option Value → mi_H → Prop}
theorem ps_reti {chk : Int32 → Bool} {x : Int32} (h1 : tb.1 pc = some (.inr (.inr (r_int chk)))) (hq : Q (some (.int x)) M) : pl T k tb (pc, lv, [.int x], M) Q := by
  refine pl_ret h1 (fun v hv => ?_)
  unfold r_int at hv
  dsimp only at hv
  split at hv
  · cases hv
    exact hq
  · cases hv
theorem ps_slen {a k' L : Nat} {fl : Nat → Option Value} (h1 : tb.1 pc = some (.inl o_slength)) (h : M.1 a = some (.inr (100 + k', fl))) (hL : (xe_lt k').2.2.2.length = L) (e1 : mi_nk tb.2 (pc + 3, lv, .int (nI L) :: st, M) = S') (kk : pl T k tb S' Q) : pl T k tb (pc, lv, .ref a :: st, M) Q := by
  subst e1
  refine pl_st h1 (fun S1 hS => ?_)
  unfold o_slength at hS
  simp only [h] at hS
  split at hS
  · cases hS
    rw [Nat.add_sub_cancel_left, hL]
    exact kk
  · cases hS
theorem xe_ch_all : ∀ k, k < 30 → ∀ j, j < (xe_lt k).2.2.2.length → xe_ch k j = nI ((ltx k).getD j 0) := by
  decide +kernel
theorem ps_schar {a k' k0 j : Nat} {fl : Nat → Option Value} (h1 : tb.1 pc = some (.inl o_scharAt)) (h : M.1 a = some (.inr (100 + k', fl))) (hk : k0 < 30 ∧ (xe_lt k').2.2.2 = (xe_lt k0).2.2.2) (hj : j < 1073741824) (e1 : mi_nk tb.2 (pc + 3, lv, .int (nI ((ltx k0).getD j 0)) :: st, M) = S') (kk : pl T k tb S' Q) : pl T k tb (pc, lv, .int (nI j) :: .ref a :: st, M) Q := by
  subst e1
  refine pl_st h1 (fun S1 hS => ?_)
  unfold o_scharAt at hS
  simp only [h] at hS
  split at hS
  · rename_i hc
    cases hS
    have e := hc.2.2.2.2
    rw [Nat.add_sub_cancel_left, nI_toNat hj] at e ⊢
    rw [hk.2] at e
    have e2 : xe_ch k' j = nI ((ltx k0).getD j 0) := by
      rw [← xe_ch_all k0 hk.1 j e]
      unfold xe_ch
      rw [hk.2]
    rw [e2]
    exact kk
  · cases hS
/-- rows of objects -/
def ro (C : String) (n : Nat) (G : Nat → Value) : mi_C := .inl (.object C, n, fun i => some (G i))
theorem ga_ro {a n : Nat} {C : String} {G : Nat → Value} (h : M.1 a = some (ro C n G)) : mi_ga M a (.object C) = some (n, fun i => some (G i)) := by
  unfold mi_ga
  rw [h]
  simp [ro]
theorem ps_aald {C : String} {a n j : Nat} {G : Nat → Value} {v : Value} (h1 : tb.1 pc = some (.inl (o_ald (.object C)))) (h : M.1 a = some (ro C n G)) (hv : j < 1073741824 ∧ G j = v) (e1 : mi_nk tb.2 (pc + 1, lv, v :: st, M) = S') (kk : pl T k tb S' Q) : pl T k tb (pc, lv, .int (nI j) :: .ref a :: st, M) Q := by
  subst e1
  refine pl_st h1 (fun S1 hS => ?_)
  unfold o_ald at hS
  simp only [ga_ro h] at hS
  split at hS
  · cases hS
  · cases hS
    rw [nI_toNat hv.1, hv.2]
    exact kk
theorem ps_aalen {C : String} {a n : Nat} {G : Nat → Value} (h1 : tb.1 pc = some (.inl (o_alen (.object C)))) (h : M.1 a = some (ro C n G)) (e1 : mi_nk tb.2 (pc + 1, lv, .int (nI n) :: st, M) = S') (kk : pl T k tb S' Q) : pl T k tb (pc, lv, .ref a :: st, M) Q := by
  subst e1
  exact pl_is h1 (S' := (pc + 1, lv, .int (nI n) :: st, M)) (by simp only [o_alen, ga_ro h]; rfl) kk
theorem ps_anew {C : String} {n : Int32} {z : Nat} (h1 : tb.1 pc = some (.inl (o_anew C))) (hz : M.2.1 = z) (kk : ∀ M2 : mi_H, ¬ n < 0 → M2.1 z = some (ro C n.toNatClampNeg (fun _ => .null)) → (∀ y, y ≠ z → M2.1 y = M.1 y) → M2.2.1 = z + 1 → pl T k tb (mi_nk tb.2 (pc + 3, lv, .ref z :: st, M2)) Q) : pl T k tb (pc, lv, .int n :: st, M) Q := by
  subst hz
  refine pl_st h1 (fun S1 hS => ?_)
  unfold o_anew at hS
  dsimp only at hS
  split at hS
  · cases hS
  · rename_i hin
    cases hS
    exact kk _ (fun h9 => hin (Or.inl h9)) (by simp [va_up, ro]) (fun y hy => by simp [va_up, hy]) rfl
def upv (G : Nat → Value) (i : Nat) (v : Value) : Nat → Value := fun j => if j = i then v else G j
theorem ps_aast {C : String} {a n b j : Nat} {G : Nat → Value} (h1 : tb.1 pc = some (.inl (o_aast C))) (h : M.1 a = some (ro C n G)) (hj : j < 1073741824)
    (kk : ∀ M2 : mi_H, j < n → M2.1 a = some (ro C n (upv G j (.ref b))) → (∀ z, z ≠ a → M2.1 z = M.1 z) → M2.2 = M.2 → pl T k tb (mi_nk tb.2 (pc + 1, lv, st, M2)) Q) : pl T k tb (pc, lv, .ref b :: .int (nI j) :: .ref a :: st, M) Q := by
  refine pl_st h1 (fun S1 hS => ?_)
  unfold o_aast at hS
  simp only [ga_ro h] at hS
  split at hS
  · cases hS
  · rename_i hin
    split at hS
    · cases hS
      rw [nI_toNat hj] at hin ⊢
      refine kk _ (Nat.not_le.mp (fun h9 => hin (Or.inr h9))) ?_ (fun z hz => by simp [va_up, hz]) rfl
      have e : va_up (fun i => some (G i)) j (some (Value.ref b)) = fun i => some (upv G j (.ref b) i) := by
        funext i
        unfold va_up upv
        split <;> rfl
      simp only [va_up, if_true, ro]
      rw [← e]
    · cases hS
/-- numbers -/
def aN (x m : Nat) : Nat := x &&& m
theorem nI_an {p k : Nat} {x : Int32} (hx : x = nI k) : nI p &&& x = nI (aN p k) := by
  subst hx
  apply Int32.toBitVec_inj.mp
  apply BitVec.eq_of_toNat_eq
  rw [Int32.toBitVec_and, BitVec.toNat_and, nI_bv, nI_bv, nI_bv]
  simp only [BitVec.toNat_ofNat, aN]
  rw [Nat.and_mod_two_pow]
theorem an_le (x m : Nat) : aN x m ≤ m := Nat.and_le_right
theorem nI_mul1 {p k : Nat} {x y : Int32} (hx : x = nI p) (hy : y = nI k) (h : p * k < 1073741824) : x * y = nI (p * k) := by
  subst hx
  subst hy
  apply Int32.toBitVec_inj.mp
  apply BitVec.eq_of_toNat_eq
  rw [Int32.toBitVec_mul, BitVec.toNat_mul, nI_bv, nI_bv, nI_bv]
  simp only [BitVec.toNat_ofNat]
  rw [← Nat.mul_mod]
theorem nI_sub1 {p k : Nat} {x : Int32} (hx : x = nI k) (h : k ≤ p) (hp : p < 1073741824) : nI p - x = nI (p - k) := by
  subst hx
  apply Int32.toInt_inj.mp
  rw [nI_val (by omega), nI_sub (nI_val (by omega)) (by omega) hp]
  omega
theorem nI_add2 {p k : Nat} {x y : Int32} (hx : x = nI p) (hy : y = nI k) (h : p + k < 1073741824) : x + y = nI (p + k) := by
  subst hx
  exact nI_add1 hy h
theorem m1_ne {x : Nat} (h : x < 1073741824) : ¬ (-1 : Int32) = nI x := fun e => by
  have e2 := congrArg Int32.toInt e
  rw [nI_val h] at e2
  have e3 : (-1 : Int32).toInt = -1 := rfl
  omega
/-- cells that are none of a view's -/
def n7 (S : List Nat) (M : mi_H) : Prop := ∀ a ∈ S, ∃ ci l, M.1 a = some (ob ci l) ∧ ¬ ci = 7 ∧ ci < 100
theorem n7nil : n7 [] M := fun a ha => by cases ha
theorem n7c {S : List Nat} {a ci : Nat} {l : List Value} (h : M.1 a = some (ob ci l)) (hc : ¬ ci = 7 ∧ ci < 100) (hs : n7 S M) : n7 (a :: S) M := fun b hb => by
  rcases List.mem_cons.mp hb with rfl | hb
  · exact ⟨ci, l, h, hc⟩
  · exact hs b hb
/-- the shape of a text as the class notes it -/
def shI (x : Nat) : Int32 := if x = 0 then -1 else nI x
end VWB
section VWC
theorem sub_v {e p : Nat} (he : e < 1000000) (hp : p < 1000000) : (nI e - nI p).toInt = (e : Int) - p := nI_sub (nI_val (by omega)) (by omega) (by omega)
theorem sub_v2 {e p p2 : Nat} (he : e < 1000000) (hp : p + p2 < 1000000) : (nI e - nI p - nI p2).toInt = (e : Int) - (p + p2 : Nat) := by
  have h1 := sub_v (e := e) (p := p) he (by omega)
  have h2 : (nI p2).toInt = p2 := nI_val (by omega)
  rw [Int32.toInt_sub, h1, h2]
  rw [Int.bmod_eq_of_le (by omega) (by omega)]
  omega
theorem sub_lt1 {e p k : Nat} (he : e < 1000000) (hp : p < 1000000) (hk : k < 1000000) : nI e - nI p < nI k ↔ e < p + k := by
  rw [Int32.lt_iff_toInt_lt, sub_v he hp, nI_val (by omega)]
  omega
theorem sub_le1 {e p k : Nat} (he : e < 1000000) (hp : p < 1000000) (hk : k < 1000000) : nI e - nI p ≤ nI k ↔ e ≤ p + k := by
  rw [Int32.le_iff_toInt_le, sub_v he hp, nI_val (by omega)]
  omega
theorem lt_sub1 {e p k : Nat} (he : e < 1000000) (hp : p < 1000000) (hk : k < 2147483648) : nI k < nI e - nI p ↔ k + p < e := by
  rw [Int32.lt_iff_toInt_lt, sub_v he hp, nI_val31 hk]
  omega
theorem le_sub1 {e p k : Nat} (he : e < 1000000) (hp : p < 1000000) (hk : k < 2147483648) : nI k ≤ nI e - nI p ↔ k + p ≤ e := by
  rw [Int32.le_iff_toInt_le, sub_v he hp, nI_val31 hk]
  omega
theorem sub_lt2 {e p p2 k : Nat} (he : e < 1000000) (hp : p + p2 < 1000000) (hk : k < 1000000) : nI e - nI p - nI p2 < nI k ↔ e < p + p2 + k := by
  rw [Int32.lt_iff_toInt_lt, sub_v2 he hp, nI_val (by omega)]
  omega
theorem sub_le2 {e p p2 k : Nat} (he : e < 1000000) (hp : p + p2 < 1000000) (hk : k < 1000000) : nI e - nI p - nI p2 ≤ nI k ↔ e ≤ p + p2 + k := by
  rw [Int32.le_iff_toInt_le, sub_v2 he hp, nI_val (by omega)]
  omega
theorem lt_sub2 {e p p2 k : Nat} (he : e < 1000000) (hp : p + p2 < 1000000) (hk : k < 2147483648) : nI k < nI e - nI p - nI p2 ↔ k + (p + p2) < e := by
  rw [Int32.lt_iff_toInt_lt, sub_v2 he hp, nI_val31 hk]
  omega
theorem le_sub2 {e p p2 k : Nat} (he : e < 1000000) (hp : p + p2 < 1000000) (hk : k < 2147483648) : nI k ≤ nI e - nI p - nI p2 ↔ k + (p + p2) ≤ e := by
  rw [Int32.le_iff_toInt_le, sub_v2 he hp, nI_val31 hk]
  omega
end VWC
end
section
/-! texts: names, types, descriptors (my own text) -/
section TXA
/-- where a class's name ends that begins at p0 (r: characters left, i: place, p: begin of the part) -/
def s_nm (c : Nat → Nat) : Nat → Nat → Nat → Option Nat
  | 0, i, p => if p < i then some i else none
  | r + 1, i, p => if c i = 59 then (if p < i then some i else none) else if c i = 46 ∨ c i = 91 ∨ (c i = 47 ∧ i = p) then none else s_nm c r (i + 1) (if c i = 47 then i + 1 else p)
def s_br (c : Nat → Nat) : Nat → Nat → Nat
  | 0, i => i
  | r + 1, i => if c i = 91 then s_br c r (i + 1) else i
theorem s_nm_le {c : Nat → Nat} : ∀ {r i p x : Nat}, s_nm c r i p = some x → i ≤ x ∧ x ≤ i + r := by
  intro r
  induction r with
  | zero =>
    intro i p x h
    unfold s_nm at h
    split at h
    · cases h; omega
    · cases h
  | succ r ih =>
    intro i p x h
    unfold s_nm at h
    split at h
    · split at h
      · cases h; omega
      · cases h
    · split at h
      · cases h
      · have := ih h
        omega
theorem s_br_le {c : Nat → Nat} : ∀ {r i : Nat}, i ≤ s_br c r i ∧ s_br c r i ≤ i + r := by
  intro r
  induction r with
  | zero => intro i; exact ⟨Nat.le_refl _, Nat.le_refl _⟩
  | succ r ih =>
    intro i
    unfold s_br
    split
    · have := ih (i := i + 1)
      omega
    · omega
def prm (x : Nat) : Prop := x = 66 ∨ x = 67 ∨ x = 68 ∨ x = 70 ∨ x = 73 ∨ x = 74 ∨ x = 83 ∨ x = 90
/-- where the type ends that begins at i -/
def s_ty (c : Nat → Nat) (e i : Nat) : Option Nat :=
  if e ≤ s_br c (e - i) i ∨ 255 < s_br c (e - i) i - i then none else
  if c (s_br c (e - i) i) = 66 ∨ c (s_br c (e - i) i) = 67 ∨ c (s_br c (e - i) i) = 68 ∨ c (s_br c (e - i) i) = 70 ∨ c (s_br c (e - i) i) = 73 ∨ c (s_br c (e - i) i) = 74 ∨ c (s_br c (e - i) i) = 83 ∨ c (s_br c (e - i) i) = 90 then some (s_br c (e - i) i + 1) else
  if c (s_br c (e - i) i) = 76 then (match s_nm c (e - (s_br c (e - i) i + 1)) (s_br c (e - i) i + 1) (s_br c (e - i) i + 1) with
    | none => none
    | some x => if x < e then some (x + 1) else none) else none
theorem s_ty_le {c : Nat → Nat} {e i x : Nat} (h : s_ty c e i = some x) : i < x ∧ x ≤ e := by
  unfold s_ty at h
  have h1 := s_br_le (c := c) (r := e - i) (i := i)
  split at h
  · cases h
  · split at h
    · cases h
      omega
    · split at h
      · split at h
        · cases h
        · rename_i y hy
          have := s_nm_le hy
          split at h
          · cases h
            omega
          · cases h
      · cases h
def pW (x : Nat) : Nat := if x = 74 ∨ x = 68 then 2 else 1
theorem pW_le (x : Nat) : pW x ≤ 2 := by unfold pW; split <;> omega
/-- arguments from i on, w places so far (r: no fewer than the characters left) -/
def s_ar (c : Nat → Nat) (e : Nat) : Nat → Nat → Nat → Option (Nat × Nat)
  | 0, i, w => some (i, w)
  | r + 1, i, w => if w ≤ 255 ∧ i < e ∧ ¬ c i = 41 then (match s_ty c e i with
    | none => none
    | some i' => s_ar c e r i' (w + pW (c i))) else some (i, w)
theorem s_ar_0 {c : Nat → Nat} {e r i w : Nat} (h : ¬ (w ≤ 255 ∧ i < e ∧ ¬ c i = 41)) : s_ar c e r i w = some (i, w) := by
  cases r with
  | zero => rfl
  | succ r => unfold s_ar; rw [if_neg h]
theorem s_ar_fuel {c : Nat → Nat} {e : Nat} : ∀ {r r' i w : Nat}, e - i ≤ r → e - i ≤ r' → s_ar c e r i w = s_ar c e r' i w := by
  intro r
  induction r with
  | zero => intro r' i w h h'; rw [s_ar_0 (by omega), s_ar_0 (by omega)]
  | succ r ih =>
    intro r' i w h h'
    by_cases h1 : w ≤ 255 ∧ i < e ∧ ¬ c i = 41
    · cases r' with
      | zero => omega
      | succ r' =>
        unfold s_ar
        rw [if_pos h1, if_pos h1]
        cases ht : s_ty c e i with
        | none => rfl
        | some x =>
          have := s_ty_le ht
          exact ih (by omega) (by omega)
    · rw [s_ar_0 h1, s_ar_0 h1]
theorem s_ar_step {c : Nat → Nat} {e i w x : Nat} (h : w ≤ 255 ∧ i < e ∧ ¬ c i = 41) (ht : s_ty c e i = some x) : s_ar c e (e - i) i w = s_ar c e (e - x) x (w + pW (c i)) := by
  have := s_ty_le ht
  rw [show e - i = (e - i - 1) + 1 by omega]
  conv => lhs; unfold s_ar
  rw [if_pos h, ht]
  exact s_ar_fuel (by omega) (by omega)
theorem s_ar_bad {c : Nat → Nat} {e i w : Nat} (h : w ≤ 255 ∧ i < e ∧ ¬ c i = 41) (ht : s_ty c e i = none) : s_ar c e (e - i) i w = none := by
  rw [show e - i = (e - i - 1) + 1 by omega]
  unfold s_ar
  rw [if_pos h, ht]
/-- a method's descriptor behind its '(': its shape, 0 if it is none -/
def s_ms (c : Nat → Nat) (e i : Nat) : Nat := match s_ar c e (e - i) i 0 with
  | none => 0
  | some (k, w) => if e ≤ k + 1 ∨ 255 < w then 0 else if c (k + 1) = 86 ∧ k + 2 = e then 4096 + w else if s_ty c e (k + 1) = some e then 4096 + 1024 * pW (c (k + 1)) + w else 0
def s_sh (c : Nat → Nat) (e : Nat) : Nat := if e = 0 then 0 else if c 0 = 40 then s_ms c e 1 else if s_ty c e 0 = some e then pW (c 0) else 0
/-- a text's shape: 0 none, below 4096 a field's, from 4096 on a method's -/
def shN (l : List Nat) : Nat := s_sh (fun i => l.getD i 0) l.length
def angN (l : List Nat) : Nat := if 60 ∈ l ∨ 62 ∈ l then 1 else 0
def unqN (l : List Nat) : Nat := if l = [] ∨ 46 ∈ l ∨ 59 ∈ l ∨ 91 ∈ l ∨ 47 ∈ l then 0 else 1
/-- a text can be that of a Class entry -/
def clsN (l : List Nat) : Nat := if l.getD 0 0 = 91 then (if 0 < shN l ∧ shN l < 4096 then 1 else 0) else if s_nm (fun i => l.getD i 0) l.length 0 0 = some l.length then 1 else 0
end TXA
section TXB
variable {M : mi_H}
/-- the class's pool, as it was read and described: its rows -/
def VF (f : Nat → Int32) (n : Nat) (E : List (Nat × Nat)) (H m : Nat) (F : Nat → Nat → Int32) : Prop :=
  (∀ j, F 1 j = nI (tg f E j)) ∧ (∀ j, H ≤ j → tg f E j = 0) ∧ (∀ j p, lk E j = some p → F 2 j = nI p) ∧
  (∀ j, 7 ≤ tg f E j → F 3 j = nI (fi f E j) ∧ F 4 j = nI (se f E j)) ∧
  (∀ j, tg f E j = 1 → ∃ c, F 3 j = nI c ∧ F 4 j = nI (tX f n E j).length ∧ c + (tX f n E j).length ≤ m ∧ ∀ i, i < (tX f n E j).length → F 6 (c + i) = nI ((tX f n E j).getD i 0))
def VS (f : Nat → Int32) (n : Nat) (E : List (Nat × Nat)) (F : Nat → Nat → Int32) : Prop := ∀ j, tg f E j = 1 → F 5 j = shI (shN (tX f n E j))
def PV (g : xe_G) (f : Nat → Int32) (n N : Nat) (E : List (Nat × Nat)) (q : Nat) (M : mi_H) : Prop :=
  LT g M ∧ ∃ (H m : Nat) (qq : Nat → Nat) (F : Nat → Nat → Int32) (cc : Int32), PL M q (nI N) H m qq F cc ∧ txt H m F cc ∧ (q < M.2.1 ∧ ∀ i, 1 ≤ i → i ≤ 6 → qq i < M.2.1) ∧ (H ≤ 65536 ∧ m ≤ 65540 ∧ N < 65536 ∧ cc = nI (chL f n E)) ∧ VF f n E H m F ∧ VS f n E F
theorem LT.move {g : xe_G} {M' : mi_H} (h : LT g M) (hz : M.2.1 ≤ M'.2.1) (hm : ∀ z o, z < M.2.1 → M.1 z = some (.inr o) → 100 ≤ o.1 → M'.1 z = M.1 z) : LT g M' := by
  intro k hk
  obtain ⟨h1, k', fl, h2, h3, h4⟩ := h k hk
  exact ⟨by omega, k', fl, h2, (hm _ _ h1 h3 (by show 100 ≤ 100 + k'; omega)).trans h3, h4⟩
theorem PV.move {g : xe_G} {f : Nat → Int32} {n N q : Nat} {E : List (Nat × Nat)} {M' : mi_H} (h : PV g f n N E q M) (hz : M.2.1 ≤ M'.2.1) (hm : ∀ z, z < M.2.1 → (∀ ci l, M.1 z = some (ob ci l) → ci = 7 ∨ 100 ≤ ci) → (∀ o, M.1 z = some (.inr o) → o.1 = 7 ∨ 100 ≤ o.1) → M'.1 z = M.1 z) : PV g f n N E q M' := by
  obtain ⟨hL, H, m, qq, F, cc, ⟨a0, a1, a6⟩, hT, ⟨b0, b1⟩, h3⟩ := h
  have ha : ∀ {z n : Nat} {ty : FieldType} {F : Nat → Int32}, z < M.2.1 → M.1 z = some (ar ty n F) → M'.1 z = some (ar ty n F) := fun hl hc => (hm _ hl (fun ci l h9 => by rw [hc] at h9; cases h9) (fun o h9 => by rw [hc] at h9; cases h9)).trans hc
  have h7 : M'.1 q = M.1 q := hm q b0 (fun ci l h9 => by rw [a0] at h9; simp only [ob, Option.some.injEq, Sum.inr.injEq, Prod.mk.injEq] at h9; exact Or.inl h9.1.symm) (fun o h9 => by rw [a0] at h9; cases h9; exact Or.inl rfl)
  exact ⟨hL.move hz (fun z o hl hc ho => hm z hl (fun ci l h9 => by rw [hc] at h9; cases h9; exact Or.inr ho) (fun o' h9 => by rw [hc] at h9; cases h9; exact Or.inr ho)), H, m, qq, F, cc, ⟨h7.trans a0, fun i h1 h2 => ha (b1 i h1 (by omega)) (a1 i h1 h2), ha (b1 6 (by decide) (by decide)) a6⟩, hT, ⟨by omega, fun i h1 h2 => Nat.lt_of_lt_of_le (b1 i h1 h2) hz⟩, h3⟩
theorem PV.keep {g : xe_G} {f : Nat → Int32} {n N q : Nat} {E : List (Nat × Nat)} {M' : mi_H} {S : List Nat} (h : PV g f n N E q M) (hf : gm S M M') (hs : n7 S M) : PV g f n N E q M' :=
  h.move hf.2 (fun z hl h1 _ => hf.1 z hl (fun hz => by
    obtain ⟨ci, l, e, h2⟩ := hs z hz
    rcases h1 ci l e with h3 | h3 <;> omega))
theorem PV.put {g : xe_G} {f : Nat → Int32} {n N q a ci : Nat} {l : List Value} {E : List (Nat × Nat)} {M' : mi_H} (h : PV g f n N E q M) (ha : M.1 a = some (ob ci l)) (hc : ¬ ci = 7 ∧ ci < 100) (hf : ∀ z, z ≠ a → M'.1 z = M.1 z) (hz : M'.2 = M.2) : PV g f n N E q M' :=
  h.move (by rw [hz]; exact Nat.le_refl _) (fun z hl h1 _ => hf z (fun e => by
    subst e
    rcases h1 ci l ha with h3 | h3 <;> omega))
theorem PV.new {g : xe_G} {f : Nat → Int32} {n N q a : Nat} {E : List (Nat × Nat)} {M' : mi_H} (h : PV g f n N E q M) (ht : M.2.1 = a) (hf : ∀ z, z ≠ a → M'.1 z = M.1 z) (hz : M'.2.1 = a + 1) : PV g f n N E q M' :=
  h.move (by omega) (fun z hl _ _ => hf z (by omega))
theorem nI_rem {a k : Nat} {x : Int32} (hx : x.toInt = k) (hx2 : x = nI k) (hk : 0 < k) (ha : a < 1073741824) : nI a - nI a / x * x = nI (a % k) := by
  rw [ndiv_nI hx hk ha, hx2, nI_mul1 rfl rfl (Nat.lt_of_le_of_lt (Nat.div_mul_le_self a k) ha), nI_sub1 rfl (Nat.div_mul_le_self a k) ha]
  congr 1
  have := Nat.mod_add_div a k
  rw [Nat.mul_comm] at this
  omega
variable {f : Nat → Int32} {n H m j : Nat} {E : List (Nat × Nat)} {F : Nat → Nat → Int32}
theorem VF.tagOf (h : VF f n E H m F) (hH : H ≤ 65536) (hj : j < 65536) : sp_tagOf H m F (nI j) = nI (tg f E j) := by
  unfold sp_tagOf
  rw [if_neg (nI_n0 (by omega))]
  by_cases h1 : j < H
  · rw [if_pos ((lt_nI (by omega) (by omega)).mpr h1), nI_toNat (by omega), h.1]
  · rw [if_neg (fun h9 => h1 ((lt_nI (by omega) (by omega)).mp h9)), h.2.1 j (by omega)]
    rfl
theorem VF.tagPlace {p : Nat} (h : VF f n E H m F) (hH : H ≤ 65536) (hj : j < 65536) (hp : lk E j = some p) (ht : ¬ tg f E j = 0) : sp_tagPlace H m F (nI j) = nI p := by
  unfold sp_tagPlace
  have h1 : j < H := Nat.not_le.mp (fun h9 => ht (h.2.1 j h9))
  rw [if_neg (nI_n0 (by omega)), if_pos ((lt_nI (by omega) (by omega)).mpr h1), nI_toNat (by omega), h.2.2.1 j p hp]
theorem VF.firstIndex (h : VF f n E H m F) (hH : H ≤ 65536) (hj : j < 65536) : sp_firstIndex H m F (nI j) = nI (fi f E j) := by
  unfold sp_firstIndex
  have ht := tg_lt f E j
  rw [if_neg (nI_n0 (by omega))]
  by_cases h1 : H ≤ j
  · rw [if_pos ((le_nI (by omega) (by omega)).mpr h1), fi_no (by rw [h.2.1 j h1]; decide)]
    rfl
  · rw [if_neg (fun h9 => h1 ((le_nI (by omega) (by omega)).mp h9)), nI_toNat (by omega), h.1]
    by_cases h2 : 7 ≤ tg f E j
    · rw [if_pos (show (7 : Int32) ≤ nI (tg f E j) from (le_nI (p := 7) (by decide) (by omega)).mpr h2), (h.2.2.2.1 j h2).1]
    · rw [if_neg (show ¬ (7 : Int32) ≤ nI (tg f E j) from fun h9 => h2 ((le_nI (p := 7) (by decide) (by omega)).mp h9)), fi_no (by omega)]
      rfl
theorem VF.secondIndex (h : VF f n E H m F) (hH : H ≤ 65536) (hj : j < 65536) : sp_secondIndex H m F (nI j) = nI (se f E j) := by
  unfold sp_secondIndex
  have ht := tg_lt f E j
  rw [if_neg (nI_n0 (by omega))]
  by_cases h1 : H ≤ j
  · rw [if_pos ((le_nI (by omega) (by omega)).mpr h1), se_no (by rw [h.2.1 j h1]; decide)]
    rfl
  · rw [if_neg (fun h9 => h1 ((le_nI (by omega) (by omega)).mp h9)), nI_toNat (by omega), h.1]
    by_cases h2 : 7 ≤ tg f E j
    · rw [if_pos (show (7 : Int32) ≤ nI (tg f E j) from (le_nI (p := 7) (by decide) (by omega)).mpr h2), (h.2.2.2.1 j h2).2]
    · rw [if_neg (show ¬ (7 : Int32) ≤ nI (tg f E j) from fun h9 => h2 ((le_nI (p := 7) (by decide) (by omega)).mp h9)), se_no (by omega)]
      rfl
theorem tg1 (f : Nat → Int32) (E : List (Nat × Nat)) (j k : Nat) (hk : k < 1000) : nI (tg f E j) = nI k ↔ tg f E j = k := eq_nI (Nat.lt_trans (tg_lt f E j) (by decide)) (by omega)
theorem tgp {f : Nat → Int32} {E : List (Nat × Nat)} {j : Nat} (k : Nat) {x : Int32} {A B : Int32} (hx : x = nI k) (hk : k < 1000) (h : tg f E j = k) : (if ¬ nI (tg f E j) = x then A else B) = B := by
  subst hx
  rw [if_neg (fun h9 => h9 ((tg1 f E j k hk).mpr h))]
theorem tgn {f : Nat → Int32} {E : List (Nat × Nat)} {j : Nat} (k : Nat) {x : Int32} {A B : Int32} (hx : x = nI k) (hk : k < 1000) (h : ¬ tg f E j = k) : (if ¬ nI (tg f E j) = x then A else B) = A := by
  subst hx
  rw [if_pos (show ¬ nI (tg f E j) = nI k from fun h9 => h ((tg1 f E j k hk).mp h9))]
theorem VF.textLength (h : VF f n E H m F) (hH : H ≤ 65536) (hj : j < 65536) : sp_textLength H m F (nI j) = nI (tX f n E j).length := by
  unfold sp_textLength
  rw [h.tagOf hH hj]
  by_cases h1 : tg f E j = 1
  · obtain ⟨c, a1, a2, -⟩ := h.2.2.2.2 j h1
    rw [tgp (x := 1) 1 rfl (by decide) h1, nI_toNat (by omega), a2]
  · rw [tgn (x := 1) 1 rfl (by decide) h1, tx_no h1]
    rfl
theorem VF.characterAt {i : Nat} (h : VF f n E H m F) (hH : H ≤ 65536) (hm : m ≤ 65540) (hj : j < 65536) (hi : i < 1000000) : sp_characterAt H m F (nI j) (nI i) = if i < (tX f n E j).length then nI ((tX f n E j).getD i 0) else -1 := by
  unfold sp_characterAt
  rw [h.tagOf hH hj]
  have hl := tx_len f n E j
  by_cases h1 : tg f E j = 1
  · obtain ⟨c, a1, a2, a3, a4⟩ := h.2.2.2.2 j h1
    rw [tgp (x := 1) 1 rfl (by decide) h1, if_neg (nI_n0 (by omega)), nI_toNat (by omega), a2, a1]
    by_cases h2 : i < (tX f n E j).length
    · rw [if_pos ((lt_nI (by omega) (by omega)).mpr h2), if_pos h2, nI_add1 rfl (by omega), nI_toNat (by omega), a4 i h2]
    · rw [if_neg (fun h9 => h2 ((lt_nI (by omega) (by omega)).mp h9)), if_neg h2]
  · rw [tgn (x := 1) 1 rfl (by decide) h1, tx_no h1, if_neg (by simp)]
theorem shN_lt (l : List Nat) : shN l < 7000 := by
  unfold shN s_sh s_ms pW
  repeat' split
  all_goals omega
theorem VF.isField (h : VF f n E H m F) (hs : VS f n E F) (hH : H ≤ 65536) (hj : j < 65536) : (0 < shN (tX f n E j) ∧ shN (tX f n E j) < 4096 ∧ sp_isFieldDescriptor H m F (nI j) = 1) ∨ (¬ (0 < shN (tX f n E j) ∧ shN (tX f n E j) < 4096) ∧ sp_isFieldDescriptor H m F (nI j) = 0) := by
  unfold sp_isFieldDescriptor
  rw [h.tagOf hH hj, nI_toNat (by omega)]
  have hl := shN_lt (tX f n E j)
  by_cases h1 : tg f E j = 1
  · rw [tgp (x := 1) 1 rfl (by decide) h1, hs j h1]
    unfold shI
    by_cases h2 : shN (tX f n E j) = 0
    · rw [if_pos h2]
      exact Or.inr ⟨by omega, by decide⟩
    · rw [if_neg h2, if_neg (show ¬ nI (shN (tX f n E j)) ≤ 0 from fun h9 => h2 (by have := (le_nI (n := 0) (by omega) (by decide)).mp h9; omega))]
      by_cases h3 : shN (tX f n E j) < 4096
      · exact Or.inl ⟨by omega, h3, by rw [if_neg (show ¬ (4096 : Int32) ≤ nI (shN (tX f n E j)) from fun h9 => absurd ((le_nI (p := 4096) (by decide) (by omega)).mp h9) (by omega))]⟩
      · exact Or.inr ⟨by omega, by rw [if_pos (show (4096 : Int32) ≤ nI (shN (tX f n E j)) from (le_nI (p := 4096) (by decide) (by omega)).mpr (by omega))]⟩
  · rw [tgn (x := 1) 1 rfl (by decide) h1, tx_no h1]
    exact Or.inr ⟨by decide, rfl⟩
theorem VF.isMeth (h : VF f n E H m F) (hs : VS f n E F) (hH : H ≤ 65536) (hj : j < 65536) : (4096 ≤ shN (tX f n E j) ∧ sp_isMethodDescriptor H m F (nI j) = 1 ∧ F 5 j = nI (shN (tX f n E j))) ∨ (¬ 4096 ≤ shN (tX f n E j) ∧ sp_isMethodDescriptor H m F (nI j) = 0) := by
  unfold sp_isMethodDescriptor
  rw [h.tagOf hH hj, nI_toNat (by omega)]
  have hl := shN_lt (tX f n E j)
  by_cases h1 : tg f E j = 1
  · rw [tgp (x := 1) 1 rfl (by decide) h1, hs j h1]
    unfold shI
    by_cases h2 : shN (tX f n E j) = 0
    · rw [if_pos h2]
      exact Or.inr ⟨by omega, by decide⟩
    · rw [if_neg h2]
      by_cases h3 : 4096 ≤ shN (tX f n E j)
      · exact Or.inl ⟨h3, by rw [if_neg (show ¬ nI (shN (tX f n E j)) < 4096 from fun h9 => absurd ((lt_nI (n := 4096) (by omega) (by decide)).mp h9) (by omega))], rfl⟩
      · exact Or.inr ⟨h3, by rw [if_pos (show nI (shN (tX f n E j)) < 4096 from (lt_nI (n := 4096) (by omega) (by decide)).mpr (by omega))]⟩
  · rw [tgn (x := 1) 1 rfl (by decide) h1, tx_no h1]
    exact Or.inr ⟨by decide, rfl⟩
/-- places of a method's arguments -/
def argN (l : List Nat) : Nat := if 4096 ≤ shN l then shN l % 1024 else 0
def nresN (l : List Nat) : Nat := if 4096 ≤ shN l ∧ shN l < 5120 then 1 else 0
theorem argN_lt (l : List Nat) : argN l < 1024 := by
  unfold argN
  split <;> omega
theorem VF.argPl (h : VF f n E H m F) (hs : VS f n E F) (hH : H ≤ 65536) (hj : j < 65536) : sp_argumentPlaces H m F (nI j) = nI (argN (tX f n E j)) := by
  unfold sp_argumentPlaces argN
  have hl := shN_lt (tX f n E j)
  rcases h.isMeth hs hH hj with ⟨h1, h2, h3⟩ | ⟨h1, h2⟩
  · rw [h2, if_neg (show ¬ (1 : Int32) = 0 by decide), if_pos h1, nI_toNat (by omega), h3, nI_rem (a := shN (tX f n E j)) (x := 1024) (k := 1024) rfl rfl (by decide) (by omega)]
  · rw [h2, if_pos rfl, if_neg h1]
    rfl
theorem VF.noRes (h : VF f n E H m F) (hs : VS f n E F) (hH : H ≤ 65536) (hj : j < 65536) : sp_hasNoResult H m F (nI j) = nI (nresN (tX f n E j)) := by
  unfold sp_hasNoResult nresN
  have hl := shN_lt (tX f n E j)
  rcases h.isMeth hs hH hj with ⟨h1, h2, h3⟩ | ⟨h1, h2⟩
  · rw [h2, if_neg (show ¬ (1 : Int32) = 0 by decide), nI_toNat (by omega), h3, nI_sub1 (x := 4096) (k := 4096) rfl h1 (by omega)]
    by_cases h4 : shN (tX f n E j) < 5120
    · rw [if_neg (show ¬ (1024 : Int32) ≤ nI (shN (tX f n E j) - 4096) from fun h9 => absurd ((le_nI (p := 1024) (by decide) (by omega)).mp h9) (by omega)), if_pos ⟨h1, h4⟩]
      rfl
    · rw [if_pos (show (1024 : Int32) ≤ nI (shN (tX f n E j) - 4096) from (le_nI (p := 1024) (by decide) (by omega)).mpr (by omega)), if_neg (by omega)]
      rfl
  · rw [h2, if_pos rfl, if_neg (by omega)]
    rfl
/-- a Class entry, and no array's -/
def plnN (f : Nat → Int32) (n : Nat) (E : List (Nat × Nat)) (j : Nat) : Nat := if tg f E j = 7 ∧ ¬ (tX f n E (fi f E j)).getD 0 0 = 91 then 1 else 0
theorem VF.plain (h : VF f n E H m F) (hH : H ≤ 65536) (hm : m ≤ 65540) (hj : j < 65536) : sp_isPlainClass H m F (nI j) = nI (plnN f n E j) := by
  unfold sp_isPlainClass plnN
  rw [h.tagOf hH hj]
  by_cases h1 : tg f E j = 7
  · have h3 := tx_ch f n E (fi f E j) 0
    rw [tgp (x := 7) 7 rfl (by decide) h1, nI_toNat (by omega), (h.2.2.2.1 j (by omega)).1]
    have := h.characterAt (i := 0) hH hm (fi_lt f E j) (by decide)
    have e : (nI 0 : Int32) = 0 := rfl
    rw [e] at this
    rw [this]
    by_cases h2 : 0 < (tX f n E (fi f E j)).length
    · rw [if_pos h2]
      by_cases h4 : (tX f n E (fi f E j)).getD 0 0 = 91
      · rw [if_pos (show nI ((tX f n E (fi f E j)).getD 0 0) = 91 from (eq_nI (n := 91) (by omega) (by decide)).mpr h4), if_neg (fun h9 => h9.2 h4)]
        rfl
      · rw [if_neg (show ¬ nI ((tX f n E (fi f E j)).getD 0 0) = 91 from fun h9 => h4 ((eq_nI (n := 91) (by omega) (by decide)).mp h9)), if_pos ⟨h1, h4⟩]
        rfl
    · have hz : ¬ (tX f n E (fi f E j)).getD 0 0 = 91 := by
        rw [List.getD_eq_getElem?_getD, List.getElem?_eq_none (by omega)]
        decide
      rw [if_neg h2, if_neg (show ¬ (-1 : Int32) = 91 by decide), if_pos ⟨h1, hz⟩]
      rfl
  · rw [tgn (x := 7) 7 rfl (by decide) h1, if_neg (fun h9 => h1 h9.1)]
    rfl
end TXB
section TXC
def fldN (l : List Nat) : Nat := if 0 < shN l ∧ shN l < 4096 then 1 else 0
def mthN (l : List Nat) : Nat := if 4096 ≤ shN l then 1 else 0
def eqN (l l' : List Nat) : Nat := if l = l' then 1 else 0
def smN (f : Nat → Int32) (n : Nat) (E : List (Nat × Nat)) (j k : Nat) : Nat := if j = k ∨ (tg f E j = 1 ∧ tg f E k = 1 ∧ tX f n E j = tX f n E k) then 1 else 0
theorem VF.fld {f : Nat → Int32} {n H m j : Nat} {E : List (Nat × Nat)} {F : Nat → Nat → Int32} (h : VF f n E H m F) (hs : VS f n E F) (hH : H ≤ 65536) (hj : j < 65536) : sp_isFieldDescriptor H m F (nI j) = nI (fldN (tX f n E j)) := by
  unfold fldN
  rcases h.isField hs hH hj with ⟨e1, e2, e3⟩ | ⟨e1, e3⟩
  · rw [e3, if_pos ⟨e1, e2⟩]
    rfl
  · rw [e3, if_neg e1]
    rfl
theorem VF.mth {f : Nat → Int32} {n H m j : Nat} {E : List (Nat × Nat)} {F : Nat → Nat → Int32} (h : VF f n E H m F) (hs : VS f n E F) (hH : H ≤ 65536) (hj : j < 65536) : sp_isMethodDescriptor H m F (nI j) = nI (mthN (tX f n E j)) := by
  unfold mthN
  rcases h.isMeth hs hH hj with ⟨e1, e3, -⟩ | ⟨e1, e3⟩
  · rw [e3, if_pos e1]
    rfl
  · rw [e3, if_neg e1]
    rfl
theorem le1_fld (l : List Nat) : fldN l < 2 := by unfold fldN; split <;> decide
theorem le1_mth (l : List Nat) : mthN l < 2 := by unfold mthN; split <;> decide
theorem le1_eq (l l' : List Nat) : eqN l l' < 2 := by unfold eqN; split <;> decide
theorem le1_sm (f : Nat → Int32) (n : Nat) (E : List (Nat × Nat)) (j k : Nat) : smN f n E j k < 2 := by unfold smN; split <;> decide
theorem le1_ang (l : List Nat) : angN l < 2 := by unfold angN; split <;> decide
theorem le1_unq (l : List Nat) : unqN l < 2 := by unfold unqN; split <;> decide
theorem le1_cls (l : List Nat) : clsN l < 2 := by unfold clsN; repeat' split
                                                  all_goals decide
theorem le1_nres (l : List Nat) : nresN l < 2 := by unfold nresN; split <;> decide
theorem le1_pln (f : Nat → Int32) (n : Nat) (E : List (Nat × Nat)) (j : Nat) : plnN f n E j < 2 := by unfold plnN; split <;> decide
theorem gd_mem {l : List Nat} {i : Nat} (h : i < l.length) : l.getD i 0 ∈ l := by
  rw [List.getD_eq_getElem?_getD, List.getElem?_eq_getElem h, Option.getD_some]
  exact List.getElem_mem h
theorem gd_nil {l : List Nat} {x : Nat} (h : ¬ 0 < l.length) (hx : ¬ x = 0) : ¬ l.getD 0 0 = x := by
  rw [List.getD_eq_getElem?_getD, List.getElem?_eq_none (by omega)]
  exact fun e => hx e.symm
theorem gd_of {l : List Nat} {x : Nat} (h : x ∈ l) : ∃ i, i < l.length ∧ l.getD i 0 = x := by
  obtain ⟨i, hi, e⟩ := List.getElem_of_mem h
  exact ⟨i, hi, by rw [List.getD_eq_getElem?_getD, List.getElem?_eq_getElem hi, Option.getD_some, e]⟩
theorem gd_ext {l l' : List Nat} (h : l.length = l'.length) (he : ∀ i, i < l.length → l.getD i 0 = l'.getD i 0) : l = l' := by
  refine List.ext_getElem h (fun i h1 h2 => ?_)
  have := he i h1
  rw [List.getD_eq_getElem?_getD, List.getD_eq_getElem?_getD, List.getElem?_eq_getElem h1, List.getElem?_eq_getElem h2] at this
  exact this
theorem ang_in {l : List Nat} {i : Nat} (hi : i < l.length) (h : l.getD i 0 = 60 ∨ l.getD i 0 = 62) : angN l = 1 := by
  unfold angN
  have := gd_mem hi
  rw [if_pos]
  rcases h with h | h <;> rw [h] at this
  · exact Or.inl this
  · exact Or.inr this
theorem ang_no {l : List Nat} (h : ∀ i, i < l.length → ¬ l.getD i 0 = 60 ∧ ¬ l.getD i 0 = 62) : angN l = 0 := by
  unfold angN
  rw [if_neg]
  rintro (h1 | h1) <;> obtain ⟨i, hi, e⟩ := gd_of h1
  · exact (h i hi).1 e
  · exact (h i hi).2 e
theorem unq_no {l : List Nat} {i : Nat} (hi : i < l.length) (h : l.getD i 0 = 46 ∨ l.getD i 0 = 59 ∨ l.getD i 0 = 91 ∨ l.getD i 0 = 47) : unqN l = 0 := by
  unfold unqN
  have := gd_mem hi
  rw [if_pos]
  rcases h with h | h | h | h <;> rw [h] at this
  · exact Or.inr (Or.inl this)
  · exact Or.inr (Or.inr (Or.inl this))
  · exact Or.inr (Or.inr (Or.inr (Or.inl this)))
  · exact Or.inr (Or.inr (Or.inr (Or.inr this)))
theorem unq_nil {l : List Nat} (h : ¬ 0 < l.length) : unqN l = 0 := by
  unfold unqN
  rw [if_pos (Or.inl (List.eq_nil_of_length_eq_zero (by omega)))]
theorem unq_in {l : List Nat} (h0 : 0 < l.length) (h : ∀ i, i < l.length → ¬ l.getD i 0 = 46 ∧ ¬ l.getD i 0 = 59 ∧ ¬ l.getD i 0 = 91 ∧ ¬ l.getD i 0 = 47) : unqN l = 1 := by
  unfold unqN
  rw [if_neg]
  rintro (h1 | h1 | h1 | h1 | h1)
  · rw [h1] at h0
    exact absurd h0 (by decide)
  all_goals obtain ⟨i, hi, e⟩ := gd_of h1
  · exact (h i hi).1 e
  · exact (h i hi).2.1 e
  · exact (h i hi).2.2.1 e
  · exact (h i hi).2.2.2 e
theorem ltx_ne : ∀ k, k < 30 → ¬ ltx k = [] := by decide +kernel
theorem ltx_ch : ∀ k, k < 15 → ∀ i, i < 30 → (ltx k).getD i 0 < 65536 ∧ (ltx k).length < 30 := by decide +kernel
end TXC
end
section
/-! names, types, descriptors on the class's side (laid by wip/p4/d6.py) -/
theorem s_nm_st {c : Nat → Nat} {e i p : Nat} (h : i < e) : s_nm c (e - i) i p = if c i = 59 then (if p < i then some i else none) else if c i = 46 ∨ c i = 91 ∨ (c i = 47 ∧ i = p) then none else s_nm c (e - (i + 1)) (i + 1) (if c i = 47 then i + 1 else p) := by
  rw [show e - i = (e - (i + 1)) + 1 by omega]
  rfl
theorem s_nm_en {c : Nat → Nat} {e i p : Nat} (h : e ≤ i) : s_nm c (e - i) i p = if p < i then some i else none := by
  rw [show e - i = 0 by omega]
  rfl
theorem s_br_st {c : Nat → Nat} {e i : Nat} (h : i < e) : s_br c (e - i) i = if c i = 91 then s_br c (e - (i + 1)) (i + 1) else i := by
  rw [show e - i = (e - (i + 1)) + 1 by omega]
  rfl
theorem s_br_en {c : Nat → Nat} {e i : Nat} (h : e ≤ i) : s_br c (e - i) i = i := by
  rw [show e - i = 0 by omega]
  rfl
set_option maxHeartbeats 1000000 in
theorem dy_nameEnd {g : xe_G} {M : mi_H} {q H m : Nat} {qq : Nat → Nat} {F : Nat → Nat → Int32} {sz cc : Int32} {c : Nat → Nat} {B e : Nat} {i0 : Nat}  (hP : PL M q sz H m qq F cc) (hm : B + e ≤ m ∧ m ≤ 65540) (hc : ∀ i, i < e → F 6 (B + i) = nI (c i) ∧ c i < 65536) (hi : i0 ≤ e) : pt (mT g) 127 [.ref q, .int (nI (B + i0)), .int (nI (B + e))] M (fun v M' => ((s_nm c (e - i0) i0 i0 = none) ∧ v = some (.int (-1)) ∧ M = M') ∨ (∃ (x : Nat), (s_nm c (e - i0) i0 i0 = some x) ∧ v = some (.int (nI (B + x))) ∧ M = M')) := by
  refine pt_in (b := mb_127 g) rfl (fun kf => ?_)
  show pl (mT g) kf (mb_127 g).2 (0, [(0, .ref q), (1, .int (nI (B + i0))), (2, .int (nI (B + e)))], [], M) _
  have h_q := hP.1
  have h_qq_1 := hP.2.1 1 (by decide) (by decide)
  have h_qq_2 := hP.2.1 2 (by decide) (by decide)
  have h_qq_3 := hP.2.1 3 (by decide) (by decide)
  have h_qq_4 := hP.2.1 4 (by decide) (by decide)
  have h_qq_5 := hP.2.1 5 (by decide) (by decide)
  have h_qq_6 := hP.2.2
  have LL : ∀ (kf : Nat), (∀ (i p : Nat), (i0 ≤ i ∧ i ≤ e ∧ p ≤ i) → (s_nm c (e - i) i p = s_nm c (e - i0) i0 i0) →  pl (mT g) kf (mb_127 g).2 (5, [(0, .ref q), (2, .int (nI (B + e))), (3, .int (nI (B + p))), (4, .int (nI (B + i)))], [], M) (fun v M' => ((s_nm c (e - i0) i0 i0 = none) ∧ v = some (.int (-1)) ∧ M = M') ∨ (∃ (x : Nat), (s_nm c (e - i0) i0 i0 = some x) ∧ v = some (.int (nI (B + x))) ∧ M = M'))) := by
    intro kf
    induction kf with
    | zero => exact (by intros; exact pl_0)
    | succ kf ih =>
      intro i p hi2 hs
      refine ps_st1 (S' := (7, [(0, .ref q), (2, .int (nI (B + e))), (3, .int (nI (B + p))), (4, .int (nI (B + i)))], [.int (nI (B + i))], M)) rfl rfl rfl ?_
      refine ps_st (S' := (8, [(0, .ref q), (2, .int (nI (B + e))), (3, .int (nI (B + p))), (4, .int (nI (B + i)))], [.int (nI (B + e)), .int (nI (B + i))], M)) rfl rfl rfl ?_
      refine ps_if2 (S1 := (87, [(0, .ref q), (2, .int (nI (B + e))), (3, .int (nI (B + p))), (4, .int (nI (B + i)))], [], M)) (S2 := (11, [(0, .ref q), (2, .int (nI (B + e))), (3, .int (nI (B + p))), (4, .int (nI (B + i)))], [], M)) rfl rfl rfl (fun c_8 => ?_) (fun c_8 => ?_)
      · have c_8 : (nI (B + e)) ≤ (nI (B + i)) := of_decide_eq_true c_8
        have n_8 : B + e ≤ B + i := (le_nI (p := B + e) (n := B + i) (by omega) (by omega)).mp c_8
        refine ps_st (S' := (88, [(0, .ref q), (2, .int (nI (B + e))), (3, .int (nI (B + p))), (4, .int (nI (B + i)))], [.int (nI (B + e))], M)) rfl rfl rfl ?_
        refine ps_st (S' := (89, [(0, .ref q), (2, .int (nI (B + e))), (3, .int (nI (B + p))), (4, .int (nI (B + i)))], [.int (nI (B + p)), .int (nI (B + e))], M)) rfl rfl rfl ?_
        refine ps_if2 (S1 := (96, [(0, .ref q), (2, .int (nI (B + e))), (3, .int (nI (B + p))), (4, .int (nI (B + i)))], [], M)) (S2 := (92, [(0, .ref q), (2, .int (nI (B + e))), (3, .int (nI (B + p))), (4, .int (nI (B + i)))], [], M)) rfl rfl rfl (fun c_89 => ?_) (fun c_89 => ?_)
        · have c_89 : (nI (B + e)) ≤ (nI (B + p)) := of_decide_eq_true c_89
          have n_89 : B + e ≤ B + p := (le_nI (p := B + e) (n := B + p) (by omega) (by omega)).mp c_89
          refine ps_st (S' := (97, [], [.int (-1)], M)) rfl rfl rfl ?_
          exact ps_ret rfl rfl (Or.inl ⟨by
              rw [← hs, s_nm_en (by omega)]
              repeat' split
              all_goals first | rfl | (exfalso; omega), rfl, rfl⟩)
        · have c_89 : ¬ ((nI (B + e)) ≤ (nI (B + p))) := of_decide_eq_false c_89
          have n_89 : ¬ (B + e ≤ B + p) := fun h9 => c_89 ((le_nI (p := B + e) (n := B + p) (by omega) (by omega)).mpr h9)
          refine ps_st (S' := (93, [(0, .ref q), (2, .int (nI (B + e))), (3, .int (nI (B + p))), (4, .int (nI (B + i)))], [.int (nI (B + e))], M)) rfl rfl rfl ?_
          refine ps_st (S' := (97, [], [.int (nI (B + e))], M)) rfl rfl rfl ?_
          exact ps_reti rfl (Or.inr ⟨i, by
              rw [← hs, s_nm_en (by omega)]
              repeat' split
              all_goals first | rfl | (exfalso; omega), by rw [show e = i by omega], rfl⟩)
      · have c_8 : ¬ ((nI (B + e)) ≤ (nI (B + i))) := of_decide_eq_false c_8
        have n_8 : ¬ (B + e ≤ B + i) := fun h9 => c_8 ((le_nI (p := B + e) (n := B + i) (by omega) (by omega)).mpr h9)
        refine ps_st (S' := (12, [(0, .ref q), (2, .int (nI (B + e))), (3, .int (nI (B + p))), (4, .int (nI (B + i)))], [.ref q], M)) rfl rfl rfl ?_
        refine ps_get (S' := (15, [(0, .ref q), (2, .int (nI (B + e))), (3, .int (nI (B + p))), (4, .int (nI (B + i)))], [.ref (qq 6)], M)) rfl h_q rfl rfl ?_
        refine ps_st (S' := (17, [(0, .ref q), (2, .int (nI (B + e))), (3, .int (nI (B + p))), (4, .int (nI (B + i)))], [.int (nI (B + i)), .ref (qq 6)], M)) rfl rfl rfl ?_
        refine ps_ald (S' := (18, [(0, .ref q), (2, .int (nI (B + e))), (3, .int (nI (B + p))), (4, .int (nI (B + i)))], [.int ((F 6) (Int32.toNatClampNeg (nI (B + i))))], M)) rfl h_qq_6 rfl (fun i0_17 i1_17 => ?_)
        have hb_17 := (hc (i) (by omega)).2
        rw [show ((F 6) (Int32.toNatClampNeg (nI (B + i)))) = (nI (c i)) from (congrArg (F 6) (nI_toNat (k := B + i) (by omega))).trans ((hc (i) (by omega)).1)]
        show pl _ _ _ (_, [(0, .ref q), (2, .int (nI (B + e))), (3, .int (nI (B + p))), (4, .int (nI (B + i)))], [.int (nI (c i))], M) _
        refine ps_st (S' := (20, [(5, .int (nI (c i))), (0, .ref q), (2, .int (nI (B + e))), (3, .int (nI (B + p))), (4, .int (nI (B + i)))], [], M)) rfl rfl rfl ?_
        refine ps_st (S' := (22, [(5, .int (nI (c i))), (0, .ref q), (2, .int (nI (B + e))), (3, .int (nI (B + p))), (4, .int (nI (B + i)))], [.int (nI (c i))], M)) rfl rfl rfl ?_
        refine ps_st (S' := (24, [(5, .int (nI (c i))), (0, .ref q), (2, .int (nI (B + e))), (3, .int (nI (B + p))), (4, .int (nI (B + i)))], [.int 59, .int (nI (c i))], M)) rfl rfl rfl ?_
        refine ps_if2 (S1 := (40, [(5, .int (nI (c i))), (0, .ref q), (2, .int (nI (B + e))), (3, .int (nI (B + p))), (4, .int (nI (B + i)))], [], M)) (S2 := (27, [(5, .int (nI (c i))), (0, .ref q), (2, .int (nI (B + e))), (3, .int (nI (B + p))), (4, .int (nI (B + i)))], [], M)) rfl rfl rfl (fun c_24 => ?_) (fun c_24 => ?_)
        · have c_24 : ¬ (nI (c i)) = 59 := of_decide_eq_true c_24
          have n_24 : ¬ (c i = 59) := fun h9 => c_24 ((eq_nI (p := c i) (n := 59) (by omega) (by decide)).mpr h9)
          refine ps_st (S' := (42, [(5, .int (nI (c i))), (0, .ref q), (2, .int (nI (B + e))), (3, .int (nI (B + p))), (4, .int (nI (B + i)))], [.int (nI (c i))], M)) rfl rfl rfl ?_
          refine ps_st (S' := (44, [(5, .int (nI (c i))), (0, .ref q), (2, .int (nI (B + e))), (3, .int (nI (B + p))), (4, .int (nI (B + i)))], [.int 46, .int (nI (c i))], M)) rfl rfl rfl ?_
          refine ps_if2 (S1 := (67, [], [], M)) (S2 := (47, [(5, .int (nI (c i))), (0, .ref q), (2, .int (nI (B + e))), (3, .int (nI (B + p))), (4, .int (nI (B + i)))], [], M)) rfl rfl rfl (fun c_44 => ?_) (fun c_44 => ?_)
          · have c_44 : (nI (c i)) = 46 := of_decide_eq_true c_44
            have n_44 : c i = 46 := (eq_nI (p := c i) (n := 46) (by omega) (by decide)).mp c_44
            refine ps_st (S' := (68, [], [.int (-1)], M)) rfl rfl rfl ?_
            exact ps_ret rfl rfl (Or.inl ⟨by
                rw [← hs, s_nm_st (i := i) (by omega)]
                repeat' split
                all_goals first | rfl | (exfalso; omega), rfl, rfl⟩)
          · have c_44 : ¬ ((nI (c i)) = 46) := of_decide_eq_false c_44
            have n_44 : ¬ (c i = 46) := fun h9 => c_44 ((eq_nI (p := c i) (n := 46) (by omega) (by decide)).mpr h9)
            refine ps_st (S' := (49, [(5, .int (nI (c i))), (0, .ref q), (2, .int (nI (B + e))), (3, .int (nI (B + p))), (4, .int (nI (B + i)))], [.int (nI (c i))], M)) rfl rfl rfl ?_
            refine ps_st (S' := (51, [(5, .int (nI (c i))), (0, .ref q), (2, .int (nI (B + e))), (3, .int (nI (B + p))), (4, .int (nI (B + i)))], [.int 91, .int (nI (c i))], M)) rfl rfl rfl ?_
            refine ps_if2 (S1 := (67, [], [], M)) (S2 := (54, [(5, .int (nI (c i))), (0, .ref q), (2, .int (nI (B + e))), (3, .int (nI (B + p))), (4, .int (nI (B + i)))], [], M)) rfl rfl rfl (fun c_51 => ?_) (fun c_51 => ?_)
            · have c_51 : (nI (c i)) = 91 := of_decide_eq_true c_51
              have n_51 : c i = 91 := (eq_nI (p := c i) (n := 91) (by omega) (by decide)).mp c_51
              refine ps_st (S' := (68, [], [.int (-1)], M)) rfl rfl rfl ?_
              exact ps_ret rfl rfl (Or.inl ⟨by
                  rw [← hs, s_nm_st (i := i) (by omega)]
                  repeat' split
                  all_goals first | rfl | (exfalso; omega), rfl, rfl⟩)
            · have c_51 : ¬ ((nI (c i)) = 91) := of_decide_eq_false c_51
              have n_51 : ¬ (c i = 91) := fun h9 => c_51 ((eq_nI (p := c i) (n := 91) (by omega) (by decide)).mpr h9)
              refine ps_st (S' := (56, [(5, .int (nI (c i))), (0, .ref q), (2, .int (nI (B + e))), (3, .int (nI (B + p))), (4, .int (nI (B + i)))], [.int (nI (c i))], M)) rfl rfl rfl ?_
              refine ps_st (S' := (58, [(5, .int (nI (c i))), (0, .ref q), (2, .int (nI (B + e))), (3, .int (nI (B + p))), (4, .int (nI (B + i)))], [.int 47, .int (nI (c i))], M)) rfl rfl rfl ?_
              refine ps_if2 (S1 := (69, [(0, .ref q), (2, .int (nI (B + e))), (3, .int (nI (B + p))), (4, .int (nI (B + i))), (5, .int (nI (c i)))], [], M)) (S2 := (61, [(5, .int (nI (c i))), (0, .ref q), (2, .int (nI (B + e))), (3, .int (nI (B + p))), (4, .int (nI (B + i)))], [], M)) rfl rfl rfl (fun c_58 => ?_) (fun c_58 => ?_)
              · have c_58 : ¬ (nI (c i)) = 47 := of_decide_eq_true c_58
                have n_58 : ¬ (c i = 47) := fun h9 => c_58 ((eq_nI (p := c i) (n := 47) (by omega) (by decide)).mpr h9)
                refine ps_st (S' := (71, [(0, .ref q), (2, .int (nI (B + e))), (3, .int (nI (B + p))), (4, .int (nI (B + i))), (5, .int (nI (c i)))], [.int (nI (c i))], M)) rfl rfl rfl ?_
                refine ps_st (S' := (73, [(0, .ref q), (2, .int (nI (B + e))), (3, .int (nI (B + p))), (4, .int (nI (B + i))), (5, .int (nI (c i)))], [.int 47, .int (nI (c i))], M)) rfl rfl rfl ?_
                refine ps_if2 (S1 := (81, [(0, .ref q), (2, .int (nI (B + e))), (3, .int (nI (B + p))), (4, .int (nI (B + i)))], [], M)) (S2 := (76, [(0, .ref q), (2, .int (nI (B + e))), (3, .int (nI (B + p))), (4, .int (nI (B + i))), (5, .int (nI (c i)))], [], M)) rfl rfl rfl (fun c_73 => ?_) (fun c_73 => ?_)
                · have c_73 : ¬ (nI (c i)) = 47 := of_decide_eq_true c_73
                  have n_73 : ¬ (c i = 47) := fun h9 => c_73 ((eq_nI (p := c i) (n := 47) (by omega) (by decide)).mpr h9)
                  refine ps_st (S' := (84, [(4, .int ((nI (B + i)) + 1)), (0, .ref q), (2, .int (nI (B + e))), (3, .int (nI (B + p)))], [], M)) rfl rfl rfl ?_
                  rw [nI_add1 (p := B + i) (k := 1) (x := 1) rfl (by omega)]
                  show pl _ _ _ (_, [(4, .int (nI (B + i + 1))), (0, .ref q), (2, .int (nI (B + e))), (3, .int (nI (B + p)))], [], M) _
                  refine ps_st (S' := (5, [(0, .ref q), (2, .int (nI (B + e))), (3, .int (nI (B + p))), (4, .int (nI (B + i + 1)))], [], M)) rfl rfl rfl ?_
                  exact ih (i + 1) (p)  (by omega) (by
                      rw [← hs, s_nm_st (i := i) (by omega), if_neg (by omega), if_neg (by omega), if_neg (by omega)])
                · have c_73 : ¬ (¬ (nI (c i)) = 47) := of_decide_eq_false c_73
                  have n_73 : c i = 47 := (eq_nI (p := c i) (n := 47) (by omega) (by decide)).mp (Decidable.not_not.mp c_73)
                  refine ps_st (S' := (78, [(0, .ref q), (2, .int (nI (B + e))), (3, .int (nI (B + p))), (4, .int (nI (B + i))), (5, .int (nI (c i)))], [.int (nI (B + i))], M)) rfl rfl rfl ?_
                  refine ps_st (S' := (79, [(0, .ref q), (2, .int (nI (B + e))), (3, .int (nI (B + p))), (4, .int (nI (B + i))), (5, .int (nI (c i)))], [.int 1, .int (nI (B + i))], M)) rfl rfl rfl ?_
                  refine ps_st (S' := (80, [(0, .ref q), (2, .int (nI (B + e))), (3, .int (nI (B + p))), (4, .int (nI (B + i))), (5, .int (nI (c i)))], [.int ((nI (B + i)) + 1)], M)) rfl rfl rfl ?_
                  rw [nI_add1 (p := B + i) (k := 1) (x := 1) rfl (by omega)]
                  show pl _ _ _ (_, [(0, .ref q), (2, .int (nI (B + e))), (3, .int (nI (B + p))), (4, .int (nI (B + i))), (5, .int (nI (c i)))], [.int (nI (B + i + 1))], M) _
                  refine ps_st (S' := (81, [(0, .ref q), (2, .int (nI (B + e))), (3, .int (nI (B + i + 1))), (4, .int (nI (B + i)))], [], M)) rfl rfl rfl ?_
                  refine ps_st (S' := (84, [(4, .int ((nI (B + i)) + 1)), (0, .ref q), (2, .int (nI (B + e))), (3, .int (nI (B + i + 1)))], [], M)) rfl rfl rfl ?_
                  rw [nI_add1 (p := B + i) (k := 1) (x := 1) rfl (by omega)]
                  show pl _ _ _ (_, [(4, .int (nI (B + i + 1))), (0, .ref q), (2, .int (nI (B + e))), (3, .int (nI (B + i + 1)))], [], M) _
                  refine ps_st (S' := (5, [(0, .ref q), (2, .int (nI (B + e))), (3, .int (nI (B + i + 1))), (4, .int (nI (B + i + 1)))], [], M)) rfl rfl rfl ?_
                  exact ih (i + 1) (i + 1)  (by omega) (by
                      rw [← hs, s_nm_st (i := i) (by omega), if_neg (by omega), if_neg (by omega), if_pos (by omega)])
              · have c_58 : ¬ (¬ (nI (c i)) = 47) := of_decide_eq_false c_58
                have n_58 : c i = 47 := (eq_nI (p := c i) (n := 47) (by omega) (by decide)).mp (Decidable.not_not.mp c_58)
                refine ps_st (S' := (63, [(5, .int (nI (c i))), (0, .ref q), (2, .int (nI (B + e))), (3, .int (nI (B + p))), (4, .int (nI (B + i)))], [.int (nI (B + i))], M)) rfl rfl rfl ?_
                refine ps_st (S' := (64, [(5, .int (nI (c i))), (0, .ref q), (2, .int (nI (B + e))), (3, .int (nI (B + p))), (4, .int (nI (B + i)))], [.int (nI (B + p)), .int (nI (B + i))], M)) rfl rfl rfl ?_
                refine ps_if2 (S1 := (69, [(0, .ref q), (2, .int (nI (B + e))), (3, .int (nI (B + p))), (4, .int (nI (B + i))), (5, .int (nI (c i)))], [], M)) (S2 := (67, [], [], M)) rfl rfl rfl (fun c_64 => ?_) (fun c_64 => ?_)
                · have c_64 : ¬ (nI (B + i)) = (nI (B + p)) := of_decide_eq_true c_64
                  have n_64 : ¬ (B + i = B + p) := fun h9 => c_64 ((eq_nI (p := B + i) (n := B + p) (by omega) (by omega)).mpr h9)
                  refine ps_st (S' := (71, [(0, .ref q), (2, .int (nI (B + e))), (3, .int (nI (B + p))), (4, .int (nI (B + i))), (5, .int (nI (c i)))], [.int (nI (c i))], M)) rfl rfl rfl ?_
                  refine ps_st (S' := (73, [(0, .ref q), (2, .int (nI (B + e))), (3, .int (nI (B + p))), (4, .int (nI (B + i))), (5, .int (nI (c i)))], [.int 47, .int (nI (c i))], M)) rfl rfl rfl ?_
                  refine ps_if2 (S1 := (81, [(0, .ref q), (2, .int (nI (B + e))), (3, .int (nI (B + p))), (4, .int (nI (B + i)))], [], M)) (S2 := (76, [(0, .ref q), (2, .int (nI (B + e))), (3, .int (nI (B + p))), (4, .int (nI (B + i))), (5, .int (nI (c i)))], [], M)) rfl rfl rfl (fun c_73 => ?_) (fun c_73 => ?_)
                  · have c_73 : ¬ (nI (c i)) = 47 := of_decide_eq_true c_73
                    have n_73 : ¬ (c i = 47) := fun h9 => c_73 ((eq_nI (p := c i) (n := 47) (by omega) (by decide)).mpr h9)
                    refine ps_st (S' := (84, [(4, .int ((nI (B + i)) + 1)), (0, .ref q), (2, .int (nI (B + e))), (3, .int (nI (B + p)))], [], M)) rfl rfl rfl ?_
                    rw [nI_add1 (p := B + i) (k := 1) (x := 1) rfl (by omega)]
                    show pl _ _ _ (_, [(4, .int (nI (B + i + 1))), (0, .ref q), (2, .int (nI (B + e))), (3, .int (nI (B + p)))], [], M) _
                    refine ps_st (S' := (5, [(0, .ref q), (2, .int (nI (B + e))), (3, .int (nI (B + p))), (4, .int (nI (B + i + 1)))], [], M)) rfl rfl rfl ?_
                    exact ih (i + 1) (p)  (by omega) (by
                        rw [← hs, s_nm_st (i := i) (by omega), if_neg (by omega), if_neg (by omega), if_neg (by omega)])
                  · have c_73 : ¬ (¬ (nI (c i)) = 47) := of_decide_eq_false c_73
                    have n_73 : c i = 47 := (eq_nI (p := c i) (n := 47) (by omega) (by decide)).mp (Decidable.not_not.mp c_73)
                    refine ps_st (S' := (78, [(0, .ref q), (2, .int (nI (B + e))), (3, .int (nI (B + p))), (4, .int (nI (B + i))), (5, .int (nI (c i)))], [.int (nI (B + i))], M)) rfl rfl rfl ?_
                    refine ps_st (S' := (79, [(0, .ref q), (2, .int (nI (B + e))), (3, .int (nI (B + p))), (4, .int (nI (B + i))), (5, .int (nI (c i)))], [.int 1, .int (nI (B + i))], M)) rfl rfl rfl ?_
                    refine ps_st (S' := (80, [(0, .ref q), (2, .int (nI (B + e))), (3, .int (nI (B + p))), (4, .int (nI (B + i))), (5, .int (nI (c i)))], [.int ((nI (B + i)) + 1)], M)) rfl rfl rfl ?_
                    rw [nI_add1 (p := B + i) (k := 1) (x := 1) rfl (by omega)]
                    show pl _ _ _ (_, [(0, .ref q), (2, .int (nI (B + e))), (3, .int (nI (B + p))), (4, .int (nI (B + i))), (5, .int (nI (c i)))], [.int (nI (B + i + 1))], M) _
                    refine ps_st (S' := (81, [(0, .ref q), (2, .int (nI (B + e))), (3, .int (nI (B + i + 1))), (4, .int (nI (B + i)))], [], M)) rfl rfl rfl ?_
                    refine ps_st (S' := (84, [(4, .int ((nI (B + i)) + 1)), (0, .ref q), (2, .int (nI (B + e))), (3, .int (nI (B + i + 1)))], [], M)) rfl rfl rfl ?_
                    rw [nI_add1 (p := B + i) (k := 1) (x := 1) rfl (by omega)]
                    show pl _ _ _ (_, [(4, .int (nI (B + i + 1))), (0, .ref q), (2, .int (nI (B + e))), (3, .int (nI (B + i + 1)))], [], M) _
                    refine ps_st (S' := (5, [(0, .ref q), (2, .int (nI (B + e))), (3, .int (nI (B + i + 1))), (4, .int (nI (B + i + 1)))], [], M)) rfl rfl rfl ?_
                    exact ih (i + 1) (i + 1)  (by omega) (by
                        rw [← hs, s_nm_st (i := i) (by omega), if_neg (by omega), if_neg (by omega), if_pos (by omega)])
                · have c_64 : ¬ (¬ (nI (B + i)) = (nI (B + p))) := of_decide_eq_false c_64
                  have n_64 : B + i = B + p := (eq_nI (p := B + i) (n := B + p) (by omega) (by omega)).mp (Decidable.not_not.mp c_64)
                  refine ps_st (S' := (68, [], [.int (-1)], M)) rfl rfl rfl ?_
                  exact ps_ret rfl rfl (Or.inl ⟨by
                      rw [← hs, s_nm_st (i := i) (by omega)]
                      repeat' split
                      all_goals first | rfl | (exfalso; omega), rfl, rfl⟩)
        · have c_24 : ¬ (¬ (nI (c i)) = 59) := of_decide_eq_false c_24
          have n_24 : c i = 59 := (eq_nI (p := c i) (n := 59) (by omega) (by decide)).mp (Decidable.not_not.mp c_24)
          refine ps_st (S' := (29, [(5, .int (nI (c i))), (0, .ref q), (2, .int (nI (B + e))), (3, .int (nI (B + p))), (4, .int (nI (B + i)))], [.int (nI (B + i))], M)) rfl rfl rfl ?_
          refine ps_st (S' := (30, [(5, .int (nI (c i))), (0, .ref q), (2, .int (nI (B + e))), (3, .int (nI (B + p))), (4, .int (nI (B + i)))], [.int (nI (B + p)), .int (nI (B + i))], M)) rfl rfl rfl ?_
          refine ps_if2 (S1 := (38, [(5, .int (nI (c i))), (0, .ref q), (2, .int (nI (B + e))), (3, .int (nI (B + p))), (4, .int (nI (B + i)))], [], M)) (S2 := (33, [(5, .int (nI (c i))), (0, .ref q), (2, .int (nI (B + e))), (3, .int (nI (B + p))), (4, .int (nI (B + i)))], [], M)) rfl rfl rfl (fun c_30 => ?_) (fun c_30 => ?_)
          · have c_30 : (nI (B + i)) ≤ (nI (B + p)) := of_decide_eq_true c_30
            have n_30 : B + i ≤ B + p := (le_nI (p := B + i) (n := B + p) (by omega) (by omega)).mp c_30
            refine ps_st (S' := (39, [], [.int (-1)], M)) rfl rfl rfl ?_
            exact ps_ret rfl rfl (Or.inl ⟨by
                rw [← hs, s_nm_st (i := i) (by omega)]
                repeat' split
                all_goals first | rfl | (exfalso; omega), rfl, rfl⟩)
          · have c_30 : ¬ ((nI (B + i)) ≤ (nI (B + p))) := of_decide_eq_false c_30
            have n_30 : ¬ (B + i ≤ B + p) := fun h9 => c_30 ((le_nI (p := B + i) (n := B + p) (by omega) (by omega)).mpr h9)
            refine ps_st (S' := (35, [(5, .int (nI (c i))), (0, .ref q), (2, .int (nI (B + e))), (3, .int (nI (B + p))), (4, .int (nI (B + i)))], [.int (nI (B + i))], M)) rfl rfl rfl ?_
            refine ps_st (S' := (39, [], [.int (nI (B + i))], M)) rfl rfl rfl ?_
            exact ps_reti rfl (Or.inr ⟨i, by
                rw [← hs, s_nm_st (i := i) (by omega)]
                repeat' split
                all_goals first | rfl | (exfalso; omega), rfl, rfl⟩)
  refine ps_st (S' := (1, [(0, .ref q), (1, .int (nI (B + i0))), (2, .int (nI (B + e)))], [.int (nI (B + i0))], M)) rfl rfl rfl ?_
  refine ps_st (S' := (2, [(3, .int (nI (B + i0))), (0, .ref q), (1, .int (nI (B + i0))), (2, .int (nI (B + e)))], [], M)) rfl rfl rfl ?_
  refine ps_st (S' := (3, [(3, .int (nI (B + i0))), (0, .ref q), (1, .int (nI (B + i0))), (2, .int (nI (B + e)))], [.int (nI (B + i0))], M)) rfl rfl rfl ?_
  refine ps_st (S' := (5, [(0, .ref q), (2, .int (nI (B + e))), (3, .int (nI (B + i0))), (4, .int (nI (B + i0)))], [], M)) rfl rfl rfl ?_
  exact (LL kf) (i0) (i0)  (by omega) (rfl)
set_option maxHeartbeats 1000000 in
theorem dy_typeEnd {g : xe_G} {M : mi_H} {q H m : Nat} {qq : Nat → Nat} {F : Nat → Nat → Int32} {sz cc : Int32} {c : Nat → Nat} {B e : Nat} {i0 : Nat}  (hP : PL M q sz H m qq F cc) (hm : B + e ≤ m ∧ m ≤ 65540) (hc : ∀ i, i < e → F 6 (B + i) = nI (c i) ∧ c i < 65536) (hi : i0 ≤ e) : pt (mT g) 142 [.ref q, .int (nI (B + i0)), .int (nI (B + e))] M (fun v M' => ((s_ty c e i0 = none) ∧ v = some (.int (-1)) ∧ M = M') ∨ (∃ (x : Nat), (s_ty c e i0 = some x) ∧ v = some (.int (nI (B + x))) ∧ M = M')) := by
  refine pt_in (b := mb_142 g) rfl (fun kf => ?_)
  show pl (mT g) kf (mb_142 g).2 (0, [(0, .ref q), (1, .int (nI (B + i0))), (2, .int (nI (B + e)))], [], M) _
  have h_q := hP.1
  have h_qq_1 := hP.2.1 1 (by decide) (by decide)
  have h_qq_2 := hP.2.1 2 (by decide) (by decide)
  have h_qq_3 := hP.2.1 3 (by decide) (by decide)
  have h_qq_4 := hP.2.1 4 (by decide) (by decide)
  have h_qq_5 := hP.2.1 5 (by decide) (by decide)
  have h_qq_6 := hP.2.2
  have LL : ∀ (kf : Nat), (∀ (k : Nat), (i0 ≤ k ∧ k ≤ e) → (s_br c (e - k) k = s_br c (e - i0) i0) →  pl (mT g) kf (mb_142 g).2 (2, [(0, .ref q), (1, .int (nI (B + i0))), (2, .int (nI (B + e))), (3, .int (nI (B + k)))], [], M) (fun v M' => ((s_ty c e i0 = none) ∧ v = some (.int (-1)) ∧ M = M') ∨ (∃ (x : Nat), (s_ty c e i0 = some x) ∧ v = some (.int (nI (B + x))) ∧ M = M'))) := by
    intro kf
    induction kf with
    | zero => exact (by intros; exact pl_0)
    | succ kf ih =>
      intro k hi2 hs
      refine ps_st1 (S' := (3, [(0, .ref q), (1, .int (nI (B + i0))), (2, .int (nI (B + e))), (3, .int (nI (B + k)))], [.int (nI (B + k))], M)) rfl rfl rfl ?_
      refine ps_st (S' := (4, [(0, .ref q), (1, .int (nI (B + i0))), (2, .int (nI (B + e))), (3, .int (nI (B + k)))], [.int (nI (B + e)), .int (nI (B + k))], M)) rfl rfl rfl ?_
      refine ps_if2 (S1 := (24, [(0, .ref q), (1, .int (nI (B + i0))), (2, .int (nI (B + e))), (3, .int (nI (B + k)))], [], M)) (S2 := (7, [(0, .ref q), (1, .int (nI (B + i0))), (2, .int (nI (B + e))), (3, .int (nI (B + k)))], [], M)) rfl rfl rfl (fun c_4 => ?_) (fun c_4 => ?_)
      · have c_4 : (nI (B + e)) ≤ (nI (B + k)) := of_decide_eq_true c_4
        have n_4 : B + e ≤ B + k := (le_nI (p := B + e) (n := B + k) (by omega) (by omega)).mp c_4
        refine ps_st (S' := (25, [(0, .ref q), (1, .int (nI (B + i0))), (2, .int (nI (B + e))), (3, .int (nI (B + k)))], [.int (nI (B + k))], M)) rfl rfl rfl ?_
        refine ps_st (S' := (26, [(0, .ref q), (1, .int (nI (B + i0))), (2, .int (nI (B + e))), (3, .int (nI (B + k)))], [.int (nI (B + e)), .int (nI (B + k))], M)) rfl rfl rfl ?_
        refine ps_if2 (S1 := (38, [], [], M)) (S2 := (29, [(0, .ref q), (1, .int (nI (B + i0))), (2, .int (nI (B + e))), (3, .int (nI (B + k)))], [], M)) rfl rfl rfl (fun c_26 => ?_) (fun c_26 => ?_)
        · have c_26 : (nI (B + e)) ≤ (nI (B + k)) := of_decide_eq_true c_26
          have n_26 : B + e ≤ B + k := (le_nI (p := B + e) (n := B + k) (by omega) (by omega)).mp c_26
          refine ps_st (S' := (39, [], [.int (-1)], M)) rfl rfl rfl ?_
          exact ps_ret rfl rfl (Or.inl ⟨by
              have hb : s_br c (e - i0) i0 = k := by rw [← hs, s_br_en (by omega)]
              unfold s_ty
              rw [hb]
              repeat' split
              all_goals first | rfl | (exfalso; omega), rfl, rfl⟩)
        · have c_26 : ¬ ((nI (B + e)) ≤ (nI (B + k))) := of_decide_eq_false c_26
          have n_26 : ¬ (B + e ≤ B + k) := fun h9 => c_26 ((le_nI (p := B + e) (n := B + k) (by omega) (by omega)).mpr h9)
          refine ps_st (S' := (30, [(0, .ref q), (1, .int (nI (B + i0))), (2, .int (nI (B + e))), (3, .int (nI (B + k)))], [.int (nI (B + k))], M)) rfl rfl rfl ?_
          refine ps_st (S' := (31, [(0, .ref q), (1, .int (nI (B + i0))), (2, .int (nI (B + e))), (3, .int (nI (B + k)))], [.int (nI (B + i0)), .int (nI (B + k))], M)) rfl rfl rfl ?_
          refine ps_st (S' := (32, [(0, .ref q), (1, .int (nI (B + i0))), (2, .int (nI (B + e))), (3, .int (nI (B + k)))], [.int ((nI (B + k)) - (nI (B + i0)))], M)) rfl rfl rfl ?_
          rw [nI_sub1 (p := B + k) (k := B + i0) (x := (nI (B + i0))) rfl (by omega) (by omega)]
          show pl _ _ _ (_, [(0, .ref q), (1, .int (nI (B + i0))), (2, .int (nI (B + e))), (3, .int (nI (B + k)))], [.int (nI ((B + k) - (B + i0)))], M) _
          refine ps_st (S' := (35, [(0, .ref q), (1, .int (nI (B + i0))), (2, .int (nI (B + e))), (3, .int (nI (B + k)))], [.int 255, .int (nI ((B + k) - (B + i0)))], M)) rfl rfl rfl ?_
          refine ps_if2 (S1 := (40, [(0, .ref q), (1, .int (nI (B + i0))), (2, .int (nI (B + e))), (3, .int (nI (B + k)))], [], M)) (S2 := (38, [], [], M)) rfl rfl rfl (fun c_35 => ?_) (fun c_35 => ?_)
          · have c_35 : (nI ((B + k) - (B + i0))) ≤ 255 := of_decide_eq_true c_35
            have n_35 : (B + k) - (B + i0) ≤ 255 := (le_nI (p := (B + k) - (B + i0)) (n := 255) (by omega) (by decide)).mp c_35
            refine ps_st (S' := (41, [(0, .ref q), (1, .int (nI (B + i0))), (2, .int (nI (B + e))), (3, .int (nI (B + k)))], [.ref q], M)) rfl rfl rfl ?_
            refine ps_get (S' := (44, [(0, .ref q), (1, .int (nI (B + i0))), (2, .int (nI (B + e))), (3, .int (nI (B + k)))], [.ref (qq 6)], M)) rfl h_q rfl rfl ?_
            refine ps_st (S' := (45, [(0, .ref q), (1, .int (nI (B + i0))), (2, .int (nI (B + e))), (3, .int (nI (B + k)))], [.int (nI (B + k)), .ref (qq 6)], M)) rfl rfl rfl ?_
            refine ps_ald (S' := (46, [(0, .ref q), (1, .int (nI (B + i0))), (2, .int (nI (B + e))), (3, .int (nI (B + k)))], [.int ((F 6) (Int32.toNatClampNeg (nI (B + k))))], M)) rfl h_qq_6 rfl (fun i0_45 i1_45 => ?_)
            have hb_45 := (hc (k) (by omega)).2
            rw [show ((F 6) (Int32.toNatClampNeg (nI (B + k)))) = (nI (c k)) from (congrArg (F 6) (nI_toNat (k := B + k) (by omega))).trans ((hc (k) (by omega)).1)]
            show pl _ _ _ (_, [(0, .ref q), (1, .int (nI (B + i0))), (2, .int (nI (B + e))), (3, .int (nI (B + k)))], [.int (nI (c k))], M) _
            refine pl_sw rfl (fun t_46 et_46 => ?_)
            have ht_46 : t_46 ∈ [160, 164, 194] := mi_sw_sub et_46 (by decide)
            simp only [List.mem_cons, List.not_mem_nil, or_false] at ht_46
            rcases ht_46 with rfl | rfl | rfl
            · show pl _ _ _ (160, [(0, .ref q), (1, .int (nI (B + i0))), (2, .int (nI (B + e))), (3, .int (nI (B + k)))], [], M) _
              have m_46 := sw_nat (t := c k) (by omega) et_46
              simp at m_46
              refine ps_st (S' := (161, [(0, .ref q), (1, .int (nI (B + i0))), (2, .int (nI (B + e))), (3, .int (nI (B + k)))], [.int (nI (B + k))], M)) rfl rfl rfl ?_
              refine ps_st (S' := (162, [(0, .ref q), (1, .int (nI (B + i0))), (2, .int (nI (B + e))), (3, .int (nI (B + k)))], [.int 1, .int (nI (B + k))], M)) rfl rfl rfl ?_
              refine ps_st (S' := (163, [(0, .ref q), (1, .int (nI (B + i0))), (2, .int (nI (B + e))), (3, .int (nI (B + k)))], [.int ((nI (B + k)) + 1)], M)) rfl rfl rfl ?_
              rw [nI_add1 (p := B + k) (k := 1) (x := 1) rfl (by omega)]
              show pl _ _ _ (_, [(0, .ref q), (1, .int (nI (B + i0))), (2, .int (nI (B + e))), (3, .int (nI (B + k)))], [.int (nI (B + k + 1))], M) _
              exact ps_reti rfl (Or.inr ⟨k + 1, by
                  have hb : s_br c (e - i0) i0 = k := by rw [← hs, s_br_en (by omega)]
                  unfold s_ty
                  rw [hb]
                  repeat' split
                  all_goals first | rfl | (exfalso; omega), rfl, rfl⟩)
            · show pl _ _ _ (164, [(0, .ref q), (1, .int (nI (B + i0))), (2, .int (nI (B + e))), (3, .int (nI (B + k)))], [], M) _
              have m_46 := sw_nat (t := c k) (by omega) et_46
              simp at m_46
              refine ps_st (S' := (165, [(0, .ref q), (1, .int (nI (B + i0))), (2, .int (nI (B + e))), (3, .int (nI (B + k)))], [.ref q], M)) rfl rfl rfl ?_
              refine ps_st (S' := (166, [(0, .ref q), (1, .int (nI (B + i0))), (2, .int (nI (B + e))), (3, .int (nI (B + k)))], [.int (nI (B + k)), .ref q], M)) rfl rfl rfl ?_
              refine ps_st (S' := (167, [(0, .ref q), (1, .int (nI (B + i0))), (2, .int (nI (B + e))), (3, .int (nI (B + k)))], [.int 1, .int (nI (B + k)), .ref q], M)) rfl rfl rfl ?_
              refine ps_st (S' := (168, [(0, .ref q), (1, .int (nI (B + i0))), (2, .int (nI (B + e))), (3, .int (nI (B + k)))], [.int ((nI (B + k)) + 1), .ref q], M)) rfl rfl rfl ?_
              rw [nI_add1 (p := B + k) (k := 1) (x := 1) rfl (by omega)]
              show pl _ _ _ (_, [(0, .ref q), (1, .int (nI (B + i0))), (2, .int (nI (B + e))), (3, .int (nI (B + k)))], [.int (nI (B + k + 1)), .ref q], M) _
              refine ps_st (S' := (169, [(0, .ref q), (1, .int (nI (B + i0))), (2, .int (nI (B + e))), (3, .int (nI (B + k)))], [.int (nI (B + e)), .int (nI (B + k + 1)), .ref q], M)) rfl rfl rfl ?_
              refine pl_call (a := [.ref q, .int (nI (B + k + 1)), .int (nI (B + e))]) (rest := []) rfl rfl rfl (dy_nameEnd (q := q) (c := c) (B := B) (e := e) (i0 := (k + 1)) (hP) (hm) (hc) (by omega)) (fun v1 M2 q3 => ?_)
              rcases q3 with q3 | q3
              · skip
                obtain ⟨q169_s, rfl, rfl⟩ := q3
                show pl _ _ _ (172, [(0, .ref q), (1, .int (nI (B + i0))), (2, .int (nI (B + e))), (3, .int (nI (B + k)))], [.int (-1)], M) _
                refine ps_st (S' := (174, [(4, .int (-1)), (0, .ref q), (1, .int (nI (B + i0))), (2, .int (nI (B + e))), (3, .int (nI (B + k)))], [], M)) rfl rfl rfl ?_
                refine ps_st (S' := (176, [(4, .int (-1)), (0, .ref q), (1, .int (nI (B + i0))), (2, .int (nI (B + e))), (3, .int (nI (B + k)))], [.int (-1)], M)) rfl rfl rfl ?_
                refine ps_if (S1 := (185, [], [], M)) (S2 := (179, [(4, .int (-1)), (0, .ref q), (1, .int (nI (B + i0))), (2, .int (nI (B + e))), (3, .int (nI (B + k)))], [], M)) rfl rfl rfl (fun c_176 => ?_) (fun c_176 => ?_)
                rotate_left
                · exact absurd (by decide) (of_decide_eq_false c_176)
                refine ps_st (S' := (186, [], [.int (-1)], M)) rfl rfl rfl ?_
                refine ps_st (S' := (193, [], [.int (-1)], M)) rfl rfl rfl ?_
                exact ps_ret rfl rfl (Or.inl ⟨by
                    have hb : s_br c (e - i0) i0 = k := by rw [← hs, s_br_en (by omega)]
                    unfold s_ty
                    rw [hb]
                    rw [q169_s]
                    dsimp only
                    repeat' split
                    all_goals first | rfl | (exfalso; omega), rfl, rfl⟩)
              · skip
                obtain ⟨x4, q169_s, rfl, rfl⟩ := q3
                show pl _ _ _ (172, [(0, .ref q), (1, .int (nI (B + i0))), (2, .int (nI (B + e))), (3, .int (nI (B + k)))], [.int (nI (B + x4))], M) _
                have hl_169 := s_nm_le q169_s
                refine ps_st (S' := (174, [(4, .int (nI (B + x4))), (0, .ref q), (1, .int (nI (B + i0))), (2, .int (nI (B + e))), (3, .int (nI (B + k)))], [], M)) rfl rfl rfl ?_
                refine ps_st (S' := (176, [(4, .int (nI (B + x4))), (0, .ref q), (1, .int (nI (B + i0))), (2, .int (nI (B + e))), (3, .int (nI (B + k)))], [.int (nI (B + x4))], M)) rfl rfl rfl ?_
                refine ps_if (S1 := (185, [], [], M)) (S2 := (179, [(4, .int (nI (B + x4))), (0, .ref q), (1, .int (nI (B + i0))), (2, .int (nI (B + e))), (3, .int (nI (B + k)))], [], M)) rfl rfl rfl (fun c_176 => ?_) (fun c_176 => ?_)
                · exact absurd (of_decide_eq_true c_176) (nI_n0 (by omega))
                refine ps_st (S' := (181, [(4, .int (nI (B + x4))), (0, .ref q), (1, .int (nI (B + i0))), (2, .int (nI (B + e))), (3, .int (nI (B + k)))], [.int (nI (B + x4))], M)) rfl rfl rfl ?_
                refine ps_st (S' := (182, [(4, .int (nI (B + x4))), (0, .ref q), (1, .int (nI (B + i0))), (2, .int (nI (B + e))), (3, .int (nI (B + k)))], [.int (nI (B + e)), .int (nI (B + x4))], M)) rfl rfl rfl ?_
                refine ps_if2 (S1 := (189, [(4, .int (nI (B + x4))), (0, .ref q), (1, .int (nI (B + i0))), (2, .int (nI (B + e))), (3, .int (nI (B + k)))], [], M)) (S2 := (185, [], [], M)) rfl rfl rfl (fun c_182 => ?_) (fun c_182 => ?_)
                · have c_182 : (nI (B + x4)) < (nI (B + e)) := of_decide_eq_true c_182
                  have n_182 : B + x4 < B + e := (lt_nI (p := B + x4) (n := B + e) (by omega) (by omega)).mp c_182
                  refine ps_st (S' := (191, [(4, .int (nI (B + x4))), (0, .ref q), (1, .int (nI (B + i0))), (2, .int (nI (B + e))), (3, .int (nI (B + k)))], [.int (nI (B + x4))], M)) rfl rfl rfl ?_
                  refine ps_st (S' := (192, [(4, .int (nI (B + x4))), (0, .ref q), (1, .int (nI (B + i0))), (2, .int (nI (B + e))), (3, .int (nI (B + k)))], [.int 1, .int (nI (B + x4))], M)) rfl rfl rfl ?_
                  refine ps_st (S' := (193, [], [.int ((nI (B + x4)) + 1)], M)) rfl rfl rfl ?_
                  rw [nI_add1 (p := B + x4) (k := 1) (x := 1) rfl (by omega)]
                  show pl _ _ _ (_, [], [.int (nI (B + x4 + 1))], M) _
                  exact ps_reti rfl (Or.inr ⟨x4 + 1, by
                      have hb : s_br c (e - i0) i0 = k := by rw [← hs, s_br_en (by omega)]
                      unfold s_ty
                      rw [hb]
                      rw [q169_s]
                      dsimp only
                      repeat' split
                      all_goals first | rfl | (exfalso; omega), rfl, rfl⟩)
                · have c_182 : ¬ ((nI (B + x4)) < (nI (B + e))) := of_decide_eq_false c_182
                  have n_182 : ¬ (B + x4 < B + e) := fun h9 => c_182 ((lt_nI (p := B + x4) (n := B + e) (by omega) (by omega)).mpr h9)
                  refine ps_st (S' := (186, [], [.int (-1)], M)) rfl rfl rfl ?_
                  refine ps_st (S' := (193, [], [.int (-1)], M)) rfl rfl rfl ?_
                  exact ps_ret rfl rfl (Or.inl ⟨by
                      have hb : s_br c (e - i0) i0 = k := by rw [← hs, s_br_en (by omega)]
                      unfold s_ty
                      rw [hb]
                      rw [q169_s]
                      dsimp only
                      repeat' split
                      all_goals first | rfl | (exfalso; omega), rfl, rfl⟩)
            · show pl _ _ _ (194, [(0, .ref q), (1, .int (nI (B + i0))), (2, .int (nI (B + e))), (3, .int (nI (B + k)))], [], M) _
              have m_46 := sw_nat (t := c k) (by omega) et_46
              simp at m_46
              refine ps_st (S' := (195, [(0, .ref q), (1, .int (nI (B + i0))), (2, .int (nI (B + e))), (3, .int (nI (B + k)))], [.int (-1)], M)) rfl rfl rfl ?_
              exact ps_ret rfl rfl (Or.inl ⟨by
                  have hb : s_br c (e - i0) i0 = k := by rw [← hs, s_br_en (by omega)]
                  unfold s_ty
                  rw [hb]
                  repeat' split
                  all_goals first | rfl | (exfalso; omega), rfl, rfl⟩)
          · have c_35 : ¬ ((nI ((B + k) - (B + i0))) ≤ 255) := of_decide_eq_false c_35
            have n_35 : ¬ ((B + k) - (B + i0) ≤ 255) := fun h9 => c_35 ((le_nI (p := (B + k) - (B + i0)) (n := 255) (by omega) (by decide)).mpr h9)
            refine ps_st (S' := (39, [], [.int (-1)], M)) rfl rfl rfl ?_
            exact ps_ret rfl rfl (Or.inl ⟨by
                have hb : s_br c (e - i0) i0 = k := by rw [← hs, s_br_en (by omega)]
                unfold s_ty
                rw [hb]
                repeat' split
                all_goals first | rfl | (exfalso; omega), rfl, rfl⟩)
      · have c_4 : ¬ ((nI (B + e)) ≤ (nI (B + k))) := of_decide_eq_false c_4
        have n_4 : ¬ (B + e ≤ B + k) := fun h9 => c_4 ((le_nI (p := B + e) (n := B + k) (by omega) (by omega)).mpr h9)
        refine ps_st (S' := (8, [(0, .ref q), (1, .int (nI (B + i0))), (2, .int (nI (B + e))), (3, .int (nI (B + k)))], [.ref q], M)) rfl rfl rfl ?_
        refine ps_get (S' := (11, [(0, .ref q), (1, .int (nI (B + i0))), (2, .int (nI (B + e))), (3, .int (nI (B + k)))], [.ref (qq 6)], M)) rfl h_q rfl rfl ?_
        refine ps_st (S' := (12, [(0, .ref q), (1, .int (nI (B + i0))), (2, .int (nI (B + e))), (3, .int (nI (B + k)))], [.int (nI (B + k)), .ref (qq 6)], M)) rfl rfl rfl ?_
        refine ps_ald (S' := (13, [(0, .ref q), (1, .int (nI (B + i0))), (2, .int (nI (B + e))), (3, .int (nI (B + k)))], [.int ((F 6) (Int32.toNatClampNeg (nI (B + k))))], M)) rfl h_qq_6 rfl (fun i0_12 i1_12 => ?_)
        have hb_12 := (hc (k) (by omega)).2
        rw [show ((F 6) (Int32.toNatClampNeg (nI (B + k)))) = (nI (c k)) from (congrArg (F 6) (nI_toNat (k := B + k) (by omega))).trans ((hc (k) (by omega)).1)]
        show pl _ _ _ (_, [(0, .ref q), (1, .int (nI (B + i0))), (2, .int (nI (B + e))), (3, .int (nI (B + k)))], [.int (nI (c k))], M) _
        refine ps_st (S' := (15, [(0, .ref q), (1, .int (nI (B + i0))), (2, .int (nI (B + e))), (3, .int (nI (B + k)))], [.int 91, .int (nI (c k))], M)) rfl rfl rfl ?_
        refine ps_if2 (S1 := (24, [(0, .ref q), (1, .int (nI (B + i0))), (2, .int (nI (B + e))), (3, .int (nI (B + k)))], [], M)) (S2 := (18, [(0, .ref q), (1, .int (nI (B + i0))), (2, .int (nI (B + e))), (3, .int (nI (B + k)))], [], M)) rfl rfl rfl (fun c_15 => ?_) (fun c_15 => ?_)
        · have c_15 : ¬ (nI (c k)) = 91 := of_decide_eq_true c_15
          have n_15 : ¬ (c k = 91) := fun h9 => c_15 ((eq_nI (p := c k) (n := 91) (by omega) (by decide)).mpr h9)
          refine ps_st (S' := (25, [(0, .ref q), (1, .int (nI (B + i0))), (2, .int (nI (B + e))), (3, .int (nI (B + k)))], [.int (nI (B + k))], M)) rfl rfl rfl ?_
          refine ps_st (S' := (26, [(0, .ref q), (1, .int (nI (B + i0))), (2, .int (nI (B + e))), (3, .int (nI (B + k)))], [.int (nI (B + e)), .int (nI (B + k))], M)) rfl rfl rfl ?_
          refine ps_if2 (S1 := (38, [], [], M)) (S2 := (29, [(0, .ref q), (1, .int (nI (B + i0))), (2, .int (nI (B + e))), (3, .int (nI (B + k)))], [], M)) rfl rfl rfl (fun c_26 => ?_) (fun c_26 => ?_)
          · have c_26 : (nI (B + e)) ≤ (nI (B + k)) := of_decide_eq_true c_26
            have n_26 : B + e ≤ B + k := (le_nI (p := B + e) (n := B + k) (by omega) (by omega)).mp c_26
            refine ps_st (S' := (39, [], [.int (-1)], M)) rfl rfl rfl ?_
            exact ps_ret rfl rfl (Or.inl ⟨by
                have hb : s_br c (e - i0) i0 = k := by rw [← hs, s_br_st (i := k) (by omega), if_neg (by omega)]
                unfold s_ty
                rw [hb]
                repeat' split
                all_goals first | rfl | (exfalso; omega), rfl, rfl⟩)
          · have c_26 : ¬ ((nI (B + e)) ≤ (nI (B + k))) := of_decide_eq_false c_26
            have n_26 : ¬ (B + e ≤ B + k) := fun h9 => c_26 ((le_nI (p := B + e) (n := B + k) (by omega) (by omega)).mpr h9)
            refine ps_st (S' := (30, [(0, .ref q), (1, .int (nI (B + i0))), (2, .int (nI (B + e))), (3, .int (nI (B + k)))], [.int (nI (B + k))], M)) rfl rfl rfl ?_
            refine ps_st (S' := (31, [(0, .ref q), (1, .int (nI (B + i0))), (2, .int (nI (B + e))), (3, .int (nI (B + k)))], [.int (nI (B + i0)), .int (nI (B + k))], M)) rfl rfl rfl ?_
            refine ps_st (S' := (32, [(0, .ref q), (1, .int (nI (B + i0))), (2, .int (nI (B + e))), (3, .int (nI (B + k)))], [.int ((nI (B + k)) - (nI (B + i0)))], M)) rfl rfl rfl ?_
            rw [nI_sub1 (p := B + k) (k := B + i0) (x := (nI (B + i0))) rfl (by omega) (by omega)]
            show pl _ _ _ (_, [(0, .ref q), (1, .int (nI (B + i0))), (2, .int (nI (B + e))), (3, .int (nI (B + k)))], [.int (nI ((B + k) - (B + i0)))], M) _
            refine ps_st (S' := (35, [(0, .ref q), (1, .int (nI (B + i0))), (2, .int (nI (B + e))), (3, .int (nI (B + k)))], [.int 255, .int (nI ((B + k) - (B + i0)))], M)) rfl rfl rfl ?_
            refine ps_if2 (S1 := (40, [(0, .ref q), (1, .int (nI (B + i0))), (2, .int (nI (B + e))), (3, .int (nI (B + k)))], [], M)) (S2 := (38, [], [], M)) rfl rfl rfl (fun c_35 => ?_) (fun c_35 => ?_)
            · have c_35 : (nI ((B + k) - (B + i0))) ≤ 255 := of_decide_eq_true c_35
              have n_35 : (B + k) - (B + i0) ≤ 255 := (le_nI (p := (B + k) - (B + i0)) (n := 255) (by omega) (by decide)).mp c_35
              refine ps_st (S' := (41, [(0, .ref q), (1, .int (nI (B + i0))), (2, .int (nI (B + e))), (3, .int (nI (B + k)))], [.ref q], M)) rfl rfl rfl ?_
              refine ps_get (S' := (44, [(0, .ref q), (1, .int (nI (B + i0))), (2, .int (nI (B + e))), (3, .int (nI (B + k)))], [.ref (qq 6)], M)) rfl h_q rfl rfl ?_
              refine ps_st (S' := (45, [(0, .ref q), (1, .int (nI (B + i0))), (2, .int (nI (B + e))), (3, .int (nI (B + k)))], [.int (nI (B + k)), .ref (qq 6)], M)) rfl rfl rfl ?_
              refine ps_ald (S' := (46, [(0, .ref q), (1, .int (nI (B + i0))), (2, .int (nI (B + e))), (3, .int (nI (B + k)))], [.int ((F 6) (Int32.toNatClampNeg (nI (B + k))))], M)) rfl h_qq_6 rfl (fun i0_45 i1_45 => ?_)
              have hb_45 := (hc (k) (by omega)).2
              rw [show ((F 6) (Int32.toNatClampNeg (nI (B + k)))) = (nI (c k)) from (congrArg (F 6) (nI_toNat (k := B + k) (by omega))).trans ((hc (k) (by omega)).1)]
              show pl _ _ _ (_, [(0, .ref q), (1, .int (nI (B + i0))), (2, .int (nI (B + e))), (3, .int (nI (B + k)))], [.int (nI (c k))], M) _
              refine pl_sw rfl (fun t_46 et_46 => ?_)
              have ht_46 : t_46 ∈ [160, 164, 194] := mi_sw_sub et_46 (by decide)
              simp only [List.mem_cons, List.not_mem_nil, or_false] at ht_46
              rcases ht_46 with rfl | rfl | rfl
              · show pl _ _ _ (160, [(0, .ref q), (1, .int (nI (B + i0))), (2, .int (nI (B + e))), (3, .int (nI (B + k)))], [], M) _
                have m_46 := sw_nat (t := c k) (by omega) et_46
                simp at m_46
                refine ps_st (S' := (161, [(0, .ref q), (1, .int (nI (B + i0))), (2, .int (nI (B + e))), (3, .int (nI (B + k)))], [.int (nI (B + k))], M)) rfl rfl rfl ?_
                refine ps_st (S' := (162, [(0, .ref q), (1, .int (nI (B + i0))), (2, .int (nI (B + e))), (3, .int (nI (B + k)))], [.int 1, .int (nI (B + k))], M)) rfl rfl rfl ?_
                refine ps_st (S' := (163, [(0, .ref q), (1, .int (nI (B + i0))), (2, .int (nI (B + e))), (3, .int (nI (B + k)))], [.int ((nI (B + k)) + 1)], M)) rfl rfl rfl ?_
                rw [nI_add1 (p := B + k) (k := 1) (x := 1) rfl (by omega)]
                show pl _ _ _ (_, [(0, .ref q), (1, .int (nI (B + i0))), (2, .int (nI (B + e))), (3, .int (nI (B + k)))], [.int (nI (B + k + 1))], M) _
                exact ps_reti rfl (Or.inr ⟨k + 1, by
                    have hb : s_br c (e - i0) i0 = k := by rw [← hs, s_br_st (i := k) (by omega), if_neg (by omega)]
                    unfold s_ty
                    rw [hb]
                    repeat' split
                    all_goals first | rfl | (exfalso; omega), rfl, rfl⟩)
              · show pl _ _ _ (164, [(0, .ref q), (1, .int (nI (B + i0))), (2, .int (nI (B + e))), (3, .int (nI (B + k)))], [], M) _
                have m_46 := sw_nat (t := c k) (by omega) et_46
                simp at m_46
                refine ps_st (S' := (165, [(0, .ref q), (1, .int (nI (B + i0))), (2, .int (nI (B + e))), (3, .int (nI (B + k)))], [.ref q], M)) rfl rfl rfl ?_
                refine ps_st (S' := (166, [(0, .ref q), (1, .int (nI (B + i0))), (2, .int (nI (B + e))), (3, .int (nI (B + k)))], [.int (nI (B + k)), .ref q], M)) rfl rfl rfl ?_
                refine ps_st (S' := (167, [(0, .ref q), (1, .int (nI (B + i0))), (2, .int (nI (B + e))), (3, .int (nI (B + k)))], [.int 1, .int (nI (B + k)), .ref q], M)) rfl rfl rfl ?_
                refine ps_st (S' := (168, [(0, .ref q), (1, .int (nI (B + i0))), (2, .int (nI (B + e))), (3, .int (nI (B + k)))], [.int ((nI (B + k)) + 1), .ref q], M)) rfl rfl rfl ?_
                rw [nI_add1 (p := B + k) (k := 1) (x := 1) rfl (by omega)]
                show pl _ _ _ (_, [(0, .ref q), (1, .int (nI (B + i0))), (2, .int (nI (B + e))), (3, .int (nI (B + k)))], [.int (nI (B + k + 1)), .ref q], M) _
                refine ps_st (S' := (169, [(0, .ref q), (1, .int (nI (B + i0))), (2, .int (nI (B + e))), (3, .int (nI (B + k)))], [.int (nI (B + e)), .int (nI (B + k + 1)), .ref q], M)) rfl rfl rfl ?_
                refine pl_call (a := [.ref q, .int (nI (B + k + 1)), .int (nI (B + e))]) (rest := []) rfl rfl rfl (dy_nameEnd (q := q) (c := c) (B := B) (e := e) (i0 := (k + 1)) (hP) (hm) (hc) (by omega)) (fun v5 M6 q7 => ?_)
                rcases q7 with q7 | q7
                · skip
                  obtain ⟨q169_s, rfl, rfl⟩ := q7
                  show pl _ _ _ (172, [(0, .ref q), (1, .int (nI (B + i0))), (2, .int (nI (B + e))), (3, .int (nI (B + k)))], [.int (-1)], M) _
                  refine ps_st (S' := (174, [(4, .int (-1)), (0, .ref q), (1, .int (nI (B + i0))), (2, .int (nI (B + e))), (3, .int (nI (B + k)))], [], M)) rfl rfl rfl ?_
                  refine ps_st (S' := (176, [(4, .int (-1)), (0, .ref q), (1, .int (nI (B + i0))), (2, .int (nI (B + e))), (3, .int (nI (B + k)))], [.int (-1)], M)) rfl rfl rfl ?_
                  refine ps_if (S1 := (185, [], [], M)) (S2 := (179, [(4, .int (-1)), (0, .ref q), (1, .int (nI (B + i0))), (2, .int (nI (B + e))), (3, .int (nI (B + k)))], [], M)) rfl rfl rfl (fun c_176 => ?_) (fun c_176 => ?_)
                  rotate_left
                  · exact absurd (by decide) (of_decide_eq_false c_176)
                  refine ps_st (S' := (186, [], [.int (-1)], M)) rfl rfl rfl ?_
                  refine ps_st (S' := (193, [], [.int (-1)], M)) rfl rfl rfl ?_
                  exact ps_ret rfl rfl (Or.inl ⟨by
                      have hb : s_br c (e - i0) i0 = k := by rw [← hs, s_br_st (i := k) (by omega), if_neg (by omega)]
                      unfold s_ty
                      rw [hb]
                      rw [q169_s]
                      dsimp only
                      repeat' split
                      all_goals first | rfl | (exfalso; omega), rfl, rfl⟩)
                · skip
                  obtain ⟨x8, q169_s, rfl, rfl⟩ := q7
                  show pl _ _ _ (172, [(0, .ref q), (1, .int (nI (B + i0))), (2, .int (nI (B + e))), (3, .int (nI (B + k)))], [.int (nI (B + x8))], M) _
                  have hl_169 := s_nm_le q169_s
                  refine ps_st (S' := (174, [(4, .int (nI (B + x8))), (0, .ref q), (1, .int (nI (B + i0))), (2, .int (nI (B + e))), (3, .int (nI (B + k)))], [], M)) rfl rfl rfl ?_
                  refine ps_st (S' := (176, [(4, .int (nI (B + x8))), (0, .ref q), (1, .int (nI (B + i0))), (2, .int (nI (B + e))), (3, .int (nI (B + k)))], [.int (nI (B + x8))], M)) rfl rfl rfl ?_
                  refine ps_if (S1 := (185, [], [], M)) (S2 := (179, [(4, .int (nI (B + x8))), (0, .ref q), (1, .int (nI (B + i0))), (2, .int (nI (B + e))), (3, .int (nI (B + k)))], [], M)) rfl rfl rfl (fun c_176 => ?_) (fun c_176 => ?_)
                  · exact absurd (of_decide_eq_true c_176) (nI_n0 (by omega))
                  refine ps_st (S' := (181, [(4, .int (nI (B + x8))), (0, .ref q), (1, .int (nI (B + i0))), (2, .int (nI (B + e))), (3, .int (nI (B + k)))], [.int (nI (B + x8))], M)) rfl rfl rfl ?_
                  refine ps_st (S' := (182, [(4, .int (nI (B + x8))), (0, .ref q), (1, .int (nI (B + i0))), (2, .int (nI (B + e))), (3, .int (nI (B + k)))], [.int (nI (B + e)), .int (nI (B + x8))], M)) rfl rfl rfl ?_
                  refine ps_if2 (S1 := (189, [(4, .int (nI (B + x8))), (0, .ref q), (1, .int (nI (B + i0))), (2, .int (nI (B + e))), (3, .int (nI (B + k)))], [], M)) (S2 := (185, [], [], M)) rfl rfl rfl (fun c_182 => ?_) (fun c_182 => ?_)
                  · have c_182 : (nI (B + x8)) < (nI (B + e)) := of_decide_eq_true c_182
                    have n_182 : B + x8 < B + e := (lt_nI (p := B + x8) (n := B + e) (by omega) (by omega)).mp c_182
                    refine ps_st (S' := (191, [(4, .int (nI (B + x8))), (0, .ref q), (1, .int (nI (B + i0))), (2, .int (nI (B + e))), (3, .int (nI (B + k)))], [.int (nI (B + x8))], M)) rfl rfl rfl ?_
                    refine ps_st (S' := (192, [(4, .int (nI (B + x8))), (0, .ref q), (1, .int (nI (B + i0))), (2, .int (nI (B + e))), (3, .int (nI (B + k)))], [.int 1, .int (nI (B + x8))], M)) rfl rfl rfl ?_
                    refine ps_st (S' := (193, [], [.int ((nI (B + x8)) + 1)], M)) rfl rfl rfl ?_
                    rw [nI_add1 (p := B + x8) (k := 1) (x := 1) rfl (by omega)]
                    show pl _ _ _ (_, [], [.int (nI (B + x8 + 1))], M) _
                    exact ps_reti rfl (Or.inr ⟨x8 + 1, by
                        have hb : s_br c (e - i0) i0 = k := by rw [← hs, s_br_st (i := k) (by omega), if_neg (by omega)]
                        unfold s_ty
                        rw [hb]
                        rw [q169_s]
                        dsimp only
                        repeat' split
                        all_goals first | rfl | (exfalso; omega), rfl, rfl⟩)
                  · have c_182 : ¬ ((nI (B + x8)) < (nI (B + e))) := of_decide_eq_false c_182
                    have n_182 : ¬ (B + x8 < B + e) := fun h9 => c_182 ((lt_nI (p := B + x8) (n := B + e) (by omega) (by omega)).mpr h9)
                    refine ps_st (S' := (186, [], [.int (-1)], M)) rfl rfl rfl ?_
                    refine ps_st (S' := (193, [], [.int (-1)], M)) rfl rfl rfl ?_
                    exact ps_ret rfl rfl (Or.inl ⟨by
                        have hb : s_br c (e - i0) i0 = k := by rw [← hs, s_br_st (i := k) (by omega), if_neg (by omega)]
                        unfold s_ty
                        rw [hb]
                        rw [q169_s]
                        dsimp only
                        repeat' split
                        all_goals first | rfl | (exfalso; omega), rfl, rfl⟩)
              · show pl _ _ _ (194, [(0, .ref q), (1, .int (nI (B + i0))), (2, .int (nI (B + e))), (3, .int (nI (B + k)))], [], M) _
                have m_46 := sw_nat (t := c k) (by omega) et_46
                simp at m_46
                refine ps_st (S' := (195, [(0, .ref q), (1, .int (nI (B + i0))), (2, .int (nI (B + e))), (3, .int (nI (B + k)))], [.int (-1)], M)) rfl rfl rfl ?_
                exact ps_ret rfl rfl (Or.inl ⟨by
                    have hb : s_br c (e - i0) i0 = k := by rw [← hs, s_br_st (i := k) (by omega), if_neg (by omega)]
                    unfold s_ty
                    rw [hb]
                    repeat' split
                    all_goals first | rfl | (exfalso; omega), rfl, rfl⟩)
            · have c_35 : ¬ ((nI ((B + k) - (B + i0))) ≤ 255) := of_decide_eq_false c_35
              have n_35 : ¬ ((B + k) - (B + i0) ≤ 255) := fun h9 => c_35 ((le_nI (p := (B + k) - (B + i0)) (n := 255) (by omega) (by decide)).mpr h9)
              refine ps_st (S' := (39, [], [.int (-1)], M)) rfl rfl rfl ?_
              exact ps_ret rfl rfl (Or.inl ⟨by
                  have hb : s_br c (e - i0) i0 = k := by rw [← hs, s_br_st (i := k) (by omega), if_neg (by omega)]
                  unfold s_ty
                  rw [hb]
                  repeat' split
                  all_goals first | rfl | (exfalso; omega), rfl, rfl⟩)
        · have c_15 : ¬ (¬ (nI (c k)) = 91) := of_decide_eq_false c_15
          have n_15 : c k = 91 := (eq_nI (p := c k) (n := 91) (by omega) (by decide)).mp (Decidable.not_not.mp c_15)
          refine ps_st (S' := (21, [(3, .int ((nI (B + k)) + 1)), (0, .ref q), (1, .int (nI (B + i0))), (2, .int (nI (B + e)))], [], M)) rfl rfl rfl ?_
          rw [nI_add1 (p := B + k) (k := 1) (x := 1) rfl (by omega)]
          show pl _ _ _ (_, [(3, .int (nI (B + k + 1))), (0, .ref q), (1, .int (nI (B + i0))), (2, .int (nI (B + e)))], [], M) _
          refine ps_st (S' := (2, [(0, .ref q), (1, .int (nI (B + i0))), (2, .int (nI (B + e))), (3, .int (nI (B + k + 1)))], [], M)) rfl rfl rfl ?_
          exact ih (k + 1)  (by omega) (by
              rw [← hs, s_br_st (i := k) (by omega), if_pos (by omega)])
  refine ps_st (S' := (1, [(0, .ref q), (1, .int (nI (B + i0))), (2, .int (nI (B + e)))], [.int (nI (B + i0))], M)) rfl rfl rfl ?_
  refine ps_st (S' := (2, [(0, .ref q), (1, .int (nI (B + i0))), (2, .int (nI (B + e))), (3, .int (nI (B + i0)))], [], M)) rfl rfl rfl ?_
  exact (LL kf) (i0)  (by omega) (rfl)
theorem dy_places {g : xe_G} {M : mi_H} {x : Nat}  (hx : x < 65536) : pt (mT g) 130 [.int (nI x)] M (fun v M' => (v = some (.int (nI (pW x))) ∧ M = M')) := by
  refine (ct_placesOfType (d := 1) (by decide)).pt.mono (fun v M' h => ⟨?_, h.2.symm⟩)
  rw [h.1]
  unfold pW
  by_cases h1 : x = 74
  · rw [if_pos (show nI x = 74 from (eq_nI (n := 74) (by omega) (by decide)).mpr h1), if_pos (by omega)]
    rfl
  · rw [if_neg (show ¬ nI x = 74 from fun h9 => h1 ((eq_nI (n := 74) (by omega) (by decide)).mp h9))]
    by_cases h2 : x = 68
    · rw [if_pos (show nI x = 68 from (eq_nI (n := 68) (by omega) (by decide)).mpr h2), if_pos (by omega)]
      rfl
    · rw [if_neg (show ¬ nI x = 68 from fun h9 => h2 ((eq_nI (n := 68) (by omega) (by decide)).mp h9)), if_neg (by omega)]
      rfl
set_option maxHeartbeats 1000000 in
theorem dy_methodShape {g : xe_G} {M : mi_H} {q H m : Nat} {qq : Nat → Nat} {F : Nat → Nat → Int32} {sz cc : Int32} {c : Nat → Nat} {B e : Nat} {i0 : Nat}  (hP : PL M q sz H m qq F cc) (hm : B + e ≤ m ∧ m ≤ 65540) (hc : ∀ i, i < e → F 6 (B + i) = nI (c i) ∧ c i < 65536) (hi : i0 ≤ e) : pt (mT g) 126 [.ref q, .int (nI (B + i0)), .int (nI (B + e))] M (fun v M' => ((s_ms c e i0 = 0) ∧ v = some (.int (-1)) ∧ M = M') ∨ ((¬ s_ms c e i0 = 0) ∧ v = some (.int (nI (s_ms c e i0))) ∧ M = M')) := by
  refine pt_in (b := mb_126 g) rfl (fun kf => ?_)
  show pl (mT g) kf (mb_126 g).2 (0, [(0, .ref q), (1, .int (nI (B + i0))), (2, .int (nI (B + e)))], [], M) _
  have h_q := hP.1
  have h_qq_1 := hP.2.1 1 (by decide) (by decide)
  have h_qq_2 := hP.2.1 2 (by decide) (by decide)
  have h_qq_3 := hP.2.1 3 (by decide) (by decide)
  have h_qq_4 := hP.2.1 4 (by decide) (by decide)
  have h_qq_5 := hP.2.1 5 (by decide) (by decide)
  have h_qq_6 := hP.2.2
  have hpw : ∀ x, pW x ≤ 2 := fun x => by unfold pW; split <;> omega
  have LL : ∀ (kf : Nat), (∀ (i w : Nat), (i0 ≤ i ∧ i ≤ e) → (w ≤ 257) → (s_ar c e (e - i) i w = s_ar c e (e - i0) i0 0) →  pl (mT g) kf (mb_126 g).2 (5, [(0, .ref q), (2, .int (nI (B + e))), (3, .int (nI (B + i))), (4, .int (nI w))], [], M) (fun v M' => ((s_ms c e i0 = 0) ∧ v = some (.int (-1)) ∧ M = M') ∨ ((¬ s_ms c e i0 = 0) ∧ v = some (.int (nI (s_ms c e i0))) ∧ M = M'))) := by
    intro kf
    induction kf with
    | zero => exact (by intros; exact pl_0)
    | succ kf ih =>
      intro i w hi2 hw hs
      refine ps_st1 (S' := (7, [(0, .ref q), (2, .int (nI (B + e))), (3, .int (nI (B + i))), (4, .int (nI w))], [.int (nI w)], M)) rfl rfl rfl ?_
      refine ps_st (S' := (10, [(0, .ref q), (2, .int (nI (B + e))), (3, .int (nI (B + i))), (4, .int (nI w))], [.int 255, .int (nI w)], M)) rfl rfl rfl ?_
      refine ps_if2 (S1 := (56, [(0, .ref q), (2, .int (nI (B + e))), (3, .int (nI (B + i))), (4, .int (nI w))], [], M)) (S2 := (13, [(0, .ref q), (2, .int (nI (B + e))), (3, .int (nI (B + i))), (4, .int (nI w))], [], M)) rfl rfl rfl (fun c_10 => ?_) (fun c_10 => ?_)
      · have c_10 : 255 < (nI w) := of_decide_eq_true c_10
        have n_10 : 255 < w := (lt_nI (p := 255) (n := w) (by decide) (by omega)).mp c_10
        refine ps_st (S' := (57, [(0, .ref q), (2, .int (nI (B + e))), (3, .int (nI (B + i))), (4, .int (nI w))], [.int (nI (B + i))], M)) rfl rfl rfl ?_
        refine ps_st (S' := (58, [(0, .ref q), (2, .int (nI (B + e))), (3, .int (nI (B + i))), (4, .int (nI w))], [.int 1, .int (nI (B + i))], M)) rfl rfl rfl ?_
        refine ps_st (S' := (59, [(0, .ref q), (2, .int (nI (B + e))), (3, .int (nI (B + i))), (4, .int (nI w))], [.int ((nI (B + i)) + 1)], M)) rfl rfl rfl ?_
        rw [nI_add1 (p := B + i) (k := 1) (x := 1) rfl (by omega)]
        show pl _ _ _ (_, [(0, .ref q), (2, .int (nI (B + e))), (3, .int (nI (B + i))), (4, .int (nI w))], [.int (nI (B + i + 1))], M) _
        refine ps_st (S' := (61, [(5, .int (nI (B + i + 1))), (0, .ref q), (2, .int (nI (B + e))), (3, .int (nI (B + i))), (4, .int (nI w))], [], M)) rfl rfl rfl ?_
        refine ps_st (S' := (63, [(5, .int (nI (B + i + 1))), (0, .ref q), (2, .int (nI (B + e))), (3, .int (nI (B + i))), (4, .int (nI w))], [.int (nI (B + i + 1))], M)) rfl rfl rfl ?_
        refine ps_st (S' := (64, [(5, .int (nI (B + i + 1))), (0, .ref q), (2, .int (nI (B + e))), (3, .int (nI (B + i))), (4, .int (nI w))], [.int (nI (B + e)), .int (nI (B + i + 1))], M)) rfl rfl rfl ?_
        refine ps_if2 (S1 := (75, [], [], M)) (S2 := (67, [(5, .int (nI (B + i + 1))), (0, .ref q), (2, .int (nI (B + e))), (3, .int (nI (B + i))), (4, .int (nI w))], [], M)) rfl rfl rfl (fun c_64 => ?_) (fun c_64 => ?_)
        · have c_64 : (nI (B + e)) ≤ (nI (B + i + 1)) := of_decide_eq_true c_64
          have n_64 : B + e ≤ B + i + 1 := (le_nI (p := B + e) (n := B + i + 1) (by omega) (by omega)).mp c_64
          refine ps_st (S' := (76, [], [.int (-1)], M)) rfl rfl rfl ?_
          exact ps_ret rfl rfl (Or.inl ⟨by
              unfold s_ms
              rw [← hs]
              rw [s_ar_0 (by omega)]
              dsimp only
              repeat' split
              all_goals first | rfl | (exfalso; omega) | (exfalso; simp_all; done) | (exfalso; simp_all; omega), rfl, rfl⟩)
        · have c_64 : ¬ ((nI (B + e)) ≤ (nI (B + i + 1))) := of_decide_eq_false c_64
          have n_64 : ¬ (B + e ≤ B + i + 1) := fun h9 => c_64 ((le_nI (p := B + e) (n := B + i + 1) (by omega) (by omega)).mpr h9)
          refine ps_st (S' := (69, [(5, .int (nI (B + i + 1))), (0, .ref q), (2, .int (nI (B + e))), (3, .int (nI (B + i))), (4, .int (nI w))], [.int (nI w)], M)) rfl rfl rfl ?_
          refine ps_st (S' := (72, [(5, .int (nI (B + i + 1))), (0, .ref q), (2, .int (nI (B + e))), (3, .int (nI (B + i))), (4, .int (nI w))], [.int 255, .int (nI w)], M)) rfl rfl rfl ?_
          refine ps_if2 (S1 := (77, [(5, .int (nI (B + i + 1))), (0, .ref q), (2, .int (nI (B + e))), (3, .int (nI (B + i))), (4, .int (nI w))], [], M)) (S2 := (75, [], [], M)) rfl rfl rfl (fun c_72 => ?_) (fun c_72 => ?_)
          · have c_72 : (nI w) ≤ 255 := of_decide_eq_true c_72
            have n_72 : w ≤ 255 := (le_nI (p := w) (n := 255) (by omega) (by decide)).mp c_72
            refine ps_st (S' := (78, [(5, .int (nI (B + i + 1))), (0, .ref q), (2, .int (nI (B + e))), (3, .int (nI (B + i))), (4, .int (nI w))], [.ref q], M)) rfl rfl rfl ?_
            refine ps_get (S' := (81, [(5, .int (nI (B + i + 1))), (0, .ref q), (2, .int (nI (B + e))), (3, .int (nI (B + i))), (4, .int (nI w))], [.ref (qq 6)], M)) rfl h_q rfl rfl ?_
            refine ps_st (S' := (83, [(5, .int (nI (B + i + 1))), (0, .ref q), (2, .int (nI (B + e))), (3, .int (nI (B + i))), (4, .int (nI w))], [.int (nI (B + i + 1)), .ref (qq 6)], M)) rfl rfl rfl ?_
            refine ps_ald (S' := (84, [(5, .int (nI (B + i + 1))), (0, .ref q), (2, .int (nI (B + e))), (3, .int (nI (B + i))), (4, .int (nI w))], [.int ((F 6) (Int32.toNatClampNeg (nI (B + i + 1))))], M)) rfl h_qq_6 rfl (fun i0_83 i1_83 => ?_)
            have hb_83 := (hc (i + 1) (by omega)).2
            rw [show ((F 6) (Int32.toNatClampNeg (nI (B + i + 1)))) = (nI (c (i + 1))) from (congrArg (F 6) (nI_toNat (k := B + i + 1) (by omega))).trans ((hc (i + 1) (by omega)).1)]
            show pl _ _ _ (_, [(5, .int (nI (B + i + 1))), (0, .ref q), (2, .int (nI (B + e))), (3, .int (nI (B + i))), (4, .int (nI w))], [.int (nI (c (i + 1)))], M) _
            refine ps_st (S' := (86, [(5, .int (nI (B + i + 1))), (0, .ref q), (2, .int (nI (B + e))), (3, .int (nI (B + i))), (4, .int (nI w))], [.int 86, .int (nI (c (i + 1)))], M)) rfl rfl rfl ?_
            refine ps_if2 (S1 := (104, [(0, .ref q), (2, .int (nI (B + e))), (4, .int (nI w)), (5, .int (nI (B + i + 1)))], [], M)) (S2 := (89, [(5, .int (nI (B + i + 1))), (0, .ref q), (2, .int (nI (B + e))), (3, .int (nI (B + i))), (4, .int (nI w))], [], M)) rfl rfl rfl (fun c_86 => ?_) (fun c_86 => ?_)
            · have c_86 : ¬ (nI (c (i + 1))) = 86 := of_decide_eq_true c_86
              have n_86 : ¬ (c (i + 1) = 86) := fun h9 => c_86 ((eq_nI (p := c (i + 1)) (n := 86) (by omega) (by decide)).mpr h9)
              refine ps_st (S' := (105, [(0, .ref q), (2, .int (nI (B + e))), (4, .int (nI w)), (5, .int (nI (B + i + 1)))], [.ref q], M)) rfl rfl rfl ?_
              refine ps_st (S' := (107, [(0, .ref q), (2, .int (nI (B + e))), (4, .int (nI w)), (5, .int (nI (B + i + 1)))], [.int (nI (B + i + 1)), .ref q], M)) rfl rfl rfl ?_
              refine ps_st (S' := (108, [(0, .ref q), (2, .int (nI (B + e))), (4, .int (nI w)), (5, .int (nI (B + i + 1)))], [.int (nI (B + e)), .int (nI (B + i + 1)), .ref q], M)) rfl rfl rfl ?_
              refine pl_call (a := [.ref q, .int (nI (B + i + 1)), .int (nI (B + e))]) (rest := []) rfl rfl rfl (dy_typeEnd (q := q) (c := c) (B := B) (e := e) (i0 := (i + 1)) (hP) (hm) (hc) (by omega)) (fun v1 M2 q3 => ?_)
              rcases q3 with q3 | q3
              · skip
                obtain ⟨q108_s, rfl, rfl⟩ := q3
                show pl _ _ _ (111, [(0, .ref q), (2, .int (nI (B + e))), (4, .int (nI w)), (5, .int (nI (B + i + 1)))], [.int (-1)], M) _
                refine ps_st (S' := (112, [(0, .ref q), (2, .int (nI (B + e))), (4, .int (nI w)), (5, .int (nI (B + i + 1)))], [.int (nI (B + e)), .int (-1)], M)) rfl rfl rfl ?_
                refine ps_if2 (S1 := (117, [(0, .ref q), (2, .int (nI (B + e))), (4, .int (nI w)), (5, .int (nI (B + i + 1)))], [], M)) (S2 := (115, [(0, .ref q), (2, .int (nI (B + e))), (4, .int (nI w)), (5, .int (nI (B + i + 1)))], [], M)) rfl rfl rfl (fun c_112 => ?_) (fun c_112 => ?_)
                · exact absurd (of_decide_eq_true c_112) (m1_ne (by omega))
                refine ps_st (S' := (116, [(0, .ref q), (2, .int (nI (B + e))), (4, .int (nI w)), (5, .int (nI (B + i + 1)))], [.int (-1)], M)) rfl rfl rfl ?_
                exact ps_ret rfl rfl (Or.inl ⟨by
                    unfold s_ms
                    rw [← hs]
                    rw [s_ar_0 (by omega)]
                    dsimp only
                    rw [q108_s]
                    repeat' split
                    all_goals first | rfl | (exfalso; omega) | (exfalso; simp_all; done) | (exfalso; simp_all; omega), rfl, rfl⟩)
              · skip
                obtain ⟨x4, q108_s, rfl, rfl⟩ := q3
                show pl _ _ _ (111, [(0, .ref q), (2, .int (nI (B + e))), (4, .int (nI w)), (5, .int (nI (B + i + 1)))], [.int (nI (B + x4))], M) _
                have hl_108 := s_ty_le q108_s
                refine ps_st (S' := (112, [(0, .ref q), (2, .int (nI (B + e))), (4, .int (nI w)), (5, .int (nI (B + i + 1)))], [.int (nI (B + e)), .int (nI (B + x4))], M)) rfl rfl rfl ?_
                refine ps_if2 (S1 := (117, [(0, .ref q), (2, .int (nI (B + e))), (4, .int (nI w)), (5, .int (nI (B + i + 1)))], [], M)) (S2 := (115, [(0, .ref q), (2, .int (nI (B + e))), (4, .int (nI w)), (5, .int (nI (B + i + 1)))], [], M)) rfl rfl rfl (fun c_112 => ?_) (fun c_112 => ?_)
                · have c_112 : (nI (B + x4)) = (nI (B + e)) := of_decide_eq_true c_112
                  have n_112 : B + x4 = B + e := (eq_nI (p := B + x4) (n := B + e) (by omega) (by omega)).mp c_112
                  refine ps_st (S' := (120, [(0, .ref q), (2, .int (nI (B + e))), (4, .int (nI w)), (5, .int (nI (B + i + 1)))], [.int 4096], M)) rfl rfl rfl ?_
                  refine ps_st (S' := (123, [(0, .ref q), (2, .int (nI (B + e))), (4, .int (nI w)), (5, .int (nI (B + i + 1)))], [.int 1024, .int 4096], M)) rfl rfl rfl ?_
                  refine ps_st (S' := (124, [(0, .ref q), (2, .int (nI (B + e))), (4, .int (nI w)), (5, .int (nI (B + i + 1)))], [.ref q, .int 1024, .int 4096], M)) rfl rfl rfl ?_
                  refine ps_get (S' := (127, [(0, .ref q), (2, .int (nI (B + e))), (4, .int (nI w)), (5, .int (nI (B + i + 1)))], [.ref (qq 6), .int 1024, .int 4096], M)) rfl h_q rfl rfl ?_
                  refine ps_st (S' := (129, [(0, .ref q), (2, .int (nI (B + e))), (4, .int (nI w)), (5, .int (nI (B + i + 1)))], [.int (nI (B + i + 1)), .ref (qq 6), .int 1024, .int 4096], M)) rfl rfl rfl ?_
                  refine ps_ald (S' := (130, [(0, .ref q), (2, .int (nI (B + e))), (4, .int (nI w)), (5, .int (nI (B + i + 1)))], [.int ((F 6) (Int32.toNatClampNeg (nI (B + i + 1)))), .int 1024, .int 4096], M)) rfl h_qq_6 rfl (fun i0_129 i1_129 => ?_)
                  have hb_129 := (hc (i + 1) (by omega)).2
                  rw [show ((F 6) (Int32.toNatClampNeg (nI (B + i + 1)))) = (nI (c (i + 1))) from (congrArg (F 6) (nI_toNat (k := B + i + 1) (by omega))).trans ((hc (i + 1) (by omega)).1)]
                  show pl _ _ _ (_, [(0, .ref q), (2, .int (nI (B + e))), (4, .int (nI w)), (5, .int (nI (B + i + 1)))], [.int (nI (c (i + 1))), .int 1024, .int 4096], M) _
                  refine pl_call (a := [.int (nI (c (i + 1)))]) (rest := [.int 1024, .int 4096]) rfl rfl rfl (dy_places (x := (c (i + 1))) (by omega)) (fun v5 M6 q7 => ?_)
                  obtain ⟨rfl, rfl⟩ := q7
                  show pl _ _ _ (133, [(0, .ref q), (2, .int (nI (B + e))), (4, .int (nI w)), (5, .int (nI (B + i + 1)))], [.int (nI (pW (c (i + 1)))), .int 1024, .int 4096], M) _
                  have hp_130 := pW_le (c (i + 1))
                  refine ps_st (S' := (134, [(0, .ref q), (2, .int (nI (B + e))), (4, .int (nI w)), (5, .int (nI (B + i + 1)))], [.int (1024 * (nI (pW (c (i + 1))))), .int 4096], M)) rfl rfl rfl ?_
                  rw [nI_mul1 (p := 1024) (k := pW (c (i + 1))) (x := 1024) (y := (nI (pW (c (i + 1))))) rfl rfl (by omega)]
                  show pl _ _ _ (_, [(0, .ref q), (2, .int (nI (B + e))), (4, .int (nI w)), (5, .int (nI (B + i + 1)))], [.int (nI (1024 * (pW (c (i + 1))))), .int 4096], M) _
                  refine ps_st (S' := (135, [(0, .ref q), (2, .int (nI (B + e))), (4, .int (nI w)), (5, .int (nI (B + i + 1)))], [.int (4096 + (nI (1024 * (pW (c (i + 1))))))], M)) rfl rfl rfl ?_
                  rw [nI_add2 (p := 4096) (k := 1024 * (pW (c (i + 1)))) (x := 4096) (y := (nI (1024 * (pW (c (i + 1)))))) rfl rfl (by omega)]
                  show pl _ _ _ (_, [(0, .ref q), (2, .int (nI (B + e))), (4, .int (nI w)), (5, .int (nI (B + i + 1)))], [.int (nI (4096 + 1024 * (pW (c (i + 1)))))], M) _
                  refine ps_st (S' := (137, [(0, .ref q), (2, .int (nI (B + e))), (4, .int (nI w)), (5, .int (nI (B + i + 1)))], [.int (nI w), .int (nI (4096 + 1024 * (pW (c (i + 1)))))], M)) rfl rfl rfl ?_
                  refine ps_st (S' := (138, [(0, .ref q), (2, .int (nI (B + e))), (4, .int (nI w)), (5, .int (nI (B + i + 1)))], [.int ((nI (4096 + 1024 * (pW (c (i + 1))))) + (nI w))], M)) rfl rfl rfl ?_
                  rw [nI_add1 (p := 4096 + 1024 * (pW (c (i + 1)))) (k := w) (x := (nI w)) rfl (by omega)]
                  show pl _ _ _ (_, [(0, .ref q), (2, .int (nI (B + e))), (4, .int (nI w)), (5, .int (nI (B + i + 1)))], [.int (nI (4096 + 1024 * (pW (c (i + 1))) + w))], M) _
                  exact ps_reti rfl ((fun (he : s_ms c e i0 = 4096 + 1024 * pW (c (i + 1)) + w) => Or.inr ⟨by omega, by rw [he], rfl⟩) (by
                      unfold s_ms
                      rw [← hs]
                      rw [s_ar_0 (by omega)]
                      dsimp only
                      rw [if_neg (by omega), if_neg (by omega), if_pos (by rw [q108_s]; congr 1; omega)]))
                · have c_112 : ¬ ((nI (B + x4)) = (nI (B + e))) := of_decide_eq_false c_112
                  have n_112 : ¬ (B + x4 = B + e) := fun h9 => c_112 ((eq_nI (p := B + x4) (n := B + e) (by omega) (by omega)).mpr h9)
                  refine ps_st (S' := (116, [(0, .ref q), (2, .int (nI (B + e))), (4, .int (nI w)), (5, .int (nI (B + i + 1)))], [.int (-1)], M)) rfl rfl rfl ?_
                  exact ps_ret rfl rfl (Or.inl ⟨by
                      unfold s_ms
                      rw [← hs]
                      rw [s_ar_0 (by omega)]
                      dsimp only
                      rw [q108_s]
                      repeat' split
                      all_goals first | rfl | (exfalso; omega) | (exfalso; simp_all; done) | (exfalso; simp_all; omega), rfl, rfl⟩)
            · have c_86 : ¬ (¬ (nI (c (i + 1))) = 86) := of_decide_eq_false c_86
              have n_86 : c (i + 1) = 86 := (eq_nI (p := c (i + 1)) (n := 86) (by omega) (by decide)).mp (Decidable.not_not.mp c_86)
              refine ps_st (S' := (91, [(5, .int (nI (B + i + 1))), (0, .ref q), (2, .int (nI (B + e))), (3, .int (nI (B + i))), (4, .int (nI w))], [.int (nI (B + i + 1))], M)) rfl rfl rfl ?_
              refine ps_st (S' := (92, [(5, .int (nI (B + i + 1))), (0, .ref q), (2, .int (nI (B + e))), (3, .int (nI (B + i))), (4, .int (nI w))], [.int 1, .int (nI (B + i + 1))], M)) rfl rfl rfl ?_
              refine ps_st (S' := (93, [(5, .int (nI (B + i + 1))), (0, .ref q), (2, .int (nI (B + e))), (3, .int (nI (B + i))), (4, .int (nI w))], [.int ((nI (B + i + 1)) + 1)], M)) rfl rfl rfl ?_
              rw [nI_add1 (p := B + i + 1) (k := 1) (x := 1) rfl (by omega)]
              show pl _ _ _ (_, [(5, .int (nI (B + i + 1))), (0, .ref q), (2, .int (nI (B + e))), (3, .int (nI (B + i))), (4, .int (nI w))], [.int (nI (B + i + 2))], M) _
              refine ps_st (S' := (94, [(5, .int (nI (B + i + 1))), (0, .ref q), (2, .int (nI (B + e))), (3, .int (nI (B + i))), (4, .int (nI w))], [.int (nI (B + e)), .int (nI (B + i + 2))], M)) rfl rfl rfl ?_
              refine ps_if2 (S1 := (104, [(0, .ref q), (2, .int (nI (B + e))), (4, .int (nI w)), (5, .int (nI (B + i + 1)))], [], M)) (S2 := (97, [(5, .int (nI (B + i + 1))), (0, .ref q), (2, .int (nI (B + e))), (3, .int (nI (B + i))), (4, .int (nI w))], [], M)) rfl rfl rfl (fun c_94 => ?_) (fun c_94 => ?_)
              · have c_94 : ¬ (nI (B + i + 2)) = (nI (B + e)) := of_decide_eq_true c_94
                have n_94 : ¬ (B + i + 2 = B + e) := fun h9 => c_94 ((eq_nI (p := B + i + 2) (n := B + e) (by omega) (by omega)).mpr h9)
                refine ps_st (S' := (105, [(0, .ref q), (2, .int (nI (B + e))), (4, .int (nI w)), (5, .int (nI (B + i + 1)))], [.ref q], M)) rfl rfl rfl ?_
                refine ps_st (S' := (107, [(0, .ref q), (2, .int (nI (B + e))), (4, .int (nI w)), (5, .int (nI (B + i + 1)))], [.int (nI (B + i + 1)), .ref q], M)) rfl rfl rfl ?_
                refine ps_st (S' := (108, [(0, .ref q), (2, .int (nI (B + e))), (4, .int (nI w)), (5, .int (nI (B + i + 1)))], [.int (nI (B + e)), .int (nI (B + i + 1)), .ref q], M)) rfl rfl rfl ?_
                refine pl_call (a := [.ref q, .int (nI (B + i + 1)), .int (nI (B + e))]) (rest := []) rfl rfl rfl (dy_typeEnd (q := q) (c := c) (B := B) (e := e) (i0 := (i + 1)) (hP) (hm) (hc) (by omega)) (fun v8 M9 q10 => ?_)
                rcases q10 with q10 | q10
                · skip
                  obtain ⟨q108_s, rfl, rfl⟩ := q10
                  show pl _ _ _ (111, [(0, .ref q), (2, .int (nI (B + e))), (4, .int (nI w)), (5, .int (nI (B + i + 1)))], [.int (-1)], M) _
                  refine ps_st (S' := (112, [(0, .ref q), (2, .int (nI (B + e))), (4, .int (nI w)), (5, .int (nI (B + i + 1)))], [.int (nI (B + e)), .int (-1)], M)) rfl rfl rfl ?_
                  refine ps_if2 (S1 := (117, [(0, .ref q), (2, .int (nI (B + e))), (4, .int (nI w)), (5, .int (nI (B + i + 1)))], [], M)) (S2 := (115, [(0, .ref q), (2, .int (nI (B + e))), (4, .int (nI w)), (5, .int (nI (B + i + 1)))], [], M)) rfl rfl rfl (fun c_112 => ?_) (fun c_112 => ?_)
                  · exact absurd (of_decide_eq_true c_112) (m1_ne (by omega))
                  refine ps_st (S' := (116, [(0, .ref q), (2, .int (nI (B + e))), (4, .int (nI w)), (5, .int (nI (B + i + 1)))], [.int (-1)], M)) rfl rfl rfl ?_
                  exact ps_ret rfl rfl (Or.inl ⟨by
                      unfold s_ms
                      rw [← hs]
                      rw [s_ar_0 (by omega)]
                      dsimp only
                      rw [q108_s]
                      repeat' split
                      all_goals first | rfl | (exfalso; omega) | (exfalso; simp_all; done) | (exfalso; simp_all; omega), rfl, rfl⟩)
                · skip
                  obtain ⟨x11, q108_s, rfl, rfl⟩ := q10
                  show pl _ _ _ (111, [(0, .ref q), (2, .int (nI (B + e))), (4, .int (nI w)), (5, .int (nI (B + i + 1)))], [.int (nI (B + x11))], M) _
                  have hl_108 := s_ty_le q108_s
                  refine ps_st (S' := (112, [(0, .ref q), (2, .int (nI (B + e))), (4, .int (nI w)), (5, .int (nI (B + i + 1)))], [.int (nI (B + e)), .int (nI (B + x11))], M)) rfl rfl rfl ?_
                  refine ps_if2 (S1 := (117, [(0, .ref q), (2, .int (nI (B + e))), (4, .int (nI w)), (5, .int (nI (B + i + 1)))], [], M)) (S2 := (115, [(0, .ref q), (2, .int (nI (B + e))), (4, .int (nI w)), (5, .int (nI (B + i + 1)))], [], M)) rfl rfl rfl (fun c_112 => ?_) (fun c_112 => ?_)
                  · have c_112 : (nI (B + x11)) = (nI (B + e)) := of_decide_eq_true c_112
                    have n_112 : B + x11 = B + e := (eq_nI (p := B + x11) (n := B + e) (by omega) (by omega)).mp c_112
                    refine ps_st (S' := (120, [(0, .ref q), (2, .int (nI (B + e))), (4, .int (nI w)), (5, .int (nI (B + i + 1)))], [.int 4096], M)) rfl rfl rfl ?_
                    refine ps_st (S' := (123, [(0, .ref q), (2, .int (nI (B + e))), (4, .int (nI w)), (5, .int (nI (B + i + 1)))], [.int 1024, .int 4096], M)) rfl rfl rfl ?_
                    refine ps_st (S' := (124, [(0, .ref q), (2, .int (nI (B + e))), (4, .int (nI w)), (5, .int (nI (B + i + 1)))], [.ref q, .int 1024, .int 4096], M)) rfl rfl rfl ?_
                    refine ps_get (S' := (127, [(0, .ref q), (2, .int (nI (B + e))), (4, .int (nI w)), (5, .int (nI (B + i + 1)))], [.ref (qq 6), .int 1024, .int 4096], M)) rfl h_q rfl rfl ?_
                    refine ps_st (S' := (129, [(0, .ref q), (2, .int (nI (B + e))), (4, .int (nI w)), (5, .int (nI (B + i + 1)))], [.int (nI (B + i + 1)), .ref (qq 6), .int 1024, .int 4096], M)) rfl rfl rfl ?_
                    refine ps_ald (S' := (130, [(0, .ref q), (2, .int (nI (B + e))), (4, .int (nI w)), (5, .int (nI (B + i + 1)))], [.int ((F 6) (Int32.toNatClampNeg (nI (B + i + 1)))), .int 1024, .int 4096], M)) rfl h_qq_6 rfl (fun i0_129 i1_129 => ?_)
                    have hb_129 := (hc (i + 1) (by omega)).2
                    rw [show ((F 6) (Int32.toNatClampNeg (nI (B + i + 1)))) = (nI (c (i + 1))) from (congrArg (F 6) (nI_toNat (k := B + i + 1) (by omega))).trans ((hc (i + 1) (by omega)).1)]
                    show pl _ _ _ (_, [(0, .ref q), (2, .int (nI (B + e))), (4, .int (nI w)), (5, .int (nI (B + i + 1)))], [.int (nI (c (i + 1))), .int 1024, .int 4096], M) _
                    refine pl_call (a := [.int (nI (c (i + 1)))]) (rest := [.int 1024, .int 4096]) rfl rfl rfl (dy_places (x := (c (i + 1))) (by omega)) (fun v12 M13 q14 => ?_)
                    obtain ⟨rfl, rfl⟩ := q14
                    show pl _ _ _ (133, [(0, .ref q), (2, .int (nI (B + e))), (4, .int (nI w)), (5, .int (nI (B + i + 1)))], [.int (nI (pW (c (i + 1)))), .int 1024, .int 4096], M) _
                    have hp_130 := pW_le (c (i + 1))
                    refine ps_st (S' := (134, [(0, .ref q), (2, .int (nI (B + e))), (4, .int (nI w)), (5, .int (nI (B + i + 1)))], [.int (1024 * (nI (pW (c (i + 1))))), .int 4096], M)) rfl rfl rfl ?_
                    rw [nI_mul1 (p := 1024) (k := pW (c (i + 1))) (x := 1024) (y := (nI (pW (c (i + 1))))) rfl rfl (by omega)]
                    show pl _ _ _ (_, [(0, .ref q), (2, .int (nI (B + e))), (4, .int (nI w)), (5, .int (nI (B + i + 1)))], [.int (nI (1024 * (pW (c (i + 1))))), .int 4096], M) _
                    refine ps_st (S' := (135, [(0, .ref q), (2, .int (nI (B + e))), (4, .int (nI w)), (5, .int (nI (B + i + 1)))], [.int (4096 + (nI (1024 * (pW (c (i + 1))))))], M)) rfl rfl rfl ?_
                    rw [nI_add2 (p := 4096) (k := 1024 * (pW (c (i + 1)))) (x := 4096) (y := (nI (1024 * (pW (c (i + 1)))))) rfl rfl (by omega)]
                    show pl _ _ _ (_, [(0, .ref q), (2, .int (nI (B + e))), (4, .int (nI w)), (5, .int (nI (B + i + 1)))], [.int (nI (4096 + 1024 * (pW (c (i + 1)))))], M) _
                    refine ps_st (S' := (137, [(0, .ref q), (2, .int (nI (B + e))), (4, .int (nI w)), (5, .int (nI (B + i + 1)))], [.int (nI w), .int (nI (4096 + 1024 * (pW (c (i + 1)))))], M)) rfl rfl rfl ?_
                    refine ps_st (S' := (138, [(0, .ref q), (2, .int (nI (B + e))), (4, .int (nI w)), (5, .int (nI (B + i + 1)))], [.int ((nI (4096 + 1024 * (pW (c (i + 1))))) + (nI w))], M)) rfl rfl rfl ?_
                    rw [nI_add1 (p := 4096 + 1024 * (pW (c (i + 1)))) (k := w) (x := (nI w)) rfl (by omega)]
                    show pl _ _ _ (_, [(0, .ref q), (2, .int (nI (B + e))), (4, .int (nI w)), (5, .int (nI (B + i + 1)))], [.int (nI (4096 + 1024 * (pW (c (i + 1))) + w))], M) _
                    exact ps_reti rfl ((fun (he : s_ms c e i0 = 4096 + 1024 * pW (c (i + 1)) + w) => Or.inr ⟨by omega, by rw [he], rfl⟩) (by
                        unfold s_ms
                        rw [← hs]
                        rw [s_ar_0 (by omega)]
                        dsimp only
                        rw [if_neg (by omega), if_neg (by omega), if_pos (by rw [q108_s]; congr 1; omega)]))
                  · have c_112 : ¬ ((nI (B + x11)) = (nI (B + e))) := of_decide_eq_false c_112
                    have n_112 : ¬ (B + x11 = B + e) := fun h9 => c_112 ((eq_nI (p := B + x11) (n := B + e) (by omega) (by omega)).mpr h9)
                    refine ps_st (S' := (116, [(0, .ref q), (2, .int (nI (B + e))), (4, .int (nI w)), (5, .int (nI (B + i + 1)))], [.int (-1)], M)) rfl rfl rfl ?_
                    exact ps_ret rfl rfl (Or.inl ⟨by
                        unfold s_ms
                        rw [← hs]
                        rw [s_ar_0 (by omega)]
                        dsimp only
                        rw [q108_s]
                        repeat' split
                        all_goals first | rfl | (exfalso; omega) | (exfalso; simp_all; done) | (exfalso; simp_all; omega), rfl, rfl⟩)
              · have c_94 : ¬ (¬ (nI (B + i + 2)) = (nI (B + e))) := of_decide_eq_false c_94
                have n_94 : B + i + 2 = B + e := (eq_nI (p := B + i + 2) (n := B + e) (by omega) (by omega)).mp (Decidable.not_not.mp c_94)
                refine ps_st (S' := (100, [(5, .int (nI (B + i + 1))), (0, .ref q), (2, .int (nI (B + e))), (3, .int (nI (B + i))), (4, .int (nI w))], [.int 4096], M)) rfl rfl rfl ?_
                refine ps_st (S' := (102, [(5, .int (nI (B + i + 1))), (0, .ref q), (2, .int (nI (B + e))), (3, .int (nI (B + i))), (4, .int (nI w))], [.int (nI w), .int 4096], M)) rfl rfl rfl ?_
                refine ps_st (S' := (103, [(5, .int (nI (B + i + 1))), (0, .ref q), (2, .int (nI (B + e))), (3, .int (nI (B + i))), (4, .int (nI w))], [.int (4096 + (nI w))], M)) rfl rfl rfl ?_
                rw [nI_add2 (p := 4096) (k := w) (x := 4096) (y := (nI w)) rfl rfl (by omega)]
                show pl _ _ _ (_, [(5, .int (nI (B + i + 1))), (0, .ref q), (2, .int (nI (B + e))), (3, .int (nI (B + i))), (4, .int (nI w))], [.int (nI (4096 + w))], M) _
                exact ps_reti rfl ((fun (he : s_ms c e i0 = 4096 + w) => Or.inr ⟨by omega, by rw [he], rfl⟩) (by
                    unfold s_ms
                    rw [← hs]
                    rw [s_ar_0 (by omega)]
                    dsimp only
                    rw [if_neg (by omega), if_pos (by omega)]))
          · have c_72 : ¬ ((nI w) ≤ 255) := of_decide_eq_false c_72
            have n_72 : ¬ (w ≤ 255) := fun h9 => c_72 ((le_nI (p := w) (n := 255) (by omega) (by decide)).mpr h9)
            refine ps_st (S' := (76, [], [.int (-1)], M)) rfl rfl rfl ?_
            exact ps_ret rfl rfl (Or.inl ⟨by
                unfold s_ms
                rw [← hs]
                rw [s_ar_0 (by omega)]
                dsimp only
                repeat' split
                all_goals first | rfl | (exfalso; omega) | (exfalso; simp_all; done) | (exfalso; simp_all; omega), rfl, rfl⟩)
      · have c_10 : ¬ (255 < (nI w)) := of_decide_eq_false c_10
        have n_10 : ¬ (255 < w) := fun h9 => c_10 ((lt_nI (p := 255) (n := w) (by decide) (by omega)).mpr h9)
        refine ps_st (S' := (14, [(0, .ref q), (2, .int (nI (B + e))), (3, .int (nI (B + i))), (4, .int (nI w))], [.int (nI (B + i))], M)) rfl rfl rfl ?_
        refine ps_st (S' := (15, [(0, .ref q), (2, .int (nI (B + e))), (3, .int (nI (B + i))), (4, .int (nI w))], [.int (nI (B + e)), .int (nI (B + i))], M)) rfl rfl rfl ?_
        refine ps_if2 (S1 := (56, [(0, .ref q), (2, .int (nI (B + e))), (3, .int (nI (B + i))), (4, .int (nI w))], [], M)) (S2 := (18, [(0, .ref q), (2, .int (nI (B + e))), (3, .int (nI (B + i))), (4, .int (nI w))], [], M)) rfl rfl rfl (fun c_15 => ?_) (fun c_15 => ?_)
        · have c_15 : (nI (B + e)) ≤ (nI (B + i)) := of_decide_eq_true c_15
          have n_15 : B + e ≤ B + i := (le_nI (p := B + e) (n := B + i) (by omega) (by omega)).mp c_15
          refine ps_st (S' := (57, [(0, .ref q), (2, .int (nI (B + e))), (3, .int (nI (B + i))), (4, .int (nI w))], [.int (nI (B + i))], M)) rfl rfl rfl ?_
          refine ps_st (S' := (58, [(0, .ref q), (2, .int (nI (B + e))), (3, .int (nI (B + i))), (4, .int (nI w))], [.int 1, .int (nI (B + i))], M)) rfl rfl rfl ?_
          refine ps_st (S' := (59, [(0, .ref q), (2, .int (nI (B + e))), (3, .int (nI (B + i))), (4, .int (nI w))], [.int ((nI (B + i)) + 1)], M)) rfl rfl rfl ?_
          rw [nI_add1 (p := B + i) (k := 1) (x := 1) rfl (by omega)]
          show pl _ _ _ (_, [(0, .ref q), (2, .int (nI (B + e))), (3, .int (nI (B + i))), (4, .int (nI w))], [.int (nI (B + i + 1))], M) _
          refine ps_st (S' := (61, [(5, .int (nI (B + i + 1))), (0, .ref q), (2, .int (nI (B + e))), (3, .int (nI (B + i))), (4, .int (nI w))], [], M)) rfl rfl rfl ?_
          refine ps_st (S' := (63, [(5, .int (nI (B + i + 1))), (0, .ref q), (2, .int (nI (B + e))), (3, .int (nI (B + i))), (4, .int (nI w))], [.int (nI (B + i + 1))], M)) rfl rfl rfl ?_
          refine ps_st (S' := (64, [(5, .int (nI (B + i + 1))), (0, .ref q), (2, .int (nI (B + e))), (3, .int (nI (B + i))), (4, .int (nI w))], [.int (nI (B + e)), .int (nI (B + i + 1))], M)) rfl rfl rfl ?_
          refine ps_if2 (S1 := (75, [], [], M)) (S2 := (67, [(5, .int (nI (B + i + 1))), (0, .ref q), (2, .int (nI (B + e))), (3, .int (nI (B + i))), (4, .int (nI w))], [], M)) rfl rfl rfl (fun c_64 => ?_) (fun c_64 => ?_)
          · have c_64 : (nI (B + e)) ≤ (nI (B + i + 1)) := of_decide_eq_true c_64
            have n_64 : B + e ≤ B + i + 1 := (le_nI (p := B + e) (n := B + i + 1) (by omega) (by omega)).mp c_64
            refine ps_st (S' := (76, [], [.int (-1)], M)) rfl rfl rfl ?_
            exact ps_ret rfl rfl (Or.inl ⟨by
                unfold s_ms
                rw [← hs]
                rw [s_ar_0 (by omega)]
                dsimp only
                repeat' split
                all_goals first | rfl | (exfalso; omega) | (exfalso; simp_all; done) | (exfalso; simp_all; omega), rfl, rfl⟩)
          · have c_64 : ¬ ((nI (B + e)) ≤ (nI (B + i + 1))) := of_decide_eq_false c_64
            have n_64 : ¬ (B + e ≤ B + i + 1) := fun h9 => c_64 ((le_nI (p := B + e) (n := B + i + 1) (by omega) (by omega)).mpr h9)
            refine ps_st (S' := (69, [(5, .int (nI (B + i + 1))), (0, .ref q), (2, .int (nI (B + e))), (3, .int (nI (B + i))), (4, .int (nI w))], [.int (nI w)], M)) rfl rfl rfl ?_
            refine ps_st (S' := (72, [(5, .int (nI (B + i + 1))), (0, .ref q), (2, .int (nI (B + e))), (3, .int (nI (B + i))), (4, .int (nI w))], [.int 255, .int (nI w)], M)) rfl rfl rfl ?_
            refine ps_if2 (S1 := (77, [(5, .int (nI (B + i + 1))), (0, .ref q), (2, .int (nI (B + e))), (3, .int (nI (B + i))), (4, .int (nI w))], [], M)) (S2 := (75, [], [], M)) rfl rfl rfl (fun c_72 => ?_) (fun c_72 => ?_)
            · have c_72 : (nI w) ≤ 255 := of_decide_eq_true c_72
              have n_72 : w ≤ 255 := (le_nI (p := w) (n := 255) (by omega) (by decide)).mp c_72
              refine ps_st (S' := (78, [(5, .int (nI (B + i + 1))), (0, .ref q), (2, .int (nI (B + e))), (3, .int (nI (B + i))), (4, .int (nI w))], [.ref q], M)) rfl rfl rfl ?_
              refine ps_get (S' := (81, [(5, .int (nI (B + i + 1))), (0, .ref q), (2, .int (nI (B + e))), (3, .int (nI (B + i))), (4, .int (nI w))], [.ref (qq 6)], M)) rfl h_q rfl rfl ?_
              refine ps_st (S' := (83, [(5, .int (nI (B + i + 1))), (0, .ref q), (2, .int (nI (B + e))), (3, .int (nI (B + i))), (4, .int (nI w))], [.int (nI (B + i + 1)), .ref (qq 6)], M)) rfl rfl rfl ?_
              refine ps_ald (S' := (84, [(5, .int (nI (B + i + 1))), (0, .ref q), (2, .int (nI (B + e))), (3, .int (nI (B + i))), (4, .int (nI w))], [.int ((F 6) (Int32.toNatClampNeg (nI (B + i + 1))))], M)) rfl h_qq_6 rfl (fun i0_83 i1_83 => ?_)
              have hb_83 := (hc (i + 1) (by omega)).2
              rw [show ((F 6) (Int32.toNatClampNeg (nI (B + i + 1)))) = (nI (c (i + 1))) from (congrArg (F 6) (nI_toNat (k := B + i + 1) (by omega))).trans ((hc (i + 1) (by omega)).1)]
              show pl _ _ _ (_, [(5, .int (nI (B + i + 1))), (0, .ref q), (2, .int (nI (B + e))), (3, .int (nI (B + i))), (4, .int (nI w))], [.int (nI (c (i + 1)))], M) _
              refine ps_st (S' := (86, [(5, .int (nI (B + i + 1))), (0, .ref q), (2, .int (nI (B + e))), (3, .int (nI (B + i))), (4, .int (nI w))], [.int 86, .int (nI (c (i + 1)))], M)) rfl rfl rfl ?_
              refine ps_if2 (S1 := (104, [(0, .ref q), (2, .int (nI (B + e))), (4, .int (nI w)), (5, .int (nI (B + i + 1)))], [], M)) (S2 := (89, [(5, .int (nI (B + i + 1))), (0, .ref q), (2, .int (nI (B + e))), (3, .int (nI (B + i))), (4, .int (nI w))], [], M)) rfl rfl rfl (fun c_86 => ?_) (fun c_86 => ?_)
              · have c_86 : ¬ (nI (c (i + 1))) = 86 := of_decide_eq_true c_86
                have n_86 : ¬ (c (i + 1) = 86) := fun h9 => c_86 ((eq_nI (p := c (i + 1)) (n := 86) (by omega) (by decide)).mpr h9)
                refine ps_st (S' := (105, [(0, .ref q), (2, .int (nI (B + e))), (4, .int (nI w)), (5, .int (nI (B + i + 1)))], [.ref q], M)) rfl rfl rfl ?_
                refine ps_st (S' := (107, [(0, .ref q), (2, .int (nI (B + e))), (4, .int (nI w)), (5, .int (nI (B + i + 1)))], [.int (nI (B + i + 1)), .ref q], M)) rfl rfl rfl ?_
                refine ps_st (S' := (108, [(0, .ref q), (2, .int (nI (B + e))), (4, .int (nI w)), (5, .int (nI (B + i + 1)))], [.int (nI (B + e)), .int (nI (B + i + 1)), .ref q], M)) rfl rfl rfl ?_
                refine pl_call (a := [.ref q, .int (nI (B + i + 1)), .int (nI (B + e))]) (rest := []) rfl rfl rfl (dy_typeEnd (q := q) (c := c) (B := B) (e := e) (i0 := (i + 1)) (hP) (hm) (hc) (by omega)) (fun v15 M16 q17 => ?_)
                rcases q17 with q17 | q17
                · skip
                  obtain ⟨q108_s, rfl, rfl⟩ := q17
                  show pl _ _ _ (111, [(0, .ref q), (2, .int (nI (B + e))), (4, .int (nI w)), (5, .int (nI (B + i + 1)))], [.int (-1)], M) _
                  refine ps_st (S' := (112, [(0, .ref q), (2, .int (nI (B + e))), (4, .int (nI w)), (5, .int (nI (B + i + 1)))], [.int (nI (B + e)), .int (-1)], M)) rfl rfl rfl ?_
                  refine ps_if2 (S1 := (117, [(0, .ref q), (2, .int (nI (B + e))), (4, .int (nI w)), (5, .int (nI (B + i + 1)))], [], M)) (S2 := (115, [(0, .ref q), (2, .int (nI (B + e))), (4, .int (nI w)), (5, .int (nI (B + i + 1)))], [], M)) rfl rfl rfl (fun c_112 => ?_) (fun c_112 => ?_)
                  · exact absurd (of_decide_eq_true c_112) (m1_ne (by omega))
                  refine ps_st (S' := (116, [(0, .ref q), (2, .int (nI (B + e))), (4, .int (nI w)), (5, .int (nI (B + i + 1)))], [.int (-1)], M)) rfl rfl rfl ?_
                  exact ps_ret rfl rfl (Or.inl ⟨by
                      unfold s_ms
                      rw [← hs]
                      rw [s_ar_0 (by omega)]
                      dsimp only
                      rw [q108_s]
                      repeat' split
                      all_goals first | rfl | (exfalso; omega) | (exfalso; simp_all; done) | (exfalso; simp_all; omega), rfl, rfl⟩)
                · skip
                  obtain ⟨x18, q108_s, rfl, rfl⟩ := q17
                  show pl _ _ _ (111, [(0, .ref q), (2, .int (nI (B + e))), (4, .int (nI w)), (5, .int (nI (B + i + 1)))], [.int (nI (B + x18))], M) _
                  have hl_108 := s_ty_le q108_s
                  refine ps_st (S' := (112, [(0, .ref q), (2, .int (nI (B + e))), (4, .int (nI w)), (5, .int (nI (B + i + 1)))], [.int (nI (B + e)), .int (nI (B + x18))], M)) rfl rfl rfl ?_
                  refine ps_if2 (S1 := (117, [(0, .ref q), (2, .int (nI (B + e))), (4, .int (nI w)), (5, .int (nI (B + i + 1)))], [], M)) (S2 := (115, [(0, .ref q), (2, .int (nI (B + e))), (4, .int (nI w)), (5, .int (nI (B + i + 1)))], [], M)) rfl rfl rfl (fun c_112 => ?_) (fun c_112 => ?_)
                  · have c_112 : (nI (B + x18)) = (nI (B + e)) := of_decide_eq_true c_112
                    have n_112 : B + x18 = B + e := (eq_nI (p := B + x18) (n := B + e) (by omega) (by omega)).mp c_112
                    refine ps_st (S' := (120, [(0, .ref q), (2, .int (nI (B + e))), (4, .int (nI w)), (5, .int (nI (B + i + 1)))], [.int 4096], M)) rfl rfl rfl ?_
                    refine ps_st (S' := (123, [(0, .ref q), (2, .int (nI (B + e))), (4, .int (nI w)), (5, .int (nI (B + i + 1)))], [.int 1024, .int 4096], M)) rfl rfl rfl ?_
                    refine ps_st (S' := (124, [(0, .ref q), (2, .int (nI (B + e))), (4, .int (nI w)), (5, .int (nI (B + i + 1)))], [.ref q, .int 1024, .int 4096], M)) rfl rfl rfl ?_
                    refine ps_get (S' := (127, [(0, .ref q), (2, .int (nI (B + e))), (4, .int (nI w)), (5, .int (nI (B + i + 1)))], [.ref (qq 6), .int 1024, .int 4096], M)) rfl h_q rfl rfl ?_
                    refine ps_st (S' := (129, [(0, .ref q), (2, .int (nI (B + e))), (4, .int (nI w)), (5, .int (nI (B + i + 1)))], [.int (nI (B + i + 1)), .ref (qq 6), .int 1024, .int 4096], M)) rfl rfl rfl ?_
                    refine ps_ald (S' := (130, [(0, .ref q), (2, .int (nI (B + e))), (4, .int (nI w)), (5, .int (nI (B + i + 1)))], [.int ((F 6) (Int32.toNatClampNeg (nI (B + i + 1)))), .int 1024, .int 4096], M)) rfl h_qq_6 rfl (fun i0_129 i1_129 => ?_)
                    have hb_129 := (hc (i + 1) (by omega)).2
                    rw [show ((F 6) (Int32.toNatClampNeg (nI (B + i + 1)))) = (nI (c (i + 1))) from (congrArg (F 6) (nI_toNat (k := B + i + 1) (by omega))).trans ((hc (i + 1) (by omega)).1)]
                    show pl _ _ _ (_, [(0, .ref q), (2, .int (nI (B + e))), (4, .int (nI w)), (5, .int (nI (B + i + 1)))], [.int (nI (c (i + 1))), .int 1024, .int 4096], M) _
                    refine pl_call (a := [.int (nI (c (i + 1)))]) (rest := [.int 1024, .int 4096]) rfl rfl rfl (dy_places (x := (c (i + 1))) (by omega)) (fun v19 M20 q21 => ?_)
                    obtain ⟨rfl, rfl⟩ := q21
                    show pl _ _ _ (133, [(0, .ref q), (2, .int (nI (B + e))), (4, .int (nI w)), (5, .int (nI (B + i + 1)))], [.int (nI (pW (c (i + 1)))), .int 1024, .int 4096], M) _
                    have hp_130 := pW_le (c (i + 1))
                    refine ps_st (S' := (134, [(0, .ref q), (2, .int (nI (B + e))), (4, .int (nI w)), (5, .int (nI (B + i + 1)))], [.int (1024 * (nI (pW (c (i + 1))))), .int 4096], M)) rfl rfl rfl ?_
                    rw [nI_mul1 (p := 1024) (k := pW (c (i + 1))) (x := 1024) (y := (nI (pW (c (i + 1))))) rfl rfl (by omega)]
                    show pl _ _ _ (_, [(0, .ref q), (2, .int (nI (B + e))), (4, .int (nI w)), (5, .int (nI (B + i + 1)))], [.int (nI (1024 * (pW (c (i + 1))))), .int 4096], M) _
                    refine ps_st (S' := (135, [(0, .ref q), (2, .int (nI (B + e))), (4, .int (nI w)), (5, .int (nI (B + i + 1)))], [.int (4096 + (nI (1024 * (pW (c (i + 1))))))], M)) rfl rfl rfl ?_
                    rw [nI_add2 (p := 4096) (k := 1024 * (pW (c (i + 1)))) (x := 4096) (y := (nI (1024 * (pW (c (i + 1)))))) rfl rfl (by omega)]
                    show pl _ _ _ (_, [(0, .ref q), (2, .int (nI (B + e))), (4, .int (nI w)), (5, .int (nI (B + i + 1)))], [.int (nI (4096 + 1024 * (pW (c (i + 1)))))], M) _
                    refine ps_st (S' := (137, [(0, .ref q), (2, .int (nI (B + e))), (4, .int (nI w)), (5, .int (nI (B + i + 1)))], [.int (nI w), .int (nI (4096 + 1024 * (pW (c (i + 1)))))], M)) rfl rfl rfl ?_
                    refine ps_st (S' := (138, [(0, .ref q), (2, .int (nI (B + e))), (4, .int (nI w)), (5, .int (nI (B + i + 1)))], [.int ((nI (4096 + 1024 * (pW (c (i + 1))))) + (nI w))], M)) rfl rfl rfl ?_
                    rw [nI_add1 (p := 4096 + 1024 * (pW (c (i + 1)))) (k := w) (x := (nI w)) rfl (by omega)]
                    show pl _ _ _ (_, [(0, .ref q), (2, .int (nI (B + e))), (4, .int (nI w)), (5, .int (nI (B + i + 1)))], [.int (nI (4096 + 1024 * (pW (c (i + 1))) + w))], M) _
                    exact ps_reti rfl ((fun (he : s_ms c e i0 = 4096 + 1024 * pW (c (i + 1)) + w) => Or.inr ⟨by omega, by rw [he], rfl⟩) (by
                        unfold s_ms
                        rw [← hs]
                        rw [s_ar_0 (by omega)]
                        dsimp only
                        rw [if_neg (by omega), if_neg (by omega), if_pos (by rw [q108_s]; congr 1; omega)]))
                  · have c_112 : ¬ ((nI (B + x18)) = (nI (B + e))) := of_decide_eq_false c_112
                    have n_112 : ¬ (B + x18 = B + e) := fun h9 => c_112 ((eq_nI (p := B + x18) (n := B + e) (by omega) (by omega)).mpr h9)
                    refine ps_st (S' := (116, [(0, .ref q), (2, .int (nI (B + e))), (4, .int (nI w)), (5, .int (nI (B + i + 1)))], [.int (-1)], M)) rfl rfl rfl ?_
                    exact ps_ret rfl rfl (Or.inl ⟨by
                        unfold s_ms
                        rw [← hs]
                        rw [s_ar_0 (by omega)]
                        dsimp only
                        rw [q108_s]
                        repeat' split
                        all_goals first | rfl | (exfalso; omega) | (exfalso; simp_all; done) | (exfalso; simp_all; omega), rfl, rfl⟩)
              · have c_86 : ¬ (¬ (nI (c (i + 1))) = 86) := of_decide_eq_false c_86
                have n_86 : c (i + 1) = 86 := (eq_nI (p := c (i + 1)) (n := 86) (by omega) (by decide)).mp (Decidable.not_not.mp c_86)
                refine ps_st (S' := (91, [(5, .int (nI (B + i + 1))), (0, .ref q), (2, .int (nI (B + e))), (3, .int (nI (B + i))), (4, .int (nI w))], [.int (nI (B + i + 1))], M)) rfl rfl rfl ?_
                refine ps_st (S' := (92, [(5, .int (nI (B + i + 1))), (0, .ref q), (2, .int (nI (B + e))), (3, .int (nI (B + i))), (4, .int (nI w))], [.int 1, .int (nI (B + i + 1))], M)) rfl rfl rfl ?_
                refine ps_st (S' := (93, [(5, .int (nI (B + i + 1))), (0, .ref q), (2, .int (nI (B + e))), (3, .int (nI (B + i))), (4, .int (nI w))], [.int ((nI (B + i + 1)) + 1)], M)) rfl rfl rfl ?_
                rw [nI_add1 (p := B + i + 1) (k := 1) (x := 1) rfl (by omega)]
                show pl _ _ _ (_, [(5, .int (nI (B + i + 1))), (0, .ref q), (2, .int (nI (B + e))), (3, .int (nI (B + i))), (4, .int (nI w))], [.int (nI (B + i + 2))], M) _
                refine ps_st (S' := (94, [(5, .int (nI (B + i + 1))), (0, .ref q), (2, .int (nI (B + e))), (3, .int (nI (B + i))), (4, .int (nI w))], [.int (nI (B + e)), .int (nI (B + i + 2))], M)) rfl rfl rfl ?_
                refine ps_if2 (S1 := (104, [(0, .ref q), (2, .int (nI (B + e))), (4, .int (nI w)), (5, .int (nI (B + i + 1)))], [], M)) (S2 := (97, [(5, .int (nI (B + i + 1))), (0, .ref q), (2, .int (nI (B + e))), (3, .int (nI (B + i))), (4, .int (nI w))], [], M)) rfl rfl rfl (fun c_94 => ?_) (fun c_94 => ?_)
                · have c_94 : ¬ (nI (B + i + 2)) = (nI (B + e)) := of_decide_eq_true c_94
                  have n_94 : ¬ (B + i + 2 = B + e) := fun h9 => c_94 ((eq_nI (p := B + i + 2) (n := B + e) (by omega) (by omega)).mpr h9)
                  refine ps_st (S' := (105, [(0, .ref q), (2, .int (nI (B + e))), (4, .int (nI w)), (5, .int (nI (B + i + 1)))], [.ref q], M)) rfl rfl rfl ?_
                  refine ps_st (S' := (107, [(0, .ref q), (2, .int (nI (B + e))), (4, .int (nI w)), (5, .int (nI (B + i + 1)))], [.int (nI (B + i + 1)), .ref q], M)) rfl rfl rfl ?_
                  refine ps_st (S' := (108, [(0, .ref q), (2, .int (nI (B + e))), (4, .int (nI w)), (5, .int (nI (B + i + 1)))], [.int (nI (B + e)), .int (nI (B + i + 1)), .ref q], M)) rfl rfl rfl ?_
                  refine pl_call (a := [.ref q, .int (nI (B + i + 1)), .int (nI (B + e))]) (rest := []) rfl rfl rfl (dy_typeEnd (q := q) (c := c) (B := B) (e := e) (i0 := (i + 1)) (hP) (hm) (hc) (by omega)) (fun v22 M23 q24 => ?_)
                  rcases q24 with q24 | q24
                  · skip
                    obtain ⟨q108_s, rfl, rfl⟩ := q24
                    show pl _ _ _ (111, [(0, .ref q), (2, .int (nI (B + e))), (4, .int (nI w)), (5, .int (nI (B + i + 1)))], [.int (-1)], M) _
                    refine ps_st (S' := (112, [(0, .ref q), (2, .int (nI (B + e))), (4, .int (nI w)), (5, .int (nI (B + i + 1)))], [.int (nI (B + e)), .int (-1)], M)) rfl rfl rfl ?_
                    refine ps_if2 (S1 := (117, [(0, .ref q), (2, .int (nI (B + e))), (4, .int (nI w)), (5, .int (nI (B + i + 1)))], [], M)) (S2 := (115, [(0, .ref q), (2, .int (nI (B + e))), (4, .int (nI w)), (5, .int (nI (B + i + 1)))], [], M)) rfl rfl rfl (fun c_112 => ?_) (fun c_112 => ?_)
                    · exact absurd (of_decide_eq_true c_112) (m1_ne (by omega))
                    refine ps_st (S' := (116, [(0, .ref q), (2, .int (nI (B + e))), (4, .int (nI w)), (5, .int (nI (B + i + 1)))], [.int (-1)], M)) rfl rfl rfl ?_
                    exact ps_ret rfl rfl (Or.inl ⟨by
                        unfold s_ms
                        rw [← hs]
                        rw [s_ar_0 (by omega)]
                        dsimp only
                        rw [q108_s]
                        repeat' split
                        all_goals first | rfl | (exfalso; omega) | (exfalso; simp_all; done) | (exfalso; simp_all; omega), rfl, rfl⟩)
                  · skip
                    obtain ⟨x25, q108_s, rfl, rfl⟩ := q24
                    show pl _ _ _ (111, [(0, .ref q), (2, .int (nI (B + e))), (4, .int (nI w)), (5, .int (nI (B + i + 1)))], [.int (nI (B + x25))], M) _
                    have hl_108 := s_ty_le q108_s
                    refine ps_st (S' := (112, [(0, .ref q), (2, .int (nI (B + e))), (4, .int (nI w)), (5, .int (nI (B + i + 1)))], [.int (nI (B + e)), .int (nI (B + x25))], M)) rfl rfl rfl ?_
                    refine ps_if2 (S1 := (117, [(0, .ref q), (2, .int (nI (B + e))), (4, .int (nI w)), (5, .int (nI (B + i + 1)))], [], M)) (S2 := (115, [(0, .ref q), (2, .int (nI (B + e))), (4, .int (nI w)), (5, .int (nI (B + i + 1)))], [], M)) rfl rfl rfl (fun c_112 => ?_) (fun c_112 => ?_)
                    · have c_112 : (nI (B + x25)) = (nI (B + e)) := of_decide_eq_true c_112
                      have n_112 : B + x25 = B + e := (eq_nI (p := B + x25) (n := B + e) (by omega) (by omega)).mp c_112
                      refine ps_st (S' := (120, [(0, .ref q), (2, .int (nI (B + e))), (4, .int (nI w)), (5, .int (nI (B + i + 1)))], [.int 4096], M)) rfl rfl rfl ?_
                      refine ps_st (S' := (123, [(0, .ref q), (2, .int (nI (B + e))), (4, .int (nI w)), (5, .int (nI (B + i + 1)))], [.int 1024, .int 4096], M)) rfl rfl rfl ?_
                      refine ps_st (S' := (124, [(0, .ref q), (2, .int (nI (B + e))), (4, .int (nI w)), (5, .int (nI (B + i + 1)))], [.ref q, .int 1024, .int 4096], M)) rfl rfl rfl ?_
                      refine ps_get (S' := (127, [(0, .ref q), (2, .int (nI (B + e))), (4, .int (nI w)), (5, .int (nI (B + i + 1)))], [.ref (qq 6), .int 1024, .int 4096], M)) rfl h_q rfl rfl ?_
                      refine ps_st (S' := (129, [(0, .ref q), (2, .int (nI (B + e))), (4, .int (nI w)), (5, .int (nI (B + i + 1)))], [.int (nI (B + i + 1)), .ref (qq 6), .int 1024, .int 4096], M)) rfl rfl rfl ?_
                      refine ps_ald (S' := (130, [(0, .ref q), (2, .int (nI (B + e))), (4, .int (nI w)), (5, .int (nI (B + i + 1)))], [.int ((F 6) (Int32.toNatClampNeg (nI (B + i + 1)))), .int 1024, .int 4096], M)) rfl h_qq_6 rfl (fun i0_129 i1_129 => ?_)
                      have hb_129 := (hc (i + 1) (by omega)).2
                      rw [show ((F 6) (Int32.toNatClampNeg (nI (B + i + 1)))) = (nI (c (i + 1))) from (congrArg (F 6) (nI_toNat (k := B + i + 1) (by omega))).trans ((hc (i + 1) (by omega)).1)]
                      show pl _ _ _ (_, [(0, .ref q), (2, .int (nI (B + e))), (4, .int (nI w)), (5, .int (nI (B + i + 1)))], [.int (nI (c (i + 1))), .int 1024, .int 4096], M) _
                      refine pl_call (a := [.int (nI (c (i + 1)))]) (rest := [.int 1024, .int 4096]) rfl rfl rfl (dy_places (x := (c (i + 1))) (by omega)) (fun v26 M27 q28 => ?_)
                      obtain ⟨rfl, rfl⟩ := q28
                      show pl _ _ _ (133, [(0, .ref q), (2, .int (nI (B + e))), (4, .int (nI w)), (5, .int (nI (B + i + 1)))], [.int (nI (pW (c (i + 1)))), .int 1024, .int 4096], M) _
                      have hp_130 := pW_le (c (i + 1))
                      refine ps_st (S' := (134, [(0, .ref q), (2, .int (nI (B + e))), (4, .int (nI w)), (5, .int (nI (B + i + 1)))], [.int (1024 * (nI (pW (c (i + 1))))), .int 4096], M)) rfl rfl rfl ?_
                      rw [nI_mul1 (p := 1024) (k := pW (c (i + 1))) (x := 1024) (y := (nI (pW (c (i + 1))))) rfl rfl (by omega)]
                      show pl _ _ _ (_, [(0, .ref q), (2, .int (nI (B + e))), (4, .int (nI w)), (5, .int (nI (B + i + 1)))], [.int (nI (1024 * (pW (c (i + 1))))), .int 4096], M) _
                      refine ps_st (S' := (135, [(0, .ref q), (2, .int (nI (B + e))), (4, .int (nI w)), (5, .int (nI (B + i + 1)))], [.int (4096 + (nI (1024 * (pW (c (i + 1))))))], M)) rfl rfl rfl ?_
                      rw [nI_add2 (p := 4096) (k := 1024 * (pW (c (i + 1)))) (x := 4096) (y := (nI (1024 * (pW (c (i + 1)))))) rfl rfl (by omega)]
                      show pl _ _ _ (_, [(0, .ref q), (2, .int (nI (B + e))), (4, .int (nI w)), (5, .int (nI (B + i + 1)))], [.int (nI (4096 + 1024 * (pW (c (i + 1)))))], M) _
                      refine ps_st (S' := (137, [(0, .ref q), (2, .int (nI (B + e))), (4, .int (nI w)), (5, .int (nI (B + i + 1)))], [.int (nI w), .int (nI (4096 + 1024 * (pW (c (i + 1)))))], M)) rfl rfl rfl ?_
                      refine ps_st (S' := (138, [(0, .ref q), (2, .int (nI (B + e))), (4, .int (nI w)), (5, .int (nI (B + i + 1)))], [.int ((nI (4096 + 1024 * (pW (c (i + 1))))) + (nI w))], M)) rfl rfl rfl ?_
                      rw [nI_add1 (p := 4096 + 1024 * (pW (c (i + 1)))) (k := w) (x := (nI w)) rfl (by omega)]
                      show pl _ _ _ (_, [(0, .ref q), (2, .int (nI (B + e))), (4, .int (nI w)), (5, .int (nI (B + i + 1)))], [.int (nI (4096 + 1024 * (pW (c (i + 1))) + w))], M) _
                      exact ps_reti rfl ((fun (he : s_ms c e i0 = 4096 + 1024 * pW (c (i + 1)) + w) => Or.inr ⟨by omega, by rw [he], rfl⟩) (by
                          unfold s_ms
                          rw [← hs]
                          rw [s_ar_0 (by omega)]
                          dsimp only
                          rw [if_neg (by omega), if_neg (by omega), if_pos (by rw [q108_s]; congr 1; omega)]))
                    · have c_112 : ¬ ((nI (B + x25)) = (nI (B + e))) := of_decide_eq_false c_112
                      have n_112 : ¬ (B + x25 = B + e) := fun h9 => c_112 ((eq_nI (p := B + x25) (n := B + e) (by omega) (by omega)).mpr h9)
                      refine ps_st (S' := (116, [(0, .ref q), (2, .int (nI (B + e))), (4, .int (nI w)), (5, .int (nI (B + i + 1)))], [.int (-1)], M)) rfl rfl rfl ?_
                      exact ps_ret rfl rfl (Or.inl ⟨by
                          unfold s_ms
                          rw [← hs]
                          rw [s_ar_0 (by omega)]
                          dsimp only
                          rw [q108_s]
                          repeat' split
                          all_goals first | rfl | (exfalso; omega) | (exfalso; simp_all; done) | (exfalso; simp_all; omega), rfl, rfl⟩)
                · have c_94 : ¬ (¬ (nI (B + i + 2)) = (nI (B + e))) := of_decide_eq_false c_94
                  have n_94 : B + i + 2 = B + e := (eq_nI (p := B + i + 2) (n := B + e) (by omega) (by omega)).mp (Decidable.not_not.mp c_94)
                  refine ps_st (S' := (100, [(5, .int (nI (B + i + 1))), (0, .ref q), (2, .int (nI (B + e))), (3, .int (nI (B + i))), (4, .int (nI w))], [.int 4096], M)) rfl rfl rfl ?_
                  refine ps_st (S' := (102, [(5, .int (nI (B + i + 1))), (0, .ref q), (2, .int (nI (B + e))), (3, .int (nI (B + i))), (4, .int (nI w))], [.int (nI w), .int 4096], M)) rfl rfl rfl ?_
                  refine ps_st (S' := (103, [(5, .int (nI (B + i + 1))), (0, .ref q), (2, .int (nI (B + e))), (3, .int (nI (B + i))), (4, .int (nI w))], [.int (4096 + (nI w))], M)) rfl rfl rfl ?_
                  rw [nI_add2 (p := 4096) (k := w) (x := 4096) (y := (nI w)) rfl rfl (by omega)]
                  show pl _ _ _ (_, [(5, .int (nI (B + i + 1))), (0, .ref q), (2, .int (nI (B + e))), (3, .int (nI (B + i))), (4, .int (nI w))], [.int (nI (4096 + w))], M) _
                  exact ps_reti rfl ((fun (he : s_ms c e i0 = 4096 + w) => Or.inr ⟨by omega, by rw [he], rfl⟩) (by
                      unfold s_ms
                      rw [← hs]
                      rw [s_ar_0 (by omega)]
                      dsimp only
                      rw [if_neg (by omega), if_pos (by omega)]))
            · have c_72 : ¬ ((nI w) ≤ 255) := of_decide_eq_false c_72
              have n_72 : ¬ (w ≤ 255) := fun h9 => c_72 ((le_nI (p := w) (n := 255) (by omega) (by decide)).mpr h9)
              refine ps_st (S' := (76, [], [.int (-1)], M)) rfl rfl rfl ?_
              exact ps_ret rfl rfl (Or.inl ⟨by
                  unfold s_ms
                  rw [← hs]
                  rw [s_ar_0 (by omega)]
                  dsimp only
                  repeat' split
                  all_goals first | rfl | (exfalso; omega) | (exfalso; simp_all; done) | (exfalso; simp_all; omega), rfl, rfl⟩)
        · have c_15 : ¬ ((nI (B + e)) ≤ (nI (B + i))) := of_decide_eq_false c_15
          have n_15 : ¬ (B + e ≤ B + i) := fun h9 => c_15 ((le_nI (p := B + e) (n := B + i) (by omega) (by omega)).mpr h9)
          refine ps_st (S' := (19, [(0, .ref q), (2, .int (nI (B + e))), (3, .int (nI (B + i))), (4, .int (nI w))], [.ref q], M)) rfl rfl rfl ?_
          refine ps_get (S' := (22, [(0, .ref q), (2, .int (nI (B + e))), (3, .int (nI (B + i))), (4, .int (nI w))], [.ref (qq 6)], M)) rfl h_q rfl rfl ?_
          refine ps_st (S' := (23, [(0, .ref q), (2, .int (nI (B + e))), (3, .int (nI (B + i))), (4, .int (nI w))], [.int (nI (B + i)), .ref (qq 6)], M)) rfl rfl rfl ?_
          refine ps_ald (S' := (24, [(0, .ref q), (2, .int (nI (B + e))), (3, .int (nI (B + i))), (4, .int (nI w))], [.int ((F 6) (Int32.toNatClampNeg (nI (B + i))))], M)) rfl h_qq_6 rfl (fun i0_23 i1_23 => ?_)
          have hb_23 := (hc (i) (by omega)).2
          rw [show ((F 6) (Int32.toNatClampNeg (nI (B + i)))) = (nI (c i)) from (congrArg (F 6) (nI_toNat (k := B + i) (by omega))).trans ((hc (i) (by omega)).1)]
          show pl _ _ _ (_, [(0, .ref q), (2, .int (nI (B + e))), (3, .int (nI (B + i))), (4, .int (nI w))], [.int (nI (c i))], M) _
          refine ps_st (S' := (26, [(0, .ref q), (2, .int (nI (B + e))), (3, .int (nI (B + i))), (4, .int (nI w))], [.int 41, .int (nI (c i))], M)) rfl rfl rfl ?_
          refine ps_if2 (S1 := (56, [(0, .ref q), (2, .int (nI (B + e))), (3, .int (nI (B + i))), (4, .int (nI w))], [], M)) (S2 := (29, [(0, .ref q), (2, .int (nI (B + e))), (3, .int (nI (B + i))), (4, .int (nI w))], [], M)) rfl rfl rfl (fun c_26 => ?_) (fun c_26 => ?_)
          · have c_26 : (nI (c i)) = 41 := of_decide_eq_true c_26
            have n_26 : c i = 41 := (eq_nI (p := c i) (n := 41) (by omega) (by decide)).mp c_26
            refine ps_st (S' := (57, [(0, .ref q), (2, .int (nI (B + e))), (3, .int (nI (B + i))), (4, .int (nI w))], [.int (nI (B + i))], M)) rfl rfl rfl ?_
            refine ps_st (S' := (58, [(0, .ref q), (2, .int (nI (B + e))), (3, .int (nI (B + i))), (4, .int (nI w))], [.int 1, .int (nI (B + i))], M)) rfl rfl rfl ?_
            refine ps_st (S' := (59, [(0, .ref q), (2, .int (nI (B + e))), (3, .int (nI (B + i))), (4, .int (nI w))], [.int ((nI (B + i)) + 1)], M)) rfl rfl rfl ?_
            rw [nI_add1 (p := B + i) (k := 1) (x := 1) rfl (by omega)]
            show pl _ _ _ (_, [(0, .ref q), (2, .int (nI (B + e))), (3, .int (nI (B + i))), (4, .int (nI w))], [.int (nI (B + i + 1))], M) _
            refine ps_st (S' := (61, [(5, .int (nI (B + i + 1))), (0, .ref q), (2, .int (nI (B + e))), (3, .int (nI (B + i))), (4, .int (nI w))], [], M)) rfl rfl rfl ?_
            refine ps_st (S' := (63, [(5, .int (nI (B + i + 1))), (0, .ref q), (2, .int (nI (B + e))), (3, .int (nI (B + i))), (4, .int (nI w))], [.int (nI (B + i + 1))], M)) rfl rfl rfl ?_
            refine ps_st (S' := (64, [(5, .int (nI (B + i + 1))), (0, .ref q), (2, .int (nI (B + e))), (3, .int (nI (B + i))), (4, .int (nI w))], [.int (nI (B + e)), .int (nI (B + i + 1))], M)) rfl rfl rfl ?_
            refine ps_if2 (S1 := (75, [], [], M)) (S2 := (67, [(5, .int (nI (B + i + 1))), (0, .ref q), (2, .int (nI (B + e))), (3, .int (nI (B + i))), (4, .int (nI w))], [], M)) rfl rfl rfl (fun c_64 => ?_) (fun c_64 => ?_)
            · have c_64 : (nI (B + e)) ≤ (nI (B + i + 1)) := of_decide_eq_true c_64
              have n_64 : B + e ≤ B + i + 1 := (le_nI (p := B + e) (n := B + i + 1) (by omega) (by omega)).mp c_64
              refine ps_st (S' := (76, [], [.int (-1)], M)) rfl rfl rfl ?_
              exact ps_ret rfl rfl (Or.inl ⟨by
                  unfold s_ms
                  rw [← hs]
                  rw [s_ar_0 (by omega)]
                  dsimp only
                  repeat' split
                  all_goals first | rfl | (exfalso; omega) | (exfalso; simp_all; done) | (exfalso; simp_all; omega), rfl, rfl⟩)
            · have c_64 : ¬ ((nI (B + e)) ≤ (nI (B + i + 1))) := of_decide_eq_false c_64
              have n_64 : ¬ (B + e ≤ B + i + 1) := fun h9 => c_64 ((le_nI (p := B + e) (n := B + i + 1) (by omega) (by omega)).mpr h9)
              refine ps_st (S' := (69, [(5, .int (nI (B + i + 1))), (0, .ref q), (2, .int (nI (B + e))), (3, .int (nI (B + i))), (4, .int (nI w))], [.int (nI w)], M)) rfl rfl rfl ?_
              refine ps_st (S' := (72, [(5, .int (nI (B + i + 1))), (0, .ref q), (2, .int (nI (B + e))), (3, .int (nI (B + i))), (4, .int (nI w))], [.int 255, .int (nI w)], M)) rfl rfl rfl ?_
              refine ps_if2 (S1 := (77, [(5, .int (nI (B + i + 1))), (0, .ref q), (2, .int (nI (B + e))), (3, .int (nI (B + i))), (4, .int (nI w))], [], M)) (S2 := (75, [], [], M)) rfl rfl rfl (fun c_72 => ?_) (fun c_72 => ?_)
              · have c_72 : (nI w) ≤ 255 := of_decide_eq_true c_72
                have n_72 : w ≤ 255 := (le_nI (p := w) (n := 255) (by omega) (by decide)).mp c_72
                refine ps_st (S' := (78, [(5, .int (nI (B + i + 1))), (0, .ref q), (2, .int (nI (B + e))), (3, .int (nI (B + i))), (4, .int (nI w))], [.ref q], M)) rfl rfl rfl ?_
                refine ps_get (S' := (81, [(5, .int (nI (B + i + 1))), (0, .ref q), (2, .int (nI (B + e))), (3, .int (nI (B + i))), (4, .int (nI w))], [.ref (qq 6)], M)) rfl h_q rfl rfl ?_
                refine ps_st (S' := (83, [(5, .int (nI (B + i + 1))), (0, .ref q), (2, .int (nI (B + e))), (3, .int (nI (B + i))), (4, .int (nI w))], [.int (nI (B + i + 1)), .ref (qq 6)], M)) rfl rfl rfl ?_
                refine ps_ald (S' := (84, [(5, .int (nI (B + i + 1))), (0, .ref q), (2, .int (nI (B + e))), (3, .int (nI (B + i))), (4, .int (nI w))], [.int ((F 6) (Int32.toNatClampNeg (nI (B + i + 1))))], M)) rfl h_qq_6 rfl (fun i0_83 i1_83 => ?_)
                have hb_83 := (hc (i + 1) (by omega)).2
                rw [show ((F 6) (Int32.toNatClampNeg (nI (B + i + 1)))) = (nI (c (i + 1))) from (congrArg (F 6) (nI_toNat (k := B + i + 1) (by omega))).trans ((hc (i + 1) (by omega)).1)]
                show pl _ _ _ (_, [(5, .int (nI (B + i + 1))), (0, .ref q), (2, .int (nI (B + e))), (3, .int (nI (B + i))), (4, .int (nI w))], [.int (nI (c (i + 1)))], M) _
                refine ps_st (S' := (86, [(5, .int (nI (B + i + 1))), (0, .ref q), (2, .int (nI (B + e))), (3, .int (nI (B + i))), (4, .int (nI w))], [.int 86, .int (nI (c (i + 1)))], M)) rfl rfl rfl ?_
                refine ps_if2 (S1 := (104, [(0, .ref q), (2, .int (nI (B + e))), (4, .int (nI w)), (5, .int (nI (B + i + 1)))], [], M)) (S2 := (89, [(5, .int (nI (B + i + 1))), (0, .ref q), (2, .int (nI (B + e))), (3, .int (nI (B + i))), (4, .int (nI w))], [], M)) rfl rfl rfl (fun c_86 => ?_) (fun c_86 => ?_)
                · have c_86 : ¬ (nI (c (i + 1))) = 86 := of_decide_eq_true c_86
                  have n_86 : ¬ (c (i + 1) = 86) := fun h9 => c_86 ((eq_nI (p := c (i + 1)) (n := 86) (by omega) (by decide)).mpr h9)
                  refine ps_st (S' := (105, [(0, .ref q), (2, .int (nI (B + e))), (4, .int (nI w)), (5, .int (nI (B + i + 1)))], [.ref q], M)) rfl rfl rfl ?_
                  refine ps_st (S' := (107, [(0, .ref q), (2, .int (nI (B + e))), (4, .int (nI w)), (5, .int (nI (B + i + 1)))], [.int (nI (B + i + 1)), .ref q], M)) rfl rfl rfl ?_
                  refine ps_st (S' := (108, [(0, .ref q), (2, .int (nI (B + e))), (4, .int (nI w)), (5, .int (nI (B + i + 1)))], [.int (nI (B + e)), .int (nI (B + i + 1)), .ref q], M)) rfl rfl rfl ?_
                  refine pl_call (a := [.ref q, .int (nI (B + i + 1)), .int (nI (B + e))]) (rest := []) rfl rfl rfl (dy_typeEnd (q := q) (c := c) (B := B) (e := e) (i0 := (i + 1)) (hP) (hm) (hc) (by omega)) (fun v29 M30 q31 => ?_)
                  rcases q31 with q31 | q31
                  · skip
                    obtain ⟨q108_s, rfl, rfl⟩ := q31
                    show pl _ _ _ (111, [(0, .ref q), (2, .int (nI (B + e))), (4, .int (nI w)), (5, .int (nI (B + i + 1)))], [.int (-1)], M) _
                    refine ps_st (S' := (112, [(0, .ref q), (2, .int (nI (B + e))), (4, .int (nI w)), (5, .int (nI (B + i + 1)))], [.int (nI (B + e)), .int (-1)], M)) rfl rfl rfl ?_
                    refine ps_if2 (S1 := (117, [(0, .ref q), (2, .int (nI (B + e))), (4, .int (nI w)), (5, .int (nI (B + i + 1)))], [], M)) (S2 := (115, [(0, .ref q), (2, .int (nI (B + e))), (4, .int (nI w)), (5, .int (nI (B + i + 1)))], [], M)) rfl rfl rfl (fun c_112 => ?_) (fun c_112 => ?_)
                    · exact absurd (of_decide_eq_true c_112) (m1_ne (by omega))
                    refine ps_st (S' := (116, [(0, .ref q), (2, .int (nI (B + e))), (4, .int (nI w)), (5, .int (nI (B + i + 1)))], [.int (-1)], M)) rfl rfl rfl ?_
                    exact ps_ret rfl rfl (Or.inl ⟨by
                        unfold s_ms
                        rw [← hs]
                        rw [s_ar_0 (by omega)]
                        dsimp only
                        rw [q108_s]
                        repeat' split
                        all_goals first | rfl | (exfalso; omega) | (exfalso; simp_all; done) | (exfalso; simp_all; omega), rfl, rfl⟩)
                  · skip
                    obtain ⟨x32, q108_s, rfl, rfl⟩ := q31
                    show pl _ _ _ (111, [(0, .ref q), (2, .int (nI (B + e))), (4, .int (nI w)), (5, .int (nI (B + i + 1)))], [.int (nI (B + x32))], M) _
                    have hl_108 := s_ty_le q108_s
                    refine ps_st (S' := (112, [(0, .ref q), (2, .int (nI (B + e))), (4, .int (nI w)), (5, .int (nI (B + i + 1)))], [.int (nI (B + e)), .int (nI (B + x32))], M)) rfl rfl rfl ?_
                    refine ps_if2 (S1 := (117, [(0, .ref q), (2, .int (nI (B + e))), (4, .int (nI w)), (5, .int (nI (B + i + 1)))], [], M)) (S2 := (115, [(0, .ref q), (2, .int (nI (B + e))), (4, .int (nI w)), (5, .int (nI (B + i + 1)))], [], M)) rfl rfl rfl (fun c_112 => ?_) (fun c_112 => ?_)
                    · have c_112 : (nI (B + x32)) = (nI (B + e)) := of_decide_eq_true c_112
                      have n_112 : B + x32 = B + e := (eq_nI (p := B + x32) (n := B + e) (by omega) (by omega)).mp c_112
                      refine ps_st (S' := (120, [(0, .ref q), (2, .int (nI (B + e))), (4, .int (nI w)), (5, .int (nI (B + i + 1)))], [.int 4096], M)) rfl rfl rfl ?_
                      refine ps_st (S' := (123, [(0, .ref q), (2, .int (nI (B + e))), (4, .int (nI w)), (5, .int (nI (B + i + 1)))], [.int 1024, .int 4096], M)) rfl rfl rfl ?_
                      refine ps_st (S' := (124, [(0, .ref q), (2, .int (nI (B + e))), (4, .int (nI w)), (5, .int (nI (B + i + 1)))], [.ref q, .int 1024, .int 4096], M)) rfl rfl rfl ?_
                      refine ps_get (S' := (127, [(0, .ref q), (2, .int (nI (B + e))), (4, .int (nI w)), (5, .int (nI (B + i + 1)))], [.ref (qq 6), .int 1024, .int 4096], M)) rfl h_q rfl rfl ?_
                      refine ps_st (S' := (129, [(0, .ref q), (2, .int (nI (B + e))), (4, .int (nI w)), (5, .int (nI (B + i + 1)))], [.int (nI (B + i + 1)), .ref (qq 6), .int 1024, .int 4096], M)) rfl rfl rfl ?_
                      refine ps_ald (S' := (130, [(0, .ref q), (2, .int (nI (B + e))), (4, .int (nI w)), (5, .int (nI (B + i + 1)))], [.int ((F 6) (Int32.toNatClampNeg (nI (B + i + 1)))), .int 1024, .int 4096], M)) rfl h_qq_6 rfl (fun i0_129 i1_129 => ?_)
                      have hb_129 := (hc (i + 1) (by omega)).2
                      rw [show ((F 6) (Int32.toNatClampNeg (nI (B + i + 1)))) = (nI (c (i + 1))) from (congrArg (F 6) (nI_toNat (k := B + i + 1) (by omega))).trans ((hc (i + 1) (by omega)).1)]
                      show pl _ _ _ (_, [(0, .ref q), (2, .int (nI (B + e))), (4, .int (nI w)), (5, .int (nI (B + i + 1)))], [.int (nI (c (i + 1))), .int 1024, .int 4096], M) _
                      refine pl_call (a := [.int (nI (c (i + 1)))]) (rest := [.int 1024, .int 4096]) rfl rfl rfl (dy_places (x := (c (i + 1))) (by omega)) (fun v33 M34 q35 => ?_)
                      obtain ⟨rfl, rfl⟩ := q35
                      show pl _ _ _ (133, [(0, .ref q), (2, .int (nI (B + e))), (4, .int (nI w)), (5, .int (nI (B + i + 1)))], [.int (nI (pW (c (i + 1)))), .int 1024, .int 4096], M) _
                      have hp_130 := pW_le (c (i + 1))
                      refine ps_st (S' := (134, [(0, .ref q), (2, .int (nI (B + e))), (4, .int (nI w)), (5, .int (nI (B + i + 1)))], [.int (1024 * (nI (pW (c (i + 1))))), .int 4096], M)) rfl rfl rfl ?_
                      rw [nI_mul1 (p := 1024) (k := pW (c (i + 1))) (x := 1024) (y := (nI (pW (c (i + 1))))) rfl rfl (by omega)]
                      show pl _ _ _ (_, [(0, .ref q), (2, .int (nI (B + e))), (4, .int (nI w)), (5, .int (nI (B + i + 1)))], [.int (nI (1024 * (pW (c (i + 1))))), .int 4096], M) _
                      refine ps_st (S' := (135, [(0, .ref q), (2, .int (nI (B + e))), (4, .int (nI w)), (5, .int (nI (B + i + 1)))], [.int (4096 + (nI (1024 * (pW (c (i + 1))))))], M)) rfl rfl rfl ?_
                      rw [nI_add2 (p := 4096) (k := 1024 * (pW (c (i + 1)))) (x := 4096) (y := (nI (1024 * (pW (c (i + 1)))))) rfl rfl (by omega)]
                      show pl _ _ _ (_, [(0, .ref q), (2, .int (nI (B + e))), (4, .int (nI w)), (5, .int (nI (B + i + 1)))], [.int (nI (4096 + 1024 * (pW (c (i + 1)))))], M) _
                      refine ps_st (S' := (137, [(0, .ref q), (2, .int (nI (B + e))), (4, .int (nI w)), (5, .int (nI (B + i + 1)))], [.int (nI w), .int (nI (4096 + 1024 * (pW (c (i + 1)))))], M)) rfl rfl rfl ?_
                      refine ps_st (S' := (138, [(0, .ref q), (2, .int (nI (B + e))), (4, .int (nI w)), (5, .int (nI (B + i + 1)))], [.int ((nI (4096 + 1024 * (pW (c (i + 1))))) + (nI w))], M)) rfl rfl rfl ?_
                      rw [nI_add1 (p := 4096 + 1024 * (pW (c (i + 1)))) (k := w) (x := (nI w)) rfl (by omega)]
                      show pl _ _ _ (_, [(0, .ref q), (2, .int (nI (B + e))), (4, .int (nI w)), (5, .int (nI (B + i + 1)))], [.int (nI (4096 + 1024 * (pW (c (i + 1))) + w))], M) _
                      exact ps_reti rfl ((fun (he : s_ms c e i0 = 4096 + 1024 * pW (c (i + 1)) + w) => Or.inr ⟨by omega, by rw [he], rfl⟩) (by
                          unfold s_ms
                          rw [← hs]
                          rw [s_ar_0 (by omega)]
                          dsimp only
                          rw [if_neg (by omega), if_neg (by omega), if_pos (by rw [q108_s]; congr 1; omega)]))
                    · have c_112 : ¬ ((nI (B + x32)) = (nI (B + e))) := of_decide_eq_false c_112
                      have n_112 : ¬ (B + x32 = B + e) := fun h9 => c_112 ((eq_nI (p := B + x32) (n := B + e) (by omega) (by omega)).mpr h9)
                      refine ps_st (S' := (116, [(0, .ref q), (2, .int (nI (B + e))), (4, .int (nI w)), (5, .int (nI (B + i + 1)))], [.int (-1)], M)) rfl rfl rfl ?_
                      exact ps_ret rfl rfl (Or.inl ⟨by
                          unfold s_ms
                          rw [← hs]
                          rw [s_ar_0 (by omega)]
                          dsimp only
                          rw [q108_s]
                          repeat' split
                          all_goals first | rfl | (exfalso; omega) | (exfalso; simp_all; done) | (exfalso; simp_all; omega), rfl, rfl⟩)
                · have c_86 : ¬ (¬ (nI (c (i + 1))) = 86) := of_decide_eq_false c_86
                  have n_86 : c (i + 1) = 86 := (eq_nI (p := c (i + 1)) (n := 86) (by omega) (by decide)).mp (Decidable.not_not.mp c_86)
                  refine ps_st (S' := (91, [(5, .int (nI (B + i + 1))), (0, .ref q), (2, .int (nI (B + e))), (3, .int (nI (B + i))), (4, .int (nI w))], [.int (nI (B + i + 1))], M)) rfl rfl rfl ?_
                  refine ps_st (S' := (92, [(5, .int (nI (B + i + 1))), (0, .ref q), (2, .int (nI (B + e))), (3, .int (nI (B + i))), (4, .int (nI w))], [.int 1, .int (nI (B + i + 1))], M)) rfl rfl rfl ?_
                  refine ps_st (S' := (93, [(5, .int (nI (B + i + 1))), (0, .ref q), (2, .int (nI (B + e))), (3, .int (nI (B + i))), (4, .int (nI w))], [.int ((nI (B + i + 1)) + 1)], M)) rfl rfl rfl ?_
                  rw [nI_add1 (p := B + i + 1) (k := 1) (x := 1) rfl (by omega)]
                  show pl _ _ _ (_, [(5, .int (nI (B + i + 1))), (0, .ref q), (2, .int (nI (B + e))), (3, .int (nI (B + i))), (4, .int (nI w))], [.int (nI (B + i + 2))], M) _
                  refine ps_st (S' := (94, [(5, .int (nI (B + i + 1))), (0, .ref q), (2, .int (nI (B + e))), (3, .int (nI (B + i))), (4, .int (nI w))], [.int (nI (B + e)), .int (nI (B + i + 2))], M)) rfl rfl rfl ?_
                  refine ps_if2 (S1 := (104, [(0, .ref q), (2, .int (nI (B + e))), (4, .int (nI w)), (5, .int (nI (B + i + 1)))], [], M)) (S2 := (97, [(5, .int (nI (B + i + 1))), (0, .ref q), (2, .int (nI (B + e))), (3, .int (nI (B + i))), (4, .int (nI w))], [], M)) rfl rfl rfl (fun c_94 => ?_) (fun c_94 => ?_)
                  · have c_94 : ¬ (nI (B + i + 2)) = (nI (B + e)) := of_decide_eq_true c_94
                    have n_94 : ¬ (B + i + 2 = B + e) := fun h9 => c_94 ((eq_nI (p := B + i + 2) (n := B + e) (by omega) (by omega)).mpr h9)
                    refine ps_st (S' := (105, [(0, .ref q), (2, .int (nI (B + e))), (4, .int (nI w)), (5, .int (nI (B + i + 1)))], [.ref q], M)) rfl rfl rfl ?_
                    refine ps_st (S' := (107, [(0, .ref q), (2, .int (nI (B + e))), (4, .int (nI w)), (5, .int (nI (B + i + 1)))], [.int (nI (B + i + 1)), .ref q], M)) rfl rfl rfl ?_
                    refine ps_st (S' := (108, [(0, .ref q), (2, .int (nI (B + e))), (4, .int (nI w)), (5, .int (nI (B + i + 1)))], [.int (nI (B + e)), .int (nI (B + i + 1)), .ref q], M)) rfl rfl rfl ?_
                    refine pl_call (a := [.ref q, .int (nI (B + i + 1)), .int (nI (B + e))]) (rest := []) rfl rfl rfl (dy_typeEnd (q := q) (c := c) (B := B) (e := e) (i0 := (i + 1)) (hP) (hm) (hc) (by omega)) (fun v36 M37 q38 => ?_)
                    rcases q38 with q38 | q38
                    · skip
                      obtain ⟨q108_s, rfl, rfl⟩ := q38
                      show pl _ _ _ (111, [(0, .ref q), (2, .int (nI (B + e))), (4, .int (nI w)), (5, .int (nI (B + i + 1)))], [.int (-1)], M) _
                      refine ps_st (S' := (112, [(0, .ref q), (2, .int (nI (B + e))), (4, .int (nI w)), (5, .int (nI (B + i + 1)))], [.int (nI (B + e)), .int (-1)], M)) rfl rfl rfl ?_
                      refine ps_if2 (S1 := (117, [(0, .ref q), (2, .int (nI (B + e))), (4, .int (nI w)), (5, .int (nI (B + i + 1)))], [], M)) (S2 := (115, [(0, .ref q), (2, .int (nI (B + e))), (4, .int (nI w)), (5, .int (nI (B + i + 1)))], [], M)) rfl rfl rfl (fun c_112 => ?_) (fun c_112 => ?_)
                      · exact absurd (of_decide_eq_true c_112) (m1_ne (by omega))
                      refine ps_st (S' := (116, [(0, .ref q), (2, .int (nI (B + e))), (4, .int (nI w)), (5, .int (nI (B + i + 1)))], [.int (-1)], M)) rfl rfl rfl ?_
                      exact ps_ret rfl rfl (Or.inl ⟨by
                          unfold s_ms
                          rw [← hs]
                          rw [s_ar_0 (by omega)]
                          dsimp only
                          rw [q108_s]
                          repeat' split
                          all_goals first | rfl | (exfalso; omega) | (exfalso; simp_all; done) | (exfalso; simp_all; omega), rfl, rfl⟩)
                    · skip
                      obtain ⟨x39, q108_s, rfl, rfl⟩ := q38
                      show pl _ _ _ (111, [(0, .ref q), (2, .int (nI (B + e))), (4, .int (nI w)), (5, .int (nI (B + i + 1)))], [.int (nI (B + x39))], M) _
                      have hl_108 := s_ty_le q108_s
                      refine ps_st (S' := (112, [(0, .ref q), (2, .int (nI (B + e))), (4, .int (nI w)), (5, .int (nI (B + i + 1)))], [.int (nI (B + e)), .int (nI (B + x39))], M)) rfl rfl rfl ?_
                      refine ps_if2 (S1 := (117, [(0, .ref q), (2, .int (nI (B + e))), (4, .int (nI w)), (5, .int (nI (B + i + 1)))], [], M)) (S2 := (115, [(0, .ref q), (2, .int (nI (B + e))), (4, .int (nI w)), (5, .int (nI (B + i + 1)))], [], M)) rfl rfl rfl (fun c_112 => ?_) (fun c_112 => ?_)
                      · have c_112 : (nI (B + x39)) = (nI (B + e)) := of_decide_eq_true c_112
                        have n_112 : B + x39 = B + e := (eq_nI (p := B + x39) (n := B + e) (by omega) (by omega)).mp c_112
                        refine ps_st (S' := (120, [(0, .ref q), (2, .int (nI (B + e))), (4, .int (nI w)), (5, .int (nI (B + i + 1)))], [.int 4096], M)) rfl rfl rfl ?_
                        refine ps_st (S' := (123, [(0, .ref q), (2, .int (nI (B + e))), (4, .int (nI w)), (5, .int (nI (B + i + 1)))], [.int 1024, .int 4096], M)) rfl rfl rfl ?_
                        refine ps_st (S' := (124, [(0, .ref q), (2, .int (nI (B + e))), (4, .int (nI w)), (5, .int (nI (B + i + 1)))], [.ref q, .int 1024, .int 4096], M)) rfl rfl rfl ?_
                        refine ps_get (S' := (127, [(0, .ref q), (2, .int (nI (B + e))), (4, .int (nI w)), (5, .int (nI (B + i + 1)))], [.ref (qq 6), .int 1024, .int 4096], M)) rfl h_q rfl rfl ?_
                        refine ps_st (S' := (129, [(0, .ref q), (2, .int (nI (B + e))), (4, .int (nI w)), (5, .int (nI (B + i + 1)))], [.int (nI (B + i + 1)), .ref (qq 6), .int 1024, .int 4096], M)) rfl rfl rfl ?_
                        refine ps_ald (S' := (130, [(0, .ref q), (2, .int (nI (B + e))), (4, .int (nI w)), (5, .int (nI (B + i + 1)))], [.int ((F 6) (Int32.toNatClampNeg (nI (B + i + 1)))), .int 1024, .int 4096], M)) rfl h_qq_6 rfl (fun i0_129 i1_129 => ?_)
                        have hb_129 := (hc (i + 1) (by omega)).2
                        rw [show ((F 6) (Int32.toNatClampNeg (nI (B + i + 1)))) = (nI (c (i + 1))) from (congrArg (F 6) (nI_toNat (k := B + i + 1) (by omega))).trans ((hc (i + 1) (by omega)).1)]
                        show pl _ _ _ (_, [(0, .ref q), (2, .int (nI (B + e))), (4, .int (nI w)), (5, .int (nI (B + i + 1)))], [.int (nI (c (i + 1))), .int 1024, .int 4096], M) _
                        refine pl_call (a := [.int (nI (c (i + 1)))]) (rest := [.int 1024, .int 4096]) rfl rfl rfl (dy_places (x := (c (i + 1))) (by omega)) (fun v40 M41 q42 => ?_)
                        obtain ⟨rfl, rfl⟩ := q42
                        show pl _ _ _ (133, [(0, .ref q), (2, .int (nI (B + e))), (4, .int (nI w)), (5, .int (nI (B + i + 1)))], [.int (nI (pW (c (i + 1)))), .int 1024, .int 4096], M) _
                        have hp_130 := pW_le (c (i + 1))
                        refine ps_st (S' := (134, [(0, .ref q), (2, .int (nI (B + e))), (4, .int (nI w)), (5, .int (nI (B + i + 1)))], [.int (1024 * (nI (pW (c (i + 1))))), .int 4096], M)) rfl rfl rfl ?_
                        rw [nI_mul1 (p := 1024) (k := pW (c (i + 1))) (x := 1024) (y := (nI (pW (c (i + 1))))) rfl rfl (by omega)]
                        show pl _ _ _ (_, [(0, .ref q), (2, .int (nI (B + e))), (4, .int (nI w)), (5, .int (nI (B + i + 1)))], [.int (nI (1024 * (pW (c (i + 1))))), .int 4096], M) _
                        refine ps_st (S' := (135, [(0, .ref q), (2, .int (nI (B + e))), (4, .int (nI w)), (5, .int (nI (B + i + 1)))], [.int (4096 + (nI (1024 * (pW (c (i + 1))))))], M)) rfl rfl rfl ?_
                        rw [nI_add2 (p := 4096) (k := 1024 * (pW (c (i + 1)))) (x := 4096) (y := (nI (1024 * (pW (c (i + 1)))))) rfl rfl (by omega)]
                        show pl _ _ _ (_, [(0, .ref q), (2, .int (nI (B + e))), (4, .int (nI w)), (5, .int (nI (B + i + 1)))], [.int (nI (4096 + 1024 * (pW (c (i + 1)))))], M) _
                        refine ps_st (S' := (137, [(0, .ref q), (2, .int (nI (B + e))), (4, .int (nI w)), (5, .int (nI (B + i + 1)))], [.int (nI w), .int (nI (4096 + 1024 * (pW (c (i + 1)))))], M)) rfl rfl rfl ?_
                        refine ps_st (S' := (138, [(0, .ref q), (2, .int (nI (B + e))), (4, .int (nI w)), (5, .int (nI (B + i + 1)))], [.int ((nI (4096 + 1024 * (pW (c (i + 1))))) + (nI w))], M)) rfl rfl rfl ?_
                        rw [nI_add1 (p := 4096 + 1024 * (pW (c (i + 1)))) (k := w) (x := (nI w)) rfl (by omega)]
                        show pl _ _ _ (_, [(0, .ref q), (2, .int (nI (B + e))), (4, .int (nI w)), (5, .int (nI (B + i + 1)))], [.int (nI (4096 + 1024 * (pW (c (i + 1))) + w))], M) _
                        exact ps_reti rfl ((fun (he : s_ms c e i0 = 4096 + 1024 * pW (c (i + 1)) + w) => Or.inr ⟨by omega, by rw [he], rfl⟩) (by
                            unfold s_ms
                            rw [← hs]
                            rw [s_ar_0 (by omega)]
                            dsimp only
                            rw [if_neg (by omega), if_neg (by omega), if_pos (by rw [q108_s]; congr 1; omega)]))
                      · have c_112 : ¬ ((nI (B + x39)) = (nI (B + e))) := of_decide_eq_false c_112
                        have n_112 : ¬ (B + x39 = B + e) := fun h9 => c_112 ((eq_nI (p := B + x39) (n := B + e) (by omega) (by omega)).mpr h9)
                        refine ps_st (S' := (116, [(0, .ref q), (2, .int (nI (B + e))), (4, .int (nI w)), (5, .int (nI (B + i + 1)))], [.int (-1)], M)) rfl rfl rfl ?_
                        exact ps_ret rfl rfl (Or.inl ⟨by
                            unfold s_ms
                            rw [← hs]
                            rw [s_ar_0 (by omega)]
                            dsimp only
                            rw [q108_s]
                            repeat' split
                            all_goals first | rfl | (exfalso; omega) | (exfalso; simp_all; done) | (exfalso; simp_all; omega), rfl, rfl⟩)
                  · have c_94 : ¬ (¬ (nI (B + i + 2)) = (nI (B + e))) := of_decide_eq_false c_94
                    have n_94 : B + i + 2 = B + e := (eq_nI (p := B + i + 2) (n := B + e) (by omega) (by omega)).mp (Decidable.not_not.mp c_94)
                    refine ps_st (S' := (100, [(5, .int (nI (B + i + 1))), (0, .ref q), (2, .int (nI (B + e))), (3, .int (nI (B + i))), (4, .int (nI w))], [.int 4096], M)) rfl rfl rfl ?_
                    refine ps_st (S' := (102, [(5, .int (nI (B + i + 1))), (0, .ref q), (2, .int (nI (B + e))), (3, .int (nI (B + i))), (4, .int (nI w))], [.int (nI w), .int 4096], M)) rfl rfl rfl ?_
                    refine ps_st (S' := (103, [(5, .int (nI (B + i + 1))), (0, .ref q), (2, .int (nI (B + e))), (3, .int (nI (B + i))), (4, .int (nI w))], [.int (4096 + (nI w))], M)) rfl rfl rfl ?_
                    rw [nI_add2 (p := 4096) (k := w) (x := 4096) (y := (nI w)) rfl rfl (by omega)]
                    show pl _ _ _ (_, [(5, .int (nI (B + i + 1))), (0, .ref q), (2, .int (nI (B + e))), (3, .int (nI (B + i))), (4, .int (nI w))], [.int (nI (4096 + w))], M) _
                    exact ps_reti rfl ((fun (he : s_ms c e i0 = 4096 + w) => Or.inr ⟨by omega, by rw [he], rfl⟩) (by
                        unfold s_ms
                        rw [← hs]
                        rw [s_ar_0 (by omega)]
                        dsimp only
                        rw [if_neg (by omega), if_pos (by omega)]))
              · have c_72 : ¬ ((nI w) ≤ 255) := of_decide_eq_false c_72
                have n_72 : ¬ (w ≤ 255) := fun h9 => c_72 ((le_nI (p := w) (n := 255) (by omega) (by decide)).mpr h9)
                refine ps_st (S' := (76, [], [.int (-1)], M)) rfl rfl rfl ?_
                exact ps_ret rfl rfl (Or.inl ⟨by
                    unfold s_ms
                    rw [← hs]
                    rw [s_ar_0 (by omega)]
                    dsimp only
                    repeat' split
                    all_goals first | rfl | (exfalso; omega) | (exfalso; simp_all; done) | (exfalso; simp_all; omega), rfl, rfl⟩)
          · have c_26 : ¬ ((nI (c i)) = 41) := of_decide_eq_false c_26
            have n_26 : ¬ (c i = 41) := fun h9 => c_26 ((eq_nI (p := c i) (n := 41) (by omega) (by decide)).mpr h9)
            refine ps_st (S' := (31, [(0, .ref q), (2, .int (nI (B + e))), (3, .int (nI (B + i))), (4, .int (nI w))], [.int (nI w)], M)) rfl rfl rfl ?_
            refine ps_st (S' := (32, [(0, .ref q), (2, .int (nI (B + e))), (3, .int (nI (B + i))), (4, .int (nI w))], [.ref q, .int (nI w)], M)) rfl rfl rfl ?_
            refine ps_get (S' := (35, [(0, .ref q), (2, .int (nI (B + e))), (3, .int (nI (B + i))), (4, .int (nI w))], [.ref (qq 6), .int (nI w)], M)) rfl h_q rfl rfl ?_
            refine ps_st (S' := (36, [(0, .ref q), (2, .int (nI (B + e))), (3, .int (nI (B + i))), (4, .int (nI w))], [.int (nI (B + i)), .ref (qq 6), .int (nI w)], M)) rfl rfl rfl ?_
            refine ps_ald (S' := (37, [(0, .ref q), (2, .int (nI (B + e))), (3, .int (nI (B + i))), (4, .int (nI w))], [.int ((F 6) (Int32.toNatClampNeg (nI (B + i)))), .int (nI w)], M)) rfl h_qq_6 rfl (fun i0_36 i1_36 => ?_)
            have hb_36 := (hc (i) (by omega)).2
            rw [show ((F 6) (Int32.toNatClampNeg (nI (B + i)))) = (nI (c i)) from (congrArg (F 6) (nI_toNat (k := B + i) (by omega))).trans ((hc (i) (by omega)).1)]
            show pl _ _ _ (_, [(0, .ref q), (2, .int (nI (B + e))), (3, .int (nI (B + i))), (4, .int (nI w))], [.int (nI (c i)), .int (nI w)], M) _
            refine pl_call (a := [.int (nI (c i))]) (rest := [.int (nI w)]) rfl rfl rfl (dy_places (x := (c i)) (by omega)) (fun v43 M44 q45 => ?_)
            obtain ⟨rfl, rfl⟩ := q45
            show pl _ _ _ (40, [(0, .ref q), (2, .int (nI (B + e))), (3, .int (nI (B + i))), (4, .int (nI w))], [.int (nI (pW (c i))), .int (nI w)], M) _
            have hp_37 := pW_le (c i)
            refine ps_st (S' := (41, [(0, .ref q), (2, .int (nI (B + e))), (3, .int (nI (B + i))), (4, .int (nI w))], [.int ((nI w) + (nI (pW (c i))))], M)) rfl rfl rfl ?_
            rw [nI_add1 (p := w) (k := pW (c i)) (x := (nI (pW (c i)))) rfl (by omega)]
            show pl _ _ _ (_, [(0, .ref q), (2, .int (nI (B + e))), (3, .int (nI (B + i))), (4, .int (nI w))], [.int (nI (w + pW (c i)))], M) _
            refine ps_st (S' := (43, [(4, .int (nI (w + pW (c i)))), (0, .ref q), (2, .int (nI (B + e))), (3, .int (nI (B + i)))], [], M)) rfl rfl rfl ?_
            refine ps_st (S' := (44, [(4, .int (nI (w + pW (c i)))), (0, .ref q), (2, .int (nI (B + e))), (3, .int (nI (B + i)))], [.ref q], M)) rfl rfl rfl ?_
            refine ps_st (S' := (45, [(4, .int (nI (w + pW (c i)))), (0, .ref q), (2, .int (nI (B + e))), (3, .int (nI (B + i)))], [.int (nI (B + i)), .ref q], M)) rfl rfl rfl ?_
            refine ps_st (S' := (46, [(4, .int (nI (w + pW (c i)))), (0, .ref q), (2, .int (nI (B + e))), (3, .int (nI (B + i)))], [.int (nI (B + e)), .int (nI (B + i)), .ref q], M)) rfl rfl rfl ?_
            refine pl_call (a := [.ref q, .int (nI (B + i)), .int (nI (B + e))]) (rest := []) rfl rfl rfl (dy_typeEnd (q := q) (c := c) (B := B) (e := e) (i0 := i) (hP) (hm) (hc) (by omega)) (fun v46 M47 q48 => ?_)
            rcases q48 with q48 | q48
            · skip
              obtain ⟨q46_s, rfl, rfl⟩ := q48
              show pl _ _ _ (49, [(4, .int (nI (w + pW (c i)))), (0, .ref q), (2, .int (nI (B + e))), (3, .int (nI (B + i)))], [.int (-1)], M) _
              refine ps_st (S' := (50, [(3, .int (-1)), (4, .int (nI (w + pW (c i)))), (0, .ref q), (2, .int (nI (B + e)))], [], M)) rfl rfl rfl ?_
              refine ps_st (S' := (51, [(3, .int (-1)), (4, .int (nI (w + pW (c i)))), (0, .ref q), (2, .int (nI (B + e)))], [.int (-1)], M)) rfl rfl rfl ?_
              refine ps_if (S1 := (5, [(0, .ref q), (2, .int (nI (B + e))), (3, .int (-1)), (4, .int (nI (w + pW (c i))))], [], M)) (S2 := (54, [(3, .int (-1)), (4, .int (nI (w + pW (c i)))), (0, .ref q), (2, .int (nI (B + e)))], [], M)) rfl rfl rfl (fun c_51 => ?_) (fun c_51 => ?_)
              · exact absurd (of_decide_eq_true c_51) (by decide)
              refine ps_st (S' := (55, [(3, .int (-1)), (4, .int (nI (w + pW (c i)))), (0, .ref q), (2, .int (nI (B + e)))], [.int (-1)], M)) rfl rfl rfl ?_
              exact ps_ret rfl rfl (Or.inl ⟨by
                  unfold s_ms
                  rw [← hs]
                  rw [s_ar_bad (by omega) q46_s], rfl, rfl⟩)
            · skip
              obtain ⟨x49, q46_s, rfl, rfl⟩ := q48
              show pl _ _ _ (49, [(4, .int (nI (w + pW (c i)))), (0, .ref q), (2, .int (nI (B + e))), (3, .int (nI (B + i)))], [.int (nI (B + x49))], M) _
              have hl_46 := s_ty_le q46_s
              refine ps_st (S' := (50, [(3, .int (nI (B + x49))), (4, .int (nI (w + pW (c i)))), (0, .ref q), (2, .int (nI (B + e)))], [], M)) rfl rfl rfl ?_
              refine ps_st (S' := (51, [(3, .int (nI (B + x49))), (4, .int (nI (w + pW (c i)))), (0, .ref q), (2, .int (nI (B + e)))], [.int (nI (B + x49))], M)) rfl rfl rfl ?_
              refine ps_if (S1 := (5, [(0, .ref q), (2, .int (nI (B + e))), (3, .int (nI (B + x49))), (4, .int (nI (w + pW (c i))))], [], M)) (S2 := (54, [(3, .int (nI (B + x49))), (4, .int (nI (w + pW (c i)))), (0, .ref q), (2, .int (nI (B + e)))], [], M)) rfl rfl rfl (fun c_51 => ?_) (fun c_51 => ?_)
              rotate_left
              · exact absurd (Int32.not_lt.mp (nI_n0 (by omega))) (of_decide_eq_false c_51)
              exact ih (x49) (w + pW (c i))  (by have := s_ty_le q46_s; omega) (by unfold pW; split <;> omega) (by rw [← hs]; exact (s_ar_step (by omega) q46_s).symm)
  refine ps_st (S' := (1, [(0, .ref q), (1, .int (nI (B + i0))), (2, .int (nI (B + e)))], [.int (nI (B + i0))], M)) rfl rfl rfl ?_
  refine ps_st (S' := (2, [(3, .int (nI (B + i0))), (0, .ref q), (1, .int (nI (B + i0))), (2, .int (nI (B + e)))], [], M)) rfl rfl rfl ?_
  refine ps_st (S' := (3, [(3, .int (nI (B + i0))), (0, .ref q), (1, .int (nI (B + i0))), (2, .int (nI (B + e)))], [.int 0], M)) rfl rfl rfl ?_
  refine ps_st (S' := (5, [(0, .ref q), (2, .int (nI (B + e))), (3, .int (nI (B + i0))), (4, .int 0)], [], M)) rfl rfl rfl ?_
  exact (LL kf) (i0) (0)  (by omega) (by omega) (rfl)
set_option maxHeartbeats 1000000 in
theorem dy_shapeOf {g : xe_G} {M : mi_H} {q H m : Nat} {qq : Nat → Nat} {F : Nat → Nat → Int32} {sz cc : Int32} {c : Nat → Nat} {B e : Nat}  (hP : PL M q sz H m qq F cc) (hm : B + e ≤ m ∧ m ≤ 65540) (hc : ∀ i, i < e → F 6 (B + i) = nI (c i) ∧ c i < 65536) : pt (mT g) 137 [.ref q, .int (nI B), .int (nI (B + e))] M (fun v M' => (v = some (.int (shI (s_sh c e))) ∧ M = M')) := by
  refine pt_in (b := mb_137 g) rfl (fun kf => ?_)
  show pl (mT g) kf (mb_137 g).2 (0, [(0, .ref q), (1, .int (nI B)), (2, .int (nI (B + e)))], [], M) _
  have h_q := hP.1
  have h_qq_1 := hP.2.1 1 (by decide) (by decide)
  have h_qq_2 := hP.2.1 2 (by decide) (by decide)
  have h_qq_3 := hP.2.1 3 (by decide) (by decide)
  have h_qq_4 := hP.2.1 4 (by decide) (by decide)
  have h_qq_5 := hP.2.1 5 (by decide) (by decide)
  have h_qq_6 := hP.2.2
  have hc0 : ∀ (h : 0 < e), F 6 B = nI (c 0) ∧ c 0 < 65536 := fun h => hc 0 h
  refine ps_st (S' := (1, [(0, .ref q), (1, .int (nI B)), (2, .int (nI (B + e)))], [.int (nI B)], M)) rfl rfl rfl ?_
  refine ps_st (S' := (2, [(0, .ref q), (1, .int (nI B)), (2, .int (nI (B + e)))], [.int (nI (B + e)), .int (nI B)], M)) rfl rfl rfl ?_
  refine ps_if2 (S1 := (7, [(0, .ref q), (1, .int (nI B)), (2, .int (nI (B + e)))], [], M)) (S2 := (5, [(0, .ref q), (1, .int (nI B)), (2, .int (nI (B + e)))], [], M)) rfl rfl rfl (fun c_2 => ?_) (fun c_2 => ?_)
  · have c_2 : (nI B) < (nI (B + e)) := of_decide_eq_true c_2
    have n_2 : B < B + e := (lt_nI (p := B) (n := B + e) (by omega) (by omega)).mp c_2
    refine ps_st (S' := (8, [(0, .ref q), (1, .int (nI B)), (2, .int (nI (B + e)))], [.ref q], M)) rfl rfl rfl ?_
    refine ps_get (S' := (11, [(0, .ref q), (1, .int (nI B)), (2, .int (nI (B + e)))], [.ref (qq 6)], M)) rfl h_q rfl rfl ?_
    refine ps_st (S' := (12, [(0, .ref q), (1, .int (nI B)), (2, .int (nI (B + e)))], [.int (nI B), .ref (qq 6)], M)) rfl rfl rfl ?_
    refine ps_ald (S' := (13, [(0, .ref q), (1, .int (nI B)), (2, .int (nI (B + e)))], [.int ((F 6) (Int32.toNatClampNeg (nI B)))], M)) rfl h_qq_6 rfl (fun i0_12 i1_12 => ?_)
    have hb_12 := (hc (0) (by omega)).2
    rw [show ((F 6) (Int32.toNatClampNeg (nI B))) = (nI (c 0)) from (congrArg (F 6) (nI_toNat (k := B) (by omega))).trans ((hc (0) (by omega)).1)]
    show pl _ _ _ (_, [(0, .ref q), (1, .int (nI B)), (2, .int (nI (B + e)))], [.int (nI (c 0))], M) _
    refine ps_st (S' := (15, [(0, .ref q), (1, .int (nI B)), (2, .int (nI (B + e)))], [.int 40, .int (nI (c 0))], M)) rfl rfl rfl ?_
    refine ps_if2 (S1 := (27, [(0, .ref q), (1, .int (nI B)), (2, .int (nI (B + e)))], [], M)) (S2 := (18, [(0, .ref q), (1, .int (nI B)), (2, .int (nI (B + e)))], [], M)) rfl rfl rfl (fun c_15 => ?_) (fun c_15 => ?_)
    · have c_15 : ¬ (nI (c 0)) = 40 := of_decide_eq_true c_15
      have n_15 : ¬ (c 0 = 40) := fun h9 => c_15 ((eq_nI (p := c 0) (n := 40) (by omega) (by decide)).mpr h9)
      refine ps_st (S' := (28, [(0, .ref q), (1, .int (nI B)), (2, .int (nI (B + e)))], [.ref q], M)) rfl rfl rfl ?_
      refine ps_st (S' := (29, [(0, .ref q), (1, .int (nI B)), (2, .int (nI (B + e)))], [.int (nI B), .ref q], M)) rfl rfl rfl ?_
      refine ps_st (S' := (30, [(0, .ref q), (1, .int (nI B)), (2, .int (nI (B + e)))], [.int (nI (B + e)), .int (nI B), .ref q], M)) rfl rfl rfl ?_
      refine pl_call (a := [.ref q, .int (nI B), .int (nI (B + e))]) (rest := []) rfl rfl rfl (dy_typeEnd (q := q) (c := c) (B := B) (e := e) (i0 := 0) (hP) (hm) (hc) (by omega)) (fun v1 M2 q3 => ?_)
      rcases q3 with q3 | q3
      · skip
        obtain ⟨q30_s, rfl, rfl⟩ := q3
        show pl _ _ _ (33, [(0, .ref q), (1, .int (nI B)), (2, .int (nI (B + e)))], [.int (-1)], M) _
        refine ps_st (S' := (34, [(0, .ref q), (1, .int (nI B)), (2, .int (nI (B + e)))], [.int (nI (B + e)), .int (-1)], M)) rfl rfl rfl ?_
        refine ps_if2 (S1 := (49, [(0, .ref q), (1, .int (nI B)), (2, .int (nI (B + e)))], [], M)) (S2 := (37, [(0, .ref q), (1, .int (nI B)), (2, .int (nI (B + e)))], [], M)) rfl rfl rfl (fun c_34 => ?_) (fun c_34 => ?_)
        rotate_left
        · exact absurd (m1_ne (by omega)) (of_decide_eq_false c_34)
        refine ps_st (S' := (50, [], [.int (-1)], M)) rfl rfl rfl ?_
        exact ps_ret rfl rfl (⟨by rw [show s_sh c e = 0 by unfold s_sh; rw [if_neg (by omega), if_neg (by omega), if_neg (by rw [q30_s]; exact fun h => by cases h)]]; rfl, rfl⟩)
      · skip
        obtain ⟨x4, q30_s, rfl, rfl⟩ := q3
        show pl _ _ _ (33, [(0, .ref q), (1, .int (nI B)), (2, .int (nI (B + e)))], [.int (nI (B + x4))], M) _
        have hl_30 := s_ty_le q30_s
        refine ps_st (S' := (34, [(0, .ref q), (1, .int (nI B)), (2, .int (nI (B + e)))], [.int (nI (B + e)), .int (nI (B + x4))], M)) rfl rfl rfl ?_
        refine ps_if2 (S1 := (49, [(0, .ref q), (1, .int (nI B)), (2, .int (nI (B + e)))], [], M)) (S2 := (37, [(0, .ref q), (1, .int (nI B)), (2, .int (nI (B + e)))], [], M)) rfl rfl rfl (fun c_34 => ?_) (fun c_34 => ?_)
        · have c_34 : ¬ (nI (B + x4)) = (nI (B + e)) := of_decide_eq_true c_34
          have n_34 : ¬ (B + x4 = B + e) := fun h9 => c_34 ((eq_nI (p := B + x4) (n := B + e) (by omega) (by omega)).mpr h9)
          refine ps_st (S' := (50, [], [.int (-1)], M)) rfl rfl rfl ?_
          exact ps_ret rfl rfl (⟨by rw [show s_sh c e = 0 by unfold s_sh; rw [if_neg (by omega), if_neg (by omega), if_neg (by rw [q30_s]; exact fun h => by cases h; omega)]]; rfl, rfl⟩)
        · have c_34 : ¬ (¬ (nI (B + x4)) = (nI (B + e))) := of_decide_eq_false c_34
          have n_34 : B + x4 = B + e := (eq_nI (p := B + x4) (n := B + e) (by omega) (by omega)).mp (Decidable.not_not.mp c_34)
          refine ps_st (S' := (38, [(0, .ref q), (1, .int (nI B)), (2, .int (nI (B + e)))], [.ref q], M)) rfl rfl rfl ?_
          refine ps_get (S' := (41, [(0, .ref q), (1, .int (nI B)), (2, .int (nI (B + e)))], [.ref (qq 6)], M)) rfl h_q rfl rfl ?_
          refine ps_st (S' := (42, [(0, .ref q), (1, .int (nI B)), (2, .int (nI (B + e)))], [.int (nI B), .ref (qq 6)], M)) rfl rfl rfl ?_
          refine ps_ald (S' := (43, [(0, .ref q), (1, .int (nI B)), (2, .int (nI (B + e)))], [.int ((F 6) (Int32.toNatClampNeg (nI B)))], M)) rfl h_qq_6 rfl (fun i0_42 i1_42 => ?_)
          have hb_42 := (hc (0) (by omega)).2
          rw [show ((F 6) (Int32.toNatClampNeg (nI B))) = (nI (c 0)) from (congrArg (F 6) (nI_toNat (k := B) (by omega))).trans ((hc (0) (by omega)).1)]
          show pl _ _ _ (_, [(0, .ref q), (1, .int (nI B)), (2, .int (nI (B + e)))], [.int (nI (c 0))], M) _
          refine pl_call (a := [.int (nI (c 0))]) (rest := []) rfl rfl rfl (dy_places (x := (c 0)) (by omega)) (fun v5 M6 q7 => ?_)
          obtain ⟨rfl, rfl⟩ := q7
          show pl _ _ _ (46, [(0, .ref q), (1, .int (nI B)), (2, .int (nI (B + e)))], [.int (nI (pW (c 0)))], M) _
          have hp_43 := pW_le (c 0)
          refine ps_st (S' := (50, [], [.int (nI (pW (c 0)))], M)) rfl rfl rfl ?_
          exact ps_reti rfl (⟨by rw [show s_sh c e = pW (c 0) by unfold s_sh; rw [if_neg (by omega), if_neg (by omega), if_pos (by rw [q30_s]; congr 1; omega)]]; unfold shI; rw [if_neg (by unfold pW; split <;> omega)], rfl⟩)
    · have c_15 : ¬ (¬ (nI (c 0)) = 40) := of_decide_eq_false c_15
      have n_15 : c 0 = 40 := (eq_nI (p := c 0) (n := 40) (by omega) (by decide)).mp (Decidable.not_not.mp c_15)
      refine ps_st (S' := (19, [(0, .ref q), (1, .int (nI B)), (2, .int (nI (B + e)))], [.ref q], M)) rfl rfl rfl ?_
      refine ps_st (S' := (20, [(0, .ref q), (1, .int (nI B)), (2, .int (nI (B + e)))], [.int (nI B), .ref q], M)) rfl rfl rfl ?_
      refine ps_st (S' := (21, [(0, .ref q), (1, .int (nI B)), (2, .int (nI (B + e)))], [.int 1, .int (nI B), .ref q], M)) rfl rfl rfl ?_
      refine ps_st (S' := (22, [(0, .ref q), (1, .int (nI B)), (2, .int (nI (B + e)))], [.int ((nI B) + 1), .ref q], M)) rfl rfl rfl ?_
      rw [nI_add1 (p := B) (k := 1) (x := 1) rfl (by omega)]
      show pl _ _ _ (_, [(0, .ref q), (1, .int (nI B)), (2, .int (nI (B + e)))], [.int (nI (B + 1)), .ref q], M) _
      refine ps_st (S' := (23, [(0, .ref q), (1, .int (nI B)), (2, .int (nI (B + e)))], [.int (nI (B + e)), .int (nI (B + 1)), .ref q], M)) rfl rfl rfl ?_
      refine pl_call (a := [.ref q, .int (nI (B + 1)), .int (nI (B + e))]) (rest := []) rfl rfl rfl (dy_methodShape (q := q) (c := c) (B := B) (e := e) (i0 := 1) (hP) (hm) (hc) (by omega)) (fun v8 M9 q10 => ?_)
      rcases q10 with q10 | q10
      · skip
        obtain ⟨q23_s, rfl, rfl⟩ := q10
        show pl _ _ _ (26, [(0, .ref q), (1, .int (nI B)), (2, .int (nI (B + e)))], [.int (-1)], M) _
        exact ps_ret rfl rfl (⟨by rw [show s_sh c e = s_ms c e 1 by unfold s_sh; rw [if_neg (by omega), if_pos (by omega)]]; unfold shI; rw [if_pos q23_s], rfl⟩)
      · skip
        obtain ⟨q23_s, rfl, rfl⟩ := q10
        show pl _ _ _ (26, [(0, .ref q), (1, .int (nI B)), (2, .int (nI (B + e)))], [.int (nI (s_ms c e 1))], M) _
        exact ps_reti rfl (⟨by rw [show s_sh c e = s_ms c e 1 by unfold s_sh; rw [if_neg (by omega), if_pos (by omega)]]; unfold shI; rw [if_neg q23_s], rfl⟩)
  · have c_2 : ¬ ((nI B) < (nI (B + e))) := of_decide_eq_false c_2
    have n_2 : ¬ (B < B + e) := fun h9 => c_2 ((lt_nI (p := B) (n := B + e) (by omega) (by omega)).mpr h9)
    refine ps_st (S' := (6, [(0, .ref q), (1, .int (nI B)), (2, .int (nI (B + e)))], [.int (-1)], M)) rfl rfl rfl ?_
    exact ps_ret rfl rfl (⟨by rw [show s_sh c e = 0 by unfold s_sh; rw [if_pos (by omega)]]; rfl, rfl⟩)
end
