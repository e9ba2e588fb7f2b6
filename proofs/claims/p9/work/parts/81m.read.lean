/-! the reference: read (laid by wip/p2/c81.py) -/
theorem rm_parseK13 {g : xe_G}  {m0 : Nat} {q : Nat → Nat} {z : Nat × Nat} {I : rI} {R : rR} {M : mi_H} {rl wa : Int32} {n : Nat} {f : Nat → Int32} {kr : rR} {Ic : rI} {Rc : rR} {x0 : Int32}  (hR : RS g m0 q z I R M) (hk49 : I 49 = some 0) (hk47 : I 47 = some rl) (hk48 : I 48 = some wa) (hK : KW I R) (hn : n ≤ 65540) (hcan : CAN g m0 q kr Ic Rc) (h63 : R 63 = kr 63) (h64 : R 64 = kr 64) (hx : CANX g m0 q Ic Rc f n x0) (hfr : ∀ i, i < n → ∃ b, R 13 i = some b ∧ vp_nar .byte b = f i) {d : Nat} (hd : 10 ≤ d) : mt (mT g) d 230 [.ref m0, .ref (q 13), .int (nI n)] M (fun v M' => ∃ (x : Int32) (I' : rI) (R' : rR), v = some (.int x) ∧ RS g m0 q z I' R' M' ∧ eqI [3, 8, 9, 10, 11, 16, 20, 25, 26, 47, 48, 50, 51, 52, 53, 54, 55, 56, 57, 58, 59, 60, 61, 65, 66, 67, 68, 69, 70, 71, 72] I I' ∧ eqR [1, 2, 4, 5, 6, 7, 12, 21, 22, 27, 28, 29, 30, 31, 32, 33, 34, 35, 36, 37, 38, 39, 40, 41, 42, 43, 44, 45, 46] R R' ∧ (x = 0 ∨ x = 1) ∧ (x = x0 ∧ (x = 0 ∨ GD n f I' R') ∧ (∃ a, I' 9 = some a) ∧ (∃ a, I' 47 = some a) ∧ ∃ a, I' 48 = some a)) := by
  obtain ⟨r, hr, ⟨x, I1, R1, a1, a2, a3, a4, a5, a6, a7, a8⟩, hk⟩ := mt_kp (y := 230) (by decide) (rm_parse13 hR hk49 hK hn hcan h63 h64 hx hfr hd)
  exact ⟨r, hr, x, I1, R1, a1, a2, a3, a4, a5, a6, a7, a8, kp_of hR a2 hk rfl hk47, kp_of hR a2 hk rfl hk48⟩
theorem rm_parseK14 {g : xe_G}  {m0 : Nat} {q : Nat → Nat} {z : Nat × Nat} {I : rI} {R : rR} {M : mi_H} {rl wa : Int32} {n : Nat} {f : Nat → Int32} {kr : rR} {Ic : rI} {Rc : rR} {x0 : Int32}  (hR : RS g m0 q z I R M) (hk49 : I 49 = some 0) (hk47 : I 47 = some rl) (hk48 : I 48 = some wa) (hK : KW I R) (hn : n ≤ 65540) (hcan : CAN g m0 q kr Ic Rc) (h63 : R 63 = kr 63) (h64 : R 64 = kr 64) (hx : CANX g m0 q Ic Rc f n x0) (hfr : ∀ i, i < n → ∃ b, R 14 i = some b ∧ vp_nar .byte b = f i) {d : Nat} (hd : 10 ≤ d) : mt (mT g) d 230 [.ref m0, .ref (q 14), .int (nI n)] M (fun v M' => ∃ (x : Int32) (I' : rI) (R' : rR), v = some (.int x) ∧ RS g m0 q z I' R' M' ∧ eqI [3, 8, 9, 10, 11, 16, 20, 25, 26, 47, 48, 50, 51, 52, 53, 54, 55, 56, 57, 58, 59, 60, 61, 65, 66, 67, 68, 69, 70, 71, 72] I I' ∧ eqR [1, 2, 4, 5, 6, 7, 12, 21, 22, 27, 28, 29, 30, 31, 32, 33, 34, 35, 36, 37, 38, 39, 40, 41, 42, 43, 44, 45, 46] R R' ∧ (x = 0 ∨ x = 1) ∧ (x = x0 ∧ (x = 0 ∨ GD n f I' R') ∧ (∃ a, I' 9 = some a) ∧ (∃ a, I' 47 = some a) ∧ ∃ a, I' 48 = some a)) := by
  obtain ⟨r, hr, ⟨x, I1, R1, a1, a2, a3, a4, a5, a6, a7, a8⟩, hk⟩ := mt_kp (y := 230) (by decide) (rm_parse14 hR hk49 hK hn hcan h63 h64 hx hfr hd)
  exact ⟨r, hr, x, I1, R1, a1, a2, a3, a4, a5, a6, a7, a8, kp_of hR a2 hk rfl hk47, kp_of hR a2 hk rfl hk48⟩
set_option maxHeartbeats 2000000 in
theorem rm_read {g : xe_G}  {m0 : Nat} {q : Nat → Nat} {z : Nat × Nat} {I : rI} {R : rR} {M : mi_H} {kn rl wa : Int32} {nf n0 : Nat} {f0 : Nat → Int32} {kr : rR} {Ic : rI} {Rc : rR}  (hR : RS g m0 q z I R M) (hk17 : I 17 = some (nI nf)) (hk18 : I 18 = some kn) (hk49 : I 49 = some 0) (hk47 : I 47 = some rl) (hk48 : I 48 = some wa) (hK : KW I R) (hnf : nf ≤ 65540) (hcan : CAN g m0 q kr Ic Rc) (h63 : R 63 = kr 63) (h64 : R 64 = kr 64) (hfile : KB 13 nf R) (hkp0 : (kn < 0 ∨ KEP g m0 q Ic Rc n0 f0 kn R)) {d : Nat} (hd : 11 ≤ d) : mt (mT g) d 236 [.ref m0] M (fun v M' => ∃ (x : Int32) (I' : rI) (R' : rR), v = some (.int x) ∧ RS g m0 q z I' R' M' ∧ eqI [0, 3, 8, 9, 10, 11, 16, 17, 18, 20, 25, 26, 47, 48, 50, 51, 52, 53, 54, 55, 56, 57, 58, 59, 60, 61, 65, 66, 67, 68, 69, 70, 71, 72, 73, 74] I I' ∧ eqR [1, 2, 4, 5, 6, 7, 12, 14, 21, 22, 27, 28, 29, 30, 31, 32, 33, 34, 35, 36, 37, 38, 39, 40, 41, 42, 43, 44, 45, 46] R R' ∧ (I' 17 = some 0 ∧ I' 74 = some (-1) ∧ (∃ a, I' 73 = some a) ∧ (∃ a, I' 9 = some a) ∧ (∃ a, I' 47 = some a) ∧ (∃ a, I' 48 = some a) ∧ ∃ k9 : Int32, I' 18 = some k9 ∧ (k9 < 0 ∨ ∃ (n : Nat) (f : Nat → Int32), KEP g m0 q Ic Rc n f k9 R' ∧ GD n f I' R'))) := by
  obtain ⟨d, rfl⟩ : ∃ e, d = e + 1 := ⟨d - 1, by omega⟩
  refine mt_in (b := mb_236 g) rfl rfl ?_
  show ml (mT g) d (mb_236 g).2 (0, [(0, .ref m0)], [], M) _
  obtain ⟨xF, hxF01, hxF⟩ := canx_ex (f := fFr R 13) (n := nf) hR hcan (hK.mono (fun k hk => by cases hk) (fun k hk => by rcases List.mem_cons.mp hk with rfl | hk; exact h63.symm; (rcases List.mem_cons.mp hk with rfl | hk; exact h64.symm; cases hk))) hnf
  refine ml_blk 2 (S' := (2, [(0, .ref m0)], [.int 0, .ref m0], M)) rfl ?_
  refine rp_int rfl hR rfl (fun M11 I12 hR13 e14 f15 => ?_)
  show ml _ _ _ (5, [(0, .ref m0)], [], M11) _
  refine ml_blk 2 (S' := (7, [(0, .ref m0)], [.ref m0, .ref m0], M11)) rfl ?_
  refine rg_ref (S' := (10, [(0, .ref m0)], [.ref (q 13), .ref m0], M11)) rfl hR13 rfl rfl ?_
  refine ml_st (S' := (11, [(0, .ref m0)], [.ref m0, .ref (q 13), .ref m0], M11)) rfl rfl rfl ?_
  refine rg_int (S' := (14, [(0, .ref m0)], [.int (nI nf), .ref (q 13), .ref m0], M11)) rfl hR13 rfl ((f15 17 (by decide)).trans (hk17)) rfl ?_
  have hK16 : KW I12 R := (hK.mono (pIx f15 (by decide)) (fun _ _ => rfl))
  refine ml_call (a := [.ref m0, .ref (q 13), .int (nI nf)]) (rest := []) rfl (hR13.okc rfl rfl rfl) rfl rfl (rm_parseK13 hR13 ((f15 49 (by decide)).trans (hk49)) ((f15 47 (by decide)).trans (hk47)) ((f15 48 (by decide)).trans (hk48)) hK16 (hnf) (hcan) ((rfl).trans h63) ((rfl).trans h64) (hxF) (fun i hi => by obtain ⟨b, hb⟩ := hfile i hi; exact ⟨b, (congrFun (rfl) _).trans hb, fFr_of hb⟩) (by omega)) (fun v17 M18 h19 => ?_)
  obtain ⟨u25, I20, R21, rfl, hR22, hI23, hV24, z26, w27⟩ := h19
  show ml _ _ _ (17, [(0, .ref m0)], [.int u25], M18) _
  obtain ⟨hux, hgd, ⟨a9, kz9⟩, ⟨r47, kz47⟩, ⟨r48, kz48⟩⟩ := w27
  refine ml_st (S' := (18, [(1, .int u25), (0, .ref m0)], [], M18)) rfl rfl rfl ?_
  refine ml_blk 2 (S' := (20, [(1, .int u25), (0, .ref m0)], [.int u25, .ref m0], M18)) rfl ?_
  have J_31 : ∀ (s31_0 : Int32), ml (mT g) d (mb_236 g).2 (31, [(0, .ref m0), (1, .int u25)], [.int s31_0, .ref m0], M18) (fun v M' => ∃ (x : Int32) (I' : rI) (R' : rR), v = some (.int x) ∧ RS g m0 q z I' R' M' ∧ eqI [0, 3, 8, 9, 10, 11, 16, 17, 18, 20, 25, 26, 47, 48, 50, 51, 52, 53, 54, 55, 56, 57, 58, 59, 60, 61, 65, 66, 67, 68, 69, 70, 71, 72, 73, 74] I I' ∧ eqR [1, 2, 4, 5, 6, 7, 12, 14, 21, 22, 27, 28, 29, 30, 31, 32, 33, 34, 35, 36, 37, 38, 39, 40, 41, 42, 43, 44, 45, 46] R R' ∧ (I' 17 = some 0 ∧ I' 74 = some (-1) ∧ (∃ a, I' 73 = some a) ∧ (∃ a, I' 9 = some a) ∧ (∃ a, I' 47 = some a) ∧ (∃ a, I' 48 = some a) ∧ ∃ k9 : Int32, I' 18 = some k9 ∧ (k9 < 0 ∨ ∃ (n : Nat) (f : Nat → Int32), KEP g m0 q Ic Rc n f k9 R' ∧ GD n f I' R'))) := by
    intro s31_0
    refine rp_int rfl hR22 rfl (fun M28 I29 hR30 e31 f32 => ?_)
    show ml _ _ _ (34, [(0, .ref m0), (1, .int u25)], [], M28) _
    refine ml_st (S' := (35, [(0, .ref m0), (1, .int u25)], [.int u25], M28)) rfl rfl rfl ?_
    have J_46 : ∀ (s46_0 : Int32), ml (mT g) d (mb_236 g).2 (46, [(0, .ref m0), (1, .int u25)], [.int s46_0], M28) (fun v M' => ∃ (x : Int32) (I' : rI) (R' : rR), v = some (.int x) ∧ RS g m0 q z I' R' M' ∧ eqI [0, 3, 8, 9, 10, 11, 16, 17, 18, 20, 25, 26, 47, 48, 50, 51, 52, 53, 54, 55, 56, 57, 58, 59, 60, 61, 65, 66, 67, 68, 69, 70, 71, 72, 73, 74] I I' ∧ eqR [1, 2, 4, 5, 6, 7, 12, 14, 21, 22, 27, 28, 29, 30, 31, 32, 33, 34, 35, 36, 37, 38, 39, 40, 41, 42, 43, 44, 45, 46] R R' ∧ (I' 17 = some 0 ∧ I' 74 = some (-1) ∧ (∃ a, I' 73 = some a) ∧ (∃ a, I' 9 = some a) ∧ (∃ a, I' 47 = some a) ∧ (∃ a, I' 48 = some a) ∧ ∃ k9 : Int32, I' 18 = some k9 ∧ (k9 < 0 ∨ ∃ (n : Nat) (f : Nat → Int32), KEP g m0 q Ic Rc n f k9 R' ∧ GD n f I' R'))) := by
      intro s46_0
      refine ml_st (S' := (47, [(2, .int s46_0), (0, .ref m0), (1, .int u25)], [], M28)) rfl rfl rfl ?_
      refine ml_st (S' := (48, [(2, .int s46_0), (0, .ref m0), (1, .int u25)], [.int u25], M28)) rfl rfl rfl ?_
      refine ml_if (S1 := (90, [(2, .int s46_0), (0, .ref m0), (1, .int u25)], [], M28)) (S2 := (51, [(2, .int s46_0), (0, .ref m0), (1, .int u25)], [], M28)) rfl rfl rfl (fun c_48 => ?_) (fun c_48 => ?_)
      · have c_48 : u25 = 0 := of_decide_eq_true c_48
        refine ml_st (S' := (91, [(2, .int s46_0), (0, .ref m0), (1, .int u25)], [.ref m0], M28)) rfl rfl rfl ?_
        refine rg_int (S' := (94, [(2, .int s46_0), (0, .ref m0), (1, .int u25)], [.int kn], M28)) rfl hR30 rfl ((f32 18 (by decide)).trans ((hI23 18 (by decide)).trans ((f15 18 (by decide)).trans (hk18)))) rfl ?_
        refine ml_if (S1 := (110, [(0, .ref m0), (2, .int s46_0)], [], M28)) (S2 := (97, [(2, .int s46_0), (0, .ref m0), (1, .int u25)], [], M28)) rfl rfl rfl (fun c_94 => ?_) (fun c_94 => ?_)
        · have c_94 : kn < 0 := of_decide_eq_true c_94
          refine ml_blk 2 (S' := (112, [(0, .ref m0), (2, .int s46_0)], [.int (-1), .ref m0], M28)) rfl ?_
          refine rp_int rfl hR30 rfl (fun M33 I34 hR35 e36 f37 => ?_)
          show ml _ _ _ (115, [(0, .ref m0), (2, .int s46_0)], [], M33) _
          refine ml_blk 2 (S' := (117, [(0, .ref m0), (2, .int s46_0)], [.int 0, .ref m0], M33)) rfl ?_
          refine rp_int rfl hR35 rfl (fun M38 I39 hR40 e41 f42 => ?_)
          show ml _ _ _ (120, [(0, .ref m0), (2, .int s46_0)], [], M38) _
          refine ml_st (S' := (121, [(0, .ref m0), (2, .int s46_0)], [.int s46_0], M38)) rfl rfl rfl ?_
          exact ml_ret rfl (rfl) (⟨_, _, _, rfl, hR40, (((((eqI.rf.put f15 (by decide)).tr hI23 (by decide)).put f32 (by decide)).put f37 (by decide)).put f42 (by decide)), (eqR.rf.tr hV24 (by decide)), ⟨e41, (f42 74 (by decide)).trans (e36), ⟨_, (f42 73 (by decide)).trans ((f37 73 (by decide)).trans (e31))⟩, ⟨_, (f42 9 (by decide)).trans ((f37 9 (by decide)).trans ((f32 9 (by decide)).trans (kz9)))⟩, ⟨_, (f42 47 (by decide)).trans ((f37 47 (by decide)).trans ((f32 47 (by decide)).trans (kz47)))⟩, ⟨_, (f42 48 (by decide)).trans ((f37 48 (by decide)).trans ((f32 48 (by decide)).trans (kz48)))⟩, kn, (f42 18 (by decide)).trans ((f37 18 (by decide)).trans ((f32 18 (by decide)).trans ((hI23 18 (by decide)).trans ((f15 18 (by decide)).trans (hk18))))), Or.inl c_94⟩⟩)
        · have c_94 : ¬ (kn < 0) := of_decide_eq_false c_94
          obtain ⟨hke, hn0, hk14, hcx⟩ := hkp0.resolve_left c_94
          refine ml_blk 2 (S' := (99, [(2, .int s46_0), (0, .ref m0), (1, .int u25)], [.ref m0, .ref m0], M28)) rfl ?_
          refine rg_ref (S' := (102, [(2, .int s46_0), (0, .ref m0), (1, .int u25)], [.ref (q 14), .ref m0], M28)) rfl hR30 rfl rfl ?_
          refine ml_st (S' := (103, [(2, .int s46_0), (0, .ref m0), (1, .int u25)], [.ref m0, .ref (q 14), .ref m0], M28)) rfl rfl rfl ?_
          refine rg_int (S' := (106, [(2, .int s46_0), (0, .ref m0), (1, .int u25)], [.int (nI n0), .ref (q 14), .ref m0], M28)) rfl hR30 rfl ((((f32 18 (by decide)).trans ((hI23 18 (by decide)).trans ((f15 18 (by decide)).trans (hk18)))).trans (congrArg some hke))) rfl ?_
          have hK43 : KW I29 R21 := ((hK16.mono (cIx hI23 (by decide)) (cRx hV24 (by decide))).mono (pIx f32 (by decide)) (fun _ _ => rfl))
          refine ml_call (a := [.ref m0, .ref (q 14), .int (nI n0)]) (rest := []) rfl (hR30.okc rfl rfl rfl) rfl rfl (rm_parseK14 hR30 ((f32 49 (by decide)).trans ((hI23 49 (by decide)).trans ((f15 49 (by decide)).trans (hk49)))) ((f32 47 (by decide)).trans (kz47)) ((f32 48 (by decide)).trans (kz48)) hK43 (hn0) (hcan) ((hV24 63 (by decide)).trans h63) ((hV24 64 (by decide)).trans h64) (hcx) (fun i hi => ⟨f0 i, (congrFun (hV24 14 (by decide)) _).trans (hk14 i hi).1, (hk14 i hi).2⟩) (by omega)) (fun v44 M45 h46 => ?_)
          obtain ⟨u52, I47, R48, rfl, hR49, hI50, hV51, z53, w54⟩ := h46
          show ml _ _ _ (109, [(2, .int s46_0), (0, .ref m0), (1, .int u25)], [.int u52], M45) _
          obtain ⟨hux2, hgd2, ⟨b9, ky9⟩, ⟨s47, ky47⟩, ⟨s48, ky48⟩⟩ := w54
          have hgd3 : GD n0 f0 I47 R48 := hgd2.resolve_left (by rw [hux2]; decide)
          refine ml_st (S' := (110, [(0, .ref m0), (2, .int s46_0)], [], M45)) rfl rfl rfl ?_
          refine ml_blk 2 (S' := (112, [(0, .ref m0), (2, .int s46_0)], [.int (-1), .ref m0], M45)) rfl ?_
          refine rp_int rfl hR49 rfl (fun M55 I56 hR57 e58 f59 => ?_)
          show ml _ _ _ (115, [(0, .ref m0), (2, .int s46_0)], [], M55) _
          refine ml_blk 2 (S' := (117, [(0, .ref m0), (2, .int s46_0)], [.int 0, .ref m0], M55)) rfl ?_
          refine rp_int rfl hR57 rfl (fun M60 I61 hR62 e63 f64 => ?_)
          show ml _ _ _ (120, [(0, .ref m0), (2, .int s46_0)], [], M60) _
          refine ml_st (S' := (121, [(0, .ref m0), (2, .int s46_0)], [.int s46_0], M60)) rfl rfl rfl ?_
          have hG65 : GD n0 f0 I61 R48 := ((hgd3.mono (pIx f59 (by decide)) (fun _ _ => rfl)).mono (pIx f64 (by decide)) (fun _ _ => rfl))
          exact ml_ret rfl (rfl) (⟨_, _, _, rfl, hR62, ((((((eqI.rf.put f15 (by decide)).tr hI23 (by decide)).put f32 (by decide)).tr hI50 (by decide)).put f59 (by decide)).put f64 (by decide)), ((eqR.rf.tr hV24 (by decide)).tr hV51 (by decide)), ⟨e63, (f64 74 (by decide)).trans (e58), ⟨_, (f64 73 (by decide)).trans ((f59 73 (by decide)).trans ((hI50 73 (by decide)).trans (e31)))⟩, ⟨_, (f64 9 (by decide)).trans ((f59 9 (by decide)).trans (ky9))⟩, ⟨_, (f64 47 (by decide)).trans ((f59 47 (by decide)).trans (ky47))⟩, ⟨_, (f64 48 (by decide)).trans ((f59 48 (by decide)).trans (ky48))⟩, nI n0, (f64 18 (by decide)).trans ((f59 18 (by decide)).trans ((hI50 18 (by decide)).trans ((((f32 18 (by decide)).trans ((hI23 18 (by decide)).trans ((f15 18 (by decide)).trans (hk18)))).trans (congrArg some hke))))), Or.inr ⟨n0, f0, ⟨rfl, hn0, fun i hi => ⟨(congrFun ((hV51 14 (by decide)).trans (hV24 14 (by decide))) _).trans (hk14 i hi).1, (hk14 i hi).2⟩, hcx⟩, hG65⟩⟩⟩)
      · have c_48 : ¬ (u25 = 0) := of_decide_eq_false c_48
        have hgd1 : GD nf (fFr R 13) I20 R21 := hgd.resolve_left c_48
        have hxF1 : CANX g m0 q Ic Rc (fFr R 13) nf 1 := by have e : xF = 1 := hxF01.resolve_left (fun e => c_48 (hux.trans e)); rw [e] at hxF; exact hxF
        refine ml_st (S' := (52, [(2, .int s46_0), (0, .ref m0), (1, .int u25)], [.int 0], M28)) rfl rfl rfl ?_
        refine ml_st (S' := (53, [(0, .ref m0), (2, .int s46_0), (3, .int 0)], [], M28)) rfl rfl rfl ?_
        have L_53 : ∀ (n_53 : Nat) (i53_3 : Int32) (M_53 : mi_H) (I_53 : rI) (R_53 : rR), (2147483648 - i53_3.toInt).toNat ≤ n_53 → RS g m0 q z I_53 R_53 M_53 → eqI [] I29 I_53 → eqR [14] R21 R_53 → (0 ≤ i53_3.toInt ∧ i53_3.toInt ≤ nf ∧ ∀ i, i < i53_3.toInt.toNat → R_53 14 i = some (fFr R 13 i)) → ml (mT g) d (mb_236 g).2 (53, [(0, .ref m0), (2, .int s46_0), (3, .int i53_3)], [], M_53) (fun v M' => ∃ (x : Int32) (I' : rI) (R' : rR), v = some (.int x) ∧ RS g m0 q z I' R' M' ∧ eqI [0, 3, 8, 9, 10, 11, 16, 17, 18, 20, 25, 26, 47, 48, 50, 51, 52, 53, 54, 55, 56, 57, 58, 59, 60, 61, 65, 66, 67, 68, 69, 70, 71, 72, 73, 74] I I' ∧ eqR [1, 2, 4, 5, 6, 7, 12, 14, 21, 22, 27, 28, 29, 30, 31, 32, 33, 34, 35, 36, 37, 38, 39, 40, 41, 42, 43, 44, 45, 46] R R' ∧ (I' 17 = some 0 ∧ I' 74 = some (-1) ∧ (∃ a, I' 73 = some a) ∧ (∃ a, I' 9 = some a) ∧ (∃ a, I' 47 = some a) ∧ (∃ a, I' 48 = some a) ∧ ∃ k9 : Int32, I' 18 = some k9 ∧ (k9 < 0 ∨ ∃ (n : Nat) (f : Nat → Int32), KEP g m0 q Ic Rc n f k9 R' ∧ GD n f I' R'))) := by
          intro n_53
          induction n_53 with
          | zero => intro i53_3 M_53 I_53 R_53 hn; exact (loop_zero hn).elim
          | succ n_53 ih_53 =>
            intro i53_3 M_53 I_53 R_53 hn_53 hR_53 hI_53 hV_53 hi_53
            obtain ⟨hk0, hk1, hfl⟩ := hi_53
            refine ml_blk 2 (S' := (55, [(0, .ref m0), (2, .int s46_0), (3, .int i53_3)], [.ref m0, .int i53_3], M_53)) rfl ?_
            refine rg_int (S' := (58, [(0, .ref m0), (2, .int s46_0), (3, .int i53_3)], [.int (nI nf), .int i53_3], M_53)) rfl hR_53 rfl ((hI_53 17 (by decide)).trans ((f32 17 (by decide)).trans ((hI23 17 (by decide)).trans ((f15 17 (by decide)).trans (hk17))))) rfl ?_
            refine ml_if2 (S1 := (79, [(0, .ref m0), (2, .int s46_0), (3, .int i53_3)], [], M_53)) (S2 := (61, [(0, .ref m0), (2, .int s46_0), (3, .int i53_3)], [], M_53)) rfl rfl rfl (fun c_58 => ?_) (fun c_58 => ?_)
            · have c_58 : (nI nf) ≤ i53_3 := of_decide_eq_true c_58
              have hall : ∀ i, i < nf → R_53 14 i = some (fFr R 13 i) := fun i hi => hfl i (by have q := i_le c_58; rw [nI_val (by omega)] at q; omega)
              refine ml_blk 2 (S' := (81, [(0, .ref m0), (2, .int s46_0), (3, .int i53_3)], [.ref m0, .ref m0], M_53)) rfl ?_
              refine rg_int (S' := (84, [(0, .ref m0), (2, .int s46_0), (3, .int i53_3)], [.int (nI nf), .ref m0], M_53)) rfl hR_53 rfl ((hI_53 17 (by decide)).trans ((f32 17 (by decide)).trans ((hI23 17 (by decide)).trans ((f15 17 (by decide)).trans (hk17))))) rfl ?_
              refine rp_int rfl hR_53 rfl (fun M66 I67 hR68 e69 f70 => ?_)
              show ml _ _ _ (87, [(0, .ref m0), (2, .int s46_0), (3, .int i53_3)], [], M66) _
              refine ml_st (S' := (110, [(0, .ref m0), (2, .int s46_0)], [], M66)) rfl rfl rfl ?_
              refine ml_blk 2 (S' := (112, [(0, .ref m0), (2, .int s46_0)], [.int (-1), .ref m0], M66)) rfl ?_
              refine rp_int rfl hR68 rfl (fun M71 I72 hR73 e74 f75 => ?_)
              show ml _ _ _ (115, [(0, .ref m0), (2, .int s46_0)], [], M71) _
              refine ml_blk 2 (S' := (117, [(0, .ref m0), (2, .int s46_0)], [.int 0, .ref m0], M71)) rfl ?_
              refine rp_int rfl hR73 rfl (fun M76 I77 hR78 e79 f80 => ?_)
              show ml _ _ _ (120, [(0, .ref m0), (2, .int s46_0)], [], M76) _
              refine ml_st (S' := (121, [(0, .ref m0), (2, .int s46_0)], [.int s46_0], M76)) rfl rfl rfl ?_
              have hG81 : GD nf (fFr R 13) I77 R_53 := (((((hgd1.mono (pIx f32 (by decide)) (fun _ _ => rfl)).mono (cIx hI_53 (by decide)) (cRx hV_53 (by decide))).mono (pIx f70 (by decide)) (fun _ _ => rfl)).mono (pIx f75 (by decide)) (fun _ _ => rfl)).mono (pIx f80 (by decide)) (fun _ _ => rfl))
              exact ml_ret rfl (rfl) (⟨_, _, _, rfl, hR78, (((((((eqI.rf.put f15 (by decide)).tr hI23 (by decide)).put f32 (by decide)).tr hI_53 (by decide)).put f70 (by decide)).put f75 (by decide)).put f80 (by decide)), ((eqR.rf.tr hV24 (by decide)).tr hV_53 (by decide)), ⟨e79, (f80 74 (by decide)).trans (e74), ⟨_, (f80 73 (by decide)).trans ((f75 73 (by decide)).trans ((f70 73 (by decide)).trans ((hI_53 73 (by decide)).trans (e31))))⟩, ⟨_, (f80 9 (by decide)).trans ((f75 9 (by decide)).trans ((f70 9 (by decide)).trans ((hI_53 9 (by decide)).trans ((f32 9 (by decide)).trans (kz9)))))⟩, ⟨_, (f80 47 (by decide)).trans ((f75 47 (by decide)).trans ((f70 47 (by decide)).trans ((hI_53 47 (by decide)).trans ((f32 47 (by decide)).trans (kz47)))))⟩, ⟨_, (f80 48 (by decide)).trans ((f75 48 (by decide)).trans ((f70 48 (by decide)).trans ((hI_53 48 (by decide)).trans ((f32 48 (by decide)).trans (kz48)))))⟩, nI nf, (f80 18 (by decide)).trans ((f75 18 (by decide)).trans (e69)), Or.inr ⟨nf, fFr R 13, ⟨rfl, hnf, fun i hi => ⟨(congrFun (rfl) _).trans (hall i hi), nar_nar _⟩, hxF1⟩, hG81⟩⟩⟩)
            · have c_58 : ¬ ((nI nf) ≤ i53_3) := of_decide_eq_false c_58
              have hkl : i53_3.toInt < nf := by have q := i_nle c_58; rw [nI_val (by omega)] at q; exact q
              obtain ⟨b9, hb9⟩ := hfile i53_3.toNatClampNeg (by show i53_3.toInt.toNat < nf; omega)
              refine ml_st (S' := (62, [(0, .ref m0), (2, .int s46_0), (3, .int i53_3)], [.ref m0], M_53)) rfl rfl rfl ?_
              refine rg_ref (S' := (65, [(0, .ref m0), (2, .int s46_0), (3, .int i53_3)], [.ref (q 14)], M_53)) rfl hR_53 rfl rfl ?_
              refine ml_blk 2 (S' := (67, [(0, .ref m0), (2, .int s46_0), (3, .int i53_3)], [.ref m0, .int i53_3, .ref (q 14)], M_53)) rfl ?_
              refine rg_ref (S' := (70, [(0, .ref m0), (2, .int s46_0), (3, .int i53_3)], [.ref (q 13), .int i53_3, .ref (q 14)], M_53)) rfl hR_53 rfl rfl ?_
              refine ml_st (S' := (71, [(0, .ref m0), (2, .int s46_0), (3, .int i53_3)], [.int i53_3, .ref (q 13), .int i53_3, .ref (q 14)], M_53)) rfl rfl rfl ?_
              refine ra_ld (k := 13) (S' := (72, [(0, .ref m0), (2, .int s46_0), (3, .int i53_3)], [.int b9, .int i53_3, .ref (q 14)], M_53)) rfl hR_53 rfl (vin_lt hk0 (by omega)) ((congrFun ((hV_53 13 (by decide)).trans (hV24 13 (by decide))) _).trans hb9) rfl ?_
              refine ra_st (k := 14) rfl hR_53 rfl (vin_lt hk0 (by omega)) (fun M82 R83 hR84 e85 g86 f87 => ?_)
              show ml _ _ _ (73, [(0, .ref m0), (2, .int s46_0), (3, .int i53_3)], [], M82) _
              refine ml_st (S' := (76, [(3, .int (i53_3 + 1)), (0, .ref m0), (2, .int s46_0)], [], M82)) rfl rfl rfl ?_
              refine ml_st (S' := (53, [(0, .ref m0), (2, .int s46_0), (3, .int (i53_3 + 1))], [], M82)) rfl rfl rfl ?_
              exact ih_53 (i53_3 + 1) _ _ _ (loop_inc (Int32.not_le.mp c_58) hn_53) hR84 (eqI.rf.tr hI_53 (by decide)) ((eqR.rf.tr hV_53 (by decide)).put f87 (by decide)) (⟨by rw [inc_lt (Int32.not_le.mp c_58)]; omega, by rw [inc_lt (Int32.not_le.mp c_58)]; omega, by rw [show (i53_3 + 1).toInt.toNat = i53_3.toInt.toNat + 1 by rw [inc_lt (Int32.not_le.mp c_58)]; omega]; exact fill14 hfl e85 (fFr_of hb9) g86⟩)
        exact L_53 _ 0 _ _ _ (Nat.le_refl _) hR30 eqI.rf eqR.rf (⟨by decide, by have : (0 : Int32).toInt = 0 := rfl; omega, fun i hi => absurd hi (Nat.not_lt_zero i)⟩)
    refine ml_if (S1 := (42, [(0, .ref m0), (1, .int u25)], [], M28)) (S2 := (38, [(0, .ref m0), (1, .int u25)], [], M28)) rfl rfl rfl (fun c_35 => ?_) (fun c_35 => ?_)
    · have c_35 : u25 = 0 := of_decide_eq_true c_35
      refine ml_st (S' := (43, [(0, .ref m0), (1, .int u25)], [.ref m0], M28)) rfl rfl rfl ?_
      refine rg_int (S' := (46, [(0, .ref m0), (1, .int u25)], [.int r47], M28)) rfl hR30 rfl ((f32 47 (by decide)).trans (kz47)) rfl ?_
      exact J_46 r47
    · have c_35 : ¬ (u25 = 0) := of_decide_eq_false c_35
      refine ml_st (S' := (39, [(0, .ref m0), (1, .int u25)], [.int 0], M28)) rfl rfl rfl ?_
      refine ml_st (S' := (46, [(0, .ref m0), (1, .int u25)], [.int 0], M28)) rfl rfl rfl ?_
      exact J_46 0
  refine ml_if (S1 := (27, [(1, .int u25), (0, .ref m0)], [.ref m0], M18)) (S2 := (23, [(1, .int u25), (0, .ref m0)], [.ref m0], M18)) rfl rfl rfl (fun c_20 => ?_) (fun c_20 => ?_)
  · have c_20 : u25 = 0 := of_decide_eq_true c_20
    refine ml_st (S' := (28, [(1, .int u25), (0, .ref m0)], [.ref m0, .ref m0], M18)) rfl rfl rfl ?_
    refine rg_int (S' := (31, [(0, .ref m0), (1, .int u25)], [.int r48, .ref m0], M18)) rfl hR22 rfl (kz48) rfl ?_
    exact J_31 r48
  · have c_20 : ¬ (u25 = 0) := of_decide_eq_false c_20
    refine ml_st (S' := (24, [(1, .int u25), (0, .ref m0)], [.int (-1), .ref m0], M18)) rfl rfl rfl ?_
    refine ml_st (S' := (31, [(0, .ref m0), (1, .int u25)], [.int (-1), .ref m0], M18)) rfl rfl rfl ?_
    exact J_31 (-1)
