/-! the law's loop, its beginning (laid by wip/p2/c96.py) -/
theorem dl_0 : decode cL_law 0 = .ok (.new 8, 3) := by decide +kernel
theorem dl_3 : decode cL_law 3 = .ok (.dup, 1) := by decide +kernel
theorem dl_4 : decode cL_law 4 = .ok (.invokespecial 39, 3) := by decide +kernel
theorem dl_7 : decode cL_law 7 = .ok (.astore_n 1, 1) := by decide +kernel
theorem dl_8 : decode cL_law 8 = .ok (.new 40, 3) := by decide +kernel
theorem dl_11 : decode cL_law 11 = .ok (.dup, 1) := by decide +kernel
theorem dl_12 : decode cL_law 12 = .ok (.invokespecial 42, 3) := by decide +kernel
theorem dl_15 : decode cL_law 15 = .ok (.astore_n 2, 1) := by decide +kernel
theorem dl_16 : decode cL_law 16 = .ok (.iconst 1, 1) := by decide +kernel
theorem dl_17 : decode cL_law 17 = .ok (.newarray .long, 2) := by decide +kernel
theorem dl_19 : decode cL_law 19 = .ok (.astore_n 3, 1) := by decide +kernel
theorem dl_20 : decode cL_law 20 = .ok (.iconst 0, 1) := by decide +kernel
theorem dl_21 : decode cL_law 21 = .ok (.istore 4, 2) := by decide +kernel
theorem dl_23 : decode cL_law 23 = .ok (.iload 4, 2) := by decide +kernel
theorem dl_25 : decode cL_law 25 = .ok (.aload_n 0, 1) := by decide +kernel
theorem dl_26 : decode cL_law 26 = .ok (.arraylength, 1) := by decide +kernel
theorem dl_27 : decode cL_law 27 = .ok (.bipush 6, 2) := by decide +kernel
theorem dl_29 : decode cL_law 29 = .ok (.isub, 1) := by decide +kernel
theorem dl_30 : decode cL_law 30 = .ok (.if_icmp .gt 785, 3) := by decide +kernel
theorem dl_33 : decode cL_law 33 = .ok (.aload_n 0, 1) := by decide +kernel
theorem dl_34 : decode cL_law 34 = .ok (.iload 4, 2) := by decide +kernel
theorem dl_36 : decode cL_law 36 = .ok (.iaload, 1) := by decide +kernel
theorem dl_37 : decode cL_law 37 = .ok (.bipush 15, 2) := by decide +kernel
theorem dl_39 : decode cL_law 39 = .ok (.iand, 1) := by decide +kernel
theorem dl_40 : decode cL_law 40 = .ok (.tableswitch 769 0 15 #[80, 156, 184, 197, 210, 266, 306, 331, 368, 393, 461, 526, 578, 615, 640, 692], 80) := by decide +kernel
theorem dl_809 : decode cL_law 809 = .ok (.iinc 4 6, 3) := by decide +kernel
theorem dl_812 : decode cL_law 812 = .ok (.goto (-789), 3) := by decide +kernel
theorem dl_815 : decode cL_law 815 = .ok (.iconst 1, 1) := by decide +kernel
theorem dl_816 : decode cL_law 816 = .ok (.ireturn, 1) := by decide +kernel
section LWE
variable {p : Program} {l : Launch} {e : Env} {s : State} {m : MethodId} {below : List Frame} {meth : Method} {c : Code} {A : Nat → Prop} {b L : Nat} {xs : Nat → Int32} {D : va_G} {g : xe_G} {x m0 qo : Nat} {aO : ClassId} {q : Nat → Nat} {kr : rR} {Ic : rI} {Rc : rR}
theorem lq_max : ∀ a, a < 513 → a * (512 - a) ≤ 65536 := by decide +kernel
theorem lq_le {a j : Nat} (h : a ≤ j) (hj : j ≤ 512) : a * (j - a) ≤ 65536 := Nat.le_trans (Nat.mul_le_mul_left a (by omega)) (lq_max a (by omega))
theorem lq_feed {a j : Nat} : a * (j - a) ≤ (a + 1) * (j + 1 - (a + 1)) := by
  rw [show j + 1 - (a + 1) = j - a by omega]
  exact Nat.mul_le_mul_right _ (Nat.le_succ _)
theorem lq_other {a j : Nat} (h : a ≤ j) : a * (j + 1 - a) = a * (j - a) + a := by
  rw [show j + 1 - a = (j - a) + 1 by omega, Nat.mul_succ]
theorem vp_nI {a L : Nat} (h : a < L) (hL : L ≤ 3072) : vp_in (nI a) L := by
  unfold vp_in
  rintro (h1 | h1)
  · have h2 := Int32.lt_iff_toInt_lt.mp h1
    rw [nI_val (by omega)] at h2
    have h4 : (0 : Int32).toInt = 0 := rfl
    omega
  · rw [nI_toNat (by omega)] at h1
    omega

theorem lw_more {L j : Nat} (hL : L ≤ 3072) (hj : j ≤ 512) (h : ¬ nI (6 * j) > Int32.ofNat L - 6) : 6 * j + 6 ≤ L := by
  have h1 := Int32.le_iff_toInt_le.mp (Int32.not_lt.mp h)
  rw [nI_val (by omega)] at h1
  have e : (Int32.ofNat L - 6).toInt = (L : Int) - 6 := by
    rw [Int32.toInt_sub, Int32.toInt_ofNat_of_lt (by omega)]
    show ((L : Int) - 6).bmod (2 ^ 32) = _
    exact Int.bmod_eq_of_le (by omega) (by omega)
  rw [e] at h1
  omega
set_option maxHeartbeats 4000000 in
set_option maxRecDepth 100000 in
theorem law_loop (hx : p.tables.exec = Jvm.exec) (hb : c.code = cL_law) (hr : meth.sig.returnType = ret) (hml : c.maxLocals = 7) (hlocks : meth.locks = false) (hown : s.vm.findClass RL = some m.cls) (htb : ∀ w ∈ bg, w.before #[Value.ref b] s = true) (hAe : A = fun q : Nat => s.heap.size ≤ q) (hA : ∀ q : Nat, s.heap.size ≤ q → A q) (hE : xe_E g A s s.heap) (hnt : l.stackTraces = false) (hX : va_X b L xs s s.heap) (hbl : b < s.heap.size) (hbA : ¬ A b) (hKo : va_K D vwCl [(aO, .long)] s) (hAo : A qo) (hL : L ≤ 3072) : ∀ (n j : Nat) (cc : GH) (fed P : Nat) (fo : Nat → Int64) (H : Heap) (locs : List Loc) (ls : Array Slot) (cells slots : Nat), L ≤ 6 * (j + n) + 5 → fed ≤ j → j ≤ 512 → cells ≤ 100 + 30 * j + P → slots ≤ 900000 + 70 * j + P + 40 * (fed * (j - fed)) → L3 g D A s x m0 q kr Ic Rc qo aO mT1 cc cc fed P fo H → va_S A s.heap H locs → lv_has ls 7 [(0, .ref b), (1, .ref x), (2, .ref m0), (3, .ref qo), (4, .int (nI (6 * j)))] → W p l e room_1 s m #[Value.ref b] below meth c H locs cells slots (lw_Z below #[Value.ref b] s) (F0 m 23 ls []) := by
  intro n
  induction n with
  | zero =>
    intro j cc fed P fo H locs ls cells slots hn hf hj hc hs h3 hS hl
    have hq := lq_le hf hj
    have hpt := h3.pot
    refine lv_iload hx hb dl_23 (lv_at hl 4 rfl) ?_
    refine lv_aload_n hx hb dl_25 rfl (lv_at hl 0 rfl) ?_
    refine va_slen hx hb hX hbl hbA hS dl_26 ?_
    refine lv_bipush (v := 6) hx hb dl_27 (by decide) ?_
    refine lv_isub hx hb dl_29 ?_
    refine lv_icmp_gt (tgt := 815) hx hb dl_30 (by decide) (fun _ => ?_) (fun c30 => ?_)
    · refine lv_iconst (v := 1) hx hb dl_815 (by decide) ?_
      refine va_forget (fun q hq => by have h := hS.2.2 q hq; rw [hAe] at h; exact h) ?_
      refine W.widen (k := 601024) (n := 7293034) (by omega) (by omega) ?_
      exact lw_ret hx hb hr hlocks dl_816
    · have h6 : 6 * j + 6 ≤ L := lw_more hL hj c30
      omega
  | succ n ih =>
    intro j cc fed P fo H locs ls cells slots hn hf hj hc hs h3 hS hl
    have hq := lq_le hf hj
    have hpt := h3.pot
    refine lv_iload hx hb dl_23 (lv_at hl 4 rfl) ?_
    refine lv_aload_n hx hb dl_25 rfl (lv_at hl 0 rfl) ?_
    refine va_slen hx hb hX hbl hbA hS dl_26 ?_
    refine lv_bipush (v := 6) hx hb dl_27 (by decide) ?_
    refine lv_isub hx hb dl_29 ?_
    refine lv_icmp_gt (tgt := 815) hx hb dl_30 (by decide) (fun _ => ?_) (fun c30 => ?_)
    · refine lv_iconst (v := 1) hx hb dl_815 (by decide) ?_
      refine va_forget (fun q hq => by have h := hS.2.2 q hq; rw [hAe] at h; exact h) ?_
      refine W.widen (k := 601024) (n := 7293034) (by omega) (by omega) ?_
      exact lw_ret hx hb hr hlocks dl_816
    · have h6 : 6 * j + 6 ≤ L := lw_more hL hj c30
      have hi1 : vp_in (nI (6 * j) + 1) L := by rw [nI_plus (j := 1) rfl (by omega)]; exact vp_nI (by omega) hL
      have hi2 : vp_in (nI (6 * j) + 2) L := by rw [nI_plus (j := 2) rfl (by omega)]; exact vp_nI (by omega) hL
      have hi3 : vp_in (nI (6 * j) + 3) L := by rw [nI_plus (j := 3) rfl (by omega)]; exact vp_nI (by omega) hL
      have hi4 : vp_in (nI (6 * j) + 4) L := by rw [nI_plus (j := 4) rfl (by omega)]; exact vp_nI (by omega) hL
      have hi5 : vp_in (nI (6 * j) + 5) L := by rw [nI_plus (j := 5) rfl (by omega)]; exact vp_nI (by omega) hL
      refine lv_aload_n hx hb dl_33 rfl (lv_at hl 0 rfl) ?_
      refine lv_iload hx hb dl_34 (lv_at hl 4 rfl) ?_
      refine va_sld hx hb hX hbl hbA hS (vp_nI (by omega) hL) dl_36 ?_
      refine lv_bipush (v := 15) hx hb dl_37 (by decide) ?_
      refine lv_iand hx hb dl_39 ?_
      have go : ∀ (P1 : Nat) (cc1 : GH) (fed1 c1 s1 : Nat) (fo1 : Nat → Int64) (H1 : Heap) (locs1 : List Loc) (ls1 : Array Slot), fed1 ≤ j + 1 → c1 ≤ 100 + 30 * (j + 1) + P1 → s1 ≤ 900000 + 70 * (j + 1) + P1 + 40 * (fed1 * (j + 1 - fed1)) → L3 g D A s x m0 q kr Ic Rc qo aO mT1 cc1 cc1 fed1 P1 fo1 H1 → va_S A s.heap H1 locs1 → lv_has ls1 7 [(0, .ref b), (1, .ref x), (2, .ref m0), (3, .ref qo), (4, .int (nI (6 * j)))] → W p l e room_1 s m #[Value.ref b] below meth c H1 locs1 c1 s1 (lw_Z below #[Value.ref b] s) (F0 m 809 ls1 []) := by
        intro P1 cc1 fed1 c1 s1 fo1 H1 locs1 ls1 k1 k2 k3 k4 k5 hl
        refine lv_iinc (v := nI (6 * (j + 1))) (lv' := [(4, .int (nI (6 * (j + 1)))), (0, .ref b), (1, .ref x), (2, .ref m0), (3, .ref qo)]) hx hb dl_809 hl (k := 4) rfl (by rw [show 6 * (j + 1) = 6 * j + 6 by omega]; exact nI_plus (j := 6) rfl (by omega)) (by decide) rfl (fun ls hl => ?_)
        refine lv_goto (tgt := 23) hx hb dl_812 (by decide) ?_
        exact ih (j + 1) cc1 fed1 P1 fo1 H1 locs1 ls c1 s1 (by omega) k1 (by omega) k2 k3 k4 k5 (lv_sub hl [1, 2, 3, 4, 0] rfl)
      have gn : ∀ (P1 : Nat) (cc1 : GH) (fo1 : Nat → Int64) (H1 : Heap) (locs1 : List Loc) (ls1 : Array Slot), P ≤ P1 → L3 g D A s x m0 q kr Ic Rc qo aO mT1 cc1 cc1 fed P1 fo1 H1 → va_S A s.heap H1 locs1 → lv_has ls1 7 [(0, .ref b), (1, .ref x), (2, .ref m0), (3, .ref qo), (4, .int (nI (6 * j)))] → W p l e room_1 s m #[Value.ref b] below meth c H1 locs1 (cells + (P1 - P) + 26) (slots + (P1 - P) + (64 + 40 * fed)) (lw_Z below #[Value.ref b] s) (F0 m 809 ls1 []) := fun P1 cc1 fo1 H1 locs1 ls1 k1 k2 k3 k4 => go P1 cc1 fed _ _ fo1 H1 locs1 ls1 (by omega) (by omega) (by rw [lq_other hf]; omega) k2 k3 k4
      obtain ⟨jj, hjj, ej⟩ := pk_andE (xs (Int32.toNatClampNeg (nI (6 * j)))) (m := 15) 4 (by decide)
      refine lv_topi (fun x_40 ex_40 => ?_)
      rw [ej] at ex_40
      subst ex_40
      rcases (show jj = 0 ∨ jj = 1 ∨ jj = 2 ∨ jj = 3 ∨ jj = 4 ∨ jj = 5 ∨ jj = 6 ∨ jj = 7 ∨ jj = 8 ∨ jj = 9 ∨ jj = 10 ∨ jj = 11 ∨ jj = 12 ∨ jj = 13 ∨ jj = 14 ∨ jj = 15 by omega) with rfl | rfl | rfl | rfl | rfl | rfl | rfl | rfl | rfl | rfl | rfl | rfl | rfl | rfl | rfl | rfl
      · refine lv_tableIn (off := 80) (tgt := 120) hx hb dl_40 (by decide) (by decide) (by decide) (by decide) ?_
        exact law_0 hx hb hml hown htb hA hE hnt hX hbl hbA hKo hAo hi1 hi2 hi3 hi4 hi5 h3 (by omega) hS hl (by omega) (by omega) (fun P1 cc1 fo1 H1 locs1 ls1 k1 k2 k3 k4 => go P1 cc1 (fed + 1) _ _ fo1 H1 locs1 ls1 (by omega) (by omega) (by have := lq_feed (a := fed) (j := j); omega) k2 k3 k4)
      · refine lv_tableIn (off := 156) (tgt := 196) hx hb dl_40 (by decide) (by decide) (by decide) (by decide) ?_
        by_cases hbad : xs (Int32.toNatClampNeg (nI (6 * j) + 1)) < 0 ∨ ¬ xs (Int32.toNatClampNeg (nI (6 * j) + 1)) ≤ nI cc.1
        · exact law_1no hx hb hml hown htb hA hE hnt hX hbl hbA hKo hAo hi1 hi2 hi3 hi4 hi5 h3 hbad hS hl (by omega) (by omega) gn
        · exact law_1ok hx hb hml hown htb hA hE hnt hX hbl hbA hKo hAo hi1 hi2 hi3 hi4 hi5 h3 (fun h => hbad (Or.inl h)) (Decidable.not_not.mp (fun h => hbad (Or.inr h))) hS hl (by omega) (by omega) gn
      · refine lv_tableIn (off := 184) (tgt := 224) hx hb dl_40 (by decide) (by decide) (by decide) (by decide) ?_
        exact law_2 hx hb hml hown htb hA hE hnt hX hbl hbA hKo hAo hi1 hi2 hi3 hi4 hi5 h3 hS hl (by omega) (by omega) gn
      · refine lv_tableIn (off := 197) (tgt := 237) hx hb dl_40 (by decide) (by decide) (by decide) (by decide) ?_
        exact law_3 hx hb hml hown htb hA hE hnt hX hbl hbA hKo hAo hi1 hi2 hi3 hi4 hi5 h3 hS hl (by omega) (by omega) gn
      · refine lv_tableIn (off := 210) (tgt := 250) hx hb dl_40 (by decide) (by decide) (by decide) (by decide) ?_
        by_cases hbad : xs (Int32.toNatClampNeg (nI (6 * j) + 1)) < 0 ∨ ¬ xs (Int32.toNatClampNeg (nI (6 * j) + 1)) ≤ 15
        · exact law_4no hx hb hml hown htb hA hE hnt hX hbl hbA hKo hAo hi1 hi2 hi3 hi4 hi5 h3 hbad hS hl (by omega) (by omega) gn
        · exact law_4ok hx hb hml hown htb hA hE hnt hX hbl hbA hKo hAo hi1 hi2 hi3 hi4 hi5 h3 (fun h => hbad (Or.inl h)) (Decidable.not_not.mp (fun h => hbad (Or.inr h))) hS hl (by omega) (by omega) gn
      · refine lv_tableIn (off := 266) (tgt := 306) hx hb dl_40 (by decide) (by decide) (by decide) (by decide) ?_
        exact law_5 hx hb hml hown htb hA hE hnt hX hbl hbA hKo hAo hi1 hi2 hi3 hi4 hi5 h3 hS hl (by omega) (by omega) gn
      · refine lv_tableIn (off := 306) (tgt := 346) hx hb dl_40 (by decide) (by decide) (by decide) (by decide) ?_
        exact law_6 hx hb hml hown htb hA hE hnt hX hbl hbA hKo hAo hi1 hi2 hi3 hi4 hi5 h3 hS hl (by omega) (by omega) gn
      · refine lv_tableIn (off := 331) (tgt := 371) hx hb dl_40 (by decide) (by decide) (by decide) (by decide) ?_
        exact law_7 hx hb hml hown htb hA hE hnt hX hbl hbA hKo hAo hi1 hi2 hi3 hi4 hi5 h3 hS hl (by omega) (by omega) gn
      · refine lv_tableIn (off := 368) (tgt := 408) hx hb dl_40 (by decide) (by decide) (by decide) (by decide) ?_
        exact law_8 hx hb hml hown htb hA hE hnt hX hbl hbA hKo hAo hi1 hi2 hi3 hi4 hi5 h3 hS hl (by omega) (by omega) gn
      · refine lv_tableIn (off := 393) (tgt := 433) hx hb dl_40 (by decide) (by decide) (by decide) (by decide) ?_
        exact law_9 hx hb hml hown htb hA hE hnt hX hbl hbA hKo hAo hi1 hi2 hi3 hi4 hi5 h3 hS hl (by omega) (by omega) gn
      · refine lv_tableIn (off := 461) (tgt := 501) hx hb dl_40 (by decide) (by decide) (by decide) (by decide) ?_
        exact law_10 hx hb hml hown htb hA hE hnt hX hbl hbA hKo hAo hi1 hi2 hi3 hi4 hi5 h3 hS hl (by omega) (by omega) gn
      · refine lv_tableIn (off := 526) (tgt := 566) hx hb dl_40 (by decide) (by decide) (by decide) (by decide) ?_
        exact law_11 hx hb hml hown htb hA hE hnt hX hbl hbA hKo hAo hi1 hi2 hi3 hi4 hi5 h3 hS hl (by omega) (by omega) gn
      · refine lv_tableIn (off := 578) (tgt := 618) hx hb dl_40 (by decide) (by decide) (by decide) (by decide) ?_
        exact law_12 hx hb hml hown htb hA hE hnt hX hbl hbA hKo hAo hi1 hi2 hi3 hi4 hi5 h3 hS hl (by omega) (by omega) gn
      · refine lv_tableIn (off := 615) (tgt := 655) hx hb dl_40 (by decide) (by decide) (by decide) (by decide) ?_
        exact law_13 hx hb hml hown htb hA hE hnt hX hbl hbA hKo hAo hi1 hi2 hi3 hi4 hi5 h3 hS hl (by omega) (by omega) gn
      · refine lv_tableIn (off := 640) (tgt := 680) hx hb dl_40 (by decide) (by decide) (by decide) (by decide) ?_
        exact law_14 hx hb hml hown htb hA hE hnt hX hbl hbA hKo hAo hi1 hi2 hi3 hi4 hi5 h3 hS hl (by omega) (by omega) gn
      · refine lv_tableIn (off := 692) (tgt := 732) hx hb dl_40 (by decide) (by decide) (by decide) (by decide) ?_
        exact law_15 hx hb hml hown htb hA hE hnt hX hbl hbA hKo hAo hi1 hi2 hi3 hi4 hi5 h3 hS hl (by omega) (by omega) gn
end LWE
