/-! the class: its constructor (my own text) -/
section MIC1
theorem tq_init {g : xe_G} {M : mi_H} {x : Nat} (hx : M.1 x = some (ob 11 [.null, .int 0, .null, .null, .int 0])) (hxl : x < M.2.1) {d : Nat} (hd : 1 ≤ d) : mt (mT g) d 0 [.ref x] M (fun v M' => v = none ∧ M'.1 x = some (ob 11 [.ref M.2.1, .int 0, .ref g.1, .null, .int (-1)]) ∧ M'.1 M.2.1 = some (ar .byte 1024 (fun _ => 0)) ∧ (∀ a, a ≠ x → a ≠ M.2.1 → M'.1 a = M.1 a) ∧ M'.2 = (M.2.1 + 1, M.2.2 + 1024)) := by
  obtain ⟨d, rfl⟩ : ∃ e, d = e + 1 := ⟨d - 1, by omega⟩
  refine mt_in (b := mb_0 g) rfl rfl ?_
  have hne : x ≠ M.2.1 := by omega
  have h1 : (va_up M.1 M.2.1 (some (ar .byte 1024 (fun _ => 0)))) x = some (ob 11 [.null, .int 0, .null, .null, .int 0]) := by rw [va_up, if_neg hne]; exact hx
  refine ml_blk 5 (S' := (10, [(0, .ref x)], [.ref M.2.1, .ref x], (va_up M.1 M.2.1 (some (ar .byte 1024 (fun _ => 0))), M.2.1 + 1, M.2.2 + 1024))) rfl ?_
  have key : ∀ M1 : mi_H, M1.1 x = some (ob 11 [.null, .int 0, .null, .null, .int 0]) → ml (mT g) d (mb_0 g).2 (10, [(0, .ref x)], [.ref M.2.1, .ref x], M1) (fun v M' => v = none ∧ M' = up (up (up M1 x (ob 11 [.ref M.2.1, .int 0, .null, .null, .int 0])) x (ob 11 [.ref M.2.1, .int 0, .ref g.1, .null, .int 0])) x (ob 11 [.ref M.2.1, .int 0, .ref g.1, .null, .int (-1)])) := by
    intro M1 h1
    refine mo_put (l := [.null, .int 0, .null, .null, .int 0]) (S' := (13, [(0, .ref x)], [], up M1 x (ob 11 [.ref M.2.1, .int 0, .null, .null, .int 0]))) rfl h1 rfl (by decide) rfl ?_
    generalize hM2 : up M1 x (ob 11 [.ref M.2.1, .int 0, .null, .null, .int 0]) = M2
    have h2 : M2.1 x = some (ob 11 [.ref M.2.1, .int 0, .null, .null, .int 0]) := by rw [← hM2]; exact up_at
    refine ml_blk 2 (S' := (17, [(0, .ref x)], [.ref g.1, .ref x], M2)) rfl ?_
    refine mo_put (l := [.ref M.2.1, .int 0, .null, .null, .int 0]) (S' := (20, [(0, .ref x)], [], up M2 x (ob 11 [.ref M.2.1, .int 0, .ref g.1, .null, .int 0]))) rfl h2 rfl (by show 2 < 5; omega) rfl ?_
    generalize hM3 : up M2 x (ob 11 [.ref M.2.1, .int 0, .ref g.1, .null, .int 0]) = M3
    have h3 : M3.1 x = some (ob 11 [.ref M.2.1, .int 0, .ref g.1, .null, .int 0]) := by rw [← hM3]; exact up_at
    refine ml_blk 2 (S' := (22, [(0, .ref x)], [.int (-1), .ref x], M3)) rfl ?_
    refine mo_put (l := [.ref M.2.1, .int 0, .ref g.1, .null, .int 0]) (S' := (25, [(0, .ref x)], [], up M3 x (ob 11 [.ref M.2.1, .int 0, .ref g.1, .null, .int (-1)]))) rfl h3 rfl (by show 4 < 5; omega) rfl ?_
    exact ml_ret rfl rfl ⟨rfl, rfl⟩
  obtain ⟨r, hr, hv, hM⟩ := key (va_up M.1 M.2.1 (some (ar .byte 1024 (fun _ => 0))), M.2.1 + 1, M.2.2 + 1024) h1
  refine ⟨r, hr, hv, ?_, ?_, fun a ha hb => ?_, ?_⟩
  · rw [hM]
    exact up_at
  · rw [hM, up_ne (Ne.symm hne), up_ne (Ne.symm hne), up_ne (Ne.symm hne)]
    show va_up M.1 M.2.1 _ M.2.1 = _
    rw [va_up, if_pos rfl]
  · rw [hM, up_ne ha, up_ne ha, up_ne ha]
    show va_up M.1 M.2.1 _ a = _
    rw [va_up, if_neg hb]
  · rw [hM]
    rfl
end MIC1
