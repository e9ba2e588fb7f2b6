section MIO
def o_push (v : Value) (n : Nat) : mi_O := fun S => some (S.1 + n, S.2.1, v :: S.2.2.1, S.2.2.2)
theorem sm_iconst {g : xe_G} {own : String} {cc : ByteArray} {nL : Nat} {ini : Bool} {pc : Nat} {n : Int} {v : Int32} (hd : decode cc pc = .ok (.iconst n, 1)) (hv : Int32.ofInt n = v) : mi_ps g own cc nL ini pc (o_push (.int v) 1) := by
  intro lv st M S' h
  unfold o_push at h
  dsimp only at h
  cases h
  refine ⟨rfl, rfl, ?_⟩
  intro D p l e R s m args below meth c A Q H locs ls cells slots ws tys hc hr hl hS hR1 hR2 k
  obtain ⟨hx, hb, hml, hown, htb, hE, hini, hA, hK0, hfr, hlo⟩ := hc
  exact lv_iconst hx hb hd hv k
theorem sm_bipush {g : xe_G} {own : String} {cc : ByteArray} {nL : Nat} {ini : Bool} {pc : Nat} {n : Int} {v : Int32} (hd : decode cc pc = .ok (.bipush n, 2)) (hv : (Int8.ofInt n).toInt32 = v) : mi_ps g own cc nL ini pc (o_push (.int v) 2) := by
  intro lv st M S' h
  unfold o_push at h
  dsimp only at h
  cases h
  refine ⟨rfl, rfl, ?_⟩
  intro D p l e R s m args below meth c A Q H locs ls cells slots ws tys hc hr hl hS hR1 hR2 k
  obtain ⟨hx, hb, hml, hown, htb, hE, hini, hA, hK0, hfr, hlo⟩ := hc
  exact lv_bipush hx hb hd hv k
theorem sm_sipush {g : xe_G} {own : String} {cc : ByteArray} {nL : Nat} {ini : Bool} {pc : Nat} {n : Int} {v : Int32} (hd : decode cc pc = .ok (.sipush n, 3)) (hv : (Int16.ofInt n).toInt32 = v) : mi_ps g own cc nL ini pc (o_push (.int v) 3) := by
  intro lv st M S' h
  unfold o_push at h
  dsimp only at h
  cases h
  refine ⟨rfl, rfl, ?_⟩
  intro D p l e R s m args below meth c A Q H locs ls cells slots ws tys hc hr hl hS hR1 hR2 k
  obtain ⟨hx, hb, hml, hown, htb, hE, hini, hA, hK0, hfr, hlo⟩ := hc
  exact lv_sipush hx hb hd hv k
theorem sm_lconst {g : xe_G} {own : String} {cc : ByteArray} {nL : Nat} {ini : Bool} {pc : Nat} {n : Fin 2} {v : Int64} (hd : decode cc pc = .ok (.lconst n, 1)) (hv : Int64.ofNat (n : Nat) = v) : mi_ps g own cc nL ini pc (o_push (.long v) 1) := by
  intro lv st M S' h
  unfold o_push at h
  dsimp only at h
  cases h
  refine ⟨rfl, rfl, ?_⟩
  intro D p l e R s m args below meth c A Q H locs ls cells slots ws tys hc hr hl hS hR1 hR2 k
  obtain ⟨hx, hb, hml, hown, htb, hE, hini, hA, hK0, hfr, hlo⟩ := hc
  exact lv_lconst hx hb hd hv k
theorem sm_null {g : xe_G} {own : String} {cc : ByteArray} {nL : Nat} {ini : Bool} {pc : Nat} (hd : decode cc pc = .ok (.aconst_null, 1)) : mi_ps g own cc nL ini pc (o_push .null 1) := by
  intro lv st M S' h
  unfold o_push at h
  dsimp only at h
  cases h
  refine ⟨rfl, rfl, ?_⟩
  intro D p l e R s m args below meth c A Q H locs ls cells slots ws tys hc hr hl hS hR1 hR2 k
  obtain ⟨hx, hb, hml, hown, htb, hE, hini, hA, hK0, hfr, hlo⟩ := hc
  exact lv_null hx hb hd k
theorem sm_ldc {g : xe_G} {own : String} {cc : ByteArray} {nL : Nat} {ini : Bool} {pc : Nat} {i : Nat} {v : Int32} (hw : Cond.constant own i v ∈ bg) (hd : decode cc pc = .ok (.ldc i, 2)) : mi_ps g own cc nL ini pc (o_push (.int v) 2) := by
  intro lv st M S' h
  unfold o_push at h
  dsimp only at h
  cases h
  refine ⟨rfl, rfl, ?_⟩
  intro D p l e R s m args below meth c A Q H locs ls cells slots ws tys hc hr hl hS hR1 hR2 k
  obtain ⟨hx, hb, hml, hown, htb, hE, hini, hA, hK0, hfr, hlo⟩ := hc
  exact lv_ldc hx hb hown (htb _ hw) hd k
theorem sm_ldcw {g : xe_G} {own : String} {cc : ByteArray} {nL : Nat} {ini : Bool} {pc : Nat} {i : Nat} {v : Int32} (hw : Cond.constant own i v ∈ bg) (hd : decode cc pc = .ok (.ldc_w i, 3)) : mi_ps g own cc nL ini pc (o_push (.int v) 3) := by
  intro lv st M S' h
  unfold o_push at h
  dsimp only at h
  cases h
  refine ⟨rfl, rfl, ?_⟩
  intro D p l e R s m args below meth c A Q H locs ls cells slots ws tys hc hr hl hS hR1 hR2 k
  obtain ⟨hx, hb, hml, hown, htb, hE, hini, hA, hK0, hfr, hlo⟩ := hc
  exact lv_ldcw hx hb hown (htb _ hw) hd k
theorem sm_ldc2 {g : xe_G} {own : String} {cc : ByteArray} {nL : Nat} {ini : Bool} {pc : Nat} {i : Nat} {v : Int64} (hw : Cond.constantLong own i v ∈ bg) (hd : decode cc pc = .ok (.ldc2_w i, 3)) : mi_ps g own cc nL ini pc (o_push (.long v) 3) := by
  intro lv st M S' h
  unfold o_push at h
  dsimp only at h
  cases h
  refine ⟨rfl, rfl, ?_⟩
  intro D p l e R s m args below meth c A Q H locs ls cells slots ws tys hc hr hl hS hR1 hR2 k
  obtain ⟨hx, hb, hml, hown, htb, hE, hini, hA, hK0, hfr, hlo⟩ := hc
  exact lv_ldc2 hx hb hown (htb _ hw) hd k
def o_iload (i n : Nat) : mi_O := fun S => match mi_ld S.2.1 i with
  | some (.int x) => some (S.1 + n, S.2.1, .int x :: S.2.2.1, S.2.2.2)
  | _ => none
theorem sm_iload_n {g : xe_G} {own : String} {cc : ByteArray} {nL : Nat} {ini : Bool} {pc : Nat} {i : Nat} {k : Fin 4} (hd : decode cc pc = .ok (.iload_n k, 1)) (hi : (k : Nat) = i) : mi_ps g own cc nL ini pc (o_iload i 1) := by
  intro lv st M S' h
  unfold o_iload at h
  dsimp only at h
  split at h
  · cases h
    refine ⟨rfl, rfl, ?_⟩
    intro D p l e R s m args below meth c A Q H locs ls cells slots ws tys hc hr hl hS hR1 hR2 k
    obtain ⟨hx, hb, hml, hown, htb, hE, hini, hA, hK0, hfr, hlo⟩ := hc
    rename_i x h9
    exact lv_iload_n hx hb hd hi (mi_ld_has hl h9) k
  · cases h
theorem sm_iload {g : xe_G} {own : String} {cc : ByteArray} {nL : Nat} {ini : Bool} {pc : Nat} {i : Nat} (hd : decode cc pc = .ok (.iload i, 2)) : mi_ps g own cc nL ini pc (o_iload i 2) := by
  intro lv st M S' h
  unfold o_iload at h
  dsimp only at h
  split at h
  · cases h
    refine ⟨rfl, rfl, ?_⟩
    intro D p l e R s m args below meth c A Q H locs ls cells slots ws tys hc hr hl hS hR1 hR2 k
    obtain ⟨hx, hb, hml, hown, htb, hE, hini, hA, hK0, hfr, hlo⟩ := hc
    rename_i x h9
    exact lv_iload hx hb hd (mi_ld_has hl h9) k
  · cases h
def o_lload (i n : Nat) : mi_O := fun S => match mi_ld S.2.1 i with
  | some (.long x) => some (S.1 + n, S.2.1, .long x :: S.2.2.1, S.2.2.2)
  | _ => none
theorem sm_lload_n {g : xe_G} {own : String} {cc : ByteArray} {nL : Nat} {ini : Bool} {pc : Nat} {i : Nat} {k : Fin 4} (hd : decode cc pc = .ok (.lload_n k, 1)) (hi : (k : Nat) = i) : mi_ps g own cc nL ini pc (o_lload i 1) := by
  intro lv st M S' h
  unfold o_lload at h
  dsimp only at h
  split at h
  · cases h
    refine ⟨rfl, rfl, ?_⟩
    intro D p l e R s m args below meth c A Q H locs ls cells slots ws tys hc hr hl hS hR1 hR2 k
    obtain ⟨hx, hb, hml, hown, htb, hE, hini, hA, hK0, hfr, hlo⟩ := hc
    rename_i x h9
    exact lv_lload_n hx hb hd hi (mi_ld_has hl h9) k
  · cases h
theorem sm_lload {g : xe_G} {own : String} {cc : ByteArray} {nL : Nat} {ini : Bool} {pc : Nat} {i : Nat} (hd : decode cc pc = .ok (.lload i, 2)) : mi_ps g own cc nL ini pc (o_lload i 2) := by
  intro lv st M S' h
  unfold o_lload at h
  dsimp only at h
  split at h
  · cases h
    refine ⟨rfl, rfl, ?_⟩
    intro D p l e R s m args below meth c A Q H locs ls cells slots ws tys hc hr hl hS hR1 hR2 k
    obtain ⟨hx, hb, hml, hown, htb, hE, hini, hA, hK0, hfr, hlo⟩ := hc
    rename_i x h9
    exact lv_lload hx hb hd (mi_ld_has hl h9) k
  · cases h
def o_aload (i n : Nat) : mi_O := fun S => match mi_ld S.2.1 i with
  | some (.ref x) => some (S.1 + n, S.2.1, .ref x :: S.2.2.1, S.2.2.2)
  | some .null => some (S.1 + n, S.2.1, .null :: S.2.2.1, S.2.2.2)
  | _ => none
theorem sm_aload_n {g : xe_G} {own : String} {cc : ByteArray} {nL : Nat} {ini : Bool} {pc : Nat} {i : Nat} {k : Fin 4} (hd : decode cc pc = .ok (.aload_n k, 1)) (hi : (k : Nat) = i) : mi_ps g own cc nL ini pc (o_aload i 1) := by
  intro lv st M S' h
  unfold o_aload at h
  dsimp only at h
  split at h
  · cases h
    refine ⟨rfl, rfl, ?_⟩
    intro D p l e R s m args below meth c A Q H locs ls cells slots ws tys hc hr hl hS hR1 hR2 k
    obtain ⟨hx, hb, hml, hown, htb, hE, hini, hA, hK0, hfr, hlo⟩ := hc
    rename_i x h9
    exact lv_aload_n hx hb hd hi (mi_ld_has hl h9) k
  · cases h
    refine ⟨rfl, rfl, ?_⟩
    intro D p l e R s m args below meth c A Q H locs ls cells slots ws tys hc hr hl hS hR1 hR2 k
    obtain ⟨hx, hb, hml, hown, htb, hE, hini, hA, hK0, hfr, hlo⟩ := hc
    rename_i h9
    exact lv_aload_nN hx hb hd hi (mi_ld_has hl h9) k
  · cases h
theorem sm_aload {g : xe_G} {own : String} {cc : ByteArray} {nL : Nat} {ini : Bool} {pc : Nat} {i : Nat} (hd : decode cc pc = .ok (.aload i, 2)) : mi_ps g own cc nL ini pc (o_aload i 2) := by
  intro lv st M S' h
  unfold o_aload at h
  dsimp only at h
  split at h
  · cases h
    refine ⟨rfl, rfl, ?_⟩
    intro D p l e R s m args below meth c A Q H locs ls cells slots ws tys hc hr hl hS hR1 hR2 k
    obtain ⟨hx, hb, hml, hown, htb, hE, hini, hA, hK0, hfr, hlo⟩ := hc
    rename_i x h9
    exact lv_aload hx hb hd (mi_ld_has hl h9) k
  · cases h
    refine ⟨rfl, rfl, ?_⟩
    intro D p l e R s m args below meth c A Q H locs ls cells slots ws tys hc hr hl hS hR1 hR2 k
    obtain ⟨hx, hb, hml, hown, htb, hE, hini, hA, hK0, hfr, hlo⟩ := hc
    rename_i h9
    exact lv_aloadN hx hb hd (mi_ld_has hl h9) k
  · cases h
def o_bin (f : Int32 → Int32 → Int32) (n : Nat) : mi_O := fun S => match S.2.2.1 with
  | .int y :: .int x :: st => some (S.1 + n, S.2.1, .int (f x y) :: st, S.2.2.2)
  | _ => none
theorem sm_iadd {g : xe_G} {own : String} {cc : ByteArray} {nL : Nat} {ini : Bool} {pc : Nat} (hd : decode cc pc = .ok (.iadd, 1)) : mi_ps g own cc nL ini pc (o_bin (fun x y => x + y) 1) := by
  intro lv st M S' h
  unfold o_bin at h
  dsimp only at h
  split at h
  · cases h
    refine ⟨rfl, rfl, ?_⟩
    intro D p l e R s m args below meth c A Q H locs ls cells slots ws tys hc hr hl hS hR1 hR2 k
    obtain ⟨hx, hb, hml, hown, htb, hE, hini, hA, hK0, hfr, hlo⟩ := hc
    exact lv_iadd hx hb hd k
  · cases h
theorem sm_isub {g : xe_G} {own : String} {cc : ByteArray} {nL : Nat} {ini : Bool} {pc : Nat} (hd : decode cc pc = .ok (.isub, 1)) : mi_ps g own cc nL ini pc (o_bin (fun x y => x - y) 1) := by
  intro lv st M S' h
  unfold o_bin at h
  dsimp only at h
  split at h
  · cases h
    refine ⟨rfl, rfl, ?_⟩
    intro D p l e R s m args below meth c A Q H locs ls cells slots ws tys hc hr hl hS hR1 hR2 k
    obtain ⟨hx, hb, hml, hown, htb, hE, hini, hA, hK0, hfr, hlo⟩ := hc
    exact lv_isub hx hb hd k
  · cases h
theorem sm_imul {g : xe_G} {own : String} {cc : ByteArray} {nL : Nat} {ini : Bool} {pc : Nat} (hd : decode cc pc = .ok (.imul, 1)) : mi_ps g own cc nL ini pc (o_bin (fun x y => x * y) 1) := by
  intro lv st M S' h
  unfold o_bin at h
  dsimp only at h
  split at h
  · cases h
    refine ⟨rfl, rfl, ?_⟩
    intro D p l e R s m args below meth c A Q H locs ls cells slots ws tys hc hr hl hS hR1 hR2 k
    obtain ⟨hx, hb, hml, hown, htb, hE, hini, hA, hK0, hfr, hlo⟩ := hc
    exact lv_imul hx hb hd k
  · cases h
theorem sm_iand {g : xe_G} {own : String} {cc : ByteArray} {nL : Nat} {ini : Bool} {pc : Nat} (hd : decode cc pc = .ok (.iand, 1)) : mi_ps g own cc nL ini pc (o_bin (fun x y => x &&& y) 1) := by
  intro lv st M S' h
  unfold o_bin at h
  dsimp only at h
  split at h
  · cases h
    refine ⟨rfl, rfl, ?_⟩
    intro D p l e R s m args below meth c A Q H locs ls cells slots ws tys hc hr hl hS hR1 hR2 k
    obtain ⟨hx, hb, hml, hown, htb, hE, hini, hA, hK0, hfr, hlo⟩ := hc
    exact lv_iand hx hb hd k
  · cases h
theorem sm_ior {g : xe_G} {own : String} {cc : ByteArray} {nL : Nat} {ini : Bool} {pc : Nat} (hd : decode cc pc = .ok (.ior, 1)) : mi_ps g own cc nL ini pc (o_bin (fun x y => x ||| y) 1) := by
  intro lv st M S' h
  unfold o_bin at h
  dsimp only at h
  split at h
  · cases h
    refine ⟨rfl, rfl, ?_⟩
    intro D p l e R s m args below meth c A Q H locs ls cells slots ws tys hc hr hl hS hR1 hR2 k
    obtain ⟨hx, hb, hml, hown, htb, hE, hini, hA, hK0, hfr, hlo⟩ := hc
    exact lv_ior hx hb hd k
  · cases h
theorem sm_ixor {g : xe_G} {own : String} {cc : ByteArray} {nL : Nat} {ini : Bool} {pc : Nat} (hd : decode cc pc = .ok (.ixor, 1)) : mi_ps g own cc nL ini pc (o_bin (fun x y => x ^^^ y) 1) := by
  intro lv st M S' h
  unfold o_bin at h
  dsimp only at h
  split at h
  · cases h
    refine ⟨rfl, rfl, ?_⟩
    intro D p l e R s m args below meth c A Q H locs ls cells slots ws tys hc hr hl hS hR1 hR2 k
    obtain ⟨hx, hb, hml, hown, htb, hE, hini, hA, hK0, hfr, hlo⟩ := hc
    exact lv_ixor hx hb hd k
  · cases h
theorem sm_ishl {g : xe_G} {own : String} {cc : ByteArray} {nL : Nat} {ini : Bool} {pc : Nat} (hd : decode cc pc = .ok (.ishl, 1)) : mi_ps g own cc nL ini pc (o_bin (fun x y => x <<< (y &&& 31)) 1) := by
  intro lv st M S' h
  unfold o_bin at h
  dsimp only at h
  split at h
  · cases h
    refine ⟨rfl, rfl, ?_⟩
    intro D p l e R s m args below meth c A Q H locs ls cells slots ws tys hc hr hl hS hR1 hR2 k
    obtain ⟨hx, hb, hml, hown, htb, hE, hini, hA, hK0, hfr, hlo⟩ := hc
    exact lv_ishl hx hb hd k
  · cases h
theorem sm_ishr {g : xe_G} {own : String} {cc : ByteArray} {nL : Nat} {ini : Bool} {pc : Nat} (hd : decode cc pc = .ok (.ishr, 1)) : mi_ps g own cc nL ini pc (o_bin (fun x y => x >>> (y &&& 31)) 1) := by
  intro lv st M S' h
  unfold o_bin at h
  dsimp only at h
  split at h
  · cases h
    refine ⟨rfl, rfl, ?_⟩
    intro D p l e R s m args below meth c A Q H locs ls cells slots ws tys hc hr hl hS hR1 hR2 k
    obtain ⟨hx, hb, hml, hown, htb, hE, hini, hA, hK0, hfr, hlo⟩ := hc
    exact lv_ishr hx hb hd k
  · cases h
theorem sm_iushr {g : xe_G} {own : String} {cc : ByteArray} {nL : Nat} {ini : Bool} {pc : Nat} (hd : decode cc pc = .ok (.iushr, 1)) : mi_ps g own cc nL ini pc (o_bin (fun x y => (x.toUInt32 >>> (y.toUInt32 &&& Int32.toUInt32 31)).toInt32) 1) := by
  intro lv st M S' h
  unfold o_bin at h
  dsimp only at h
  split at h
  · cases h
    refine ⟨rfl, rfl, ?_⟩
    intro D p l e R s m args below meth c A Q H locs ls cells slots ws tys hc hr hl hS hR1 hR2 k
    obtain ⟨hx, hb, hml, hown, htb, hE, hini, hA, hK0, hfr, hlo⟩ := hc
    exact lv_iushr hx hb hd rfl k
  · cases h
def o_div (f : Int32 → Int32 → Int32) : mi_O := fun S => match S.2.2.1 with
  | .int y :: .int x :: st => if y = 0 then none else some (S.1 + 1, S.2.1, .int (f x y) :: st, S.2.2.2)
  | _ => none
theorem sm_idiv {g : xe_G} {own : String} {cc : ByteArray} {nL : Nat} {ini : Bool} {pc : Nat} (hd : decode cc pc = .ok (.idiv, 1)) : mi_ps g own cc nL ini pc (o_div (fun x y => x / y)) := by
  intro lv st M S' h
  unfold o_div at h
  dsimp only at h
  split at h
  · split at h
    · cases h
    · rename_i hy
      cases h
      refine ⟨rfl, rfl, ?_⟩
      intro D p l e R s m args below meth c A Q H locs ls cells slots ws tys hc hr hl hS hR1 hR2 k
      obtain ⟨hx, hb, hml, hown, htb, hE, hini, hA, hK0, hfr, hlo⟩ := hc
      exact lv_idiv hx hb hd hy k
  · cases h
theorem sm_irem {g : xe_G} {own : String} {cc : ByteArray} {nL : Nat} {ini : Bool} {pc : Nat} (hd : decode cc pc = .ok (.irem, 1)) : mi_ps g own cc nL ini pc (o_div (fun x y => x - x / y * y)) := by
  intro lv st M S' h
  unfold o_div at h
  dsimp only at h
  split at h
  · split at h
    · cases h
    · rename_i hy
      cases h
      refine ⟨rfl, rfl, ?_⟩
      intro D p l e R s m args below meth c A Q H locs ls cells slots ws tys hc hr hl hS hR1 hR2 k
      obtain ⟨hx, hb, hml, hown, htb, hE, hini, hA, hK0, hfr, hlo⟩ := hc
      exact lv_irem hx hb hd hy k
  · cases h
def o_mm (f : Int32 → Int32 → Int32) : mi_O := fun S => match S.2.2.1 with
  | .int y :: .int x :: st => if (st.map fun v => v.category).sum ≤ 8 then some (S.1 + 3, S.2.1, .int (f x y) :: st, S.2.2.2) else none
  | _ => none
theorem sm_mmin {g : xe_G} {own : String} {cc : ByteArray} {nL : Nat} {ini : Bool} {pc : Nat} {i : Nat} (h1 : Cond.methodLink own i Lib.Math.min.name ∈ bg) (h2 : Cond.static Lib.Math.min.name ∈ bg) (h3 : Cond.initialized "java/lang/Math" ∈ bg) (h4 : Cond.code Lib.Math.min.name Lib.Math.min.code 2 (some .int) ∈ bg) (hd : decode cc pc = .ok (.invokestatic i, 3)) : mi_ps g own cc nL ini pc (o_mm (fun x y => if y < x then y else x)) := by
  intro lv st M S' h
  unfold o_mm at h
  dsimp only at h
  split at h
  · split at h
    · rename_i hy
      cases h
      refine ⟨rfl, rfl, ?_⟩
      intro D p l e R s m args below meth c A Q H locs ls cells slots ws tys hc hr hl hS hR1 hR2 k
      obtain ⟨hx, hb, hml, hown, htb, hE, hini, hA, hK0, hfr, hlo⟩ := hc
      exact va_mmin hx hb (hml.trans hl.1.symm) hown (htb _ h1) (htb _ h2) (htb _ h3) (htb _ h4) (by omega) (by omega) hR1 hR2 hd k
    · cases h
  · cases h
theorem sm_mmax {g : xe_G} {own : String} {cc : ByteArray} {nL : Nat} {ini : Bool} {pc : Nat} {i : Nat} (h1 : Cond.methodLink own i Lib.Math.max.name ∈ bg) (h2 : Cond.static Lib.Math.max.name ∈ bg) (h3 : Cond.initialized "java/lang/Math" ∈ bg) (h4 : Cond.code Lib.Math.max.name Lib.Math.max.code 2 (some .int) ∈ bg) (hd : decode cc pc = .ok (.invokestatic i, 3)) : mi_ps g own cc nL ini pc (o_mm (fun x y => if x < y then y else x)) := by
  intro lv st M S' h
  unfold o_mm at h
  dsimp only at h
  split at h
  · split at h
    · rename_i hy
      cases h
      refine ⟨rfl, rfl, ?_⟩
      intro D p l e R s m args below meth c A Q H locs ls cells slots ws tys hc hr hl hS hR1 hR2 k
      obtain ⟨hx, hb, hml, hown, htb, hE, hini, hA, hK0, hfr, hlo⟩ := hc
      exact va_mmax hx hb (hml.trans hl.1.symm) hown (htb _ h1) (htb _ h2) (htb _ h3) (htb _ h4) (by omega) (by omega) hR1 hR2 hd k
    · cases h
  · cases h
def o_binL (f : Int64 → Int64 → Int64) : mi_O := fun S => match S.2.2.1 with
  | .long y :: .long x :: st => some (S.1 + 1, S.2.1, .long (f x y) :: st, S.2.2.2)
  | _ => none
theorem sm_ladd {g : xe_G} {own : String} {cc : ByteArray} {nL : Nat} {ini : Bool} {pc : Nat} (hd : decode cc pc = .ok (.ladd, 1)) : mi_ps g own cc nL ini pc (o_binL (fun x y => x + y)) := by
  intro lv st M S' h
  unfold o_binL at h
  dsimp only at h
  split at h
  · cases h
    refine ⟨rfl, rfl, ?_⟩
    intro D p l e R s m args below meth c A Q H locs ls cells slots ws tys hc hr hl hS hR1 hR2 k
    obtain ⟨hx, hb, hml, hown, htb, hE, hini, hA, hK0, hfr, hlo⟩ := hc
    exact lv_ladd hx hb hd k
  · cases h
theorem sm_lsub {g : xe_G} {own : String} {cc : ByteArray} {nL : Nat} {ini : Bool} {pc : Nat} (hd : decode cc pc = .ok (.lsub, 1)) : mi_ps g own cc nL ini pc (o_binL (fun x y => x - y)) := by
  intro lv st M S' h
  unfold o_binL at h
  dsimp only at h
  split at h
  · cases h
    refine ⟨rfl, rfl, ?_⟩
    intro D p l e R s m args below meth c A Q H locs ls cells slots ws tys hc hr hl hS hR1 hR2 k
    obtain ⟨hx, hb, hml, hown, htb, hE, hini, hA, hK0, hfr, hlo⟩ := hc
    exact lv_lsub hx hb hd k
  · cases h
theorem sm_lmul {g : xe_G} {own : String} {cc : ByteArray} {nL : Nat} {ini : Bool} {pc : Nat} (hd : decode cc pc = .ok (.lmul, 1)) : mi_ps g own cc nL ini pc (o_binL (fun x y => x * y)) := by
  intro lv st M S' h
  unfold o_binL at h
  dsimp only at h
  split at h
  · cases h
    refine ⟨rfl, rfl, ?_⟩
    intro D p l e R s m args below meth c A Q H locs ls cells slots ws tys hc hr hl hS hR1 hR2 k
    obtain ⟨hx, hb, hml, hown, htb, hE, hini, hA, hK0, hfr, hlo⟩ := hc
    exact lv_lmul hx hb hd k
  · cases h
theorem sm_land {g : xe_G} {own : String} {cc : ByteArray} {nL : Nat} {ini : Bool} {pc : Nat} (hd : decode cc pc = .ok (.land, 1)) : mi_ps g own cc nL ini pc (o_binL (fun x y => x &&& y)) := by
  intro lv st M S' h
  unfold o_binL at h
  dsimp only at h
  split at h
  · cases h
    refine ⟨rfl, rfl, ?_⟩
    intro D p l e R s m args below meth c A Q H locs ls cells slots ws tys hc hr hl hS hR1 hR2 k
    obtain ⟨hx, hb, hml, hown, htb, hE, hini, hA, hK0, hfr, hlo⟩ := hc
    exact lv_land hx hb hd k
  · cases h
theorem sm_lor {g : xe_G} {own : String} {cc : ByteArray} {nL : Nat} {ini : Bool} {pc : Nat} (hd : decode cc pc = .ok (.lor, 1)) : mi_ps g own cc nL ini pc (o_binL (fun x y => x ||| y)) := by
  intro lv st M S' h
  unfold o_binL at h
  dsimp only at h
  split at h
  · cases h
    refine ⟨rfl, rfl, ?_⟩
    intro D p l e R s m args below meth c A Q H locs ls cells slots ws tys hc hr hl hS hR1 hR2 k
    obtain ⟨hx, hb, hml, hown, htb, hE, hini, hA, hK0, hfr, hlo⟩ := hc
    exact lv_lor hx hb hd k
  · cases h
def o_lshl : mi_O := fun S => match S.2.2.1 with
  | .int y :: .long x :: st => some (S.1 + 1, S.2.1, .long (x <<< (y.toInt64 &&& 63)) :: st, S.2.2.2)
  | _ => none
theorem sm_lshl {g : xe_G} {own : String} {cc : ByteArray} {nL : Nat} {ini : Bool} {pc : Nat} (hd : decode cc pc = .ok (.lshl, 1)) : mi_ps g own cc nL ini pc o_lshl := by
  intro lv st M S' h
  unfold o_lshl at h
  dsimp only at h
  split at h
  · cases h
    refine ⟨rfl, rfl, ?_⟩
    intro D p l e R s m args below meth c A Q H locs ls cells slots ws tys hc hr hl hS hR1 hR2 k
    obtain ⟨hx, hb, hml, hown, htb, hE, hini, hA, hK0, hfr, hlo⟩ := hc
    exact lv_lshl hx hb hd rfl k
  · cases h
def o_lcmp : mi_O := fun S => match S.2.2.1 with
  | .long y :: .long x :: st => some (S.1 + 1, S.2.1, .int (lg_cmp x y) :: st, S.2.2.2)
  | _ => none
theorem sm_lcmp {g : xe_G} {own : String} {cc : ByteArray} {nL : Nat} {ini : Bool} {pc : Nat} (hd : decode cc pc = .ok (.lcmp, 1)) : mi_ps g own cc nL ini pc o_lcmp := by
  intro lv st M S' h
  unfold o_lcmp at h
  dsimp only at h
  split at h
  · cases h
    refine ⟨rfl, rfl, ?_⟩
    intro D p l e R s m args below meth c A Q H locs ls cells slots ws tys hc hr hl hS hR1 hR2 k
    obtain ⟨hx, hb, hml, hown, htb, hE, hini, hA, hK0, hfr, hlo⟩ := hc
    exact W.lcmp hx hb hd k
  · cases h
def o_un (f : Int32 → Int32) : mi_O := fun S => match S.2.2.1 with
  | .int x :: st => some (S.1 + 1, S.2.1, .int (f x) :: st, S.2.2.2)
  | _ => none
theorem sm_i2b {g : xe_G} {own : String} {cc : ByteArray} {nL : Nat} {ini : Bool} {pc : Nat} (hd : decode cc pc = .ok (.i2b, 1)) : mi_ps g own cc nL ini pc (o_un (fun x => x.toInt8.toInt32)) := by
  intro lv st M S' h
  unfold o_un at h
  dsimp only at h
  split at h
  · cases h
    refine ⟨rfl, rfl, ?_⟩
    intro D p l e R s m args below meth c A Q H locs ls cells slots ws tys hc hr hl hS hR1 hR2 k
    obtain ⟨hx, hb, hml, hown, htb, hE, hini, hA, hK0, hfr, hlo⟩ := hc
    exact lv_i2b hx hb hd rfl k
  · cases h
theorem sm_i2s {g : xe_G} {own : String} {cc : ByteArray} {nL : Nat} {ini : Bool} {pc : Nat} (hd : decode cc pc = .ok (.i2s, 1)) : mi_ps g own cc nL ini pc (o_un (fun x => x.toInt16.toInt32)) := by
  intro lv st M S' h
  unfold o_un at h
  dsimp only at h
  split at h
  · cases h
    refine ⟨rfl, rfl, ?_⟩
    intro D p l e R s m args below meth c A Q H locs ls cells slots ws tys hc hr hl hS hR1 hR2 k
    obtain ⟨hx, hb, hml, hown, htb, hE, hini, hA, hK0, hfr, hlo⟩ := hc
    exact lv_i2s hx hb hd rfl k
  · cases h
theorem sm_i2c {g : xe_G} {own : String} {cc : ByteArray} {nL : Nat} {ini : Bool} {pc : Nat} (hd : decode cc pc = .ok (.i2c, 1)) : mi_ps g own cc nL ini pc (o_un (fun x => (x.toUInt32 % 65536).toInt32)) := by
  intro lv st M S' h
  unfold o_un at h
  dsimp only at h
  split at h
  · cases h
    refine ⟨rfl, rfl, ?_⟩
    intro D p l e R s m args below meth c A Q H locs ls cells slots ws tys hc hr hl hS hR1 hR2 k
    obtain ⟨hx, hb, hml, hown, htb, hE, hini, hA, hK0, hfr, hlo⟩ := hc
    exact lv_i2c hx hb hd rfl k
  · cases h
def o_i2l : mi_O := fun S => match S.2.2.1 with
  | .int x :: st => some (S.1 + 1, S.2.1, .long x.toInt64 :: st, S.2.2.2)
  | _ => none
theorem sm_i2l {g : xe_G} {own : String} {cc : ByteArray} {nL : Nat} {ini : Bool} {pc : Nat} (hd : decode cc pc = .ok (.i2l, 1)) : mi_ps g own cc nL ini pc o_i2l := by
  intro lv st M S' h
  unfold o_i2l at h
  dsimp only at h
  split at h
  · cases h
    refine ⟨rfl, rfl, ?_⟩
    intro D p l e R s m args below meth c A Q H locs ls cells slots ws tys hc hr hl hS hR1 hR2 k
    obtain ⟨hx, hb, hml, hown, htb, hE, hini, hA, hK0, hfr, hlo⟩ := hc
    exact lv_i2l hx hb hd rfl k
  · cases h
def o_l2i : mi_O := fun S => match S.2.2.1 with
  | .long x :: st => some (S.1 + 1, S.2.1, .int x.toInt32 :: st, S.2.2.2)
  | _ => none
theorem sm_l2i {g : xe_G} {own : String} {cc : ByteArray} {nL : Nat} {ini : Bool} {pc : Nat} (hd : decode cc pc = .ok (.l2i, 1)) : mi_ps g own cc nL ini pc o_l2i := by
  intro lv st M S' h
  unfold o_l2i at h
  dsimp only at h
  split at h
  · cases h
    refine ⟨rfl, rfl, ?_⟩
    intro D p l e R s m args below meth c A Q H locs ls cells slots ws tys hc hr hl hS hR1 hR2 k
    obtain ⟨hx, hb, hml, hown, htb, hE, hini, hA, hK0, hfr, hlo⟩ := hc
    exact lv_l2i hx hb hd rfl k
  · cases h
def o_dup : mi_O := fun S => match S.2.2.1 with
  | v :: st => if v.category = 1 then some (S.1 + 1, S.2.1, v :: v :: st, S.2.2.2) else none
  | _ => none
def o_pop : mi_O := fun S => match S.2.2.1 with
  | v :: st => if v.category = 1 then some (S.1 + 1, S.2.1, st, S.2.2.2) else none
  | _ => none
def o_dup_x1 : mi_O := fun S => match S.2.2.1 with
  | v :: w :: st => if v.category = 1 ∧ w.category = 1 then some (S.1 + 1, S.2.1, v :: w :: v :: st, S.2.2.2) else none
  | _ => none
def o_dup2 : mi_O := fun S => match S.2.2.1 with
  | v :: w :: st => if v.category = 1 ∧ w.category = 1 then some (S.1 + 1, S.2.1, v :: w :: v :: w :: st, S.2.2.2) else none
  | _ => none
theorem sm_dup {g : xe_G} {own : String} {cc : ByteArray} {nL : Nat} {ini : Bool} {pc : Nat} (hd : decode cc pc = .ok (.dup, 1)) : mi_ps g own cc nL ini pc o_dup := by
  intro lv st M S' h
  unfold o_dup at h
  dsimp only at h
  split at h
  · split at h
    · rename_i hy
      cases h
      refine ⟨rfl, rfl, ?_⟩
      intro D p l e R s m args below meth c A Q H locs ls cells slots ws tys hc hr hl hS hR1 hR2 k
      obtain ⟨hx, hb, hml, hown, htb, hE, hini, hA, hK0, hfr, hlo⟩ := hc
      exact lv_dup hx hb hd hy k
    · cases h
  · cases h
theorem sm_pop {g : xe_G} {own : String} {cc : ByteArray} {nL : Nat} {ini : Bool} {pc : Nat} (hd : decode cc pc = .ok (.pop, 1)) : mi_ps g own cc nL ini pc o_pop := by
  intro lv st M S' h
  unfold o_pop at h
  dsimp only at h
  split at h
  · split at h
    · rename_i hy
      cases h
      refine ⟨rfl, rfl, ?_⟩
      intro D p l e R s m args below meth c A Q H locs ls cells slots ws tys hc hr hl hS hR1 hR2 k
      obtain ⟨hx, hb, hml, hown, htb, hE, hini, hA, hK0, hfr, hlo⟩ := hc
      exact lv_pop hx hb hd hy k
    · cases h
  · cases h
theorem sm_dup_x1 {g : xe_G} {own : String} {cc : ByteArray} {nL : Nat} {ini : Bool} {pc : Nat} (hd : decode cc pc = .ok (.dup_x1, 1)) : mi_ps g own cc nL ini pc o_dup_x1 := by
  intro lv st M S' h
  unfold o_dup_x1 at h
  dsimp only at h
  split at h
  · split at h
    · rename_i hy
      cases h
      refine ⟨rfl, rfl, ?_⟩
      intro D p l e R s m args below meth c A Q H locs ls cells slots ws tys hc hr hl hS hR1 hR2 k
      obtain ⟨hx, hb, hml, hown, htb, hE, hini, hA, hK0, hfr, hlo⟩ := hc
      exact lv_dup_x1 hx hb hd hy.1 hy.2 k
    · cases h
  · cases h
theorem sm_dup2 {g : xe_G} {own : String} {cc : ByteArray} {nL : Nat} {ini : Bool} {pc : Nat} (hd : decode cc pc = .ok (.dup2, 1)) : mi_ps g own cc nL ini pc o_dup2 := by
  intro lv st M S' h
  unfold o_dup2 at h
  dsimp only at h
  split at h
  · split at h
    · rename_i hy
      cases h
      refine ⟨rfl, rfl, ?_⟩
      intro D p l e R s m args below meth c A Q H locs ls cells slots ws tys hc hr hl hS hR1 hR2 k
      obtain ⟨hx, hb, hml, hown, htb, hE, hini, hA, hK0, hfr, hlo⟩ := hc
      exact lv_dup2_11 hx hb hd hy.1 hy.2 k
    · cases h
  · cases h
def o_if (f : Int32 → Bool) (t : Nat) : mi_O := fun S => match S.2.2.1 with
  | .int x :: st => some ((match f x with | true => t | false => S.1 + 3), S.2.1, st, S.2.2.2)
  | _ => none
def o_if2 (f : Int32 → Int32 → Bool) (t : Nat) : mi_O := fun S => match S.2.2.1 with
  | .int y :: .int x :: st => some ((match f x y with | true => t | false => S.1 + 3), S.2.1, st, S.2.2.2)
  | _ => none
theorem sm_if_eq {g : xe_G} {own : String} {cc : ByteArray} {nL : Nat} {ini : Bool} {pc : Nat} {off : Int} {t : Nat} (hd : decode cc pc = .ok (.ifCond .eq off, 3)) (ht : (pc : Int) + off = (t : Int)) : mi_ps g own cc nL ini pc (o_if (fun x => decide (x = 0)) t) := by
  intro lv st M S' h
  unfold o_if at h
  dsimp only at h
  split at h
  · cases h
    refine ⟨rfl, rfl, ?_⟩
    intro D p l e R s m args below meth c A Q H locs ls cells slots ws tys hc hr hl hS hR1 hR2 k
    obtain ⟨hx, hb, hml, hown, htb, hE, hini, hA, hK0, hfr, hlo⟩ := hc
    exact lv_if_eq hx hb hd ht (fun h9 => by simpa only [decide_eq_true h9] using k) (fun h9 => by simpa only [decide_eq_false h9] using k)
  · cases h
theorem sm_icmp_eq {g : xe_G} {own : String} {cc : ByteArray} {nL : Nat} {ini : Bool} {pc : Nat} {off : Int} {t : Nat} (hd : decode cc pc = .ok (.if_icmp .eq off, 3)) (ht : (pc : Int) + off = (t : Int)) : mi_ps g own cc nL ini pc (o_if2 (fun x y => decide (x = y)) t) := by
  intro lv st M S' h
  unfold o_if2 at h
  dsimp only at h
  split at h
  · cases h
    refine ⟨rfl, rfl, ?_⟩
    intro D p l e R s m args below meth c A Q H locs ls cells slots ws tys hc hr hl hS hR1 hR2 k
    obtain ⟨hx, hb, hml, hown, htb, hE, hini, hA, hK0, hfr, hlo⟩ := hc
    exact lv_icmp_eq hx hb hd ht (fun h9 => by simpa only [decide_eq_true h9] using k) (fun h9 => by simpa only [decide_eq_false h9] using k)
  · cases h
theorem sm_if_ne {g : xe_G} {own : String} {cc : ByteArray} {nL : Nat} {ini : Bool} {pc : Nat} {off : Int} {t : Nat} (hd : decode cc pc = .ok (.ifCond .ne off, 3)) (ht : (pc : Int) + off = (t : Int)) : mi_ps g own cc nL ini pc (o_if (fun x => decide (¬ x = 0)) t) := by
  intro lv st M S' h
  unfold o_if at h
  dsimp only at h
  split at h
  · cases h
    refine ⟨rfl, rfl, ?_⟩
    intro D p l e R s m args below meth c A Q H locs ls cells slots ws tys hc hr hl hS hR1 hR2 k
    obtain ⟨hx, hb, hml, hown, htb, hE, hini, hA, hK0, hfr, hlo⟩ := hc
    exact lv_if_ne hx hb hd ht (fun h9 => by simpa only [decide_eq_true h9] using k) (fun h9 => by simpa only [decide_eq_false (not_not_intro h9)] using k)
  · cases h
theorem sm_icmp_ne {g : xe_G} {own : String} {cc : ByteArray} {nL : Nat} {ini : Bool} {pc : Nat} {off : Int} {t : Nat} (hd : decode cc pc = .ok (.if_icmp .ne off, 3)) (ht : (pc : Int) + off = (t : Int)) : mi_ps g own cc nL ini pc (o_if2 (fun x y => decide (¬ x = y)) t) := by
  intro lv st M S' h
  unfold o_if2 at h
  dsimp only at h
  split at h
  · cases h
    refine ⟨rfl, rfl, ?_⟩
    intro D p l e R s m args below meth c A Q H locs ls cells slots ws tys hc hr hl hS hR1 hR2 k
    obtain ⟨hx, hb, hml, hown, htb, hE, hini, hA, hK0, hfr, hlo⟩ := hc
    exact lv_icmp_ne hx hb hd ht (fun h9 => by simpa only [decide_eq_true h9] using k) (fun h9 => by simpa only [decide_eq_false (not_not_intro h9)] using k)
  · cases h
theorem sm_if_lt {g : xe_G} {own : String} {cc : ByteArray} {nL : Nat} {ini : Bool} {pc : Nat} {off : Int} {t : Nat} (hd : decode cc pc = .ok (.ifCond .lt off, 3)) (ht : (pc : Int) + off = (t : Int)) : mi_ps g own cc nL ini pc (o_if (fun x => decide (x < 0)) t) := by
  intro lv st M S' h
  unfold o_if at h
  dsimp only at h
  split at h
  · cases h
    refine ⟨rfl, rfl, ?_⟩
    intro D p l e R s m args below meth c A Q H locs ls cells slots ws tys hc hr hl hS hR1 hR2 k
    obtain ⟨hx, hb, hml, hown, htb, hE, hini, hA, hK0, hfr, hlo⟩ := hc
    exact lv_if_lt hx hb hd ht (fun h9 => by simpa only [decide_eq_true h9] using k) (fun h9 => by simpa only [decide_eq_false h9] using k)
  · cases h
theorem sm_icmp_lt {g : xe_G} {own : String} {cc : ByteArray} {nL : Nat} {ini : Bool} {pc : Nat} {off : Int} {t : Nat} (hd : decode cc pc = .ok (.if_icmp .lt off, 3)) (ht : (pc : Int) + off = (t : Int)) : mi_ps g own cc nL ini pc (o_if2 (fun x y => decide (x < y)) t) := by
  intro lv st M S' h
  unfold o_if2 at h
  dsimp only at h
  split at h
  · cases h
    refine ⟨rfl, rfl, ?_⟩
    intro D p l e R s m args below meth c A Q H locs ls cells slots ws tys hc hr hl hS hR1 hR2 k
    obtain ⟨hx, hb, hml, hown, htb, hE, hini, hA, hK0, hfr, hlo⟩ := hc
    exact lv_icmp_lt hx hb hd ht (fun h9 => by simpa only [decide_eq_true h9] using k) (fun h9 => by simpa only [decide_eq_false h9] using k)
  · cases h
theorem sm_if_ge {g : xe_G} {own : String} {cc : ByteArray} {nL : Nat} {ini : Bool} {pc : Nat} {off : Int} {t : Nat} (hd : decode cc pc = .ok (.ifCond .ge off, 3)) (ht : (pc : Int) + off = (t : Int)) : mi_ps g own cc nL ini pc (o_if (fun x => decide (0 ≤ x)) t) := by
  intro lv st M S' h
  unfold o_if at h
  dsimp only at h
  split at h
  · cases h
    refine ⟨rfl, rfl, ?_⟩
    intro D p l e R s m args below meth c A Q H locs ls cells slots ws tys hc hr hl hS hR1 hR2 k
    obtain ⟨hx, hb, hml, hown, htb, hE, hini, hA, hK0, hfr, hlo⟩ := hc
    exact lv_if_ge hx hb hd ht (fun h9 => by simpa only [decide_eq_true h9] using k) (fun h9 => by simpa only [decide_eq_false h9] using k)
  · cases h
theorem sm_icmp_ge {g : xe_G} {own : String} {cc : ByteArray} {nL : Nat} {ini : Bool} {pc : Nat} {off : Int} {t : Nat} (hd : decode cc pc = .ok (.if_icmp .ge off, 3)) (ht : (pc : Int) + off = (t : Int)) : mi_ps g own cc nL ini pc (o_if2 (fun x y => decide (y ≤ x)) t) := by
  intro lv st M S' h
  unfold o_if2 at h
  dsimp only at h
  split at h
  · cases h
    refine ⟨rfl, rfl, ?_⟩
    intro D p l e R s m args below meth c A Q H locs ls cells slots ws tys hc hr hl hS hR1 hR2 k
    obtain ⟨hx, hb, hml, hown, htb, hE, hini, hA, hK0, hfr, hlo⟩ := hc
    exact lv_icmp_ge hx hb hd ht (fun h9 => by simpa only [decide_eq_true h9] using k) (fun h9 => by simpa only [decide_eq_false h9] using k)
  · cases h
theorem sm_if_gt {g : xe_G} {own : String} {cc : ByteArray} {nL : Nat} {ini : Bool} {pc : Nat} {off : Int} {t : Nat} (hd : decode cc pc = .ok (.ifCond .gt off, 3)) (ht : (pc : Int) + off = (t : Int)) : mi_ps g own cc nL ini pc (o_if (fun x => decide (0 < x)) t) := by
  intro lv st M S' h
  unfold o_if at h
  dsimp only at h
  split at h
  · cases h
    refine ⟨rfl, rfl, ?_⟩
    intro D p l e R s m args below meth c A Q H locs ls cells slots ws tys hc hr hl hS hR1 hR2 k
    obtain ⟨hx, hb, hml, hown, htb, hE, hini, hA, hK0, hfr, hlo⟩ := hc
    exact lv_if_gt hx hb hd ht (fun h9 => by simpa only [decide_eq_true h9] using k) (fun h9 => by simpa only [decide_eq_false h9] using k)
  · cases h
theorem sm_icmp_gt {g : xe_G} {own : String} {cc : ByteArray} {nL : Nat} {ini : Bool} {pc : Nat} {off : Int} {t : Nat} (hd : decode cc pc = .ok (.if_icmp .gt off, 3)) (ht : (pc : Int) + off = (t : Int)) : mi_ps g own cc nL ini pc (o_if2 (fun x y => decide (y < x)) t) := by
  intro lv st M S' h
  unfold o_if2 at h
  dsimp only at h
  split at h
  · cases h
    refine ⟨rfl, rfl, ?_⟩
    intro D p l e R s m args below meth c A Q H locs ls cells slots ws tys hc hr hl hS hR1 hR2 k
    obtain ⟨hx, hb, hml, hown, htb, hE, hini, hA, hK0, hfr, hlo⟩ := hc
    exact lv_icmp_gt hx hb hd ht (fun h9 => by simpa only [decide_eq_true h9] using k) (fun h9 => by simpa only [decide_eq_false h9] using k)
  · cases h
theorem sm_if_le {g : xe_G} {own : String} {cc : ByteArray} {nL : Nat} {ini : Bool} {pc : Nat} {off : Int} {t : Nat} (hd : decode cc pc = .ok (.ifCond .le off, 3)) (ht : (pc : Int) + off = (t : Int)) : mi_ps g own cc nL ini pc (o_if (fun x => decide (x ≤ 0)) t) := by
  intro lv st M S' h
  unfold o_if at h
  dsimp only at h
  split at h
  · cases h
    refine ⟨rfl, rfl, ?_⟩
    intro D p l e R s m args below meth c A Q H locs ls cells slots ws tys hc hr hl hS hR1 hR2 k
    obtain ⟨hx, hb, hml, hown, htb, hE, hini, hA, hK0, hfr, hlo⟩ := hc
    exact lv_if_le hx hb hd ht (fun h9 => by simpa only [decide_eq_true h9] using k) (fun h9 => by simpa only [decide_eq_false h9] using k)
  · cases h
theorem sm_icmp_le {g : xe_G} {own : String} {cc : ByteArray} {nL : Nat} {ini : Bool} {pc : Nat} {off : Int} {t : Nat} (hd : decode cc pc = .ok (.if_icmp .le off, 3)) (ht : (pc : Int) + off = (t : Int)) : mi_ps g own cc nL ini pc (o_if2 (fun x y => decide (x ≤ y)) t) := by
  intro lv st M S' h
  unfold o_if2 at h
  dsimp only at h
  split at h
  · cases h
    refine ⟨rfl, rfl, ?_⟩
    intro D p l e R s m args below meth c A Q H locs ls cells slots ws tys hc hr hl hS hR1 hR2 k
    obtain ⟨hx, hb, hml, hown, htb, hE, hini, hA, hK0, hfr, hlo⟩ := hc
    exact lv_icmp_le hx hb hd ht (fun h9 => by simpa only [decide_eq_true h9] using k) (fun h9 => by simpa only [decide_eq_false h9] using k)
  · cases h
def o_goto (t : Nat) : mi_O := fun S => some (t, S.2)
theorem sm_goto {g : xe_G} {own : String} {cc : ByteArray} {nL : Nat} {ini : Bool} {pc : Nat} {off : Int} {t : Nat} (hd : decode cc pc = .ok (.goto off, 3)) (ht : (pc : Int) + off = (t : Int)) : mi_ps g own cc nL ini pc (o_goto t) := by
  intro lv st M S' h
  cases h
  refine ⟨rfl, rfl, ?_⟩
  intro D p l e R s m args below meth c A Q H locs ls cells slots ws tys hc hr hl hS hR1 hR2 k
  obtain ⟨hx, hb, hml, hown, htb, hE, hini, hA, hK0, hfr, hlo⟩ := hc
  exact lv_goto hx hb hd ht k
def o_null (a b : Nat) : mi_O := fun S => match S.2.2.1 with
  | .ref _ :: st => some (a, S.2.1, st, S.2.2.2)
  | .null :: st => some (b, S.2.1, st, S.2.2.2)
  | _ => none
theorem sm_ifnull {g : xe_G} {own : String} {cc : ByteArray} {nL : Nat} {ini : Bool} {pc : Nat} {off : Int} {t : Nat} (hd : decode cc pc = .ok (.ifnull off, 3)) (ht : (pc : Int) + off = (t : Int)) : mi_ps g own cc nL ini pc (o_null (pc + 3) t) := by
  intro lv st M S' h
  unfold o_null at h
  dsimp only at h
  split at h
  · cases h
    refine ⟨rfl, rfl, ?_⟩
    intro D p l e R s m args below meth c A Q H locs ls cells slots ws tys hc hr hl hS hR1 hR2 k
    obtain ⟨hx, hb, hml, hown, htb, hE, hini, hA, hK0, hfr, hlo⟩ := hc
    exact lv_ifnull hx hb hd k
  · cases h
    refine ⟨rfl, rfl, ?_⟩
    intro D p l e R s m args below meth c A Q H locs ls cells slots ws tys hc hr hl hS hR1 hR2 k
    obtain ⟨hx, hb, hml, hown, htb, hE, hini, hA, hK0, hfr, hlo⟩ := hc
    exact lv_ifnullN hx hb hd ht k
  · cases h
theorem sm_ifnonnull {g : xe_G} {own : String} {cc : ByteArray} {nL : Nat} {ini : Bool} {pc : Nat} {off : Int} {t : Nat} (hd : decode cc pc = .ok (.ifnonnull off, 3)) (ht : (pc : Int) + off = (t : Int)) : mi_ps g own cc nL ini pc (o_null t (pc + 3)) := by
  intro lv st M S' h
  unfold o_null at h
  dsimp only at h
  split at h
  · cases h
    refine ⟨rfl, rfl, ?_⟩
    intro D p l e R s m args below meth c A Q H locs ls cells slots ws tys hc hr hl hS hR1 hR2 k
    obtain ⟨hx, hb, hml, hown, htb, hE, hini, hA, hK0, hfr, hlo⟩ := hc
    exact lv_ifnonnull hx hb hd ht k
  · cases h
    refine ⟨rfl, rfl, ?_⟩
    intro D p l e R s m args below meth c A Q H locs ls cells slots ws tys hc hr hl hS hR1 hR2 k
    obtain ⟨hx, hb, hml, hown, htb, hE, hini, hA, hK0, hfr, hlo⟩ := hc
    exact lv_ifnonnullN hx hb hd k
  · cases h
def mi_sw (ps : List (Int × Nat)) (dt : Nat) (x : Int32) : Nat := match ps.find? (fun q => q.1 == x.toInt) with
  | some q => q.2
  | none => dt
def o_sw (ps : List (Int × Nat)) (dt : Nat) : mi_O := fun S => match S.2.2.1 with
  | .int x :: st => some (mi_sw ps dt x, S.2.1, st, S.2.2.2)
  | _ => none
theorem mi_lkp : ∀ (ps : List (Int × Int)) (ts : List (Int × Nat)) (df : Int) (dt pc : Nat) (x : Int), (pc : Int) + df = (dt : Int) → ts.map (fun q => (q.1, (q.2 : Int))) = ps.map (fun q => (q.1, (pc : Int) + q.2)) → (pc : Int) + Op.lookupswitch.offset ps df x = ((match ts.find? (fun q => q.1 == x) with | some q => q.2 | none => dt : Nat) : Int)
  | [], [], df, dt, pc, x, h, _ => by simpa [Op.lookupswitch.offset] using h
  | [], _ :: _, _, _, _, _, _, h => by simp at h
  | _ :: _, [], _, _, _, _, _, h => by simp at h
  | p :: ps, t :: ts, df, dt, pc, x, h, hm => by
    simp only [List.map_cons, List.cons.injEq, Prod.mk.injEq] at hm
    obtain ⟨⟨h1, h2⟩, h3⟩ := hm
    obtain ⟨p1, p2⟩ := p
    rw [Op.lookupswitch.offset_cons]
    by_cases hx : x = p1
    · simp [h1, hx, h2]
    · have hx' : ¬ p1 = x := fun e => hx e.symm
      rw [if_neg (by first | exact hx | exact hx')]
      simp only [h1, List.find?_cons, show (p1 == x) = false from by simpa using hx']
      exact mi_lkp ps ts df dt pc x h h3
theorem sm_lookup {g : xe_G} {own : String} {cc : ByteArray} {nL : Nat} {ini : Bool} {pc : Nat} {df : Int} {ps : Array (Int × Int)} {len dt : Nat} {ts : List (Int × Nat)} (hd : decode cc pc = .ok (.lookupswitch df ps, len)) (hp : (ps.toList.zip (ps.toList.drop 1)).all (fun (a, next) => a.1 < next.1) = true) (ht : (pc : Int) + df = (dt : Int)) (hm : ts.map (fun q => (q.1, (q.2 : Int))) = ps.toList.map (fun q => (q.1, (pc : Int) + q.2))) : mi_ps g own cc nL ini pc (o_sw ts dt) := by
  intro lv st M S' h
  unfold o_sw at h
  dsimp only at h
  split at h
  · cases h
    refine ⟨rfl, rfl, ?_⟩
    intro D p l e R s m args below meth c A Q H locs ls cells slots ws tys hc hr hl hS hR1 hR2 k
    obtain ⟨hx, hb, hml, hown, htb, hE, hini, hA, hK0, hfr, hlo⟩ := hc
    rename_i x _
    exact lv_lookup hx hb hd hp rfl (mi_lkp _ ts df dt pc _ ht hm) k
  · cases h
theorem sm_table {g : xe_G} {own : String} {cc : ByteArray} {nL : Nat} {ini : Bool} {pc : Nat} {df lo hi : Int} {offs : Array Int} {len dt : Nat} {ts : List (Int × Nat)} (hd : decode cc pc = .ok (.tableswitch df lo hi offs, len)) (ht : (pc : Int) + df = (dt : Int)) (hm : ∀ q ∈ ts, lo ≤ q.1 ∧ q.1 ≤ hi ∧ (offs[(q.1 - lo).toNat]?).map (fun o => (pc : Int) + o) = some (q.2 : Int)) (hn : ts.map (fun q => q.1) = (List.range (hi + 1 - lo).toNat).map (fun (i : Nat) => lo + (i : Int))) : mi_ps g own cc nL ini pc (o_sw ts dt) := by
  intro lv st M S' h
  unfold o_sw at h
  dsimp only at h
  split at h
  · cases h
    refine ⟨rfl, rfl, ?_⟩
    intro D p l e R s m args below meth c A Q H locs ls cells slots ws tys hc hr hl hS hR1 hR2 k
    obtain ⟨hx, hb, hml, hown, htb, hE, hini, hA, hK0, hfr, hlo⟩ := hc
    rename_i x _
    dsimp only at k
    unfold mi_sw at k
    cases hf : ts.find? (fun q => q.1 == x.toInt) with
    | some q =>
      rw [hf] at k
      have h1 : q.1 = x.toInt := by simpa using List.find?_some hf
      obtain ⟨g1, g2, g3⟩ := hm q (List.mem_of_find?_eq_some hf)
      rw [h1] at g1 g2 g3
      cases ho : offs[(x.toInt - lo).toNat]? with
      | none => rw [ho] at g3; cases g3
      | some of9 =>
        rw [ho] at g3
        exact lv_tableIn hx hb hd (by omega) (by omega) ho (Option.some.inj g3) k
    | none =>
      rw [hf] at k
      refine lv_tableOut hx hb hd ?_ ht k
      by_cases h1 : x.toInt < lo
      · exact Or.inl h1
      · by_cases h2 : hi < x.toInt
        · exact Or.inr h2
        · exfalso
          have h3 : x.toInt ∈ ts.map (fun q => q.1) := by
            rw [hn]
            exact List.mem_map.mpr ⟨(x.toInt - lo).toNat, List.mem_range.mpr (by omega), by omega⟩
          obtain ⟨q, hq, hq1⟩ := List.mem_map.mp h3
          have := List.find?_eq_none.mp hf q hq
          simp [hq1] at this
  · cases h
def o_isto (i n : Nat) : mi_O := fun S => match S.2.2.1 with
  | .int x :: st => some (S.1 + n, (i, .int x) :: S.2.1.filter (fun q => !(q.1 == i) && !(q.1 + 1 == i && q.2.category == 2)), st, S.2.2.2)
  | _ => none
theorem sm_istore_n {g : xe_G} {own : String} {cc : ByteArray} {nL : Nat} {ini : Bool} {pc : Nat} {i : Nat} {k : Fin 4} (hd : decode cc pc = .ok (.istore_n k, 1)) (hk : (k : Nat) = i) (hi : i < nL) : mi_sim g own cc nL ini pc (o_isto i 1) := by
  intro lv st M S' h
  unfold o_isto at h
  dsimp only at h
  split at h
  · cases h
    refine ⟨⟨Nat.le_refl _, Nat.le_refl _⟩, ?_⟩
    intro D p l e R s m args below meth c A n0 s0 Q hc hn0 hs0 hR1 hR2 hW H locs ls ws tys hr hl hS
    obtain ⟨hx, hb, hml, hown, htb, hE, hini, hA, hK0, hfr, hlo⟩ := hc
    exact lv_istore_n hx hb hd hk hl hi rfl (fun ls hl => hW H locs ls ws tys hr hl hS)
  · cases h
theorem sm_istore {g : xe_G} {own : String} {cc : ByteArray} {nL : Nat} {ini : Bool} {pc : Nat} {i : Nat} (hd : decode cc pc = .ok (.istore i, 2)) (hi : i < nL) : mi_sim g own cc nL ini pc (o_isto i 2) := by
  intro lv st M S' h
  unfold o_isto at h
  dsimp only at h
  split at h
  · cases h
    refine ⟨⟨Nat.le_refl _, Nat.le_refl _⟩, ?_⟩
    intro D p l e R s m args below meth c A n0 s0 Q hc hn0 hs0 hR1 hR2 hW H locs ls ws tys hr hl hS
    obtain ⟨hx, hb, hml, hown, htb, hE, hini, hA, hK0, hfr, hlo⟩ := hc
    exact lv_istore hx hb hd hl hi rfl (fun ls hl => hW H locs ls ws tys hr hl hS)
  · cases h
def o_lsto (i n : Nat) : mi_O := fun S => match S.2.2.1 with
  | .long x :: st => some (S.1 + n, (i, .long x) :: S.2.1.filter (fun q => !(q.1 == i) && (!(q.1 == i + 1) && !(q.1 + 1 == i && q.2.category == 2))), st, S.2.2.2)
  | _ => none
theorem sm_lstore_n {g : xe_G} {own : String} {cc : ByteArray} {nL : Nat} {ini : Bool} {pc : Nat} {i : Nat} {k : Fin 4} (hd : decode cc pc = .ok (.lstore_n k, 1)) (hk : (k : Nat) = i) (hi : i + 1 < nL) : mi_sim g own cc nL ini pc (o_lsto i 1) := by
  intro lv st M S' h
  unfold o_lsto at h
  dsimp only at h
  split at h
  · cases h
    refine ⟨⟨Nat.le_refl _, Nat.le_refl _⟩, ?_⟩
    intro D p l e R s m args below meth c A n0 s0 Q hc hn0 hs0 hR1 hR2 hW H locs ls ws tys hr hl hS
    obtain ⟨hx, hb, hml, hown, htb, hE, hini, hA, hK0, hfr, hlo⟩ := hc
    exact lv_lstore_n hx hb hd hk hl hi rfl (fun ls hl => hW H locs ls ws tys hr hl hS)
  · cases h
theorem sm_lstore {g : xe_G} {own : String} {cc : ByteArray} {nL : Nat} {ini : Bool} {pc : Nat} {i : Nat} (hd : decode cc pc = .ok (.lstore i, 2)) (hi : i + 1 < nL) : mi_sim g own cc nL ini pc (o_lsto i 2) := by
  intro lv st M S' h
  unfold o_lsto at h
  dsimp only at h
  split at h
  · cases h
    refine ⟨⟨Nat.le_refl _, Nat.le_refl _⟩, ?_⟩
    intro D p l e R s m args below meth c A n0 s0 Q hc hn0 hs0 hR1 hR2 hW H locs ls ws tys hr hl hS
    obtain ⟨hx, hb, hml, hown, htb, hE, hini, hA, hK0, hfr, hlo⟩ := hc
    exact lv_lstore hx hb hd hl hi rfl (fun ls hl => hW H locs ls ws tys hr hl hS)
  · cases h
def o_asto (i n : Nat) : mi_O := fun S => match S.2.2.1 with
  | .ref x :: st => some (S.1 + n, (i, .ref x) :: S.2.1.filter (fun q => !(q.1 == i) && !(q.1 + 1 == i && q.2.category == 2)), st, S.2.2.2)
  | .null :: st => some (S.1 + n, (i, .null) :: S.2.1.filter (fun q => !(q.1 == i) && !(q.1 + 1 == i && q.2.category == 2)), st, S.2.2.2)
  | _ => none
theorem sm_astore_n {g : xe_G} {own : String} {cc : ByteArray} {nL : Nat} {ini : Bool} {pc : Nat} {i : Nat} {k : Fin 4} (hd : decode cc pc = .ok (.astore_n k, 1)) (hk : (k : Nat) = i) (hi : i < nL) : mi_sim g own cc nL ini pc (o_asto i 1) := by
  intro lv st M S' h
  unfold o_asto at h
  dsimp only at h
  split at h
  · cases h
    refine ⟨⟨Nat.le_refl _, Nat.le_refl _⟩, ?_⟩
    intro D p l e R s m args below meth c A n0 s0 Q hc hn0 hs0 hR1 hR2 hW H locs ls ws tys hr hl hS
    obtain ⟨hx, hb, hml, hown, htb, hE, hini, hA, hK0, hfr, hlo⟩ := hc
    exact lv_astore_n hx hb hd hk hl hi rfl (fun ls hl => hW H locs ls ws tys hr hl hS)
  · cases h
    refine ⟨⟨Nat.le_refl _, Nat.le_refl _⟩, ?_⟩
    intro D p l e R s m args below meth c A n0 s0 Q hc hn0 hs0 hR1 hR2 hW H locs ls ws tys hr hl hS
    obtain ⟨hx, hb, hml, hown, htb, hE, hini, hA, hK0, hfr, hlo⟩ := hc
    exact lv_astore_nN hx hb hd hk hl hi rfl (fun ls hl => hW H locs ls ws tys hr hl hS)
  · cases h
theorem sm_astore {g : xe_G} {own : String} {cc : ByteArray} {nL : Nat} {ini : Bool} {pc : Nat} {i : Nat} (hd : decode cc pc = .ok (.astore i, 2)) (hi : i < nL) : mi_sim g own cc nL ini pc (o_asto i 2) := by
  intro lv st M S' h
  unfold o_asto at h
  dsimp only at h
  split at h
  · cases h
    refine ⟨⟨Nat.le_refl _, Nat.le_refl _⟩, ?_⟩
    intro D p l e R s m args below meth c A n0 s0 Q hc hn0 hs0 hR1 hR2 hW H locs ls ws tys hr hl hS
    obtain ⟨hx, hb, hml, hown, htb, hE, hini, hA, hK0, hfr, hlo⟩ := hc
    exact lv_astore hx hb hd hl hi rfl (fun ls hl => hW H locs ls ws tys hr hl hS)
  · cases h
    refine ⟨⟨Nat.le_refl _, Nat.le_refl _⟩, ?_⟩
    intro D p l e R s m args below meth c A n0 s0 Q hc hn0 hs0 hR1 hR2 hW H locs ls ws tys hr hl hS
    obtain ⟨hx, hb, hml, hown, htb, hE, hini, hA, hK0, hfr, hlo⟩ := hc
    exact lv_astoreN hx hb hd hl hi rfl (fun ls hl => hW H locs ls ws tys hr hl hS)
  · cases h
def o_iinc (i : Nat) (n : Int32) : mi_O := fun S => match mi_ld S.2.1 i with
  | some (.int x) => some (S.1 + 3, (i, .int (x + n)) :: S.2.1.filter (fun q => !(q.1 == i) && !(q.1 + 1 == i && q.2.category == 2)), S.2.2)
  | _ => none
theorem mi_ld_at {lv : List (Nat × Value)} {i : Nat} {v : Value} (h : mi_ld lv i = some v) : ∃ k : Nat, lv[k]? = some (i, v) := by
  unfold mi_ld at h
  cases hf : lv.find? (fun q => q.1 == i) with
  | none => rw [hf] at h; cases h
  | some q =>
    rw [hf] at h
    have h3 : q.1 = i := by simpa using List.find?_some hf
    cases h
    obtain ⟨k, hk⟩ := List.getElem?_of_mem (List.mem_of_find?_eq_some hf)
    exact ⟨k, by rw [hk, ← h3]⟩
theorem sm_iinc {g : xe_G} {own : String} {cc : ByteArray} {nL : Nat} {ini : Bool} {pc : Nat} {i : Nat} {n : Int} {v : Int32} (hd : decode cc pc = .ok (.iinc i n, 3)) (hv : Int32.ofInt n = v) (hi : i < nL) : mi_sim g own cc nL ini pc (o_iinc i v) := by
  intro lv st M S' h
  subst hv
  unfold o_iinc at h
  dsimp only at h
  split at h
  · rename_i x h9
    cases h
    refine ⟨⟨Nat.le_refl _, Nat.le_refl _⟩, ?_⟩
    intro D p l e R s m args below meth c A n0 s0 Q hc hn0 hs0 hR1 hR2 hW H locs ls ws tys hr hl hS
    obtain ⟨hx, hb, hml, hown, htb, hE, hini, hA, hK0, hfr, hlo⟩ := hc
    obtain ⟨k9, hk9⟩ := mi_ld_at h9
    exact lv_iinc hx hb hd hl hk9 rfl hi rfl (fun ls hl => hW H locs ls ws tys hr hl hS)
  · cases h
end MIO
