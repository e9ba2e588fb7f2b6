/-! the reference: instructions (my own text) -/
section MIA6
def CK (n : Nat) (ca cl : Int32) (I : rI) (_ : rR) : Prop := I 77 = some ca ∧ I 78 = some cl ∧ 0 ≤ ca.toInt ∧ 0 ≤ cl.toInt ∧ ca.toInt + cl.toInt ≤ n
theorem CK.mono {n : Nat} {ca cl : Int32} {I I' : rI} {R R' : rR} (h : CK n ca cl I R) (hI : ∀ k, k ∈ [77, 78] → I' k = I k) (_ : ∀ k, k ∈ ([] : List Nat) → R' k = R k) : CK n ca cl I' R' :=
  ⟨(hI 77 (by decide)).trans h.1, (hI 78 (by decide)).trans h.2.1, h.2.2⟩
def mlens : List Nat := [1, 1, 1, 1, 1, 1, 1, 1, 1, 1, 1, 1, 1, 1, 1, 1, 2, 3, 2, 3, 3, 2, 2, 2, 2, 2, 1, 1, 1, 1, 1, 1, 1, 1, 1, 1, 1, 1, 1, 1, 1, 1, 1, 1, 1, 1, 1, 1, 1, 1, 1, 1, 1, 1, 2, 2, 2, 2, 2, 1, 1, 1, 1, 1, 1, 1, 1, 1, 1, 1, 1, 1, 1, 1, 1, 1, 1, 1, 1, 1, 1, 1, 1, 1, 1, 1, 1, 1, 1, 1, 1, 1, 1, 1, 1, 1, 1, 1, 1, 1, 1, 1, 1, 1, 1, 1, 1, 1, 1, 1, 1, 1, 1, 1, 1, 1, 1, 1, 1, 1, 1, 1, 1, 1, 1, 1, 1, 1, 1, 1, 1, 1, 3, 1, 1, 1, 1, 1, 1, 1, 1, 1, 1, 1, 1, 1, 1, 1, 1, 1, 1, 1, 1, 3, 3, 3, 3, 3, 3, 3, 3, 3, 3, 3, 3, 3, 3, 3, 3, 2, 1, 1, 1, 1, 1, 1, 1, 1, 3, 3, 3, 3, 3, 3, 3, 5, 5, 3, 2, 3, 1, 1, 3, 3, 1, 1, 4, 4, 3, 3, 5, 5]
def mlen (o : Nat) : Nat := mlens.getD o 0
def ILN (op : Int32) (nn : Int) : Prop := 0 ≤ op.toInt ∧ op.toInt ≤ 201 ∧ (mlen op.toInt.toNat : Int) ≤ nn
theorem iln {op : Int32} {nn : Int} (k : Nat) (h : ILN op nn) (a b : Nat) (ha : (a : Int) ≤ op.toInt) (hb : op.toInt ≤ b) (hk : ∀ o, o < 202 → a ≤ o → o ≤ b → k ≤ mlen o) : (k : Int) ≤ nn := by
  obtain ⟨h0, h1, h2⟩ := h
  have := hk op.toInt.toNat (by omega) (by omega) (by omega)
  omega
def pd (x : Int32) : Int32 := (x + 4) &&& (-4)
theorem pd_b {x : Int32} (h0 : 0 ≤ x.toInt) (h1 : x.toInt < 1000000) : x.toInt < (pd x).toInt ∧ (pd x).toInt ≤ x.toInt + 4 := by
  have e4 : (4 : Int32).toInt = 4 := rfl
  have hy : (x + 4).toInt = x.toInt + 4 := by rw [i_add (by omega) (by omega), e4]
  have h := pad4 (x := x + 4) (by omega) (by omega)
  have e : pd x = (((x + 4) &&& -4) + 4) - 4 := by
    show (x + 4) &&& -4 = _
    rw [Int32.add_sub_cancel]
  rw [e, i_sub (by omega) (by omega), e4]
  omega
def B4 (f : Nat → Int32) (ca p : Int32) : Int32 := Int64.toInt32 (f4 f (ca + p))
def S2 (f : Nat → Int32) (ca p : Int32) : Int32 := (f2 f (ca + p)).toInt16.toInt32
def SWF (f : Nat → Int32) (ca cl pc : Int32) : Prop :=
  (f1 f (ca + pc) = 170 → (pd pc).toInt + 12 ≤ cl.toInt ∧ (B4 f ca (pd pc + 4)).toInt ≤ (B4 f ca (pd pc + 8)).toInt ∧ (pd pc).toInt + 12 + 4 * ((B4 f ca (pd pc + 8)).toInt - (B4 f ca (pd pc + 4)).toInt + 1) ≤ cl.toInt) ∧
  (f1 f (ca + pc) = 171 → (pd pc).toInt + 8 ≤ cl.toInt ∧ 0 ≤ (B4 f ca (pd pc + 4)).toInt ∧ (pd pc).toInt + 8 + 8 * (B4 f ca (pd pc + 4)).toInt ≤ cl.toInt)
def wyf (f : Nat → Int32) (ca pc : Int32) : Int32 := 1 + (if f1 f (ca + pc) = 170 then B4 f ca (pd pc + 8) - B4 f ca (pd pc + 4) + 1 else B4 f ca (pd pc + 4))
def waf (f : Nat → Int32) (ca pc i : Int32) : Int32 := if i = 0 then pd pc else if f1 f (ca + pc) = 170 then pd pc + 8 + 4 * i else pd pc + 4 + 8 * i
theorem mul_k {k x : Int32} {a : Int} (hk : k.toInt = a) (h0 : 0 ≤ a) (h1 : a ≤ 8) (h2 : 0 ≤ x.toInt) (h3 : x.toInt ≤ 1000000) : (k * x).toInt = a * x.toInt := by
  have h4 : 0 ≤ a * x.toInt := Int.mul_nonneg h0 h2
  have h5 : a * x.toInt ≤ 8 * x.toInt := Int.mul_le_mul_of_nonneg_right h1 h2
  rw [i_mul (by rw [hk]; omega) (by rw [hk]; omega), hk]
theorem wyf_v {f : Nat → Int32} {ca cl pc : Int32} (hcl : cl.toInt ≤ 65540) (h0 : 0 ≤ pc.toInt) (h1 : pc.toInt < cl.toInt) (h : SWF f ca cl pc) : (f1 f (ca + pc) = 170 → (wyf f ca pc).toInt = (B4 f ca (pd pc + 8)).toInt - (B4 f ca (pd pc + 4)).toInt + 2) ∧ (f1 f (ca + pc) = 171 → (wyf f ca pc).toInt = (B4 f ca (pd pc + 4)).toInt + 1) := by
  have hp := pd_b h0 (by omega)
  have e1 : (1 : Int32).toInt = 1 := rfl
  refine ⟨fun e => ?_, fun e => ?_⟩
  · obtain ⟨a1, a2, a3⟩ := h.1 e
    have d1 : (B4 f ca (pd pc + 8) - B4 f ca (pd pc + 4)).toInt = (B4 f ca (pd pc + 8)).toInt - (B4 f ca (pd pc + 4)).toInt := i_sub (by omega) (by omega)
    have d2 : (B4 f ca (pd pc + 8) - B4 f ca (pd pc + 4) + 1).toInt = (B4 f ca (pd pc + 8)).toInt - (B4 f ca (pd pc + 4)).toInt + 1 := by rw [i_add (by omega) (by omega), d1, e1]
    rw [wyf, if_pos e, i_add (by omega) (by omega), d2, e1]
    omega
  · obtain ⟨a1, a2, a3⟩ := h.2 e
    rw [wyf, if_neg (by rw [e]; decide), i_add (by omega) (by omega), e1]
    omega
theorem waf_b {f : Nat → Int32} {ca cl pc i : Int32} (hcl : cl.toInt ≤ 65540) (h0 : 0 ≤ pc.toInt) (h1 : pc.toInt < cl.toInt) (h : SWF f ca cl pc) (ho : f1 f (ca + pc) = 170 ∨ f1 f (ca + pc) = 171) (i0 : 0 ≤ i.toInt) (i1 : i.toInt < (wyf f ca pc).toInt) : 0 ≤ (waf f ca pc i).toInt ∧ (waf f ca pc i).toInt + 4 ≤ cl.toInt := by
  have hp := pd_b h0 (by omega)
  have e4 : (4 : Int32).toInt = 4 := rfl
  have e8 : (8 : Int32).toInt = 8 := rfl
  unfold waf
  by_cases hi : i = 0
  · rw [if_pos hi]
    rcases ho with e | e
    · have := h.1 e
      omega
    · have := h.2 e
      omega
  · rw [if_neg hi]
    rcases ho with e | e
    · obtain ⟨a1, a2, a3⟩ := h.1 e
      have hw := (wyf_v hcl h0 h1 h).1 e
      have hm := mul_k (x := i) e4 (by omega) (by omega) i0 (by omega)
      have d8 : (pd pc + 8).toInt = (pd pc).toInt + 8 := by rw [i_add (by omega) (by omega), e8]
      rw [if_pos e, i_add (by omega) (by omega), d8, hm]
      omega
    · obtain ⟨a1, a2, a3⟩ := h.2 e
      have hw := (wyf_v hcl h0 h1 h).2 e
      have hm := mul_k (x := i) e8 (by omega) (by omega) i0 (by omega)
      have d8 : (pd pc + 4).toInt = (pd pc).toInt + 4 := by rw [i_add (by omega) (by omega), e4]
      rw [if_neg (by rw [e]; decide), i_add (by omega) (by omega), d8, hm]
      omega
def BRO (op : Int32) : Prop := (153 ≤ op.toInt ∧ op.toInt ≤ 168) ∨ op = 198 ∨ op = 199
/-- an instruction that is whole -/
def INS (f : Nat → Int32) (ca cl pc : Int32) : Prop := 0 ≤ pc.toInt ∧ ∃ nn : Int, 1 ≤ nn ∧ pc.toInt + nn ≤ cl.toInt ∧ ILN (f1 f (ca + pc)) nn ∧ (f1 f (ca + pc) = 196 → f1 f (ca + (pc + 1)) = 132 → 6 ≤ nn) ∧ (f1 f (ca + pc) = 170 ∨ f1 f (ca + pc) = 171 → SWF f ca cl pc)
/-- its targets lie in the code -/
def AIM (f : Nat → Int32) (ca cl pc : Int32) : Prop := (BRO (f1 f (ca + pc)) → 0 ≤ (pc + S2 f ca (pc + 1)).toInt ∧ (pc + S2 f ca (pc + 1)).toInt < cl.toInt) ∧
  (f1 f (ca + pc) = 200 ∨ f1 f (ca + pc) = 201 → 0 ≤ (pc + B4 f ca (pc + 1)).toInt ∧ (pc + B4 f ca (pc + 1)).toInt < cl.toInt) ∧
  (f1 f (ca + pc) = 170 ∨ f1 f (ca + pc) = 171 → ∀ i : Int32, 0 ≤ i.toInt → i.toInt < (wyf f ca pc).toInt → 0 ≤ (pc + B4 f ca (waf f ca pc i)).toInt ∧ (pc + B4 f ca (waf f ca pc i)).toInt < cl.toInt)
theorem BRO.no {op : Int32} (h : BRO op) (h' : op = 200 ∨ op = 201 ∨ op = 170 ∨ op = 171) : False := by
  rcases h' with rfl | rfl | rfl | rfl <;> (rcases h with h | h | h; (have : (200 : Int32).toInt = 200 := rfl; have : (201 : Int32).toInt = 201 := rfl; have : (170 : Int32).toInt = 170 := rfl; have : (171 : Int32).toInt = 171 := rfl; omega); exact absurd h (by decide); exact absurd h (by decide))
variable {f : Nat → Int32} {ca cl pc : Int32}
theorem AIM.br (hb : BRO (f1 f (ca + pc))) (h : 0 ≤ (Int32.toInt64 (pc + S2 f ca (pc + 1))).toInt ∧ (Int32.toInt64 (pc + S2 f ca (pc + 1))).toInt < cl.toInt) : AIM f ca cl pc := by
  rw [l_of] at h
  exact ⟨fun _ => h, fun e => (hb.no (e.elim Or.inl (fun e => Or.inr (Or.inl e)))).elim, fun e => (hb.no (Or.inr (Or.inr e))).elim⟩
theorem to_in {a b : Int32} (hcl : cl.toInt ≤ 65540) (h : 0 ≤ (Int32.toInt64 a + Int32.toInt64 b).toInt ∧ (Int32.toInt64 a + Int32.toInt64 b).toInt < cl.toInt) : 0 ≤ (a + b).toInt ∧ (a + b).toInt < cl.toInt := by
  have ha := Int32.le_toInt a
  have ha' := Int32.toInt_lt a
  have hb := Int32.le_toInt b
  have hb' := Int32.toInt_lt b
  rw [l_add (by rw [l_of, l_of]; omega) (by rw [l_of, l_of]; omega), l_of, l_of] at h
  rw [i_add (by omega) (by omega)]
  exact h
theorem AIM.wd (hcl : cl.toInt ≤ 65540) (hb : f1 f (ca + pc) = 200 ∨ f1 f (ca + pc) = 201) (h : 0 ≤ (Int32.toInt64 pc + Int32.toInt64 (B4 f ca (pc + 1))).toInt ∧ (Int32.toInt64 pc + Int32.toInt64 (B4 f ca (pc + 1))).toInt < cl.toInt) : AIM f ca cl pc :=
  ⟨fun e => (e.no (hb.elim Or.inl (fun e => Or.inr (Or.inl e)))).elim, fun _ => to_in hcl h, fun e => by rcases hb with b | b <;> rw [b] at e <;> exact absurd e (by decide)⟩
theorem AIM.sw (hb : f1 f (ca + pc) = 170 ∨ f1 f (ca + pc) = 171) (h : ∀ i : Int32, 0 ≤ i.toInt → i.toInt < (wyf f ca pc).toInt → 0 ≤ (pc + B4 f ca (waf f ca pc i)).toInt ∧ (pc + B4 f ca (waf f ca pc i)).toInt < cl.toInt) : AIM f ca cl pc :=
  ⟨fun e => (e.no (Or.inr (Or.inr hb))).elim, fun e => by rcases hb with b | b <;> rw [b] at e <;> exact absurd e (by decide), fun _ => h⟩
theorem AIM.no (h1 : ¬ BRO (f1 f (ca + pc))) (h2 : ¬ (f1 f (ca + pc) = 200 ∨ f1 f (ca + pc) = 201)) (h3 : ¬ (f1 f (ca + pc) = 170 ∨ f1 f (ca + pc) = 171)) : AIM f ca cl pc := ⟨fun e => absurd e h1, fun e => absurd e h2, fun e => absurd e h3⟩
theorem sw_l1 {hi lo : Int32} : ((4 : Int64) * (Int32.toInt64 hi - Int32.toInt64 lo + 1) + 12).toInt = 4 * (hi.toInt - lo.toInt + 1) + 12 := by
  have ha := Int32.le_toInt hi
  have ha' := Int32.toInt_lt hi
  have hb := Int32.le_toInt lo
  have hb' := Int32.toInt_lt lo
  have e1 : (1 : Int64).toInt = 1 := rfl
  have e4 : (4 : Int64).toInt = 4 := rfl
  have e12 : (12 : Int64).toInt = 12 := rfl
  have d1 : (Int32.toInt64 hi - Int32.toInt64 lo).toInt = hi.toInt - lo.toInt := by rw [l_sub (by rw [l_of, l_of]; omega) (by rw [l_of, l_of]; omega), l_of, l_of]
  have d2 : (Int32.toInt64 hi - Int32.toInt64 lo + 1).toInt = hi.toInt - lo.toInt + 1 := by rw [l_add (by omega) (by omega), d1, e1]
  have d3 : ((4 : Int64) * (Int32.toInt64 hi - Int32.toInt64 lo + 1)).toInt = 4 * (hi.toInt - lo.toInt + 1) := by rw [l_mul (by rw [e4, d2]; omega) (by rw [e4, d2]; omega), e4, d2]
  rw [l_add (by omega) (by omega), d3, e12]
theorem sw_l2 {np : Int32} : ((8 : Int64) * Int32.toInt64 np + 8).toInt = 8 * np.toInt + 8 := by
  have ha := Int32.le_toInt np
  have ha' := Int32.toInt_lt np
  have e8 : (8 : Int64).toInt = 8 := rfl
  have d1 : ((8 : Int64) * Int32.toInt64 np).toInt = 8 * np.toInt := by rw [l_mul (by rw [e8, l_of]; omega) (by rw [e8, l_of]; omega), e8, l_of]
  rw [l_add (by omega) (by omega), d1, e8]
theorem sw_l3 {p x : Int32} {n9 : Int64} (h0 : 0 ≤ x.toInt) (h1 : x.toInt < p.toInt) (h2 : p.toInt + n9.toInt ≤ 65540) (h3 : 8 ≤ n9.toInt) : 1 ≤ (Int64.toInt32 (Int32.toInt64 p + n9 - Int32.toInt64 x)).toInt ∧ (Int64.toInt32 (Int32.toInt64 p + n9 - Int32.toInt64 x)).toInt ≤ 65540 := by
  have d1 : (Int32.toInt64 p + n9).toInt = p.toInt + n9.toInt := by rw [l_add (by rw [l_of]; omega) (by rw [l_of]; omega), l_of]
  have d2 : (Int32.toInt64 p + n9 - Int32.toInt64 x).toInt = p.toInt + n9.toInt - x.toInt := by rw [l_sub (by rw [l_of]; omega) (by rw [l_of]; omega), l_of, d1]
  rw [i_of (by omega) (by omega), d2]
  omega
/-- what a form's length says -/
def FRM (f : Nat → Int32) (ca cl pc x : Int32) : Prop := (f1 f (ca + pc) = 196 → 4 ≤ x.toInt ∧ (f1 f (ca + (pc + 1)) = 132 → 6 ≤ x.toInt)) ∧ (f1 f (ca + pc) = 170 ∨ f1 f (ca + pc) = 171 → SWF f ca cl pc ∧ 1 ≤ x.toInt) ∧ x.toInt ≤ 65540
set_option maxRecDepth 50000 in
theorem mlk_3_153_168 : ∀ o, o < 202 → 153 ≤ o → o ≤ 168 → 3 ≤ mlen o := by decide
set_option maxRecDepth 50000 in
theorem mlk_3_198_198 : ∀ o, o < 202 → 198 ≤ o → o ≤ 198 → 3 ≤ mlen o := by decide
set_option maxRecDepth 50000 in
theorem mlk_3_199_199 : ∀ o, o < 202 → 199 ≤ o → o ≤ 199 → 3 ≤ mlen o := by decide
set_option maxRecDepth 50000 in
theorem mlk_5_200_200 : ∀ o, o < 202 → 200 ≤ o → o ≤ 200 → 5 ≤ mlen o := by decide
set_option maxRecDepth 50000 in
theorem mlk_5_201_201 : ∀ o, o < 202 → 201 ≤ o → o ≤ 201 → 5 ≤ mlen o := by decide
set_option maxRecDepth 50000 in
theorem mlk_2_169_169 : ∀ o, o < 202 → 169 ≤ o → o ≤ 169 → 2 ≤ mlen o := by decide
set_option maxRecDepth 50000 in
theorem mlk_2_21_25 : ∀ o, o < 202 → 21 ≤ o → o ≤ 25 → 2 ≤ mlen o := by decide
set_option maxRecDepth 50000 in
theorem mlk_2_54_58 : ∀ o, o < 202 → 54 ≤ o → o ≤ 58 → 2 ≤ mlen o := by decide
set_option maxRecDepth 50000 in
theorem mlk_3_132_132 : ∀ o, o < 202 → 132 ≤ o → o ≤ 132 → 3 ≤ mlen o := by decide
set_option maxRecDepth 50000 in
theorem mlk_4_196_196 : ∀ o, o < 202 → 196 ≤ o → o ≤ 196 → 4 ≤ mlen o := by decide
set_option maxRecDepth 50000 in
theorem mlk_2_188_188 : ∀ o, o < 202 → 188 ≤ o → o ≤ 188 → 2 ≤ mlen o := by decide
set_option maxRecDepth 50000 in
theorem mlk_2_18_18 : ∀ o, o < 202 → 18 ≤ o → o ≤ 18 → 2 ≤ mlen o := by decide
set_option maxRecDepth 50000 in
theorem mlk_3_19_20 : ∀ o, o < 202 → 19 ≤ o → o ≤ 20 → 3 ≤ mlen o := by decide
set_option maxRecDepth 50000 in
theorem mlk_3_178_181 : ∀ o, o < 202 → 178 ≤ o → o ≤ 181 → 3 ≤ mlen o := by decide
set_option maxRecDepth 50000 in
theorem mlk_3_182_184 : ∀ o, o < 202 → 182 ≤ o → o ≤ 184 → 3 ≤ mlen o := by decide
set_option maxRecDepth 50000 in
theorem mlk_5_185_185 : ∀ o, o < 202 → 185 ≤ o → o ≤ 185 → 5 ≤ mlen o := by decide
set_option maxRecDepth 50000 in
theorem mlk_3_182_185 : ∀ o, o < 202 → 182 ≤ o → o ≤ 185 → 3 ≤ mlen o := by decide
set_option maxRecDepth 50000 in
theorem mlk_5_186_186 : ∀ o, o < 202 → 186 ≤ o → o ≤ 186 → 5 ≤ mlen o := by decide
set_option maxRecDepth 50000 in
theorem mlk_3_187_187 : ∀ o, o < 202 → 187 ≤ o → o ≤ 187 → 3 ≤ mlen o := by decide
set_option maxRecDepth 50000 in
theorem mlk_3_189_189 : ∀ o, o < 202 → 189 ≤ o → o ≤ 189 → 3 ≤ mlen o := by decide
set_option maxRecDepth 50000 in
theorem mlk_3_192_193 : ∀ o, o < 202 → 192 ≤ o → o ≤ 193 → 3 ≤ mlen o := by decide
set_option maxRecDepth 50000 in
theorem mlk_3_192_192 : ∀ o, o < 202 → 192 ≤ o → o ≤ 192 → 3 ≤ mlen o := by decide
set_option maxRecDepth 50000 in
theorem mlk_3_193_193 : ∀ o, o < 202 → 193 ≤ o → o ≤ 193 → 3 ≤ mlen o := by decide
set_option maxRecDepth 50000 in
theorem mlk_4_197_197 : ∀ o, o < 202 → 197 ≤ o → o ≤ 197 → 4 ≤ mlen o := by decide
set_option maxRecDepth 50000 in
theorem mlk_2_16_16 : ∀ o, o < 202 → 16 ≤ o → o ≤ 16 → 2 ≤ mlen o := by decide
set_option maxRecDepth 50000 in
theorem mlk_3_17_17 : ∀ o, o < 202 → 17 ≤ o → o ≤ 17 → 3 ≤ mlen o := by decide
set_option maxRecDepth 50000 in
theorem mlk_3_178_187 : ∀ o, o < 202 → 178 ≤ o → o ≤ 187 → 3 ≤ mlen o := by decide
set_option maxRecDepth 50000 in
theorem mlk_3_19_19 : ∀ o, o < 202 → 19 ≤ o → o ≤ 19 → 3 ≤ mlen o := by decide
set_option maxRecDepth 50000 in
theorem mlk_3_20_20 : ∀ o, o < 202 → 20 ≤ o → o ≤ 20 → 3 ≤ mlen o := by decide
set_option maxRecDepth 50000 in
theorem mlk_1_0_201 : ∀ o, o < 202 → 0 ≤ o → o ≤ 201 → 1 ≤ mlen o := by decide
set_option maxRecDepth 50000 in
theorem mlk_2_132_132 : ∀ o, o < 202 → 132 ≤ o → o ≤ 132 → 2 ≤ mlen o := by decide
end MIA6
