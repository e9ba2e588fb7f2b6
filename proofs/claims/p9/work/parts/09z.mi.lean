/-! returns, calls, the whole machine -/
section MIZ
def r_int (chk : Int32 → Bool) : List Value → Option (Option Value) := fun st => match st with
  | [.int v] => if chk v = true then some (some (.int v)) else none
  | _ => none
def r_long : List Value → Option (Option Value) := fun st => match st with
  | [.long v] => some (some (.long v))
  | _ => none
def r_ref : List Value → Option (Option Value) := fun st => match st with
  | [.ref a] => some (some (.ref a))
  | [.null] => some (some .null)
  | _ => none
def r_void : List Value → Option (Option Value) := fun st => match st with
  | [] => some none
  | _ => none
def mi_simr (cc : ByteArray) (ret : Option FieldType) (pc : Nat) (f : List Value → Option (Option Value)) : Prop :=
  ∀ st v, f st = some v → ∀ (p : Program) (l : Launch) (e : Env) (R : Room) (s : State) (m : MethodId) (args : Array Value) (below : List Frame) (meth : Method) (c : Code) (H : Heap) (locs : List Loc) (ls : Array Slot) (cells slots : Nat) (Qc : Array Value → State → Outcome → State → Prop) (free : Addr → Prop),
    p.tables.exec = Jvm.exec → c.code = cc → meth.sig.returnType = ret → meth.locks = false → (∀ t : State, t.heap = H → s.WarmedH t.vm → Qc args s (.returned v) t) → (∀ q ∈ locs, free q.base) →
    W p l e R s m args below meth c H locs cells slots (MQ below Qc args s cells slots free) (F0 m pc ls st)
theorem sr_int {cc : ByteArray} {pc : Nat} (hd : decode cc pc = .ok (.ireturn, 1)) : mi_simr cc (some .int) pc (r_int (fun _ => true)) := by
  intro st v h p l e R s m args below meth c H locs ls cells slots Qc free hx hb hr hlk hq hf
  unfold r_int at h
  split at h
  · cases h
    exact W.iret hx hb hr hq hf hd hlk
  · cases h
theorem sr_nar {cc : ByteArray} {pc : Nat} {ty : FieldType} {chk : Int32 → Bool} (hn : ∀ v, chk v = true → narrow ty (.int v) = .int v) (hd : decode cc pc = .ok (.ireturn, 1)) : mi_simr cc (some ty) pc (r_int chk) := by
  intro st v h p l e R s m args below meth c H locs ls cells slots Qc free hx hb hr hlk hq hf
  unfold r_int at h
  split at h
  · split at h
    · rename_i hc
      cases h
      exact W.zret hx hb hr (hn _ hc) hq hf hd hlk
    · cases h
  · cases h
theorem sr_long {cc : ByteArray} {pc : Nat} (hd : decode cc pc = .ok (.lreturn, 1)) : mi_simr cc (some .long) pc r_long := by
  intro st v h p l e R s m args below meth c H locs ls cells slots Qc free hx hb hr hlk hq hf
  unfold r_long at h
  split at h
  · cases h
    exact W.lret hx hb hr hq hf hd hlk
  · cases h
theorem sr_ref {cc : ByteArray} {pc : Nat} {rt : FieldType} (hrt : (∃ n, rt = .object n) ∨ ∃ t, rt = .array t) (hd : decode cc pc = .ok (.areturn, 1)) : mi_simr cc (some rt) pc r_ref := by
  intro st v h p l e R s m args below meth c H locs ls cells slots Qc free hx hb hr hlk hq hf
  unfold r_ref at h
  split at h
  · cases h
    exact W.aret hx hb hr hrt (Or.inr ⟨_, rfl⟩) hq hf hd hlk
  · cases h
    exact W.aret hx hb hr hrt (Or.inl rfl) hq hf hd hlk
  · cases h
theorem sr_void {cc : ByteArray} {pc : Nat} (hd : decode cc pc = .ok (.return_, 1)) : mi_simr cc none pc r_void := by
  intro st v h p l e R s m args below meth c H locs ls cells slots Qc free hx hb hr hlk hq hf
  unfold r_void at h
  split at h
  · cases h
    exact W.vret hx hb hr hq hf hd hlk
  · cases h
/-- a method: its name, its bytes, its locals, what it answers -/
abbrev mi_I : Type := MethodName × ByteArray × Nat × Option FieldType
def mi_hd (y : MethodName) (n : Nat) : Prop := y.cls ≠ "java/lang/invoke/MethodHandle" ∧ y.cls ≠ "java/lang/invoke/VarHandle" ∧ (parseMethodDescriptor y.desc).map (fun d => d.parameters.length) = some n
def mi_cal (own : String) (cc : ByteArray) (pc : Nat) (q : mi_I) (na : Nat) (k : Option Nat) : Prop :=
  q.2.2.1 ≤ 21 ∧ Cond.initialized q.1.cls ∈ bg ∧ Cond.code q.1 q.2.1 q.2.2.1 q.2.2.2 ∈ bg ∧ ∃ i n, mi_hd q.1 n ∧ Cond.methodLink own i q.1 ∈ bg ∧
    ((decode cc pc = .ok (.invokestatic i, 3) ∧ k = none ∧ na = n ∧ Cond.static q.1 ∈ bg) ∨
     (na = n + 1 ∧ Cond.instanceMethod q.1 ∈ bg ∧ ∃ ci r, k = some ci ∧ ci < 100 ∧ vwCl[ci]? = some r ∧
       ((decode cc pc = .ok (.invokevirtual i, 3) ∧ Cond.selects r.1 q.1 q.1 ∈ bg) ∨ (decode cc pc = .ok (.invokespecial i, 3) ∧ q.1.name = "<init>" ∧ q.2.2.2 = none))))
def mi_met (l : Launch) (g : xe_G) (q : mi_I) (d : Nat) (a : List Value) (M : mi_H) (v : Option Value) (M' : mi_H) : Prop :=
  M.2.1 ≤ M'.2.1 ∧ M.2.2 ≤ M'.2.2 ∧ ∀ D : va_G, Met l q.1 (.code q.1 q.2.1 q.2.2.1 q.2.2.2 :: bg) (mi_rm d (M'.2.1 - M.2.1) (M'.2.2 - M.2.2)) (mi_Pre g D M a) (mi_Q g D M v M') (M'.2.1 - M.2.1) (M'.2.2 - M.2.2) (mi_A g M)
theorem mi_blind {g : xe_G} {D : va_G} {M : mi_H} {av : List Value} : FrameBlind (mi_Pre g D M av) := by
  intro a U g9 mk q
  obtain ⟨h0, ws, tys, ⟨h1, h2⟩, h3⟩ := q
  exact ⟨h0, ws, tys, ⟨va_K.moved (u := U) (U := U.calling g9 mk a) (Vm.Alike.refl U.vm) h1, h2⟩, xe_ok.1 _ U (U.calling g9 mk a) _ (State.WarmedH.refl U) h3⟩
theorem mi_A_sub {g : xe_G} {D : va_G} {A : Nat → Prop} {s : State} {M : mi_H} {H : Heap} {locs : List Loc} {ws : va_W} {tys : List (ClassId × FieldType)} (hr : mi_rel g D A s M H ws tys) (hS : va_S A s.heap H locs) (hA : ∀ q, s.heap.size ≤ q → A q) : ∀ q, mi_A g M q → A q := by
  intro q h
  rcases h with ⟨c, h1, h2⟩ | h
  · rcases hr.2.2.2.2.1 q c h1 with ⟨-, k, e, hk, -⟩ | ⟨h3, -⟩ | ⟨k9, f9, -, -, h9⟩
    · exact hr.2.2.1.2 k _ hk
    · exact absurd h3 h2.1
    · exact absurd (h2.2 _ h9) (by show ¬ 100 + k9 < 100; omega)
  · rw [← hr.2.2.2.1] at h
    exact hA q (Nat.le_trans hS.1 h)
theorem mi_enter {g : xe_G} {D : va_G} {A : Nat → Prop} {s : State} {M : mi_H} {H : Heap} {locs : List Loc} {ws : va_W} {tys : List (ClassId × FieldType)} {av : List Value} (hr : mi_rel g D A s M H ws tys) (hS : va_S A s.heap H locs) (hA : ∀ q, s.heap.size ≤ q → A q) (hE : xe_E g A s s.heap) :
    ∀ U : State, U.heap = H → s.WarmedH U.vm → mi_Pre g D M av av.toArray U := by
  intro U hU hW
  obtain ⟨h1, h2, h3, h4, h5, h6⟩ := id hr
  refine ⟨rfl, ws, tys, ⟨va_K.moved hW.alike h1, by rw [hU]; exact h2, h3.weaken (fun _ _ _ _ => trivial), by rw [hU]; exact h4, h5, h6⟩, ?_⟩
  rw [hU]
  exact xe_ok.1 _ _ _ _ hW (xe_ok.2.2 _ _ _ _ (mi_A_sub hr hS hA) (xe_ok.2.1 _ _ _ _ hS.2.1 hE))
section MIV
variable {p : Program} {l : Launch} {e : Env} {R : Room} {s : State} {m : MethodId} {args : Array Value} {below : List Frame} {meth : Method} {c : Code} {H : Heap} {locs : List Loc} {cells slots : Nat} {Q : State → Prop} {pc : Nat} {ls : Array Slot} {rest st0 : List Value} {a : Array Value} {mc ms : Nat}
theorem mi_goW {g : xe_G} {D : va_G} {A : Nat → Prop} {M M' : mi_H} {v : Option Value} {ws : va_W} {tys : List (ClassId × FieldType)} (hr : va_Run p l e R s m args below meth c H locs cells slots mc ms (F0 m pc ls st0) rest (mi_Q g D M v M' a) (mi_A g M))
    (hrel : mi_rel g D A s M H ws tys) (hS : va_S A s.heap H locs) (hA : ∀ q, s.heap.size ≤ q → A q)
    (kk : ∀ (H1 : Heap) (locs1 : List Loc) (ws1 : va_W) (tys1 : List (ClassId × FieldType)), mi_rel g D A s M' H1 ws1 tys1 → va_S A s.heap H1 locs1 → W p l e R s m args below meth c H1 locs1 (cells + mc) (slots + ms) Q (F0 m (pc + 3) ls (v.toList ++ rest))) : W p l e R s m args below meth c H locs cells slots Q (F0 m pc ls st0) := by
  have hF := mi_A_sub hrel hS hA
  intro T hT X
  obtain ⟨v', st₀, t, T', L, h0, X', hL, e1, e2, ⟨⟨hv, ws1, tys1, hrel1⟩, hz, hk⟩, st⟩ := hr T hT X
  cases hv
  rw [h0] at hz hk
  obtain ⟨g1, g2, g3, g4, g5, g6⟩ := hrel1
  obtain ⟨t2, a1, b1⟩ := kk T'.heap (locs ++ L) ws1 tys1 ⟨va_K.moved (Vm.Alike.symm (by rw [← e2]; exact X'.warmed.alike)) g1, by rw [e1]; exact g2, g3.weaken (fun k q _ h => hF q.1 h), by rw [e1]; exact g4, g5, g6⟩
    ⟨Nat.le_trans hS.1 (by rw [e1]; exact hz), fun q h1 h2 => by rw [e1, hk q (Nat.lt_of_lt_of_le h1 hS.1) (fun z => h2 (hF q z))]; exact hS.2.1 q h1 h2, fun q hq => by
      rcases List.mem_append.mp hq with h | h
      · exact hS.2.2 q h
      · exact hF _ (hL q h)⟩ T' rfl X'
  exact ⟨t2, st t2 a1, b1⟩
end MIV
theorem mi_sub3 {a b n : Nat} (h1 : n ≤ a) (h2 : a ≤ b) : b - n = (a - n) + (b - a) := by omega
theorem mi_call {own : String} {cc : ByteArray} {nL : Nat} {ini : Bool} {g : xe_G} {D : va_G} {p : Program} {l : Launch} {e : Env} {R : Room} {s : State} {m : MethodId} {args : Array Value} {below : List Frame} {meth : Method} {c : Code} {A : Nat → Prop} {n0 s0 d : Nat} {Q : State → Prop} {q : mi_I} {na : Nat} {k : Option Nat} {S : mi_S} {v : Option Value} {M' : mi_H}
    (hc : mi_cx own cc nL ini g D p e R s m args meth c A) (hcal : mi_cal own cc S.1 q na k) (hok : mi_okc k na S = true) (hM : mi_met l g q d (S.2.2.1.take na).reverse S.2.2.2 v M') (hfr : R.frames = d + 9) (hlo : R.locals = 40 * (d + 1) + 1000)
    (hn0 : n0 ≤ S.2.2.2.2.1) (hs0 : s0 ≤ S.2.2.2.2.2) (hR1 : M'.2.1 - n0 ≤ R.cells) (hR2 : M'.2.2 - s0 ≤ R.slots)
    (hW : mi_W nL g D p l e R s m args below meth c A n0 s0 Q (S.1 + 3, S.2.1, v.toList ++ S.2.2.1.drop na, M')) : mi_W nL g D p l e R s m args below meth c A n0 s0 Q S := by
  obtain ⟨pc, lv, st, M⟩ := S
  dsimp only at hM hn0 hs0 hok hcal hW
  intro H locs ls ws tys hr hl hS
  dsimp only at hr hl ⊢
  obtain ⟨hx, hb, hml, hown, htb, hE, hini, hA, hK0, -, -⟩ := hc
  obtain ⟨m1, m2, hMet⟩ := hM
  have hMet := hMet D
  obtain ⟨hL21, hin, hcode, i, n, hhd, hlink, hcase⟩ := hcal
  have hgo := fun H1 locs1 ws1 tys1 (h1 : mi_rel g D A s M' H1 ws1 tys1) (h2 : va_S A s.heap H1 locs1) => hW H1 locs1 ls ws1 tys1 h1 hl h2
  dsimp only at hgo
  have e1 : M'.2.1 - n0 = (M.2.1 - n0) + (M'.2.1 - M.2.1) := mi_sub3 hn0 m1
  have e2 : M'.2.2 - s0 = (M.2.2 - s0) + (M'.2.2 - M.2.2) := mi_sub3 hs0 m2
  rw [e1, e2] at hgo
  rw [e1] at hR1
  rw [e2] at hR2
  have hroom : (mi_rm d (M'.2.1 - M.2.1) (M'.2.2 - M.2.2)).frames + 1 ≤ R.frames ∧ 8 + (q.2.2.1 + 11) + (mi_rm d (M'.2.1 - M.2.1) (M'.2.2 - M.2.2)).locals ≤ R.locals := by
    rw [hfr, hlo]
    constructor
    · show d + 8 + 1 ≤ d + 9
      omega
    · show 8 + (q.2.2.1 + 11) + (40 * d + 1000) ≤ 40 * (d + 1) + 1000
      omega
  unfold mi_okc at hok
  rw [Bool.and_eq_true, Bool.and_eq_true] at hok
  obtain ⟨⟨ok1, ok2⟩, ok3⟩ := hok
  have ok1 : na ≤ st.length := by simpa using ok1
  have ok2 : (((st.drop na)).map fun v => v.category).sum ≤ 8 := by simpa using ok2
  have hst : st = (st.take na).reverse.reverse ++ st.drop na := by rw [List.reverse_reverse, List.take_append_drop]
  rcases hcase with ⟨hd, hk, hna, hstat⟩ | ⟨hna, hinst, ci, r, hk, hci, hr0, hd⟩
  · refine mi_goW (va_runS (As := (st.take na).reverse) (rest := st.drop na) ⟨hx, hb, hml, hown, htb⟩ hMet (bg_S n htb hlink hstat hin hcode rfl rfl hhd hroom) ⟨mi_blind, mi_enter hr hS hA hE⟩ rfl (by rw [List.length_reverse, List.length_take]; omega) hl.1 hst (lv_room ok2) hd ⟨hR1, hR2⟩) hr hS hA hgo
  · subst hk
    dsimp only at ok3
    split at ok3
    · rename_i b As hrev
      split at ok3
      · rename_i c9 f9 hM9
        have hc9 : c9 = ci := by simpa using ok3
        subst hc9
        have hlen : As.length = n := by
          have h7 := congrArg List.length hrev
          rw [List.length_reverse, List.length_take] at h7
          simp at h7
          omega
        rw [hrev] at hMet hst
        have hst' : st = As.reverse ++ .ref b :: st.drop na := by
          rw [List.reverse_cons, List.append_assoc] at hst
          exact hst
        obtain ⟨q0, fs, hq0, -⟩ := mi_obj hr hci hM9
        rcases hd with ⟨hd, hsel⟩ | ⟨hd, hnm, hret⟩
        · refine mi_goW (va_runV (As := As) (rest := st.drop na) ⟨hx, hb, hml, hown, htb⟩ hMet (bg_V n htb hlink hinst hsel hin hcode rfl rfl hhd hroom) ⟨mi_blind, va_recv hr.1 hr.2.1 hr0 hq0, mi_enter hr hS hA hE⟩ rfl hlen hl.1 hst' (lv_room ok2) hd ⟨hR1, hR2⟩) hr hS hA hgo
        · obtain ⟨q1, q2, q3, q4⟩ := q
          dsimp only at hret hMet hcode hlink hinst hin hhd hroom hnm
          subst hret
          refine mi_goW (va_runI (As := As) (rest := st.drop na) ⟨hx, hb, hml, hown, htb⟩ hMet (bg_I n htb hlink hinst hin hcode rfl rfl hhd hroom hnm) ⟨mi_blind, mi_enter hr hS hA hE⟩ rfl hlen hl.1 hst' (lv_room ok2) hd ⟨hR1, hR2⟩) hr hS hA hgo
      · cases ok3
    · cases ok3
def mi_ent (g : xe_G) (I : Nat → mi_I) (q : mi_I) (pc : Nat) (e : mi_N) : Prop := match e with
  | .inl o => mi_sim g q.1.cls q.2.1 q.2.2.1 (q.1.name == "<init>") pc o
  | .inr (.inl c) => mi_cal q.1.cls q.2.1 pc (I c.1) c.2.1 c.2.2
  | .inr (.inr f) => mi_simr q.2.1 q.2.2.2 pc f
def mi_meth (g : xe_G) (I : Nat → mi_I) (q : mi_I) (b : Nat × mi_B) : Prop := b.1 = q.2.2.1 ∧ plainName q.1.cls = true ∧ ∀ pc e, b.2.1 pc = some e → mi_ent g I q pc e
theorem mi_loop_W {l : Launch} {g : xe_G} {I : Nat → mi_I} {q : mi_I} {b : Nat × mi_B} {d : Nat} {call : Nat → List Value → mi_H → Option mi_R} (hb0 : mi_meth g I q b) (hcall : ∀ y a M r, call y a M = some r → mi_met l g (I y) d a M r.1 r.2) :
    ∀ (n : Nat) (S : mi_S) (r : mi_R), mi_loop b.2 call n S = some r → (S.2.2.2.2.1 ≤ r.2.2.1 ∧ S.2.2.2.2.2 ≤ r.2.2.2) ∧
      ∀ (D : va_G) (p : Program) (e : Env) (R : Room) (s : State) (m : MethodId) (args : Array Value) (below : List Frame) (meth : Method) (c : Code) (M0 : mi_H), mi_cx q.1.cls q.2.1 q.2.2.1 (q.1.name == "<init>") g D p e R s m args meth c (mi_A g M0) → R.frames = d + 9 → R.locals = 40 * (d + 1) + 1000 → meth.sig.returnType = q.2.2.2 → meth.locks = false →
        M0.2.1 ≤ S.2.2.2.2.1 → M0.2.2 ≤ S.2.2.2.2.2 → R.cells = r.2.2.1 - M0.2.1 → R.slots = r.2.2.2 - M0.2.2 → mi_W q.2.2.1 g D p l e R s m args below meth c (mi_A g M0) M0.2.1 M0.2.2 (MQ below (mi_Q g D M0 r.1 r.2) args s (r.2.2.1 - M0.2.1) (r.2.2.2 - M0.2.2) (mi_A g M0)) S := by
  intro n
  induction n with
  | zero => intro S r h; cases h
  | succ n ih =>
    intro S r h
    obtain ⟨pc, lv, st, M⟩ := S
    unfold mi_loop at h
    dsimp only at h
    split at h
    · rename_i o hpc
      split at h
      · rename_i S' ho
        have hent : mi_sim g q.1.cls q.2.1 q.2.2.1 (q.1.name == "<init>") pc o := hb0.2.2 _ _ hpc
        obtain ⟨⟨g1, g2⟩, hsim⟩ := hent lv st M S' ho
        obtain ⟨⟨g3, g4⟩, hgo⟩ := ih _ r h
        rw [mi_nk_H.1] at g3 g4
        refine ⟨⟨Nat.le_trans g1 g3, Nat.le_trans g2 g4⟩, ?_⟩
        intro D p e R s m args below meth c M0 hc hfr hlo hret hlk hm0 hs0 hR1 hR2
        dsimp only at hm0 hs0
        have hw := hgo D p e R s m args below meth c M0 hc hfr hlo hret hlk (by rw [mi_nk_H.1]; exact Nat.le_trans hm0 g1) (by rw [mi_nk_H.1]; exact Nat.le_trans hs0 g2) hR1 hR2
        exact hsim D p l e R s m args below meth c (mi_A g M0) M0.2.1 M0.2.2 _ hc hm0 hs0 (by rw [hR1]; omega) (by rw [hR2]; omega) (mi_nk_W hw)
      · cases h
    · rename_i c9 hpc
      split at h
      · rename_i hok
        split at h
        · rename_i r9 hcl
          have hcal : mi_cal q.1.cls q.2.1 pc (I c9.1) c9.2.1 c9.2.2 := hb0.2.2 _ _ hpc
          have hmet := hcall _ _ _ _ hcl
          have g1 : M.2.1 ≤ r9.2.2.1 := hmet.1
          have g2 : M.2.2 ≤ r9.2.2.2 := hmet.2.1
          obtain ⟨⟨g3, g4⟩, hgo⟩ := ih _ r h
          rw [mi_nk_H.1] at g3 g4
          dsimp only at g3 g4
          refine ⟨⟨Nat.le_trans g1 g3, Nat.le_trans g2 g4⟩, ?_⟩
          intro D p e R s m args below meth c M0 hc hfr hlo hret hlk hm0 hs0 hR1 hR2
          dsimp only at hm0 hs0
          have hw := hgo D p e R s m args below meth c M0 hc hfr hlo hret hlk (by rw [mi_nk_H.1]; exact Nat.le_trans hm0 g1) (by rw [mi_nk_H.1]; exact Nat.le_trans hs0 g2) hR1 hR2
          exact mi_call (S := (pc, lv, st, M)) hc hcal hok hmet hfr hlo hm0 hs0 (by rw [hR1]; omega) (by rw [hR2]; omega) (mi_nk_W hw)
        · cases h
      · cases h
    · rename_i f hpc
      cases hf : f st with
      | none => rw [hf] at h; cases h
      | some v =>
        rw [hf] at h
        cases h
        refine ⟨⟨Nat.le_refl _, Nat.le_refl _⟩, ?_⟩
        intro D p e R s m args below meth c M0 hc hfr hlo hret hlk hm0 hs0 hR1 hR2
        intro H locs ls ws tys hr hl hS
        have hsr : mi_simr q.2.1 q.2.2.2 pc f := hb0.2.2 _ _ hpc
        dsimp only at hr hl ⊢
        exact hsr st v hf p l e R s m args below meth c H locs ls _ _ _ _ hc.1 hc.2.1 hret hlk (fun t ht hW => ⟨⟨rfl, ws, tys, va_K.moved hW.alike hr.1, by rw [ht]; exact hr.2.1, hr.2.2.1, by rw [ht]; exact hr.2.2.2.1, hr.2.2.2.2⟩, hS.F ht⟩) hS.2.2
    · cases h
theorem mi_sound {l : Launch} {g : xe_G} {I : Nat → mi_I} {T : Nat → Option (Nat × mi_B)} {n : Nat} (hT : ∀ y b, T y = some b → mi_meth g I (I y) b) : ∀ (d y : Nat) (a : List Value) (M : mi_H) (r : mi_R), mi_run T n d y a M = some r → mi_met l g (I y) d a M r.1 r.2 := by
  intro d
  induction d with
  | zero => intro y a M r h; cases h
  | succ d ih =>
    intro y a M r h
    unfold mi_run at h
    split at h
    · cases h
    · rename_i b hb
      split at h
      · rename_i hlen
        have hlen : (lg_sl a).length ≤ b.1 := by simpa using hlen
        have hm := hT y b hb
        obtain ⟨⟨g1, g2⟩, hW⟩ := mi_loop_W hm (fun y a M r h => ih y a M r h) n _ r h
        dsimp only at g1 g2
        refine ⟨g1, g2, fun D => ?_⟩
        generalize hq : I y = q at hm hW ⊢
        obtain ⟨q1, q2, q3, q4⟩ := q
        dsimp only at hW ⊢
        obtain ⟨hb1, hpl, -⟩ := hm
        dsimp only at hb1 hpl
        refine Met.ofW (cc := q2) (maxL := q3) (ret := q4) hpl rfl ?_
        intro p e s m args below meth c s₁ B hml hv
        obtain ⟨rfl, ws, tys, hr, hE⟩ := hv
        have hts := atoms_spec (ws := (Cond.code q1 q2 q3 q4 :: bg)) B.pre
        have htb : ∀ w ∈ bg, w.before _ s = true := fun w h => hts w (List.mem_cons_of_mem _ h)
        have hown : s.vm.findClass q1.cls = some m.cls := findClass_of_methodNamed B.named
        have hl := lv_entry a (n := q3) (by rw [← hb1]; exact hlen)
        rw [lg_entry_eq]
        have hA : ∀ x : Nat, s.heap.size ≤ x → mi_A g M x := fun x hx => Or.inr (by rw [← hr.2.2.2.1]; exact hx)
        have hw := hW D p e (mi_rm (d + 1) (r.2.2.1 - M.2.1) (r.2.2.2 - M.2.2)) s m a.toArray below meth c M ⟨B.exec, B.bytes, hml, hown, htb, hE, fun hi => ?_, hA, ⟨hr.1.1, fun k x hx => by cases hx⟩, by show 8 ≤ d + 1 + 8; omega, by show 1000 ≤ 40 * (d + 1) + 1000; omega⟩ (by show d + 1 + 8 = d + 9; omega) rfl B.returns B.notSynchronized (Nat.le_refl _) (Nat.le_refl _) rfl rfl
        · have hw2 := hw s.heap [] _ ws tys ⟨hr.1, hr.2.1, ⟨hr.2.2.1.1, fun k x hx => ?_⟩, hr.2.2.2⟩ hl va_S.rf
          · dsimp only at hw2
            rw [Nat.sub_self, Nat.sub_self] at hw2
            exact hw2
          · obtain ⟨c9, h1, h2⟩ := hr.2.2.2.2.2 k x.1 x.2 hx
            exact Or.inl ⟨c9, h1, h2⟩
        · have hnm := (name_of_methodNamed B.named B.method).1
          rw [hnm]
          simpa using hi
      · cases h
end MIZ
