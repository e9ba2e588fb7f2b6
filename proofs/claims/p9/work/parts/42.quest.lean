/-! questions over typed heaps (laid by wip/p2/c42.py) -/
theorem tq_tagOf {g : xe_G} {M : mi_H} {Y : yT} {p : Nat} {pp : List Nat} {x1 : Int32}  (hW : WF g Y M) (hY0 : Y.1 p = some (7, pp)) {d : Nat} (hd : 1 ≤ d) : mt (mT g) d 138 [.ref p, .int x1] M (pI M) := by
  obtain ⟨size, n, m, q, f, cc, hP, hT, hn, hm, -, hc, -⟩ := hW.pool hY0
  exact (ct_tagOf hP hd).mono (fun v M' h => ⟨⟨_, h.1⟩, h.2⟩)
theorem tq_tagPlace {g : xe_G} {M : mi_H} {Y : yT} {p : Nat} {pp : List Nat} {x1 : Int32}  (hW : WF g Y M) (hY0 : Y.1 p = some (7, pp)) {d : Nat} (hd : 1 ≤ d) : mt (mT g) d 139 [.ref p, .int x1] M (pI M) := by
  obtain ⟨size, n, m, q, f, cc, hP, hT, hn, hm, -, hc, -⟩ := hW.pool hY0
  exact (ct_tagPlace hP hd).mono (fun v M' h => ⟨⟨_, h.1⟩, h.2⟩)
theorem tq_firstIndex {g : xe_G} {M : mi_H} {Y : yT} {p : Nat} {pp : List Nat} {x1 : Int32}  (hW : WF g Y M) (hY0 : Y.1 p = some (7, pp)) {d : Nat} (hd : 1 ≤ d) : mt (mT g) d 117 [.ref p, .int x1] M (pI M) := by
  obtain ⟨size, n, m, q, f, cc, hP, hT, hn, hm, -, hc, -⟩ := hW.pool hY0
  exact (ct_firstIndex hP hd).mono (fun v M' h => ⟨⟨_, h.1⟩, h.2⟩)
theorem tq_secondIndex {g : xe_G} {M : mi_H} {Y : yT} {p : Nat} {pp : List Nat} {x1 : Int32}  (hW : WF g Y M) (hY0 : Y.1 p = some (7, pp)) {d : Nat} (hd : 1 ≤ d) : mt (mT g) d 134 [.ref p, .int x1] M (pI M) := by
  obtain ⟨size, n, m, q, f, cc, hP, hT, hn, hm, -, hc, -⟩ := hW.pool hY0
  exact (ct_secondIndex hP hd).mono (fun v M' h => ⟨⟨_, h.1⟩, h.2⟩)
theorem tq_isWide {g : xe_G} {M : mi_H} {Y : yT} {p : Nat} {pp : List Nat} {x1 : Int32}  (hW : WF g Y M) (hY0 : Y.1 p = some (7, pp)) {d : Nat} (hd : 2 ≤ d) : mt (mT g) d 125 [.ref p, .int x1] M (pZ M) := by
  obtain ⟨size, n, m, q, f, cc, hP, hT, hn, hm, -, hc, -⟩ := hW.pool hY0
  exact (ct_isWide hP hd).mono (fun v M' h => ⟨⟨_, h.1, by unfold sp_isWide; repeat' (first | split | exact Or.inl rfl | exact Or.inr rfl)⟩, h.2⟩)
theorem tq_textLength {g : xe_G} {M : mi_H} {Y : yT} {p : Nat} {pp : List Nat} {x1 : Int32}  (hW : WF g Y M) (hY0 : Y.1 p = some (7, pp)) {d : Nat} (hd : 2 ≤ d) : mt (mT g) d 141 [.ref p, .int x1] M (pI M) := by
  obtain ⟨size, n, m, q, f, cc, hP, hT, hn, hm, -, hc, -⟩ := hW.pool hY0
  exact (ct_textLength hP hd).mono (fun v M' h => ⟨⟨_, h.1⟩, h.2⟩)
theorem tq_isFieldDescriptor {g : xe_G} {M : mi_H} {Y : yT} {p : Nat} {pp : List Nat} {x1 : Int32}  (hW : WF g Y M) (hY0 : Y.1 p = some (7, pp)) {d : Nat} (hd : 2 ≤ d) : mt (mT g) d 121 [.ref p, .int x1] M (pZ M) := by
  obtain ⟨size, n, m, q, f, cc, hP, hT, hn, hm, -, hc, -⟩ := hW.pool hY0
  exact (ct_isFieldDescriptor hP hd).mono (fun v M' h => ⟨⟨_, h.1, by unfold sp_isFieldDescriptor; repeat' (first | split | exact Or.inl rfl | exact Or.inr rfl)⟩, h.2⟩)
theorem tq_isMethodDescriptor {g : xe_G} {M : mi_H} {Y : yT} {p : Nat} {pp : List Nat} {x1 : Int32}  (hW : WF g Y M) (hY0 : Y.1 p = some (7, pp)) {d : Nat} (hd : 2 ≤ d) : mt (mT g) d 122 [.ref p, .int x1] M (pZ M) := by
  obtain ⟨size, n, m, q, f, cc, hP, hT, hn, hm, -, hc, -⟩ := hW.pool hY0
  exact (ct_isMethodDescriptor hP hd).mono (fun v M' h => ⟨⟨_, h.1, by unfold sp_isMethodDescriptor; repeat' (first | split | exact Or.inl rfl | exact Or.inr rfl)⟩, h.2⟩)
theorem tq_placesTold {g : xe_G} {M : mi_H} {Y : yT} {p : Nat} {pp : List Nat} {x1 : Int32}  (hW : WF g Y M) (hY0 : Y.1 p = some (7, pp)) {d : Nat} (hd : 2 ≤ d) : mt (mT g) d 131 [.ref p, .int x1] M (pI M) := by
  obtain ⟨size, n, m, q, f, cc, hP, hT, hn, hm, -, hc, -⟩ := hW.pool hY0
  exact (ct_placesTold hP hd).mono (fun v M' h => ⟨⟨_, h.1⟩, h.2⟩)
theorem tq_argumentPlaces {g : xe_G} {M : mi_H} {Y : yT} {p : Nat} {pp : List Nat} {x1 : Int32}  (hW : WF g Y M) (hY0 : Y.1 p = some (7, pp)) {d : Nat} (hd : 3 ≤ d) : mt (mT g) d 112 [.ref p, .int x1] M (pI M) := by
  obtain ⟨size, n, m, q, f, cc, hP, hT, hn, hm, -, hc, -⟩ := hW.pool hY0
  exact (ct_argumentPlaces hP hd).mono (fun v M' h => ⟨⟨_, h.1⟩, h.2⟩)
theorem tq_hasNoResult {g : xe_G} {M : mi_H} {Y : yT} {p : Nat} {pp : List Nat} {x1 : Int32}  (hW : WF g Y M) (hY0 : Y.1 p = some (7, pp)) {d : Nat} (hd : 3 ≤ d) : mt (mT g) d 119 [.ref p, .int x1] M (pZ M) := by
  obtain ⟨size, n, m, q, f, cc, hP, hT, hn, hm, -, hc, -⟩ := hW.pool hY0
  exact (ct_hasNoResult hP hd).mono (fun v M' h => ⟨⟨_, h.1, by unfold sp_hasNoResult; repeat' (first | split | exact Or.inl rfl | exact Or.inr rfl)⟩, h.2⟩)
theorem tq_nameOf {g : xe_G} {M : mi_H} {Y : yT} {p : Nat} {pp : List Nat} {x1 : Int32}  (hW : WF g Y M) (hY0 : Y.1 p = some (7, pp)) {d : Nat} (hd : 2 ≤ d) : mt (mT g) d 128 [.ref p, .int x1] M (pI M) := by
  obtain ⟨size, n, m, q, f, cc, hP, hT, hn, hm, -, hc, -⟩ := hW.pool hY0
  exact (ct_nameOf hP hd).mono (fun v M' h => ⟨⟨_, h.1⟩, h.2⟩)
theorem tq_descriptorOf {g : xe_G} {M : mi_H} {Y : yT} {p : Nat} {pp : List Nat} {x1 : Int32}  (hW : WF g Y M) (hY0 : Y.1 p = some (7, pp)) {d : Nat} (hd : 2 ≤ d) : mt (mT g) d 115 [.ref p, .int x1] M (pI M) := by
  obtain ⟨size, n, m, q, f, cc, hP, hT, hn, hm, -, hc, -⟩ := hW.pool hY0
  exact (ct_descriptorOf hP hd).mono (fun v M' h => ⟨⟨_, h.1⟩, h.2⟩)
theorem tq_characterAt {g : xe_G} {M : mi_H} {Y : yT} {p : Nat} {pp : List Nat} {x1 x2 : Int32}  (hW : WF g Y M) (hY0 : Y.1 p = some (7, pp)) {d : Nat} (hd : 2 ≤ d) : mt (mT g) d 113 [.ref p, .int x1, .int x2] M (pI M) := by
  obtain ⟨size, n, m, q, f, cc, hP, hT, hn, hm, -, hc, -⟩ := hW.pool hY0
  exact (ct_characterAt hP hT hm hd).mono (fun v M' h => ⟨⟨_, h.1⟩, h.2⟩)
theorem tq_isPlainClass {g : xe_G} {M : mi_H} {Y : yT} {p : Nat} {pp : List Nat} {x1 : Int32}  (hW : WF g Y M) (hY0 : Y.1 p = some (7, pp)) {d : Nat} (hd : 3 ≤ d) : mt (mT g) d 123 [.ref p, .int x1] M (pZ M) := by
  obtain ⟨size, n, m, q, f, cc, hP, hT, hn, hm, -, hc, -⟩ := hW.pool hY0
  exact (ct_isPlainClass hP hT hm hd).mono (fun v M' h => ⟨⟨_, h.1, by unfold sp_isPlainClass; repeat' (first | split | exact Or.inl rfl | exact Or.inr rfl)⟩, h.2⟩)
theorem tq_hasAngle {g : xe_G} {M : mi_H} {Y : yT} {p : Nat} {pp : List Nat} {x1 : Int32}  (hW : WF g Y M) (hY0 : Y.1 p = some (7, pp)) {d : Nat} (hd : 3 ≤ d) : mt (mT g) d 118 [.ref p, .int x1] M (pZ M) := by
  obtain ⟨size, n, m, q, f, cc, hP, hT, hn, hm, -, hc, -⟩ := hW.pool hY0
  exact (ct_hasAngle hP hT hm hd).mono (fun v M' h => ⟨h.1, h.2⟩)
theorem tq_isUnqualifiedName {g : xe_G} {M : mi_H} {Y : yT} {p : Nat} {pp : List Nat} {x1 : Int32}  (hW : WF g Y M) (hY0 : Y.1 p = some (7, pp)) {d : Nat} (hd : 3 ≤ d) : mt (mT g) d 124 [.ref p, .int x1] M (pZ M) := by
  obtain ⟨size, n, m, q, f, cc, hP, hT, hn, hm, -, hc, -⟩ := hW.pool hY0
  exact (ct_isUnqualifiedName hP hT hm hd).mono (fun v M' h => ⟨h.1, h.2⟩)
theorem tq_dimensionsOf {g : xe_G} {M : mi_H} {Y : yT} {p : Nat} {pp : List Nat} {x1 : Int32}  (hW : WF g Y M) (hY0 : Y.1 p = some (7, pp)) {d : Nat} (hd : 3 ≤ d) : mt (mT g) d 116 [.ref p, .int x1] M (pI M) := by
  obtain ⟨size, n, m, q, f, cc, hP, hT, hn, hm, -, hc, -⟩ := hW.pool hY0
  exact (ct_dimensionsOf hP hT hm hd).mono (fun v M' h => ⟨h.1, h.2⟩)
theorem tq_sameText {g : xe_G} {M : mi_H} {Y : yT} {p : Nat} {pp : List Nat} {x1 x2 : Int32}  (hW : WF g Y M) (hY0 : Y.1 p = some (7, pp)) {d : Nat} (hd : 2 ≤ d) : mt (mT g) d 133 [.ref p, .int x1, .int x2] M (pZ M) := by
  obtain ⟨size, n, m, q, f, cc, hP, hT, hn, hm, -, hc, -⟩ := hW.pool hY0
  exact (ct_sameText hP hT hm hd).mono (fun v M' h => ⟨h.1, h.2⟩)
theorem tq_isClassText {g : xe_G} {M : mi_H} {Y : yT} {p : Nat} {pp : List Nat} {x1 : Int32}  (hW : WF g Y M) (hY0 : Y.1 p = some (7, pp)) {d : Nat} (hd : 3 ≤ d) : mt (mT g) d 120 [.ref p, .int x1] M (pZ M) := by
  obtain ⟨size, n, m, q, f, cc, hP, hT, hn, hm, -, hc, -⟩ := hW.pool hY0
  exact (ct_isClassText hP hT hm hd).mono (fun v M' h => ⟨h.1, h.2⟩)
theorem tq_size {g : xe_G} {M : mi_H} {Y : yT} {b da n : Nat}  (hW : WF g Y M) (hY0 : Y.1 b = some (1, [da, n])) {d : Nat} (hd : 1 ≤ d) : mt (mT g) d 47 [.ref b] M (pI M) := by
  exact (ct_size (hW.bytes hY0).1 hd).mono (fun v M' h => ⟨⟨_, h.1⟩, h.2⟩)
theorem tq_u1 {g : xe_G} {M : mi_H} {Y : yT} {b da n : Nat} {x1 : Int32}  (hW : WF g Y M) (hY0 : Y.1 b = some (1, [da, n])) {d : Nat} (hd : 1 ≤ d) : mt (mT g) d 48 [.ref b, .int x1] M (pI M) := by
  exact (ct_u1 (hW.bytes hY0).1 hd).mono (fun v M' h => ⟨⟨_, h.1⟩, h.2⟩)
theorem tq_u2 {g : xe_G} {M : mi_H} {Y : yT} {b da n : Nat} {x1 : Int32}  (hW : WF g Y M) (hY0 : Y.1 b = some (1, [da, n])) {d : Nat} (hd : 1 ≤ d) : mt (mT g) d 49 [.ref b, .int x1] M (pI M) := by
  exact (ct_u2 (hW.bytes hY0).1 hd).mono (fun v M' h => ⟨⟨_, h.1⟩, h.2⟩)
theorem tq_u4 {g : xe_G} {M : mi_H} {Y : yT} {b da n : Nat} {x1 : Int32}  (hW : WF g Y M) (hY0 : Y.1 b = some (1, [da, n])) {d : Nat} (hd : 1 ≤ d) : mt (mT g) d 50 [.ref b, .int x1] M (pI M) := by
  exact (ct_u4 (hW.bytes hY0).1 hd).mono (fun v M' h => ⟨⟨_, h.1⟩, h.2⟩)
theorem tq_goesOn {g : xe_G} {M : mi_H} {Y : yT} {b da n : Nat} {x1 x2 : Int32}  (hW : WF g Y M) (hY0 : Y.1 b = some (1, [da, n])) {d : Nat} (hd : 1 ≤ d) : mt (mT g) d 46 [.ref b, .int x1, .int x2] M (pZ M) := by
  exact (ct_goesOn (hW.bytes hY0).1 hd).mono (fun v M' h => ⟨⟨_, h.1, by unfold sp_goesOn; repeat' (first | split | exact Or.inl rfl | exact Or.inr rfl)⟩, h.2⟩)
theorem tq_attributesEnd {g : xe_G} {M : mi_H} {Y : yT} {b da n : Nat} {x1 x2 x3 : Int32}  (hW : WF g Y M) (hY0 : Y.1 b = some (1, [da, n])) {d : Nat} (hd : 2 ≤ d) : mt (mT g) d 45 [.ref b, .int x1, .int x2, .int x3] M (pI M) := by
  exact (ct_attributesEnd (hW.bytes hY0).1 hd).mono (fun v M' h => ⟨h.1, h.2⟩)
theorem tq_textIs {g : xe_G} {M : mi_H} {Y : yT} {p : Nat} {pp : List Nat} {x1 : Int32} {lk : Nat} (hW : WF g Y M) (hY0 : Y.1 p = some (7, pp)) (hk : lk < 15) {d : Nat} (hd : 2 ≤ d) : mt (mT g) d 140 [.ref p, .int x1, .ref (g.2.1 lk)] M (pZ M) := by
  obtain ⟨size, n, m, q, f, cc, hP, hT, hn, hm, -, hc, -⟩ := hW.pool hY0
  obtain ⟨-, fl, hL⟩ := hW.2.2 lk hk
  exact (ct_textIs hP hT hm hL (Nat.mod_lt _ (by decide)) hd).mono (fun v M' h => ⟨h.1, h.2⟩)
