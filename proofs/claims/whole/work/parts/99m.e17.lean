/-! ===== the calls that change other things, on both sides ===== -/
theorem tw_feed (g : pG) {S : pS} (hS : sOk S) (h : RS S) (e : Int64) (n : Int32) : TwI g mX11_feed mX12_feed 2 2 [.long e, .int n] S := by
  obtain ⟨q1, q2, q3, ⟨⟨t, ht, t29, t54⟩, hB, hL⟩, q5, q6, q7, q8⟩ := h
  refine ⟨_, s_X11_feed g hS ht t29 e n, fun x1 S1 q => ?_⟩
  obtain ⟨e1, f1, b1, n1⟩ := q
  have e54 : S1.2.2.2 54 = S.2.2.2 54 := f1.2 54 (by decide)
  have e61 : S1.2.2.2 61 = S.2.2.2 61 := f1.2 61 (by decide)
  refine ⟨f1.ok hS, _, s_X12_feed g (f1.ok hS) ht ((congrFun e54 9).trans t54) e n, fun y1 S2 q => ?_⟩
  obtain ⟨e2, k2, b2, n2⟩ := q
  have ff : FF [29, 30] [61] [9] S S1 S2 := ⟨f1, k2⟩
  have ok : okK [61] := by unfold okK; decide
  refine ⟨e2.trans e1.symm, k2.1, ff.k1 ok (by unfold off; decide) (by decide) q1, ff.k2 ok (by unfold off; decide) q2, ff.k3 ok (by unfold off; decide) (congrFun (f1.2 0 (by decide)) 3) (by decide) (by decide) q3, ⟨⟨feedN t n, feedN_le ht, ?_, n2⟩, ?_, ?_⟩, ff.k5 ok (by unfold off; decide) (by decide) (by decide) q5, ff.k6 ok (by unfold off; decide) (by unfold off; decide) q6, ff.k7 ok (by unfold off; decide) (by unfold off; decide) q7, ff.k8 ok (by unfold off; decide) (by decide) (by decide) q8⟩
  · rw [k2.2.1 29 (by decide) (by decide)]
    exact n1
  · rw [k2.2.1 30 (by decide) (by decide), b1, b2, e61]
    exact hB.feed
  · rw [ff.cell (q := 62) (by decide) (by decide) (by decide)]
    exact hL
theorem compN_r {T : tT} {r : Nat} (hr : r ≤ 10) : ∃ q, q ≤ 10 ∧ compN T (nI r) = nI q := by
  unfold compN
  split
  · exact ⟨0, by omega, rfl⟩
  · exact ⟨r, hr, rfl⟩
theorem tw_company (g : pG) {S : pS} (hS : sOk S) (h : RS S) : TwI g mX11_company mX12_company 9 8 [] S := by
  obtain ⟨⟨hE, hC, hD⟩, q2, q3, ⟨⟨t, ht, t29, t54⟩, hB, hL⟩, ⟨e31, r, hr, r0, r54⟩, q6, q7, q8⟩ := h
  refine ⟨_, s_X11_company g hS ht t29 q2.1, fun x1 S1 q => ?_⟩
  obtain ⟨e1, f1, ok1, v1, n1, r1, k1, z, v10⟩ := q
  have e54 : S1.2.2.2 54 = S.2.2.2 54 := f1.2 54 (by decide)
  have e55 : S1.2.2.2 55 = S.2.2.2 55 := f1.2 55 (by decide)
  have e61 : S1.2.2.2 61 = S.2.2.2 61 := f1.2 61 (by decide)
  have e62 : S1.2.2.2 62 = S.2.2.2 62 := f1.2 62 (by decide)
  obtain ⟨a1, a2, a3, a4, a5, a6⟩ := comp_E (S := S) (M := S1.2.2.2) ht (by rw [e61]; exact hB) (by rw [e62]; exact hL) q2.1 q2.2 (by rw [e55]; exact hE) hC (by rw [e55]; exact hD)
  refine ⟨ok1, _, s_X12_company g ok1 ht ((congrFun e54 9).trans t54), fun y1 S2 q => ?_⟩
  obtain ⟨k2, e2, v2, n2, r2⟩ := q
  have ff : FF LE [55, 58] [9, 11, 12, 13, 14, 17] S S1 S2 := ⟨f1, k2⟩
  have ok : okK [55, 58] := by unfold okK; decide
  refine ⟨e2.trans (a1.symm.trans e1.symm), k2.1, ?_, ?_, ff.k3 ok (by unfold off; decide) k1 (by decide) (by decide) q3, ⟨⟨0, by omega, ?_, n2⟩, ?_, ?_⟩, ⟨?_, ?_⟩, ff.k6 ok (by unfold off; decide) (by unfold off; decide) q6, ff.k7 ok (by unfold off; decide) (by unfold off; decide) q7, ff.k8 ok (by unfold off; decide) (by decide) (by decide) q8⟩
  · unfold c1
    rw [ff.w ok (b := 1) (by omega), v1, v2]
    exact ⟨a2, a3, a4⟩
  · unfold IT
    rw [ff.w ok (b := 10) (by omega), v10]
    exact a6 z
  · rw [k2.2.1 29 (by decide) (by decide)]
    exact n1
  · rw [ff.cell (q := 30) (by decide) (by decide) (by decide), ff.cell (q := 61) (by decide) (by decide) (by decide)]
    exact hB
  · rw [ff.cell (q := 62) (by decide) (by decide) (by decide)]
    exact hL
  · rw [ff.cell (q := 31) (by decide) (by decide) (by decide), ff.cell (q := 63) (by decide) (by decide) (by decide)]
    exact e31
  · obtain ⟨q, hq, eq⟩ := compN_r (T := telR S t) hr
    refine ⟨q, hq, ?_, ?_⟩
    · rw [k2.2.1 0 (by decide) (by decide), r1, r0]
      exact eq
    · rw [r2, ← a5, e54, r54]
      exact eq
theorem proveN_r {W : Nat → Int32} {x n : Int32} {r : Nat} (hr : r ≤ 10) : ∃ q, q ≤ 10 ∧ proveN W x n (nI r) = nI q := by
  unfold proveN
  split
  · next c =>
    obtain ⟨j, hj, e⟩ := rng (x := n) (hi := 10) 10 (by decide) ⟨Int32.le_trans (by decide) c.2.1, c.2.2⟩
    exact ⟨j, hj, e⟩
  · exact ⟨r, hr, rfl⟩
theorem tw_prove (g : pG) {S : pS} (hS : sOk S) (h : RS S) (x n : Int32) : TwI g mX11_prove mX12_prove 6 8 [.int x, .int n] S := by
  obtain ⟨⟨hE, hC, hD⟩, q2, q3, q4, ⟨e31, r, hr, r0, r54⟩, q6, q7, q8⟩ := h
  refine ⟨_, s_X11_prove g hS hC.1 hC.2.1 x n, fun x1 S1 q => ?_⟩
  obtain ⟨e1, f1, v1, r1, k1⟩ := q
  have e54 : S1.2.2.2 54 = S.2.2.2 54 := f1.1.2 54 (by decide)
  have e55 : S1.2.2.2 55 = S.2.2.2 55 := f1.1.2 55 (by decide)
  have e63 : S1.2.2.2 63 = S.2.2.2 63 := f1.1.2 63 (by decide)
  refine ⟨f1.1.ok hS, _, s_X12_prove g (f1.1.ok hS) (by rw [e55]; exact hD.1) x n, fun y1 S2 q => ?_⟩
  obtain ⟨e2, k2, v2, r2⟩ := q
  have ff : FF [0, 10, 11, 12, 13, 14, 15, 16, 17, 18, 31] [57, 59, 60, 63, 64] [17] S S1 S2 := ⟨f1.1, k2⟩
  have ok : okK [57, 59, 60, 63, 64] := by unfold okK; decide
  refine ⟨?_, k2.1, ff.k1 ok (by unfold off; decide) (by decide) ⟨hE, hC, hD⟩, f1.it k2 ok q2, ff.k3 ok (by unfold off; decide) k1 (by decide) (by decide) q3, ff.k4 ok (by unfold off; decide) (by unfold off; decide) (by decide) q4, ⟨?_, ?_⟩, ff.k6 ok (by unfold off; decide) (by unfold off; decide) q6, ff.k7 ok (by unfold off; decide) (by unfold off; decide) q7, ff.k8 ok (by unfold off; decide) (by decide) (by decide) q8⟩
  · rw [e1, e2, e55]
    exact hE.q_proveX.symm
  · rw [k2.2.1 31 (by decide) (by decide), v1, v2, e55, e63, e31]
    exact hE.q_proveR hD.1
  · obtain ⟨q, hq, eq⟩ := proveN_r (W := vw S 1) (x := x) (n := n) hr
    refine ⟨q, hq, ?_, ?_⟩
    · rw [k2.2.1 0 (by decide) (by decide), r1, r0]
      exact eq
    · rw [r2, e55, e54, r54, ← hE.q_proveN]
      exact eq
theorem tw_alterRow (g : pG) {S : pS} (hS : sOk S) (h : RS S) (i w v : Int32) : TwI g mX11_alterRow mX12_alterRow 2 3 [.int i, .int w, .int v] S := by
  obtain ⟨q1, q2, q3, q4, ⟨e31, r, hr, r0, r54⟩, q6, q7, q8⟩ := h
  refine ⟨_, s_X11_alterRow g hS ⟨r, hr, r0⟩ i w v, fun x1 S1 q => ?_⟩
  obtain ⟨e1, f1, v1⟩ := q
  have e54 : S1.2.2.2 54 = S.2.2.2 54 := f1.2 54 (by decide)
  have e63 : S1.2.2.2 63 = S.2.2.2 63 := f1.2 63 (by decide)
  refine ⟨f1.ok hS, _, s_X12_alterRow g (f1.ok hS) ⟨r, hr, (congrFun e54 17).trans r54⟩ i w v, fun y1 S2 q => ?_⟩
  obtain ⟨e2, k2, v2⟩ := q
  have ff : FF [31] [63] [] S S1 S2 := ⟨f1, k2.kq⟩
  have ok : okK [63] := by unfold okK; decide
  refine ⟨?_, k2.1, ff.k1 ok (by unfold off; decide) (by decide) q1, ff.k2 ok (by unfold off; decide) q2, ff.k3 ok (by unfold off; decide) (congrFun (f1.2 0 (by decide)) 3) (by decide) (by decide) q3, ff.k4 ok (by unfold off; decide) (by unfold off; decide) (by decide) q4, ⟨?_, r, hr, ?_, ?_⟩, ff.k6 ok (by unfold off; decide) (by unfold off; decide) q6, ff.k7 ok (by unfold off; decide) (by unfold off; decide) q7, ff.k8 ok (by unfold off; decide) (by decide) (by decide) q8⟩
  · rw [e1, e2, e63, e54, r54, r0, e31]
  · rw [k2.2.1 31 (by decide) (by decide), v1, v2, e63, e54, r54, r0, e31]
  · rw [ff.cell (q := 0) (by decide) (by decide) (by decide)]
    exact r0
  · rw [ff.fld (by decide) (by decide) (by decide)]
    exact r54
theorem shA_sh {a so n : Int32} (h : shB a so n) : (∃ j, j ≤ 3 ∧ cl a = j) ∧ (so = -1 ∨ ∃ s, s ≤ 3 ∧ so = nI s) ∧ (so < 0 ∨ ∃ q, q ≤ 40 ∧ n = nI q) := by
  obtain ⟨⟨ha, ⟨hs1, hs2⟩, hn⟩, h2⟩ := h
  refine ⟨⟨cl a, by have := p3_k ha; omega, rfl⟩, ?_, ?_⟩
  · by_cases c : so < 0
    · left
      have h1 := Int32.le_iff_toInt_le.mp hs1
      have h3 := Int32.lt_iff_toInt_lt.mp c
      have e1 : (-1 : Int32).toInt = -1 := rfl
      have e0 : (0 : Int32).toInt = 0 := rfl
      exact Int32.toInt_inj.mp (by omega)
    · right
      exact rng (x := so) (hi := 3) 3 (by decide) ⟨Int32.not_lt.mp c, hs2⟩
  · by_cases c : so < 0
    · exact Or.inl c
    · right
      have h40 : n ≤ 40 := hn.elim (fun z => absurd z c) id
      exact rng (x := n) (hi := 40) 40 (by decide) ⟨Int32.not_lt.mp (fun z => h2 ⟨c, z⟩), h40⟩
theorem ShV.sheet {so sz : Nat → Int32} (h : ShV so sz) {a s n : Int32} : ShV (sheetS so a s n) (sheetN sz a s n) := by
  intro j hj
  unfold sheetS sheetN
  by_cases c : shB a s n
  · rw [if_pos c, if_pos c]
    obtain ⟨-, h1, h2⟩ := shA_sh c
    by_cases e : j = cl a
    · rw [e, pk_us, pk_us]
      refine ⟨h1, ?_⟩
      split
      · exact ⟨0, by omega, rfl⟩
      · next c2 => exact h2.elim (fun z => absurd z c2) id
    · rw [pk_un e, pk_un e]
      exact h j hj
  · rw [if_neg c, if_neg c]
    exact h j hj
theorem tw_sheet (g : pG) {S : pS} (hS : sOk S) (h : RS S) (a s n : Int32) : TwI g mX11_sheet mX12_sheet 2 3 [.int a, .int s, .int n] S := by
  obtain ⟨q1, q2, q3, q4, q5, q6, q7, q8⟩ := h
  refine ⟨_, s_X11_sheet g hS q6.2 q6.1 a s n, fun x1 S1 q => ?_⟩
  obtain ⟨e1, f1, v1⟩ := q
  have e65 : S1.2.2.2 65 = S.2.2.2 65 := f1.2 65 (by decide)
  have e66 : S1.2.2.2 66 = S.2.2.2 66 := f1.2 66 (by decide)
  have e67 : S1.2.2.2 67 = S.2.2.2 67 := f1.2 67 (by decide)
  refine ⟨f1.ok hS, _, s_X12_sheet g (f1.ok hS) a s n, fun y1 S2 q => ?_⟩
  obtain ⟨e2, k2, v65, v66, v67⟩ := q
  have ff : FF lsK [65, 66, 67] [] S S1 S2 := ⟨f1, k2.kq⟩
  have ok : okK [65, 66, 67] := by unfold okK; decide
  refine ⟨e2.trans e1.symm, k2.1, ff.k1 ok (by unfold off; decide) (by decide) q1, ff.k2 ok (by unfold off; decide) q2, ff.k3 ok (by unfold off; decide) (congrFun (f1.2 0 (by decide)) 3) (by decide) (by decide) q3, ff.k4 ok (by unfold off; decide) (by unfold off; decide) (by decide) q4, ff.k5 ok (by unfold off; decide) (by decide) (by decide) q5, ?_, ff.k7 ok (by unfold off; decide) (by unfold off; decide) q7, ff.k8 ok (by unfold off; decide) (by decide) (by decide) q8⟩
  unfold c6
  rw [v65, v66, v67, e65, e66, e67]
  exact ⟨v1.cg (fun x hx hy => k2.2.1 x (ok.lo (by omega)) (by omega)), q6.2.sheet⟩
theorem tw_put (g : pG) {S : pS} (hS : sOk S) (h : RS S) (a i v : Int32) : TwI g mX11_put mX12_put 2 3 [.int a, .int i, .int v] S := by
  obtain ⟨q1, q2, q3, q4, q5, q6, q7, q8⟩ := h
  refine ⟨_, s_X11_put g hS q6.2 q6.1 a i v, fun x1 S1 q => ?_⟩
  obtain ⟨e1, f1, v1⟩ := q
  have e65 : S1.2.2.2 65 = S.2.2.2 65 := f1.2 65 (by decide)
  have e66 : S1.2.2.2 66 = S.2.2.2 66 := f1.2 66 (by decide)
  have e67 : S1.2.2.2 67 = S.2.2.2 67 := f1.2 67 (by decide)
  refine ⟨f1.ok hS, _, s_X12_put g (f1.ok hS) (q6.shI e66) a i v, fun y1 S2 q => ?_⟩
  obtain ⟨e2, k2, v67⟩ := q
  have ff : FF lsK [67] [] S S1 S2 := ⟨f1, k2.kq⟩
  have ok : okK [67] := by unfold okK; decide
  refine ⟨?_, k2.1, ff.k1 ok (by unfold off; decide) (by decide) q1, ff.k2 ok (by unfold off; decide) q2, ff.k3 ok (by unfold off; decide) (congrFun (f1.2 0 (by decide)) 3) (by decide) (by decide) q3, ff.k4 ok (by unfold off; decide) (by unfold off; decide) (by decide) q4, ff.k5 ok (by unfold off; decide) (by decide) (by decide) q5, ?_, ff.k7 ok (by unfold off; decide) (by unfold off; decide) q7, ff.k8 ok (by unfold off; decide) (by decide) (by decide) q8⟩
  · rw [e1, e2, e65, e66]
  · unfold c6
    rw [v67, ff.cell (q := 65) (by decide) (by decide) (by decide), ff.cell (q := 66) (by decide) (by decide) (by decide), e65, e66, e67]
    exact ⟨v1.cg (fun x hx hy => k2.2.1 x (ok.lo (by omega)) (by omega)), q6.2⟩
theorem tw_shelf (g : pG) {S : pS} (hS : sOk S) (h : RS S) (s what n : Int32) : TwI g mX11_shelf mX12_shelf 2 3 [.int s, .int what, .int n] S := by
  obtain ⟨⟨hE, hC, hD⟩, q2, q3, q4, q5, q6, q7, q8⟩ := h
  refine ⟨_, s_X11_shelf g hS hC.1 q6.2 q6.1 q7 s what n, fun x1 S1 q => ?_⟩
  obtain ⟨e1, f1, v1⟩ := q
  have e55 : S1.2.2.2 55 = S.2.2.2 55 := f1.2 55 (by decide)
  have e65 : S1.2.2.2 65 = S.2.2.2 65 := f1.2 65 (by decide)
  have e66 : S1.2.2.2 66 = S.2.2.2 66 := f1.2 66 (by decide)
  have e68 : S1.2.2.2 68 = S.2.2.2 68 := f1.2 68 (by decide)
  have e69 : S1.2.2.2 69 = S.2.2.2 69 := f1.2 69 (by decide)
  refine ⟨f1.ok hS, _, s_X12_shelf g (f1.ok hS) s what n, fun y1 S2 q => ?_⟩
  obtain ⟨e2, k2, v68, v69⟩ := q
  have ff : FF [42, 43, 44] [68, 69] [] S S1 S2 := ⟨f1, k2.kq⟩
  have ok : okK [68, 69] := by unfold okK; decide
  refine ⟨?_, k2.1, ff.k1 ok (by unfold off; decide) (by decide) ⟨hE, hC, hD⟩, ff.k2 ok (by unfold off; decide) q2, ff.k3 ok (by unfold off; decide) (congrFun (f1.2 0 (by decide)) 3) (by decide) (by decide) q3, ff.k4 ok (by unfold off; decide) (by unfold off; decide) (by decide) q4, ff.k5 ok (by unfold off; decide) (by decide) (by decide) q5, ff.k6 ok (by unfold off; decide) (by unfold off; decide) q6, ?_, ff.k8 ok (by unfold off; decide) (by decide) (by decide) q8⟩
  · rw [e1, e2, e55]
    exact hE.q_shelfX.symm
  · unfold c7
    rw [v68, v69, e55, e65, e66, e68, e69, ← hE.q_shelfH, ← hE.q_shelfO]
    exact SfR.cg v1 (k2.2.1 42 (by decide) (by decide)) (k2.2.1 43 (by decide) (by decide)) (k2.2.1 44 (by decide) (by decide))
theorem tw_keep (g : pG) {S : pS} (hS : sOk S) (h : RS S) : TwI g mX11_keep mX12_keep 2 2 [] S := by
  obtain ⟨⟨hE, hC, hD⟩, q2, q3, q4, ⟨e31, r, hr, r0, r54⟩, q6, q7, q8⟩ := h
  refine ⟨_, s_X11_keep g hS, fun x1 S1 q => ?_⟩
  obtain ⟨e1, f1, v1, k1, o1⟩ := q
  have e54 : S1.2.2.2 54 = S.2.2.2 54 := f1.2 54 (by decide)
  have e55 : S1.2.2.2 55 = S.2.2.2 55 := f1.2 55 (by decide)
  refine ⟨f1.ok hS, _, s_X12_keep g (f1.ok hS), fun y1 S2 q => ?_⟩
  obtain ⟨e2, k2, v2, k4⟩ := q
  have ff : FF [0, 19, 20, 21, 22, 23, 24, 25] [56] [4] S S1 S2 := ⟨f1, k2⟩
  have ok : okK [56] := by unfold okK; decide
  refine ⟨e2.trans e1.symm, k2.1, ff.k1 ok (by unfold off; decide) (by decide) ⟨hE, hC, hD⟩, ff.k2 ok (by unfold off; decide) q2, ⟨?_, Or.inr ?_⟩, ff.k4 ok (by unfold off; decide) (by unfold off; decide) (by decide) q4, ⟨?_, r, hr, ?_, ?_⟩, ff.k6 ok (by unfold off; decide) (by unfold off; decide) q6, ff.k7 ok (by unfold off; decide) (by unfold off; decide) q7, ff.k8 ok (by unfold off; decide) (by decide) (by decide) q8⟩
  · rw [k2.2.1 0 (by decide) (by decide), k1, k4]
  · rw [ff.w ok (b := 19) (by omega), v1, v2, e55]
    exact ⟨hE.ovrE hD.1, hC, hD.ovrC⟩
  · rw [ff.cell (q := 31) (by decide) (by decide) (by decide), ff.cell (q := 63) (by decide) (by decide) (by decide)]
    exact e31
  · rw [k2.2.1 0 (by decide) (by decide), o1 8 (by decide)]
    exact r0
  · rw [ff.fld (by decide) (by decide) (by decide)]
    exact r54
theorem tw_again (g : pG) {S : pS} (hS : sOk S) (h : RS S) : TwI g mX11_again mX12_again 2 2 [] S := by
  obtain ⟨⟨hE, hC, hD⟩, q2, q3, q4, q5, q6, q7, q8⟩ := h
  have h : RS S := ⟨⟨hE, hC, hD⟩, q2, q3, q4, q5, q6, q7, q8⟩
  refine ⟨_, s_X11_again g hS, fun x1 S1 q => ?_⟩
  obtain ⟨e1, f1, v1⟩ := q
  have e54 : S1.2.2.2 54 = S.2.2.2 54 := f1.2 54 (by decide)
  have e55 : S1.2.2.2 55 = S.2.2.2 55 := f1.2 55 (by decide)
  have e56 : S1.2.2.2 56 = S.2.2.2 56 := f1.2 56 (by decide)
  refine ⟨f1.ok hS, _, s_X12_again g (f1.ok hS), fun y1 S2 q => ?_⟩
  obtain ⟨e2, k2, v2⟩ := q
  have ff : FF _ _ [] S S1 S2 := ⟨f1, k2.kq⟩
  have key : agX (S.2.2.2 0 3) (vw S 19) = agnX (S.2.2.2 54 4) (S.2.2.2 56) ∧ EQ (agW (S.2.2.2 0 3) (vw S 19) (vw S 1)) (agnW (S.2.2.2 54 4) (S.2.2.2 56) (S.2.2.2 55)) ∧ CI (agW (S.2.2.2 0 3) (vw S 19) (vw S 1)) ∧ CI (agnW (S.2.2.2 54 4) (S.2.2.2 56) (S.2.2.2 55)) := by
    obtain ⟨k0, hk⟩ := q3
    rw [← k0]
    rcases hk with e0 | ⟨g1, g2, g3⟩
    · rw [e0]
      exact ⟨rfl, hE, hC, hD⟩
    · obtain ⟨b1, b2⟩ := hE.q_ag (k := S.2.2.2 0 3) g1 g3.1
      exact ⟨b1, b2, CI.ite (fun _ => hC) g2, CI.ite (fun _ => hD) g3.ovrC⟩
  rw [e55, e54, e56] at v2
  refine ⟨?_, k2.1, h.wr ff (by decide) (by decide) v1 v2 key.2.1 key.2.2.1 key.2.2.2⟩
  rw [e1, e2, e54, e56]
  exact key.1.symm
