/-! ===== the relation of both sides ===== -/
def c1 (S : pS) : Prop := EQ (vw S 1) (S.2.2.2 55) ∧ CI (vw S 1) ∧ CI (S.2.2.2 55)
def c3 (S : pS) : Prop := S.2.2.2 0 3 = S.2.2.2 54 4 ∧ (S.2.2.2 0 3 = 0 ∨ (EQ (vw S 19) (S.2.2.2 56) ∧ CI (vw S 19) ∧ CI (S.2.2.2 56)))
def c4 (S : pS) : Prop := (∃ t, t ≤ 200 ∧ S.2.2.2 29 1 = nI t ∧ S.2.2.2 54 9 = nI t) ∧ BR (S.2.2.2 30) (S.2.2.2 61) ∧ ∀ x, x < 112 → S.2.2.2 62 x = ltr x
def c5 (S : pS) : Prop := S.2.2.2 31 = S.2.2.2 63 ∧ ∃ r, r ≤ 10 ∧ S.2.2.2 0 8 = nI r ∧ S.2.2.2 54 17 = nI r
def c6 (S : pS) : Prop := ShR S (S.2.2.2 65) (S.2.2.2 66) (S.2.2.2 67) ∧ ShV (S.2.2.2 65) (S.2.2.2 66)
def c7 (S : pS) : Prop := SfR S (S.2.2.2 68) (S.2.2.2 69)
def c8 (S : pS) : Prop := S.2.2.2 46 = S.2.2.2 70 ∧ ∃ t, t ≤ 30 ∧ S.2.2.2 45 1 = nI t ∧ S.2.2.2 54 24 = nI t
def RS (S : pS) : Prop := c1 S ∧ IT S ∧ c3 S ∧ c4 S ∧ c5 S ∧ c6 S ∧ c7 S ∧ c8 S
/-- a call of the class, then the same call of the reference -/
def FF (J K F : List Nat) (S S1 S2 : pS) : Prop := fr J S S1 ∧ kq K F S1 S2
def off (J : List Nat) (l : List Nat) : Prop := ∀ q, q ∈ l → q ∉ J
theorem FF.cell {J K F : List Nat} {S S1 S2 : pS} (h : FF J K F S S1 S2) {q : Nat} (hj : q ∉ J) (hk : q ∉ K) (h54 : q ≠ 54) : S2.2.2.2 q = S.2.2.2 q := (h.2.2.1 q hk h54).trans (h.1.2 q hj)
theorem FF.fld {J K F : List Nat} {S S1 S2 : pS} (h : FF J K F S S1 S2) {f : Nat} (hj : 54 ∉ J) (hf : f ∉ F) (h7 : f ≠ 7) : S2.2.2.2 54 f = S.2.2.2 54 f := (h.2.2.2 f hf h7).trans (congrFun (h.1.2 54 hj) f)
theorem FF.vwk {J K F : List Nat} {S S1 S2 : pS} (h : FF J K F S S1 S2) {b : Nat} (hb : b + 6 < 54) (hk : ∀ c, c ≤ 6 → b + c ∉ K) : vw S2 b = vw S1 b := vw_cong (fun c hc => h.2.2.1 _ (hk c hc) (by omega))
theorem FF.ok {J K F : List Nat} {S S1 S2 : pS} (h : FF J K F S S1 S2) : sOk S2 := h.2.1
def okK (K : List Nat) : Prop := ∀ q, q ∈ K → 55 ≤ q
theorem okK.lo {K : List Nat} (h : okK K) {q : Nat} (hq : q < 55) : q ∉ K := fun z => by
  have := h q z
  omega
theorem FF.w {J K F : List Nat} {S S1 S2 : pS} (h : FF J K F S S1 S2) (hK : okK K) {b : Nat} (hb : b + 6 < 54) : vw S2 b = vw S1 b := h.vwk hb (fun c hc => hK.lo (by omega))
theorem FF.e1 {J K F : List Nat} {S S1 S2 : pS} (h : FF J K F S S1 S2) (hK : okK K) (hj : off J [1, 2, 3, 4, 5, 6, 7]) : vw S2 1 = vw S 1 := (h.w hK (by omega)).trans (h.1.vw (fun c hc => hj _ (by
  rcases (by omega : c = 0 ∨ c = 1 ∨ c = 2 ∨ c = 3 ∨ c = 4 ∨ c = 5 ∨ c = 6) with rfl | rfl | rfl | rfl | rfl | rfl | rfl <;> decide)))
theorem FF.e10 {J K F : List Nat} {S S1 S2 : pS} (h : FF J K F S S1 S2) (hK : okK K) (hj : off J [10, 11, 12, 13, 14, 15, 16]) : vw S2 10 = vw S 10 := (h.w hK (by omega)).trans (h.1.vw (fun c hc => hj _ (by
  rcases (by omega : c = 0 ∨ c = 1 ∨ c = 2 ∨ c = 3 ∨ c = 4 ∨ c = 5 ∨ c = 6) with rfl | rfl | rfl | rfl | rfl | rfl | rfl <;> decide)))
theorem FF.e19 {J K F : List Nat} {S S1 S2 : pS} (h : FF J K F S S1 S2) (hK : okK K) (hj : off J [19, 20, 21, 22, 23, 24, 25]) : vw S2 19 = vw S 19 := (h.w hK (by omega)).trans (h.1.vw (fun c hc => hj _ (by
  rcases (by omega : c = 0 ∨ c = 1 ∨ c = 2 ∨ c = 3 ∨ c = 4 ∨ c = 5 ∨ c = 6) with rfl | rfl | rfl | rfl | rfl | rfl | rfl <;> decide)))
theorem FF.k1 {J K F : List Nat} {S S1 S2 : pS} (h : FF J K F S S1 S2) (hK : okK K) (hj : off J [1, 2, 3, 4, 5, 6, 7, 55]) (h55 : 55 ∉ K) (q : c1 S) : c1 S2 := by
  unfold c1
  rw [h.e1 hK (fun x hx => hj x (by revert hx; simp; omega)), h.cell (q := 55) (hj 55 (by decide)) h55 (by omega)]
  exact q
theorem FF.k2 {J K F : List Nat} {S S1 S2 : pS} (h : FF J K F S S1 S2) (hK : okK K) (hj : off J [10, 11, 12, 13, 14, 15, 16]) (q : IT S) : IT S2 := by
  unfold IT
  rw [h.e10 hK hj]
  exact q
theorem FF.t2 {J K F : List Nat} {S S1 S2 : pS} (h : FF J K F S S1 S2) (hK : okK K) (q : IT S1) : IT S2 := by
  unfold IT
  rw [h.w hK (b := 10) (by omega)]
  exact q
theorem FF.k3 {J K F : List Nat} {S S1 S2 : pS} (h : FF J K F S S1 S2) (hK : okK K) (hj : off J [19, 20, 21, 22, 23, 24, 25, 54, 56]) (h0 : S1.2.2.2 0 3 = S.2.2.2 0 3) (h56 : 56 ∉ K) (h4 : 4 ∉ F) (q : c3 S) : c3 S2 := by
  unfold c3
  rw [h.e19 hK (fun x hx => hj x (by revert hx; simp; omega)), h.cell (q := 56) (hj 56 (by decide)) h56 (by omega), h.fld (hj 54 (by decide)) h4 (by omega), h.2.2.1 0 (hK.lo (by omega)) (by omega), h0]
  exact q
theorem FF.k4 {J K F : List Nat} {S S1 S2 : pS} (h : FF J K F S S1 S2) (hK : okK K) (hj : off J [29, 30, 54, 61, 62]) (hk : off K [61, 62]) (h9 : 9 ∉ F) (q : c4 S) : c4 S2 := by
  unfold c4
  rw [h.cell (q := 29) (hj _ (by decide)) (hK.lo (by omega)) (by omega), h.cell (q := 30) (hj _ (by decide)) (hK.lo (by omega)) (by omega), h.cell (q := 61) (hj _ (by decide)) (hk _ (by decide)) (by omega), h.cell (q := 62) (hj _ (by decide)) (hk _ (by decide)) (by omega), h.fld (hj 54 (by decide)) h9 (by omega)]
  exact q
theorem FF.k5 {J K F : List Nat} {S S1 S2 : pS} (h : FF J K F S S1 S2) (hK : okK K) (hj : off J [0, 31, 54, 63]) (hk : 63 ∉ K) (h9 : 17 ∉ F) (q : c5 S) : c5 S2 := by
  unfold c5
  rw [h.cell (q := 0) (hj _ (by decide)) (hK.lo (by omega)) (by omega), h.cell (q := 31) (hj _ (by decide)) (hK.lo (by omega)) (by omega), h.cell (q := 63) (hj _ (by decide)) hk (by omega), h.fld (hj 54 (by decide)) h9 (by omega)]
  exact q
theorem ShR.cg {S S' : pS} {so sz it : Nat → Int32} (h : ShR S so sz it) (e : ∀ q, 34 ≤ q → q ≤ 41 → S'.2.2.2 q = S.2.2.2 q) : ShR S' so sz it := fun j hj => by
  obtain ⟨q1, q2, q3⟩ := h j hj
  rw [e _ (by omega) (by omega), e (34 + 2 * j + 1) (by omega) (by omega)]
  exact ⟨q1, q2, q3⟩
theorem in8 {q : Nat} (h1 : 34 ≤ q) (h2 : q ≤ 41) : q ∈ [34, 35, 36, 37, 38, 39, 40, 41] := by
  simp
  omega
theorem FF.k6 {J K F : List Nat} {S S1 S2 : pS} (h : FF J K F S S1 S2) (hK : okK K) (hj : off J [34, 35, 36, 37, 38, 39, 40, 41, 65, 66, 67]) (hk : off K [65, 66, 67]) (q : c6 S) : c6 S2 := by
  unfold c6
  rw [h.cell (q := 65) (hj _ (by decide)) (hk _ (by decide)) (by omega), h.cell (q := 66) (hj _ (by decide)) (hk _ (by decide)) (by omega), h.cell (q := 67) (hj _ (by decide)) (hk _ (by decide)) (by omega)]
  exact ⟨q.1.cg (fun x a b => h.cell (hj x (List.mem_append_left [65, 66, 67] (in8 a b))) (hK.lo (by omega)) (by omega)), q.2⟩
theorem SfR.cg {S S' : pS} {ho h1 : Nat → Int32} (h : SfR S ho h1) (e2 : S'.2.2.2 42 = S.2.2.2 42) (e3 : S'.2.2.2 43 = S.2.2.2 43) (e4 : S'.2.2.2 44 = S.2.2.2 44) : SfR S' ho h1 := fun j hj => by
  rw [e2, e3, e4]
  exact h j hj
theorem FF.k7 {J K F : List Nat} {S S1 S2 : pS} (h : FF J K F S S1 S2) (hK : okK K) (hj : off J [42, 43, 44, 68, 69]) (hk : off K [68, 69]) (q : c7 S) : c7 S2 := by
  unfold c7
  rw [h.cell (q := 68) (hj _ (by decide)) (hk _ (by decide)) (by omega), h.cell (q := 69) (hj _ (by decide)) (hk _ (by decide)) (by omega)]
  exact SfR.cg q (h.cell (hj _ (by decide)) (hK.lo (by omega)) (by omega)) (h.cell (hj _ (by decide)) (hK.lo (by omega)) (by omega)) (h.cell (hj _ (by decide)) (hK.lo (by omega)) (by omega))
theorem FF.k8 {J K F : List Nat} {S S1 S2 : pS} (h : FF J K F S S1 S2) (hK : okK K) (hj : off J [45, 46, 54, 70]) (hk : 70 ∉ K) (h9 : 24 ∉ F) (q : c8 S) : c8 S2 := by
  unfold c8
  rw [h.cell (q := 45) (hj _ (by decide)) (hK.lo (by omega)) (by omega), h.cell (q := 46) (hj _ (by decide)) (hK.lo (by omega)) (by omega), h.cell (q := 70) (hj _ (by decide)) hk (by omega), h.fld (hj 54 (by decide)) h9 (by omega)]
  exact q
/-- a call that is only asked -/
def JR : List Nat := [8, 9, 10, 11, 12, 13, 14, 15, 16, 17, 18, 32]
def KR : List Nat := [57, 59, 60, 64]
theorem RS.ro {J K : List Nat} {S S1 S2 : pS} (h : RS S) (hf : FF J K [] S S1 S2) (hJ : ∀ q, q ∈ J → q ∈ JR) (hK : ∀ q, q ∈ K → q ∈ KR) (h2 : IT S2) : RS S2 := by
  obtain ⟨q1, q2, q3, q4, q5, q6, q7, q8⟩ := h
  have f : FF JR KR [] S S1 S2 := ⟨hf.1.mono hJ, hf.2.mono hK (fun _ z => z)⟩
  have ok : okK KR := by unfold okK; decide
  exact ⟨f.k1 ok (by unfold off; decide) (by decide) q1, h2, f.k3 ok (by unfold off; decide) (congrFun (f.1.2 0 (by decide)) 3) (by decide) (by decide) q3, f.k4 ok (by unfold off; decide) (by unfold off; decide) (by decide) q4, f.k5 ok (by unfold off; decide) (by decide) (by decide) q5, f.k6 ok (by unfold off; decide) (by unfold off; decide) q6, f.k7 ok (by unfold off; decide) (by unfold off; decide) q7, f.k8 ok (by unfold off; decide) (by decide) (by decide) q8⟩
/-- a call that changes the company alone -/
def JW : List Nat := [1, 2, 3, 4, 5, 6, 7, 8, 9]
def KW : List Nat := [55, 59, 60]
theorem RS.wr {J K : List Nat} {S S1 S2 : pS} {A B : Nat → Int32} (h : RS S) (hf : FF J K [] S S1 S2) (hJ : ∀ q, q ∈ J → q ∈ JW) (hK : ∀ q, q ∈ K → q ∈ KW) (e1 : vw S1 1 = A) (e2 : S2.2.2.2 55 = B) (hE : EQ A B) (hA : CI A) (hB : CI B) : RS S2 := by
  obtain ⟨q1, q2, q3, q4, q5, q6, q7, q8⟩ := h
  have f : FF JW KW [] S S1 S2 := ⟨hf.1.mono hJ, hf.2.mono hK (fun _ z => z)⟩
  have ok : okK KW := by unfold okK; decide
  refine ⟨?_, f.k2 ok (by unfold off; decide) q2, f.k3 ok (by unfold off; decide) (congrFun (f.1.2 0 (by decide)) 3) (by decide) (by decide) q3, f.k4 ok (by unfold off; decide) (by unfold off; decide) (by decide) q4, f.k5 ok (by unfold off; decide) (by decide) (by decide) q5, f.k6 ok (by unfold off; decide) (by unfold off; decide) q6, f.k7 ok (by unfold off; decide) (by unfold off; decide) q7, f.k8 ok (by unfold off; decide) (by decide) (by decide) q8⟩
  unfold c1
  rw [f.w ok (b := 1) (by omega), e1, e2]
  exact ⟨hE, hA, hB⟩
theorem fT.it {J K F : List Nat} {S S1 S2 : pS} (h : fT J S S1) (hk : kq K F S1 S2) (hK : okK K) (q : IT S) : IT S2 := FF.t2 ⟨h.1, hk⟩ hK (h.2 q)
