theorem out_of2 {x : Int32} {lo n : Nat} (hn : n < 2147483647) (h : ∀ j : Nat, lo ≤ j → j ≤ n → x ≠ nI j) : x.toInt < (lo : Int) ∨ (n : Int) < x.toInt := by
  by_cases c : x.toInt < 0
  · left; omega
  · have h0 : ¬ x < 0 := fun z => c (by have := Int32.lt_iff_toInt_lt.mp z; simpa using this)
    obtain ⟨j, hj, e⟩ := nI_of h0
    have e2 := nI_toInt hj
    rw [← e] at e2
    by_cases c1 : j < lo
    · left; omega
    · right
      have h1 : ¬ j ≤ n := fun z => h j (by omega) z e
      omega
/-! ===== what is true of the world once made ===== -/
def sOk (S : pS) : Prop := S.1 = 71 ∧ S.2.1 = sh0 ∧ S.2.2.1 = rf0
theorem sOk_gs {S : pS} (h : sOk S) : ∃ M, S = Gs M := by
  obtain ⟨a, b, c, M⟩ := S
  obtain ⟨h1, h2, h3⟩ := h
  simp only at h1 h2 h3
  subst h1; subst h2; subst h3
  exact ⟨M, rfl⟩
theorem CoS {S : pS} {b : Nat} (h : sOk S) (hb : b = 1 ∨ b = 10 ∨ b = 19) : Co S b := by
  obtain ⟨M, rfl⟩ := sOk_gs h
  exact CoG hb
theorem Co_lt {S : pS} {b : Nat} (h : Co S b) : b < S.1 := by have := h.1; omega
theorem Co_la1 {S : pS} {b : Nat} (h : Co S b) : b + 1 < S.1 := by have := h.1; omega
theorem Co_la2 {S : pS} {b : Nat} (h : Co S b) : b + 2 < S.1 := by have := h.1; omega
theorem Co_la3 {S : pS} {b : Nat} (h : Co S b) : b + 3 < S.1 := by have := h.1; omega
theorem Co_la4 {S : pS} {b : Nat} (h : Co S b) : b + 4 < S.1 := by have := h.1; omega
theorem Co_la5 {S : pS} {b : Nat} (h : Co S b) : b + 5 < S.1 := by have := h.1; omega
theorem Co_la6 {S : pS} {b : Nat} (h : Co S b) : b + 6 < S.1 := by have := h.1; omega
theorem Co_la7 {S : pS} {b : Nat} (h : Co S b) : b + 7 < S.1 := by have := h.1; omega
theorem Co_la8 {S : pS} {b : Nat} (h : Co S b) : b + 8 < S.1 := by have := h.1; omega
theorem dI_t {P : Prop} [Decidable P] {S : pS} (h : P) : dI (bI P) S (some (.int 1)) S := ⟨by rw [bI_t h], rfl⟩
theorem dI_f {P : Prop} [Decidable P] {S : pS} (h : ¬ P) : dI (bI P) S (some (.int 0)) S := ⟨by rw [bI_f h], rfl⟩
theorem dI_b {P Q : Prop} [Decidable P] [Decidable Q] {S : pS} (h : P ↔ Q) : dI (bI P) S (some (.int (bI Q))) S := ⟨by rw [bI_c h], rfl⟩
theorem dI_e {x y : Int32} {S : pS} (h : y = x) : dI x S (some (.int y)) S := ⟨by rw [h], rfl⟩
theorem dI_es {x y : Int32} {S Y : pS} (h : y = x) (h2 : S = Y) : dI x Y (some (.int y)) S := ⟨by rw [h], h2⟩
/-! ===== a company, as the reference's row of numbers has it; what is asked of one ===== -/
def heldR (v m : Int32) : Int32 := if v < 0 then 0 else if m < v then m else v
def goodR (W : Nat → Int32) (k p : Nat) : Int32 :=
  if W (16 + 11 * k + 0) = 1 then (if W (16 + 11 * k + 1) = nI p then W (16 + 11 * k + (3 + p)) else W (16 + 11 * k + (3 + p)) + W 1)
  else if W (16 + 11 * k + 0) = 2 then W (16 + 11 * k + (3 + p)) / 2
  else if W (16 + 11 * k + 0) = 3 then (if W (16 + 11 * k + 1) = nI p then W (16 + 11 * k + (3 + p)) else W (16 + 11 * k + (3 + p)) + W 1 + 10)
  else if W (16 + 11 * k + 0) = 4 then W (16 + 11 * k + (3 + p)) / 2 + 2 * W 2
  else if W (16 + 11 * k + 0) = 5 then (if W (16 + 11 * k + 1) = nI p then W (16 + 11 * k + (3 + p)) + 5 else 0)
  else W (16 + 11 * k + (3 + p))
def learnsR (W : Nat → Int32) (k : Nat) : Int32 :=
  if W (16 + 11 * k + 0) = 1 then 2 + W 1 else if W (16 + 11 * k + 0) = 2 then 6 else if W (16 + 11 * k + 0) = 3 then 1 + W 1
  else if W (16 + 11 * k + 0) = 4 then 0 else if W (16 + 11 * k + 0) = 5 then -1 else 2
def forgetsR (W : Nat → Int32) (k : Nat) : Int32 :=
  if W (16 + 11 * k + 0) = 1 then 0 else if W (16 + 11 * k + 0) = 2 then 2 else if W (16 + 11 * k + 0) = 3 then 0
  else if W (16 + 11 * k + 0) = 4 then 2 - W 2 else if W (16 + 11 * k + 0) = 5 then 2 else 1
