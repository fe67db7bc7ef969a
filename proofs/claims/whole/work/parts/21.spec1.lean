theorem out_of2 {x : Int32} {lo n : Nat} (hn : n < 2147483647) (h : ∀ j : Nat, lo ≤ j → j ≤ n → x ≠ nI j) : x.toInt < (lo : Int) ∨ (n : Int) < x.toInt := by
  by_cases c : x.toInt < 0
  · left; omega
  · have h0 : ¬ x < 0 := fun z => c (by have := Int32.lt_iff_toInt_lt.mp z; simpa using this)
    obtain ⟨j, hj, e⟩ := nI_of h0
    have e2 := nI_toInt hj
    rw [← e] at e2
    by_cases c1 : j < lo
    · left; omega
    · right
      have h1 : ¬ j ≤ n := fun z => h j (by omega) z e
      omega
/-! ===== what is true of the world once made ===== -/
def sOk (S : pS) : Prop := S.1 = 71 ∧ S.2.1 = sh0 ∧ S.2.2.1 = rf0
theorem sOk_gs {S : pS} (h : sOk S) : ∃ M, S = Gs M := by
  obtain ⟨a, b, c, M⟩ := S
  obtain ⟨h1, h2, h3⟩ := h
  simp only at h1 h2 h3
  subst h1; subst h2; subst h3
  exact ⟨M, rfl⟩
theorem CoS {S : pS} {b : Nat} (h : sOk S) (hb : b = 1 ∨ b = 10 ∨ b = 19) : Co S b := by
  obtain ⟨M, rfl⟩ := sOk_gs h
  exact CoG hb
theorem Co_lt {S : pS} {b : Nat} (h : Co S b) : b < S.1 := by have := h.1; omega
theorem Co_la1 {S : pS} {b : Nat} (h : Co S b) : b + 1 < S.1 := by have := h.1; omega
theorem Co_la2 {S : pS} {b : Nat} (h : Co S b) : b + 2 < S.1 := by have := h.1; omega
theorem Co_la3 {S : pS} {b : Nat} (h : Co S b) : b + 3 < S.1 := by have := h.1; omega
theorem Co_la4 {S : pS} {b : Nat} (h : Co S b) : b + 4 < S.1 := by have := h.1; omega
theorem Co_la5 {S : pS} {b : Nat} (h : Co S b) : b + 5 < S.1 := by have := h.1; omega
theorem Co_la6 {S : pS} {b : Nat} (h : Co S b) : b + 6 < S.1 := by have := h.1; omega
theorem Co_la7 {S : pS} {b : Nat} (h : Co S b) : b + 7 < S.1 := by have := h.1; omega
theorem Co_la8 {S : pS} {b : Nat} (h : Co S b) : b + 8 < S.1 := by have := h.1; omega
theorem dI_t {P : Prop} [Decidable P] {S : pS} (h : P) : dI (bI P) S (some (.int 1)) S := ⟨by rw [bI_t h], rfl⟩
theorem dI_f {P : Prop} [Decidable P] {S : pS} (h : ¬ P) : dI (bI P) S (some (.int 0)) S := ⟨by rw [bI_f h], rfl⟩
theorem dI_b {P Q : Prop} [Decidable P] [Decidable Q] {S : pS} (h : P ↔ Q) : dI (bI P) S (some (.int (bI Q))) S := ⟨by rw [bI_c h], rfl⟩
theorem dI_e {x y : Int32} {S : pS} (h : y = x) : dI x S (some (.int y)) S := ⟨by rw [h], rfl⟩
theorem dI_es {x y : Int32} {S Y : pS} (h : y = x) (h2 : S = Y) : dI x Y (some (.int y)) S := ⟨by rw [h], h2⟩
/-! ===== a company, as the reference's row of numbers has it; what is asked of one ===== -/
def heldR (v m : Int32) : Int32 := if v < 0 then 0 else if m < v then m else v
def goodR (W : Nat → Int32) (k p : Nat) : Int32 :=
  if W (16 + 11 * k + 0) = 1 then (if W (16 + 11 * k + 1) = nI p then W (16 + 11 * k + (3 + p)) else W (16 + 11 * k + (3 + p)) + W 1)
  else if W (16 + 11 * k + 0) = 2 then W (16 + 11 * k + (3 + p)) / 2
  else if W (16 + 11 * k + 0) = 3 then (if W (16 + 11 * k + 1) = nI p then W (16 + 11 * k + (3 + p)) else W (16 + 11 * k + (3 + p)) + W 1 + 10)
  else if W (16 + 11 * k + 0) = 4 then W (16 + 11 * k + (3 + p)) / 2 + 2 * W 2
  else if W (16 + 11 * k + 0) = 5 then (if W (16 + 11 * k + 1) = nI p then W (16 + 11 * k + (3 + p)) + 5 else 0)
  else W (16 + 11 * k + (3 + p))
def learnsR (W : Nat → Int32) (k : Nat) : Int32 :=
  if W (16 + 11 * k + 0) = 1 then 2 + W 1 else if W (16 + 11 * k + 0) = 2 then 6 else if W (16 + 11 * k + 0) = 3 then 1 + W 1
  else if W (16 + 11 * k + 0) = 4 then 0 else if W (16 + 11 * k + 0) = 5 then -1 else 2
def forgetsR (W : Nat → Int32) (k : Nat) : Int32 :=
  if W (16 + 11 * k + 0) = 1 then 0 else if W (16 + 11 * k + 0) = 2 then 2 else if W (16 + 11 * k + 0) = 3 then 0
  else if W (16 + 11 * k + 0) = 4 then 2 - W 2 else if W (16 + 11 * k + 0) = 5 then 2 else 1
/-! ===== locals: fewer of them ===== -/
def subL : pL → pL → Prop
  | [], _ => True
  | none :: t, [] => subL t []
  | none :: t, _ :: u => subL t u
  | some _ :: _, [] => False
  | some v :: t, w :: u => w = some v ∧ subL t u
theorem subL_at : ∀ {L' L : pL}, subL L' L → ∀ (i : Nat) (v : Value), L'[i]? = some (some v) → L[i]? = some (some v)
  | [], _, _, i, v, h => by simp at h
  | none :: t, [], hs, i, v, h => by
    match i, h with
    | 0, h => simp at h
    | i + 1, h => exact absurd (subL_at (L' := t) (L := []) hs i v (by simpa using h)) (by simp)
  | none :: t, w :: u, hs, i, v, h => by
    match i, h with
    | 0, h => simp at h
    | i + 1, h => simpa using subL_at (L' := t) (L := u) hs i v (by simpa using h)
  | some x :: t, [], hs, i, v, h => False.elim hs
  | some x :: t, w :: u, hs, i, v, h => by
    match i, h with
    | 0, h => simp at h; subst h; simp [hs.1]
    | i + 1, h => simpa using subL_at (L' := t) (L := u) hs.2 i v (by simpa using h)
theorem PW.subL {g : pG} {M : pM} {E : pE} {pc : Nat} {L L' : pL} {st : List Value} {S : pS} {k n : Nat} (h : PW g M E pc L' st S k n) (hs : subL L' L) : PW g M E pc L st S k n := PW.sub h (subL_at hs)
theorem PW.top {g : pG} {M : pM} {E : pE} {pc : Nat} {L : pL} {st : List Value} {S : pS} {k n : Nat} {x y : Int32} (e : x = y) (h : PW g M E pc L (.int y :: st) S k n) : PW g M E pc L (.int x :: st) S k n := by rw [e]; exact h
/-- what a method leaves: all cells but those of J, and of the reference's own fields all but lastShow -/
def kp (J : List Nat) (S S' : pS) : Prop := sOk S' ∧ (∀ q, q ∉ J → q ≠ 54 → S'.2.2.2 q = S.2.2.2 q) ∧ ∀ f, f ≠ 7 → S'.2.2.2 54 f = S.2.2.2 54 f
theorem kp.rf {J : List Nat} {S : pS} (h : sOk S) : kp J S S := ⟨h, fun _ _ _ => rfl, fun _ _ => rfl⟩
theorem kp.tr {J : List Nat} {S1 S2 S3 : pS} (h : kp J S1 S2) (h2 : kp J S2 S3) : kp J S1 S3 := ⟨h2.1, fun q a b => (h2.2.1 q a b).trans (h.2.1 q a b), fun f a => (h2.2.2 f a).trans (h.2.2 f a)⟩
theorem kp.mono {J J' : List Nat} {S S' : pS} (h : kp J S S') (hj : ∀ q, q ∈ J → q ∈ J') : kp J' S S' := ⟨h.1, fun q a b => h.2.1 q (fun z => a (hj q z)) b, h.2.2⟩
theorem kp.set {J : List Nat} {S S' : pS} (h : kp J S S') {i k : Nat} {v : Int32} (hi : i ∈ J) (h54 : i ≠ 54) : kp J S (mSet S' i k v) := ⟨h.1, fun q a b => by
    have e : q ≠ i := fun z => a (z ▸ hi)
    show (mSet S' i k v).2.2.2 q = _
    simp only [mSet, if_neg e]
    exact h.2.1 q a b, fun f a => by
    show (mSet S' i k v).2.2.2 54 f = _
    simp only [mSet, if_neg (Ne.symm h54)]
    exact h.2.2 f a⟩
theorem kp.set7 {J : List Nat} {S S' : pS} (h : kp J S S') {v : Int32} : kp J S (mSet S' 54 7 v) := ⟨h.1, fun q a b => by
    show (mSet S' 54 7 v).2.2.2 q = _
    simp only [mSet, if_neg b]
    exact h.2.1 q a b, fun f a => by
    show (mSet S' 54 7 v).2.2.2 54 f = _
    simp only [mSet, if_pos, upd]
    rw [if_neg a]
    exact h.2.2 f a⟩
theorem mSet_at {S : pS} {i k : Nat} {v : Int32} : (mSet S i k v).2.2.2 i = upd (S.2.2.2 i) k v := by simp [mSet]
theorem mSet_ne {S : pS} {i k j : Nat} {v : Int32} (h : j ≠ i) : (mSet S i k v).2.2.2 j = S.2.2.2 j := by simp [mSet, h]
theorem upd_at {f : Nat → Int32} {k : Nat} {x : Int32} : upd f k x k = x := pk_us
/-! ===== who plays what ===== -/
def owR (W : Nat → Int32) (k : Nat) : Nat := (W (16 + 11 * k + 1)).toNatClampNeg
def freeR (W c : Nat → Int32) (k p : Nat) : Bool := decide (owR W k = p) || (decide (owR W k < p) && decide (0 ≤ c (owR W k))) || (decide (p < owR W k) && decide (W (8 + owR W k) ≤ W (8 + p)))
def mayR (W c r : Nat → Int32) (k p : Nat) : Bool := freeR W c k p && decide (W (16 + 11 * k + 2) = 0) && decide (r k = 8) && decide (W 3 ≤ goodR W k p)
theorem mayR_iff {W c r : Nat → Int32} {k p : Nat} : mayR W c r k p = true ↔ (freeR W c k p = true ∧ W (16 + 11 * k + 2) = 0 ∧ r k = 8 ∧ W 3 ≤ goodR W k p) := by simp [mayR, and_assoc]
def bestR (W c r : Nat → Int32) (p : Nat) : Nat → Int32
  | 0 => -1
  | n + 1 => if mayR W c r n p = true ∧ (bestR W c r p n < 0 ∨ goodR W (bestR W c r p n).toNatClampNeg p < goodR W n p) then nI n else bestR W c r p n
def plR (W : Nat → Int32) : Nat := (W 6).toNatClampNeg
def billR (W : Nat → Int32) : Nat → (Nat → Int32) × (Nat → Int32)
  | 0 => (fun _ => -1, fun _ => 8)
  | p + 1 => (upd (billR W p).1 p (bestR W (billR W p).1 (billR W p).2 p (plR W)), if bestR W (billR W p).1 (billR W p).2 p (plR W) < 0 then (billR W p).2 else upd (billR W p).2 (bestR W (billR W p).1 (billR W p).2 p (plR W)).toNatClampNeg (nI p))
theorem bestR_t {W c r : Nat → Int32} {p n : Nat} (hm : mayR W c r n p = true) (h : bestR W c r p n < 0 ∨ goodR W (bestR W c r p n).toNatClampNeg p < goodR W n p) : nI n = bestR W c r p (n + 1) := by rw [bestR, if_pos ⟨hm, h⟩]
theorem bestR_f {W c r : Nat → Int32} {p n : Nat} (h : ¬ (mayR W c r n p = true ∧ (bestR W c r p n < 0 ∨ goodR W (bestR W c r p n).toNatClampNeg p < goodR W n p))) : bestR W c r p n = bestR W c r p (n + 1) := by rw [bestR, if_neg h]
theorem bestR_or (W c r : Nat → Int32) (p : Nat) : ∀ n, n ≤ 8 → bestR W c r p n = -1 ∨ ∃ b, b < n ∧ bestR W c r p n = nI b
  | 0, _ => Or.inl rfl
  | n + 1, hn => by
    rcases bestR_or W c r p n (by omega) with h | ⟨b, hb, h⟩
    · rw [bestR]
      split
      · exact Or.inr ⟨n, by omega, rfl⟩
      · exact Or.inl h
    · rw [bestR]
      split
      · exact Or.inr ⟨n, by omega, rfl⟩
      · exact Or.inr ⟨b, by omega, h⟩
theorem bestR_nn {W c r : Nat → Int32} {p n : Nat} (hn : n ≤ 8) (h : ¬ bestR W c r p n < 0) : ∃ b, b < n ∧ bestR W c r p n = nI b := by
  rcases bestR_or W c r p n hn with e | e
  · rw [e] at h; exact absurd (by decide) h
  · exact e
theorem bestR_cong {W c r c' r' : Nat → Int32} {p : Nat} (hc : ∀ x, x < 8 → c x = c' x) (hr : ∀ x, x < 8 → r x = r' x) (ho : ∀ k, k < 8 → owR W k < 8) : ∀ n, n ≤ 8 → bestR W c r p n = bestR W c' r' p n
  | 0, _ => rfl
  | n + 1, hn => by
    have e1 : mayR W c r n p = mayR W c' r' n p := by
      unfold mayR freeR
      rw [hr n (by omega), hc _ (ho n (by omega))]
    rw [bestR, bestR, bestR_cong hc hr ho n (by omega), e1]
theorem owR_e {W : Nat → Int32} {k o : Nat} (ho : o < 8) (h : W (16 + 11 * k + 1) = nI o) : owR W k = o := by unfold owR; rw [h]; exact nI_clamp (by omega)
/-- the ranges of a company's numbers -/
def InvR (W : Nat → Int32) : Prop := (∃ n, n ≤ 8 ∧ W 6 = nI n) ∧ (∀ k, k < 8 → ∃ o, o < 8 ∧ W (16 + 11 * k + 1) = nI o)
theorem InvR.pl {W : Nat → Int32} (h : InvR W) : plR W ≤ 8 ∧ W 6 = nI (plR W) := by
  obtain ⟨n, hn, e⟩ := h.1
  have : plR W = n := by unfold plR; rw [e]; exact nI_clamp (by omega)
  rw [this]; exact ⟨hn, e⟩
theorem InvR.own {W : Nat → Int32} (h : InvR W) : ∀ k, k < 8 → owR W k < 8 := fun k hk => by
  obtain ⟨o, ho, e⟩ := h.2 k hk
  rw [owR_e ho e]; exact ho
