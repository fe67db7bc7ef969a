/-! ===== the class's company, seen as the reference's row ===== -/
def loV (i : Nat) : Nat × Nat := if i = 0 then (0, 7) else if i < 5 then (1, i - 1) else if i = 5 then (0, 9) else if i = 6 then (0, 6) else if i = 7 then (0, 8) else if i < 16 then (2, i - 8) else if (i - 16) % 11 = 0 then (3, (i - 16) / 11) else if (i - 16) % 11 = 1 then (4, (i - 16) / 11) else if (i - 16) % 11 = 2 then (5, (i - 16) / 11) else (6, (i - 16) / 11 * 8 + ((i - 16) % 11 - 3))
def vw (S : pS) (b : Nat) : Nat → Int32 := fun i => if i < 104 then S.2.2.2 (b + (loV i).1) (loV i).2 else 0
theorem lo_inj {i j : Nat} (hi : i < 104) (hj : j < 104) (h : loV i = loV j) : i = j := by
  have H : ∀ a : Fin 104, ∀ c : Fin 104, loV a.1 = loV c.1 → a.1 = c.1 := by decide +kernel
  exact H ⟨i, hi⟩ ⟨j, hj⟩ h
theorem lo_f {k f : Nat} (hk : k < 8) (hf : f < 3) : loV (16 + 11 * k + f) = (3 + f, k) := by
  have H : ∀ a : Fin 8, ∀ c : Fin 3, loV (16 + 11 * a.1 + c.1) = (3 + c.1, a.1) := by decide +kernel
  exact H ⟨k, hk⟩ ⟨f, hf⟩
theorem lo_n {k p : Nat} (hk : k < 8) (hp : p < 8) : loV (16 + 11 * k + (3 + p)) = (6, k * 8 + p) := by
  have H : ∀ a : Fin 8, ∀ c : Fin 8, loV (16 + 11 * a.1 + (3 + c.1)) = (6, a.1 * 8 + c.1) := by decide +kernel
  exact H ⟨k, hk⟩ ⟨p, hp⟩
theorem lo_w {p : Nat} (hp : p < 8) : loV (8 + p) = (2, p) := by
  have H : ∀ c : Fin 8, loV (8 + c.1) = (2, c.1) := by decide +kernel
  exact H ⟨p, hp⟩
theorem lo_c {i : Nat} (h : i < 104) : (loV i).1 ≤ 6 := by
  have H : ∀ a : Fin 104, (loV a.1).1 ≤ 6 := by decide +kernel
  exact H ⟨i, h⟩
theorem vw_in {S : pS} {b j : Nat} (h : j < 104) : vw S b j = S.2.2.2 (b + (loV j).1) (loV j).2 := if_pos h
theorem vw_out {S : pS} {b j : Nat} (h : ¬ j < 104) : vw S b j = 0 := if_neg h
theorem vw_at {S : pS} {b i c k : Nat} (hi : i < 104) (e : loV i = (c, k)) : vw S b i = S.2.2.2 (b + c) k := by
  unfold vw; rw [if_pos hi, e]
theorem vw_k {S : pS} {b k : Nat} (hk : k < 8) : vw S b (16 + 11 * k + 0) = S.2.2.2 (b + 3) k := vw_at (by omega) (lo_f hk (by omega))
theorem vw_o {S : pS} {b k : Nat} (hk : k < 8) : vw S b (16 + 11 * k + 1) = S.2.2.2 (b + 4) k := vw_at (by omega) (lo_f hk (by omega))
theorem vw_i {S : pS} {b k : Nat} (hk : k < 8) : vw S b (16 + 11 * k + 2) = S.2.2.2 (b + 5) k := vw_at (by omega) (lo_f hk (by omega))
theorem vw_n {S : pS} {b k p : Nat} (hk : k < 8) (hp : p < 8) : vw S b (16 + 11 * k + (3 + p)) = S.2.2.2 (b + 6) (k * 8 + p) := vw_at (by omega) (lo_n hk hp)
theorem vw_w {S : pS} {b p : Nat} (hp : p < 8) : vw S b (8 + p) = S.2.2.2 (b + 2) p := vw_at (by omega) (lo_w hp)
theorem vw_l {S : pS} {b j : Nat} (hj : j < 4) : vw S b (1 + j) = S.2.2.2 (b + 1) j := by
  refine vw_at (by omega) ?_
  have H : ∀ c : Fin 4, loV (1 + c.1) = (1, c.1) := by decide +kernel
  exact H ⟨j, hj⟩
theorem vw_0 {S : pS} {b : Nat} : vw S b 0 = S.2.2.2 b 7 := rfl
theorem vw_1 {S : pS} {b : Nat} : vw S b 1 = S.2.2.2 (b + 1) 0 := rfl
theorem vw_2 {S : pS} {b : Nat} : vw S b 2 = S.2.2.2 (b + 1) 1 := rfl
theorem vw_3 {S : pS} {b : Nat} : vw S b 3 = S.2.2.2 (b + 1) 2 := rfl
theorem vw_4 {S : pS} {b : Nat} : vw S b 4 = S.2.2.2 (b + 1) 3 := rfl
theorem vw_5 {S : pS} {b : Nat} : vw S b 5 = S.2.2.2 b 9 := rfl
theorem vw_6 {S : pS} {b : Nat} : vw S b 6 = S.2.2.2 b 6 := rfl
theorem vw_7 {S : pS} {b : Nat} : vw S b 7 = S.2.2.2 b 8 := rfl
theorem vw_set {S : pS} {b i c k : Nat} {v : Int32} (hi : i < 104) (e : loV i = (c, k)) : vw (mSet S (b + c) k v) b = upd (vw S b) i v := by
  funext j
  by_cases hj : j < 104
  · by_cases h : j = i
    · subst h
      rw [vw_in hj, e, mSet_at, pk_us, pk_us]
    · rw [vw_in hj, pk_un h, vw_in hj]
      by_cases h1 : (loV j).1 = c
      · have h2 : (loV j).2 ≠ k := fun z => h (lo_inj hj hi (by rw [e, ← h1, ← z]))
        rw [h1, mSet_at, pk_un h2]
      · rw [mSet_ne (by omega)]
  · rw [vw_out hj, pk_un (by omega), vw_out hj]
theorem vs_k {S : pS} {b k : Nat} {v : Int32} (hk : k < 8) : vw (mSet S (b + 3) k v) b = upd (vw S b) (16 + 11 * k + 0) v := vw_set (by omega) (lo_f hk (by omega))
theorem vs_o {S : pS} {b k : Nat} {v : Int32} (hk : k < 8) : vw (mSet S (b + 4) k v) b = upd (vw S b) (16 + 11 * k + 1) v := vw_set (by omega) (lo_f hk (by omega))
theorem vs_i {S : pS} {b k : Nat} {v : Int32} (hk : k < 8) : vw (mSet S (b + 5) k v) b = upd (vw S b) (16 + 11 * k + 2) v := vw_set (by omega) (lo_f hk (by omega))
theorem vs_n {S : pS} {b k p : Nat} {v : Int32} (hk : k < 8) (hp : p < 8) : vw (mSet S (b + 6) (k * 8 + p) v) b = upd (vw S b) (16 + 11 * k + (3 + p)) v := vw_set (by omega) (lo_n hk hp)
theorem vs_w {S : pS} {b p : Nat} {v : Int32} (hp : p < 8) : vw (mSet S (b + 2) p v) b = upd (vw S b) (8 + p) v := vw_set (by omega) (lo_w hp)
theorem vs_l {S : pS} {b j : Nat} {v : Int32} (hj : j < 4) : vw (mSet S (b + 1) j v) b = upd (vw S b) (1 + j) v := by
  refine vw_set (by omega) ?_
  have H : ∀ c : Fin 4, loV (1 + c.1) = (1, c.1) := by decide +kernel
  exact H ⟨j, hj⟩
theorem vs_0 {S : pS} {b : Nat} {v : Int32} : vw (mSet S b 7 v) b = upd (vw S b) 0 v := vw_set (c := 0) (by omega) rfl
theorem vs_5 {S : pS} {b : Nat} {v : Int32} : vw (mSet S b 9 v) b = upd (vw S b) 5 v := vw_set (c := 0) (by omega) rfl
theorem vs_6 {S : pS} {b : Nat} {v : Int32} : vw (mSet S b 6 v) b = upd (vw S b) 6 v := vw_set (c := 0) (by omega) rfl
theorem vs_7 {S : pS} {b : Nat} {v : Int32} : vw (mSet S b 8 v) b = upd (vw S b) 7 v := vw_set (c := 0) (by omega) rfl
theorem vw_cong {S S' : pS} {b b' : Nat} (h : ∀ c, c ≤ 6 → S'.2.2.2 (b' + c) = S.2.2.2 (b + c)) : vw S' b' = vw S b := by
  funext i
  unfold vw
  by_cases c : i < 104
  · rw [if_pos c, if_pos c, h _ (lo_c c)]
  · rw [if_neg c, if_neg c]
theorem vw_ne {S : pS} {b q k : Nat} {v : Int32} (h : ∀ c, c ≤ 6 → b + c ≠ q) : vw (mSet S q k v) b = vw S b := vw_cong (fun c hc => mSet_ne (h c hc))
theorem vwA_ne {S : pS} {b q : Nat} {f : Nat → Int32} (h : ∀ c, c ≤ 6 → b + c ≠ q) : vw (mArr S q f) b = vw S b := vw_cong (fun c hc => mArr_ne (h c hc))
/-- what changes: the cells of J alone -/
def fr (J : List Nat) (S S' : pS) : Prop := (S'.1 = S.1 ∧ S'.2.1 = S.2.1 ∧ S'.2.2.1 = S.2.2.1) ∧ ∀ q, q ∉ J → S'.2.2.2 q = S.2.2.2 q
theorem fr.rf {J : List Nat} {S : pS} : fr J S S := ⟨⟨rfl, rfl, rfl⟩, fun _ _ => rfl⟩
theorem fr.tr {J : List Nat} {S1 S2 S3 : pS} (h : fr J S1 S2) (h2 : fr J S2 S3) : fr J S1 S3 := ⟨⟨h2.1.1.trans h.1.1, h2.1.2.1.trans h.1.2.1, h2.1.2.2.trans h.1.2.2⟩, fun q a => (h2.2 q a).trans (h.2 q a)⟩
theorem fr.mono {J J' : List Nat} {S S' : pS} (h : fr J S S') (hj : ∀ q, q ∈ J → q ∈ J') : fr J' S S' := ⟨h.1, fun q a => h.2 q (fun z => a (hj q z))⟩
theorem fr.set {J : List Nat} {S S' : pS} (h : fr J S S') {i k : Nat} {v : Int32} (hi : i ∈ J) : fr J S (mSet S' i k v) := ⟨h.1, fun q a => (mSet_ne (S := S') (j := q) (fun z => a (by rw [z]; exact hi))).trans (h.2 q a)⟩
theorem fr.arr {J : List Nat} {S S' : pS} (h : fr J S S') {i : Nat} {f : Nat → Int32} (hi : i ∈ J) : fr J S (mArr S' i f) := ⟨h.1, fun q a => (mArr_ne (S := S') (j := q) (fun z => a (by rw [z]; exact hi))).trans (h.2 q a)⟩
theorem fr.co {J : List Nat} {S S' : pS} (h : fr J S S') {b : Nat} (hC : Co S b) : Co S' b := by
  unfold Co at hC ⊢
  rw [h.1.1, h.1.2.1, h.1.2.2]
  exact hC
theorem fr.ok {J : List Nat} {S S' : pS} (h : fr J S S') (hS : sOk S) : sOk S' := ⟨h.1.1.trans hS.1, h.1.2.1.trans hS.2.1, h.1.2.2.trans hS.2.2⟩
theorem fr.vw {J : List Nat} {S S' : pS} (h : fr J S S') {b : Nat} (hj : ∀ c, c ≤ 6 → b + c ∉ J) : vw S' b = vw S b := vw_cong (fun c hc => h.2 _ (hj c hc))
def frl (b : Nat) (l : List Nat) : List Nat := l.map (b + ·)
theorem frl_in {b c : Nat} {l : List Nat} (h : c ∈ l) : b + c ∈ frl b l := List.mem_map.mpr ⟨c, h, rfl⟩
theorem frl_0 {b : Nat} {l : List Nat} (h : 0 ∈ l) : b ∈ frl b l := List.mem_map.mpr ⟨0, h, rfl⟩
theorem frl_no {b c : Nat} {l : List Nat} (h : c ∉ l) : b + c ∉ frl b l := fun z => by
  obtain ⟨d, hd, e⟩ := List.mem_map.mp z
  have : d = c := by omega
  exact h (this ▸ hd)
theorem frl_n0 {b : Nat} {l : List Nat} (h : 0 ∉ l) : b ∉ frl b l := frl_no (c := 0) h
theorem frl_mono {b : Nat} {l l' : List Nat} (h : ∀ c, c ∈ l → c ∈ l') : ∀ q, q ∈ frl b l → q ∈ frl b l' := fun q z => by
  obtain ⟨d, hd, e⟩ := List.mem_map.mp z
  exact List.mem_map.mpr ⟨d, h d hd, e⟩
/-! the ranges of a company's numbers -/
def rg (x : Int32) (n : Nat) : Prop := ∃ j, j ≤ n ∧ x = nI j
def InvN (W : Nat → Int32) : Prop := (rg (W 1) 9 ∧ rg (W 2) 9 ∧ rg (W 3) 99 ∧ rg (W 4) 99) ∧ (∀ p, p < 8 → rg (W (8 + p)) 9) ∧ ∀ k, k < 8 → rg (W (16 + 11 * k + 0)) 5 ∧ rg (W (16 + 11 * k + 2)) 9 ∧ ∀ p, p < 8 → rg (W (16 + 11 * k + (3 + p))) 99
/-! how the class finds who plays -/
def mstR (W c r : Nat → Int32) (p k : Nat) : Int32 := if bestR W c r p k < 0 then W 3 - 1 else goodR W (cl (bestR W c r p k)) p
theorem goodR_rg {W : Nat → Int32} (hN : InvN W) {k p : Nat} (hk : k < 8) (hp : p < 8) : rg (goodR W k p) 118 := by
  obtain ⟨⟨⟨h, h1, e1⟩, ⟨bk, b1, e2⟩, -, -⟩, -, hP⟩ := hN
  obtain ⟨-, -, hn⟩ := hP k hk
  obtain ⟨n, n1, en⟩ := hn p hp
  unfold goodR
  rw [en, e1, e2]
  have d2 : nI n / 2 = nI (n / 2) := pk_div (d := 2) (by omega) (by omega) (by omega)
  have m2 : (2 : Int32) * nI bk = nI (2 * bk) := pk_mul 2 bk
  split
  · split
    · exact ⟨n, by omega, rfl⟩
    · exact ⟨n + h, by omega, nI_add n h⟩
  · split
    · exact ⟨n / 2, by omega, d2⟩
    · split
      · split
        · exact ⟨n, by omega, rfl⟩
        · exact ⟨n + h + 10, by omega, by rw [nI_add, show (10 : Int32) = nI 10 from rfl, nI_add]⟩
      · split
        · exact ⟨n / 2 + 2 * bk, by omega, by rw [d2, m2, nI_add]⟩
        · split
          · split
            · exact ⟨n + 5, by omega, by rw [show (5 : Int32) = nI 5 from rfl, nI_add]⟩
            · exact ⟨0, by omega, rfl⟩
          · exact ⟨n, by omega, rfl⟩
theorem least_lt {c : Nat} (hc : c ≤ 99) {g : Nat} (hg : g ≤ 118) : nI c - 1 < nI g ↔ nI c ≤ nI g := by
  have e : (nI c - 1).toInt = (c : Int) - 1 := by
    have h1 : (1 : Int32) = nI 1 := rfl
    rw [h1, Int32.toInt_sub, nI_toInt (by omega), nI_toInt (by omega)]
    exact Int.bmod_eq_of_le (by omega) (by omega)
  rw [Int32.lt_iff_toInt_lt, Int32.le_iff_toInt_le, e, nI_toInt (by omega), nI_toInt (by omega)]
  omega
theorem bestR_ge {W c r : Nat → Int32} {p : Nat} : ∀ k, k ≤ 8 → ¬ bestR W c r p k < 0 → W 3 ≤ goodR W (cl (bestR W c r p k)) p
  | 0, _, h => absurd (show (-1 : Int32) < 0 by decide) h
  | k + 1, hk, h => by
    rw [bestR] at h ⊢
    split
    · next z =>
      rw [cl_nI (by omega)]
      exact (mayR_iff.mp z.1).2.2.2
    · next z =>
      rw [if_neg z] at h
      exact bestR_ge k (by omega) h
theorem bC_y {W c r : Nat → Int32} {p k : Nat} {m : Int32} (hN : InvN W) (hk : k < 8) (hp : p < 8) (hm : m = mstR W c r p k) (hf : freeR W c k p = true) (hi : W (16 + 11 * k + 2) = 0) (hr : r k = 8) (hg : m < goodR W k p) : nI k = bestR W c r p (k + 1) ∧ goodR W k p = mstR W c r p (k + 1) := by
  obtain ⟨l, hl, el⟩ := hN.1.2.2.1
  obtain ⟨gk, hgk, egk⟩ := goodR_rg hN hk hp
  have hmay : W 3 ≤ goodR W k p := by
    unfold mstR at hm
    by_cases h0 : bestR W c r p k < 0
    · rw [if_pos h0] at hm
      rw [hm, el, egk] at hg
      rw [el, egk]
      exact (least_lt hl hgk).mp hg
    · rw [if_neg h0] at hm
      have := bestR_ge k (by omega) h0
      rw [hm] at hg
      exact Int32.le_trans this (Int32.le_of_lt hg)
  have e : nI k = bestR W c r p (k + 1) := bestR_t (mayR_iff.mpr ⟨hf, hi, hr, hmay⟩) (by
    unfold mstR at hm
    by_cases h0 : bestR W c r p k < 0
    · exact Or.inl h0
    · rw [if_neg h0] at hm
      exact Or.inr (hm ▸ hg))
  refine ⟨e, ?_⟩
  unfold mstR
  rw [← e, if_neg (nI_pos (by omega)), cl_nI (by omega)]
theorem bC_k {W c r : Nat → Int32} {p k : Nat} (e : bestR W c r p k = bestR W c r p (k + 1)) : mstR W c r p k = mstR W c r p (k + 1) := by unfold mstR; rw [e]
theorem bC_n {W c r : Nat → Int32} {p k : Nat} (h : ¬ (freeR W c k p = true ∧ W (16 + 11 * k + 2) = 0 ∧ r k = 8)) : bestR W c r p k = bestR W c r p (k + 1) := bestR_f (fun z => h ⟨(mayR_iff.mp z.1).1, (mayR_iff.mp z.1).2.1, (mayR_iff.mp z.1).2.2.1⟩)
theorem bC_g {W c r : Nat → Int32} {p k : Nat} {m : Int32} (hN : InvN W) (hk : k < 8) (hp : p < 8) (hm : m = mstR W c r p k) (hg : goodR W k p ≤ m) : bestR W c r p k = bestR W c r p (k + 1) := by
  obtain ⟨l, hl, el⟩ := hN.1.2.2.1
  obtain ⟨gk, hgk, egk⟩ := goodR_rg hN hk hp
  refine bestR_f (fun z => ?_)
  unfold mstR at hm
  by_cases h0 : bestR W c r p k < 0
  · rw [if_pos h0] at hm
    have h1 := (mayR_iff.mp z.1).2.2.2
    rw [el, egk] at h1
    have h2 := (least_lt hl hgk).mpr h1
    rw [hm, el, egk] at hg
    exact Int32.not_le.mpr h2 hg
  · rw [if_neg h0] at hm
    exact z.2.elim h0 (fun y => Int32.not_le.mpr y (hm ▸ hg))
theorem bestR_cong2 {W c r c' r' : Nat → Int32} {p : Nat} (hc : ∀ x, x < p → c x = c' x) : ∀ n, (∀ x, x < n → r x = r' x) → bestR W c r p n = bestR W c' r' p n
  | 0, _ => rfl
  | n + 1, hr => by
    have e1 : mayR W c r n p = mayR W c' r' n p := by
      unfold mayR freeR
      rw [hr n (by omega)]
      by_cases h : owR W n < p
      · rw [hc _ h]
      · simp [h]
    rw [bestR, bestR, bestR_cong2 hc n (fun x hx => hr x (by omega)), e1]
/-- the bill stands in cells b + 7, b + 8 -/
def blP (b : Nat) (S S1 : pS) : Prop := fr (frl b [7, 8]) S S1 ∧ (∀ x, x < 8 → S1.2.2.2 (b + 7) x = cst (vw S b) x) ∧ ∀ x, x < plR (vw S b) → S1.2.2.2 (b + 8) x = rol (vw S b) x
