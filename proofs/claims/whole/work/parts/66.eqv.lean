/-! ===== companies that are alike but for takings, and who isn't there ===== -/
def eqv (V W : Nat → Int32) : Prop := (∀ i, i < 16 → i ≠ 7 → V i = W i) ∧ ∀ k, k < plR W → ∀ f, f < 11 → V (16 + 11 * k + f) = W (16 + 11 * k + f)
theorem eqv.rf {W : Nat → Int32} : eqv W W := ⟨fun _ _ _ => rfl, fun _ _ _ _ => rfl⟩
theorem eqv.pl {V W : Nat → Int32} (h : eqv V W) : plR V = plR W := by unfold plR; rw [h.1 6 (by omega) (by omega)]
theorem eqv.sy {V W : Nat → Int32} (h : eqv V W) : eqv W V := ⟨fun i a b => (h.1 i a b).symm, fun k hk f hf => (h.2 k (h.pl ▸ hk) f hf).symm⟩
theorem eqv.tr {U V W : Nat → Int32} (h : eqv U V) (h2 : eqv V W) : eqv U W := ⟨fun i a b => (h.1 i a b).trans (h2.1 i a b), fun k hk f hf => (h.2 k (h2.pl ▸ hk) f hf).trans (h2.2 k hk f hf)⟩
theorem eqv.u7 {V W : Nat → Int32} (h : eqv V W) {t : Int32} : eqv (upd V 7 t) W := ⟨fun i a b => by rw [pk_un b]; exact h.1 i a b, fun k hk f hf => by rw [pk_un (by omega)]; exact h.2 k hk f hf⟩
theorem eqv.up {V W : Nat → Int32} (h : eqv V W) {i : Nat} {x : Int32} (h6 : i ≠ 6) : eqv (upd V i x) (upd W i x) := by
  refine ⟨fun j a b => ?_, fun k hk f hf => ?_⟩
  · unfold upd
    by_cases c : j = i
    · rw [if_pos c, if_pos c]
    · rw [if_neg c, if_neg c]; exact h.1 j a b
  · rw [upd_pl h6] at hk
    unfold upd
    by_cases c : 16 + 11 * k + f = i
    · rw [if_pos c, if_pos c]
    · rw [if_neg c, if_neg c]; exact h.2 k hk f hf
theorem eqv.good {V W : Nat → Int32} (h : eqv V W) {k p : Nat} (hk : k < plR W) (hp : p < 8) : goodR V k p = goodR W k p := by
  unfold goodR
  rw [h.2 k hk 0 (by omega), h.2 k hk 1 (by omega), h.2 k hk (3 + p) (by omega), h.1 1 (by omega) (by omega), h.1 2 (by omega) (by omega)]
theorem eqv.learns {V W : Nat → Int32} (h : eqv V W) {k : Nat} (hk : k < plR W) : learnsR V k = learnsR W k := learnsR_cong (h.2 k hk 0 (by omega)) (h.1 1 (by omega) (by omega))
theorem eqv.forgets {V W : Nat → Int32} (h : eqv V W) {k : Nat} (hk : k < plR W) : forgetsR V k = forgetsR W k := forgetsR_cong (h.2 k hk 0 (by omega)) (h.1 2 (by omega) (by omega))
theorem eqv.ow {V W : Nat → Int32} (h : eqv V W) {k : Nat} (hk : k < plR W) : owR V k = owR W k := by unfold owR; rw [h.2 k hk 1 (by omega)]
theorem eqv.may {V W : Nat → Int32} (h : eqv V W) (hI : InvR W) {c r : Nat → Int32} {k p : Nat} (hk : k < plR W) (hp : p < 8) : mayR V c r k p = mayR W c r k p := by
  have ho := hI.own k (by have := hI.pl.1; omega)
  unfold mayR freeR
  rw [h.ow hk, h.2 k hk 2 (by omega), h.good hk hp, h.1 3 (by omega) (by omega), h.1 (8 + owR W k) (by omega) (by omega), h.1 (8 + p) (by omega) (by omega)]
theorem eqv.best {V W : Nat → Int32} (h : eqv V W) (hI : InvR W) {c r : Nat → Int32} {p : Nat} (hp : p < 8) : ∀ n, n ≤ plR W → bestR V c r p n = bestR W c r p n
  | 0, _ => rfl
  | n + 1, hn => by
    have e := h.best hI (c := c) (r := r) hp n (by omega)
    rw [bestR, bestR, e, h.may hI (by omega) hp, h.good (k := n) (by omega) hp]
    by_cases c0 : bestR W c r p n < 0
    · simp only [c0, true_or]
    · obtain ⟨b, hb, eb⟩ := bestR_nn (by have := hI.pl.1; omega) c0
      rw [eb, nI_clamp (by have := hI.pl.1; omega), h.good (k := b) (by omega) hp]
theorem eqv.bill {V W : Nat → Int32} (h : eqv V W) (hI : InvR W) : ∀ n, n ≤ 8 → billR V n = billR W n
  | 0, _ => rfl
  | n + 1, hn => by
    rw [billR, billR, h.bill hI n (by omega), h.pl, h.best hI (by omega) _ (Nat.le_refl _)]
theorem eqv.cs {V W : Nat → Int32} (h : eqv V W) (hI : InvR W) : cst V = cst W := by unfold cst; rw [h.bill hI 8 (Nat.le_refl _)]
theorem eqv.ro {V W : Nat → Int32} (h : eqv V W) (hI : InvR W) : rol V = rol W := by unfold rol; rw [h.bill hI 8 (Nat.le_refl _)]
/-- who is on the bill is there -/
def cPl (n : Nat) (c : Nat → Int32) : Prop := ∀ x, x < 8 → c x < 0 ∨ ∃ b, b < n ∧ c x = nI b
theorem bill_pl {W : Nat → Int32} (hI : InvR W) : ∀ n, n ≤ 8 → cPl (plR W) (billR W n).1
  | 0, _ => fun x _ => Or.inl (show (-1 : Int32) < 0 by decide)
  | n + 1, hn => fun x hx => by
    show upd (billR W n).1 n _ x < 0 ∨ ∃ b, b < plR W ∧ upd (billR W n).1 n _ x = nI b
    by_cases e : x = n
    · subst e
      rw [pk_us]
      rcases bestR_or W (billR W x).1 (billR W x).2 x (plR W) hI.pl.1 with h | ⟨b, hb, h⟩
      · rw [h]; exact Or.inl (by decide)
      · exact Or.inr ⟨b, hb, h⟩
    · rw [pk_un e]
      exact bill_pl hI n (by omega) x hx
theorem eqv.sh {V W : Nat → Int32} (h : eqv V W) {c : Nat → Int32} (hc : cPl (plR W) c) (h8 : plR W ≤ 8) : ∀ n, n ≤ 8 → showR V c n = showR W c n
  | 0, _ => rfl
  | n + 1, hn => by
    rw [showR, showR, h.sh hc h8 n (by omega)]
    rcases hc n (by omega) with e | ⟨b, hb, e⟩
    · rw [if_pos e, if_pos e]
    · rw [e, nI_clamp (by omega), h.good hb (by omega), h.1 (8 + n) (by omega) (by omega)]
theorem eqv.sB {V W : Nat → Int32} (h : eqv V W) (hI : InvR W) : showB V = showB W := by
  unfold showB
  rw [h.cs hI]
  exact h.sh (bill_pl hI 8 (Nat.le_refl _)) hI.pl.1 8 (Nat.le_refl _)
theorem eqv.rem {V W r : Nat → Int32} (h : eqv V W) {k : Nat} (hk : k < plR W) : ∀ n, n ≤ 8 → eqv (remR V r k n) (remR W r k n)
  | 0, _ => h
  | n + 1, hn => by
    have e : chgR V r k n = chgR W r k n := by unfold chgR; rw [h.learns hk, h.forgets hk, h.2 k hk 2 (by omega)]
    rw [remR, remR, e, h.2 k hk (3 + n) (by omega)]
    exact (h.rem hk n (by omega)).up (by omega)
theorem remR_pl {W r : Nat → Int32} {k : Nat} (n : Nat) : plR (remR W r k n) = plR W := by unfold plR; rw [remR_ne n (fun j hj => by omega)]
theorem nitR_pl {W r : Nat → Int32} (n : Nat) : plR (nitR W r n) = plR W := by unfold plR; rw [nitR_ne n (fun j f _ h1 h2 => by omega)]
theorem eqv.nit {V W r : Nat → Int32} (h : eqv V W) : ∀ n, n ≤ plR W → eqv (nitR V r n) (nitR W r n)
  | 0, _ => h
  | n + 1, hn => by
    rw [nitR, nitR, h.2 n (by omega) 2 (by omega)]
    exact ((h.nit n (by omega)).rem (by rw [nitR_pl]; omega) 8 (Nat.le_refl _)).up (by omega)
theorem upd_e7 {V W : Nat → Int32} (h : eqv V W) {x y : Int32} : eqv (upd V 7 x) (upd W 7 y) := (h.u7).tr ((eqv.rf (W := W)).u7 (t := y)).sy
theorem eqv.night {V W : Nat → Int32} (h : eqv V W) (hI : InvR W) : eqv (nightR V) (nightR W) := by
  unfold nightR
  rw [h.pl, h.ro hI, h.1 0 (by omega) (by omega)]
  exact (upd_e7 (h.nit _ (Nat.le_refl _))).up (by omega)
theorem nightR_7 {W : Nat → Int32} : nightR W 7 = W 7 + showB W := by rw [nightR, pk_un (by omega), pk_us]
theorem eqv.go {V W : Nat → Int32} (h : eqv V W) (hI : InvR W) : ∀ n, eqv (goR V n) (goR W n)
  | 0 => h
  | n + 1 => (h.go hI n).night (goR_inv hI n)
theorem eqv.go7 {V W : Nat → Int32} (h : eqv V W) (h7 : V 7 = W 7) (hI : InvR W) : ∀ n, goR V n 7 = goR W n 7
  | 0 => h7
  | n + 1 => by rw [goR, goR, nightR_7, nightR_7, h.go7 h7 hI n, (h.go hI n).sB (goR_inv hI n)]
def goC (W : Nat → Int32) : Nat → Nat → Int32
  | 0 => W
  | n + 1 => nightC (goC W n)
theorem goC_0 {W : Nat → Int32} : goC W 0 = W := rfl
theorem goR_0 {W : Nat → Int32} : goR W 0 = W := rfl
theorem nightC_e {W : Nat → Int32} : eqv (nightC W) (nightR W) := (eqv.rf).u7
theorem goC_e {W : Nat → Int32} (hI : InvR W) : ∀ n, eqv (goC W n) (goR W n)
  | 0 => eqv.rf
  | n + 1 => nightC_e.tr ((goC_e hI n).night (goR_inv hI n))
theorem nightC_inv {W : Nat → Int32} (h : InvR W) : InvR (nightC W) := upd_inv (nightR_inv h) (by omega) (fun k _ => by omega)
theorem goC_inv {W : Nat → Int32} (h : InvR W) : ∀ n, InvR (goC W n)
  | 0 => h
  | n + 1 => nightC_inv (goC_inv h n)
theorem eqv.thr {V W : Nat → Int32} (h : eqv V W) (hI : InvR W) : eqv (thrR V) (thrR W) := by
  have h8 := hI.pl.1
  unfold thrR
  rw [h.pl, h.1 5 (by omega) (by omega), h.1 4 (by omega) (by omega), h.1 6 (by omega) (by omega)]
  by_cases c : W 6 ≤ 0
  · rw [if_pos c, if_pos c]; exact h
  · have h0 : 0 < plR W := by
      rcases Nat.eq_zero_or_pos (plR W) with e | e
      · exfalso; apply c; rw [hI.pl.2, e]; decide
      · exact e
    have hm := Nat.mod_lt (drawN (W 5)) h0
    rw [if_neg c, if_neg c, h.2 _ hm 2 (by omega)]
    split
    · exact (h.up (by omega)).up (by omega)
    · exact h.up (by omega)
theorem eqv.ill {V W : Nat → Int32} (h : eqv V W) : ∀ n, n ≤ plR W → illR V n = illR W n
  | 0, _ => rfl
  | n + 1, hn => by rw [illR, illR, h.ill n (by omega), h.2 n (by omega) 2 (by omega)]
theorem eqv.owners {V W : Nat → Int32} (h : eqv V W) {x : Int32} : ∀ n, n ≤ plR W → ownersR V x n = ownersR W x n
  | 0, _ => rfl
  | n + 1, hn => by rw [ownersR, ownersR, h.owners n (by omega), h.2 n (by omega) 1 (by omega)]
theorem eqv.mov {V W r : Nat → Int32} (h : eqv V W) : ∀ n, n ≤ plR W → movR V r n = movR W r n
  | 0, _ => rfl
  | n + 1, hn => by rw [movR, movR, h.mov n (by omega), h.2 n (by omega) 1 (by omega)]
theorem eqv.wel {V W : Nat → Int32} (h : eqv V W) {set : Int32} : ∀ n, eqv (welR V set n) (welR W set n)
  | 0 => h
  | n + 1 => (h.wel n).up (by omega)
/-! ===== the ranges, kept by nights ===== -/
theorem heldR_rg (v : Int32) : rg (heldR v 99) 99 := by
  unfold heldR
  by_cases c : v < 0
  · rw [if_pos c]; exact ⟨0, by omega, rfl⟩
  · rw [if_neg c]
    by_cases d : 99 < v
    · rw [if_pos d]; exact ⟨99, by omega, rfl⟩
    · rw [if_neg d]
      exact nI_of2 (M := 99) (n := 99) rfl c (Int32.not_lt.mp d)
theorem remR_kn {W r : Nat → Int32} {k p : Nat} : ∀ n, p < n → n ≤ 8 → rg (remR W r k n (16 + 11 * k + (3 + p))) 99
  | 0, h, _ => absurd h (Nat.not_lt_zero _)
  | n + 1, h, h8 => by
    rw [remR]
    by_cases e : p = n
    · subst e
      rw [pk_us]; exact heldR_rg _
    · rw [pk_un (by omega)]; exact remR_kn n (by omega) (by omega)
theorem nitR_kn {W r : Nat → Int32} {k p : Nat} (hp : p < 8) (h0 : rg (W (16 + 11 * k + (3 + p))) 99) : ∀ n, rg (nitR W r n (16 + 11 * k + (3 + p))) 99
  | 0 => h0
  | n + 1 => by
    rw [nitR, pk_un (by omega)]
    by_cases e : k = n
    · subst e; exact remR_kn 8 hp (Nat.le_refl _)
    · rw [remR_ne 8 (fun j hj => by omega)]; exact nitR_kn hp h0 n
theorem nitR_il {W r : Nat → Int32} {k : Nat} (h0 : rg (W (16 + 11 * k + 2)) 9) : ∀ n, rg (nitR W r n (16 + 11 * k + 2)) 9
  | 0 => h0
  | n + 1 => by
    rw [nitR]
    by_cases e : k = n
    · subst e
      rw [pk_us]
      obtain ⟨j, hj, ej⟩ := h0
      split
      · next c =>
        rw [ej] at c ⊢
        have j0 : 0 < j := (nI_ltI (a := 0) (by omega) (by omega)).mp c
        exact ⟨j - 1, by omega, pk_sub (b := 1) (by omega)⟩
      · exact ⟨0, by omega, rfl⟩
    · rw [pk_un (by omega), remR_ne 8 (fun j hj => by omega)]; exact nitR_il h0 n
theorem nightR_N {W : Nat → Int32} (h : InvN W) : InvN (nightR W) := by
  obtain ⟨⟨h1, h2, h3, h4⟩, hw, hp⟩ := h
  refine ⟨⟨?_, ?_, ?_, ?_⟩, fun p hp2 => ?_, fun k hk => ⟨?_, ?_, fun p hp2 => ?_⟩⟩
  · rw [nightR_lo (by omega) (by omega) (by omega)]; exact h1
  · rw [nightR_lo (by omega) (by omega) (by omega)]; exact h2
  · rw [nightR_lo (by omega) (by omega) (by omega)]; exact h3
  · rw [nightR_lo (by omega) (by omega) (by omega)]; exact h4
  · rw [nightR_lo (by omega) (by omega) (by omega)]; exact hw p hp2
  · rw [nightR_kind]; exact (hp k hk).1
  · rw [nightR, pk_un (by omega), pk_un (by omega)]; exact nitR_il (hp k hk).2.1 _
  · rw [nightR, pk_un (by omega), pk_un (by omega)]; exact nitR_kn hp2 ((hp k hk).2.2 p hp2) _
theorem InvN.up {W : Nat → Int32} (h : InvN W) {i : Nat} {x : Int32} (hl : 1 ≤ i → i ≤ 2 → rg x 9) (hl2 : 3 ≤ i → i ≤ 4 → rg x 99) (hw : 8 ≤ i → i < 16 → rg x 9) (hk : ∀ k, k < 8 → i = 16 + 11 * k + 0 → rg x 5) (hi : ∀ k, k < 8 → i = 16 + 11 * k + 2 → rg x 9) (hn : ∀ k p, k < 8 → p < 8 → i = 16 + 11 * k + (3 + p) → rg x 99) : InvN (upd W i x) := by
  obtain ⟨⟨h1, h2, h3, h4⟩, hw0, hp⟩ := h
  unfold InvN upd
  refine ⟨⟨?_, ?_, ?_, ?_⟩, fun p hp2 => ?_, fun k hk2 => ⟨?_, ?_, fun p hp2 => ?_⟩⟩
  · split
    · exact hl (by omega) (by omega)
    · exact h1
  · split
    · exact hl (by omega) (by omega)
    · exact h2
  · split
    · exact hl2 (by omega) (by omega)
    · exact h3
  · split
    · exact hl2 (by omega) (by omega)
    · exact h4
  · split
    · exact hw (by omega) (by omega)
    · exact hw0 p hp2
  · split
    · next c => exact hk k hk2 c.symm
    · exact (hp k hk2).1
  · split
    · next c => exact hi k hk2 c.symm
    · exact (hp k hk2).2.1
  · split
    · next c => exact hn k p hk2 hp2 c.symm
    · exact (hp k hk2).2.2 p hp2
theorem InvN.u7 {W : Nat → Int32} (h : InvN W) {x : Int32} : InvN (upd W 7 x) := h.up (by omega) (by omega) (by omega) (by omega) (by omega) (by omega)
theorem InvN.u5 {W : Nat → Int32} (h : InvN W) {x : Int32} : InvN (upd W 5 x) := h.up (by omega) (by omega) (by omega) (by omega) (by omega) (by omega)
theorem InvN.ui {W : Nat → Int32} (h : InvN W) {k : Nat} {x : Int32} (hx : rg x 9) : InvN (upd W (16 + 11 * k + 2) x) := h.up (by omega) (by omega) (by omega) (by omega) (fun _ _ _ => hx) (by omega)
theorem InvN.un {W : Nat → Int32} (h : InvN W) {k p : Nat} (hp : p < 8) {x : Int32} (hx : rg x 99) : InvN (upd W (16 + 11 * k + (3 + p)) x) := h.up (by omega) (by omega) (by omega) (by omega) (by omega) (fun _ _ _ _ _ => hx)
theorem InvN.uk {W : Nat → Int32} (h : InvN W) {k : Nat} {x : Int32} (hx : rg x 5) : InvN (upd W (16 + 11 * k + 0) x) := h.up (by omega) (by omega) (by omega) (fun _ _ _ => hx) (by omega) (by omega)
theorem nightC_N {W : Nat → Int32} (h : InvN W) : InvN (nightC W) := (nightR_N h).u7
theorem goC_N {W : Nat → Int32} (h : InvN W) : ∀ n, InvN (goC W n)
  | 0 => h
  | n + 1 => nightC_N (goC_N h n)
theorem thrR_N {W : Nat → Int32} (h : InvN W) (hI : InvR W) : InvN (thrR W) := by
  have h8 := hI.pl.1
  unfold thrR
  by_cases c : W 6 ≤ 0
  · rw [if_pos c]; exact h
  · have h0 : 0 < plR W := by
      rcases Nat.eq_zero_or_pos (plR W) with e | e
      · exfalso; apply c; rw [hI.pl.2, e]; decide
      · exact e
    have hm := Nat.mod_lt (drawN (W 5)) h0
    rw [if_neg c]
    split
    · refine h.u5.ui ?_
      split
      · exact (h.2.2 _ (by omega)).2.1
      · exact ⟨_, by have := Nat.mod_lt (drawN (drawZ (drawZ (W 5)))) (show 0 < 10 by omega); omega, rfl⟩
    · exact h.u5
theorem welR_N {W : Nat → Int32} (h : InvN W) {set : Int32} : ∀ n, InvN (welR W set n)
  | 0 => h
  | n + 1 => (welR_N h n).ui (by split <;> first | exact ⟨0, by omega, rfl⟩ | exact ⟨1, by omega, rfl⟩)
