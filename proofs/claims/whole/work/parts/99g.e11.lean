/-! ===== the text: what both sides read of it ===== -/
theorem run_is {p : Int32 → Bool} {b : Nat → Int32} {n m : Nat} : ∀ f a, a ≤ m → m < a + f → (∀ i, a ≤ i → i < m → p (byR b n i) = true) → ¬ p (byR b n m) = true → runR p b n f a = m
  | 0, a, h1, h2, _, _ => absurd h2 (by omega)
  | f + 1, a, h1, h2, h3, h4 => by
    rw [runR]
    by_cases c : a = m
    · subst c
      rw [if_neg h4]
    · rw [if_pos (h3 a (Nat.le_refl _) (by omega))]
      exact run_is f (a + 1) (by omega) (by omega) (fun i x y => h3 i (by omega) y) h4
theorem run_stop {p : Int32 → Bool} {b : Nat → Int32} {n : Nat} (hp : p (-1) = false) : ∀ f a, a ≤ n → n < a + f → ¬ p (byR b n (runR p b n f a)) = true
  | 0, a, h, h2 => absurd h2 (by omega)
  | f + 1, a, h, h2 => by
    rw [runR]
    by_cases c : p (byR b n a) = true
    · rw [if_pos c]
      have := byR_lt p hp c
      exact run_stop hp f (a + 1) (by omega) (by omega)
    · rw [if_neg c]
      exact c
/-- the reference's number of the class's k-th name -/
def rn (k : Nat) : Nat := if k < 6 then k else if k < 10 then k + 1 else if k = 10 then 6 else k
def rk (w : Nat) : Nat := if w < 6 then w else if w = 6 then 10 else if w < 11 then w - 1 else w
theorem rn_rk : ∀ w, w < 11 → rn (rk w) = w ∧ rk w < 11 := by decide +kernel
theorem tabN : ∀ k, k < 14 → ∀ j, j < 8 → ltr (8 * rn k + j) = (if j < sLn.getD k 0 then sChr k j else 32) ∧ (j < sLn.getD k 0 → isLo (sChr k j) = true) := by decide +kernel
theorem tabL : ∀ k, k < 14 → 1 ≤ sLn.getD k 0 ∧ sLn.getD k 0 ≤ 8 ∧ rn k < 14 := by decide +kernel
theorem tabU : ∀ k, k < 14 → ∀ q, q < 14 → (∀ j, j < 8 → ltr (8 * k + j) = ltr (8 * q + j)) → k = q := by decide +kernel
theorem nmB_iff {L b : Nat → Int32} {n g e w : Nat} : ∀ m, nmB L b n g e w m = true ↔ (e - g ≤ 8 ∧ ∀ j, j < m → L (8 * w + j) = (if g + j < e then byR b n (g + j) else 32))
  | 0 => ⟨fun h => ⟨of_decide_eq_true h, fun j hj => absurd hj (Nat.not_lt_zero j)⟩, fun h => decide_eq_true h.1⟩
  | m + 1 => by
    by_cases c : nmB L b n g e w m = true
    · rw [nmB_s c]
      obtain ⟨h1, h2⟩ := (nmB_iff m).mp c
      refine ⟨fun z => ⟨h1, fun j hj => ?_⟩, fun z => decide_eq_true (z.2 m (Nat.lt_succ_self m))⟩
      rcases Nat.lt_or_ge j m with q | q
      · exact h2 j q
      · rw [show j = m by omega]
        exact of_decide_eq_true z
    · rw [nmB, if_neg c]
      exact ⟨fun z => absurd z Bool.false_ne_true, fun z => absurd ((nmB_iff m).mpr ⟨z.1, fun j hj => z.2 j (by omega)⟩) c⟩
theorem BR.eqLo {b b' : Nat → Int32} (h : BR b b') {i : Nat} (c : isLo (b' i) = true) : b i = b' i := (h i).1.trans ((tb_q (h i).2).2.2.2.2 (Or.inr (Or.inl c)))
theorem BR.eqDg {b b' : Nat → Int32} (h : BR b b') {i : Nat} (c : isDg (b' i) = true) : b i = b' i := (h i).1.trans ((tb_q (h i).2).2.2.2.2 (Or.inr (Or.inr c)))
theorem BR.isLo {b b' : Nat → Int32} (h : BR b b') {i : Nat} : isLo (b i) = isLo (b' i) := by rw [(h i).1]; exact (tb_q (h i).2).2.1
theorem nmw_e {L b b' : Nat → Int32} {n a k : Nat} (hn : n ≤ 200) (h : BR b b') (hL : ∀ x, x < 112 → L x = ltr x) (hk : k < 14) (ha : a ≤ n) : nmC b n a k = true ↔ nmB L b' n a (runR isLo b' n (201 - a) a) (rn k) 8 = true := by
  obtain ⟨l1, l8, r14⟩ := tabL k hk
  have tab := tabN k hk
  rw [nmC_iff, nmB_iff]
  generalize sLn.getD k 0 = l at l1 l8 tab ⊢
  constructor
  · rintro ⟨h1, h2, h3⟩
    have hc : ∀ i, i < l → isLo (b' (a + i)) = true ∧ b' (a + i) = sChr k i := fun i hi => by
      have q : isLo (b' (a + i)) = true := by rw [← h.isLo, h3 i hi]; exact (tab i (by omega)).2 hi
      exact ⟨q, (h.eqLo q).symm.trans (h3 i hi)⟩
    have e : runR isLo b' n (201 - a) a = a + l := run_is (201 - a) a (by omega) (by omega) (fun i x y => by
      have q := (hc (i - a) (by omega)).1
      rw [show a + (i - a) = i by omega] at q
      rw [byR_i (by omega)]
      exact q) (by rw [← h.lo]; exact h2)
    rw [e]
    refine ⟨by omega, fun j hj => ?_⟩
    rw [hL _ (by omega), (tab j hj).1]
    by_cases c : j < l
    · rw [if_pos c, if_pos (by omega), byR_i (by omega)]
      exact (hc j c).2.symm
    · rw [if_neg c, if_neg (by omega)]
  · rintro ⟨h1, h2⟩
    have ge : a ≤ runR isLo b' n (201 - a) a := run_ge _ _
    have le : runR isLo b' n (201 - a) a ≤ n := run_le (by decide) _ _ ha
    have al : ∀ i, a ≤ i → i < runR isLo b' n (201 - a) a → isLo (byR b' n i) = true := run_all (201 - a) a
    have st : ¬ isLo (byR b' n (runR isLo b' n (201 - a) a)) = true := run_stop (by decide) _ _ ha (by omega)
    generalize runR isLo b' n (201 - a) a = e at h1 h2 ge le al st
    have key : ∀ j, j < 8 → (j < l ↔ a + j < e) := fun j hj => by
      have q := h2 j hj
      rw [hL _ (by omega), (tab j hj).1] at q
      by_cases c1 : j < l
      · by_cases c2 : a + j < e
        · exact ⟨fun _ => c2, fun _ => c1⟩
        · rw [if_pos c1, if_neg c2] at q
          have := (tab j hj).2 c1
          rw [q] at this
          exact absurd this (by decide)
      · by_cases c2 : a + j < e
        · rw [if_neg c1, if_pos c2] at q
          have := al (a + j) (by omega) c2
          rw [← q] at this
          exact absurd this (by decide)
        · exact ⟨fun z => absurd z c1, fun z => absurd z c2⟩
    have e1 : e = a + l := by
      rcases Nat.lt_trichotomy e (a + l) with z | z | z
      · have := (key (e - a) (by omega)).mp (by omega)
        omega
      · exact z
      · have := (key l (by omega)).mpr (by omega)
        omega
    refine ⟨by omega, by rw [h.lo, ← e1]; exact st, fun i hi => ?_⟩
    have q := h2 i (by omega)
    rw [hL _ (by omega), (tab i (by omega)).1, if_pos hi, if_pos (by omega)] at q
    have ql := al (a + i) (by omega) (by omega)
    rw [byR_i (by omega)] at q ql
    rw [h.eqLo ql, q]
theorem nmT_or {L b : Nat → Int32} {n g e : Nat} : ∀ m, (nmT L b n g e m = 101 ∧ ∀ w, w < m → ¬ nmB L b n g e w 8 = true) ∨ ∃ w, w < m ∧ nmT L b n g e m = nI w ∧ nmB L b n g e w 8 = true
  | 0 => Or.inl ⟨rfl, fun w hw => absurd hw (Nat.not_lt_zero w)⟩
  | m + 1 => by
    rw [nmT]
    by_cases c : nmB L b n g e m 8 = true
    · rw [if_pos c]
      exact Or.inr ⟨m, by omega, rfl, c⟩
    · rw [if_neg c]
      rcases nmT_or m with ⟨e1, h1⟩ | ⟨w, hw, e1, h1⟩
      · refine Or.inl ⟨e1, fun w hw => ?_⟩
        rcases Nat.lt_or_ge w m with q | q
        · exact h1 w q
        · rw [show w = m by omega]
          exact c
      · exact Or.inr ⟨w, by omega, e1, h1⟩
theorem nmT_iff {L b : Nat → Int32} {n g e w : Nat} (hL : ∀ x, x < 112 → L x = ltr x) (hw : w < 14) : nmT L b n g e 14 = nI w ↔ nmB L b n g e w 8 = true := by
  rcases nmT_or (L := L) (b := b) (n := n) (g := g) (e := e) 14 with ⟨e1, h1⟩ | ⟨v, hv, e1, h1⟩
  · rw [e1]
    exact ⟨fun z => absurd ((nI_eq (a := 101) (b := w) (by omega) (by omega)).mp z) (by omega), fun z => absurd z (h1 w hw)⟩
  · rw [e1]
    refine ⟨fun z => by rw [← (nI_eq (by omega) (by omega)).mp z]; exact h1, fun z => ?_⟩
    have hz := ((nmB_iff 8).mp z).2
    have hv8 := ((nmB_iff 8).mp h1).2
    rw [tabU v hv w hw (fun j hj => by rw [← hL _ (by omega), ← hL _ (by omega), hz j hj, hv8 j hj])]
/-! tokens -/
def eoT (b : Nat → Int32) (n a : Nat) : Nat := if byR b n a < 0 then a else if isLo (byR b n a) = true then runR isLo b n (201 - a) a else if isDg (byR b n a) = true then runR isDg b n (201 - a) a else a + 1
def tkT (L b : Nat → Int32) (n a : Nat) : Int32 := if byR b n a < 0 then -1 else if isLo (byR b n a) = true then nmT L b n a (runR isLo b n (201 - a) a) 14 else if isDg (byR b n a) = true then (if 3 < runR isDg b n (201 - a) a - a then 101 else 100) else 200 + byR b n a
def TK (L b : Nat → Int32) (n a : Nat) (P : pT) : Prop := P.2.1 = a ∧ P.1 = eoT b n a ∧ P.2.2.1 = tkT L b n a ∧ (isDg (byR b n a) = true → P.2.2.2 = valR b n a (runR isDg b n (201 - a) a - a))
theorem dg_nn {x : Int32} (h : isDg x = true) : ¬ x < 0 := Int32.not_lt.mpr (Int32.le_trans (by decide) (of_decide_eq_true h).1)
theorem lo_nn {x : Int32} (h : isLo x = true) : ¬ x < 0 := Int32.not_lt.mpr (Int32.le_trans (by decide) (of_decide_eq_true h).1)
theorem dg_nl {x : Int32} (h : isDg x = true) : ¬ isLo x = true := fun z => absurd (Int32.le_trans (of_decide_eq_true z).1 (of_decide_eq_true h).2) (by decide)
theorem TK_next {L b : Nat → Int32} {n : Nat} {P : pT} : TK L b n (blC b n P.1) (nextR L b n P) := by
  unfold blC nextR
  generalize runR isSp b n (201 - P.1) P.1 = g
  by_cases c : byR b n g < 0
  · rw [if_pos c]
    exact ⟨rfl, by unfold eoT; rw [if_pos c], by unfold tkT; rw [if_pos c], fun z => absurd c (dg_nn z)⟩
  · rw [if_neg c]
    by_cases c2 : isLo (byR b n g) = true
    · rw [if_pos c2]
      exact ⟨rfl, by unfold eoT; rw [if_neg c, if_pos c2], by unfold tkT; rw [if_neg c, if_pos c2], fun z => absurd c2 (dg_nl z)⟩
    · rw [if_neg c2]
      by_cases c3 : isDg (byR b n g) = true
      · rw [if_pos c3]
        exact ⟨rfl, by unfold eoT; rw [if_neg c, if_neg c2, if_pos c3], by unfold tkT; rw [if_neg c, if_neg c2, if_pos c3], fun _ => rfl⟩
      · rw [if_neg c3]
        exact ⟨rfl, by unfold eoT; rw [if_neg c, if_neg c2, if_neg c3], by unfold tkT; rw [if_neg c, if_neg c2, if_neg c3], fun z => absurd z c3⟩
theorem blC_e {b b' : Nat → Int32} (h : BR b b') (n a : Nat) : blC b n a = blC b' n a := run_e (h.sp n) _ _
theorem dgE_e {b b' : Nat → Int32} (h : BR b b') (n a : Nat) : dgE b n a = dgE b' n a := run_e (h.dg n) _ _
theorem by_or {b b' : Nat → Int32} (h : BR b b') (n a : Nat) : (byR b' n a = -1 ∧ n ≤ a) ∨ ∃ u, u ≤ 255 ∧ a < n ∧ byR b' n a = nI u := by
  unfold byR
  by_cases c : a < n
  · rw [if_pos c]
    obtain ⟨u, hu, e⟩ := (h a).2
    exact Or.inr ⟨u, hu, c, e⟩
  · rw [if_neg c]
    exact Or.inl ⟨rfl, by omega⟩
theorem nm1 {x : Nat} (hx : x < 2 ^ 31) : ¬ (-1 : Int32) = nI x := fun z => by
  have := congrArg Int32.toInt z
  rw [nI_toInt hx] at this
  have e : (-1 : Int32).toInt = -1 := rfl
  omega
/-- a token is one of these -/
theorem tk_or {L b b' : Nat → Int32} (h : BR b b') (n a : Nat) : (tkT L b' n a = -1 ∧ n ≤ a) ∨ (a < n ∧ isLo (byR b' n a) = true ∧ tkT L b' n a = nmT L b' n a (runR isLo b' n (201 - a) a) 14) ∨ (a < n ∧ isDg (byR b' n a) = true ∧ tkT L b' n a = (if 3 < dgE b' n a - a then 101 else 100)) ∨ (∃ u, u ≤ 255 ∧ a < n ∧ byR b' n a = nI u ∧ ¬ isLo (byR b' n a) = true ∧ ¬ isDg (byR b' n a) = true ∧ tkT L b' n a = nI (200 + u)) := by
  rcases by_or h n a with ⟨e, hna⟩ | ⟨u, hu, hna, e⟩
  · left
    exact ⟨by unfold tkT; rw [e]; rfl, hna⟩
  · right
    have c : ¬ byR b' n a < 0 := by rw [e]; exact nI_pos (by omega)
    by_cases c2 : isLo (byR b' n a) = true
    · exact Or.inl ⟨hna, c2, by unfold tkT; rw [if_neg c, if_pos c2]⟩
    · by_cases c3 : isDg (byR b' n a) = true
      · exact Or.inr (Or.inl ⟨hna, c3, by unfold tkT dgE; rw [if_neg c, if_neg c2, if_pos c3]⟩)
      · refine Or.inr (Or.inr ⟨u, hu, hna, e, c2, c3, ?_⟩)
        unfold tkT
        rw [if_neg c, if_neg c2, if_neg c3, e]
        exact nI_add 200 u
theorem tk_nm {L b b' : Nat → Int32} {n a k : Nat} (hn : n ≤ 200) (h : BR b b') (hL : ∀ x, x < 112 → L x = ltr x) (hk : k < 14) (ha : a ≤ n) : nmC b n a k = true ↔ tkT L b' n a = nI (rn k) := by
  obtain ⟨l1, l8, r14⟩ := tabL k hk
  have hlo : nmC b n a k = true → isLo (byR b' n a) = true := fun z => by
    obtain ⟨h1, h2, h3⟩ := nmC_iff.mp z
    have q := h3 0 (by omega)
    rw [byR_i (by omega), ← h.isLo]
    rw [Nat.add_zero] at q
    rw [q]
    exact (tabN k hk 0 (by omega)).2 (by omega)
  rcases tk_or (L := L) h n a with ⟨e, hna⟩ | ⟨hna, c, e⟩ | ⟨hna, c, e⟩ | ⟨u, hu, hna, e0, c2, c3, e⟩
  · refine ⟨fun z => absurd (hlo z) (fun y => ?_), fun z => absurd (e.symm.trans z) (nm1 (by omega))⟩
    have := byR_lt isLo (by decide) y
    omega
  · rw [nmw_e hn h hL hk ha, e, nmT_iff hL r14]
  · refine ⟨fun z => absurd (hlo z) (dg_nl c), fun z => ?_⟩
    rw [e] at z
    split at z
    · exact absurd ((nI_eq (a := 101) (b := rn k) (by omega) (by omega)).mp z) (by omega)
    · exact absurd ((nI_eq (a := 100) (b := rn k) (by omega) (by omega)).mp z) (by omega)
  · refine ⟨fun z => absurd (hlo z) c2, fun z => ?_⟩
    rw [e] at z
    exact absurd ((nI_eq (by omega) (by omega)).mp z) (by omega)
theorem nmT_lt {L b : Nat → Int32} {n g e x : Nat} (h1 : 14 ≤ x) (h2 : x ≠ 101) (hx : x < 2 ^ 31) : ¬ nmT L b n g e 14 = nI x := fun z => by
  rcases nmT_or (L := L) (b := b) (n := n) (g := g) (e := e) 14 with ⟨e1, -⟩ | ⟨v, hv, e1, -⟩
  · rw [e1] at z
    exact h2 ((nI_eq (a := 101) (b := x) (by omega) hx).mp z).symm
  · rw [e1] at z
    exact absurd ((nI_eq (by omega) hx).mp z) (by omega)
theorem tk_259 {L b b' : Nat → Int32} {n a : Nat} (h : BR b b') : (tkT L b' n a = 259 ↔ byR b n a = 59) ∧ (byR b n a = 59 → eoT b' n a = a + 1) := by
  have f1 : byR b n a = 59 ↔ byR b' n a = 59 := by
    unfold byR
    by_cases c : a < n
    · rw [if_pos c, if_pos c, (h a).1]
      exact (tb_q (h a).2).2.2.2.1
    · rw [if_neg c, if_neg c]
  rw [f1]
  refine ⟨?_, fun z => by unfold eoT; rw [z, if_neg (by decide), if_neg (by decide), if_neg (by decide)]⟩
  rcases tk_or (L := L) h n a with ⟨e, hna⟩ | ⟨hna, c, e⟩ | ⟨hna, c, e⟩ | ⟨u, hu, hna, e0, c2, c3, e⟩
  · rw [e]
    refine ⟨fun z => absurd z (by decide), fun z => ?_⟩
    unfold byR at z
    rw [if_neg (by omega)] at z
    exact absurd z (by decide)
  · rw [e]
    refine ⟨fun z => absurd z (nmT_lt (x := 259) (by omega) (by omega) (by omega)), fun z => ?_⟩
    rw [z] at c
    exact absurd c (by decide)
  · rw [e]
    refine ⟨fun z => ?_, fun z => ?_⟩
    · split at z
      · exact absurd z (by decide)
      · exact absurd z (by decide)
    · rw [z] at c
      exact absurd c (by decide)
  · rw [e, e0]
    refine ⟨fun z => ?_, fun z => ?_⟩
    · have := (nI_eq (a := 200 + u) (b := 259) (by omega) (by omega)).mp z
      rw [show u = 59 by omega]
      rfl
    · have := (nI_eq (a := u) (b := 59) (by omega) (by omega)).mp z
      rw [this]
      rfl
theorem tk_100 {L b b' : Nat → Int32} {n a : Nat} (h : BR b b') : tkT L b' n a = 100 ↔ (isDg (byR b' n a) = true ∧ dgE b' n a ≤ a + 3) := by
  rcases tk_or (L := L) h n a with ⟨e, hna⟩ | ⟨hna, c, e⟩ | ⟨hna, c, e⟩ | ⟨u, hu, hna, e0, c2, c3, e⟩
  · rw [e]
    refine ⟨fun z => absurd z (by decide), fun z => ?_⟩
    have := byR_lt isDg (by decide) z.1
    omega
  · rw [e]
    exact ⟨fun z => absurd z (nmT_lt (x := 100) (by omega) (by omega) (by omega)), fun z => absurd c (dg_nl z.1)⟩
  · rw [e]
    split
    · next c4 => exact ⟨fun z => absurd z (by decide), fun z => by omega⟩
    · next c4 => exact ⟨fun _ => ⟨c, by omega⟩, fun _ => rfl⟩
  · rw [e]
    exact ⟨fun z => absurd ((nI_eq (a := 200 + u) (b := 100) (by omega) (by omega)).mp z) (by omega), fun z => absurd z.1 c3⟩
theorem valR_e {b b' : Nat → Int32} {n a : Nat} (h : BR b b') : ∀ j, j ≤ 3 → (∀ i, i < j → isDg (byR b' n (a + i)) = true) → valR b' n a j = dvC b a j
  | 0, _, _ => rfl
  | j + 1, hj, hd => by
    have q := hd j (by omega)
    have lt := byR_lt isDg (by decide) q
    rw [byR_i lt] at q
    rw [valR, if_pos (by omega), dvC, valR_e h j (by omega) (fun i hi => hd i (by omega)), byR_i lt, h.eqDg q, Int32.mul_comm, Int32.sub_eq_add_neg, Int32.add_assoc, ← Int32.sub_eq_add_neg]
theorem num_e {L b b' : Nat → Int32} {n a : Nat} {P : pT} {m f : Int32} (hn : n ≤ 200) (h : BR b b') (ha : a ≤ n) (hT : TK L b' n a P) :
    (tnV P m = nuV b n a m ∧ ¬ tnV P m < 0 ∧ nuF b n a m f = f ∧ TK L b' n (nuA b n a m) (tnP L b' n P m) ∧ a < nuA b n a m) ∨ (tnV P m < 0 ∧ tnP L b' n P m = P ∧ nuF b n a m f = flC f (nI a)) := by
  obtain ⟨t1, t2, t3, t4⟩ := hT
  have ed := dgE_e h n a
  unfold nuV nuA nuF
  by_cases c : a < dgE b n a ∧ dgE b n a ≤ a + 3 ∧ dvC b a (dgE b n a - a) ≤ m
  · left
    rw [if_pos c, if_pos c, if_pos c]
    obtain ⟨c1, c2, c3⟩ := c
    have hd : isDg (byR b' n a) = true := by
      by_cases z : isDg (byR b' n a) = true
      · exact z
      · exfalso
        have : dgE b' n a = a := run_n z
        omega
    have e3 := t3.trans ((tk_100 h).mpr ⟨hd, by omega⟩)
    have al : ∀ i, a ≤ i → i < dgE b' n a → isDg (byR b' n i) = true := run_all (201 - a) a
    have ev : P.2.2.2 = dvC b a (dgE b n a - a) := by
      rw [t4 hd]
      show valR b' n a (dgE b' n a - a) = _
      rw [← ed]
      exact valR_e h _ (by omega) (fun i hi => al _ (by omega) (by omega))
    have et : tnV P m = dvC b a (dgE b n a - a) := by
      unfold tnV
      rw [if_pos ⟨e3, by rw [ev]; exact c3⟩, ev]
    obtain ⟨v, hv, e⟩ := dvC_dg (b := b) (n := n) (a := a) ha c2
    have nn : ¬ tnV P m < 0 := by rw [et, e]; exact nI_pos (by omega)
    refine ⟨et, nn, rfl, ?_, Nat.lt_of_lt_of_le c1 (run_ge _ _)⟩
    unfold tnP
    rw [if_neg nn, blC_e h, ed]
    have e1 : P.1 = dgE b' n a := by
      rw [t2]
      unfold eoT
      rw [if_neg (dg_nn hd), if_neg (dg_nl hd), if_pos hd]
      rfl
    rw [← e1]
    exact TK_next
  · right
    rw [if_neg c]
    have et : tnV P m = -1 := by
      unfold tnV
      refine if_neg (fun z => c ?_)
      obtain ⟨hd, h3⟩ := (tk_100 h).mp (t3.symm.trans z.1)
      have al : ∀ i, a ≤ i → i < dgE b' n a → isDg (byR b' n i) = true := run_all (201 - a) a
      have gt : a < dgE b' n a := run_gt (by omega) hd
      have ev : P.2.2.2 = dvC b a (dgE b n a - a) := by
        rw [t4 hd]
        show valR b' n a (dgE b' n a - a) = _
        rw [← ed]
        exact valR_e h _ (by omega) (fun i hi => al _ (by omega) (by omega))
      exact ⟨by omega, by omega, by rw [← ev]; exact z.2⟩
    refine ⟨by rw [et]; decide, ?_, rfl⟩
    unfold tnP
    rw [if_pos (by rw [et]; decide)]
