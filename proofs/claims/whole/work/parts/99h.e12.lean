/-! ===== the text: one entry on both sides ===== -/
def IC (W : Nat → Int32) : Prop := CI W ∧ W 7 = 0
def ZR (R : Nat → Int32) : Prop := ∀ k, plR R ≤ k → k < 8 → ∀ f, f < 11 → R (16 + 11 * k + f) = 0
def RLt (z : Int32) (W R : Nat → Int32) : Prop := EQ (upd W 5 z) R ∧ IC W ∧ IC R ∧ ZR R
theorem RLt.h6 {z : Int32} {W R : Nat → Int32} (h : RLt z W R) : W 6 = R 6 := by
  have e := h.1.h6
  rw [pk_un (by omega)] at e
  exact e
theorem RLt.pl {z : Int32} {W R : Nat → Int32} (h : RLt z W R) : plR W = plR R := by unfold plR; rw [h.h6]
theorem ply_5 {W : Nat → Int32} {k j : Nat} {kd z : Int32} (hj : j < 8) : upd (plyNew W k j kd) 5 z = plyNew (upd W 5 z) k j kd := by
  funext i
  by_cases e : i = 5
  · subst e
    rw [pk_us, ply_o (by omega) (by omega) hj, pk_us]
  · rw [pk_un e]
    exact (ply_c (pk_un (by omega)) (fun _ _ => pk_un e)).symm
theorem ply_60 {W : Nat → Int32} {k j : Nat} {kd : Int32} : plyNew W k j kd (16 + 11 * k + (3 + j)) = 60 := by
  unfold plyNew
  rw [if_neg (by omega), if_pos rfl]
theorem ply_i0 {W : Nat → Int32} {k j : Nat} {kd : Int32} : plyNew W k j kd (16 + 11 * k + 2) = 0 := by
  unfold plyNew
  rw [if_neg (by omega), if_neg (by omega), if_neg (by omega), if_neg (by omega), if_pos (by omega)]
theorem plN_e {R : Nat → Int32} {p j : Nat} {kd il s : Int32} (hz : ZR R) (hp : p = plR R) (hp8 : p < 8) (h6 : R 6 = nI p) (hj : j < 8) : plN R p j kd (nI j) il s = upd (upd (plyNew R p j kd) (16 + 11 * p + (3 + j)) s) (16 + 11 * p + 2) il := by
  funext i
  have hb : (16 + 11 * p ≤ i ∧ i < 16 + 11 * p + 11) → R i = 0 := fun z => by
    have q := hz p (by omega) hp8 (i - (16 + 11 * p)) (by omega)
    rw [show 16 + 11 * p + (i - (16 + 11 * p)) = i by omega] at q
    exact q
  unfold plN
  by_cases e6 : i = 6
  · subst e6
    rw [pk_us, pk_un (by omega), pk_un (by omega)]
    unfold plyNew
    rw [if_pos rfl, h6]
    exact (nI_1 p).symm
  · rw [pk_un e6]
    by_cases e3 : i = 16 + 11 * p + (3 + j)
    · rw [show 16 + 11 * p + 3 + j = i by omega, pk_us, pk_un (by omega), e3, pk_us]
    · rw [pk_un (by omega)]
      by_cases e2 : i = 16 + 11 * p + 2
      · rw [← e2, pk_us, pk_us]
      · rw [pk_un e2, pk_un e2, pk_un e3]
        unfold plyNew
        rw [if_neg e6, if_neg e3]
        by_cases e1 : i = 16 + 11 * p + 1
        · rw [← e1, pk_us, if_pos rfl]
        · rw [pk_un e1, if_neg e1]
          by_cases e0 : i = 16 + 11 * p + 0
          · rw [if_pos e0, show 16 + 11 * p = i by omega, pk_us]
          · rw [pk_un (by omega), if_neg e0]
            by_cases c : 16 + 11 * p ≤ i ∧ i < 16 + 11 * p + 11
            · rw [if_pos c]
              exact hb c
            · rw [if_neg c]
theorem ply_IC {V : Nat → Int32} {k j : Nat} {kd s il : Int32} (h : IC V) (hk : k < 8) (hj : j < 8) (h6 : V 6 = nI k) (hkd : rg kd 5) (hs : rg s 99) (hil : rg il 9) : IC (upd (upd (plyNew V k j kd) (16 + 11 * k + (3 + j)) s) (16 + 11 * k + 2) il) :=
  ⟨((h.1.c_ply hk hj h6 hkd).c_un hj hs).c_ui hil, by rw [pk_un (by omega), pk_un (by omega), ply_o (by omega) (by omega) hj]; exact h.2⟩
theorem pl_lt8 {R : Nat → Int32} (hI : InvR R) (h8 : ¬ R 6 = 8) : plR R < 8 := by
  obtain ⟨hp8, e6⟩ := hI.pl
  rcases Nat.lt_or_ge (plR R) 8 with q | q
  · exact q
  · exact absurd (by rw [e6, show plR R = 8 by omega]; rfl) h8
theorem ply_RLt {z : Int32} {W R : Nat → Int32} {j : Nat} {kd s il : Int32} (h : RLt z W R) (h8 : ¬ R 6 = 8) (hj : j < 8) (hkd : rg kd 5) (hs : rg s 99) (hil : rg il 9) : RLt z (upd (upd (plyNew W (plR R) j kd) (16 + 11 * plR R + (3 + j)) s) (16 + 11 * plR R + 2) il) (plN R (plR R) j kd (nI j) il s) := by
  have hI : InvR R := h.2.2.1.1.1
  have e6 := hI.pl.2
  have hk8 := pl_lt8 hI h8
  rw [plN_e h.2.2.2 rfl hk8 e6 hj]
  refine ⟨?_, ply_IC h.2.1 hk8 hj (h.h6.trans e6) hkd hs hil, ply_IC h.2.2.1 hk8 hj e6 hkd hs hil, ?_⟩
  · rw [upd_comm (i := 16 + 11 * plR R + 2) (j := 5) (by omega), upd_comm (i := 16 + 11 * plR R + (3 + j)) (j := 5) (by omega), ply_5 hj]
    exact ((ply_E h.1 hI h8).up (by omega)).up (by omega)
  · intro q hq hq8 f hf
    have ep : plR (upd (upd (plyNew R (plR R) j kd) (16 + 11 * plR R + (3 + j)) s) (16 + 11 * plR R + 2) il) = plR R + 1 := by
      rw [upd_pl (by omega), upd_pl (by omega)]
      exact ply_pl e6 hk8
    rw [ep] at hq
    rw [pk_un (by omega), pk_un (by omega), ply_o (by omega) (by omega) hj]
    exact h.2.2.2 q (by omega) hq8 f hf
theorem CI.upw {W : Nat → Int32} (h : CI W) {p : Nat} {v : Int32} (hp : p < 8) (hv : rg v 9) : CI (upd W (8 + p) v) := by
  obtain ⟨u, hu, rfl⟩ := hv
  have q := h.c_weighW (p := nI p) (v := nI u)
  rw [weighW, if_pos ⟨in_c p 7 (by decide) (by omega) (by omega) rfl, in_c u 9 (by decide) hu (by omega) rfl⟩, cl_nI (by omega)] at q
  exact q
def mxL (i : Nat) : Nat := if i < 2 then 9 else 99
theorem CI.upl {W : Nat → Int32} (h : CI W) {i : Nat} {v : Int32} (hi : i < 4) (hv : rg v (mxL i)) : CI (upd W (1 + i) v) := by
  obtain ⟨u, hu, rfl⟩ := hv
  have q := h.c_setW (l := nI i) (v := nI u)
  have e : (if 2 ≤ nI i then 99 else 9 : Int32).toInt = ((mxL i : Nat) : Int) := by
    rcases (by omega : i = 0 ∨ i = 1 ∨ i = 2 ∨ i = 3) with rfl | rfl | rfl | rfl <;> decide
  have h99 : mxL i ≤ 99 := by unfold mxL; split <;> omega
  rw [setW, if_pos ⟨in_c i 3 (by decide) (by omega) (by omega) rfl, in_c u (mxL i) e hu (by omega) rfl⟩, cl_nI (by omega)] at q
  exact q
theorem RLt.uplo {z : Int32} {W R : Nat → Int32} (h : RLt z W R) {i : Nat} {v : Int32} (hi : i < 16) (h5 : i ≠ 5) (h6 : i ≠ 6) (h7 : i ≠ 7) (cw : CI (upd W i v)) (cr : CI (upd R i v)) : RLt z (upd W i v) (upd R i v) :=
  ⟨by rw [upd_comm h5]; exact h.1.up h6, ⟨cw, by rw [pk_un (Ne.symm h7)]; exact h.2.1.2⟩, ⟨cr, by rw [pk_un (Ne.symm h7)]; exact h.2.2.1.2⟩, fun k hk hk8 f hf => by
    rw [upd_pl h6] at hk
    rw [pk_un (by omega)]
    exact h.2.2.2 k hk hk8 f hf⟩
theorem RLt.upw {z : Int32} {W R : Nat → Int32} (h : RLt z W R) {p : Nat} {v : Int32} (hp : p < 8) (hv : rg v 9) : RLt z (upd W (8 + p) v) (upd R (8 + p) v) := h.uplo (by omega) (by omega) (by omega) (by omega) (h.2.1.1.upw hp hv) (h.2.2.1.1.upw hp hv)
theorem RLt.upl {z : Int32} {W R : Nat → Int32} (h : RLt z W R) {i : Nat} {v : Int32} (hi : i < 4) (hv : rg v (mxL i)) : RLt z (upd W (1 + i) v) (upd R (1 + i) v) := h.uplo (by omega) (by omega) (by omega) (by omega) (h.2.1.1.upl hi hv) (h.2.2.1.1.upl hi hv)
/-! ranges hold behind every entry of the class -/
theorem kF1_e {i : Nat} (hi : i < 4) : (kF 1 i).toInt = ((mxL i : Nat) : Int) := by
  rcases (by omega : i = 0 ∨ i = 1 ∨ i = 2 ∨ i = 3) with rfl | rfl | rfl | rfl <;> decide
theorem tpl_IC {b : Nat → Int32} {n : Nat} {kd : Int32} {W : Nat → Int32} {a : Nat} {f : Int32} (h : IC W) (ha : a ≤ n) (h8 : ¬ W 6 = 8) (hkd : rg kd 5) : IC (tplC b n kd W a f).1 := by
  have hk8 := pl_lt8 h.1.1 h8
  have e6 := h.1.1.pl.2
  unfold tplC
  have ha1 := nmA_le (b := b) (k := 11) ha
  obtain ⟨j, hj, ej⟩ := nuV_r (b := b) (k := 7) (m := 7) ha1 (by decide)
  rw [ej, cl_nI (by omega)]
  have ha2 := nuA_le (b := b) (m := 7) ha1
  generalize nuA b n (nmA b n a 11) 7 = a2 at ha2 ⊢
  generalize nuF b n (nmA b n a 11) 7 (ofF b n a f) = f2
  have c1 : CI (plyNew W (plR W) j kd) := h.1.c_ply hk8 (by omega) e6 hkd
  have d1 : plyNew W (plR W) j kd 7 = 0 := (ply_o (by omega) (by omega) (by omega)).trans h.2
  have le2 : (knC b n (plR W) j (plyNew W (plR W) j kd, a2, f2)).2.1 ≤ n := knC_le ha2
  have s1 : IC (knC b n (plR W) j (plyNew W (plR W) j kd, a2, f2)).1 := by
    unfold knC
    split
    · exact ⟨c1.c_un (by omega) (nuV_r (nmA_le ha2) (by decide)), by show upd _ _ _ 7 = 0; rw [pk_un (by omega)]; exact d1⟩
    · exact ⟨c1, d1⟩
  generalize knC b n (plR W) j (plyNew W (plR W) j kd, a2, f2) = T at s1 le2
  unfold ilC
  split
  · exact ⟨s1.1.c_ui (nuV_r (nmA_le le2) (by decide)), by show upd _ _ _ 7 = 0; rw [pk_un (by omega)]; exact s1.2⟩
  · exact s1
theorem one_IC {b : Nat → Int32} {n : Nat} {W : Nat → Int32} {a : Nat} {f : Int32} (h : IC W) (ha : a ≤ n) : IC (oneC b n W a f).1 := by
  have ha1 := opA_le (b := b) ha
  rcases one_cases (b := b) (n := n) (W := W) (a := a) (f := f) with e | ⟨k, hk, h8, e1, e⟩ | ⟨e1, e⟩ | ⟨i, hi, e1, e⟩
  · rw [e]; exact h
  · rw [e]; exact tpl_IC h ha1 h8 ⟨k, by omega, rfl⟩
  · rw [e]
    obtain ⟨j, hj, ej⟩ := nuV_r (b := b) (k := 7) (m := 7) ha1 (by decide)
    unfold on1
    rw [ej, cl_nI (by omega)]
    exact ⟨h.1.upw (by omega) (nuV_r (nuA_le ha1) (by decide)), by show upd _ _ _ 7 = 0; rw [pk_un (by omega)]; exact h.2⟩
  · rw [e]
    unfold on2
    exact ⟨h.1.upl hi (nuV_r ha1 (kF1_e hi)), by show upd _ _ _ 7 = 0; rw [pk_un (by omega)]; exact h.2⟩
theorem tel_IC {b : Nat → Int32} {n : Nat} : ∀ m (W : Nat → Int32) (a : Nat) (f : Int32), IC W → a ≤ n → IC (telC b n m W a f).1
  | 0, _, _, _, h, _ => h
  | m + 1, W, a, f, h, ha => by
    rw [telC]
    split
    · exact tel_IC m _ _ _ (one_IC h ha) (peA_le (oneC_le ha))
    · exact h
/-! what a fault keeps -/
theorem flC_k {f x : Int32} (h : f ≠ -1) : flC f x = f := if_neg h
theorem flC_1 {x : Int32} : flC (-1) x = x := if_pos rfl
theorem nuF_k {b : Nat → Int32} {n a : Nat} {m f : Int32} (h : f ≠ -1) : nuF b n a m f = f := by
  unfold nuF
  split
  · rfl
  · exact flC_k h
theorem knC_k {b : Nat → Int32} {n k j : Nat} {T : tT} (h : T.2.2 ≠ -1) : (knC b n k j T).2.2 = T.2.2 := by
  unfold knC
  split
  · exact nuF_k h
  · rfl
theorem ilC_k {b : Nat → Int32} {n k : Nat} {T : tT} (h : T.2.2 ≠ -1) : (ilC b n k T).2.2 = T.2.2 := by
  unfold ilC
  split
  · exact nuF_k h
  · rfl
theorem nIk {x : Nat} (hx : x < 2 ^ 31) : nI x ≠ -1 := fun z => nm1 hx z.symm
theorem nm_next {L b b' : Nat → Int32} {n a k : Nat} {P : pT} (hn : n ≤ 200) (h : BR b b') (hk : k < 14) (ha : a ≤ n) (hT : TK L b' n a P) (c : nmC b n a k = true) : TK L b' n (nmA b n a k) (nextR L b' n P) ∧ a < nmA b n a k ∧ nmA b n a k ≤ n := by
  obtain ⟨l1, l8, r14⟩ := tabL k hk
  have tab := tabN k hk
  have ey := nmA_y c
  refine ⟨?_, ?_, nmA_le ha⟩
  · obtain ⟨h1, h2, h3⟩ := nmC_iff.mp c
    rw [ey]
    generalize sLn.getD k 0 = l at l1 l8 tab h1 h2 h3 ⊢
    have hc : ∀ i, i < l → isLo (byR b' n (a + i)) = true := fun i hi => by
      rw [byR_i (by omega), ← h.isLo, h3 i hi]
      exact (tab i (by omega)).2 hi
    have e : runR isLo b' n (201 - a) a = a + l := run_is (201 - a) a (by omega) (by omega) (fun i x y => by
      have q := hc (i - a) (by omega)
      rw [show a + (i - a) = i by omega] at q
      exact q) (by rw [← h.lo]; exact h2)
    have q0 := hc 0 (by omega)
    rw [Nat.add_zero] at q0
    have e1 : P.1 = a + l := by
      rw [hT.2.1]
      unfold eoT
      rw [if_neg (lo_nn q0), if_pos q0, e]
    rw [blC_e h, ← e1]
    exact TK_next
  · rw [ey]
    exact Nat.lt_of_lt_of_le (by omega : a < a + sLn.getD k 0) (run_ge _ _)
theorem fw_sp {ok : Nat → Bool} : ∀ m, m < 2 ^ 31 → (fwR ok m = -3 ∧ ∀ j, j < m → ¬ ok j = true) ∨ ∃ j, j < m ∧ fwR ok m = nI j ∧ ok j = true
  | 0, _ => Or.inl ⟨rfl, fun j hj => absurd hj (Nat.not_lt_zero j)⟩
  | m + 1, hm => by
    rw [fwR]
    rcases fw_sp (ok := ok) m (by omega) with ⟨e, hno⟩ | ⟨j, hj, e, hy⟩
    · rw [if_pos e]
      by_cases c : ok m = true
      · rw [if_pos c]
        exact Or.inr ⟨m, by omega, rfl, c⟩
      · rw [if_neg c]
        refine Or.inl ⟨rfl, fun j hj => ?_⟩
        rcases Nat.lt_or_ge j m with q | q
        · exact hno j q
        · rw [show j = m by omega]
          exact c
    · rw [e, if_neg (nI_ne3 (by omega))]
      exact Or.inr ⟨j, by omega, rfl, hy⟩
