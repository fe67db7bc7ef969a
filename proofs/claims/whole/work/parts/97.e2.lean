theorem iteE2 {P : Prop} [Decidable P] {a b a' b' : Nat → Int32} (h : P → EQ a b) (h2 : ¬ P → EQ a' b') : EQ (if P then a else a') (if P then b else b') := by
  by_cases p : P
  · rw [if_pos p, if_pos p]; exact h p
  · rw [if_neg p, if_neg p]; exact h2 p
theorem ite_d {P : Prop} [Decidable P] {α : Type} {a b c : α} (h : ¬ P → b = c) : (if P then a else b) = (if P then a else c) := by
  by_cases p : P
  · rw [if_pos p, if_pos p]
  · rw [if_neg p, if_neg p, h p]
theorem ply_c {V W : Nat → Int32} {k p : Nat} {kd : Int32} {i : Nat} (h6 : V 6 = W 6) (hi : i ≠ 6 → ¬ (16 + 11 * k ≤ i ∧ i < 16 + 11 * k + 11) → V i = W i) : plyNew V k p kd i = plyNew W k p kd i := by
  unfold plyNew
  rw [h6]
  exact ite_d fun n1 => ite_d fun _ => ite_d fun _ => ite_d fun _ => ite_d fun n5 => hi n1 n5
theorem ply_pl {W : Nat → Int32} {k p : Nat} {kd : Int32} (h6 : W 6 = nI k) (hk : k < 8) : plR (plyNew W k p kd) = k + 1 := by
  unfold plR
  rw [show plyNew W k p kd 6 = W 6 + 1 from if_pos rfl, h6, nI_1]
  exact nI_clamp (by omega)
theorem ply_E {V W : Nat → Int32} (h : EQ V W) (hI : InvR W) {p : Nat} {kd : Int32} (h8 : ¬ W 6 = 8) : EQ (plyNew V (plR W) p kd) (plyNew W (plR W) p kd) := by
  obtain ⟨hp, hpl⟩ := hI.pl
  have hk : plR W < 8 := by
    rcases Nat.lt_or_ge (plR W) 8 with c | c
    · exact c
    · exact absurd (by rw [hpl, show plR W = 8 by omega]; rfl) h8
  refine ⟨⟨fun i a b => ply_c h.h6 (fun _ _ => h.1.1 i a b), fun k hk2 f hf => ply_c h.h6 (fun _ n5 => ?_)⟩, ply_c h.h6 (fun _ _ => h.2)⟩
  rw [ply_pl hpl hk] at hk2
  exact h.1.2 k (by omega) f hf
theorem EQ.q_playerW {V W : Nat → Int32} (h : EQ V W) (hI : InvR W) {kd p : Int32} : EQ (playerW V kd p) (playerW W kd p) := by
  unfold playerW
  rw [h.h6, h.1.pl]
  exact iteE2 (fun _ => iteE2 (fun _ => h) (fun c => ply_E h hI c)) (fun _ => h)
/-! what a night shows, what the nights take -/
theorem showR_b {W c : Nat → Int32} (hN : InvN W) (hc : cOk c) : ∀ n, n ≤ 8 → ∃ s, s ≤ n * 1062 ∧ showR W c n = nI s
  | 0, _ => ⟨0, by omega, rfl⟩
  | n + 1, hn => by
    obtain ⟨s, hs, e⟩ := showR_b hN hc n (by omega)
    rw [showR, e]
    rcases hc n (by omega) with z | ⟨b, hb, z⟩
    · rw [if_pos (by rw [z]; decide)]
      exact ⟨s, Nat.le_trans hs (Nat.mul_le_mul_right _ (Nat.le_succ _)), Int32.add_zero _⟩
    · obtain ⟨w, hw, ew⟩ := hN.2.1 n (by omega)
      obtain ⟨q, hq, eq⟩ := goodR_rg hN (k := b) (p := n) hb (by omega)
      rw [if_neg (by rw [z]; exact nI_pos (by omega)), z, nI_clamp (by omega), ew, eq, pk_mul, nI_add]
      have h1 : w * q ≤ 9 * 118 := Nat.mul_le_mul hw hq
      exact ⟨s + w * q, by rw [Nat.succ_mul]; exact Nat.add_le_add hs (Nat.le_trans h1 (by decide)), rfl⟩
theorem showB_b {W : Nat → Int32} (hN : InvN W) (hI : InvR W) : ∃ s, s ≤ 8496 ∧ showB W = nI s := by
  obtain ⟨s, hs, e⟩ := showR_b hN (cst_ok hI) 8 (Nat.le_refl _)
  exact ⟨s, Nat.le_trans hs (by decide), e⟩
theorem i999 : (999999 : Int32) = nI 999999 := by decide +kernel
theorem mnT_n {x : Nat} (h : x < 2 ^ 31) : mnT (nI x) = nI (min x 999999) := by
  unfold mnT
  rw [i999]
  by_cases c : nI 999999 < nI x
  · have := (nI_ltI (a := 999999) (b := x) (by omega) h).mp c
    rw [if_pos c, Nat.min_eq_right (by omega)]
  · have : ¬ 999999 < x := fun z => c ((nI_ltI (a := 999999) (b := x) (by omega) h).mpr z)
    rw [if_neg c, Nat.min_eq_left (by omega)]
theorem held_n {x : Nat} (h : x < 2 ^ 31) : heldR (nI x) 999999 = nI (min x 999999) := by
  unfold heldR
  rw [if_neg (nI_pos (by omega))]
  exact mnT_n h
theorem go7 {W : Nat → Int32} (hN : InvN W) (hI : InvR W) {t : Nat} (ht : t ≤ 999999) (h7 : W 7 = nI t) : ∀ n, n ≤ 61 → ∃ a, a ≤ 999999 + n * 8496 ∧ goR W n 7 = nI a ∧ goC W n 7 = nI (min a 999999)
  | 0, _ => ⟨t, by omega, h7, by rw [goC_0, h7, Nat.min_eq_left ht]⟩
  | n + 1, hn => by
    obtain ⟨a, ha, e1, e2⟩ := go7 hN hI ht h7 n (by omega)
    obtain ⟨s, hs, es⟩ := showB_b (goC_N hN n) (goC_inv hI n)
    have es2 : showB (goR W n) = nI s := ((goC_e hI n).sB (goR_inv hI n)).symm.trans es
    refine ⟨a + s, by omega, ?_, ?_⟩
    · rw [goR, nightR_7, e1, es2, nI_add]
    · rw [goC]
      show upd _ 7 _ 7 = _
      rw [pk_us, e2, es, nI_add, mnT_n (by omega)]
      congr 1
      omega
theorem goC7 {W : Nat → Int32} (hN : InvN W) (hI : InvR W) (h7 : rg (W 7) 999999) {n : Nat} (hn : n ≤ 61) : goC W n 7 = heldR (goR W n 7) 999999 := by
  obtain ⟨t, ht, e⟩ := h7
  obtain ⟨a, ha, e1, e2⟩ := go7 hN hI ht e n hn
  rw [e1, e2, held_n (by omega)]
