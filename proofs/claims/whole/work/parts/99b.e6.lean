variable {V W : Nat → Int32}
/-! what holds of a company's numbers throughout, in the class and in the reference -/
def CI (W : Nat → Int32) : Prop := InvR W ∧ InvN W ∧ rg (W 7) 999999
theorem start_E : EQ coB reB := ⟨⟨fun i a b => (by decide +kernel : ∀ i, i < 16 → coB i = reB i) i a, fun k hk => absurd hk (by rw [(by decide +kernel : plR reB = 0)]; omega)⟩, by decide +kernel⟩
theorem start_z : ∀ i, i < 104 → 16 ≤ i → coB i = 0 ∧ reB i = 0 := by decide +kernel
theorem rg0 {x : Int32} {n : Nat} (h : x = 0) : rg x n := ⟨0, by omega, h⟩
theorem start_CI (W : Nat → Int32) (h1 : rg (W 1) 9) (h2 : rg (W 2) 9) (h3 : rg (W 3) 99) (h4 : rg (W 4) 99) (h6 : W 6 = 0) (h7 : W 7 = 0) (hw : ∀ p, p < 8 → rg (W (8 + p)) 9) (hz : ∀ i, i < 104 → 16 ≤ i → W i = 0) : CI W :=
  ⟨⟨⟨0, by omega, h6⟩, fun k hk => ⟨0, by omega, hz _ (by omega) (by omega)⟩⟩, ⟨⟨h1, h2, h3, h4⟩, hw, fun k hk => ⟨rg0 (hz _ (by omega) (by omega)), rg0 (hz _ (by omega) (by omega)), fun p hp => rg0 (hz _ (by omega) (by omega))⟩⟩, rg0 h7⟩
theorem coB_CI : CI coB := start_CI coB ⟨3, by omega, by decide +kernel⟩ ⟨4, by omega, by decide +kernel⟩ ⟨10, by omega, by decide +kernel⟩ ⟨20, by omega, by decide +kernel⟩ (by decide +kernel) (by decide +kernel) (fun p hp => ⟨cl (coB (8 + p)), (by decide +kernel : ∀ p, p < 8 → cl (coB (8 + p)) ≤ 9 ∧ coB (8 + p) = nI (cl (coB (8 + p)))) p hp⟩) (fun i a b => (start_z i a b).1)
theorem reB_CI : CI reB := start_CI reB ⟨3, by omega, by decide +kernel⟩ ⟨4, by omega, by decide +kernel⟩ ⟨10, by omega, by decide +kernel⟩ ⟨20, by omega, by decide +kernel⟩ (by decide +kernel) (by decide +kernel) (fun p hp => ⟨cl (reB (8 + p)), (by decide +kernel : ∀ p, p < 8 → cl (reB (8 + p)) ≤ 9 ∧ reB (8 + p) = nI (cl (reB (8 + p)))) p hp⟩) (fun i a b => (start_z i a b).2)
theorem CI.mk7 (h : CI W) {X : Nat → Int32} (hR : InvR X) (hN : InvN X) (h7 : X 7 = W 7) : CI X := ⟨hR, hN, by rw [h7]; exact h.2.2⟩
theorem CI.ite {P : Prop} [Decidable P] {X Y : Nat → Int32} (h : P → CI X) (h2 : CI Y) : CI (if P then X else Y) := by
  by_cases p : P
  · rw [if_pos p]; exact h p
  · rw [if_neg p]; exact h2
theorem CI.c_u5 (h : CI W) {x : Int32} : CI (upd W 5 x) := h.mk7 (upd_inv h.1 (by omega) (fun k hk => by omega)) h.2.1.u5 (pk_un (by omega))
theorem CI.c_ui (h : CI W) {k : Nat} {x : Int32} (hx : rg x 9) : CI (upd W (16 + 11 * k + 2) x) := h.mk7 (upd_inv h.1 (by omega) (fun k hk => by omega)) (h.2.1.ui hx) (pk_un (by omega))
theorem CI.c_uk (h : CI W) {k : Nat} {x : Int32} (hx : rg x 5) : CI (upd W (16 + 11 * k + 0) x) := h.mk7 (upd_inv h.1 (by omega) (fun k hk => by omega)) (h.2.1.uk hx) (pk_un (by omega))
theorem CI.c_un (h : CI W) {k p : Nat} (hp : p < 8) {x : Int32} (hx : rg x 99) : CI (upd W (16 + 11 * k + (3 + p)) x) := h.mk7 (upd_inv h.1 (by omega) (fun k hk => by omega)) (h.2.1.un hp hx) (pk_un (by omega))
theorem CI.c_mindW (h : CI W) {x k : Int32} : CI (mindW W x k) := CI.ite (fun c => h.c_uk (rng (x := k) 5 (by decide) c.2)) h
theorem CI.c_sickW (h : CI W) {x v : Int32} : CI (sickW W x v) := CI.ite (fun c => h.c_ui (rng (x := v) 9 (by decide) c.2)) h
theorem CI.c_teachW (h : CI W) {x p v : Int32} : CI (teachW W x p v) := CI.ite (fun c => h.c_un (p7_k c.2.1) (rng (x := v) 99 (by decide) c.2.2)) h
theorem CI.c_thr (h : CI W) : CI (thrR W) := h.mk7 (thrR_inv h.1) (thrR_N h.2.1 h.1) thr7
theorem CI.c_goC (h : CI W) {n : Nat} (hn : n ≤ 61) : CI (goC W n) := by
  obtain ⟨t, ht, e⟩ := h.2.2
  obtain ⟨a, ha, e1, e2⟩ := go7 h.2.1 h.1 ht e n hn
  exact ⟨goC_inv h.1 n, goC_N h.2.1 n, ⟨min a 999999, Nat.min_le_right _ _, e2⟩⟩
theorem goR_N (h : InvN W) : ∀ n, InvN (goR W n)
  | 0 => h
  | n + 1 => nightR_N (goR_N h n)
theorem CI.hldG (h : CI W) {n : Nat} (hn : n ≤ 61) : CI (hldW (goR W n)) := by
  obtain ⟨t, ht, e⟩ := h.2.2
  obtain ⟨a, ha, e1, e2⟩ := go7 h.2.1 h.1 ht e n hn
  refine ⟨upd_inv (goR_inv h.1 n) (by omega) (fun k hk => by omega), (goR_N h.2.1 n).u7, ⟨min a 999999, Nat.min_le_right _ _, ?_⟩⟩
  unfold hldW
  rw [pk_us, e1, held_n (by omega)]
theorem CI.c_nigW (h : CI W) {n : Int32} : CI (nigW W n) := CI.ite (fun c => by
  obtain ⟨j, hj, rfl⟩ := rng (x := n) 60 (by decide) ⟨Int32.le_trans (by decide) c.1, c.2⟩
  rw [cl_nI (by omega)]
  exact h.c_goC (by omega)) h
theorem CI.c_nightsW (h : CI W) {n : Int32} : CI (nightsW W n) := CI.ite (fun c => by
  obtain ⟨j, hj, rfl⟩ := rng (x := n) 60 (by decide) ⟨Int32.le_trans (by decide) c.1, c.2⟩
  rw [cl_nI (by omega)]
  exact h.hldG (by omega)) h
theorem CI.c_nightC (h : CI W) : CI (nightC (thrR W)) := h.c_thr.c_goC (n := 1) (by omega)
theorem CI.c_nightW (h : CI W) : CI (hldW (nightR (thrR W))) := h.c_thr.hldG (n := 1) (by omega)
