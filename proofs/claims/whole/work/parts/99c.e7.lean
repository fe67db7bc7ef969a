variable {V W : Nat → Int32}
theorem CI.c_setW (h : CI W) {l v : Int32} : CI (setW W l v) := CI.ite (fun c => by
  obtain ⟨⟨c1, c2⟩, c3, c4⟩ := c
  obtain ⟨j, hj, rfl⟩ := rng (x := l) 3 (by decide) ⟨c1, c2⟩
  have e : v ≤ 99 := by
    by_cases y : 2 ≤ nI j
    · rw [if_pos y] at c4; exact c4
    · rw [if_neg y] at c4; exact Int32.le_trans c4 (by decide)
  have h99 := rng (x := v) 99 (by decide) ⟨c3, e⟩
  rw [cl_nI (by omega)]
  refine h.mk7 (upd_inv h.1 (by omega) (fun k hk => by omega)) (h.2.1.up (fun a b => ?_) (fun a b => h99) (by omega) (by omega) (by omega) (by omega)) (pk_un (by omega))
  refine rng (x := v) (hi := 9) 9 (by decide) ⟨c3, ?_⟩
  rw [if_neg ((by decide : ∀ j : Fin 2, ¬ (2 : Int32) ≤ nI j.1) ⟨j, by omega⟩)] at c4
  exact c4) h
theorem CI.c_weighW (h : CI W) {p v : Int32} : CI (weighW W p v) := CI.ite (fun c => by
  have hp := p7_k c.1
  have h9 := rng (x := v) 9 (by decide) c.2
  exact h.mk7 (upd_inv h.1 (by omega) (fun k hk => by omega)) (h.2.1.up (by omega) (by omega) (fun _ _ => h9) (by omega) (by omega) (by omega)) (pk_un (by omega))) h
theorem ply_o {k j i : Nat} {kd : Int32} (h6 : i ≠ 6) (h : ¬ (16 + 11 * k ≤ i ∧ i < 16 + 11 * k + 11)) (hj : j < 8) : plyNew W k j kd i = W i := by
  unfold plyNew
  rw [if_neg h6, if_neg (by omega), if_neg (by omega), if_neg (by omega), if_neg h]
theorem CI.c_ply (h : CI W) {k j : Nat} {kd : Int32} (hk : k < 8) (hj : j < 8) (h6 : W 6 = nI k) (hkd : rg kd 5) : CI (plyNew W k j kd) := by
  obtain ⟨h1, ⟨⟨n1, n2, n3, n4⟩, nw, nk⟩, h7⟩ := h
  refine ⟨plyNew_inv h1 hk hj h6, ⟨⟨?_, ?_, ?_, ?_⟩, fun p hp => ?_, fun q hq => ?_⟩, ?_⟩
  · rw [ply_o (by omega) (by omega) hj]; exact n1
  · rw [ply_o (by omega) (by omega) hj]; exact n2
  · rw [ply_o (by omega) (by omega) hj]; exact n3
  · rw [ply_o (by omega) (by omega) hj]; exact n4
  · rw [ply_o (by omega) (by omega) hj]; exact nw p hp
  · by_cases e : q = k
    · subst e
      refine ⟨?_, ?_, fun p hp => ?_⟩
      · unfold plyNew
        rw [if_neg (by omega), if_neg (by omega), if_neg (by omega), if_pos rfl]; exact hkd
      · unfold plyNew
        rw [if_neg (by omega), if_neg (by omega), if_neg (by omega), if_neg (by omega), if_pos (by omega)]; exact ⟨0, by omega, rfl⟩
      · unfold plyNew
        by_cases y : p = j
        · rw [if_neg (by omega), if_pos (by omega)]; exact ⟨60, by omega, rfl⟩
        · rw [if_neg (by omega), if_neg (by omega), if_neg (by omega), if_neg (by omega), if_pos (by omega)]; exact ⟨0, by omega, rfl⟩
    · obtain ⟨a1, a2, a3⟩ := nk q hq
      refine ⟨?_, ?_, fun p hp => ?_⟩
      · rw [ply_o (by omega) (by omega) hj]; exact a1
      · rw [ply_o (by omega) (by omega) hj]; exact a2
      · rw [ply_o (by omega) (by omega) hj]; exact a3 p hp
  · rw [ply_o (by omega) (by omega) hj]; exact h7
theorem CI.c_playerW (h : CI W) {kd p : Int32} : CI (playerW W kd p) := CI.ite (fun c => by
  by_cases h8 : W 6 = 8
  · rw [if_pos h8]; exact h
  · rw [if_neg h8]
    obtain ⟨hp, hpl⟩ := h.1.pl
    have hk : plR W < 8 := by
      rcases Nat.lt_or_ge (plR W) 8 with c | c
      · exact c
      · exact absurd (by rw [hpl, show plR W = 8 by omega]; rfl) h8
    exact h.c_ply hk (p7_k c.2) hpl (rng (x := kd) 5 (by decide) c.1)) h
theorem CI.c_mnR (h : CI W) {it : Nat → Int32} {x : Nat} : ∀ i, x + i ≤ 8 → CI (mnR W it x i)
  | 0, _ => h
  | i + 1, hi => by
    have e := CI.c_mnR h (it := it) (x := x) i (by omega)
    rw [mnR]
    unfold ownV
    exact e.c_un (e.1.own (x + i) (by omega)) (heldR_rg _)
theorem CI.c_mindsW (h : CI W) {so sz it : Nat → Int32} {a p x w : Int32} : CI (mindsW W so sz it a p x w) := CI.ite (fun c => by
  obtain ⟨_, hx, hw, hs⟩ := c.1
  obtain ⟨h8, hpl⟩ := h.1.pl
  obtain ⟨k, hk, rfl⟩ := rngP hx h8 hpl
  obtain ⟨j, hj, rfl⟩ := rng (x := w) 8 (by decide) hw
  rw [hpl, nI_add] at hs
  have := (nI_leI (by omega) (by omega)).mp hs
  rw [cl_nI (by omega), cl_nI (by omega)]
  exact h.c_mnR _ (by omega)) h
