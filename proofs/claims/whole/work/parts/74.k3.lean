set_option maxRecDepth 20000 in
set_option maxHeartbeats 1000000 in
theorem s_X11_power (g : pG) (x t : Nat) (ht : t < 100) (S : pS) : MS g mX11_power 1 0 0 [.long (nL x), .int (nI t)] (S) (dL (nL (x ^ t)) S) := by
  refine MS.of pn_X11 (Nat.le_of_ble_eq_true rfl) ?_
  have lp : ∀ (j_ : Nat) (i : Nat) (hi : i ≤ t), t - i < j_ → PW g mX11_power (eN g S.1 1 0 0 (dL (nL (x ^ t)) S)) 5 [some (.long (nL x)), none, some (.int (nI t)), some (.long (nL (x ^ i))), none, some (.int (nI i))] [] (S) 0 0 := by
    intro j_
    induction j_ with
    | zero => intro i hi hj; exact absurd hj (Nat.not_lt_zero _)
    | succ j_ ih =>
      intro i hi hj
      refine r_iload dX11_power_5 rfl ?_
      refine r_iload_n dX11_power_7 rfl rfl ?_
      refine r_icmp_geN (i) (t) (tgt := 21) dX11_power_8 (by decide) (by omega) (by omega) (fun c_8 => ?_) (fun c_8 => ?_)
      · (try dsimp only [Gs_M] at c_8)
        refine r_lload_n dX11_power_21 rfl rfl ?_
        refine r_lret dX11_power_22 rfl (Nat.le_refl _) ?_
        (try dsimp only [Gs_M])
        obtain rfl : i = t := by omega
        exact ⟨rfl, rfl⟩
      · (try dsimp only [Gs_M] at c_8)
        refine r_lload_n dX11_power_11 rfl rfl ?_
        refine r_lload_n dX11_power_12 rfl rfl ?_
        refine r_lmul dX11_power_13 ?_
        rw [nL_mul, ← Nat.pow_succ]
        refine r_lstore_n dX11_power_14 rfl (by decide) ?_
        refine r_iinc (v := nI (i + 1)) dX11_power_15 rfl (nI_1 _) (by decide) ?_
        refine r_goto (tgt := 5) dX11_power_18 (by decide) ?_
        exact PW.subL (ih (i + 1) (by omega) (by omega)) (by repeat' first | exact True.intro | refine And.intro rfl ?_)
  refine r_lconst (v := 1) dX11_power_0 (by decide) ?_
  refine r_lstore_n dX11_power_1 rfl (by decide) ?_
  refine r_iconst (v := 0) dX11_power_2 (by decide) ?_
  refine r_istore dX11_power_3 (by decide) ?_
  exact PW.subL (lp (t + 1) 0 (by omega) (by omega)) (by repeat' first | exact True.intro | refine And.intro rfl ?_)
set_option maxRecDepth 20000 in
set_option maxHeartbeats 1000000 in
theorem s_X11_waysToChoose (g : pG) (n k : Nat) (hn : n ≤ 8) (hk : k ≤ n) (S : pS) : MS g mX11_waysToChoose 1 0 0 [.int (nI n), .int (nI k)] (S) (dL (nL (binR n k)) S) := by
  refine MS.of pn_X11 (Nat.le_of_ble_eq_true rfl) ?_
  have lp : ∀ (j_ : Nat) (i : Nat) (hi : i ≤ k), k - i < j_ → PW g mX11_waysToChoose (eN g S.1 1 0 0 (dL (nL (binR n k)) S)) 5 [some (.int (nI n)), some (.int (nI k)), some (.long (nL (binR n i))), none, some (.int (nI i))] [] (S) 0 0 := by
    intro j_
    induction j_ with
    | zero => intro i hi hj; exact absurd hj (Nat.not_lt_zero _)
    | succ j_ ih =>
      intro i hi hj
      have hb := binR_le (n := n) (i := i) hn (by omega)
      have hm : binR n i * (n - i) ≤ 70 * 8 := Nat.mul_le_mul hb (by omega)
      refine r_iload dX11_waysToChoose_5 rfl ?_
      refine r_iload_n dX11_waysToChoose_7 rfl rfl ?_
      refine r_icmp_geN (i) (k) (tgt := 31) dX11_waysToChoose_8 (by decide) (by omega) (by omega) (fun c_8 => ?_) (fun c_8 => ?_)
      · (try dsimp only [Gs_M] at c_8)
        refine r_lload_n dX11_waysToChoose_31 rfl rfl ?_
        refine r_lret dX11_waysToChoose_32 rfl (Nat.le_refl _) ?_
        (try dsimp only [Gs_M])
        obtain rfl : i = k := by omega
        exact ⟨rfl, rfl⟩
      · (try dsimp only [Gs_M] at c_8)
        refine r_lload_n dX11_waysToChoose_11 rfl rfl ?_
        refine r_iload_n dX11_waysToChoose_12 rfl rfl ?_
        refine r_iload dX11_waysToChoose_13 rfl ?_
        refine r_isubN (n) (i) dX11_waysToChoose_15 (by omega) ?_
        refine r_i2l dX11_waysToChoose_16 rfl ?_
        rw [nL_i2l (by omega)]
        refine r_lmul dX11_waysToChoose_17 ?_
        rw [nL_mul]
        refine r_iload dX11_waysToChoose_18 rfl ?_
        refine r_iconst (v := 1) dX11_waysToChoose_20 (by decide) ?_
        refine r_iaddN (i) (1) dX11_waysToChoose_21 ?_
        refine r_i2l dX11_waysToChoose_22 rfl ?_
        rw [nL_i2l (by omega)]
        refine r_ldiv dX11_waysToChoose_23 (nL_ne0 (by omega) (by omega)) ?_
        rw [nL_div (by omega) (by omega)]
        refine r_lstore_n dX11_waysToChoose_24 rfl (by decide) ?_
        refine r_iinc (v := nI (i + 1)) dX11_waysToChoose_25 rfl (nI_1 _) (by decide) ?_
        refine r_goto (tgt := 5) dX11_waysToChoose_28 (by decide) ?_
        exact PW.subL (ih (i + 1) (by omega) (by omega)) (by repeat' first | exact True.intro | refine And.intro rfl ?_)
  refine r_lconst (v := 1) dX11_waysToChoose_0 (by decide) ?_
  refine r_lstore_n dX11_waysToChoose_1 rfl (by decide) ?_
  refine r_iconst (v := 0) dX11_waysToChoose_2 (by decide) ?_
  refine r_istore dX11_waysToChoose_3 (by decide) ?_
  exact PW.subL (lp (k + 1) 0 (by omega) (by omega)) (by repeat' first | exact True.intro | refine And.intro rfl ?_)
theorem half_mod {a b : Nat} (h : b ≤ a) (hb : 0 < b) : 2 * (a % b) ≤ a := by
  have h1 := Nat.mod_lt a hb
  have h2 := Nat.div_add_mod a b
  have h3 : 1 ≤ a / b := Nat.div_pos h hb
  have h4 : b * 1 ≤ b * (a / b) := Nat.mul_le_mul_left b h3
  omega
theorem euc_step {a b N i : Nat} (hb : 0 < b) (h : i = 0 ∨ b ≤ a) (hN : a * b * 2 ^ (i - 1) ≤ N) : b * (a % b) * 2 ^ i ≤ N := by
  rcases Nat.eq_zero_or_pos i with z | z
  · subst z
    have h1 : a % b ≤ a := Nat.mod_le a b
    have h2 : b * (a % b) ≤ b * a := Nat.mul_le_mul_left b h1
    rw [Nat.mul_comm b a] at h2
    simp at hN ⊢
    omega
  · have h0 := h.resolve_left (by omega)
    have h1 := half_mod h0 hb
    obtain ⟨j, rfl⟩ : ∃ j, i = j + 1 := ⟨i - 1, by omega⟩
    rw [Nat.add_sub_cancel] at hN
    have e : b * (a % b) * 2 ^ (j + 1) = b * (2 * (a % b)) * 2 ^ j := by
      rw [Nat.pow_succ, ← Nat.mul_assoc b 2, Nat.mul_comm b 2, Nat.mul_assoc 2 b, Nat.mul_comm 2 (b * (a % b)), Nat.mul_assoc (b * (a % b)) 2, Nat.mul_comm 2]
    rw [e]
    have h2 : b * (2 * (a % b)) ≤ b * a := Nat.mul_le_mul_left b h1
    rw [Nat.mul_comm b a] at h2
    exact Nat.le_trans (Nat.mul_le_mul_right _ h2) hN
set_option maxRecDepth 20000 in
set_option maxHeartbeats 1000000 in
theorem s_X11_partOfFraction (g : pG) (n d : Nat) (hn : n < 2 ^ 63) (hd : d < 2 ^ 63) (hd0 : 0 < d) (hnd : n * d < 2 ^ 120) (w : Int32) (S : pS) : MS g mX11_partOfFraction 1 0 0 [.long (nL n), .long (nL d), .int w] (S) (dL (prtL n d w) S) := by
  refine MS.of pn_X11 (Nat.le_of_ble_eq_true rfl) ?_
  have J : ∀ (a : Nat), a < 2 ^ 63 → 0 < a → a = Nat.gcd n d → ∀ (z : Int64) (i : Int32), PW g mX11_partOfFraction (eN g S.1 1 0 0 (dL (prtL n d w) S)) 44 [some (.long (nL n)), none, some (.long (nL d)), none, some (.int w), some (.long (nL a)), none, some (.long z), none, some (.int i), none, none] [] S 0 0 := by
    intro a ha ha0 hg z i
    have hne := nL_ne0 ha0 ha
    refine r_lload dX11_partOfFraction_44 rfl ?_
    refine r_lconst (v := 0) dX11_partOfFraction_46 (by decide) ?_
    refine r_lcmp dX11_partOfFraction_47 ?_
    refine r_if_ne (tgt := 55) dX11_partOfFraction_48 (by decide) (fun c_48 => ?_) (fun c_48 => ?_)
    · (try dsimp only [Gs_M] at c_48)
      refine r_iload dX11_partOfFraction_55 rfl ?_
      refine r_if_ne (tgt := 67) dX11_partOfFraction_57 (by decide) (fun c_57 => ?_) (fun c_57 => ?_)
      · (try dsimp only [Gs_M] at c_57)
        refine r_lload_n dX11_partOfFraction_67 rfl rfl ?_
        refine r_lload dX11_partOfFraction_68 rfl ?_
        refine r_ldiv dX11_partOfFraction_70 hne ?_
        refine r_lret dX11_partOfFraction_71 rfl (Nat.le_refl _) ?_
        (try dsimp only [Gs_M])
        refine ⟨?_, rfl⟩
        rw [prtL, if_neg c_57, nL_div (by omega) ha, hg]
      · (try dsimp only [Gs_M] at c_57)
        refine r_lload_n dX11_partOfFraction_60 rfl rfl ?_
        refine r_lload dX11_partOfFraction_61 rfl ?_
        refine r_ldiv dX11_partOfFraction_63 hne ?_
        refine r_goto (tgt := 71) dX11_partOfFraction_64 (by decide) ?_
        refine r_lret dX11_partOfFraction_71 rfl (Nat.le_refl _) ?_
        (try dsimp only [Gs_M])
        refine ⟨?_, rfl⟩
        rw [prtL, if_pos c_57, nL_div (by omega) ha, hg]
    · (try dsimp only [Gs_M] at c_48)
      exact absurd ((lg_cmp_eq _ _).mp c_48) hne
  have lp : ∀ (j_ : Nat) (i a b : Nat) (ha : a < 2 ^ 63) (hb : b < 2 ^ 63) (hg : Nat.gcd a b = Nat.gcd n d) (hi : i ≤ 126) (ho : i = 0 ∨ b ≤ a) (hN : a * b * 2 ^ (i - 1) ≤ n * d), 126 - i < j_ → PW g mX11_partOfFraction (eN g S.1 1 0 0 (dL (prtL n d w) S)) 9 [some (.long (nL n)), none, some (.long (nL d)), none, some (.int w), some (.long (nL a)), none, some (.long (nL b)), none, some (.int (nI i)), none, none] [] (S) 0 0 := by
    intro j_
    induction j_ with
    | zero => intro i a b ha hb hg hi ho hN hj; exact absurd hj (Nat.not_lt_zero _)
    | succ j_ ih =>
      intro i a b ha hb hg hi ho hN hj
      refine r_iload dX11_partOfFraction_9 rfl ?_
      refine r_bipush (v := 126) dX11_partOfFraction_11 (by decide) ?_
      refine r_icmp_geN (i) (126) (tgt := 44) dX11_partOfFraction_13 (by decide) (by omega) (by omega) (fun c_13 => ?_) (fun c_13 => ?_)
      · (try dsimp only [Gs_M] at c_13)
        have e1 : i = 126 := by omega
        subst e1
        have b0 : b = 0 := by
          rcases Nat.eq_zero_or_pos b with e | e
          · exact e
          · exfalso
            have h1 : b ≤ a := ho.resolve_left (by omega)
            have h2 : 1 * 1 ≤ a * b := Nat.mul_le_mul (by omega) e
            have h3 : 1 * 2 ^ (126 - 1) ≤ a * b * 2 ^ (126 - 1) := Nat.mul_le_mul_right _ (by omega)
            have h4 : (2 : Nat) ^ 120 < 1 * 2 ^ (126 - 1) := by decide
            omega
        subst b0
        rw [Nat.gcd_zero_right] at hg
        have ha0 : 0 < a := by rw [hg]; exact Nat.gcd_pos_of_pos_right n hd0
        exact PW.subL (J a ha ha0 hg _ _) (by repeat' first | exact True.intro | refine And.intro rfl ?_)
      · (try dsimp only [Gs_M] at c_13)
        refine r_lload dX11_partOfFraction_16 rfl ?_
        refine r_lconst (v := 0) dX11_partOfFraction_18 (by decide) ?_
        refine r_lcmp dX11_partOfFraction_19 ?_
        refine r_if_eq (tgt := 44) dX11_partOfFraction_20 (by decide) (fun c_20 => ?_) (fun c_20 => ?_)
        · (try dsimp only [Gs_M] at c_20)
          have b0 := nL_is0 hb ((lg_cmp_eq _ _).mp c_20)
          subst b0
          rw [Nat.gcd_zero_right] at hg
          have ha0 : 0 < a := by rw [hg]; exact Nat.gcd_pos_of_pos_right n hd0
          exact PW.subL (J a ha ha0 hg _ _) (by repeat' first | exact True.intro | refine And.intro rfl ?_)
        · (try dsimp only [Gs_M] at c_20)
          have hb0 : 0 < b := by
            rcases Nat.eq_zero_or_pos b with e | e
            · exact absurd ((lg_cmp_eq _ _).mpr (by rw [e]; rfl)) c_20
            · exact e
          have hbn := nL_ne0 hb0 hb
          refine r_lload dX11_partOfFraction_23 rfl ?_
          refine r_lload dX11_partOfFraction_25 rfl ?_
          refine r_lrem dX11_partOfFraction_27 hbn ?_
          rw [nL_rem ha hb]
          refine r_lstore dX11_partOfFraction_28 (by decide) ?_
          refine r_lload dX11_partOfFraction_30 rfl ?_
          refine r_lstore dX11_partOfFraction_32 (by decide) ?_
          refine r_lload dX11_partOfFraction_34 rfl ?_
          refine r_lstore dX11_partOfFraction_36 (by decide) ?_
          refine r_iinc (v := nI (i + 1)) dX11_partOfFraction_38 rfl (nI_1 _) (by decide) ?_
          refine r_goto (tgt := 9) dX11_partOfFraction_41 (by decide) ?_
          exact PW.subL (ih (i + 1) b (a % b) hb (Nat.lt_trans (Nat.mod_lt _ hb0) hb) (by rw [← hg, Nat.gcd_comm a b, Nat.gcd_rec b a, Nat.gcd_comm]) (by omega) (Or.inr (Nat.le_of_lt (Nat.mod_lt _ hb0))) (by rw [Nat.add_sub_cancel]; exact euc_step hb0 ho hN) (by omega)) (by repeat' first | exact True.intro | refine And.intro rfl ?_)
  refine r_lload_n dX11_partOfFraction_0 rfl rfl ?_
  refine r_lstore dX11_partOfFraction_1 (by decide) ?_
  refine r_lload_n dX11_partOfFraction_3 rfl rfl ?_
  refine r_lstore dX11_partOfFraction_4 (by decide) ?_
  refine r_iconst (v := 0) dX11_partOfFraction_6 (by decide) ?_
  refine r_istore dX11_partOfFraction_7 (by decide) ?_
  exact PW.subL (lp 127 0 d n hd hn (Nat.gcd_comm d n) (by omega) (Or.inl rfl) (by rw [Nat.mul_comm d n]; exact Nat.le_of_eq (Nat.mul_one _)) (by omega)) (by repeat' first | exact True.intro | refine And.intro rfl ?_)
