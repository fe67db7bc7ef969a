/-! a number, a player, one entry, the whole -/
def dvC (b : Nat → Int32) (a : Nat) : Nat → Int32
  | 0 => 0
  | j + 1 => dvC b a j * 10 + (b (a + j) - 48)
def dgE (b : Nat → Int32) (n a : Nat) : Nat := runR isDg b n (201 - a) a
def nuO (b : Nat → Int32) (n a : Nat) (m : Int32) : Prop := a < dgE b n a ∧ dgE b n a ≤ a + 3 ∧ dvC b a (dgE b n a - a) ≤ m
def nuV (b : Nat → Int32) (n a : Nat) (m : Int32) : Int32 := if a < dgE b n a ∧ dgE b n a ≤ a + 3 ∧ dvC b a (dgE b n a - a) ≤ m then dvC b a (dgE b n a - a) else 0
def nuA (b : Nat → Int32) (n a : Nat) (m : Int32) : Nat := if a < dgE b n a ∧ dgE b n a ≤ a + 3 ∧ dvC b a (dgE b n a - a) ≤ m then blC b n (dgE b n a) else dgE b n a
def nuF (b : Nat → Int32) (n a : Nat) (m f : Int32) : Int32 := if a < dgE b n a ∧ dgE b n a ≤ a + 3 ∧ dvC b a (dgE b n a - a) ≤ m then f else flC f (nI a)
theorem dgE_le {b : Nat → Int32} {n a : Nat} (h : a ≤ n) : a ≤ dgE b n a ∧ dgE b n a ≤ n := ⟨run_ge _ _, run_le (by decide) _ _ h⟩
theorem nuA_le {b : Nat → Int32} {n a : Nat} {m : Int32} (h : a ≤ n) : nuA b n a m ≤ n := by
  unfold nuA
  split
  · exact blC_le (dgE_le h).2
  · exact (dgE_le h).2
theorem nmA_le {b : Nat → Int32} {n a k : Nat} (h : a ≤ n) : nmA b n a k ≤ n := by
  unfold nmA
  split
  · next c => exact blC_le (nmC_iff.mp c).1
  · exact h
theorem nuV_rg {b : Nat → Int32} {n a k : Nat} {m : Int32} (hm : m.toInt = (k : Int)) (h0 : 0 ≤ dvC b a (dgE b n a - a) ∨ ¬ (a < dgE b n a ∧ dgE b n a ≤ a + 3 ∧ dvC b a (dgE b n a - a) ≤ m)) : rg (nuV b n a m) k := by
  unfold nuV
  by_cases c : a < dgE b n a ∧ dgE b n a ≤ a + 3 ∧ dvC b a (dgE b n a - a) ≤ m
  · rw [if_pos c]
    exact rng k hm ⟨h0.resolve_right (fun z => z c), c.2.2⟩
  · rw [if_neg c]
    exact ⟨0, by omega, rfl⟩
theorem dvC_nn {b : Nat → Int32} {a : Nat} : ∀ j, j ≤ 3 → (∀ i, i < j → isDg (b (a + i)) = true) → ∃ v, v < 10 ^ j ∧ dvC b a j = nI v
  | 0, _, _ => ⟨0, by decide, rfl⟩
  | j + 1, hj, h => by
    obtain ⟨v, hv, e⟩ := dvC_nn j (by omega) (fun i hi => h i (by omega))
    have hd := of_decide_eq_true (h j (by omega))
    obtain ⟨d, hd1, hd2⟩ := rng (x := b (a + j)) (hi := 57) 57 (by decide) ⟨Int32.le_trans (by decide) hd.1, hd.2⟩
    have h48 : 48 ≤ d := by
      have h1 := hd.1
      rw [hd2] at h1
      exact (nI_leI (a := 48) (by omega) (by omega)).mp h1
    have hp : 10 ^ j ≤ 10 ^ 2 := Nat.pow_le_pow_right (by decide) (by omega)
    refine ⟨v * 10 + (d - 48), ?_, ?_⟩
    · rw [Nat.pow_succ]; omega
    · rw [dvC, e, hd2, show (48 : Int32) = nI 48 from rfl, show (10 : Int32) = nI 10 from rfl, pk_mul, pk_sub h48, nI_add]
theorem run_all {p : Int32 → Bool} {b : Nat → Int32} {n : Nat} : ∀ f a i, a ≤ i → i < runR p b n f a → p (byR b n i) = true
  | 0, a, i, h1, h2 => absurd h2 (by rw [runR]; omega)
  | f + 1, a, i, h1, h2 => by
    rw [runR] at h2
    by_cases c : p (byR b n a) = true
    · rw [if_pos c] at h2
      by_cases e : i = a
      · rw [e]; exact c
      · exact run_all f (a + 1) i (by omega) h2
    · rw [if_neg c] at h2; omega
theorem dvC_dg {b : Nat → Int32} {n a : Nat} (ha : a ≤ n) (h3 : dgE b n a ≤ a + 3) : ∃ v, v < 1000 ∧ dvC b a (dgE b n a - a) = nI v := by
  have h1 := dgE_le (b := b) ha
  obtain ⟨v, hv, e⟩ := dvC_nn (b := b) (a := a) (dgE b n a - a) (by omega) (fun i hi => by
    have h := run_all (p := isDg) (b := b) (n := n) (201 - a) a (a + i) (by omega) (by show a + i < dgE b n a; omega)
    rw [byR_i (by omega)] at h
    exact h)
  have hp : 10 ^ (dgE b n a - a) ≤ 10 ^ 3 := Nat.pow_le_pow_right (by decide) (by omega)
  exact ⟨v, by omega, e⟩
theorem nuV_r {b : Nat → Int32} {n a k : Nat} {m : Int32} (ha : a ≤ n) (hm : m.toInt = (k : Int)) : rg (nuV b n a m) k := by
  refine nuV_rg hm ?_
  by_cases c : dgE b n a ≤ a + 3
  · obtain ⟨v, hv, e⟩ := dvC_dg (b := b) ha c
    exact Or.inl (by rw [e]; exact nI_pos' (by omega))
  · exact Or.inr (fun z => c z.2.1)
set_option maxRecDepth 20000 in
set_option maxHeartbeats 1000000 in
theorem s_X8_passNumber (g : pG) {M : Nat → Nat → Int32} {n : Nat} (hn : n ≤ 200) (en : M 29 1 = nI n) {a0 : Nat} (ha : a0 ≤ n) (f : Int32) (m : Int32) : MS g mX8_passNumber 3 0 0 [.ref 29, .int m] (Gs (tcS M (a0) (f))) (dI (nuV (M 30) n a0 m) (Gs (tcS M (nuA (M 30) n a0 m) (nuF (M 30) n a0 m f)))) := by
  refine MS.of pn_X8 (Nat.le_of_ble_eq_true rfl) ?_
  have lp : ∀ (j_ : Nat) (a : Nat) (hga : a0 ≤ a) (han : a ≤ n) (hr : runR isDg (M 30) n (201 - a) a = dgE (M 30) n a0), 201 - a < j_ → PW g mX8_passNumber (eN g (Gs (tcS M (a0) (f))).1 3 0 0 (dI (nuV (M 30) n a0 m) (Gs (tcS M (nuA (M 30) n a0 m) (nuF (M 30) n a0 m f))))) 7 [some (.ref 29), some (.int m), some (.int (nI a0)), some (.int (dvC (M 30) a0 (a - a0))), none] [] (Gs (tcS M (a) (f))) 0 0 := by
    intro j_
    induction j_ with
    | zero => intro a hga han hr hj; exact absurd hj (Nat.not_lt_zero _)
    | succ j_ ih =>
      intro a hga han hr hj
      refine r_aload_n dX8_passNumber_7 rfl rfl ?_
      refine r_getI dX8_passNumber_8 (ci := 8) (kf := 2) rfl (Nat.le_of_ble_eq_true rfl) (by decide) (by decide) rfl fl_X8_24 (Or.inl rfl) ?_
      rw [tc_a]
      refine r_aload_n dX8_passNumber_11 rfl rfl ?_
      refine r_getI dX8_passNumber_12 (ci := 8) (kf := 1) rfl (Nat.le_of_ble_eq_true rfl) (by decide) (by decide) rfl fl_X8_15 (Or.inl rfl) ?_
      rw [show ∀ a f, (Gs (tcS M a f)).2.2.2 29 1 = nI n from fun _ _ => en]
      refine r_icmp_geN (a) (n) (tgt := 64) dX8_passNumber_15 (by decide) (by omega) (by omega) (fun c_15 => ?_) (fun c_15 => ?_)
      · (try dsimp only [Gs_M] at c_15)
        have hE : a = dgE (M 30) n a0 := by rw [← hr, run_n (fun z => absurd (byR_lt isDg (by decide) z) (by omega))]
        
        refine r_aload_n dX8_passNumber_64 rfl rfl ?_
        refine r_getI dX8_passNumber_65 (ci := 8) (kf := 2) rfl (Nat.le_of_ble_eq_true rfl) (by decide) (by decide) rfl fl_X8_24 (Or.inl rfl) ?_
        rw [tc_a]
        refine r_iload_n dX8_passNumber_68 rfl rfl ?_
        refine r_isubN (a) (a0) dX8_passNumber_69 (by omega) ?_
        refine r_istore dX8_passNumber_70 (by decide) ?_
        refine r_iload dX8_passNumber_72 rfl ?_
        refine r_if_eq (tgt := 88) dX8_passNumber_74 (by decide) (fun c_74 => ?_) (fun c_74 => ?_)
        · (try dsimp only [Gs_M] at c_74)
          have c_74 : a - a0 = 0 := by
            rcases Nat.eq_zero_or_pos (a - a0) with e | e
            · exact e
            · exact absurd c_74 (nI_ne0 e (by omega))
          refine r_aload_n dX8_passNumber_88 rfl rfl ?_
          refine r_iload_n dX8_passNumber_89 rfl rfl ?_
          refine r_callV_dV (ci := 8) dX8_passNumber_90 (s_X8_fail g _ _) mf_X8_fail mi_X8_fail se_X8_X8_X8_fail ml_X8_47 rfl rfl (Nat.le_of_ble_eq_true rfl) rfl (by decide) rfl (Nat.le_of_ble_eq_true rfl) ⟨(Nat.le_of_ble_eq_true rfl), (Nat.le_of_ble_eq_true rfl)⟩ ⟨(Nat.le_of_ble_eq_true rfl), (Nat.le_of_ble_eq_true rfl)⟩ ?_
          skip
          refine r_iconst (v := 0) dX8_passNumber_93 (by decide) ?_
          refine r_iret dX8_passNumber_94 rfl (Nat.le_refl _) ?_
          (try dsimp only [Gs_M])
          have nO : ¬ (a0 < dgE (M 30) n a0 ∧ dgE (M 30) n a0 ≤ a0 + 3 ∧ dvC (M 30) a0 (dgE (M 30) n a0 - a0) ≤ m) := fun z => absurd z.1 (by rw [← hE]; omega)
          rw [nuV, nuA, nuF, if_neg nO, if_neg nO, if_neg nO, ← hE]
          exact ⟨rfl, rfl⟩
        · (try dsimp only [Gs_M] at c_74)
          have c_74 : ¬ a - a0 = 0 := fun e => c_74 (by rw [e]; rfl)
          refine r_iload dX8_passNumber_77 rfl ?_
          refine r_iconst (v := 3) dX8_passNumber_79 (by decide) ?_
          refine r_icmp_gtN ((a - a0)) (3) (tgt := 88) dX8_passNumber_80 (by decide) (by omega) (by omega) (fun c_80 => ?_) (fun c_80 => ?_)
          · (try dsimp only [Gs_M] at c_80)
            refine r_aload_n dX8_passNumber_88 rfl rfl ?_
            refine r_iload_n dX8_passNumber_89 rfl rfl ?_
            refine r_callV_dV (ci := 8) dX8_passNumber_90 (s_X8_fail g _ _) mf_X8_fail mi_X8_fail se_X8_X8_X8_fail ml_X8_47 rfl rfl (Nat.le_of_ble_eq_true rfl) rfl (by decide) rfl (Nat.le_of_ble_eq_true rfl) ⟨(Nat.le_of_ble_eq_true rfl), (Nat.le_of_ble_eq_true rfl)⟩ ⟨(Nat.le_of_ble_eq_true rfl), (Nat.le_of_ble_eq_true rfl)⟩ ?_
            skip
            refine r_iconst (v := 0) dX8_passNumber_93 (by decide) ?_
            refine r_iret dX8_passNumber_94 rfl (Nat.le_refl _) ?_
            (try dsimp only [Gs_M])
            have nO : ¬ (a0 < dgE (M 30) n a0 ∧ dgE (M 30) n a0 ≤ a0 + 3 ∧ dvC (M 30) a0 (dgE (M 30) n a0 - a0) ≤ m) := fun z => absurd z.2.1 (by rw [← hE]; omega)
            rw [nuV, nuA, nuF, if_neg nO, if_neg nO, if_neg nO, ← hE]
            exact ⟨rfl, rfl⟩
          · (try dsimp only [Gs_M] at c_80)
            refine r_iload_n dX8_passNumber_83 rfl rfl ?_
            refine r_iload_n dX8_passNumber_84 rfl rfl ?_
            refine r_icmp_le (tgt := 95) dX8_passNumber_85 (by decide) (fun c_85 => ?_) (fun c_85 => ?_)
            · (try dsimp only [Gs_M] at c_85)
              refine r_aload_n dX8_passNumber_95 rfl rfl ?_
              refine r_callV_dV (ci := 8) dX8_passNumber_96 (s_X8_passBlanks g hn en han _) mf_X8_passBlanks mi_X8_passBlanks se_X8_X8_X8_passBlanks ml_X8_30 rfl rfl (Nat.le_of_ble_eq_true rfl) rfl (by decide) rfl (Nat.le_of_ble_eq_true rfl) ⟨(Nat.le_of_ble_eq_true rfl), (Nat.le_of_ble_eq_true rfl)⟩ ⟨(Nat.le_of_ble_eq_true rfl), (Nat.le_of_ble_eq_true rfl)⟩ ?_
              refine r_iload_n dX8_passNumber_99 rfl rfl ?_
              refine r_iret dX8_passNumber_100 rfl (Nat.le_refl _) ?_
              (try dsimp only [Gs_M])
              have yO : a0 < dgE (M 30) n a0 ∧ dgE (M 30) n a0 ≤ a0 + 3 ∧ dvC (M 30) a0 (dgE (M 30) n a0 - a0) ≤ m := by rw [← hE]; exact ⟨by omega, by omega, c_85⟩
              rw [nuV, nuA, nuF, if_pos yO, if_pos yO, if_pos yO, ← hE]
              exact ⟨rfl, rfl⟩
            · (try dsimp only [Gs_M] at c_85)
              refine r_aload_n dX8_passNumber_88 rfl rfl ?_
              refine r_iload_n dX8_passNumber_89 rfl rfl ?_
              refine r_callV_dV (ci := 8) dX8_passNumber_90 (s_X8_fail g _ _) mf_X8_fail mi_X8_fail se_X8_X8_X8_fail ml_X8_47 rfl rfl (Nat.le_of_ble_eq_true rfl) rfl (by decide) rfl (Nat.le_of_ble_eq_true rfl) ⟨(Nat.le_of_ble_eq_true rfl), (Nat.le_of_ble_eq_true rfl)⟩ ⟨(Nat.le_of_ble_eq_true rfl), (Nat.le_of_ble_eq_true rfl)⟩ ?_
              skip
              refine r_iconst (v := 0) dX8_passNumber_93 (by decide) ?_
              refine r_iret dX8_passNumber_94 rfl (Nat.le_refl _) ?_
              (try dsimp only [Gs_M])
              have nO : ¬ (a0 < dgE (M 30) n a0 ∧ dgE (M 30) n a0 ≤ a0 + 3 ∧ dvC (M 30) a0 (dgE (M 30) n a0 - a0) ≤ m) := fun z => c_85 (by have y := z.2.2; rw [← hE] at y; exact y)
              rw [nuV, nuA, nuF, if_neg nO, if_neg nO, if_neg nO, ← hE]
              exact ⟨rfl, rfl⟩
      · (try dsimp only [Gs_M] at c_15)
        refine r_aload_n dX8_passNumber_18 rfl rfl ?_
        refine r_getR (q := 30) dX8_passNumber_19 (ci := 8) (kf := 0) rfl (Nat.le_of_ble_eq_true rfl) (by decide) (by decide) rfl fl_X8_11 (Or.inl rfl) rfl ?_
        refine r_aload_n dX8_passNumber_22 rfl rfl ?_
        refine r_getI dX8_passNumber_23 (ci := 8) (kf := 2) rfl (Nat.le_of_ble_eq_true rfl) (by decide) (by decide) rfl fl_X8_24 (Or.inl rfl) ?_
        rw [tc_a]
        refine r_bald (j := a) dX8_passNumber_26 rfl (Nat.le_of_ble_eq_true rfl) rfl (by omega) (by decide) ?_
        refine r_callS_dI dX8_passNumber_27 (s_X8_isDigit g _ _) mf_X8_isDigit mt_X8_isDigit ml_X8_127 rfl rfl (Nat.le_of_ble_eq_true rfl) ⟨(Nat.le_of_ble_eq_true rfl), (Nat.le_of_ble_eq_true rfl)⟩ ⟨(Nat.le_of_ble_eq_true rfl), (Nat.le_of_ble_eq_true rfl)⟩ ?_
        refine r_if_eq (tgt := 64) dX8_passNumber_30 (by decide) (fun c_30 => ?_) (fun c_30 => ?_)
        · have c_30 := bI_0 c_30
          (try dsimp only [Gs_M] at c_30)
          have hE : a = dgE (M 30) n a0 := by rw [← hr, run_n (fun z => c_30 (by rw [byR_i c_15] at z; exact z))]
          
          refine r_aload_n dX8_passNumber_64 rfl rfl ?_
          refine r_getI dX8_passNumber_65 (ci := 8) (kf := 2) rfl (Nat.le_of_ble_eq_true rfl) (by decide) (by decide) rfl fl_X8_24 (Or.inl rfl) ?_
          rw [tc_a]
          refine r_iload_n dX8_passNumber_68 rfl rfl ?_
          refine r_isubN (a) (a0) dX8_passNumber_69 (by omega) ?_
          refine r_istore dX8_passNumber_70 (by decide) ?_
          refine r_iload dX8_passNumber_72 rfl ?_
          refine r_if_eq (tgt := 88) dX8_passNumber_74 (by decide) (fun c_74 => ?_) (fun c_74 => ?_)
          · (try dsimp only [Gs_M] at c_74)
            have c_74 : a - a0 = 0 := by
              rcases Nat.eq_zero_or_pos (a - a0) with e | e
              · exact e
              · exact absurd c_74 (nI_ne0 e (by omega))
            refine r_aload_n dX8_passNumber_88 rfl rfl ?_
            refine r_iload_n dX8_passNumber_89 rfl rfl ?_
            refine r_callV_dV (ci := 8) dX8_passNumber_90 (s_X8_fail g _ _) mf_X8_fail mi_X8_fail se_X8_X8_X8_fail ml_X8_47 rfl rfl (Nat.le_of_ble_eq_true rfl) rfl (by decide) rfl (Nat.le_of_ble_eq_true rfl) ⟨(Nat.le_of_ble_eq_true rfl), (Nat.le_of_ble_eq_true rfl)⟩ ⟨(Nat.le_of_ble_eq_true rfl), (Nat.le_of_ble_eq_true rfl)⟩ ?_
            skip
            refine r_iconst (v := 0) dX8_passNumber_93 (by decide) ?_
            refine r_iret dX8_passNumber_94 rfl (Nat.le_refl _) ?_
            (try dsimp only [Gs_M])
            have nO : ¬ (a0 < dgE (M 30) n a0 ∧ dgE (M 30) n a0 ≤ a0 + 3 ∧ dvC (M 30) a0 (dgE (M 30) n a0 - a0) ≤ m) := fun z => absurd z.1 (by rw [← hE]; omega)
            rw [nuV, nuA, nuF, if_neg nO, if_neg nO, if_neg nO, ← hE]
            exact ⟨rfl, rfl⟩
          · (try dsimp only [Gs_M] at c_74)
            have c_74 : ¬ a - a0 = 0 := fun e => c_74 (by rw [e]; rfl)
            refine r_iload dX8_passNumber_77 rfl ?_
            refine r_iconst (v := 3) dX8_passNumber_79 (by decide) ?_
            refine r_icmp_gtN ((a - a0)) (3) (tgt := 88) dX8_passNumber_80 (by decide) (by omega) (by omega) (fun c_80 => ?_) (fun c_80 => ?_)
            · (try dsimp only [Gs_M] at c_80)
              refine r_aload_n dX8_passNumber_88 rfl rfl ?_
              refine r_iload_n dX8_passNumber_89 rfl rfl ?_
              refine r_callV_dV (ci := 8) dX8_passNumber_90 (s_X8_fail g _ _) mf_X8_fail mi_X8_fail se_X8_X8_X8_fail ml_X8_47 rfl rfl (Nat.le_of_ble_eq_true rfl) rfl (by decide) rfl (Nat.le_of_ble_eq_true rfl) ⟨(Nat.le_of_ble_eq_true rfl), (Nat.le_of_ble_eq_true rfl)⟩ ⟨(Nat.le_of_ble_eq_true rfl), (Nat.le_of_ble_eq_true rfl)⟩ ?_
              skip
              refine r_iconst (v := 0) dX8_passNumber_93 (by decide) ?_
              refine r_iret dX8_passNumber_94 rfl (Nat.le_refl _) ?_
              (try dsimp only [Gs_M])
              have nO : ¬ (a0 < dgE (M 30) n a0 ∧ dgE (M 30) n a0 ≤ a0 + 3 ∧ dvC (M 30) a0 (dgE (M 30) n a0 - a0) ≤ m) := fun z => absurd z.2.1 (by rw [← hE]; omega)
              rw [nuV, nuA, nuF, if_neg nO, if_neg nO, if_neg nO, ← hE]
              exact ⟨rfl, rfl⟩
            · (try dsimp only [Gs_M] at c_80)
              refine r_iload_n dX8_passNumber_83 rfl rfl ?_
              refine r_iload_n dX8_passNumber_84 rfl rfl ?_
              refine r_icmp_le (tgt := 95) dX8_passNumber_85 (by decide) (fun c_85 => ?_) (fun c_85 => ?_)
              · (try dsimp only [Gs_M] at c_85)
                refine r_aload_n dX8_passNumber_95 rfl rfl ?_
                refine r_callV_dV (ci := 8) dX8_passNumber_96 (s_X8_passBlanks g hn en han _) mf_X8_passBlanks mi_X8_passBlanks se_X8_X8_X8_passBlanks ml_X8_30 rfl rfl (Nat.le_of_ble_eq_true rfl) rfl (by decide) rfl (Nat.le_of_ble_eq_true rfl) ⟨(Nat.le_of_ble_eq_true rfl), (Nat.le_of_ble_eq_true rfl)⟩ ⟨(Nat.le_of_ble_eq_true rfl), (Nat.le_of_ble_eq_true rfl)⟩ ?_
                refine r_iload_n dX8_passNumber_99 rfl rfl ?_
                refine r_iret dX8_passNumber_100 rfl (Nat.le_refl _) ?_
                (try dsimp only [Gs_M])
                have yO : a0 < dgE (M 30) n a0 ∧ dgE (M 30) n a0 ≤ a0 + 3 ∧ dvC (M 30) a0 (dgE (M 30) n a0 - a0) ≤ m := by rw [← hE]; exact ⟨by omega, by omega, c_85⟩
                rw [nuV, nuA, nuF, if_pos yO, if_pos yO, if_pos yO, ← hE]
                exact ⟨rfl, rfl⟩
              · (try dsimp only [Gs_M] at c_85)
                refine r_aload_n dX8_passNumber_88 rfl rfl ?_
                refine r_iload_n dX8_passNumber_89 rfl rfl ?_
                refine r_callV_dV (ci := 8) dX8_passNumber_90 (s_X8_fail g _ _) mf_X8_fail mi_X8_fail se_X8_X8_X8_fail ml_X8_47 rfl rfl (Nat.le_of_ble_eq_true rfl) rfl (by decide) rfl (Nat.le_of_ble_eq_true rfl) ⟨(Nat.le_of_ble_eq_true rfl), (Nat.le_of_ble_eq_true rfl)⟩ ⟨(Nat.le_of_ble_eq_true rfl), (Nat.le_of_ble_eq_true rfl)⟩ ?_
                skip
                refine r_iconst (v := 0) dX8_passNumber_93 (by decide) ?_
                refine r_iret dX8_passNumber_94 rfl (Nat.le_refl _) ?_
                (try dsimp only [Gs_M])
                have nO : ¬ (a0 < dgE (M 30) n a0 ∧ dgE (M 30) n a0 ≤ a0 + 3 ∧ dvC (M 30) a0 (dgE (M 30) n a0 - a0) ≤ m) := fun z => c_85 (by have y := z.2.2; rw [← hE] at y; exact y)
                rw [nuV, nuA, nuF, if_neg nO, if_neg nO, if_neg nO, ← hE]
                exact ⟨rfl, rfl⟩
        · have c_30 := bI_n c_30
          (try dsimp only [Gs_M] at c_30)
          refine r_iload_n dX8_passNumber_33 rfl rfl ?_
          refine r_bipush (v := 10) dX8_passNumber_34 (by decide) ?_
          refine r_imul dX8_passNumber_36 ?_
          refine r_aload_n dX8_passNumber_37 rfl rfl ?_
          refine r_getR (q := 30) dX8_passNumber_38 (ci := 8) (kf := 0) rfl (Nat.le_of_ble_eq_true rfl) (by decide) (by decide) rfl fl_X8_11 (Or.inl rfl) rfl ?_
          refine r_aload_n dX8_passNumber_41 rfl rfl ?_
          refine r_getI dX8_passNumber_42 (ci := 8) (kf := 2) rfl (Nat.le_of_ble_eq_true rfl) (by decide) (by decide) rfl fl_X8_24 (Or.inl rfl) ?_
          rw [tc_a]
          refine r_bald (j := a) dX8_passNumber_45 rfl (Nat.le_of_ble_eq_true rfl) rfl (by omega) (by decide) ?_
          refine r_bipush (v := 48) dX8_passNumber_46 (by decide) ?_
          refine r_isub dX8_passNumber_48 ?_
          refine r_iadd dX8_passNumber_49 ?_
          refine r_istore_n dX8_passNumber_50 rfl (by decide) ?_
          refine r_aload_n dX8_passNumber_51 rfl rfl ?_
          refine r_dup dX8_passNumber_52 rfl ?_
          refine r_getI dX8_passNumber_53 (ci := 8) (kf := 2) rfl (Nat.le_of_ble_eq_true rfl) (by decide) (by decide) rfl fl_X8_24 (Or.inl rfl) ?_
          rw [tc_a]
          refine r_iconst (v := 1) dX8_passNumber_56 (by decide) ?_
          refine r_iaddN (a) (1) dX8_passNumber_57 ?_
          refine r_putI dX8_passNumber_58 (ci := 8) (kf := 2) rfl (Nat.le_of_ble_eq_true rfl) (by decide) (by decide) rfl fl_X8_24 (Or.inl rfl) rfl rfl rfl ?_
          rw [tc_sa]
          refine r_goto (tgt := 7) dX8_passNumber_61 (by decide) ?_
          have hy : isDg (byR (M 30) n a) = true := by rw [byR_i c_15]; exact c_30
          exact PW.subL (ih (a + 1) (by omega) (by omega) ((run_y hn (by decide) hy).trans hr) (by omega)) (by refine ⟨rfl, rfl, rfl, ?_, True.intro⟩; rw [show a + 1 - a0 = (a - a0) + 1 by omega, dvC, show a0 + (a - a0) = a by omega]; rfl)
  refine r_aload_n dX8_passNumber_0 rfl rfl ?_
  refine r_getI dX8_passNumber_1 (ci := 8) (kf := 2) rfl (Nat.le_of_ble_eq_true rfl) (by decide) (by decide) rfl fl_X8_24 (Or.inl rfl) ?_
  rw [tc_a]
  refine r_istore_n dX8_passNumber_4 rfl (by decide) ?_
  refine r_iconst (v := 0) dX8_passNumber_5 (by decide) ?_
  refine r_istore_n dX8_passNumber_6 rfl (by decide) ?_
  refine PW.subL (L' := [some (.ref 29), some (.int m), some (.int (nI a0)), some (.int (dvC (M 30) a0 (a0 - a0))), none]) ?_ (by refine ⟨rfl, rfl, rfl, ?_, True.intro⟩; rw [Nat.sub_self]; rfl)
  exact PW.subL (lp 202 a0 (Nat.le_refl _) ha rfl (by omega)) (by repeat' first | exact True.intro | refine And.intro rfl ?_)
