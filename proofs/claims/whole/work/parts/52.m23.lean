theorem nx1 {L b : Nat → Int32} {n s : Nat} {P : pT} (hs : runR isSp b n (201 - P.1) P.1 = s) (h : byR b n s < 0) : nextR L b n P = (s, s, -1, P.2.2.2) := by
  unfold nextR; rw [hs, if_pos h]
theorem nx2 {L b : Nat → Int32} {n s : Nat} {P : pT} (hs : runR isSp b n (201 - P.1) P.1 = s) (h : ¬ byR b n s < 0) (h2 : isLo (byR b n s) = true) : nextR L b n P = (runR isLo b n (201 - s) s, s, nmT L b n s (runR isLo b n (201 - s) s) 14, P.2.2.2) := by
  unfold nextR; rw [hs, if_neg h, if_pos h2]
theorem nx3 {L b : Nat → Int32} {n s : Nat} {P : pT} (hs : runR isSp b n (201 - P.1) P.1 = s) (h : ¬ byR b n s < 0) (h2 : ¬ isLo (byR b n s) = true) (h3 : isDg (byR b n s) = true) : nextR L b n P = (runR isDg b n (201 - s) s, s, if 3 < runR isDg b n (201 - s) s - s then 101 else 100, valR b n s (runR isDg b n (201 - s) s - s)) := by
  unfold nextR; rw [hs, if_neg h, if_neg h2, if_pos h3]
theorem nx4 {L b : Nat → Int32} {n s : Nat} {P : pT} (hs : runR isSp b n (201 - P.1) P.1 = s) (h : ¬ byR b n s < 0) (h2 : ¬ isLo (byR b n s) = true) (h3 : ¬ isDg (byR b n s) = true) : nextR L b n P = (s + 1, s, 200 + byR b n s, P.2.2.2) := by
  unfold nextR; rw [hs, if_neg h, if_neg h2, if_neg h3]
theorem byR_in {b : Nat → Int32} {n i : Nat} (h : ¬ byR b n i < 0) : i < n := by
  unfold byR at h
  by_cases c : i < n
  · exact c
  · rw [if_neg c] at h
    exact absurd (by decide) h
theorem nextR_le {L b : Nat → Int32} {n : Nat} {P : pT} (h : P.1 ≤ n) : (nextR L b n P).1 ≤ n ∧ (nextR L b n P).2.1 ≤ (nextR L b n P).1 := by
  have h1 : runR isSp b n (201 - P.1) P.1 ≤ n := run_le (by decide) _ _ h
  by_cases c1 : byR b n (runR isSp b n (201 - P.1) P.1) < 0
  · rw [nx1 rfl c1]; exact ⟨h1, Nat.le_refl _⟩
  · by_cases c2 : isLo (byR b n (runR isSp b n (201 - P.1) P.1)) = true
    · rw [nx2 rfl c1 c2]; exact ⟨run_le (by decide) _ _ h1, run_ge _ _⟩
    · by_cases c3 : isDg (byR b n (runR isSp b n (201 - P.1) P.1)) = true
      · rw [nx3 rfl c1 c2 c3]; exact ⟨run_le (by decide) _ _ h1, run_ge _ _⟩
      · rw [nx4 rfl c1 c2 c3]; exact ⟨byR_in c1, Nat.le_succ _⟩
set_option maxRecDepth 20000 in
set_option maxHeartbeats 1000000 in
theorem s_X12_readsName (g : pG) {M : Nat → Nat → Int32} {R : Nat → Int32} {n : Nat} (hn : n ≤ 200) (en : M 54 9 = nI n) (a0 g2 : Nat) (t v : Int32) (hge : g2 ≤ a0) (he : a0 ≤ n) : MS g mX12_readsName 3 0 0 [.ref 54] (Gs (tpS M R a0 g2 t v)) (dV (Gs (tpS M R (runR isLo (M 61) n (201 - a0) a0) g2 (nmT (M 62) (M 61) n g2 (runR isLo (M 61) n (201 - a0) a0) 14) v))) := by
  refine MS.of pn_X12 (Nat.le_of_ble_eq_true rfl) ?_
  have lp : ∀ (j_ : Nat) (a : Nat) (hga : g2 ≤ a) (han : a ≤ n) (hr : runR isLo (M 61) n (201 - a) a = runR isLo (M 61) n (201 - a0) a0), 201 - a < j_ → PW g mX12_readsName (eN g (Gs (tpS M R a0 g2 t v)).1 3 0 0 (dV (Gs (tpS M R (runR isLo (M 61) n (201 - a0) a0) g2 (nmT (M 62) (M 61) n g2 (runR isLo (M 61) n (201 - a0) a0) 14) v)))) 0 [some (.ref 54), none] [] (Gs (tpS M R a g2 t v)) 0 0 := by
    intro j_
    induction j_ with
    | zero => intro a hga han hr hj; exact absurd hj (Nat.not_lt_zero _)
    | succ j_ ih =>
      intro a hga han hr hj
      refine r_aload_n dX12_readsName_0 rfl rfl ?_
      refine r_aload_n dX12_readsName_1 rfl rfl ?_
      refine r_getI dX12_readsName_2 (ci := 12) (kf := 11) rfl (Nat.le_of_ble_eq_true rfl) (by decide) (by decide) rfl fl_X12_120 (Or.inl rfl) ?_
      rw [tp_a]
      refine r_callV_dI (ci := 12) dX12_readsName_5 (s_X12_byteAt g (S := Gs (tpS M R a g2 t v)) (by exact ⟨rfl, rfl, rfl⟩) hn en (a) (by omega)) mf_X12_byteAt mi_X12_byteAt se_X12_X12_X12_byteAt ml_X12_126 rfl rfl (Nat.le_of_ble_eq_true rfl) rfl (by decide) rfl (Nat.le_of_ble_eq_true rfl) ⟨(Nat.le_of_ble_eq_true rfl), (Nat.le_of_ble_eq_true rfl)⟩ ⟨(Nat.le_of_ble_eq_true rfl), (Nat.le_of_ble_eq_true rfl)⟩ ?_
      refine r_bipush (v := 97) dX12_readsName_8 (by decide) ?_
      refine r_bipush (v := 122) dX12_readsName_10 (by decide) ?_
      refine r_callS_dI dX12_readsName_12 (s_X12_in1 g _ _ _ _) mf_X12_in1 mt_X12_in1 ml_X12_63 rfl rfl (Nat.le_of_ble_eq_true rfl) ⟨(Nat.le_of_ble_eq_true rfl), (Nat.le_of_ble_eq_true rfl)⟩ ⟨(Nat.le_of_ble_eq_true rfl), (Nat.le_of_ble_eq_true rfl)⟩ ?_
      refine r_if_eq (tgt := 31) dX12_readsName_15 (by decide) (fun c_15 => ?_) (fun c_15 => ?_)
      · have c_15 := bI_0 c_15
        (try dsimp only [Gs_M] at c_15)
        refine r_aload_n dX12_readsName_31 rfl rfl ?_
        refine r_bipush (v := 101) dX12_readsName_32 (by decide) ?_
        refine r_putI dX12_readsName_34 (ci := 12) (kf := 13) rfl (Nat.le_of_ble_eq_true rfl) (by decide) (by decide) rfl fl_X12_129 (Or.inl rfl) rfl rfl rfl ?_
        rw [tp_st]
        refine r_iconst (v := 0) dX12_readsName_37 (by decide) ?_
        refine r_istore_n dX12_readsName_38 rfl (by decide) ?_
        have ea : a = runR isLo (M 61) n (201 - a0) a0 := by rw [← hr, run_n (fun z => c_15 (of_decide_eq_true z))]
        have lq : ∀ (j_ : Nat) (i : Nat) (t2 : Int32) (ht : t2 = nmT (M 62) (M 61) n g2 a i) (hi : i ≤ 14), 14 - i < j_ → PW g mX12_readsName (eN g (Gs (tpS M R a0 g2 t v)).1 3 0 0 (dV (Gs (tpS M R (runR isLo (M 61) n (201 - a0) a0) g2 (nmT (M 62) (M 61) n g2 (runR isLo (M 61) n (201 - a0) a0) 14) v)))) 39 [some (.ref 54), some (.int (nI i))] [] (Gs (tpS M R a g2 t2 v)) 0 0 := by
          intro j_
          induction j_ with
          | zero => intro i t2 ht hi hj; exact absurd hj (Nat.not_lt_zero _)
          | succ j_ ih =>
            intro i t2 ht hi hj
            refine r_iload_n dX12_readsName_39 rfl rfl ?_
            refine r_bipush (v := 14) dX12_readsName_40 (by decide) ?_
            refine r_icmp_geN (i) (14) (tgt := 71) dX12_readsName_42 (by decide) (by omega) (by omega) (fun c_42 => ?_) (fun c_42 => ?_)
            · (try dsimp only [Gs_M] at c_42)
              refine r_vret dX12_readsName_71 rfl (Nat.le_refl _) ?_
              (try dsimp only [Gs_M])
              have ei : i = 14 := by omega
              subst ei
              subst ht
              rw [← ea]
              exact ⟨rfl, rfl⟩
            · (try dsimp only [Gs_M] at c_42)
              refine r_aload_n dX12_readsName_45 rfl rfl ?_
              refine r_aload_n dX12_readsName_46 rfl rfl ?_
              refine r_iload_n dX12_readsName_47 rfl rfl ?_
              refine r_callV_dI (ci := 12) dX12_readsName_48 (s_X12_isNameOf g hn en a g2 i t2 v (by omega) (by omega) (by omega)) mf_X12_isNameOf mi_X12_isNameOf se_X12_X12_X12_isNameOf ml_X12_132 rfl rfl (Nat.le_of_ble_eq_true rfl) rfl (by decide) rfl (Nat.le_of_ble_eq_true rfl) ⟨(Nat.le_of_ble_eq_true rfl), (Nat.le_of_ble_eq_true rfl)⟩ ⟨(Nat.le_of_ble_eq_true rfl), (Nat.le_of_ble_eq_true rfl)⟩ ?_
              refine r_if_eq (tgt := 58) dX12_readsName_51 (by decide) (fun c_51 => ?_) (fun c_51 => ?_)
              · have c_51 := bI_0 c_51
                (try dsimp only [Gs_M] at c_51)
                refine r_aload_n dX12_readsName_58 rfl rfl ?_
                refine r_getI dX12_readsName_59 (ci := 12) (kf := 13) rfl (Nat.le_of_ble_eq_true rfl) (by decide) (by decide) rfl fl_X12_129 (Or.inl rfl) ?_
                (try rw [tp_t])
                refine r_putI dX12_readsName_62 (ci := 12) (kf := 13) rfl (Nat.le_of_ble_eq_true rfl) (by decide) (by decide) rfl fl_X12_129 (Or.inl rfl) rfl rfl rfl ?_
                rw [tp_st]
                refine r_iinc (v := nI (i + 1)) dX12_readsName_65 rfl (nI_1 _) (by decide) ?_
                refine r_goto (tgt := 39) dX12_readsName_68 (by decide) ?_
                exact PW.subL (ih (i + 1) _ (nmT_n ht c_51) (by omega) (by omega)) (by repeat' first | exact True.intro | refine And.intro rfl ?_)
              · have c_51 := bI_n c_51
                (try dsimp only [Gs_M] at c_51)
                refine r_iload_n dX12_readsName_54 rfl rfl ?_
                refine r_goto (tgt := 62) dX12_readsName_55 (by decide) ?_
                (try rw [tp_t])
                refine r_putI dX12_readsName_62 (ci := 12) (kf := 13) rfl (Nat.le_of_ble_eq_true rfl) (by decide) (by decide) rfl fl_X12_129 (Or.inl rfl) rfl rfl rfl ?_
                rw [tp_st]
                refine r_iinc (v := nI (i + 1)) dX12_readsName_65 rfl (nI_1 _) (by decide) ?_
                refine r_goto (tgt := 39) dX12_readsName_68 (by decide) ?_
                exact PW.subL (ih (i + 1) _ (nmT_y c_51) (by omega) (by omega)) (by repeat' first | exact True.intro | refine And.intro rfl ?_)
        exact PW.subL (lq 15 0 _ rfl (by omega) (by omega)) (by repeat' first | exact True.intro | refine And.intro rfl ?_)
      · have c_15 := bI_n c_15
        (try dsimp only [Gs_M] at c_15)
        refine r_aload_n dX12_readsName_18 rfl rfl ?_
        refine r_dup dX12_readsName_19 rfl ?_
        refine r_getI dX12_readsName_20 (ci := 12) (kf := 11) rfl (Nat.le_of_ble_eq_true rfl) (by decide) (by decide) rfl fl_X12_120 (Or.inl rfl) ?_
        rw [tp_a]
        refine r_iconst (v := 1) dX12_readsName_23 (by decide) ?_
        refine r_iaddN (a) (1) dX12_readsName_24 ?_
        refine r_putI dX12_readsName_25 (ci := 12) (kf := 11) rfl (Nat.le_of_ble_eq_true rfl) (by decide) (by decide) rfl fl_X12_120 (Or.inl rfl) rfl rfl rfl ?_
        rw [tp_sa]
        refine r_goto (tgt := 0) dX12_readsName_28 (by decide) ?_
        have hy : isLo (byR (M 61) n a) = true := decide_eq_true c_15
        have hl := byR_lt isLo (by decide) hy
        exact PW.subL (ih (a + 1) (by omega) (by omega) ((run_y hn (by decide) hy).trans hr) (by omega)) (by repeat' first | exact True.intro | refine And.intro rfl ?_)
  exact PW.subL (lp 202 a0 hge he rfl (by omega)) (by repeat' first | exact True.intro | refine And.intro rfl ?_)
theorem valR_l {b : Nat → Int32} {n g a : Nat} (h : g ≤ a) (h3 : a - g < 3) : 10 * valR b n g (a - g) + byR b n a - 48 = valR b n g (a + 1 - g) := by
  rw [show a + 1 - g = (a - g) + 1 by omega, valR, if_pos h3, show g + (a - g) = a by omega]
theorem valR_g {b : Nat → Int32} {n g a : Nat} (h : g ≤ a) (h3 : 3 ≤ a - g) : valR b n g (a - g) = valR b n g (a + 1 - g) := by
  rw [show a + 1 - g = (a - g) + 1 by omega, valR, if_neg (by omega)]
set_option maxRecDepth 20000 in
set_option maxHeartbeats 1000000 in
theorem s_X12_readsNumber (g : pG) {M : Nat → Nat → Int32} {R : Nat → Int32} {n : Nat} (hn : n ≤ 200) (en : M 54 9 = nI n) (a0 : Nat) (t v : Int32) (he : a0 ≤ n) : MS g mX12_readsNumber 2 0 0 [.ref 54] (Gs (tpS M R a0 a0 t v)) (dV (Gs (tpS M R ((runR isDg (M 61) n (201 - a0) a0)) a0 (if 3 < (runR isDg (M 61) n (201 - a0) a0) - a0 then 101 else 100) (valR (M 61) n a0 ((runR isDg (M 61) n (201 - a0) a0) - a0))))) := by
  refine MS.of pn_X12 (Nat.le_of_ble_eq_true rfl) ?_
  have lp : ∀ (j_ : Nat) (a : Nat) (hga : a0 ≤ a) (han : a ≤ n) (hr : runR isDg (M 61) n (201 - a) a = runR isDg (M 61) n (201 - a0) a0), 201 - a < j_ → PW g mX12_readsNumber (eN g (Gs (tpS M R a0 a0 t v)).1 2 0 0 (dV (Gs (tpS M R ((runR isDg (M 61) n (201 - a0) a0)) a0 (if 3 < (runR isDg (M 61) n (201 - a0) a0) - a0 then 101 else 100) (valR (M 61) n a0 ((runR isDg (M 61) n (201 - a0) a0) - a0)))))) 5 [some (.ref 54)] [] (Gs (tpS M R a a0 t (valR (M 61) n a0 (a - a0)))) 0 0 := by
    intro j_
    induction j_ with
    | zero => intro a hga han hr hj; exact absurd hj (Nat.not_lt_zero _)
    | succ j_ ih =>
      intro a hga han hr hj
      refine r_aload_n dX12_readsNumber_5 rfl rfl ?_
      refine r_aload_n dX12_readsNumber_6 rfl rfl ?_
      refine r_getI dX12_readsNumber_7 (ci := 12) (kf := 11) rfl (Nat.le_of_ble_eq_true rfl) (by decide) (by decide) rfl fl_X12_120 (Or.inl rfl) ?_
      rw [tp_a]
      refine r_callV_dI (ci := 12) dX12_readsNumber_10 (s_X12_byteAt g (S := Gs (tpS M R a a0 t (valR (M 61) n a0 (a - a0)))) (by exact ⟨rfl, rfl, rfl⟩) hn en (a) (by omega)) mf_X12_byteAt mi_X12_byteAt se_X12_X12_X12_byteAt ml_X12_126 rfl rfl (Nat.le_of_ble_eq_true rfl) rfl (by decide) rfl (Nat.le_of_ble_eq_true rfl) ⟨(Nat.le_of_ble_eq_true rfl), (Nat.le_of_ble_eq_true rfl)⟩ ⟨(Nat.le_of_ble_eq_true rfl), (Nat.le_of_ble_eq_true rfl)⟩ ?_
      refine r_bipush (v := 48) dX12_readsNumber_13 (by decide) ?_
      refine r_bipush (v := 57) dX12_readsNumber_15 (by decide) ?_
      refine r_callS_dI dX12_readsNumber_17 (s_X12_in1 g _ _ _ _) mf_X12_in1 mt_X12_in1 ml_X12_63 rfl rfl (Nat.le_of_ble_eq_true rfl) ⟨(Nat.le_of_ble_eq_true rfl), (Nat.le_of_ble_eq_true rfl)⟩ ⟨(Nat.le_of_ble_eq_true rfl), (Nat.le_of_ble_eq_true rfl)⟩ ?_
      refine r_if_eq (tgt := 79) dX12_readsNumber_20 (by decide) (fun c_20 => ?_) (fun c_20 => ?_)
      · have c_20 := bI_0 c_20
        (try dsimp only [Gs_M] at c_20)
        refine r_aload_n dX12_readsNumber_79 rfl rfl ?_
        refine r_aload_n dX12_readsNumber_80 rfl rfl ?_
        refine r_getI dX12_readsNumber_81 (ci := 12) (kf := 11) rfl (Nat.le_of_ble_eq_true rfl) (by decide) (by decide) rfl fl_X12_120 (Or.inl rfl) ?_
        rw [tp_a]
        refine r_aload_n dX12_readsNumber_84 rfl rfl ?_
        refine r_getI dX12_readsNumber_85 (ci := 12) (kf := 12) rfl (Nat.le_of_ble_eq_true rfl) (by decide) (by decide) rfl fl_X12_123 (Or.inl rfl) ?_
        rw [tp_g]
        refine r_isubN (a) (a0) dX12_readsNumber_88 (by omega) ?_
        refine r_iconst (v := 3) dX12_readsNumber_89 (by decide) ?_
        refine r_icmp_leN ((a - a0)) (3) (tgt := 98) dX12_readsNumber_90 (by decide) (by omega) (by omega) (fun c_90 => ?_) (fun c_90 => ?_)
        · (try dsimp only [Gs_M] at c_90)
          refine r_bipush (v := 100) dX12_readsNumber_98 (by decide) ?_
          refine r_putI dX12_readsNumber_100 (ci := 12) (kf := 13) rfl (Nat.le_of_ble_eq_true rfl) (by decide) (by decide) rfl fl_X12_129 (Or.inl rfl) rfl rfl rfl ?_
          rw [tp_st]
          refine r_vret dX12_readsNumber_103 rfl (Nat.le_refl _) ?_
          (try dsimp only [Gs_M])
          have ea : a = runR isDg (M 61) n (201 - a0) a0 := by rw [← hr, run_n (fun z => c_20 (of_decide_eq_true z))]
          rw [← ea, if_neg (by omega)]
          exact ⟨rfl, rfl⟩
        · (try dsimp only [Gs_M] at c_90)
          refine r_bipush (v := 101) dX12_readsNumber_93 (by decide) ?_
          refine r_goto (tgt := 100) dX12_readsNumber_95 (by decide) ?_
          refine r_putI dX12_readsNumber_100 (ci := 12) (kf := 13) rfl (Nat.le_of_ble_eq_true rfl) (by decide) (by decide) rfl fl_X12_129 (Or.inl rfl) rfl rfl rfl ?_
          rw [tp_st]
          refine r_vret dX12_readsNumber_103 rfl (Nat.le_refl _) ?_
          (try dsimp only [Gs_M])
          have ea : a = runR isDg (M 61) n (201 - a0) a0 := by rw [← hr, run_n (fun z => c_20 (of_decide_eq_true z))]
          rw [← ea, if_pos (by omega)]
          exact ⟨rfl, rfl⟩
      · have c_20 := bI_n c_20
        (try dsimp only [Gs_M] at c_20)
        refine r_aload_n dX12_readsNumber_23 rfl rfl ?_
        refine r_aload_n dX12_readsNumber_24 rfl rfl ?_
        refine r_getI dX12_readsNumber_25 (ci := 12) (kf := 11) rfl (Nat.le_of_ble_eq_true rfl) (by decide) (by decide) rfl fl_X12_120 (Or.inl rfl) ?_
        rw [tp_a]
        refine r_aload_n dX12_readsNumber_28 rfl rfl ?_
        refine r_getI dX12_readsNumber_29 (ci := 12) (kf := 12) rfl (Nat.le_of_ble_eq_true rfl) (by decide) (by decide) rfl fl_X12_123 (Or.inl rfl) ?_
        rw [tp_g]
        refine r_isubN (a) (a0) dX12_readsNumber_32 (by omega) ?_
        refine r_iconst (v := 3) dX12_readsNumber_33 (by decide) ?_
        refine r_icmp_geN ((a - a0)) (3) (tgt := 59) dX12_readsNumber_34 (by decide) (by omega) (by omega) (fun c_34 => ?_) (fun c_34 => ?_)
        · (try dsimp only [Gs_M] at c_34)
          refine r_aload_n dX12_readsNumber_59 rfl rfl ?_
          refine r_getI dX12_readsNumber_60 (ci := 12) (kf := 14) rfl (Nat.le_of_ble_eq_true rfl) (by decide) (by decide) rfl fl_X12_136 (Or.inl rfl) ?_
          (try rw [tp_v])
          refine r_putI dX12_readsNumber_63 (ci := 12) (kf := 14) rfl (Nat.le_of_ble_eq_true rfl) (by decide) (by decide) rfl fl_X12_136 (Or.inl rfl) rfl rfl rfl ?_
          rw [tp_sv]
          refine r_aload_n dX12_readsNumber_66 rfl rfl ?_
          refine r_dup dX12_readsNumber_67 rfl ?_
          refine r_getI dX12_readsNumber_68 (ci := 12) (kf := 11) rfl (Nat.le_of_ble_eq_true rfl) (by decide) (by decide) rfl fl_X12_120 (Or.inl rfl) ?_
          rw [tp_a]
          refine r_iconst (v := 1) dX12_readsNumber_71 (by decide) ?_
          refine r_iaddN (a) (1) dX12_readsNumber_72 ?_
          refine r_putI dX12_readsNumber_73 (ci := 12) (kf := 11) rfl (Nat.le_of_ble_eq_true rfl) (by decide) (by decide) rfl fl_X12_120 (Or.inl rfl) rfl rfl rfl ?_
          rw [tp_sa]
          refine r_goto (tgt := 5) dX12_readsNumber_76 (by decide) ?_
          have hy : isDg (byR (M 61) n a) = true := decide_eq_true c_20
          have hl := byR_lt isDg (by decide) hy
          have ev := valR_g (b := M 61) (n := n) (g := a0) (a := a) hga c_34
          rw [ev]
          exact PW.subL (ih (a + 1) (by omega) (by omega) ((run_y hn (by decide) hy).trans hr) (by omega)) (by repeat' first | exact True.intro | refine And.intro rfl ?_)
        · (try dsimp only [Gs_M] at c_34)
          refine r_bipush (v := 10) dX12_readsNumber_37 (by decide) ?_
          refine r_aload_n dX12_readsNumber_39 rfl rfl ?_
          refine r_getI dX12_readsNumber_40 (ci := 12) (kf := 14) rfl (Nat.le_of_ble_eq_true rfl) (by decide) (by decide) rfl fl_X12_136 (Or.inl rfl) ?_
          (try rw [tp_v])
          refine r_imul dX12_readsNumber_43 ?_
          refine r_aload_n dX12_readsNumber_44 rfl rfl ?_
          refine r_aload_n dX12_readsNumber_45 rfl rfl ?_
          refine r_getI dX12_readsNumber_46 (ci := 12) (kf := 11) rfl (Nat.le_of_ble_eq_true rfl) (by decide) (by decide) rfl fl_X12_120 (Or.inl rfl) ?_
          rw [tp_a]
          refine r_callV_dI (ci := 12) dX12_readsNumber_49 (s_X12_byteAt g (S := Gs (tpS M R a a0 t (valR (M 61) n a0 (a - a0)))) (by exact ⟨rfl, rfl, rfl⟩) hn en (a) (by omega)) mf_X12_byteAt mi_X12_byteAt se_X12_X12_X12_byteAt ml_X12_126 rfl rfl (Nat.le_of_ble_eq_true rfl) rfl (by decide) rfl (Nat.le_of_ble_eq_true rfl) ⟨(Nat.le_of_ble_eq_true rfl), (Nat.le_of_ble_eq_true rfl)⟩ ⟨(Nat.le_of_ble_eq_true rfl), (Nat.le_of_ble_eq_true rfl)⟩ ?_
          rw [show (Gs (tpS M R a a0 t (valR (M 61) n a0 (a - a0)))).2.2.2 61 = M 61 from rfl]
          refine r_iadd dX12_readsNumber_52 ?_
          refine r_bipush (v := 48) dX12_readsNumber_53 (by decide) ?_
          refine r_isub dX12_readsNumber_55 ?_
          refine r_goto (tgt := 63) dX12_readsNumber_56 (by decide) ?_
          (try rw [tp_v])
          refine r_putI dX12_readsNumber_63 (ci := 12) (kf := 14) rfl (Nat.le_of_ble_eq_true rfl) (by decide) (by decide) rfl fl_X12_136 (Or.inl rfl) rfl rfl rfl ?_
          rw [tp_sv]
          refine r_aload_n dX12_readsNumber_66 rfl rfl ?_
          refine r_dup dX12_readsNumber_67 rfl ?_
          refine r_getI dX12_readsNumber_68 (ci := 12) (kf := 11) rfl (Nat.le_of_ble_eq_true rfl) (by decide) (by decide) rfl fl_X12_120 (Or.inl rfl) ?_
          rw [tp_a]
          refine r_iconst (v := 1) dX12_readsNumber_71 (by decide) ?_
          refine r_iaddN (a) (1) dX12_readsNumber_72 ?_
          refine r_putI dX12_readsNumber_73 (ci := 12) (kf := 11) rfl (Nat.le_of_ble_eq_true rfl) (by decide) (by decide) rfl fl_X12_120 (Or.inl rfl) rfl rfl rfl ?_
          rw [tp_sa]
          refine r_goto (tgt := 5) dX12_readsNumber_76 (by decide) ?_
          have hy : isDg (byR (M 61) n a) = true := decide_eq_true c_20
          have hl := byR_lt isDg (by decide) hy
          have ev := valR_l (b := M 61) (n := n) (g := a0) (a := a) hga c_34
          rw [ev]
          exact PW.subL (ih (a + 1) (by omega) (by omega) ((run_y hn (by decide) hy).trans hr) (by omega)) (by repeat' first | exact True.intro | refine And.intro rfl ?_)
  refine r_aload_n dX12_readsNumber_0 rfl rfl ?_
  refine r_iconst (v := 0) dX12_readsNumber_1 (by decide) ?_
  refine r_putI dX12_readsNumber_2 (ci := 12) (kf := 14) rfl (Nat.le_of_ble_eq_true rfl) (by decide) (by decide) rfl fl_X12_136 (Or.inl rfl) rfl rfl rfl ?_
  have h0 := lp 202 a0 (Nat.le_refl _) he rfl (by omega)
  rw [Nat.sub_self] at h0
  rw [tp_sv]
  exact PW.subL h0 (by repeat' first | exact True.intro | refine And.intro rfl ?_)
set_option maxRecDepth 20000 in
set_option maxHeartbeats 1000000 in
theorem s_X12_next (g : pG) {M : Nat → Nat → Int32} {R : Nat → Int32} {n : Nat} (hn : n ≤ 200) (en : M 54 9 = nI n) (a0 g2 : Nat) (t v : Int32) (he : a0 ≤ n) : MS g mX12_next 4 0 0 [.ref 54] (Gs (tpS M R a0 g2 t v)) (dV (Gs (tpS M R (nextR (M 62) (M 61) n (a0, g2, t, v)).1 (nextR (M 62) (M 61) n (a0, g2, t, v)).2.1 (nextR (M 62) (M 61) n (a0, g2, t, v)).2.2.1 (nextR (M 62) (M 61) n (a0, g2, t, v)).2.2.2))) := by
  refine MS.of pn_X12 (Nat.le_of_ble_eq_true rfl) ?_
  have lp : ∀ (j_ : Nat) (a : Nat) (han : a ≤ n) (hr : runR isSp (M 61) n (201 - a) a = runR isSp (M 61) n (201 - a0) a0), 201 - a < j_ → PW g mX12_next (eN g (Gs (tpS M R a0 g2 t v)).1 4 0 0 (dV (Gs (tpS M R (nextR (M 62) (M 61) n (a0, g2, t, v)).1 (nextR (M 62) (M 61) n (a0, g2, t, v)).2.1 (nextR (M 62) (M 61) n (a0, g2, t, v)).2.2.1 (nextR (M 62) (M 61) n (a0, g2, t, v)).2.2.2)))) 0 [some (.ref 54), none] [] (Gs (tpS M R a g2 t v)) 0 0 := by
    intro j_
    induction j_ with
    | zero => intro a han hr hj; exact absurd hj (Nat.not_lt_zero _)
    | succ j_ ih =>
      intro a han hr hj
      refine r_aload_n dX12_next_0 rfl rfl ?_
      refine r_aload_n dX12_next_1 rfl rfl ?_
      refine r_getI dX12_next_2 (ci := 12) (kf := 11) rfl (Nat.le_of_ble_eq_true rfl) (by decide) (by decide) rfl fl_X12_120 (Or.inl rfl) ?_
      rw [tp_a]
      refine r_callV_dI (ci := 12) dX12_next_5 (s_X12_byteAt g (S := Gs (tpS M R a g2 t v)) (by exact ⟨rfl, rfl, rfl⟩) hn en (a) (by omega)) mf_X12_byteAt mi_X12_byteAt se_X12_X12_X12_byteAt ml_X12_126 rfl rfl (Nat.le_of_ble_eq_true rfl) rfl (by decide) rfl (Nat.le_of_ble_eq_true rfl) ⟨(Nat.le_of_ble_eq_true rfl), (Nat.le_of_ble_eq_true rfl)⟩ ⟨(Nat.le_of_ble_eq_true rfl), (Nat.le_of_ble_eq_true rfl)⟩ ?_
      refine r_bipush (v := 32) dX12_next_8 (by decide) ?_
      refine r_icmp_ne (tgt := 26) dX12_next_10 (by decide) (fun c_10 => ?_) (fun c_10 => ?_)
      · (try dsimp only [Gs_M] at c_10)
        have hs : runR isSp (M 61) n (201 - (a0, g2, t, v).1) (a0, g2, t, v).1 = a := by rw [← run_n (p := isSp) (b := M 61) (n := n) (a := a) (fun z => c_10 (of_decide_eq_true z))]; exact hr.symm
        refine r_aload_n dX12_next_26 rfl rfl ?_
        refine r_aload_n dX12_next_27 rfl rfl ?_
        refine r_getI dX12_next_28 (ci := 12) (kf := 11) rfl (Nat.le_of_ble_eq_true rfl) (by decide) (by decide) rfl fl_X12_120 (Or.inl rfl) ?_
        rw [tp_a]
        refine r_putI dX12_next_31 (ci := 12) (kf := 12) rfl (Nat.le_of_ble_eq_true rfl) (by decide) (by decide) rfl fl_X12_123 (Or.inl rfl) rfl rfl rfl ?_
        rw [tp_sg]
        refine r_aload_n dX12_next_34 rfl rfl ?_
        refine r_aload_n dX12_next_35 rfl rfl ?_
        refine r_getI dX12_next_36 (ci := 12) (kf := 11) rfl (Nat.le_of_ble_eq_true rfl) (by decide) (by decide) rfl fl_X12_120 (Or.inl rfl) ?_
        rw [tp_a]
        refine r_callV_dI (ci := 12) dX12_next_39 (s_X12_byteAt g (S := Gs (tpS M R a a t v)) (by exact ⟨rfl, rfl, rfl⟩) hn en (a) (by omega)) mf_X12_byteAt mi_X12_byteAt se_X12_X12_X12_byteAt ml_X12_126 rfl rfl (Nat.le_of_ble_eq_true rfl) rfl (by decide) rfl (Nat.le_of_ble_eq_true rfl) ⟨(Nat.le_of_ble_eq_true rfl), (Nat.le_of_ble_eq_true rfl)⟩ ⟨(Nat.le_of_ble_eq_true rfl), (Nat.le_of_ble_eq_true rfl)⟩ ?_
        refine r_istore_n dX12_next_42 rfl (by decide) ?_
        refine r_iload_n dX12_next_43 rfl rfl ?_
        refine r_if_ge (tgt := 55) dX12_next_44 (by decide) (fun c_44 => ?_) (fun c_44 => ?_)
        · (try dsimp only [Gs_M] at c_44)
          refine r_iload_n dX12_next_55 rfl rfl ?_
          refine r_bipush (v := 97) dX12_next_56 (by decide) ?_
          refine r_bipush (v := 122) dX12_next_58 (by decide) ?_
          refine r_callS_dI dX12_next_60 (s_X12_in1 g _ _ _ _) mf_X12_in1 mt_X12_in1 ml_X12_63 rfl rfl (Nat.le_of_ble_eq_true rfl) ⟨(Nat.le_of_ble_eq_true rfl), (Nat.le_of_ble_eq_true rfl)⟩ ⟨(Nat.le_of_ble_eq_true rfl), (Nat.le_of_ble_eq_true rfl)⟩ ?_
          refine r_if_eq (tgt := 73) dX12_next_63 (by decide) (fun c_63 => ?_) (fun c_63 => ?_)
          · have c_63 := bI_0 c_63
            (try dsimp only [Gs_M] at c_63)
            refine r_iload_n dX12_next_73 rfl rfl ?_
            refine r_bipush (v := 48) dX12_next_74 (by decide) ?_
            refine r_bipush (v := 57) dX12_next_76 (by decide) ?_
            refine r_callS_dI dX12_next_78 (s_X12_in1 g _ _ _ _) mf_X12_in1 mt_X12_in1 ml_X12_63 rfl rfl (Nat.le_of_ble_eq_true rfl) ⟨(Nat.le_of_ble_eq_true rfl), (Nat.le_of_ble_eq_true rfl)⟩ ⟨(Nat.le_of_ble_eq_true rfl), (Nat.le_of_ble_eq_true rfl)⟩ ?_
            refine r_if_eq (tgt := 91) dX12_next_81 (by decide) (fun c_81 => ?_) (fun c_81 => ?_)
            · have c_81 := bI_0 c_81
              (try dsimp only [Gs_M] at c_81)
              refine r_aload_n dX12_next_91 rfl rfl ?_
              refine r_sipush (v := 200) dX12_next_92 (by decide) ?_
              refine r_iload_n dX12_next_95 rfl rfl ?_
              refine r_iadd dX12_next_96 ?_
              refine r_putI dX12_next_97 (ci := 12) (kf := 13) rfl (Nat.le_of_ble_eq_true rfl) (by decide) (by decide) rfl fl_X12_129 (Or.inl rfl) rfl rfl rfl ?_
              rw [tp_st]
              refine r_aload_n dX12_next_100 rfl rfl ?_
              refine r_dup dX12_next_101 rfl ?_
              refine r_getI dX12_next_102 (ci := 12) (kf := 11) rfl (Nat.le_of_ble_eq_true rfl) (by decide) (by decide) rfl fl_X12_120 (Or.inl rfl) ?_
              rw [tp_a]
              refine r_iconst (v := 1) dX12_next_105 (by decide) ?_
              refine r_iaddN (a) (1) dX12_next_106 ?_
              refine r_putI dX12_next_107 (ci := 12) (kf := 11) rfl (Nat.le_of_ble_eq_true rfl) (by decide) (by decide) rfl fl_X12_120 (Or.inl rfl) rfl rfl rfl ?_
              rw [tp_sa]
              refine r_vret dX12_next_110 rfl (Nat.le_refl _) ?_
              (try dsimp only [Gs_M])
              have e : (nextR (M 62) (M 61) n (a0, g2, t, v)) = _ := nx4 hs (Int32.not_lt.mpr c_44) (fun z => c_63 (of_decide_eq_true z)) (fun z => c_81 (of_decide_eq_true z))
              rw [e]
              exact ⟨rfl, rfl⟩
            · have c_81 := bI_n c_81
              (try dsimp only [Gs_M] at c_81)
              refine r_aload_n dX12_next_84 rfl rfl ?_
              refine r_callV_dV (ci := 12) dX12_next_85 (s_X12_readsNumber g hn en a t v han) mf_X12_readsNumber mi_X12_readsNumber se_X12_X12_X12_readsNumber ml_X12_142 rfl rfl (Nat.le_of_ble_eq_true rfl) rfl (by decide) rfl (Nat.le_of_ble_eq_true rfl) ⟨(Nat.le_of_ble_eq_true rfl), (Nat.le_of_ble_eq_true rfl)⟩ ⟨(Nat.le_of_ble_eq_true rfl), (Nat.le_of_ble_eq_true rfl)⟩ ?_
              refine r_goto (tgt := 110) dX12_next_88 (by decide) ?_
              skip
              refine r_vret dX12_next_110 rfl (Nat.le_refl _) ?_
              (try dsimp only [Gs_M])
              have e : (nextR (M 62) (M 61) n (a0, g2, t, v)) = _ := nx3 hs (Int32.not_lt.mpr c_44) (fun z => c_63 (of_decide_eq_true z)) (decide_eq_true c_81)
              rw [e]
              exact ⟨rfl, rfl⟩
          · have c_63 := bI_n c_63
            (try dsimp only [Gs_M] at c_63)
            refine r_aload_n dX12_next_66 rfl rfl ?_
            refine r_callV_dV (ci := 12) dX12_next_67 (s_X12_readsName g hn en a a t v (Nat.le_refl _) han) mf_X12_readsName mi_X12_readsName se_X12_X12_X12_readsName ml_X12_139 rfl rfl (Nat.le_of_ble_eq_true rfl) rfl (by decide) rfl (Nat.le_of_ble_eq_true rfl) ⟨(Nat.le_of_ble_eq_true rfl), (Nat.le_of_ble_eq_true rfl)⟩ ⟨(Nat.le_of_ble_eq_true rfl), (Nat.le_of_ble_eq_true rfl)⟩ ?_
            refine r_goto (tgt := 110) dX12_next_70 (by decide) ?_
            skip
            refine r_vret dX12_next_110 rfl (Nat.le_refl _) ?_
            (try dsimp only [Gs_M])
            have e : (nextR (M 62) (M 61) n (a0, g2, t, v)) = _ := nx2 hs (Int32.not_lt.mpr c_44) (decide_eq_true c_63)
            rw [e]
            exact ⟨rfl, rfl⟩
        · (try dsimp only [Gs_M] at c_44)
          refine r_aload_n dX12_next_47 rfl rfl ?_
          refine r_iconst (v := (-1)) dX12_next_48 (by decide) ?_
          refine r_putI dX12_next_49 (ci := 12) (kf := 13) rfl (Nat.le_of_ble_eq_true rfl) (by decide) (by decide) rfl fl_X12_129 (Or.inl rfl) rfl rfl rfl ?_
          rw [tp_st]
          refine r_goto (tgt := 110) dX12_next_52 (by decide) ?_
          skip
          refine r_vret dX12_next_110 rfl (Nat.le_refl _) ?_
          (try dsimp only [Gs_M])
          have e : (nextR (M 62) (M 61) n (a0, g2, t, v)) = _ := nx1 hs (Int32.not_le.mp c_44)
          rw [e]
          exact ⟨rfl, rfl⟩
      · (try dsimp only [Gs_M] at c_10)
        refine r_aload_n dX12_next_13 rfl rfl ?_
        refine r_dup dX12_next_14 rfl ?_
        refine r_getI dX12_next_15 (ci := 12) (kf := 11) rfl (Nat.le_of_ble_eq_true rfl) (by decide) (by decide) rfl fl_X12_120 (Or.inl rfl) ?_
        rw [tp_a]
        refine r_iconst (v := 1) dX12_next_18 (by decide) ?_
        refine r_iaddN (a) (1) dX12_next_19 ?_
        refine r_putI dX12_next_20 (ci := 12) (kf := 11) rfl (Nat.le_of_ble_eq_true rfl) (by decide) (by decide) rfl fl_X12_120 (Or.inl rfl) rfl rfl rfl ?_
        refine r_goto (tgt := 0) dX12_next_23 (by decide) ?_
        rw [tp_sa]
        have hy : isSp (byR (M 61) n a) = true := decide_eq_true c_10
        have hl := byR_lt isSp (by decide) hy
        exact PW.subL (ih (a + 1) (by omega) ((run_y hn (by decide) hy).trans hr) (by omega)) (by repeat' first | exact True.intro | refine And.intro rfl ?_)
  exact PW.subL (lp 202 a0 he rfl (by omega)) (by repeat' first | exact True.intro | refine And.intro rfl ?_)
