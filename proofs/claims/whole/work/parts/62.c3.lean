theorem fr_0 {W c : Nat → Int32} {k p o : Nat} (eo : owR W k = o) (h : o < p) : freeR W c k p = decide (0 ≤ c o) := by
  unfold freeR
  rw [eo]
  have h1 : ¬ o = p := by omega
  have h2 : ¬ p < o := by omega
  simp [h, h1, h2]
theorem fr_1 {W c : Nat → Int32} {k p o : Nat} (eo : owR W k = o) (h : o = p) : freeR W c k p = true := by
  unfold freeR
  rw [eo]
  simp [h]
theorem fr_2 {W c : Nat → Int32} {k p o : Nat} (eo : owR W k = o) (h : p < o) : freeR W c k p = decide (W (8 + o) ≤ W (8 + p)) := by
  unfold freeR
  rw [eo]
  have h1 : ¬ o = p := by omega
  have h2 : ¬ o < p := by omega
  simp [h, h1, h2]
set_option maxRecDepth 20000 in
set_option maxHeartbeats 1000000 in
theorem s_X0_isFreeFor (g : pG) {S : pS} {b : Nat} (hC : Co S b) (k p : Nat) (hk : k < 8) (hp : p < 8) {o : Nat} (ho : o < 8) (hw : vw S b (16 + 11 * k + 1) = nI o) (hcc : ∀ x, x < p → S.2.2.2 (b + 7) x = -1 ∨ ∃ y, y < 8 ∧ S.2.2.2 (b + 7) x = nI y) : MS g mX0_isFreeFor 1 0 0 [.ref b, .int (nI k), .int (nI p)] (S) (dI (bI (freeR (vw S b) (S.2.2.2 (b + 7)) k p = true)) S) := by
  have eo : owR (vw S b) k = o := owR_e ho hw
  refine MS.of pn_X0 (Nat.le_of_ble_eq_true rfl) ?_
  refine r_aload_n dX0_isFreeFor_0 rfl rfl ?_
  refine r_getR (q := (b + 4)) dX0_isFreeFor_1 (ci := 0) (kf := 3) hC.2.1 (Co_lt hC) (by decide) (by decide) rfl fl_X0_21 (Or.inl rfl) hC.2.2.2.2.2.2.1 ?_
  refine r_iload_n dX0_isFreeFor_4 rfl rfl ?_
  refine r_iald (j := k) dX0_isFreeFor_5 hC.2.2.1.2.2.2.1 (Co_la4 hC) rfl (by omega) (by decide) ?_
  rw [show S.2.2.2 (b + 4) k = nI o from (vw_o hk).symm.trans hw]
  refine r_istore_n dX0_isFreeFor_6 rfl (by decide) ?_
  refine r_iload_n dX0_isFreeFor_7 rfl rfl ?_
  refine r_iload_n dX0_isFreeFor_8 rfl rfl ?_
  refine r_icmp_geN (o) (p) (tgt := 28) dX0_isFreeFor_9 (by decide) (by omega) (by omega) (fun c_9 => ?_) (fun c_9 => ?_)
  · (try dsimp only [Gs_M] at c_9)
    refine r_iload_n dX0_isFreeFor_28 rfl rfl ?_
    refine r_iload_n dX0_isFreeFor_29 rfl rfl ?_
    refine r_icmp_eqN (o) (p) (tgt := 48) dX0_isFreeFor_30 (by decide) (by omega) (by omega) (fun c_30 => ?_) (fun c_30 => ?_)
    · (try dsimp only [Gs_M] at c_30)
      refine r_iconst (v := 1) dX0_isFreeFor_48 (by decide) ?_
      refine r_goto (tgt := 53) dX0_isFreeFor_49 (by decide) ?_
      refine r_zret dX0_isFreeFor_53 rfl rfl (Nat.le_refl _) ?_
      (try dsimp only [Gs_M])
      rw [fr_1 eo c_30]
      exact ⟨congrArg (fun y => some (Value.int y)) (bI_t rfl).symm, rfl⟩
    · (try dsimp only [Gs_M] at c_30)
      refine r_aload_n dX0_isFreeFor_33 rfl rfl ?_
      refine r_getR (q := (b + 2)) dX0_isFreeFor_34 (ci := 0) (kf := 1) hC.2.1 (Co_lt hC) (by decide) (by decide) rfl fl_X0_15 (Or.inl rfl) hC.2.2.2.2.1 ?_
      refine r_iload_n dX0_isFreeFor_37 rfl rfl ?_
      refine r_iald (j := o) dX0_isFreeFor_38 hC.2.2.1.2.1 (Co_la2 hC) rfl (by omega) (by decide) ?_
      refine r_aload_n dX0_isFreeFor_39 rfl rfl ?_
      refine r_getR (q := (b + 2)) dX0_isFreeFor_40 (ci := 0) (kf := 1) hC.2.1 (Co_lt hC) (by decide) (by decide) rfl fl_X0_15 (Or.inl rfl) hC.2.2.2.2.1 ?_
      refine r_iload_n dX0_isFreeFor_43 rfl rfl ?_
      refine r_iald (j := p) dX0_isFreeFor_44 hC.2.2.1.2.1 (Co_la2 hC) rfl (by omega) (by decide) ?_
      refine r_icmp_gt (tgt := 52) dX0_isFreeFor_45 (by decide) (fun c_45 => ?_) (fun c_45 => ?_)
      · (try dsimp only [Gs_M] at c_45)
        refine r_iconst (v := 0) dX0_isFreeFor_52 (by decide) ?_
        refine r_zret dX0_isFreeFor_53 rfl rfl (Nat.le_refl _) ?_
        (try dsimp only [Gs_M])
        rw [fr_2 eo (by omega), vw_w ho, vw_w hp]
        exact ⟨congrArg (fun y => some (Value.int y)) (bI_f (fun z => absurd (of_decide_eq_true z) (by simp only [Int32.not_le]; first | exact c_45 | exact Int32.not_le.mp c_45))).symm, rfl⟩
      · (try dsimp only [Gs_M] at c_45)
        refine r_iconst (v := 1) dX0_isFreeFor_48 (by decide) ?_
        refine r_goto (tgt := 53) dX0_isFreeFor_49 (by decide) ?_
        refine r_zret dX0_isFreeFor_53 rfl rfl (Nat.le_refl _) ?_
        (try dsimp only [Gs_M])
        rw [fr_2 eo (by omega), vw_w ho, vw_w hp]
        exact ⟨congrArg (fun y => some (Value.int y)) (bI_t (decide_eq_true (by first | exact c_45 | exact Int32.not_lt.mp c_45))).symm, rfl⟩
  · (try dsimp only [Gs_M] at c_9)
    refine r_aload_n dX0_isFreeFor_12 rfl rfl ?_
    refine r_getR (q := (b + 7)) dX0_isFreeFor_13 (ci := 0) (kf := 10) hC.2.1 (Co_lt hC) (by decide) (by decide) rfl fl_X0_34 (Or.inl rfl) hC.2.2.2.2.2.2.2.2.2.1 ?_
    refine r_iload_n dX0_isFreeFor_16 rfl rfl ?_
    refine r_iald (j := o) dX0_isFreeFor_17 hC.2.2.1.2.2.2.2.2.2.1 (Co_la7 hC) rfl (by omega) (by decide) ?_
    refine r_iconst (v := (-1)) dX0_isFreeFor_18 (by decide) ?_
    refine r_icmp_eq (tgt := 26) dX0_isFreeFor_19 (by decide) (fun c_19 => ?_) (fun c_19 => ?_)
    · (try dsimp only [Gs_M] at c_19)
      refine r_iconst (v := 0) dX0_isFreeFor_26 (by decide) ?_
      refine r_zret dX0_isFreeFor_27 rfl rfl (Nat.le_refl _) ?_
      (try dsimp only [Gs_M])
      rw [fr_0 eo c_9]
      exact ⟨congrArg (fun y => some (Value.int y)) (bI_f (fun z => absurd (of_decide_eq_true z) (by rw [show S.2.2.2 (b + 7) o = -1 from c_19]; decide))).symm, rfl⟩
    · (try dsimp only [Gs_M] at c_19)
      refine r_iconst (v := 1) dX0_isFreeFor_22 (by decide) ?_
      refine r_goto (tgt := 27) dX0_isFreeFor_23 (by decide) ?_
      refine r_zret dX0_isFreeFor_27 rfl rfl (Nat.le_refl _) ?_
      (try dsimp only [Gs_M])
      rw [fr_0 eo c_9]
      exact ⟨congrArg (fun y => some (Value.int y)) (bI_t (decide_eq_true (by
        rcases hcc o c_9 with z | ⟨y, hy, z⟩
        · exact absurd z c_19
        · rw [z]; exact nI_pos' (by omega)))).symm, rfl⟩
set_option maxRecDepth 20000 in
set_option maxHeartbeats 1000000 in
theorem s_X0_bestFor (g : pG) {S : pS} {b : Nat} (hC : Co S b) (hI : InvR (vw S b)) (hN : InvN (vw S b)) (p : Nat) (hp : p < 8) (hcc : ∀ x, x < p → S.2.2.2 (b + 7) x = -1 ∨ ∃ y, y < 8 ∧ S.2.2.2 (b + 7) x = nI y) : MS g mX0_bestFor 2 0 0 [.ref b, .int (nI p)] (S) (dI (bestR (vw S b) (S.2.2.2 (b + 7)) (S.2.2.2 (b + 8)) p (plR (vw S b))) S) := by
  obtain ⟨h8, hpl⟩ := hI.pl
  have hpl : S.2.2.2 b 6 = nI (plR (vw S b)) := hpl
  refine MS.of pn_X0 (Nat.le_of_ble_eq_true rfl) ?_
  have lp : ∀ (j_ : Nat) (k : Nat) (best m : Int32) (hb : best = bestR (vw S b) (S.2.2.2 (b + 7)) (S.2.2.2 (b + 8)) p k) (hm : m = mstR (vw S b) (S.2.2.2 (b + 7)) (S.2.2.2 (b + 8)) p k) (hkn : k ≤ plR (vw S b)), plR (vw S b) - k < j_ → PW g mX0_bestFor (eN g S.1 2 0 0 (dI (bestR (vw S b) (S.2.2.2 (b + 7)) (S.2.2.2 (b + 8)) p (plR (vw S b))) S)) 14 [some (.ref b), some (.int (nI p)), some (.int best), some (.int m), some (.int (nI k)), none] [] (S) 0 0 := by
    intro j_
    induction j_ with
    | zero => intro k best m hb hm hkn hj; exact absurd hj (Nat.not_lt_zero _)
    | succ j_ ih =>
      intro k best m hb hm hkn hj
      refine r_iload dX0_bestFor_14 rfl ?_
      refine r_aload_n dX0_bestFor_16 rfl rfl ?_
      refine r_getI dX0_bestFor_17 (ci := 0) (kf := 6) hC.2.1 (Co_lt hC) (by decide) (by decide) rfl fl_X0_52 (Or.inl rfl) ?_
      rw [show S.2.2.2 b 6 = nI (plR (vw S b)) from hpl]
      refine r_icmp_geN (k) (plR (vw S b)) (tgt := 82) dX0_bestFor_20 (by decide) (by omega) (by omega) (fun c_20 => ?_) (fun c_20 => ?_)
      · (try dsimp only [Gs_M] at c_20)
        refine r_iload_n dX0_bestFor_82 rfl rfl ?_
        refine r_iret dX0_bestFor_83 rfl (Nat.le_refl _) ?_
        (try dsimp only [Gs_M])
        have ek : k = plR (vw S b) := by omega
        subst ek
        exact dI_e hb
      · (try dsimp only [Gs_M] at c_20)
        have hk8 : k < 8 := by omega
        obtain ⟨o, ho, hw⟩ := hI.2 k hk8
        refine r_aload_n dX0_bestFor_23 rfl rfl ?_
        refine r_getR (q := (b + 5)) dX0_bestFor_24 (ci := 0) (kf := 4) hC.2.1 (Co_lt hC) (by decide) (by decide) rfl fl_X0_24 (Or.inl rfl) hC.2.2.2.2.2.2.2.1 ?_
        refine r_iload dX0_bestFor_27 rfl ?_
        refine r_iald (j := k) dX0_bestFor_29 hC.2.2.1.2.2.2.2.1 (Co_la5 hC) rfl (by omega) (by decide) ?_
        refine r_if_ne (tgt := 76) dX0_bestFor_30 (by decide) (fun c_30 => ?_) (fun c_30 => ?_)
        · (try dsimp only [Gs_M] at c_30)
          refine r_iinc (v := nI (k + 1)) dX0_bestFor_76 rfl (nI_1 _) (by decide) ?_
          refine r_goto (tgt := 14) dX0_bestFor_79 (by decide) ?_
          have y : bestR (vw S b) (S.2.2.2 (b + 7)) (S.2.2.2 (b + 8)) p k = bestR (vw S b) (S.2.2.2 (b + 7)) (S.2.2.2 (b + 8)) p (k + 1) := bC_n (fun z => c_30 ((vw_i hk8).symm.trans z.2.1))
          exact PW.subL (ih (k + 1) _ _ (hb.trans y) (hm.trans (bC_k y)) (by omega) (by omega)) (by repeat' first | exact True.intro | refine And.intro rfl ?_)
        · (try dsimp only [Gs_M] at c_30)
          refine r_aload_n dX0_bestFor_33 rfl rfl ?_
          refine r_getR (q := (b + 8)) dX0_bestFor_34 (ci := 0) (kf := 11) hC.2.1 (Co_lt hC) (by decide) (by decide) rfl fl_X0_37 (Or.inl rfl) hC.2.2.2.2.2.2.2.2.2.2 ?_
          refine r_iload dX0_bestFor_37 rfl ?_
          refine r_iald (j := k) dX0_bestFor_39 hC.2.2.1.2.2.2.2.2.2.2 (Co_la8 hC) rfl (by omega) (by decide) ?_
          refine r_bipush (v := 8) dX0_bestFor_40 (by decide) ?_
          refine r_icmp_ne (tgt := 76) dX0_bestFor_42 (by decide) (fun c_42 => ?_) (fun c_42 => ?_)
          · (try dsimp only [Gs_M] at c_42)
            refine r_iinc (v := nI (k + 1)) dX0_bestFor_76 rfl (nI_1 _) (by decide) ?_
            refine r_goto (tgt := 14) dX0_bestFor_79 (by decide) ?_
            have y : bestR (vw S b) (S.2.2.2 (b + 7)) (S.2.2.2 (b + 8)) p k = bestR (vw S b) (S.2.2.2 (b + 7)) (S.2.2.2 (b + 8)) p (k + 1) := bC_n (fun z => c_42 z.2.2)
            exact PW.subL (ih (k + 1) _ _ (hb.trans y) (hm.trans (bC_k y)) (by omega) (by omega)) (by repeat' first | exact True.intro | refine And.intro rfl ?_)
          · (try dsimp only [Gs_M] at c_42)
            refine r_aload_n dX0_bestFor_45 rfl rfl ?_
            refine r_iload dX0_bestFor_46 rfl ?_
            refine r_iload_n dX0_bestFor_48 rfl rfl ?_
            refine r_callV_dI (ci := 0) dX0_bestFor_49 (s_X0_isFreeFor g hC (k) (p) (by omega) (by omega) ho hw hcc) mf_X0_isFreeFor mi_X0_isFreeFor se_X0_X0_X0_isFreeFor ml_X0_73 rfl rfl (Co_lt hC) hC.2.1 (by decide) rfl (Nat.le_of_ble_eq_true rfl) ⟨(Nat.le_of_ble_eq_true rfl), (Nat.le_of_ble_eq_true rfl)⟩ ⟨(Nat.le_of_ble_eq_true rfl), (Nat.le_of_ble_eq_true rfl)⟩ ?_
            refine r_if_eq (tgt := 76) dX0_bestFor_52 (by decide) (fun c_52 => ?_) (fun c_52 => ?_)
            · have c_52 := bI_0 c_52
              (try dsimp only [Gs_M] at c_52)
              refine r_iinc (v := nI (k + 1)) dX0_bestFor_76 rfl (nI_1 _) (by decide) ?_
              refine r_goto (tgt := 14) dX0_bestFor_79 (by decide) ?_
              have y : bestR (vw S b) (S.2.2.2 (b + 7)) (S.2.2.2 (b + 8)) p k = bestR (vw S b) (S.2.2.2 (b + 7)) (S.2.2.2 (b + 8)) p (k + 1) := bC_n (fun z => c_52 z.1)
              exact PW.subL (ih (k + 1) _ _ (hb.trans y) (hm.trans (bC_k y)) (by omega) (by omega)) (by repeat' first | exact True.intro | refine And.intro rfl ?_)
            · have c_52 := bI_n c_52
              (try dsimp only [Gs_M] at c_52)
              refine r_aload_n dX0_bestFor_55 rfl rfl ?_
              refine r_iload dX0_bestFor_56 rfl ?_
              refine r_iload_n dX0_bestFor_58 rfl rfl ?_
              refine r_callV_dI (ci := 0) dX0_bestFor_59 (s_X0_good g hC (k) (p) (by omega) (by omega)) mf_X0_good mi_X0_good se_X0_X0_X0_good ml_X0_77 rfl rfl (Co_lt hC) hC.2.1 (by decide) rfl (Nat.le_of_ble_eq_true rfl) ⟨(Nat.le_of_ble_eq_true rfl), (Nat.le_of_ble_eq_true rfl)⟩ ⟨(Nat.le_of_ble_eq_true rfl), (Nat.le_of_ble_eq_true rfl)⟩ ?_
              refine r_istore dX0_bestFor_62 (by decide) ?_
              refine r_iload dX0_bestFor_64 rfl ?_
              refine r_iload_n dX0_bestFor_66 rfl rfl ?_
              refine r_icmp_le (tgt := 76) dX0_bestFor_67 (by decide) (fun c_67 => ?_) (fun c_67 => ?_)
              · (try dsimp only [Gs_M] at c_67)
                refine r_iinc (v := nI (k + 1)) dX0_bestFor_76 rfl (nI_1 _) (by decide) ?_
                refine r_goto (tgt := 14) dX0_bestFor_79 (by decide) ?_
                have y : bestR (vw S b) (S.2.2.2 (b + 7)) (S.2.2.2 (b + 8)) p k = bestR (vw S b) (S.2.2.2 (b + 7)) (S.2.2.2 (b + 8)) p (k + 1) := bC_g hN hk8 hp hm c_67
                exact PW.subL (ih (k + 1) _ _ (hb.trans y) (hm.trans (bC_k y)) (by omega) (by omega)) (by repeat' first | exact True.intro | refine And.intro rfl ?_)
              · (try dsimp only [Gs_M] at c_67)
                refine r_iload dX0_bestFor_70 rfl ?_
                refine r_istore_n dX0_bestFor_72 rfl (by decide) ?_
                refine r_iload dX0_bestFor_73 rfl ?_
                refine r_istore_n dX0_bestFor_75 rfl (by decide) ?_
                refine r_iinc (v := nI (k + 1)) dX0_bestFor_76 rfl (nI_1 _) (by decide) ?_
                refine r_goto (tgt := 14) dX0_bestFor_79 (by decide) ?_
                obtain ⟨y1, y2⟩ := bC_y hN hk8 hp hm c_52 ((vw_i hk8).trans c_30) c_42 (Int32.not_le.mp c_67)
                exact PW.subL (ih (k + 1) _ _ y1 y2 (by omega) (by omega)) (by repeat' first | exact True.intro | refine And.intro rfl ?_)
  refine r_iconst (v := (-1)) dX0_bestFor_0 (by decide) ?_
  refine r_istore_n dX0_bestFor_1 rfl (by decide) ?_
  refine r_aload_n dX0_bestFor_2 rfl rfl ?_
  refine r_getR (q := (b + 1)) dX0_bestFor_3 (ci := 0) (kf := 0) hC.2.1 (Co_lt hC) (by decide) (by decide) rfl fl_X0_9 (Or.inl rfl) hC.2.2.2.1 ?_
  refine r_iconst (v := 2) dX0_bestFor_6 (by decide) ?_
  refine r_iald (j := 2) dX0_bestFor_7 hC.2.2.1.1 (Co_la1 hC) rfl (by decide) (by decide) ?_
  refine r_iconst (v := 1) dX0_bestFor_8 (by decide) ?_
  refine r_isub dX0_bestFor_9 ?_
  refine r_istore_n dX0_bestFor_10 rfl (by decide) ?_
  refine r_iconst (v := 0) dX0_bestFor_11 (by decide) ?_
  refine r_istore dX0_bestFor_12 (by decide) ?_
  exact PW.subL (lp (plR (vw S b) + 1) 0 (-1) _ rfl rfl (by omega) (by omega)) (by repeat' first | exact True.intro | refine And.intro rfl ?_)
set_option maxRecDepth 20000 in
set_option maxHeartbeats 1000000 in
theorem s_X0_show (g : pG) {S : pS} {b : Nat} (hC : Co S b) (hcc : cOk (S.2.2.2 (b + 7))) : MS g mX0_show 2 0 0 [.ref b] (S) (dI (showR (vw S b) (S.2.2.2 (b + 7)) 8) S) := by
  refine MS.of pn_X0 (Nat.le_of_ble_eq_true rfl) ?_
  have lp : ∀ (j_ : Nat) (p : Nat) (sum : Int32) (hs : sum = showR (vw S b) (S.2.2.2 (b + 7)) p) (hp : p ≤ 8), 8 - p < j_ → PW g mX0_show (eN g S.1 2 0 0 (dI (showR (vw S b) (S.2.2.2 (b + 7)) 8) S)) 4 [some (.ref b), some (.int sum), some (.int (nI p))] [] (S) 0 0 := by
    intro j_
    induction j_ with
    | zero => intro p sum hs hp hj; exact absurd hj (Nat.not_lt_zero _)
    | succ j_ ih =>
      intro p sum hs hp hj
      refine r_iload_n dX0_show_4 rfl rfl ?_
      refine r_bipush (v := 8) dX0_show_5 (by decide) ?_
      refine r_icmp_geN (p) (8) (tgt := 47) dX0_show_7 (by decide) (by omega) (by omega) (fun c_7 => ?_) (fun c_7 => ?_)
      · (try dsimp only [Gs_M] at c_7)
        refine r_iload_n dX0_show_47 rfl rfl ?_
        refine r_iret dX0_show_48 rfl (Nat.le_refl _) ?_
        (try dsimp only [Gs_M])
        obtain rfl : p = 8 := by omega
        exact dI_e hs
      · (try dsimp only [Gs_M] at c_7)
        refine r_aload_n dX0_show_10 rfl rfl ?_
        refine r_getR (q := (b + 7)) dX0_show_11 (ci := 0) (kf := 10) hC.2.1 (Co_lt hC) (by decide) (by decide) rfl fl_X0_34 (Or.inl rfl) hC.2.2.2.2.2.2.2.2.2.1 ?_
        refine r_iload_n dX0_show_14 rfl rfl ?_
        refine r_iald (j := p) dX0_show_15 hC.2.2.1.2.2.2.2.2.2.1 (Co_la7 hC) rfl (by omega) (by decide) ?_
        refine r_iconst (v := (-1)) dX0_show_16 (by decide) ?_
        refine r_icmp_eq (tgt := 41) dX0_show_17 (by decide) (fun c_17 => ?_) (fun c_17 => ?_)
        · (try dsimp only [Gs_M] at c_17)
          refine r_iinc (v := nI (p + 1)) dX0_show_41 rfl (nI_1 _) (by decide) ?_
          refine r_goto (tgt := 4) dX0_show_44 (by decide) ?_
          exact PW.subL (ih (p + 1) sum (by rw [showR, if_pos (by rw [show S.2.2.2 (b + 7) p = -1 from c_17]; decide), Int32.add_zero]; exact hs) (by omega) (by omega)) (by repeat' first | exact True.intro | refine And.intro rfl ?_)
        · (try dsimp only [Gs_M] at c_17)
          obtain ⟨y, hy, ey⟩ := (hcc p (by omega)).resolve_left c_17
          refine r_iload_n dX0_show_20 rfl rfl ?_
          refine r_aload_n dX0_show_21 rfl rfl ?_
          refine r_getR (q := (b + 2)) dX0_show_22 (ci := 0) (kf := 1) hC.2.1 (Co_lt hC) (by decide) (by decide) rfl fl_X0_15 (Or.inl rfl) hC.2.2.2.2.1 ?_
          refine r_iload_n dX0_show_25 rfl rfl ?_
          refine r_iald (j := p) dX0_show_26 hC.2.2.1.2.1 (Co_la2 hC) rfl (by omega) (by decide) ?_
          refine r_aload_n dX0_show_27 rfl rfl ?_
          refine r_aload_n dX0_show_28 rfl rfl ?_
          refine r_getR (q := (b + 7)) dX0_show_29 (ci := 0) (kf := 10) hC.2.1 (Co_lt hC) (by decide) (by decide) rfl fl_X0_34 (Or.inl rfl) hC.2.2.2.2.2.2.2.2.2.1 ?_
          refine r_iload_n dX0_show_32 rfl rfl ?_
          refine r_iald (j := p) dX0_show_33 hC.2.2.1.2.2.2.2.2.2.1 (Co_la7 hC) rfl (by omega) (by decide) ?_
          rw [ey]
          refine r_iload_n dX0_show_34 rfl rfl ?_
          refine r_callV_dI (ci := 0) dX0_show_35 (s_X0_good g hC (y) (p) (by omega) (by omega)) mf_X0_good mi_X0_good se_X0_X0_X0_good ml_X0_77 rfl rfl (Co_lt hC) hC.2.1 (by decide) rfl (Nat.le_of_ble_eq_true rfl) ⟨(Nat.le_of_ble_eq_true rfl), (Nat.le_of_ble_eq_true rfl)⟩ ⟨(Nat.le_of_ble_eq_true rfl), (Nat.le_of_ble_eq_true rfl)⟩ ?_
          refine r_imul dX0_show_38 ?_
          refine r_iadd dX0_show_39 ?_
          refine r_istore_n dX0_show_40 rfl (by decide) ?_
          refine r_iinc (v := nI (p + 1)) dX0_show_41 rfl (nI_1 _) (by decide) ?_
          refine r_goto (tgt := 4) dX0_show_44 (by decide) ?_
          exact PW.subL (ih (p + 1) (sum + S.2.2.2 (b + 2) p * goodR (vw S b) y p) (by rw [← vw_w (S := S) (b := b) (p := p) (by omega)]; exact showR_y (by rw [ey]; exact nI_pos' (by omega)) ey hy hs) (by omega) (by omega)) (by repeat' first | exact True.intro | refine And.intro rfl ?_)
  refine r_iconst (v := 0) dX0_show_0 (by decide) ?_
  refine r_istore_n dX0_show_1 rfl (by decide) ?_
  refine r_iconst (v := 0) dX0_show_2 (by decide) ?_
  refine r_istore_n dX0_show_3 rfl (by decide) ?_
  exact PW.subL (lp 9 0 0 rfl (by omega) (by omega)) (by repeat' first | exact True.intro | refine And.intro rfl ?_)
set_option maxRecDepth 20000 in
set_option maxHeartbeats 1000000 in
theorem s_X0_makeBill (g : pG) {S : pS} {b : Nat} (hC : Co S b) (hI : InvR (vw S b)) (hN : InvN (vw S b)) : MS g mX0_makeBill 3 0 0 [.ref b] (S) (eV (blP b S)) := by
  obtain ⟨h8, hpl⟩ := hI.pl
  have hpl : S.2.2.2 b 6 = nI (plR (vw S b)) := hpl
  refine MS.of pn_X0 (Nat.le_of_ble_eq_true rfl) ?_
  have lq : ∀ (j_ : Nat) (p : Nat) (S1 : pS) (hk : fr (frl b [7, 8]) S S1) (hc : ∀ x, x < p → S1.2.2.2 (b + 7) x = (billR (vw S b) p).1 x) (hr : ∀ x, x < plR (vw S b) → S1.2.2.2 (b + 8) x = (billR (vw S b) p).2 x) (hp : p ≤ 8), 8 - p < j_ → PW g mX0_makeBill (eN g S.1 3 0 0 (eV (blP b S))) 26 [some (.ref b), some (.int (nI p)), none] [] (S1) 0 0 := by
    intro j_
    induction j_ with
    | zero => intro p S1 hk hc hr hp hj; exact absurd hj (Nat.not_lt_zero _)
    | succ j_ ih =>
      intro p S1 hk hc hr hp hj
      have hC1 := hk.co hC
      have e1 : vw S1 b = vw S b := hk.vw (fun c hc => frl_no (by simp; omega))
      have hok := bill_ok hI p hp
      refine r_iload_n dX0_makeBill_26 rfl rfl ?_
      refine r_bipush (v := 8) dX0_makeBill_27 (by decide) ?_
      refine r_icmp_geN (p) (8) (tgt := 63) dX0_makeBill_29 (by decide) (by omega) (by omega) (fun c_29 => ?_) (fun c_29 => ?_)
      · (try dsimp only [Gs_M] at c_29)
        refine r_vret dX0_makeBill_63 rfl (Nat.le_refl _) ?_
        (try dsimp only [Gs_M])
        obtain rfl : p = 8 := by omega
        exact ⟨rfl, hk, hc, hr⟩
      · (try dsimp only [Gs_M] at c_29)
        refine r_aload_n dX0_makeBill_32 rfl rfl ?_
        refine r_iload_n dX0_makeBill_33 rfl rfl ?_
        refine r_callV_dI (ci := 0) dX0_makeBill_34 (s_X0_bestFor g hC1 (by rw [e1]; exact hI) (by rw [e1]; exact hN) p (by omega) (fun x hx => by rw [hc x hx]; exact hok x (by omega))) mf_X0_bestFor mi_X0_bestFor se_X0_X0_X0_bestFor ml_X0_69 rfl rfl (Co_lt hC1) hC1.2.1 (by decide) rfl (Nat.le_of_ble_eq_true rfl) ⟨(Nat.le_of_ble_eq_true rfl), (Nat.le_of_ble_eq_true rfl)⟩ ⟨(Nat.le_of_ble_eq_true rfl), (Nat.le_of_ble_eq_true rfl)⟩ ?_
        have ebest : bestR (vw S1 b) (S1.2.2.2 (b + 7)) (S1.2.2.2 (b + 8)) p (plR (vw S1 b)) = bestR (vw S b) (billR (vw S b) p).1 (billR (vw S b) p).2 p (plR (vw S b)) := by rw [e1]; exact bestR_cong2 hc _ hr
        rw [ebest]
        refine r_istore_n dX0_makeBill_37 rfl (by decide) ?_
        refine r_aload_n dX0_makeBill_38 rfl rfl ?_
        refine r_getR (q := (b + 7)) dX0_makeBill_39 (ci := 0) (kf := 10) hC1.2.1 (Co_lt hC1) (by decide) (by decide) rfl fl_X0_34 (Or.inl rfl) hC1.2.2.2.2.2.2.2.2.2.1 ?_
        refine r_iload_n dX0_makeBill_42 rfl rfl ?_
        refine r_iload_n dX0_makeBill_43 rfl rfl ?_
        refine r_iast (j := p) dX0_makeBill_44 hC1.2.2.1.2.2.2.2.2.2.1 (Co_la7 hC1) rfl (by omega) (by decide) ?_
        refine r_iload_n dX0_makeBill_45 rfl rfl ?_
        refine r_iconst (v := (-1)) dX0_makeBill_46 (by decide) ?_
        refine r_icmp_eq (tgt := 57) dX0_makeBill_47 (by decide) (fun c_47 => ?_) (fun c_47 => ?_)
        · (try dsimp only [Gs_M] at c_47)
          refine r_iinc (v := nI (p + 1)) dX0_makeBill_57 rfl (nI_1 _) (by decide) ?_
          refine r_goto (tgt := 26) dX0_makeBill_60 (by decide) ?_
          refine PW.subL (ih (p + 1) _ (hk.set (frl_in (by decide))) ?_ ?_ (by omega) (by omega)) (by repeat' first | exact True.intro | refine And.intro rfl ?_)
          · intro x hx
            rw [mSet_at]
            show upd _ _ _ x = upd _ _ _ x
            unfold upd
            by_cases e : x = p
            · rw [if_pos e, if_pos e]
            · rw [if_neg e, if_neg e]
              exact hc x (by omega)
          · intro x hx
            rw [mSet_ne (by omega), billR]
            show _ = (if bestR (vw S b) (billR (vw S b) p).1 (billR (vw S b) p).2 p (plR (vw S b)) < 0 then (billR (vw S b) p).2 else upd (billR (vw S b) p).2 (cl (bestR (vw S b) (billR (vw S b) p).1 (billR (vw S b) p).2 p (plR (vw S b)))) (nI p)) x
            rw [if_pos (by rw [show bestR (vw S b) (billR (vw S b) p).1 (billR (vw S b) p).2 p (plR (vw S b)) = -1 from c_47]; decide)]
            exact hr x hx
        · (try dsimp only [Gs_M] at c_47)
          obtain ⟨y, hy, eb⟩ := (bestR_or (vw S b) (billR (vw S b) p).1 (billR (vw S b) p).2 p (plR (vw S b)) h8).resolve_left c_47
          rw [eb]
          refine r_aload_n dX0_makeBill_50 rfl rfl ?_
          refine r_getR (q := (b + 8)) dX0_makeBill_51 (ci := 0) (kf := 11) hC1.2.1 (Co_lt hC1) (by decide) (by decide) rfl fl_X0_37 (Or.inl rfl) hC1.2.2.2.2.2.2.2.2.2.2 ?_
          refine r_iload_n dX0_makeBill_54 rfl rfl ?_
          refine r_iload_n dX0_makeBill_55 rfl rfl ?_
          refine r_iast (j := y) dX0_makeBill_56 hC1.2.2.1.2.2.2.2.2.2.2 (Co_la8 hC1) rfl (by omega) (by decide) ?_
          refine r_iinc (v := nI (p + 1)) dX0_makeBill_57 rfl (nI_1 _) (by decide) ?_
          refine r_goto (tgt := 26) dX0_makeBill_60 (by decide) ?_
          refine PW.subL (ih (p + 1) _ ((hk.set (frl_in (by decide))).set (frl_in (by decide))) ?_ ?_ (by omega) (by omega)) (by repeat' first | exact True.intro | refine And.intro rfl ?_)
          · intro x hx
            rw [mSet_ne (by omega)]
            rw [mSet_at]
            show upd _ _ _ x = upd _ _ _ x
            unfold upd
            by_cases e : x = p
            · rw [if_pos e, if_pos e]
              exact eb.symm.trans rfl
            · rw [if_neg e, if_neg e]
              exact hc x (by omega)
          · intro x hx
            rw [mSet_at, billR]
            show _ = (if bestR (vw S b) (billR (vw S b) p).1 (billR (vw S b) p).2 p (plR (vw S b)) < 0 then (billR (vw S b) p).2 else upd (billR (vw S b) p).2 (cl (bestR (vw S b) (billR (vw S b) p).1 (billR (vw S b) p).2 p (plR (vw S b)))) (nI p)) x
            rw [eb, if_neg (nI_pos (by omega)), cl_nI (by omega)]
            unfold upd
            by_cases e : x = y
            · rw [if_pos e, if_pos e]
            · rw [if_neg e, if_neg e, mSet_ne (by omega)]
              exact hr x hx
  have lp : ∀ (j_ : Nat) (i : Nat) (S1 : pS) (hk : fr (frl b [7, 8]) S S1) (hr : ∀ x, x < i → S1.2.2.2 (b + 8) x = 8) (hi : i ≤ plR (vw S b)), plR (vw S b) - i < j_ → PW g mX0_makeBill (eN g S.1 3 0 0 (eV (blP b S))) 2 [some (.ref b), some (.int (nI i)), none] [] (S1) 0 0 := by
    intro j_
    induction j_ with
    | zero => intro i S1 hk hr hi hj; exact absurd hj (Nat.not_lt_zero _)
    | succ j_ ih =>
      intro i S1 hk hr hi hj
      have hC1 := hk.co hC
      have e6 : S1.2.2.2 b 6 = nI (plR (vw S b)) := (congrFun (hk.2 b (frl_n0 (by decide))) 6).trans hpl
      refine r_iload_n dX0_makeBill_2 rfl rfl ?_
      refine r_aload_n dX0_makeBill_3 rfl rfl ?_
      refine r_getI dX0_makeBill_4 (ci := 0) (kf := 6) hC1.2.1 (Co_lt hC1) (by decide) (by decide) rfl fl_X0_52 (Or.inl rfl) ?_
      rw [e6]
      refine r_icmp_geN (i) (plR (vw S b)) (tgt := 24) dX0_makeBill_7 (by decide) (by omega) (by omega) (fun c_7 => ?_) (fun c_7 => ?_)
      · (try dsimp only [Gs_M] at c_7)
        refine r_iconst (v := 0) dX0_makeBill_24 (by decide) ?_
        refine r_istore_n dX0_makeBill_25 rfl (by decide) ?_
        exact PW.subL (lq 9 0 _ hk (fun x hx => absurd hx (Nat.not_lt_zero x)) (fun x hx => hr x (by omega)) (by omega) (by omega)) (by repeat' first | exact True.intro | refine And.intro rfl ?_)
      · (try dsimp only [Gs_M] at c_7)
        refine r_aload_n dX0_makeBill_10 rfl rfl ?_
        refine r_getR (q := (b + 8)) dX0_makeBill_11 (ci := 0) (kf := 11) hC1.2.1 (Co_lt hC1) (by decide) (by decide) rfl fl_X0_37 (Or.inl rfl) hC1.2.2.2.2.2.2.2.2.2.2 ?_
        refine r_iload_n dX0_makeBill_14 rfl rfl ?_
        refine r_bipush (v := 8) dX0_makeBill_15 (by decide) ?_
        refine r_iast (j := i) dX0_makeBill_17 hC1.2.2.1.2.2.2.2.2.2.2 (Co_la8 hC1) rfl (by omega) (by decide) ?_
        refine r_iinc (v := nI (i + 1)) dX0_makeBill_18 rfl (nI_1 _) (by decide) ?_
        refine r_goto (tgt := 2) dX0_makeBill_21 (by decide) ?_
        refine PW.subL (ih (i + 1) _ (hk.set (frl_in (by decide))) (fun x hx => ?_) (by omega) (by omega)) (by repeat' first | exact True.intro | refine And.intro rfl ?_)
        rw [mSet_at]
        unfold upd
        by_cases e : x = i
        · rw [if_pos e]
        · rw [if_neg e]; exact hr x (by omega)
  refine r_iconst (v := 0) dX0_makeBill_0 (by decide) ?_
  refine r_istore_n dX0_makeBill_1 rfl (by decide) ?_
  exact PW.subL (lp (plR (vw S b) + 1) 0 _ fr.rf (fun x hx => absurd hx (Nat.not_lt_zero x)) (by omega) (by omega)) (by repeat' first | exact True.intro | refine And.intro rfl ?_)
