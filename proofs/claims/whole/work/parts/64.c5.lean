set_option maxRecDepth 20000 in
set_option maxHeartbeats 1000000 in
theorem s_X0_draw (g : pG) {S : pS} {b : Nat} (hC : Co S b) : MS g mX0_draw 1 0 0 [.ref b] (S) (dI (nI (drawN (vw S b 5))) (mSet S b 9 (drawZ (vw S b 5)))) := by
  refine MS.of pn_X0 (Nat.le_of_ble_eq_true rfl) ?_
  refine r_aload_n dX0_draw_0 rfl rfl ?_
  refine r_aload_n dX0_draw_1 rfl rfl ?_
  refine r_getI dX0_draw_2 (ci := 0) (kf := 9) hC.2.1 (Co_lt hC) (by decide) (by decide) rfl fl_X0_30 (Or.inl rfl) ?_
  refine r_ldc dX0_draw_5 kc_X0_103 ?_
  refine r_imul dX0_draw_7 ?_
  refine r_sipush (v := 12345) dX0_draw_8 (by decide) ?_
  refine r_iadd dX0_draw_11 ?_
  refine r_putI dX0_draw_12 (ci := 0) (kf := 9) hC.2.1 (Co_lt hC) (by decide) (by decide) rfl fl_X0_30 (Or.inl rfl) rfl rfl rfl ?_
  refine r_aload_n dX0_draw_15 rfl rfl ?_
  refine r_getI dX0_draw_16 (ci := 0) (kf := 9) hC.2.1 (Co_lt hC) (by decide) (by decide) rfl fl_X0_30 (Or.inl rfl) ?_
  refine r_bipush (v := 16) dX0_draw_19 (by decide) ?_
  refine r_iushr dX0_draw_21 rfl ?_
  refine r_iret dX0_draw_22 rfl (Nat.le_refl _) ?_
  (try dsimp only [Gs_M])
  rw [← drawV_n]
  refine dI_es ?_ rfl
  simp only [mSet_at, pk_us]
  rfl
theorem e_X0_draw (g : pG) {S : pS} {b : Nat} (hC : Co S b) : MS g mX0_draw 1 0 0 [.ref b] S (eI (fun x S1 => x = nI (drawN (vw S b 5)) ∧ fr (frl b [0]) S S1 ∧ vw S1 b = upd (vw S b) 5 (drawZ (vw S b 5)))) :=
  (s_X0_draw g hC).imp (fun r S' h => ⟨_, h.1, rfl, by rw [h.2]; exact fr.rf.set (frl_0 (by decide)), by rw [h.2]; exact vs_5⟩)
theorem mx_e {x d : Int32} : (if x < d then d else x) = (if d ≤ x then x else d) := by
  by_cases c : x < d
  · rw [if_pos c, if_neg (Int32.not_le.mpr c)]
  · rw [if_neg c, if_pos (Int32.not_lt.mp c)]
set_option maxRecDepth 20000 in
set_option maxHeartbeats 1000000 in
theorem s_X0_drawThroat (g : pG) {S : pS} {b : Nat} (hC : Co S b) (hI : InvR (vw S b)) : MS g mX0_drawThroat 2 0 0 [.ref b] (S) (eV (fun S1 => fr (frl b [0, 5]) S S1 ∧ vw S1 b = thrR (vw S b))) := by
  obtain ⟨h8, hpl⟩ := hI.pl
  refine MS.of pn_X0 (Nat.le_of_ble_eq_true rfl) ?_
  refine r_aload_n dX0_drawThroat_0 rfl rfl ?_
  refine r_getI dX0_drawThroat_1 (ci := 0) (kf := 6) hC.2.1 (Co_lt hC) (by decide) (by decide) rfl fl_X0_52 (Or.inl rfl) ?_
  refine r_if_le (tgt := 55) dX0_drawThroat_4 (by decide) (fun c_4 => ?_) (fun c_4 => ?_)
  · (try dsimp only [Gs_M] at c_4)
    refine r_vret dX0_drawThroat_55 rfl (Nat.le_refl _) ?_
    (try dsimp only [Gs_M])
    exact ⟨rfl, fr.rf, by rw [thrR, if_pos (show vw S b 6 ≤ 0 from c_4)]⟩
  · (try dsimp only [Gs_M] at c_4)
    have h0 : 0 < plR (vw S b) := by
      rcases Nat.eq_zero_or_pos (plR (vw S b)) with e | e
      · exact absurd (by show vw S b 6 ≤ 0; rw [hpl, e]; decide) c_4
      · exact e
    have l0 := drawN_lt (vw S b 5)
    obtain ⟨k, ek⟩ : ∃ k, drawN (vw S b 5) % plR (vw S b) = k := ⟨_, rfl⟩
    have hk8 : k < 8 := by rw [← ek]; have := Nat.mod_lt (drawN (vw S b 5)) h0; omega
    refine r_aload_n dX0_drawThroat_7 rfl rfl ?_
    refine r_callV_eI (ci := 0) dX0_drawThroat_8 (e_X0_draw g hC) mf_X0_draw mi_X0_draw se_X0_X0_X0_draw ml_X0_104 rfl rfl (Co_lt hC) hC.2.1 (by decide) rfl (Nat.le_of_ble_eq_true rfl) ⟨(Nat.le_of_ble_eq_true rfl), (Nat.le_of_ble_eq_true rfl)⟩ ⟨(Nat.le_of_ble_eq_true rfl), (Nat.le_of_ble_eq_true rfl)⟩ (fun r_8 S_8 q_8 z_8 => ?_)
    obtain ⟨rfl, fa, va⟩ := q_8
    have hCa := fa.co hC
    refine r_aload_n dX0_drawThroat_11 rfl rfl ?_
    refine r_getI dX0_drawThroat_12 (ci := 0) (kf := 6) hCa.2.1 (Co_lt hCa) (by decide) (by decide) rfl fl_X0_52 (Or.inl rfl) ?_
    rw [show S_8.2.2.2 b 6 = nI (plR (vw S b)) by rw [← vw_6, va, pk_un (by omega)]; exact hpl]
    refine r_irem dX0_drawThroat_15 (nI_ne0 h0 (by omega)) ?_
    rw [show nI (drawN (vw S b 5)) - nI (drawN (vw S b 5)) / nI (plR (vw S b)) * nI (plR (vw S b)) = nI k by rw [← ek]; exact pk_rem (Nat.lt_trans l0 (by decide)) h0 (by omega)]
    refine r_istore_n dX0_drawThroat_16 rfl (by decide) ?_
    refine r_aload_n dX0_drawThroat_17 rfl rfl ?_
    refine r_callV_eI (ci := 0) dX0_drawThroat_18 (e_X0_draw g hCa) mf_X0_draw mi_X0_draw se_X0_X0_X0_draw ml_X0_104 rfl rfl (Co_lt hCa) hCa.2.1 (by decide) rfl (Nat.le_of_ble_eq_true rfl) ⟨(Nat.le_of_ble_eq_true rfl), (Nat.le_of_ble_eq_true rfl)⟩ ⟨(Nat.le_of_ble_eq_true rfl), (Nat.le_of_ble_eq_true rfl)⟩ (fun r_18 S_18 q_18 z_18 => ?_)
    obtain ⟨rfl, fb, vb⟩ := q_18
    have hCb := fb.co hCa
    refine r_bipush (v := 100) dX0_drawThroat_21 (by decide) ?_
    refine r_irem dX0_drawThroat_23 (by decide) ?_
    have l1 := drawN_lt (vw S_8 b 5)
    rw [show nI (drawN (vw S_8 b 5)) - nI (drawN (vw S_8 b 5)) / 100 * 100 = nI (drawN (vw S_8 b 5) % 100) from pk_rem (Nat.lt_trans l1 (by decide)) (by decide) (by decide)]
    refine r_aload_n dX0_drawThroat_24 rfl rfl ?_
    refine r_getR (q := (b + 1)) dX0_drawThroat_25 (ci := 0) (kf := 0) hCb.2.1 (Co_lt hCb) (by decide) (by decide) rfl fl_X0_9 (Or.inl rfl) hCb.2.2.2.1 ?_
    refine r_iconst (v := 3) dX0_drawThroat_28 (by decide) ?_
    refine r_iald (j := 3) dX0_drawThroat_29 hCb.2.2.1.1 (Co_la1 hCb) rfl (by decide) (by decide) ?_
    refine r_icmp_ge (tgt := 55) dX0_drawThroat_30 (by decide) (fun c_30 => ?_) (fun c_30 => ?_)
    · (try dsimp only [Gs_M] at c_30)
      have c30 : vw S b 4 ≤ nI (drawN (drawZ (vw S b 5)) % 100) := by
        have h := c_30
        rw [show S_18.2.2.2 (b + 1) 3 = vw S_18 b 4 from rfl, vb, pk_un (by omega), va, pk_us, pk_un (by omega)] at h
        exact h
      refine r_vret dX0_drawThroat_55 rfl (Nat.le_refl _) ?_
      (try dsimp only [Gs_M])
      refine ⟨rfl, (fa.tr fb).mono (frl_mono (by decide)), ?_⟩
      rw [vb, va, pk_us, upd_twice, thrR, if_neg (show ¬ vw S b 6 ≤ 0 from c_4), if_neg (Int32.not_lt.mpr c30)]
    · (try dsimp only [Gs_M] at c_30)
      have c30 : ¬ vw S b 4 ≤ nI (drawN (drawZ (vw S b 5)) % 100) := by
        have h := c_30
        rw [show S_18.2.2.2 (b + 1) 3 = vw S_18 b 4 from rfl, vb, pk_un (by omega), va, pk_us, pk_un (by omega)] at h
        exact h
      refine r_aload_n dX0_drawThroat_33 rfl rfl ?_
      refine r_getR (q := (b + 5)) dX0_drawThroat_34 (ci := 0) (kf := 4) hCb.2.1 (Co_lt hCb) (by decide) (by decide) rfl fl_X0_24 (Or.inl rfl) hCb.2.2.2.2.2.2.2.1 ?_
      refine r_iload_n dX0_drawThroat_37 rfl rfl ?_
      refine r_aload_n dX0_drawThroat_38 rfl rfl ?_
      refine r_getR (q := (b + 5)) dX0_drawThroat_39 (ci := 0) (kf := 4) hCb.2.1 (Co_lt hCb) (by decide) (by decide) rfl fl_X0_24 (Or.inl rfl) hCb.2.2.2.2.2.2.2.1 ?_
      refine r_iload_n dX0_drawThroat_42 rfl rfl ?_
      refine r_iald (j := k) dX0_drawThroat_43 hCb.2.2.1.2.2.2.2.1 (Co_la5 hCb) rfl (by omega) (by decide) ?_
      refine r_aload_n dX0_drawThroat_44 rfl rfl ?_
      refine r_callV_eI (ci := 0) dX0_drawThroat_45 (e_X0_draw g hCb) mf_X0_draw mi_X0_draw se_X0_X0_X0_draw ml_X0_104 rfl rfl (Co_lt hCb) hCb.2.1 (by decide) rfl (Nat.le_of_ble_eq_true rfl) ⟨(Nat.le_of_ble_eq_true rfl), (Nat.le_of_ble_eq_true rfl)⟩ ⟨(Nat.le_of_ble_eq_true rfl), (Nat.le_of_ble_eq_true rfl)⟩ (fun r_45 S_45 q_45 z_45 => ?_)
      obtain ⟨rfl, fc, vc⟩ := q_45
      have hCc := fc.co hCb
      refine r_bipush (v := 10) dX0_drawThroat_48 (by decide) ?_
      refine r_irem dX0_drawThroat_50 (by decide) ?_
      have l2 := drawN_lt (vw S_18 b 5)
      rw [show nI (drawN (vw S_18 b 5)) - nI (drawN (vw S_18 b 5)) / 10 * 10 = nI (drawN (vw S_18 b 5) % 10) from pk_rem (Nat.lt_trans l2 (by decide)) (by decide) (by decide)]
      have wk : S_18.2.2.2 (b + 5) k = vw S b (16 + 11 * k + 2) := by rw [← vw_i hk8, vb, pk_un (by omega), va, pk_un (by omega)]
      refine r_mmax dX0_drawThroat_51 ml_X0_107 (Nat.le_of_ble_eq_true rfl) (Nat.le_of_ble_eq_true rfl) (Nat.le_of_ble_eq_true rfl) (Nat.le_of_ble_eq_true rfl) (Nat.le_of_ble_eq_true rfl) ?_
      refine r_iast (j := k) dX0_drawThroat_54 hCc.2.2.1.2.2.2.2.1 (Co_la5 hCc) rfl (by omega) (by decide) ?_
      refine r_vret dX0_drawThroat_55 rfl (Nat.le_refl _) ?_
      (try dsimp only [Gs_M])
      refine ⟨rfl, (((fa.tr fb).tr fc).mono (frl_mono (by decide))).set (frl_in (by decide)), ?_⟩
      rw [vs_i hk8, mx_e, wk, vc, vb, va, pk_us, pk_us, upd_twice, upd_twice, thrR, if_neg (show ¬ vw S b 6 ≤ 0 from c_4), if_pos (Int32.not_le.mp c30), ek]
set_option maxRecDepth 20000 in
set_option maxHeartbeats 1000000 in
theorem s_X0_cutParts (g : pG) {S : pS} {b : Nat} (hC : Co S b) (hcc : cOk (S.2.2.2 (b + 7))) : MS g mX0_cutParts 1 0 0 [.ref b] (S) (dI (cutR (S.2.2.2 (b + 7)) 8) S) := by
  refine MS.of pn_X0 (Nat.le_of_ble_eq_true rfl) ?_
  have lp : ∀ (j_ : Nat) (p : Nat) (set : Int32) (hs : set = cutR (S.2.2.2 (b + 7)) p) (hp : p ≤ 8), 8 - p < j_ → PW g mX0_cutParts (eN g S.1 1 0 0 (dI (cutR (S.2.2.2 (b + 7)) 8) S)) 4 [some (.ref b), some (.int set), some (.int (nI p))] [] (S) 0 0 := by
    intro j_
    induction j_ with
    | zero => intro p set hs hp hj; exact absurd hj (Nat.not_lt_zero _)
    | succ j_ ih =>
      intro p set hs hp hj
      refine r_iload_n dX0_cutParts_4 rfl rfl ?_
      refine r_bipush (v := 8) dX0_cutParts_5 (by decide) ?_
      refine r_icmp_geN (p) (8) (tgt := 32) dX0_cutParts_7 (by decide) (by omega) (by omega) (fun c_7 => ?_) (fun c_7 => ?_)
      · (try dsimp only [Gs_M] at c_7)
        refine r_iload_n dX0_cutParts_32 rfl rfl ?_
        refine r_iret dX0_cutParts_33 rfl (Nat.le_refl _) ?_
        (try dsimp only [Gs_M])
        obtain rfl : p = 8 := by omega
        exact dI_e hs
      · (try dsimp only [Gs_M] at c_7)
        refine r_aload_n dX0_cutParts_10 rfl rfl ?_
        refine r_getR (q := (b + 7)) dX0_cutParts_11 (ci := 0) (kf := 10) hC.2.1 (Co_lt hC) (by decide) (by decide) rfl fl_X0_34 (Or.inl rfl) hC.2.2.2.2.2.2.2.2.2.1 ?_
        refine r_iload_n dX0_cutParts_14 rfl rfl ?_
        refine r_iald (j := p) dX0_cutParts_15 hC.2.2.1.2.2.2.2.2.2.1 (Co_la7 hC) rfl (by omega) (by decide) ?_
        refine r_iconst (v := (-1)) dX0_cutParts_16 (by decide) ?_
        refine r_icmp_ne (tgt := 26) dX0_cutParts_17 (by decide) (fun c_17 => ?_) (fun c_17 => ?_)
        · (try dsimp only [Gs_M] at c_17)
          refine r_iinc (v := nI (p + 1)) dX0_cutParts_26 rfl (nI_1 _) (by decide) ?_
          refine r_goto (tgt := 4) dX0_cutParts_29 (by decide) ?_
          exact PW.subL (ih (p + 1) _ ((Int32.or_zero (a := set)).symm.trans (cutR_n (by obtain ⟨y, hy, ey⟩ := (hcc p (by omega)).resolve_left c_17; rw [ey]; exact nI_pos' (by omega)) hs)) (by omega) (by omega)) (by repeat' first | exact True.intro | refine And.intro rfl ?_)
        · (try dsimp only [Gs_M] at c_17)
          refine r_iload_n dX0_cutParts_20 rfl rfl ?_
          refine r_iconst (v := 1) dX0_cutParts_21 (by decide) ?_
          refine r_iload_n dX0_cutParts_22 rfl rfl ?_
          refine r_ishl dX0_cutParts_23 ?_
          refine r_ior dX0_cutParts_24 ?_
          refine r_istore_n dX0_cutParts_25 rfl (by decide) ?_
          refine r_iinc (v := nI (p + 1)) dX0_cutParts_26 rfl (nI_1 _) (by decide) ?_
          refine r_goto (tgt := 4) dX0_cutParts_29 (by decide) ?_
          exact PW.subL (ih (p + 1) _ (cutR_y (by rw [show S.2.2.2 (b + 7) p = -1 from c_17]; decide) hs) (by omega) (by omega)) (by repeat' first | exact True.intro | refine And.intro rfl ?_)
  refine r_iconst (v := 0) dX0_cutParts_0 (by decide) ?_
  refine r_istore_n dX0_cutParts_1 rfl (by decide) ?_
  refine r_iconst (v := 0) dX0_cutParts_2 (by decide) ?_
  refine r_istore_n dX0_cutParts_3 rfl (by decide) ?_
  exact PW.subL (lp 9 0 0 rfl (by omega) (by omega)) (by repeat' first | exact True.intro | refine And.intro rfl ?_)
set_option maxRecDepth 20000 in
set_option maxHeartbeats 1000000 in
theorem s_X0_illPlayers (g : pG) {S : pS} {b : Nat} (hC : Co S b) (hI : InvR (vw S b)) : MS g mX0_illPlayers 1 0 0 [.ref b] (S) (dI (illR (vw S b) (plR (vw S b))) S) := by
  obtain ⟨h8, hpl⟩ := hI.pl
  have hpl : S.2.2.2 b 6 = nI (plR (vw S b)) := hpl
  refine MS.of pn_X0 (Nat.le_of_ble_eq_true rfl) ?_
  have lp : ∀ (j_ : Nat) (k : Nat) (set : Int32) (hs : set = illR (vw S b) k) (hkn : k ≤ plR (vw S b)), plR (vw S b) - k < j_ → PW g mX0_illPlayers (eN g S.1 1 0 0 (dI (illR (vw S b) (plR (vw S b))) S)) 4 [some (.ref b), some (.int set), some (.int (nI k))] [] (S) 0 0 := by
    intro j_
    induction j_ with
    | zero => intro k set hs hkn hj; exact absurd hj (Nat.not_lt_zero _)
    | succ j_ ih =>
      intro k set hs hkn hj
      refine r_iload_n dX0_illPlayers_4 rfl rfl ?_
      refine r_aload_n dX0_illPlayers_5 rfl rfl ?_
      refine r_getI dX0_illPlayers_6 (ci := 0) (kf := 6) hC.2.1 (Co_lt hC) (by decide) (by decide) rfl fl_X0_52 (Or.inl rfl) ?_
      rw [hpl]
      refine r_icmp_geN (k) (plR (vw S b)) (tgt := 33) dX0_illPlayers_9 (by decide) (by omega) (by omega) (fun c_9 => ?_) (fun c_9 => ?_)
      · (try dsimp only [Gs_M] at c_9)
        refine r_iload_n dX0_illPlayers_33 rfl rfl ?_
        refine r_iret dX0_illPlayers_34 rfl (Nat.le_refl _) ?_
        (try dsimp only [Gs_M])
        obtain rfl : k = plR (vw S b) := by omega
        exact dI_e hs
      · (try dsimp only [Gs_M] at c_9)
        refine r_aload_n dX0_illPlayers_12 rfl rfl ?_
        refine r_getR (q := (b + 5)) dX0_illPlayers_13 (ci := 0) (kf := 4) hC.2.1 (Co_lt hC) (by decide) (by decide) rfl fl_X0_24 (Or.inl rfl) hC.2.2.2.2.2.2.2.1 ?_
        refine r_iload_n dX0_illPlayers_16 rfl rfl ?_
        refine r_iald (j := k) dX0_illPlayers_17 hC.2.2.1.2.2.2.2.1 (Co_la5 hC) rfl (by omega) (by decide) ?_
        refine r_if_le (tgt := 27) dX0_illPlayers_18 (by decide) (fun c_18 => ?_) (fun c_18 => ?_)
        · (try dsimp only [Gs_M] at c_18)
          refine r_iinc (v := nI (k + 1)) dX0_illPlayers_27 rfl (nI_1 _) (by decide) ?_
          refine r_goto (tgt := 4) dX0_illPlayers_30 (by decide) ?_
          exact PW.subL (ih (k + 1) _ ((Int32.or_zero (a := set)).symm.trans (illR_n (by rw [vw_i (by omega)]; exact c_18) hs)) (by omega) (by omega)) (by repeat' first | exact True.intro | refine And.intro rfl ?_)
        · (try dsimp only [Gs_M] at c_18)
          refine r_iload_n dX0_illPlayers_21 rfl rfl ?_
          refine r_iconst (v := 1) dX0_illPlayers_22 (by decide) ?_
          refine r_iload_n dX0_illPlayers_23 rfl rfl ?_
          refine r_ishl dX0_illPlayers_24 ?_
          refine r_ior dX0_illPlayers_25 ?_
          refine r_istore_n dX0_illPlayers_26 rfl (by decide) ?_
          refine r_iinc (v := nI (k + 1)) dX0_illPlayers_27 rfl (nI_1 _) (by decide) ?_
          refine r_goto (tgt := 4) dX0_illPlayers_30 (by decide) ?_
          exact PW.subL (ih (k + 1) _ (illR_y (by rw [vw_i (by omega)]; exact c_18) hs) (by omega) (by omega)) (by repeat' first | exact True.intro | refine And.intro rfl ?_)
  refine r_iconst (v := 0) dX0_illPlayers_0 (by decide) ?_
  refine r_istore_n dX0_illPlayers_1 rfl (by decide) ?_
  refine r_iconst (v := 0) dX0_illPlayers_2 (by decide) ?_
  refine r_istore_n dX0_illPlayers_3 rfl (by decide) ?_
  exact PW.subL (lp (plR (vw S b) + 1) 0 0 rfl (by omega) (by omega)) (by repeat' first | exact True.intro | refine And.intro rfl ?_)
set_option maxRecDepth 20000 in
set_option maxHeartbeats 1000000 in
theorem s_X0_moved (g : pG) {S : pS} {b : Nat} (hC : Co S b) (hI : InvR (vw S b)) : MS g mX0_moved 1 0 0 [.ref b] (S) (dI (movR (vw S b) (S.2.2.2 (b + 8)) (plR (vw S b))) S) := by
  obtain ⟨h8, hpl⟩ := hI.pl
  have hpl : S.2.2.2 b 6 = nI (plR (vw S b)) := hpl
  refine MS.of pn_X0 (Nat.le_of_ble_eq_true rfl) ?_
  have lp : ∀ (j_ : Nat) (k : Nat) (set : Int32) (hs : set = movR (vw S b) (S.2.2.2 (b + 8)) k) (hkn : k ≤ plR (vw S b)), plR (vw S b) - k < j_ → PW g mX0_moved (eN g S.1 1 0 0 (dI (movR (vw S b) (S.2.2.2 (b + 8)) (plR (vw S b))) S)) 4 [some (.ref b), some (.int set), some (.int (nI k))] [] (S) 0 0 := by
    intro j_
    induction j_ with
    | zero => intro k set hs hkn hj; exact absurd hj (Nat.not_lt_zero _)
    | succ j_ ih =>
      intro k set hs hkn hj
      refine r_iload_n dX0_moved_4 rfl rfl ?_
      refine r_aload_n dX0_moved_5 rfl rfl ?_
      refine r_getI dX0_moved_6 (ci := 0) (kf := 6) hC.2.1 (Co_lt hC) (by decide) (by decide) rfl fl_X0_52 (Or.inl rfl) ?_
      rw [hpl]
      refine r_icmp_geN (k) (plR (vw S b)) (tgt := 47) dX0_moved_9 (by decide) (by omega) (by omega) (fun c_9 => ?_) (fun c_9 => ?_)
      · (try dsimp only [Gs_M] at c_9)
        refine r_iload_n dX0_moved_47 rfl rfl ?_
        refine r_iret dX0_moved_48 rfl (Nat.le_refl _) ?_
        (try dsimp only [Gs_M])
        obtain rfl : k = plR (vw S b) := by omega
        exact dI_e hs
      · (try dsimp only [Gs_M] at c_9)
        refine r_aload_n dX0_moved_12 rfl rfl ?_
        refine r_getR (q := (b + 8)) dX0_moved_13 (ci := 0) (kf := 11) hC.2.1 (Co_lt hC) (by decide) (by decide) rfl fl_X0_37 (Or.inl rfl) hC.2.2.2.2.2.2.2.2.2.2 ?_
        refine r_iload_n dX0_moved_16 rfl rfl ?_
        refine r_iald (j := k) dX0_moved_17 hC.2.2.1.2.2.2.2.2.2.2 (Co_la8 hC) rfl (by omega) (by decide) ?_
        refine r_bipush (v := 8) dX0_moved_18 (by decide) ?_
        refine r_icmp_eq (tgt := 41) dX0_moved_20 (by decide) (fun c_20 => ?_) (fun c_20 => ?_)
        · (try dsimp only [Gs_M] at c_20)
          refine r_iinc (v := nI (k + 1)) dX0_moved_41 rfl (nI_1 _) (by decide) ?_
          refine r_goto (tgt := 4) dX0_moved_44 (by decide) ?_
          exact PW.subL (ih (k + 1) _ ((Int32.add_zero set).symm.trans (movR_n (Or.inl c_20) hs)) (by omega) (by omega)) (by repeat' first | exact True.intro | refine And.intro rfl ?_)
        · (try dsimp only [Gs_M] at c_20)
          refine r_aload_n dX0_moved_23 rfl rfl ?_
          refine r_getR (q := (b + 8)) dX0_moved_24 (ci := 0) (kf := 11) hC.2.1 (Co_lt hC) (by decide) (by decide) rfl fl_X0_37 (Or.inl rfl) hC.2.2.2.2.2.2.2.2.2.2 ?_
          refine r_iload_n dX0_moved_27 rfl rfl ?_
          refine r_iald (j := k) dX0_moved_28 hC.2.2.1.2.2.2.2.2.2.2 (Co_la8 hC) rfl (by omega) (by decide) ?_
          refine r_aload_n dX0_moved_29 rfl rfl ?_
          refine r_getR (q := (b + 4)) dX0_moved_30 (ci := 0) (kf := 3) hC.2.1 (Co_lt hC) (by decide) (by decide) rfl fl_X0_21 (Or.inl rfl) hC.2.2.2.2.2.2.1 ?_
          refine r_iload_n dX0_moved_33 rfl rfl ?_
          refine r_iald (j := k) dX0_moved_34 hC.2.2.1.2.2.2.1 (Co_la4 hC) rfl (by omega) (by decide) ?_
          refine r_icmp_eq (tgt := 41) dX0_moved_35 (by decide) (fun c_35 => ?_) (fun c_35 => ?_)
          · (try dsimp only [Gs_M] at c_35)
            refine r_iinc (v := nI (k + 1)) dX0_moved_41 rfl (nI_1 _) (by decide) ?_
            refine r_goto (tgt := 4) dX0_moved_44 (by decide) ?_
            exact PW.subL (ih (k + 1) _ ((Int32.add_zero set).symm.trans (movR_n (Or.inr (by rw [vw_o (by omega)]; exact c_35)) hs)) (by omega) (by omega)) (by repeat' first | exact True.intro | refine And.intro rfl ?_)
          · (try dsimp only [Gs_M] at c_35)
            refine r_iinc dX0_moved_38 rfl rfl (by decide) ?_
            refine r_iinc (v := nI (k + 1)) dX0_moved_41 rfl (nI_1 _) (by decide) ?_
            refine r_goto (tgt := 4) dX0_moved_44 (by decide) ?_
            exact PW.subL (ih (k + 1) _ (movR_y c_20 (by rw [vw_o (by omega)]; exact c_35) hs) (by omega) (by omega)) (by repeat' first | exact True.intro | refine And.intro rfl ?_)
  refine r_iconst (v := 0) dX0_moved_0 (by decide) ?_
  refine r_istore_n dX0_moved_1 rfl (by decide) ?_
  refine r_iconst (v := 0) dX0_moved_2 (by decide) ?_
  refine r_istore_n dX0_moved_3 rfl (by decide) ?_
  exact PW.subL (lp (plR (vw S b) + 1) 0 0 rfl (by omega) (by omega)) (by repeat' first | exact True.intro | refine And.intro rfl ?_)
set_option maxRecDepth 20000 in
set_option maxHeartbeats 1000000 in
theorem s_X0_ownersOf (g : pG) {S : pS} {b : Nat} (hC : Co S b) (hI : InvR (vw S b)) (x : Int32) : MS g mX0_ownersOf 1 0 0 [.ref b, .int x] (S) (dI (ownersR (vw S b) x (plR (vw S b))) S) := by
  obtain ⟨h8, hpl⟩ := hI.pl
  have hpl : S.2.2.2 b 6 = nI (plR (vw S b)) := hpl
  refine MS.of pn_X0 (Nat.le_of_ble_eq_true rfl) ?_
  have lp : ∀ (j_ : Nat) (k : Nat) (set : Int32) (hs : set = ownersR (vw S b) x k) (hkn : k ≤ plR (vw S b)), plR (vw S b) - k < j_ → PW g mX0_ownersOf (eN g S.1 1 0 0 (dI (ownersR (vw S b) x (plR (vw S b))) S)) 4 [some (.ref b), some (.int x), some (.int set), some (.int (nI k))] [] (S) 0 0 := by
    intro j_
    induction j_ with
    | zero => intro k set hs hkn hj; exact absurd hj (Nat.not_lt_zero _)
    | succ j_ ih =>
      intro k set hs hkn hj
      refine r_iload_n dX0_ownersOf_4 rfl rfl ?_
      refine r_aload_n dX0_ownersOf_5 rfl rfl ?_
      refine r_getI dX0_ownersOf_6 (ci := 0) (kf := 6) hC.2.1 (Co_lt hC) (by decide) (by decide) rfl fl_X0_52 (Or.inl rfl) ?_
      rw [hpl]
      refine r_icmp_geN (k) (plR (vw S b)) (tgt := 34) dX0_ownersOf_9 (by decide) (by omega) (by omega) (fun c_9 => ?_) (fun c_9 => ?_)
      · (try dsimp only [Gs_M] at c_9)
        refine r_iload_n dX0_ownersOf_34 rfl rfl ?_
        refine r_iret dX0_ownersOf_35 rfl (Nat.le_refl _) ?_
        (try dsimp only [Gs_M])
        obtain rfl : k = plR (vw S b) := by omega
        exact dI_e hs
      · (try dsimp only [Gs_M] at c_9)
        refine r_aload_n dX0_ownersOf_12 rfl rfl ?_
        refine r_getR (q := (b + 4)) dX0_ownersOf_13 (ci := 0) (kf := 3) hC.2.1 (Co_lt hC) (by decide) (by decide) rfl fl_X0_21 (Or.inl rfl) hC.2.2.2.2.2.2.1 ?_
        refine r_iload_n dX0_ownersOf_16 rfl rfl ?_
        refine r_iald (j := k) dX0_ownersOf_17 hC.2.2.1.2.2.2.1 (Co_la4 hC) rfl (by omega) (by decide) ?_
        refine r_iload_n dX0_ownersOf_18 rfl rfl ?_
        refine r_icmp_ne (tgt := 28) dX0_ownersOf_19 (by decide) (fun c_19 => ?_) (fun c_19 => ?_)
        · (try dsimp only [Gs_M] at c_19)
          refine r_iinc (v := nI (k + 1)) dX0_ownersOf_28 rfl (nI_1 _) (by decide) ?_
          refine r_goto (tgt := 4) dX0_ownersOf_31 (by decide) ?_
          exact PW.subL (ih (k + 1) _ ((Int32.or_zero (a := set)).symm.trans (ownersR_n (by rw [vw_o (by omega)]; exact c_19) hs)) (by omega) (by omega)) (by repeat' first | exact True.intro | refine And.intro rfl ?_)
        · (try dsimp only [Gs_M] at c_19)
          refine r_iload_n dX0_ownersOf_22 rfl rfl ?_
          refine r_iconst (v := 1) dX0_ownersOf_23 (by decide) ?_
          refine r_iload_n dX0_ownersOf_24 rfl rfl ?_
          refine r_ishl dX0_ownersOf_25 ?_
          refine r_ior dX0_ownersOf_26 ?_
          refine r_istore_n dX0_ownersOf_27 rfl (by decide) ?_
          refine r_iinc (v := nI (k + 1)) dX0_ownersOf_28 rfl (nI_1 _) (by decide) ?_
          refine r_goto (tgt := 4) dX0_ownersOf_31 (by decide) ?_
          exact PW.subL (ih (k + 1) _ (ownersR_y (by rw [vw_o (by omega)]; exact c_19) hs) (by omega) (by omega)) (by repeat' first | exact True.intro | refine And.intro rfl ?_)
  refine r_iconst (v := 0) dX0_ownersOf_0 (by decide) ?_
  refine r_istore_n dX0_ownersOf_1 rfl (by decide) ?_
  refine r_iconst (v := 0) dX0_ownersOf_2 (by decide) ?_
  refine r_istore_n dX0_ownersOf_3 rfl (by decide) ?_
  exact PW.subL (lp (plR (vw S b) + 1) 0 0 rfl (by omega) (by omega)) (by repeat' first | exact True.intro | refine And.intro rfl ?_)
