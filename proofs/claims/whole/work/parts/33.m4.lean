set_option maxRecDepth 20000 in
set_option maxHeartbeats 1000000 in
theorem s_X12_night1 (g : pG) {S : pS} (hS : sOk S) (hI : InvR (S.2.2.2 55)) : MS g mX12_night1 6 0 0 [.ref 54] (S) (eI (fun x S1 => x = showB ((S).2.2.2 55) ∧ kp [55, 59, 60] (S) S1 ∧ S1.2.2.2 55 = nightR ((S).2.2.2 55))) := by
  obtain ⟨M0, rfl⟩ := sOk_gs hS
  refine MS.of pn_X12 (Nat.le_of_ble_eq_true rfl) ?_
  refine r_aload_n dX12_night1_0 rfl rfl ?_
  refine r_callV_eI (ci := 12) dX12_night1_1 (s_X12_billShow g (by exact ⟨rfl, rfl, rfl⟩) hI) mf_X12_billShow mi_X12_billShow se_X12_X12_X12_billShow ml_X12_102 rfl rfl (Nat.le_of_ble_eq_true rfl) rfl (by decide) rfl (Nat.le_of_ble_eq_true rfl) ⟨(Nat.le_of_ble_eq_true rfl), (Nat.le_of_ble_eq_true rfl)⟩ ⟨(Nat.le_of_ble_eq_true rfl), (Nat.le_of_ble_eq_true rfl)⟩ (fun r_1 S_1 q_1 z_1 => ?_)
  obtain ⟨hx1, hk1, hc1⟩ := q_1
  obtain ⟨M1, rfl⟩ := sOk_gs hk1.1
  have e55 : M1 55 = M0 55 := hk1.2.1 55 (by decide) (by decide)
  have hI1 : InvR (M1 55) := e55 ▸ hI
  refine r_istore_n dX12_night1_4 rfl (by decide) ?_
  refine r_iconst (v := 0) dX12_night1_5 (by decide) ?_
  refine r_istore_n dX12_night1_6 rfl (by decide) ?_
  have lp : ∀ (j_ : Nat) (k : Nat) (S1 : pS) (hk : kp [55] (Gs M1) S1) (hv : S1.2.2.2 55 = nitR (M1 55) (M1 60) k) (hkn : k ≤ plR (M1 55)), plR (M1 55) - k < j_ → PW g mX12_night1 (eN g (Gs M0).1 6 0 0 (eI (fun x S1 => x = showB ((Gs M0).2.2.2 55) ∧ kp [55, 59, 60] (Gs M0) S1 ∧ S1.2.2.2 55 = nightR ((Gs M0).2.2.2 55)))) 7 [some (.ref 54), some (.int r_1), some (.int (nI k))] [] (S1) 0 0 := by
    intro j_
    induction j_ with
    | zero => intro k S1 hk hv hkn hj; exact absurd hj (Nat.not_lt_zero _)
    | succ j_ ih =>
      intro k S1 hk hv hkn hj
      obtain ⟨M, rfl⟩ := sOk_gs hk.1
      have e60 : M 60 = M1 60 := hk.2.1 60 (by decide) (by decide)
      have hv2 : M 55 = nitR (M1 55) (M1 60) k := hv
      have h6 : M 55 6 = nI (plR (M1 55)) := by rw [hv2, nitR_ne k (fun j f _ h1 h2 => by omega)]; exact hI1.pl.2
      have h8 := hI1.pl.1
      refine r_iload_n dX12_night1_7 rfl rfl ?_
      refine r_aload_n dX12_night1_8 rfl rfl ?_
      refine r_getR (q := 55) dX12_night1_9 (ci := 12) (kf := 0) rfl (Nat.le_of_ble_eq_true rfl) (by decide) (by decide) rfl fl_X12_9 (Or.inl rfl) rfl ?_
      refine r_bipush (v := 6) dX12_night1_12 (by decide) ?_
      refine r_iald (j := 6) dX12_night1_14 rfl (Nat.le_of_ble_eq_true rfl) rfl (by decide) (by decide) ?_
      rw [show (Gs M).2.2.2 55 6 = nI (plR (M1 55)) from h6]
      refine r_icmp_geN (k) (plR (M1 55)) (tgt := 56) dX12_night1_15 (by decide) (by omega) (by omega) (fun c_15 => ?_) (fun c_15 => ?_)
      · refine r_aload_n dX12_night1_56 rfl rfl ?_
        refine r_getR (q := 55) dX12_night1_57 (ci := 12) (kf := 0) rfl (Nat.le_of_ble_eq_true rfl) (by decide) (by decide) rfl fl_X12_9 (Or.inl rfl) rfl ?_
        refine r_bipush (v := 7) dX12_night1_60 (by decide) ?_
        refine r_dup2 dX12_night1_62 rfl rfl ?_
        refine r_iald (j := 7) dX12_night1_63 rfl (Nat.le_of_ble_eq_true rfl) rfl (by decide) (by decide) ?_
        refine r_iload_n dX12_night1_64 rfl rfl ?_
        refine r_iadd dX12_night1_65 ?_
        refine r_iast (j := 7) dX12_night1_66 rfl (Nat.le_of_ble_eq_true rfl) rfl (by decide) (by decide) ?_
        refine r_aload_n dX12_night1_67 rfl rfl ?_
        refine r_getR (q := 55) dX12_night1_68 (ci := 12) (kf := 0) rfl (Nat.le_of_ble_eq_true rfl) (by decide) (by decide) rfl fl_X12_9 (Or.inl rfl) rfl ?_
        refine r_iconst (v := 0) dX12_night1_71 (by decide) ?_
        refine r_dup2 dX12_night1_72 rfl rfl ?_
        refine r_iald (j := 0) dX12_night1_73 rfl (Nat.le_of_ble_eq_true rfl) rfl (by decide) (by decide) ?_
        refine r_iconst (v := 1) dX12_night1_74 (by decide) ?_
        refine r_iadd dX12_night1_75 ?_
        refine r_iast (j := 0) dX12_night1_76 rfl (Nat.le_of_ble_eq_true rfl) rfl (by decide) (by decide) ?_
        refine r_iload_n dX12_night1_77 rfl rfl ?_
        refine r_iret dX12_night1_78 rfl (Nat.le_refl _) ?_
        refine ⟨_, rfl, hx1, ?_, ?_⟩
        · exact (hk1.mono (by decide)).tr (((hk.mono (by decide)).set (by decide) (by decide)).set (by decide) (by decide))
        · simp only [mSet_at]; exact nightR_of e55 (fun x hx => (hc1 x hx).2) hI hv2 (by omega) hx1
      · refine r_aload_n dX12_night1_18 rfl rfl ?_
        refine r_iload_n dX12_night1_19 rfl rfl ?_
        refine r_callV_eV (ci := 12) dX12_night1_20 (s_X12_remembers g (by exact ⟨rfl, rfl, rfl⟩) (k) (by omega)) mf_X12_remembers mi_X12_remembers se_X12_X12_X12_remembers ml_X12_105 rfl rfl (Nat.le_of_ble_eq_true rfl) rfl (by decide) rfl (Nat.le_of_ble_eq_true rfl) ⟨(Nat.le_of_ble_eq_true rfl), (Nat.le_of_ble_eq_true rfl)⟩ ⟨(Nat.le_of_ble_eq_true rfl), (Nat.le_of_ble_eq_true rfl)⟩ (fun S_20 q_20 z_20 => ?_)
        obtain ⟨hk2, hv3⟩ := q_20
        obtain ⟨M2, rfl⟩ := sOk_gs hk2.1
        have hv4 : M2 55 = remR (M 55) (M1 60) k 8 := by rw [← e60]; exact hv3
        refine r_aload_n dX12_night1_23 rfl rfl ?_
        refine r_iload_n dX12_night1_24 rfl rfl ?_
        refine r_iconst (v := 2) dX12_night1_25 (by decide) ?_
        refine r_aload_n dX12_night1_26 rfl rfl ?_
        refine r_iload_n dX12_night1_27 rfl rfl ?_
        refine r_iconst (v := 2) dX12_night1_28 (by decide) ?_
        refine r_callV_dI (ci := 12) dX12_night1_29 (s_X12_get g (by exact ⟨rfl, rfl, rfl⟩) (k) (2) (by omega) (by omega)) mf_X12_get mi_X12_get se_X12_X12_X12_get ml_X12_67 rfl rfl (Nat.le_of_ble_eq_true rfl) rfl (by decide) rfl (Nat.le_of_ble_eq_true rfl) ⟨(Nat.le_of_ble_eq_true rfl), (Nat.le_of_ble_eq_true rfl)⟩ ⟨(Nat.le_of_ble_eq_true rfl), (Nat.le_of_ble_eq_true rfl)⟩ ?_
        refine r_if_le (tgt := 46) dX12_night1_32 (by decide) (fun c_32 => ?_) (fun c_32 => ?_)
        · refine r_iconst (v := 0) dX12_night1_46 (by decide) ?_
          refine r_callV_dV (ci := 12) dX12_night1_47 (s_X12_puts g (by exact ⟨rfl, rfl, rfl⟩) (k) (2) (by omega) (by omega) _) mf_X12_puts mi_X12_puts se_X12_X12_X12_puts ml_X12_88 rfl rfl (Nat.le_of_ble_eq_true rfl) rfl (by decide) rfl (Nat.le_of_ble_eq_true rfl) ⟨(Nat.le_of_ble_eq_true rfl), (Nat.le_of_ble_eq_true rfl)⟩ ⟨(Nat.le_of_ble_eq_true rfl), (Nat.le_of_ble_eq_true rfl)⟩ ?_
          refine r_iinc (v := nI (k + 1)) dX12_night1_50 rfl (nI_1 _) (by decide) ?_
          refine r_goto (tgt := 7) dX12_night1_53 (by decide) ?_
          refine PW.subL (ih (k + 1) _ ?_ ?_ (by omega) (by omega)) (by repeat' first | exact True.intro | refine And.intro rfl ?_)
          · exact (hk.tr hk2).set (by decide) (by decide)
          · rw [mSet_at]; exact nitR_n hv2 hv4 c_32
        · refine r_aload_n dX12_night1_35 rfl rfl ?_
          refine r_iload_n dX12_night1_36 rfl rfl ?_
          refine r_iconst (v := 2) dX12_night1_37 (by decide) ?_
          refine r_callV_dI (ci := 12) dX12_night1_38 (s_X12_get g (by exact ⟨rfl, rfl, rfl⟩) (k) (2) (by omega) (by omega)) mf_X12_get mi_X12_get se_X12_X12_X12_get ml_X12_67 rfl rfl (Nat.le_of_ble_eq_true rfl) rfl (by decide) rfl (Nat.le_of_ble_eq_true rfl) ⟨(Nat.le_of_ble_eq_true rfl), (Nat.le_of_ble_eq_true rfl)⟩ ⟨(Nat.le_of_ble_eq_true rfl), (Nat.le_of_ble_eq_true rfl)⟩ ?_
          refine r_iconst (v := 1) dX12_night1_41 (by decide) ?_
          refine r_isub dX12_night1_42 ?_
          refine r_goto (tgt := 47) dX12_night1_43 (by decide) ?_
          refine r_callV_dV (ci := 12) dX12_night1_47 (s_X12_puts g (by exact ⟨rfl, rfl, rfl⟩) (k) (2) (by omega) (by omega) _) mf_X12_puts mi_X12_puts se_X12_X12_X12_puts ml_X12_88 rfl rfl (Nat.le_of_ble_eq_true rfl) rfl (by decide) rfl (Nat.le_of_ble_eq_true rfl) ⟨(Nat.le_of_ble_eq_true rfl), (Nat.le_of_ble_eq_true rfl)⟩ ⟨(Nat.le_of_ble_eq_true rfl), (Nat.le_of_ble_eq_true rfl)⟩ ?_
          refine r_iinc (v := nI (k + 1)) dX12_night1_50 rfl (nI_1 _) (by decide) ?_
          refine r_goto (tgt := 7) dX12_night1_53 (by decide) ?_
          refine PW.subL (ih (k + 1) _ ?_ ?_ (by omega) (by omega)) (by repeat' first | exact True.intro | refine And.intro rfl ?_)
          · exact (hk.tr hk2).set (by decide) (by decide)
          · rw [mSet_at]; exact nitR_y hv2 hv4 c_32
  exact PW.subL (lp (plR (M1 55) + 1) 0 _ (kp.rf hk1.1) rfl (by omega) (by omega)) (by repeat' first | exact True.intro | refine And.intro rfl ?_)
set_option maxRecDepth 20000 in
set_option maxHeartbeats 1000000 in
theorem s_X12_holds (g : pG) {S : pS} (hS : sOk S) : MS g mX12_holds 2 0 0 [.ref 54] (S) (dV (mSet S 55 7 (heldR (S.2.2.2 55 7) 999999))) := by
  obtain ⟨M, rfl⟩ := sOk_gs hS
  refine MS.of pn_X12 (Nat.le_of_ble_eq_true rfl) ?_
  refine r_aload_n dX12_holds_0 rfl rfl ?_
  refine r_getR (q := 55) dX12_holds_1 (ci := 12) (kf := 0) rfl (Nat.le_of_ble_eq_true rfl) (by decide) (by decide) rfl fl_X12_9 (Or.inl rfl) rfl ?_
  refine r_bipush (v := 7) dX12_holds_4 (by decide) ?_
  refine r_aload_n dX12_holds_6 rfl rfl ?_
  refine r_getR (q := 55) dX12_holds_7 (ci := 12) (kf := 0) rfl (Nat.le_of_ble_eq_true rfl) (by decide) (by decide) rfl fl_X12_9 (Or.inl rfl) rfl ?_
  refine r_bipush (v := 7) dX12_holds_10 (by decide) ?_
  refine r_iald (j := 7) dX12_holds_12 rfl (Nat.le_of_ble_eq_true rfl) rfl (by decide) (by decide) ?_
  refine r_ldc dX12_holds_13 kc_X12_109 ?_
  refine r_callS_dI dX12_holds_15 (s_X12_held g _ _ _) mf_X12_held mt_X12_held ml_X12_85 rfl rfl (Nat.le_of_ble_eq_true rfl) ⟨(Nat.le_of_ble_eq_true rfl), (Nat.le_of_ble_eq_true rfl)⟩ ⟨(Nat.le_of_ble_eq_true rfl), (Nat.le_of_ble_eq_true rfl)⟩ ?_
  refine r_iast (j := 7) dX12_holds_18 rfl (Nat.le_of_ble_eq_true rfl) rfl (by decide) (by decide) ?_
  refine r_vret dX12_holds_19 rfl (Nat.le_refl _) ?_
  exact ⟨rfl, rfl⟩
set_option maxRecDepth 20000 in
set_option maxHeartbeats 1000000 in
theorem s_X12_goes (g : pG) {S : pS} (hS : sOk S) (hI : InvR (S.2.2.2 55)) (n : Nat) (hn : n < 1000) : MS g mX12_goes 7 0 0 [.ref 54, .int (nI n)] (S) (eV (fun S1 => kp [55, 59, 60] (S) S1 ∧ S1.2.2.2 55 = goR ((S).2.2.2 55) n)) := by
  obtain ⟨M0, rfl⟩ := sOk_gs hS
  refine MS.of pn_X12 (Nat.le_of_ble_eq_true rfl) ?_
  have lp : ∀ (j_ : Nat) (i : Nat) (S1 : pS) (hk : kp [55, 59, 60] (Gs M0) S1) (hv : S1.2.2.2 55 = goR (M0 55) i) (hi : i ≤ n), n - i < j_ → PW g mX12_goes (eN g (Gs M0).1 7 0 0 (eV (fun S1 => kp [55, 59, 60] (Gs M0) S1 ∧ S1.2.2.2 55 = goR ((Gs M0).2.2.2 55) n))) 2 [some (.ref 54), some (.int (nI n)), some (.int (nI i))] [] (S1) 0 0 := by
    intro j_
    induction j_ with
    | zero => intro i S1 hk hv hi hj; exact absurd hj (Nat.not_lt_zero _)
    | succ j_ ih =>
      intro i S1 hk hv hi hj
      obtain ⟨M, rfl⟩ := sOk_gs hk.1
      have hv2 : M 55 = goR (M0 55) i := hv
      have hI1 : InvR (M 55) := hv2 ▸ goR_inv hI i
      refine r_iload_n dX12_goes_2 rfl rfl ?_
      refine r_iload_n dX12_goes_3 rfl rfl ?_
      refine r_icmp_geN (i) (n) (tgt := 21) dX12_goes_4 (by decide) (by omega) (by omega) (fun c_4 => ?_) (fun c_4 => ?_)
      · refine r_vret dX12_goes_21 rfl (Nat.le_refl _) ?_
        obtain rfl : i = n := by omega
        exact ⟨rfl, hk, hv⟩
      · refine r_aload_n dX12_goes_7 rfl rfl ?_
        refine r_aload_n dX12_goes_8 rfl rfl ?_
        refine r_callV_eI (ci := 12) dX12_goes_9 (s_X12_night1 g (by exact ⟨rfl, rfl, rfl⟩) hI1) mf_X12_night1 mi_X12_night1 se_X12_X12_X12_night1 ml_X12_110 rfl rfl (Nat.le_of_ble_eq_true rfl) rfl (by decide) rfl (Nat.le_of_ble_eq_true rfl) ⟨(Nat.le_of_ble_eq_true rfl), (Nat.le_of_ble_eq_true rfl)⟩ ⟨(Nat.le_of_ble_eq_true rfl), (Nat.le_of_ble_eq_true rfl)⟩ (fun r_9 S_9 q_9 z_9 => ?_)
        obtain ⟨hx9, hk9, hv9⟩ := q_9
        obtain ⟨M2, rfl⟩ := sOk_gs hk9.1
        have hv10 : M2 55 = nightR (M 55) := hv9
        refine r_putI dX12_goes_12 (ci := 12) (kf := 7) rfl (Nat.le_of_ble_eq_true rfl) (by decide) (by decide) rfl fl_X12_113 (Or.inl rfl) rfl rfl rfl ?_
        refine r_iinc (v := nI (i + 1)) dX12_goes_15 rfl (nI_1 _) (by decide) ?_
        refine r_goto (tgt := 2) dX12_goes_18 (by decide) ?_
        refine PW.subL (ih (i + 1) _ ?_ ?_ (by omega) (by omega)) (by repeat' first | exact True.intro | refine And.intro rfl ?_)
        · exact (hk.tr hk9).set7
        · rw [mSet_ne (by decide)]; rw [goR, ← hv2]; exact hv10
  refine r_iconst (v := 0) dX12_goes_0 (by decide) ?_
  refine r_istore_n dX12_goes_1 rfl (by decide) ?_
  exact PW.subL (lp (n + 1) 0 _ (kp.rf hS) rfl (by omega) (by omega)) (by repeat' first | exact True.intro | refine And.intro rfl ?_)
set_option maxRecDepth 20000 in
set_option maxHeartbeats 1000000 in
theorem s_X12_illNow (g : pG) {S : pS} (hS : sOk S) (hI : InvR (S.2.2.2 55)) : MS g mX12_illNow 2 0 0 [.ref 54] (S) (dI (illR ((S).2.2.2 55) (plR ((S).2.2.2 55))) (S)) := by
  obtain ⟨M, rfl⟩ := sOk_gs hS
  have h8 : plR (M 55) ≤ 8 := hI.pl.1
  refine MS.of pn_X12 (Nat.le_of_ble_eq_true rfl) ?_
  have lp : ∀ (j_ : Nat) (k : Nat) (set : Int32) (hs : set = illR (M 55) k) (hkn : k ≤ plR (M 55)), plR (M 55) - k < j_ → PW g mX12_illNow (eN g (Gs M).1 2 0 0 (dI (illR ((Gs M).2.2.2 55) (plR ((Gs M).2.2.2 55))) (Gs M))) 4 [some (.ref 54), some (.int set), some (.int (nI k))] [] (Gs M) 0 0 := by
    intro j_
    induction j_ with
    | zero => intro k set hs hkn hj; exact absurd hj (Nat.not_lt_zero _)
    | succ j_ ih =>
      intro k set hs hkn hj
      refine r_iload_n dX12_illNow_4 rfl rfl ?_
      refine r_aload_n dX12_illNow_5 rfl rfl ?_
      refine r_getR (q := 55) dX12_illNow_6 (ci := 12) (kf := 0) rfl (Nat.le_of_ble_eq_true rfl) (by decide) (by decide) rfl fl_X12_9 (Or.inl rfl) rfl ?_
      refine r_bipush (v := 6) dX12_illNow_9 (by decide) ?_
      refine r_iald (j := 6) dX12_illNow_11 rfl (Nat.le_of_ble_eq_true rfl) rfl (by decide) (by decide) ?_
      rw [show (Gs M).2.2.2 55 6 = nI (plR (M 55)) from hI.pl.2]
      refine r_icmp_geN (k) (plR (M 55)) (tgt := 40) dX12_illNow_12 (by decide) (by omega) (by omega) (fun c_12 => ?_) (fun c_12 => ?_)
      · refine r_iload_n dX12_illNow_40 rfl rfl ?_
        refine r_iret dX12_illNow_41 rfl (Nat.le_refl _) ?_
        obtain rfl : k = plR (M 55) := by omega
        exact dI_e hs
      · refine r_iload_n dX12_illNow_15 rfl rfl ?_
        refine r_aload_n dX12_illNow_16 rfl rfl ?_
        refine r_iload_n dX12_illNow_17 rfl rfl ?_
        refine r_iconst (v := 2) dX12_illNow_18 (by decide) ?_
        refine r_callV_dI (ci := 12) dX12_illNow_19 (s_X12_get g (by exact ⟨rfl, rfl, rfl⟩) (k) (2) (by omega) (by omega)) mf_X12_get mi_X12_get se_X12_X12_X12_get ml_X12_67 rfl rfl (Nat.le_of_ble_eq_true rfl) rfl (by decide) rfl (Nat.le_of_ble_eq_true rfl) ⟨(Nat.le_of_ble_eq_true rfl), (Nat.le_of_ble_eq_true rfl)⟩ ⟨(Nat.le_of_ble_eq_true rfl), (Nat.le_of_ble_eq_true rfl)⟩ ?_
        refine r_if_le (tgt := 31) dX12_illNow_22 (by decide) (fun c_22 => ?_) (fun c_22 => ?_)
        · refine r_iconst (v := 0) dX12_illNow_31 (by decide) ?_
          refine r_ior dX12_illNow_32 ?_
          refine r_istore_n dX12_illNow_33 rfl (by decide) ?_
          refine r_iinc (v := nI (k + 1)) dX12_illNow_34 rfl (nI_1 _) (by decide) ?_
          refine r_goto (tgt := 4) dX12_illNow_37 (by decide) ?_
          exact PW.subL (ih (k + 1) _ (illR_n c_22 hs) (by omega) (by omega)) (by repeat' first | exact True.intro | refine And.intro rfl ?_)
        · refine r_iconst (v := 1) dX12_illNow_25 (by decide) ?_
          refine r_iload_n dX12_illNow_26 rfl rfl ?_
          refine r_ishl dX12_illNow_27 ?_
          refine r_goto (tgt := 32) dX12_illNow_28 (by decide) ?_
          refine r_ior dX12_illNow_32 ?_
          refine r_istore_n dX12_illNow_33 rfl (by decide) ?_
          refine r_iinc (v := nI (k + 1)) dX12_illNow_34 rfl (nI_1 _) (by decide) ?_
          refine r_goto (tgt := 4) dX12_illNow_37 (by decide) ?_
          exact PW.subL (ih (k + 1) _ (illR_y c_22 hs) (by omega) (by omega)) (by repeat' first | exact True.intro | refine And.intro rfl ?_)
  refine r_iconst (v := 0) dX12_illNow_0 (by decide) ?_
  refine r_istore_n dX12_illNow_1 rfl (by decide) ?_
  refine r_iconst (v := 0) dX12_illNow_2 (by decide) ?_
  refine r_istore_n dX12_illNow_3 rfl (by decide) ?_
  exact PW.subL (lp (plR (M 55) + 1) 0 0 rfl (by omega) (by omega)) (by repeat' first | exact True.intro | refine And.intro rfl ?_)
set_option maxRecDepth 20000 in
set_option maxHeartbeats 1000000 in
theorem s_X12_ownersOf (g : pG) {S : pS} (hS : sOk S) (hI : InvR (S.2.2.2 55)) (x : Int32) : MS g mX12_ownersOf 2 0 0 [.ref 54, .int x] (S) (dI (ownersR ((S).2.2.2 55) x (plR ((S).2.2.2 55))) (S)) := by
  obtain ⟨M, rfl⟩ := sOk_gs hS
  have h8 : plR (M 55) ≤ 8 := hI.pl.1
  refine MS.of pn_X12 (Nat.le_of_ble_eq_true rfl) ?_
  have lp : ∀ (j_ : Nat) (k : Nat) (set : Int32) (hs : set = ownersR (M 55) x k) (hkn : k ≤ plR (M 55)), plR (M 55) - k < j_ → PW g mX12_ownersOf (eN g (Gs M).1 2 0 0 (dI (ownersR ((Gs M).2.2.2 55) x (plR ((Gs M).2.2.2 55))) (Gs M))) 4 [some (.ref 54), some (.int x), some (.int set), some (.int (nI k))] [] (Gs M) 0 0 := by
    intro j_
    induction j_ with
    | zero => intro k set hs hkn hj; exact absurd hj (Nat.not_lt_zero _)
    | succ j_ ih =>
      intro k set hs hkn hj
      refine r_iload_n dX12_ownersOf_4 rfl rfl ?_
      refine r_aload_n dX12_ownersOf_5 rfl rfl ?_
      refine r_getR (q := 55) dX12_ownersOf_6 (ci := 12) (kf := 0) rfl (Nat.le_of_ble_eq_true rfl) (by decide) (by decide) rfl fl_X12_9 (Or.inl rfl) rfl ?_
      refine r_bipush (v := 6) dX12_ownersOf_9 (by decide) ?_
      refine r_iald (j := 6) dX12_ownersOf_11 rfl (Nat.le_of_ble_eq_true rfl) rfl (by decide) (by decide) ?_
      rw [show (Gs M).2.2.2 55 6 = nI (plR (M 55)) from hI.pl.2]
      refine r_icmp_geN (k) (plR (M 55)) (tgt := 41) dX12_ownersOf_12 (by decide) (by omega) (by omega) (fun c_12 => ?_) (fun c_12 => ?_)
      · refine r_iload_n dX12_ownersOf_41 rfl rfl ?_
        refine r_iret dX12_ownersOf_42 rfl (Nat.le_refl _) ?_
        obtain rfl : k = plR (M 55) := by omega
        exact dI_e hs
      · refine r_iload_n dX12_ownersOf_15 rfl rfl ?_
        refine r_aload_n dX12_ownersOf_16 rfl rfl ?_
        refine r_iload_n dX12_ownersOf_17 rfl rfl ?_
        refine r_iconst (v := 1) dX12_ownersOf_18 (by decide) ?_
        refine r_callV_dI (ci := 12) dX12_ownersOf_19 (s_X12_get g (by exact ⟨rfl, rfl, rfl⟩) (k) (1) (by omega) (by omega)) mf_X12_get mi_X12_get se_X12_X12_X12_get ml_X12_67 rfl rfl (Nat.le_of_ble_eq_true rfl) rfl (by decide) rfl (Nat.le_of_ble_eq_true rfl) ⟨(Nat.le_of_ble_eq_true rfl), (Nat.le_of_ble_eq_true rfl)⟩ ⟨(Nat.le_of_ble_eq_true rfl), (Nat.le_of_ble_eq_true rfl)⟩ ?_
        refine r_iload_n dX12_ownersOf_22 rfl rfl ?_
        refine r_icmp_ne (tgt := 32) dX12_ownersOf_23 (by decide) (fun c_23 => ?_) (fun c_23 => ?_)
        · refine r_iconst (v := 0) dX12_ownersOf_32 (by decide) ?_
          refine r_ior dX12_ownersOf_33 ?_
          refine r_istore_n dX12_ownersOf_34 rfl (by decide) ?_
          refine r_iinc (v := nI (k + 1)) dX12_ownersOf_35 rfl (nI_1 _) (by decide) ?_
          refine r_goto (tgt := 4) dX12_ownersOf_38 (by decide) ?_
          exact PW.subL (ih (k + 1) _ (ownersR_n c_23 hs) (by omega) (by omega)) (by repeat' first | exact True.intro | refine And.intro rfl ?_)
        · refine r_iconst (v := 1) dX12_ownersOf_26 (by decide) ?_
          refine r_iload_n dX12_ownersOf_27 rfl rfl ?_
          refine r_ishl dX12_ownersOf_28 ?_
          refine r_goto (tgt := 33) dX12_ownersOf_29 (by decide) ?_
          refine r_ior dX12_ownersOf_33 ?_
          refine r_istore_n dX12_ownersOf_34 rfl (by decide) ?_
          refine r_iinc (v := nI (k + 1)) dX12_ownersOf_35 rfl (nI_1 _) (by decide) ?_
          refine r_goto (tgt := 4) dX12_ownersOf_38 (by decide) ?_
          exact PW.subL (ih (k + 1) _ (ownersR_y c_23 hs) (by omega) (by omega)) (by repeat' first | exact True.intro | refine And.intro rfl ?_)
  refine r_iconst (v := 0) dX12_ownersOf_0 (by decide) ?_
  refine r_istore_n dX12_ownersOf_1 rfl (by decide) ?_
  refine r_iconst (v := 0) dX12_ownersOf_2 (by decide) ?_
  refine r_istore_n dX12_ownersOf_3 rfl (by decide) ?_
  exact PW.subL (lp (plR (M 55) + 1) 0 0 rfl (by omega) (by omega)) (by repeat' first | exact True.intro | refine And.intro rfl ?_)
set_option maxRecDepth 20000 in
set_option maxHeartbeats 1000000 in
theorem s_X12_movedNow (g : pG) {S : pS} (hS : sOk S) (hI : InvR (S.2.2.2 55)) : MS g mX12_movedNow 5 0 0 [.ref 54] (S) (eI (fun x S1 => x = movR ((S).2.2.2 55) (rol ((S).2.2.2 55)) (plR ((S).2.2.2 55)) ∧ bilP (S) S1)) := by
  obtain ⟨M0, rfl⟩ := sOk_gs hS
  refine MS.of pn_X12 (Nat.le_of_ble_eq_true rfl) ?_
  refine r_aload_n dX12_movedNow_0 rfl rfl ?_
  refine r_callV_eV (ci := 12) dX12_movedNow_1 (s_X12_bills g (by exact ⟨rfl, rfl, rfl⟩) hI) mf_X12_bills mi_X12_bills se_X12_X12_X12_bills ml_X12_78 rfl rfl (Nat.le_of_ble_eq_true rfl) rfl (by decide) rfl (Nat.le_of_ble_eq_true rfl) ⟨(Nat.le_of_ble_eq_true rfl), (Nat.le_of_ble_eq_true rfl)⟩ ⟨(Nat.le_of_ble_eq_true rfl), (Nat.le_of_ble_eq_true rfl)⟩ (fun S_1 q_1 z_1 => ?_)
  obtain ⟨hk1, hc1⟩ := q_1
  obtain ⟨M1, rfl⟩ := sOk_gs hk1.1
  have e55 : M1 55 = M0 55 := hk1.2.1 55 (by decide) (by decide)
  have hI1 : InvR (M1 55) := e55 ▸ hI
  have h8 := hI1.pl.1
  refine r_iconst (v := 0) dX12_movedNow_4 (by decide) ?_
  refine r_istore_n dX12_movedNow_5 rfl (by decide) ?_
  refine r_iconst (v := 0) dX12_movedNow_6 (by decide) ?_
  refine r_istore_n dX12_movedNow_7 rfl (by decide) ?_
  have lp : ∀ (j_ : Nat) (k : Nat) (sum : Int32) (hs : sum = movR (M1 55) (M1 60) k) (hkn : k ≤ plR (M1 55)), plR (M1 55) - k < j_ → PW g mX12_movedNow (eN g (Gs M0).1 5 0 0 (eI (fun x S1 => x = movR ((Gs M0).2.2.2 55) (rol ((Gs M0).2.2.2 55)) (plR ((Gs M0).2.2.2 55)) ∧ bilP (Gs M0) S1))) 8 [some (.ref 54), some (.int sum), some (.int (nI k))] [] (Gs M1) 0 0 := by
    intro j_
    induction j_ with
    | zero => intro k sum hs hkn hj; exact absurd hj (Nat.not_lt_zero _)
    | succ j_ ih =>
      intro k sum hs hkn hj
      refine r_iload_n dX12_movedNow_8 rfl rfl ?_
      refine r_aload_n dX12_movedNow_9 rfl rfl ?_
      refine r_getR (q := 55) dX12_movedNow_10 (ci := 12) (kf := 0) rfl (Nat.le_of_ble_eq_true rfl) (by decide) (by decide) rfl fl_X12_9 (Or.inl rfl) rfl ?_
      refine r_bipush (v := 6) dX12_movedNow_13 (by decide) ?_
      refine r_iald (j := 6) dX12_movedNow_15 rfl (Nat.le_of_ble_eq_true rfl) rfl (by decide) (by decide) ?_
      rw [show (Gs M1).2.2.2 55 6 = nI (plR (M1 55)) from hI1.pl.2]
      refine r_icmp_geN (k) (plR (M1 55)) (tgt := 59) dX12_movedNow_16 (by decide) (by omega) (by omega) (fun c_16 => ?_) (fun c_16 => ?_)
      · refine r_iload_n dX12_movedNow_59 rfl rfl ?_
        refine r_iret dX12_movedNow_60 rfl (Nat.le_refl _) ?_
        obtain rfl : k = plR (M1 55) := by omega
        refine ⟨_, rfl, ?_, hk1, hc1⟩
        refine hs.trans ((movR_cong (fun x hx => (hc1 x hx).2) _ h8).trans ?_)
        show movR (M1 55) (rol (M0 55)) (plR (M1 55)) = _
        rw [e55]
        (try rfl)
      · refine r_iload_n dX12_movedNow_19 rfl rfl ?_
        refine r_aload_n dX12_movedNow_20 rfl rfl ?_
        refine r_getR (q := 60) dX12_movedNow_21 (ci := 12) (kf := 6) rfl (Nat.le_of_ble_eq_true rfl) (by decide) (by decide) rfl fl_X12_25 (Or.inl rfl) rfl ?_
        refine r_iload_n dX12_movedNow_24 rfl rfl ?_
        refine r_iald (j := k) dX12_movedNow_25 rfl (Nat.le_of_ble_eq_true rfl) rfl (by omega) (by decide) ?_
        refine r_bipush (v := 8) dX12_movedNow_26 (by decide) ?_
        refine r_icmp_eq (tgt := 50) dX12_movedNow_28 (by decide) (fun c_28 => ?_) (fun c_28 => ?_)
        · refine r_iconst (v := 0) dX12_movedNow_50 (by decide) ?_
          refine r_iadd dX12_movedNow_51 ?_
          refine r_istore_n dX12_movedNow_52 rfl (by decide) ?_
          refine r_iinc (v := nI (k + 1)) dX12_movedNow_53 rfl (nI_1 _) (by decide) ?_
          refine r_goto (tgt := 8) dX12_movedNow_56 (by decide) ?_
          exact PW.subL (ih (k + 1) _ (movR_n (Or.inl c_28) hs) (by omega) (by omega)) (by repeat' first | exact True.intro | refine And.intro rfl ?_)
        · refine r_aload_n dX12_movedNow_31 rfl rfl ?_
          refine r_getR (q := 60) dX12_movedNow_32 (ci := 12) (kf := 6) rfl (Nat.le_of_ble_eq_true rfl) (by decide) (by decide) rfl fl_X12_25 (Or.inl rfl) rfl ?_
          refine r_iload_n dX12_movedNow_35 rfl rfl ?_
          refine r_iald (j := k) dX12_movedNow_36 rfl (Nat.le_of_ble_eq_true rfl) rfl (by omega) (by decide) ?_
          refine r_aload_n dX12_movedNow_37 rfl rfl ?_
          refine r_iload_n dX12_movedNow_38 rfl rfl ?_
          refine r_iconst (v := 1) dX12_movedNow_39 (by decide) ?_
          refine r_callV_dI (ci := 12) dX12_movedNow_40 (s_X12_get g (by exact ⟨rfl, rfl, rfl⟩) (k) (1) (by omega) (by omega)) mf_X12_get mi_X12_get se_X12_X12_X12_get ml_X12_67 rfl rfl (Nat.le_of_ble_eq_true rfl) rfl (by decide) rfl (Nat.le_of_ble_eq_true rfl) ⟨(Nat.le_of_ble_eq_true rfl), (Nat.le_of_ble_eq_true rfl)⟩ ⟨(Nat.le_of_ble_eq_true rfl), (Nat.le_of_ble_eq_true rfl)⟩ ?_
          refine r_icmp_eq (tgt := 50) dX12_movedNow_43 (by decide) (fun c_43 => ?_) (fun c_43 => ?_)
          · refine r_iconst (v := 0) dX12_movedNow_50 (by decide) ?_
            refine r_iadd dX12_movedNow_51 ?_
            refine r_istore_n dX12_movedNow_52 rfl (by decide) ?_
            refine r_iinc (v := nI (k + 1)) dX12_movedNow_53 rfl (nI_1 _) (by decide) ?_
            refine r_goto (tgt := 8) dX12_movedNow_56 (by decide) ?_
            exact PW.subL (ih (k + 1) _ (movR_n (Or.inr c_43) hs) (by omega) (by omega)) (by repeat' first | exact True.intro | refine And.intro rfl ?_)
          · refine r_iconst (v := 1) dX12_movedNow_46 (by decide) ?_
            refine r_goto (tgt := 51) dX12_movedNow_47 (by decide) ?_
            refine r_iadd dX12_movedNow_51 ?_
            refine r_istore_n dX12_movedNow_52 rfl (by decide) ?_
            refine r_iinc (v := nI (k + 1)) dX12_movedNow_53 rfl (nI_1 _) (by decide) ?_
            refine r_goto (tgt := 8) dX12_movedNow_56 (by decide) ?_
            exact PW.subL (ih (k + 1) _ (movR_y c_28 c_43 hs) (by omega) (by omega)) (by repeat' first | exact True.intro | refine And.intro rfl ?_)
  exact PW.subL (lp (plR (M1 55) + 1) 0 0 rfl (by omega) (by omega)) (by repeat' first | exact True.intro | refine And.intro rfl ?_)
set_option maxRecDepth 20000 in
set_option maxHeartbeats 1000000 in
theorem s_X12_ones (g : pG) (n : Nat) (hn : n < 256) (S : pS) : MS g mX12_ones 1 0 0 [.int (nI n)] (S) (dI (nI (pcR 8 n)) S) := by
  refine MS.of pn_X12 (Nat.le_of_ble_eq_true rfl) ?_
  have lp : ∀ (j_ : Nat) (x c : Nat) (hc : c + pcR 8 x = pcR 8 n) (hx : x ≤ n), x < j_ → PW g mX12_ones (eN g S.1 1 0 0 (dI (nI (pcR 8 n)) S)) 4 [some (.int (nI n)), some (.int (nI c)), some (.int (nI x))] [] (S) 0 0 := by
    intro j_
    induction j_ with
    | zero => intro x c hc hx hj; exact absurd hj (Nat.not_lt_zero _)
    | succ j_ ih =>
      intro x c hc hx hj
      have hle := pcR_le n hn
      refine r_iload_n dX12_ones_4 rfl rfl ?_
      refine r_if_eq (tgt := 20) dX12_ones_5 (by decide) (fun c_5 => ?_) (fun c_5 => ?_)
      · have hx0 : x = 0 := (nI_eq (by omega) (by omega)).mp c_5
        subst hx0
        refine r_iload_n dX12_ones_20 rfl rfl ?_
        refine r_iret dX12_ones_21 rfl (Nat.le_refl _) ?_
        have e0 : pcR 8 0 = 0 := rfl
        obtain rfl : c = pcR 8 n := by omega
        exact ⟨rfl, rfl⟩
      · have hx0 : 0 < x := Nat.pos_of_ne_zero (fun z => c_5 (by rw [z]; rfl))
        refine r_iinc (v := nI (c + 1)) dX12_ones_8 rfl (nI_1 _) (by decide) ?_
        refine r_iload_n dX12_ones_11 rfl rfl ?_
        refine r_iload_n dX12_ones_12 rfl rfl ?_
        refine r_iconst (v := 1) dX12_ones_13 (by decide) ?_
        refine r_isubN (x) (1) dX12_ones_14 (by omega) ?_
        refine r_iand dX12_ones_15 ?_
        rw [nI_and (by omega) (by omega)]
        obtain ⟨p1, p2⟩ := pcR_step x (by omega) hx0
        refine r_istore_n dX12_ones_16 rfl (by decide) ?_
        refine r_goto (tgt := 4) dX12_ones_17 (by decide) ?_
        exact PW.subL (ih (x &&& (x - 1)) (c + 1) (by omega) (by omega) (by omega)) (by repeat' first | exact True.intro | refine And.intro rfl ?_)
  refine r_iconst (v := 0) dX12_ones_0 (by decide) ?_
  refine r_istore_n dX12_ones_1 rfl (by decide) ?_
  refine r_iload_n dX12_ones_2 rfl rfl ?_
  refine r_istore_n dX12_ones_3 rfl (by decide) ?_
  exact PW.subL (lp (n + 1) n 0 (by omega) (by omega) (by omega)) (by repeat' first | exact True.intro | refine And.intro rfl ?_)
set_option maxRecDepth 20000 in
set_option maxHeartbeats 1000000 in
theorem s_X12_draw (g : pG) {S : pS} (hS : sOk S) : MS g mX12_draw 1 0 0 [.ref 54] (S) (dI (nI (drawN (S.2.2.2 55 5))) (mSet S 55 5 (drawZ (S.2.2.2 55 5)))) := by
  obtain ⟨M, rfl⟩ := sOk_gs hS
  refine MS.of pn_X12 (Nat.le_of_ble_eq_true rfl) ?_
  refine r_aload_n dX12_draw_0 rfl rfl ?_
  refine r_getR (q := 55) dX12_draw_1 (ci := 12) (kf := 0) rfl (Nat.le_of_ble_eq_true rfl) (by decide) (by decide) rfl fl_X12_9 (Or.inl rfl) rfl ?_
  refine r_iconst (v := 5) dX12_draw_4 (by decide) ?_
  refine r_aload_n dX12_draw_5 rfl rfl ?_
  refine r_getR (q := 55) dX12_draw_6 (ci := 12) (kf := 0) rfl (Nat.le_of_ble_eq_true rfl) (by decide) (by decide) rfl fl_X12_9 (Or.inl rfl) rfl ?_
  refine r_iconst (v := 5) dX12_draw_9 (by decide) ?_
  refine r_iald (j := 5) dX12_draw_10 rfl (Nat.le_of_ble_eq_true rfl) rfl (by decide) (by decide) ?_
  refine r_ldc dX12_draw_11 kc_X12_196 ?_
  refine r_imul dX12_draw_13 ?_
  refine r_sipush (v := 12345) dX12_draw_14 (by decide) ?_
  refine r_iadd dX12_draw_17 ?_
  refine r_iast (j := 5) dX12_draw_18 rfl (Nat.le_of_ble_eq_true rfl) rfl (by decide) (by decide) ?_
  refine r_aload_n dX12_draw_19 rfl rfl ?_
  refine r_getR (q := 55) dX12_draw_20 (ci := 12) (kf := 0) rfl (Nat.le_of_ble_eq_true rfl) (by decide) (by decide) rfl fl_X12_9 (Or.inl rfl) rfl ?_
  refine r_iconst (v := 5) dX12_draw_23 (by decide) ?_
  refine r_iald (j := 5) dX12_draw_24 rfl (Nat.le_of_ble_eq_true rfl) rfl (by decide) (by decide) ?_
  refine r_bipush (v := 16) dX12_draw_25 (by decide) ?_
  refine r_iushr dX12_draw_27 rfl ?_
  refine r_iret dX12_draw_28 rfl (Nat.le_refl _) ?_
  rw [← drawV_n]
  refine dI_es ?_ rfl
  simp only [mSet_at, pk_us]
  rfl
set_option maxRecDepth 20000 in
set_option maxHeartbeats 1000000 in
theorem s_X12_copies (g : pG) {S : pS} {a b : Nat} (hab : a ≠ b) (ha : S.2.1 a = .inl (0, 104)) (hb : S.2.1 b = .inl (0, 104)) (hal : a < S.1) (hbl : b < S.1) : MS g mX12_copies 1 0 0 [.ref a, .ref b] (S) (dV (mArr S b (ovr (S.2.2.2 a) (S.2.2.2 b)))) := by
  refine MS.of pn_X12 (Nat.le_of_ble_eq_true rfl) ?_
  have lp : ∀ (j_ : Nat) (i : Nat) (f : Nat → Int32) (hf : f = fun x => if x < i then S.2.2.2 a x else S.2.2.2 b x) (hi : i ≤ 104), 104 - i < j_ → PW g mX12_copies (eN g S.1 1 0 0 (dV (mArr S b (ovr (S.2.2.2 a) (S.2.2.2 b))))) 2 [some (.ref a), some (.ref b), some (.int (nI i))] [] (mArr S b f) 0 0 := by
    intro j_
    induction j_ with
    | zero => intro i f hf hi hj; exact absurd hj (Nat.not_lt_zero _)
    | succ j_ ih =>
      intro i f hf hi hj
      refine r_iload_n dX12_copies_2 rfl rfl ?_
      refine r_bipush (v := 104) dX12_copies_3 (by decide) ?_
      refine r_icmp_geN (i) (104) (tgt := 20) dX12_copies_5 (by decide) (by omega) (by omega) (fun c_5 => ?_) (fun c_5 => ?_)
      · refine r_vret dX12_copies_20 rfl (Nat.le_refl _) ?_
        obtain rfl : i = 104 := by omega
        subst hf
        exact ⟨rfl, rfl⟩
      · refine r_aload_n dX12_copies_8 rfl rfl ?_
        refine r_iload_n dX12_copies_9 rfl rfl ?_
        refine r_aload_n dX12_copies_10 rfl rfl ?_
        refine r_iload_n dX12_copies_11 rfl rfl ?_
        refine r_iald (j := i) dX12_copies_12 ha hal rfl (by omega) (by decide) ?_
        refine r_iast (j := i) dX12_copies_13 hb hbl rfl (by omega) (by decide) ?_
        refine r_iinc (v := nI (i + 1)) dX12_copies_14 rfl (nI_1 _) (by decide) ?_
        refine r_goto (tgt := 2) dX12_copies_17 (by decide) ?_
        have e : mSet (mArr S b f) b i ((mArr S b f).2.2.2 a i) = mArr S b (upd f i (S.2.2.2 a i)) := by
          rw [mArr_ne hab]
          simp only [mSet, mArr]
          congr 3
          funext j
          by_cases z : j = b
          · simp [z]
          · simp [z]
        refine PW.subL (e ▸ ih (i + 1) _ ?_ (by omega) (by omega)) (by repeat' first | exact True.intro | refine And.intro rfl ?_)
        subst hf
        funext x
        unfold upd
        by_cases z : x = i
        · subst z; simp
        · have z2 : (x < i + 1) = (x < i) := by apply propext; omega
          simp only [z, z2, if_false]
  refine r_iconst (v := 0) dX12_copies_0 (by decide) ?_
  refine r_istore_n dX12_copies_1 rfl (by decide) ?_
  have e : S = mArr S b (fun x => if x < 0 then S.2.2.2 a x else S.2.2.2 b x) := by
    simp only [mArr, Nat.not_lt_zero, if_false]
    obtain ⟨s1, s2, s3, s4⟩ := S
    simp only
    congr 3
    funext j
    by_cases z : j = b
    · simp [z]
    · simp [z]
  have h0 := lp 105 0 _ rfl (by omega) (by omega)
  rw [← e] at h0
  exact PW.subL h0 (by repeat' first | exact True.intro | refine And.intro rfl ?_)
