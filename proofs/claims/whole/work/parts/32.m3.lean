set_option maxRecDepth 20000 in
set_option maxHeartbeats 1000000 in
theorem s_X12_showNow (g : pG) {S : pS} (hS : sOk S) (hc : cOk (S.2.2.2 59)) : MS g mX12_showNow 3 0 0 [.ref 54] (S) (dI (showR (S.2.2.2 55) (S.2.2.2 59) 8) S) := by
  obtain ⟨M, rfl⟩ := sOk_gs hS
  refine MS.of pn_X12 (Nat.le_of_ble_eq_true rfl) ?_
  have lp : ∀ (j_ : Nat) (p : Nat) (sum : Int32) (hs : sum = showR (M 55) (M 59) p) (hp : p ≤ 8), 8 - p < j_ → PW g mX12_showNow (eN g (Gs M).1 3 0 0 (dI (showR ((Gs M).2.2.2 55) ((Gs M).2.2.2 59) 8) (Gs M))) 4 [some (.ref 54), some (.int sum), some (.int (nI p))] [] (Gs M) 0 0 := by
    intro j_
    induction j_ with
    | zero => intro p sum hs hp hj; exact absurd hj (Nat.not_lt_zero _)
    | succ j_ ih =>
      intro p sum hs hp hj
      refine r_iload_n dX12_showNow_4 rfl rfl ?_
      refine r_bipush (v := 8) dX12_showNow_5 (by decide) ?_
      refine r_icmp_geN (p) (8) (tgt := 53) dX12_showNow_7 (by decide) (by omega) (by omega) (fun c_7 => ?_) (fun c_7 => ?_)
      · refine r_iload_n dX12_showNow_53 rfl rfl ?_
        refine r_iret dX12_showNow_54 rfl (Nat.le_refl _) ?_
        obtain rfl : p = 8 := by omega
        exact dI_e hs
      · refine r_iload_n dX12_showNow_10 rfl rfl ?_
        refine r_aload_n dX12_showNow_11 rfl rfl ?_
        refine r_getR (q := 59) dX12_showNow_12 (ci := 12) (kf := 5) rfl (Nat.le_of_ble_eq_true rfl) (by decide) (by decide) rfl fl_X12_22 (Or.inl rfl) rfl ?_
        refine r_iload_n dX12_showNow_15 rfl rfl ?_
        refine r_iald (j := p) dX12_showNow_16 rfl (Nat.le_of_ble_eq_true rfl) rfl (by omega) (by decide) ?_
        refine r_if_ge (tgt := 24) dX12_showNow_17 (by decide) (fun c_17 => ?_) (fun c_17 => ?_)
        · obtain ⟨b, hb, eb⟩ := (hc p (by omega)).resolve_left (fun e => absurd c_17 (by rw [show (Gs M).2.2.2 59 p = -1 from e]; decide))
          refine r_aload_n dX12_showNow_24 rfl rfl ?_
          refine r_getR (q := 55) dX12_showNow_25 (ci := 12) (kf := 0) rfl (Nat.le_of_ble_eq_true rfl) (by decide) (by decide) rfl fl_X12_9 (Or.inl rfl) rfl ?_
          refine r_bipush (v := 8) dX12_showNow_28 (by decide) ?_
          refine r_iload_n dX12_showNow_30 rfl rfl ?_
          refine r_iaddN (8) (p) dX12_showNow_31 ?_
          refine r_iald (j := (8 + p)) dX12_showNow_32 rfl (Nat.le_of_ble_eq_true rfl) rfl (by omega) (by decide) ?_
          refine r_aload_n dX12_showNow_33 rfl rfl ?_
          refine r_aload_n dX12_showNow_34 rfl rfl ?_
          refine r_getR (q := 59) dX12_showNow_35 (ci := 12) (kf := 5) rfl (Nat.le_of_ble_eq_true rfl) (by decide) (by decide) rfl fl_X12_22 (Or.inl rfl) rfl ?_
          refine r_iload_n dX12_showNow_38 rfl rfl ?_
          refine r_iald (j := p) dX12_showNow_39 rfl (Nat.le_of_ble_eq_true rfl) rfl (by omega) (by decide) ?_
          rw [show (Gs M).2.2.2 59 p = nI b from eb]
          refine r_iload_n dX12_showNow_40 rfl rfl ?_
          refine r_callV_dI (ci := 12) dX12_showNow_41 (s_X12_goodAt g (by exact ⟨rfl, rfl, rfl⟩) (b) (p) (by omega) (by omega)) mf_X12_goodAt mi_X12_goodAt se_X12_X12_X12_goodAt ml_X12_71 rfl rfl (Nat.le_of_ble_eq_true rfl) rfl (by decide) rfl (Nat.le_of_ble_eq_true rfl) ⟨(Nat.le_of_ble_eq_true rfl), (Nat.le_of_ble_eq_true rfl)⟩ ⟨(Nat.le_of_ble_eq_true rfl), (Nat.le_of_ble_eq_true rfl)⟩ ?_
          refine r_imul dX12_showNow_44 ?_
          refine r_iadd dX12_showNow_45 ?_
          refine r_istore_n dX12_showNow_46 rfl (by decide) ?_
          refine r_iinc (v := nI (p + 1)) dX12_showNow_47 rfl (nI_1 _) (by decide) ?_
          refine r_goto (tgt := 4) dX12_showNow_50 (by decide) ?_
          exact PW.subL (ih (p + 1) _ (showR_y c_17 eb hb hs) (by omega) (by omega)) (by repeat' first | exact True.intro | refine And.intro rfl ?_)
        · refine r_iconst (v := 0) dX12_showNow_20 (by decide) ?_
          refine r_goto (tgt := 45) dX12_showNow_21 (by decide) ?_
          refine r_iadd dX12_showNow_45 ?_
          refine r_istore_n dX12_showNow_46 rfl (by decide) ?_
          refine r_iinc (v := nI (p + 1)) dX12_showNow_47 rfl (nI_1 _) (by decide) ?_
          refine r_goto (tgt := 4) dX12_showNow_50 (by decide) ?_
          exact PW.subL (ih (p + 1) _ (showR_n c_17 hs) (by omega) (by omega)) (by repeat' first | exact True.intro | refine And.intro rfl ?_)
  refine r_iconst (v := 0) dX12_showNow_0 (by decide) ?_
  refine r_istore_n dX12_showNow_1 rfl (by decide) ?_
  refine r_iconst (v := 0) dX12_showNow_2 (by decide) ?_
  refine r_istore_n dX12_showNow_3 rfl (by decide) ?_
  exact PW.subL (lp 9 0 0 rfl (by omega) (by omega)) (by repeat' first | exact True.intro | refine And.intro rfl ?_)
set_option maxRecDepth 20000 in
set_option maxHeartbeats 1000000 in
theorem s_X12_billShow (g : pG) {S : pS} (hS : sOk S) (hI : InvR (S.2.2.2 55)) : MS g mX12_billShow 5 0 0 [.ref 54] (S) (eI (fun x S1 => x = showB (S.2.2.2 55) ∧ bilP S S1)) := by
  obtain ⟨M, rfl⟩ := sOk_gs hS
  refine MS.of pn_X12 (Nat.le_of_ble_eq_true rfl) ?_
  refine r_aload_n dX12_billShow_0 rfl rfl ?_
  refine r_callV_eV (ci := 12) dX12_billShow_1 (s_X12_bills g (by exact ⟨rfl, rfl, rfl⟩) hI) mf_X12_bills mi_X12_bills se_X12_X12_X12_bills ml_X12_78 rfl rfl (Nat.le_of_ble_eq_true rfl) rfl (by decide) rfl (Nat.le_of_ble_eq_true rfl) ⟨(Nat.le_of_ble_eq_true rfl), (Nat.le_of_ble_eq_true rfl)⟩ ⟨(Nat.le_of_ble_eq_true rfl), (Nat.le_of_ble_eq_true rfl)⟩ (fun S_1 q_1 z_1 => ?_)
  obtain ⟨hk1, hc1⟩ := q_1
  obtain ⟨M1, rfl⟩ := sOk_gs hk1.1
  have e55 : M1 55 = M 55 := hk1.2.1 55 (by decide) (by decide)
  refine r_aload_n dX12_billShow_4 rfl rfl ?_
  refine r_callV_dI (ci := 12) dX12_billShow_5 (s_X12_showNow g (by exact ⟨rfl, rfl, rfl⟩) (fun x hx => by rw [(hc1 x hx).1]; exact cst_ok hI x hx)) mf_X12_showNow mi_X12_showNow se_X12_X12_X12_showNow ml_X12_81 rfl rfl (Nat.le_of_ble_eq_true rfl) rfl (by decide) rfl (Nat.le_of_ble_eq_true rfl) ⟨(Nat.le_of_ble_eq_true rfl), (Nat.le_of_ble_eq_true rfl)⟩ ⟨(Nat.le_of_ble_eq_true rfl), (Nat.le_of_ble_eq_true rfl)⟩ ?_
  refine r_iret dX12_billShow_8 rfl (Nat.le_refl _) ?_
  refine ⟨_, rfl, ?_, hk1, hc1⟩
  show showR (M1 55) (M1 59) 8 = _
  rw [e55]
  exact showR_cong (fun x hx => (hc1 x hx).1) 8 (Nat.le_refl _)
set_option maxRecDepth 20000 in
set_option maxHeartbeats 1000000 in
theorem s_X12_cutNow (g : pG) {S : pS} (hS : sOk S) (hI : InvR (S.2.2.2 55)) : MS g mX12_cutNow 5 0 0 [.ref 54] (S) (eI (fun x S1 => x = cutR (cst ((S).2.2.2 55)) 8 ∧ bilP (S) S1)) := by
  obtain ⟨M, rfl⟩ := sOk_gs hS
  refine MS.of pn_X12 (Nat.le_of_ble_eq_true rfl) ?_
  refine r_aload_n dX12_cutNow_0 rfl rfl ?_
  refine r_callV_eV (ci := 12) dX12_cutNow_1 (s_X12_bills g (by exact ⟨rfl, rfl, rfl⟩) hI) mf_X12_bills mi_X12_bills se_X12_X12_X12_bills ml_X12_78 rfl rfl (Nat.le_of_ble_eq_true rfl) rfl (by decide) rfl (Nat.le_of_ble_eq_true rfl) ⟨(Nat.le_of_ble_eq_true rfl), (Nat.le_of_ble_eq_true rfl)⟩ ⟨(Nat.le_of_ble_eq_true rfl), (Nat.le_of_ble_eq_true rfl)⟩ (fun S_1 q_1 z_1 => ?_)
  obtain ⟨hk1, hc1⟩ := q_1
  obtain ⟨M1, rfl⟩ := sOk_gs hk1.1
  have e55 : M1 55 = M 55 := hk1.2.1 55 (by decide) (by decide)
  refine r_iconst (v := 0) dX12_cutNow_4 (by decide) ?_
  refine r_istore_n dX12_cutNow_5 rfl (by decide) ?_
  refine r_iconst (v := 0) dX12_cutNow_6 (by decide) ?_
  refine r_istore_n dX12_cutNow_7 rfl (by decide) ?_
  have lp : ∀ (j_ : Nat) (p : Nat) (set : Int32) (hs : set = cutR (M1 59) p) (hp : p ≤ 8), 8 - p < j_ → PW g mX12_cutNow (eN g (Gs M).1 5 0 0 (eI (fun x S1 => x = cutR (cst ((Gs M).2.2.2 55)) 8 ∧ bilP (Gs M) S1))) 8 [some (.ref 54), some (.int set), some (.int (nI p))] [] (Gs M1) 0 0 := by
    intro j_
    induction j_ with
    | zero => intro p set hs hp hj; exact absurd hj (Nat.not_lt_zero _)
    | succ j_ ih =>
      intro p set hs hp hj
      refine r_iload_n dX12_cutNow_8 rfl rfl ?_
      refine r_bipush (v := 8) dX12_cutNow_9 (by decide) ?_
      refine r_icmp_geN (p) (8) (tgt := 39) dX12_cutNow_11 (by decide) (by omega) (by omega) (fun c_11 => ?_) (fun c_11 => ?_)
      · refine r_iload_n dX12_cutNow_39 rfl rfl ?_
        refine r_iret dX12_cutNow_40 rfl (Nat.le_refl _) ?_
        obtain rfl : p = 8 := by omega
        exact ⟨_, rfl, hs.trans (cutR_cong (fun x hx => (hc1 x hx).1) 8 (Nat.le_refl _)), hk1, hc1⟩
      · refine r_iload_n dX12_cutNow_14 rfl rfl ?_
        refine r_aload_n dX12_cutNow_15 rfl rfl ?_
        refine r_getR (q := 59) dX12_cutNow_16 (ci := 12) (kf := 5) rfl (Nat.le_of_ble_eq_true rfl) (by decide) (by decide) rfl fl_X12_22 (Or.inl rfl) rfl ?_
        refine r_iload_n dX12_cutNow_19 rfl rfl ?_
        refine r_iald (j := p) dX12_cutNow_20 rfl (Nat.le_of_ble_eq_true rfl) rfl (by omega) (by decide) ?_
        refine r_if_ge (tgt := 30) dX12_cutNow_21 (by decide) (fun c_21 => ?_) (fun c_21 => ?_)
        · refine r_iconst (v := 0) dX12_cutNow_30 (by decide) ?_
          refine r_ior dX12_cutNow_31 ?_
          refine r_istore_n dX12_cutNow_32 rfl (by decide) ?_
          refine r_iinc (v := nI (p + 1)) dX12_cutNow_33 rfl (nI_1 _) (by decide) ?_
          refine r_goto (tgt := 8) dX12_cutNow_36 (by decide) ?_
          exact PW.subL (ih (p + 1) _ (cutR_n c_21 hs) (by omega) (by omega)) (by repeat' first | exact True.intro | refine And.intro rfl ?_)
        · refine r_iconst (v := 1) dX12_cutNow_24 (by decide) ?_
          refine r_iload_n dX12_cutNow_25 rfl rfl ?_
          refine r_ishl dX12_cutNow_26 ?_
          refine r_goto (tgt := 31) dX12_cutNow_27 (by decide) ?_
          refine r_ior dX12_cutNow_31 ?_
          refine r_istore_n dX12_cutNow_32 rfl (by decide) ?_
          refine r_iinc (v := nI (p + 1)) dX12_cutNow_33 rfl (nI_1 _) (by decide) ?_
          refine r_goto (tgt := 8) dX12_cutNow_36 (by decide) ?_
          exact PW.subL (ih (p + 1) _ (cutR_y c_21 hs) (by omega) (by omega)) (by repeat' first | exact True.intro | refine And.intro rfl ?_)
  exact PW.subL (lp 9 0 0 rfl (by omega) (by omega)) (by repeat' first | exact True.intro | refine And.intro rfl ?_)
set_option maxRecDepth 20000 in
set_option maxHeartbeats 1000000 in
theorem s_X12_moves (g : pG) {S : pS} (hS : sOk S) (a p : Nat) (ha : a < 8) (hp : p < 8) (v : Int32) : MS g mX12_moves 2 0 0 [.ref 54, .int (nI a), .int (nI p), .int v] (S) (dV (mSet S 55 (16 + 11 * a + (3 + p)) (heldR (S.2.2.2 55 (16 + 11 * a + (3 + p)) + v) 99))) := by
  obtain ⟨M, rfl⟩ := sOk_gs hS
  refine MS.of pn_X12 (Nat.le_of_ble_eq_true rfl) ?_
  refine r_aload_n dX12_moves_0 rfl rfl ?_
  refine r_iload_n dX12_moves_1 rfl rfl ?_
  refine r_iconst (v := 3) dX12_moves_2 (by decide) ?_
  refine r_iload_n dX12_moves_3 rfl rfl ?_
  refine r_iaddN (3) (p) dX12_moves_4 ?_
  refine r_aload_n dX12_moves_5 rfl rfl ?_
  refine r_iload_n dX12_moves_6 rfl rfl ?_
  refine r_iconst (v := 3) dX12_moves_7 (by decide) ?_
  refine r_iload_n dX12_moves_8 rfl rfl ?_
  refine r_iaddN (3) (p) dX12_moves_9 ?_
  refine r_callV_dI (ci := 12) dX12_moves_10 (s_X12_get g (by exact ⟨rfl, rfl, rfl⟩) (a) ((3 + p)) (by omega) (by omega)) mf_X12_get mi_X12_get se_X12_X12_X12_get ml_X12_67 rfl rfl (Nat.le_of_ble_eq_true rfl) rfl (by decide) rfl (Nat.le_of_ble_eq_true rfl) ⟨(Nat.le_of_ble_eq_true rfl), (Nat.le_of_ble_eq_true rfl)⟩ ⟨(Nat.le_of_ble_eq_true rfl), (Nat.le_of_ble_eq_true rfl)⟩ ?_
  refine r_iload_n dX12_moves_13 rfl rfl ?_
  refine r_iadd dX12_moves_14 ?_
  refine r_bipush (v := 99) dX12_moves_15 (by decide) ?_
  refine r_callS_dI dX12_moves_17 (s_X12_held g _ _ _) mf_X12_held mt_X12_held ml_X12_85 rfl rfl (Nat.le_of_ble_eq_true rfl) ⟨(Nat.le_of_ble_eq_true rfl), (Nat.le_of_ble_eq_true rfl)⟩ ⟨(Nat.le_of_ble_eq_true rfl), (Nat.le_of_ble_eq_true rfl)⟩ ?_
  refine r_callV_dV (ci := 12) dX12_moves_20 (s_X12_puts g (by exact ⟨rfl, rfl, rfl⟩) (a) ((3 + p)) (by omega) (by omega) _) mf_X12_puts mi_X12_puts se_X12_X12_X12_puts ml_X12_88 rfl rfl (Nat.le_of_ble_eq_true rfl) rfl (by decide) rfl (Nat.le_of_ble_eq_true rfl) ⟨(Nat.le_of_ble_eq_true rfl), (Nat.le_of_ble_eq_true rfl)⟩ ⟨(Nat.le_of_ble_eq_true rfl), (Nat.le_of_ble_eq_true rfl)⟩ ?_
  refine r_vret dX12_moves_23 rfl (Nat.le_refl _) ?_
  exact ⟨rfl, rfl⟩
set_option maxRecDepth 20000 in
set_option maxHeartbeats 1000000 in
theorem s_X12_remembers (g : pG) {S : pS} (hS : sOk S) (a : Nat) (ha : a < 8) : MS g mX12_remembers 3 0 0 [.ref 54, .int (nI a)] (S) (eV (fun S1 => kp [55] (S) S1 ∧ S1.2.2.2 55 = remR ((S).2.2.2 55) ((S).2.2.2 60) a 8)) := by
  obtain ⟨M0, rfl⟩ := sOk_gs hS
  refine MS.of pn_X12 (Nat.le_of_ble_eq_true rfl) ?_
  have lp : ∀ (j_ : Nat) (p : Nat) (S1 : pS) (hk : kp [55] (Gs M0) S1) (hv : S1.2.2.2 55 = remR (M0 55) (M0 60) a p) (hp : p ≤ 8), 8 - p < j_ → PW g mX12_remembers (eN g (Gs M0).1 3 0 0 (eV (fun S1 => kp [55] (Gs M0) S1 ∧ S1.2.2.2 55 = remR ((Gs M0).2.2.2 55) ((Gs M0).2.2.2 60) a 8))) 2 [some (.ref 54), some (.int (nI a)), some (.int (nI p))] [] (S1) 0 0 := by
    intro j_
    induction j_ with
    | zero => intro p S1 hk hv hp hj; exact absurd hj (Nat.not_lt_zero _)
    | succ j_ ih =>
      intro p S1 hk hv hp hj
      obtain ⟨M, rfl⟩ := sOk_gs hk.1
      have e60 : M 60 = M0 60 := hk.2.1 60 (by decide) (by decide)
      have hv2 : M 55 = remR (M0 55) (M0 60) a p := hv
      refine r_iload_n dX12_remembers_2 rfl rfl ?_
      refine r_bipush (v := 8) dX12_remembers_3 (by decide) ?_
      refine r_icmp_geN (p) (8) (tgt := 57) dX12_remembers_5 (by decide) (by omega) (by omega) (fun c_5 => ?_) (fun c_5 => ?_)
      · refine r_vret dX12_remembers_57 rfl (Nat.le_refl _) ?_
        obtain rfl : p = 8 := by omega
        exact ⟨rfl, hk, hv⟩
      · refine r_aload_n dX12_remembers_8 rfl rfl ?_
        refine r_iload_n dX12_remembers_9 rfl rfl ?_
        refine r_iload_n dX12_remembers_10 rfl rfl ?_
        refine r_aload_n dX12_remembers_11 rfl rfl ?_
        refine r_getR (q := 60) dX12_remembers_12 (ci := 12) (kf := 6) rfl (Nat.le_of_ble_eq_true rfl) (by decide) (by decide) rfl fl_X12_25 (Or.inl rfl) rfl ?_
        refine r_iload_n dX12_remembers_15 rfl rfl ?_
        refine r_iald (j := a) dX12_remembers_16 rfl (Nat.le_of_ble_eq_true rfl) rfl (by omega) (by decide) ?_
        refine r_iload_n dX12_remembers_17 rfl rfl ?_
        refine r_icmp_ne (tgt := 29) dX12_remembers_18 (by decide) (fun c_18 => ?_) (fun c_18 => ?_)
        · refine r_aload_n dX12_remembers_29 rfl rfl ?_
          refine r_iload_n dX12_remembers_30 rfl rfl ?_
          refine r_iconst (v := 2) dX12_remembers_31 (by decide) ?_
          refine r_callV_dI (ci := 12) dX12_remembers_32 (s_X12_get g (by exact ⟨rfl, rfl, rfl⟩) (a) (2) (by omega) (by omega)) mf_X12_get mi_X12_get se_X12_X12_X12_get ml_X12_67 rfl rfl (Nat.le_of_ble_eq_true rfl) rfl (by decide) rfl (Nat.le_of_ble_eq_true rfl) ⟨(Nat.le_of_ble_eq_true rfl), (Nat.le_of_ble_eq_true rfl)⟩ ⟨(Nat.le_of_ble_eq_true rfl), (Nat.le_of_ble_eq_true rfl)⟩ ?_
          refine r_if_ne (tgt := 47) dX12_remembers_35 (by decide) (fun c_35 => ?_) (fun c_35 => ?_)
          · refine r_iconst (v := 0) dX12_remembers_47 (by decide) ?_
            refine r_callV_dV (ci := 12) dX12_remembers_48 (s_X12_moves g (by exact ⟨rfl, rfl, rfl⟩) (a) (p) (by omega) (by omega) _) mf_X12_moves mi_X12_moves se_X12_X12_X12_moves ml_X12_99 rfl rfl (Nat.le_of_ble_eq_true rfl) rfl (by decide) rfl (Nat.le_of_ble_eq_true rfl) ⟨(Nat.le_of_ble_eq_true rfl), (Nat.le_of_ble_eq_true rfl)⟩ ⟨(Nat.le_of_ble_eq_true rfl), (Nat.le_of_ble_eq_true rfl)⟩ ?_
            refine r_iinc (v := nI (p + 1)) dX12_remembers_51 rfl (nI_1 _) (by decide) ?_
            refine r_goto (tgt := 2) dX12_remembers_54 (by decide) ?_
            refine PW.subL (ih (p + 1) _ ?_ ?_ (by omega) (by omega)) (by repeat' first | exact True.intro | refine And.intro rfl ?_)
            · exact hk.set (by decide) (by decide)
            · rw [mSet_at]
              exact remR_0 hv2 c_5 (congrFun e60 a) c_18 c_35
          · refine r_aload_n dX12_remembers_38 rfl rfl ?_
            refine r_iload_n dX12_remembers_39 rfl rfl ?_
            refine r_callV_dI (ci := 12) dX12_remembers_40 (s_X12_forgetsOf g (by exact ⟨rfl, rfl, rfl⟩) (a) (by omega)) mf_X12_forgetsOf mi_X12_forgetsOf se_X12_X12_X12_forgetsOf ml_X12_96 rfl rfl (Nat.le_of_ble_eq_true rfl) rfl (by decide) rfl (Nat.le_of_ble_eq_true rfl) ⟨(Nat.le_of_ble_eq_true rfl), (Nat.le_of_ble_eq_true rfl)⟩ ⟨(Nat.le_of_ble_eq_true rfl), (Nat.le_of_ble_eq_true rfl)⟩ ?_
            refine r_ineg dX12_remembers_43 ?_
            refine r_goto (tgt := 48) dX12_remembers_44 (by decide) ?_
            refine r_callV_dV (ci := 12) dX12_remembers_48 (s_X12_moves g (by exact ⟨rfl, rfl, rfl⟩) (a) (p) (by omega) (by omega) _) mf_X12_moves mi_X12_moves se_X12_X12_X12_moves ml_X12_99 rfl rfl (Nat.le_of_ble_eq_true rfl) rfl (by decide) rfl (Nat.le_of_ble_eq_true rfl) ⟨(Nat.le_of_ble_eq_true rfl), (Nat.le_of_ble_eq_true rfl)⟩ ⟨(Nat.le_of_ble_eq_true rfl), (Nat.le_of_ble_eq_true rfl)⟩ ?_
            refine r_iinc (v := nI (p + 1)) dX12_remembers_51 rfl (nI_1 _) (by decide) ?_
            refine r_goto (tgt := 2) dX12_remembers_54 (by decide) ?_
            refine PW.subL (ih (p + 1) _ ?_ ?_ (by omega) (by omega)) (by repeat' first | exact True.intro | refine And.intro rfl ?_)
            · exact hk.set (by decide) (by decide)
            · rw [mSet_at]
              exact remR_f hv2 c_5 (congrFun e60 a) c_18 c_35
        · refine r_aload_n dX12_remembers_21 rfl rfl ?_
          refine r_iload_n dX12_remembers_22 rfl rfl ?_
          refine r_callV_dI (ci := 12) dX12_remembers_23 (s_X12_learnsOf g (by exact ⟨rfl, rfl, rfl⟩) (a) (by omega)) mf_X12_learnsOf mi_X12_learnsOf se_X12_X12_X12_learnsOf ml_X12_92 rfl rfl (Nat.le_of_ble_eq_true rfl) rfl (by decide) rfl (Nat.le_of_ble_eq_true rfl) ⟨(Nat.le_of_ble_eq_true rfl), (Nat.le_of_ble_eq_true rfl)⟩ ⟨(Nat.le_of_ble_eq_true rfl), (Nat.le_of_ble_eq_true rfl)⟩ ?_
          refine r_goto (tgt := 48) dX12_remembers_26 (by decide) ?_
          refine r_callV_dV (ci := 12) dX12_remembers_48 (s_X12_moves g (by exact ⟨rfl, rfl, rfl⟩) (a) (p) (by omega) (by omega) _) mf_X12_moves mi_X12_moves se_X12_X12_X12_moves ml_X12_99 rfl rfl (Nat.le_of_ble_eq_true rfl) rfl (by decide) rfl (Nat.le_of_ble_eq_true rfl) ⟨(Nat.le_of_ble_eq_true rfl), (Nat.le_of_ble_eq_true rfl)⟩ ⟨(Nat.le_of_ble_eq_true rfl), (Nat.le_of_ble_eq_true rfl)⟩ ?_
          refine r_iinc (v := nI (p + 1)) dX12_remembers_51 rfl (nI_1 _) (by decide) ?_
          refine r_goto (tgt := 2) dX12_remembers_54 (by decide) ?_
          refine PW.subL (ih (p + 1) _ ?_ ?_ (by omega) (by omega)) (by repeat' first | exact True.intro | refine And.intro rfl ?_)
          · exact hk.set (by decide) (by decide)
          · rw [mSet_at]
            exact remR_l hv2 c_5 (congrFun e60 a) c_18
  refine r_iconst (v := 0) dX12_remembers_0 (by decide) ?_
  refine r_istore_n dX12_remembers_1 rfl (by decide) ?_
  exact PW.subL (lp 9 0 _ (kp.rf hS) rfl (by omega) (by omega)) (by repeat' first | exact True.intro | refine And.intro rfl ?_)
