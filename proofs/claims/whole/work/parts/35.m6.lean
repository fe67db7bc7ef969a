set_option maxRecDepth 20000 in
set_option maxHeartbeats 1000000 in
theorem s_X12_state (g : pG) {S : pS} (hS : sOk S) (hI : InvR (S.2.2.2 55)) (w : Int32) : MS g mX12_state 6 0 0 [.ref 54, .int w] (S) (eI (fun rx S1 => rx = stateX ((S).2.2.2 55) w ∧ kp [59, 60] (S) S1)) := by
  obtain ⟨M0, rfl⟩ := sOk_gs hS
  refine MS.of pn_X12 (Nat.le_of_ble_eq_true rfl) ?_
  refine r_iload_n dX12_state_0 rfl rfl ?_
  by_cases e_1_0 : w = 0
  · refine r_tableAt (tgt := 40) 0 dX12_state_1 e_1_0 (by decide) (by decide) rfl (by decide) ?_
    refine r_aload_n dX12_state_40 rfl rfl ?_
    refine r_getR (q := 55) dX12_state_41 (ci := 12) (kf := 0) rfl (Nat.le_of_ble_eq_true rfl) (by decide) (by decide) rfl fl_X12_9 (Or.inl rfl) rfl ?_
    refine r_iconst (v := 0) dX12_state_44 (by decide) ?_
    refine r_iald (j := 0) dX12_state_45 rfl (Nat.le_of_ble_eq_true rfl) rfl (by decide) (by decide) ?_
    refine r_iret dX12_state_46 rfl (Nat.le_refl _) ?_
    refine ⟨_, rfl, ?_, kp.rf hS⟩
    rw [stateX, if_pos e_1_0]
    (try rfl)
  by_cases e_1_1 : w = 1
  · refine r_tableAt (tgt := 47) 1 dX12_state_1 e_1_1 (by decide) (by decide) rfl (by decide) ?_
    refine r_aload_n dX12_state_47 rfl rfl ?_
    refine r_getR (q := 55) dX12_state_48 (ci := 12) (kf := 0) rfl (Nat.le_of_ble_eq_true rfl) (by decide) (by decide) rfl fl_X12_9 (Or.inl rfl) rfl ?_
    refine r_bipush (v := 7) dX12_state_51 (by decide) ?_
    refine r_iald (j := 7) dX12_state_53 rfl (Nat.le_of_ble_eq_true rfl) rfl (by decide) (by decide) ?_
    refine r_iret dX12_state_54 rfl (Nat.le_refl _) ?_
    refine ⟨_, rfl, ?_, kp.rf hS⟩
    rw [stateX, if_neg e_1_0, if_pos e_1_1]
    (try rfl)
  by_cases e_1_2 : w = 2
  · refine r_tableAt (tgt := 55) 2 dX12_state_1 e_1_2 (by decide) (by decide) rfl (by decide) ?_
    refine r_aload_n dX12_state_55 rfl rfl ?_
    refine r_callV_eI (ci := 12) dX12_state_56 (s_X12_billShow g hS hI) mf_X12_billShow mi_X12_billShow se_X12_X12_X12_billShow ml_X12_102 rfl rfl (Nat.le_of_ble_eq_true rfl) rfl (by decide) rfl (Nat.le_of_ble_eq_true rfl) ⟨(Nat.le_of_ble_eq_true rfl), (Nat.le_of_ble_eq_true rfl)⟩ ⟨(Nat.le_of_ble_eq_true rfl), (Nat.le_of_ble_eq_true rfl)⟩ (fun r_56 S_56 q_56 z_56 => ?_)
    refine r_iret dX12_state_59 rfl (Nat.le_refl _) ?_
    obtain ⟨hx, hb⟩ := q_56
    refine ⟨_, rfl, ?_, hb.1⟩
    rw [stateX, if_neg e_1_0, if_neg e_1_1, if_pos e_1_2]
    exact hx
  by_cases e_1_3 : w = 3
  · refine r_tableAt (tgt := 60) 3 dX12_state_1 e_1_3 (by decide) (by decide) rfl (by decide) ?_
    refine r_aload_n dX12_state_60 rfl rfl ?_
    refine r_callV_eI (ci := 12) dX12_state_61 (s_X12_cutNow g hS hI) mf_X12_cutNow mi_X12_cutNow se_X12_X12_X12_cutNow ml_X12_203 rfl rfl (Nat.le_of_ble_eq_true rfl) rfl (by decide) rfl (Nat.le_of_ble_eq_true rfl) ⟨(Nat.le_of_ble_eq_true rfl), (Nat.le_of_ble_eq_true rfl)⟩ ⟨(Nat.le_of_ble_eq_true rfl), (Nat.le_of_ble_eq_true rfl)⟩ (fun r_61 S_61 q_61 z_61 => ?_)
    refine r_iret dX12_state_64 rfl (Nat.le_refl _) ?_
    obtain ⟨hx, hb⟩ := q_61
    refine ⟨_, rfl, ?_, hb.1⟩
    rw [stateX, if_neg e_1_0, if_neg e_1_1, if_neg e_1_2, if_pos e_1_3]
    exact hx
  by_cases e_1_4 : w = 4
  · refine r_tableAt (tgt := 65) 4 dX12_state_1 e_1_4 (by decide) (by decide) rfl (by decide) ?_
    refine r_aload_n dX12_state_65 rfl rfl ?_
    refine r_callV_dI (ci := 12) dX12_state_66 (s_X12_illNow g hS hI) mf_X12_illNow mi_X12_illNow se_X12_X12_X12_illNow ml_X12_206 rfl rfl (Nat.le_of_ble_eq_true rfl) rfl (by decide) rfl (Nat.le_of_ble_eq_true rfl) ⟨(Nat.le_of_ble_eq_true rfl), (Nat.le_of_ble_eq_true rfl)⟩ ⟨(Nat.le_of_ble_eq_true rfl), (Nat.le_of_ble_eq_true rfl)⟩ ?_
    refine r_iret dX12_state_69 rfl (Nat.le_refl _) ?_
    refine ⟨_, rfl, ?_, kp.rf hS⟩
    rw [stateX, if_neg e_1_0, if_neg e_1_1, if_neg e_1_2, if_neg e_1_3, if_pos e_1_4]
    (try rfl)
  by_cases e_1_5 : w = 5
  · refine r_tableAt (tgt := 70) 5 dX12_state_1 e_1_5 (by decide) (by decide) rfl (by decide) ?_
    refine r_aload_n dX12_state_70 rfl rfl ?_
    refine r_callV_eI (ci := 12) dX12_state_71 (s_X12_movedNow g hS hI) mf_X12_movedNow mi_X12_movedNow se_X12_X12_X12_movedNow ml_X12_209 rfl rfl (Nat.le_of_ble_eq_true rfl) rfl (by decide) rfl (Nat.le_of_ble_eq_true rfl) ⟨(Nat.le_of_ble_eq_true rfl), (Nat.le_of_ble_eq_true rfl)⟩ ⟨(Nat.le_of_ble_eq_true rfl), (Nat.le_of_ble_eq_true rfl)⟩ (fun r_71 S_71 q_71 z_71 => ?_)
    refine r_iret dX12_state_74 rfl (Nat.le_refl _) ?_
    obtain ⟨hx, hb⟩ := q_71
    refine ⟨_, rfl, ?_, hb.1⟩
    rw [stateX, if_neg e_1_0, if_neg e_1_1, if_neg e_1_2, if_neg e_1_3, if_neg e_1_4, if_pos e_1_5]
    exact hx
  refine r_tableOut (tgt := 75) dX12_state_1 (out_of2 (lo := 0) (n := 5) (by decide) (fun j hl hj => ?_)) (by decide) ?_
  · rcases (by omega : j = 0 ∨ j = 1 ∨ j = 2 ∨ j = 3 ∨ j = 4 ∨ j = 5) with rfl | rfl | rfl | rfl | rfl | rfl
    · exact e_1_0
    · exact e_1_1
    · exact e_1_2
    · exact e_1_3
    · exact e_1_4
    · exact e_1_5
  refine r_iconst (v := (-1)) dX12_state_75 (by decide) ?_
  refine r_iret dX12_state_76 rfl (Nat.le_refl _) ?_
  refine ⟨_, rfl, ?_, kp.rf hS⟩
  rw [stateX, if_neg e_1_0, if_neg e_1_1, if_neg e_1_2, if_neg e_1_3, if_neg e_1_4, if_neg e_1_5]
set_option maxRecDepth 20000 in
set_option maxHeartbeats 1000000 in
theorem s_X12_nights (g : pG) {S : pS} (hS : sOk S) (hI : InvR (S.2.2.2 55)) (n : Int32) : MS g mX12_nights 8 0 0 [.ref 54, .int n] (S) (eI (fun rx S1 => rx = nightsX ((S).2.2.2 55) n ∧ kp [55, 59, 60] (S) S1 ∧ S1.2.2.2 55 = nightsW ((S).2.2.2 55) n)) := by
  obtain ⟨M0, rfl⟩ := sOk_gs hS
  refine MS.of pn_X12 (Nat.le_of_ble_eq_true rfl) ?_
  refine r_iload_n dX12_nights_0 rfl rfl ?_
  refine r_iconst (v := 1) dX12_nights_1 (by decide) ?_
  refine r_bipush (v := 60) dX12_nights_2 (by decide) ?_
  refine r_callS_dI dX12_nights_4 (s_X12_in1 g _ _ _ _) mf_X12_in1 mt_X12_in1 ml_X12_63 rfl rfl (Nat.le_of_ble_eq_true rfl) ⟨(Nat.le_of_ble_eq_true rfl), (Nat.le_of_ble_eq_true rfl)⟩ ⟨(Nat.le_of_ble_eq_true rfl), (Nat.le_of_ble_eq_true rfl)⟩ ?_
  refine r_if_ne (tgt := 12) dX12_nights_7 (by decide) (fun c_7 => ?_) (fun c_7 => ?_)
  · have c_7 := bI_n c_7
    obtain ⟨m, hm, rfl⟩ := rng (x := n) 60 (by decide) ⟨Int32.le_trans (by decide) c_7.1, c_7.2⟩
    refine r_aload_n dX12_nights_12 rfl rfl ?_
    refine r_iload_n dX12_nights_13 rfl rfl ?_
    refine r_callV_eV (ci := 12) dX12_nights_14 (s_X12_goes g hS hI (m) (by omega)) mf_X12_goes mi_X12_goes se_X12_X12_X12_goes ml_X12_191 rfl rfl (Nat.le_of_ble_eq_true rfl) rfl (by decide) rfl (Nat.le_of_ble_eq_true rfl) ⟨(Nat.le_of_ble_eq_true rfl), (Nat.le_of_ble_eq_true rfl)⟩ ⟨(Nat.le_of_ble_eq_true rfl), (Nat.le_of_ble_eq_true rfl)⟩ (fun S_14 q_14 z_14 => ?_)
    obtain ⟨hk2, hv2⟩ := q_14
    obtain ⟨M2, rfl⟩ := sOk_gs hk2.1
    have hv2 : M2 55 = goR (M0 55) m := hv2
    refine r_aload_n dX12_nights_17 rfl rfl ?_
    refine r_callV_dV (ci := 12) dX12_nights_18 (s_X12_holds g (by exact ⟨rfl, rfl, rfl⟩)) mf_X12_holds mi_X12_holds se_X12_X12_X12_holds ml_X12_194 rfl rfl (Nat.le_of_ble_eq_true rfl) rfl (by decide) rfl (Nat.le_of_ble_eq_true rfl) ⟨(Nat.le_of_ble_eq_true rfl), (Nat.le_of_ble_eq_true rfl)⟩ ⟨(Nat.le_of_ble_eq_true rfl), (Nat.le_of_ble_eq_true rfl)⟩ ?_
    refine r_aload_n dX12_nights_21 rfl rfl ?_
    refine r_getR (q := 55) dX12_nights_22 (ci := 12) (kf := 0) rfl (Nat.le_of_ble_eq_true rfl) (by decide) (by decide) rfl fl_X12_9 (Or.inl rfl) rfl ?_
    refine r_bipush (v := 7) dX12_nights_25 (by decide) ?_
    refine r_iald (j := 7) dX12_nights_27 rfl (Nat.le_of_ble_eq_true rfl) rfl (by decide) (by decide) ?_
    refine r_iret dX12_nights_28 rfl (Nat.le_refl _) ?_
    refine ⟨_, rfl, ?_, ?_, ?_⟩
    · rw [nightsX, if_pos (c_7), cl_nI (by omega)]
      show (mSet (Gs M2) 55 7 _).2.2.2 55 7 = _
      rw [mSet_at, pk_us, show (Gs M2).2.2.2 55 = goR (M0 55) m from hv2]
    · exact hk2.set (by decide) (by decide)
    · rw [mSet_at, nightsW, if_pos (c_7), cl_nI (by omega), hldW, show (Gs M2).2.2.2 55 = goR (M0 55) m from hv2]
  · have c_7 := bI_0 c_7
    refine r_iconst (v := (-1)) dX12_nights_10 (by decide) ?_
    refine r_iret dX12_nights_11 rfl (Nat.le_refl _) ?_
    refine ⟨_, rfl, ?_, kp.rf hS, ?_⟩
    · rw [nightsX, if_neg (fun z => c_7 z)]
    · rw [nightsW, if_neg (fun z => c_7 z)]
