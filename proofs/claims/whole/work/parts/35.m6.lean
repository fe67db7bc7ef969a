set_option maxRecDepth 20000 in
set_option maxHeartbeats 1000000 in
theorem s_X12_state (g : pG) {S : pS} (hS : sOk S) (hI : InvR (S.2.2.2 55)) (w : Int32) : MS g mX12_state 6 0 0 [.ref 54, .int w] (S) (eI (fun rx S1 => rx = stateX ((S).2.2.2 55) w ∧ kp [59, 60] (S) S1)) := by
  obtain ⟨M0, rfl⟩ := sOk_gs hS
  refine MS.of pn_X12 (Nat.le_of_ble_eq_true rfl) ?_
  refine r_iload_n dX12_state_0 rfl rfl ?_
  by_cases e_1_0 : w = 0
  · refine r_tableAt (tgt := 40) 0 dX12_state_1 e_1_0 (by decide) (by decide) rfl (by decide) ?_
    refine r_aload_n dX12_state_40 rfl rfl ?_
    refine r_getR (q := 55) dX12_state_41 (ci := 12) (kf := 0) rfl (Nat.le_of_ble_eq_true rfl) (by decide) (by decide) rfl fl_X12_9 (Or.inl rfl) rfl ?_
    refine r_iconst (v := 0) dX12_state_44 (by decide) ?_
    refine r_iald (j := 0) dX12_state_45 rfl (Nat.le_of_ble_eq_true rfl) rfl (by decide) (by decide) ?_
    refine r_iret dX12_state_46 rfl (Nat.le_refl _) ?_
    (try dsimp only [Gs_M])
    refine ⟨_, rfl, ?_, kp.rf hS⟩
    rw [stateX, if_pos e_1_0]
    (try with_reducible rfl)
  by_cases e_1_1 : w = 1
  · refine r_tableAt (tgt := 47) 1 dX12_state_1 e_1_1 (by decide) (by decide) rfl (by decide) ?_
    refine r_aload_n dX12_state_47 rfl rfl ?_
    refine r_getR (q := 55) dX12_state_48 (ci := 12) (kf := 0) rfl (Nat.le_of_ble_eq_true rfl) (by decide) (by decide) rfl fl_X12_9 (Or.inl rfl) rfl ?_
    refine r_bipush (v := 7) dX12_state_51 (by decide) ?_
    refine r_iald (j := 7) dX12_state_53 rfl (Nat.le_of_ble_eq_true rfl) rfl (by decide) (by decide) ?_
    refine r_iret dX12_state_54 rfl (Nat.le_refl _) ?_
    (try dsimp only [Gs_M])
    refine ⟨_, rfl, ?_, kp.rf hS⟩
    rw [stateX, if_neg e_1_0, if_pos e_1_1]
    (try with_reducible rfl)
  by_cases e_1_2 : w = 2
  · refine r_tableAt (tgt := 55) 2 dX12_state_1 e_1_2 (by decide) (by decide) rfl (by decide) ?_
    refine r_aload_n dX12_state_55 rfl rfl ?_
    refine r_callV_eI (ci := 12) dX12_state_56 (s_X12_billShow g hS hI) mf_X12_billShow mi_X12_billShow se_X12_X12_X12_billShow ml_X12_102 rfl rfl (Nat.le_of_ble_eq_true rfl) rfl (by decide) rfl (Nat.le_of_ble_eq_true rfl) ⟨(Nat.le_of_ble_eq_true rfl), (Nat.le_of_ble_eq_true rfl)⟩ ⟨(Nat.le_of_ble_eq_true rfl), (Nat.le_of_ble_eq_true rfl)⟩ (fun r_56 S_56 q_56 z_56 => ?_)
    refine r_iret dX12_state_59 rfl (Nat.le_refl _) ?_
    (try dsimp only [Gs_M])
    obtain ⟨hx, hb⟩ := q_56
    refine ⟨_, rfl, ?_, hb.1⟩
    rw [stateX, if_neg e_1_0, if_neg e_1_1, if_pos e_1_2]
    exact hx
  by_cases e_1_3 : w = 3
  · refine r_tableAt (tgt := 60) 3 dX12_state_1 e_1_3 (by decide) (by decide) rfl (by decide) ?_
    refine r_aload_n dX12_state_60 rfl rfl ?_
    refine r_callV_eI (ci := 12) dX12_state_61 (s_X12_cutNow g hS hI) mf_X12_cutNow mi_X12_cutNow se_X12_X12_X12_cutNow ml_X12_203 rfl rfl (Nat.le_of_ble_eq_true rfl) rfl (by decide) rfl (Nat.le_of_ble_eq_true rfl) ⟨(Nat.le_of_ble_eq_true rfl), (Nat.le_of_ble_eq_true rfl)⟩ ⟨(Nat.le_of_ble_eq_true rfl), (Nat.le_of_ble_eq_true rfl)⟩ (fun r_61 S_61 q_61 z_61 => ?_)
    refine r_iret dX12_state_64 rfl (Nat.le_refl _) ?_
    (try dsimp only [Gs_M])
    obtain ⟨hx, hb⟩ := q_61
    refine ⟨_, rfl, ?_, hb.1⟩
    rw [stateX, if_neg e_1_0, if_neg e_1_1, if_neg e_1_2, if_pos e_1_3]
    exact hx
  by_cases e_1_4 : w = 4
  · refine r_tableAt (tgt := 65) 4 dX12_state_1 e_1_4 (by decide) (by decide) rfl (by decide) ?_
    refine r_aload_n dX12_state_65 rfl rfl ?_
    refine r_callV_dI (ci := 12) dX12_state_66 (s_X12_illNow g hS hI) mf_X12_illNow mi_X12_illNow se_X12_X12_X12_illNow ml_X12_206 rfl rfl (Nat.le_of_ble_eq_true rfl) rfl (by decide) rfl (Nat.le_of_ble_eq_true rfl) ⟨(Nat.le_of_ble_eq_true rfl), (Nat.le_of_ble_eq_true rfl)⟩ ⟨(Nat.le_of_ble_eq_true rfl), (Nat.le_of_ble_eq_true rfl)⟩ ?_
    refine r_iret dX12_state_69 rfl (Nat.le_refl _) ?_
    (try dsimp only [Gs_M])
    refine ⟨_, rfl, ?_, kp.rf hS⟩
    rw [stateX, if_neg e_1_0, if_neg e_1_1, if_neg e_1_2, if_neg e_1_3, if_pos e_1_4]
    (try with_reducible rfl)
  by_cases e_1_5 : w = 5
  · refine r_tableAt (tgt := 70) 5 dX12_state_1 e_1_5 (by decide) (by decide) rfl (by decide) ?_
    refine r_aload_n dX12_state_70 rfl rfl ?_
    refine r_callV_eI (ci := 12) dX12_state_71 (s_X12_movedNow g hS hI) mf_X12_movedNow mi_X12_movedNow se_X12_X12_X12_movedNow ml_X12_209 rfl rfl (Nat.le_of_ble_eq_true rfl) rfl (by decide) rfl (Nat.le_of_ble_eq_true rfl) ⟨(Nat.le_of_ble_eq_true rfl), (Nat.le_of_ble_eq_true rfl)⟩ ⟨(Nat.le_of_ble_eq_true rfl), (Nat.le_of_ble_eq_true rfl)⟩ (fun r_71 S_71 q_71 z_71 => ?_)
    refine r_iret dX12_state_74 rfl (Nat.le_refl _) ?_
    (try dsimp only [Gs_M])
    obtain ⟨hx, hb⟩ := q_71
    refine ⟨_, rfl, ?_, hb.1⟩
    rw [stateX, if_neg e_1_0, if_neg e_1_1, if_neg e_1_2, if_neg e_1_3, if_neg e_1_4, if_pos e_1_5]
    exact hx
  refine r_tableOut (tgt := 75) dX12_state_1 (out_of2 (lo := 0) (n := 5) (by decide) (fun j hl hj => ?_)) (by decide) ?_
  · rcases (by omega : j = 0 ∨ j = 1 ∨ j = 2 ∨ j = 3 ∨ j = 4 ∨ j = 5) with rfl | rfl | rfl | rfl | rfl | rfl
    · exact e_1_0
    · exact e_1_1
    · exact e_1_2
    · exact e_1_3
    · exact e_1_4
    · exact e_1_5
  refine r_iconst (v := (-1)) dX12_state_75 (by decide) ?_
  refine r_iret dX12_state_76 rfl (Nat.le_refl _) ?_
  (try dsimp only [Gs_M])
  refine ⟨_, rfl, ?_, kp.rf hS⟩
  rw [stateX, if_neg e_1_0, if_neg e_1_1, if_neg e_1_2, if_neg e_1_3, if_neg e_1_4, if_neg e_1_5]
set_option maxRecDepth 20000 in
set_option maxHeartbeats 1000000 in
theorem s_X12_nights (g : pG) {S : pS} (hS : sOk S) (hI : InvR (S.2.2.2 55)) (n : Int32) : MS g mX12_nights 8 0 0 [.ref 54, .int n] (S) (eI (fun rx S1 => rx = nightsX ((S).2.2.2 55) n ∧ kp [55, 59, 60] (S) S1 ∧ S1.2.2.2 55 = nightsW ((S).2.2.2 55) n)) := by
  obtain ⟨M0, rfl⟩ := sOk_gs hS
  refine MS.of pn_X12 (Nat.le_of_ble_eq_true rfl) ?_
  refine r_iload_n dX12_nights_0 rfl rfl ?_
  refine r_iconst (v := 1) dX12_nights_1 (by decide) ?_
  refine r_bipush (v := 60) dX12_nights_2 (by decide) ?_
  refine r_callS_dI dX12_nights_4 (s_X12_in1 g _ _ _ _) mf_X12_in1 mt_X12_in1 ml_X12_63 rfl rfl (Nat.le_of_ble_eq_true rfl) ⟨(Nat.le_of_ble_eq_true rfl), (Nat.le_of_ble_eq_true rfl)⟩ ⟨(Nat.le_of_ble_eq_true rfl), (Nat.le_of_ble_eq_true rfl)⟩ ?_
  refine r_if_ne (tgt := 12) dX12_nights_7 (by decide) (fun c_7 => ?_) (fun c_7 => ?_)
  · have c_7 := bI_n c_7
    (try dsimp only [Gs_M] at c_7)
    obtain ⟨m, hm, rfl⟩ := rng (x := n) 60 (by decide) ⟨Int32.le_trans (by decide) c_7.1, c_7.2⟩
    refine r_aload_n dX12_nights_12 rfl rfl ?_
    refine r_iload_n dX12_nights_13 rfl rfl ?_
    refine r_callV_eV (ci := 12) dX12_nights_14 (s_X12_goes g hS hI (m) (by omega)) mf_X12_goes mi_X12_goes se_X12_X12_X12_goes ml_X12_191 rfl rfl (Nat.le_of_ble_eq_true rfl) rfl (by decide) rfl (Nat.le_of_ble_eq_true rfl) ⟨(Nat.le_of_ble_eq_true rfl), (Nat.le_of_ble_eq_true rfl)⟩ ⟨(Nat.le_of_ble_eq_true rfl), (Nat.le_of_ble_eq_true rfl)⟩ (fun S_14 q_14 z_14 => ?_)
    obtain ⟨hk2, hv2⟩ := q_14
    obtain ⟨M2, rfl⟩ := sOk_gs hk2.1
    have hv2 : M2 55 = goR (M0 55) m := hv2
    refine r_aload_n dX12_nights_17 rfl rfl ?_
    refine r_callV_dV (ci := 12) dX12_nights_18 (s_X12_holds g (by exact ⟨rfl, rfl, rfl⟩)) mf_X12_holds mi_X12_holds se_X12_X12_X12_holds ml_X12_194 rfl rfl (Nat.le_of_ble_eq_true rfl) rfl (by decide) rfl (Nat.le_of_ble_eq_true rfl) ⟨(Nat.le_of_ble_eq_true rfl), (Nat.le_of_ble_eq_true rfl)⟩ ⟨(Nat.le_of_ble_eq_true rfl), (Nat.le_of_ble_eq_true rfl)⟩ ?_
    refine r_aload_n dX12_nights_21 rfl rfl ?_
    refine r_getR (q := 55) dX12_nights_22 (ci := 12) (kf := 0) rfl (Nat.le_of_ble_eq_true rfl) (by decide) (by decide) rfl fl_X12_9 (Or.inl rfl) rfl ?_
    refine r_bipush (v := 7) dX12_nights_25 (by decide) ?_
    refine r_iald (j := 7) dX12_nights_27 rfl (Nat.le_of_ble_eq_true rfl) rfl (by decide) (by decide) ?_
    refine r_iret dX12_nights_28 rfl (Nat.le_refl _) ?_
    (try dsimp only [Gs_M])
    refine ⟨_, rfl, ?_, ?_, ?_⟩
    · rw [nightsX, if_pos (c_7), cl_nI (by omega)]
      rw [mSet_at, pk_us]
      (try dsimp only [Gs_M])
      rw [hv2]
      (try with_reducible rfl)
    · exact hk2.set (by decide) (by decide)
    · rw [mSet_at, nightsW, if_pos (c_7), cl_nI (by omega), hldW]
      dsimp only [Gs_M]
      rw [hv2]
      (try with_reducible rfl)
  · have c_7 := bI_0 c_7
    (try dsimp only [Gs_M] at c_7)
    refine r_iconst (v := (-1)) dX12_nights_10 (by decide) ?_
    refine r_iret dX12_nights_11 rfl (Nat.le_refl _) ?_
    (try dsimp only [Gs_M])
    refine ⟨_, rfl, ?_, kp.rf hS, ?_⟩
    · rw [nightsX, if_neg (fun z => c_7 z)]
    · rw [nightsW, if_neg (fun z => c_7 z)]
      (try rfl)
theorem e_X12_draw (g : pG) {S : pS} (hS : sOk S) : MS g mX12_draw 1 0 0 [.ref 54] S (eI (fun x S1 => x = nI (drawN (S.2.2.2 55 5)) ∧ kp [55] S S1 ∧ S1.2.2.2 55 = upd (S.2.2.2 55) 5 (drawZ (S.2.2.2 55 5)))) :=
  (s_X12_draw g hS).imp (fun r S' h => ⟨_, h.1, rfl, by rw [h.2]; exact (kp.rf hS).set (by decide) (by decide), by rw [h.2]; exact mSet_at⟩)
theorem e_X12_puts (g : pG) {S : pS} (hS : sOk S) (a f : Nat) (ha : a < 8) (hf : f < 11) (v : Int32) : MS g mX12_puts 1 0 0 [.ref 54, .int (nI a), .int (nI f), .int v] S (eV (fun S1 => kp [55] S S1 ∧ S1.2.2.2 55 = upd (S.2.2.2 55) (16 + 11 * a + f) v)) :=
  (s_X12_puts g hS a f ha hf v).imp (fun r S' h => ⟨h.1, by rw [h.2]; exact (kp.rf hS).set (by decide) (by decide), by rw [h.2]; exact mSet_at⟩)
theorem c_X12_copies (g : pG) {S : pS} (hS : sOk S) : MS g mX12_copies 1 0 0 [.ref 55, .ref 57] S (eV (fun S1 => kp [57] S S1 ∧ S1.2.2.2 57 = ovr (S.2.2.2 55) (S.2.2.2 57))) := by
  obtain ⟨M, rfl⟩ := sOk_gs hS
  exact (s_X12_copies g (by decide) rfl rfl (Nat.le_of_ble_eq_true rfl) (Nat.le_of_ble_eq_true rfl)).imp (fun r S' h => ⟨h.1, by rw [h.2]; exact kp_to57 hS, by rw [h.2]; exact mArr_at⟩)
theorem c_X12_copies2 (g : pG) {S0 S : pS} {W L : Nat → Int32} (h0 : S0.2.2.2 55 = W) (hl : S0.2.2.2 57 = ovr W L) (hk : kp [55, 59, 60] S0 S) (hv : ∀ x, 104 ≤ x → S.2.2.2 55 x = W x) : MS g mX12_copies 1 0 0 [.ref 57, .ref 55] S (eV (fun S1 => kp [59, 60] S0 S1)) := by
  obtain ⟨M, rfl⟩ := sOk_gs hk.1
  exact (s_X12_copies g (by decide) rfl rfl (Nat.le_of_ble_eq_true rfl) (Nat.le_of_ble_eq_true rfl)).imp (fun r S' h => ⟨h.1, by rw [h.2]; exact kp_back h0 hl hk hv⟩)
set_option maxRecDepth 20000 in
set_option maxHeartbeats 1000000 in
theorem s_X12_byDraws (g : pG) {S : pS} (hS : sOk S) (hI : InvR (S.2.2.2 55)) : MS g mX12_byDraws 7 0 0 [.ref 54] (S) (eI (fun rx S1 => rx = showB (thrR ((S).2.2.2 55)) ∧ kp [55, 59, 60] (S) S1 ∧ S1.2.2.2 55 = nightR (thrR ((S).2.2.2 55)))) := by
  obtain ⟨M0, rfl⟩ := sOk_gs hS
  refine MS.of pn_X12 (Nat.le_of_ble_eq_true rfl) ?_
  have J : ∀ S1 : pS, kp [55] (Gs M0) S1 → S1.2.2.2 55 = thrR (M0 55) → PW g mX12_byDraws (eN g (Gs M0).1 7 0 0 (eI (fun rx S1 => rx = showB (thrR ((Gs M0).2.2.2 55)) ∧ kp [55, 59, 60] (Gs M0) S1 ∧ S1.2.2.2 55 = nightR (thrR ((Gs M0).2.2.2 55))))) 73 [some (.ref 54), none, none] [] S1 0 0 := by
    intro S1 hk hv
    obtain ⟨M, rfl⟩ := sOk_gs hk.1
    have hv2 : M 55 = thrR (M0 55) := hv
    have hI2 : InvR (M 55) := hv2 ▸ thrR_inv hI
    refine r_aload_n dX12_byDraws_73 rfl rfl ?_
    refine r_callV_eI (ci := 12) dX12_byDraws_74 (s_X12_night1 g (by exact ⟨rfl, rfl, rfl⟩) hI2) mf_X12_night1 mi_X12_night1 se_X12_X12_X12_night1 ml_X12_110 rfl rfl (Nat.le_of_ble_eq_true rfl) rfl (by decide) rfl (Nat.le_of_ble_eq_true rfl) ⟨(Nat.le_of_ble_eq_true rfl), (Nat.le_of_ble_eq_true rfl)⟩ ⟨(Nat.le_of_ble_eq_true rfl), (Nat.le_of_ble_eq_true rfl)⟩ (fun r_74 S_74 q_74 z_74 => ?_)
    refine r_iret dX12_byDraws_77 rfl (Nat.le_refl _) ?_
    (try dsimp only [Gs_M])
    obtain ⟨h1, h2, h3⟩ := q_74
    rw [show (Gs M).2.2.2 55 = thrR (M0 55) from hv2] at h1 h3
    exact ⟨_, rfl, h1, (hk.mono (by decide)).tr h2, h3⟩
  refine r_aload_n dX12_byDraws_0 rfl rfl ?_
  refine r_getR (q := 55) dX12_byDraws_1 (ci := 12) (kf := 0) rfl (Nat.le_of_ble_eq_true rfl) (by decide) (by decide) rfl fl_X12_9 (Or.inl rfl) rfl ?_
  refine r_bipush (v := 6) dX12_byDraws_4 (by decide) ?_
  refine r_iald (j := 6) dX12_byDraws_6 rfl (Nat.le_of_ble_eq_true rfl) rfl (by decide) (by decide) ?_
  refine r_if_le (tgt := 73) dX12_byDraws_7 (by decide) (fun c_7 => ?_) (fun c_7 => ?_)
  · (try dsimp only [Gs_M] at c_7)
    exact PW.subL (J _ (kp.rf hS) (by rw [thrR, if_pos c_7]; rfl)) (by repeat' first | exact True.intro | refine And.intro rfl ?_)
  · (try dsimp only [Gs_M] at c_7)
    obtain ⟨h8, hpl⟩ := hI.pl
    have h8 : plR (M0 55) ≤ 8 := h8
    have hpl : M0 55 6 = nI (plR (M0 55)) := hpl
    have h0 : 0 < plR (M0 55) := by
      rcases Nat.eq_zero_or_pos (plR (M0 55)) with e | e
      · exact absurd (by show M0 55 6 ≤ 0; rw [hpl, e]; decide) c_7
      · exact e
    have l0 := drawN_lt (M0 55 5)
    obtain ⟨k, ek⟩ : ∃ k, k = drawN (M0 55 5) % plR (M0 55) := ⟨_, rfl⟩
    have hk8 : k < 8 := by rw [ek]; have := Nat.mod_lt (drawN (M0 55 5)) h0; omega
    refine r_aload_n dX12_byDraws_10 rfl rfl ?_
    refine r_callV_eI (ci := 12) dX12_byDraws_11 (e_X12_draw g (by exact ⟨rfl, rfl, rfl⟩)) mf_X12_draw mi_X12_draw se_X12_X12_X12_draw ml_X12_197 rfl rfl (Nat.le_of_ble_eq_true rfl) rfl (by decide) rfl (Nat.le_of_ble_eq_true rfl) ⟨(Nat.le_of_ble_eq_true rfl), (Nat.le_of_ble_eq_true rfl)⟩ ⟨(Nat.le_of_ble_eq_true rfl), (Nat.le_of_ble_eq_true rfl)⟩ (fun r_11 S_11 q_11 z_11 => ?_)
    obtain ⟨rfl, hka, hra⟩ := q_11
    obtain ⟨Ma, rfl⟩ := sOk_gs hka.1
    have hra : Ma 55 = upd (M0 55) 5 (drawZ (M0 55 5)) := hra
    refine r_aload_n dX12_byDraws_14 rfl rfl ?_
    refine r_getR (q := 55) dX12_byDraws_15 (ci := 12) (kf := 0) rfl (Nat.le_of_ble_eq_true rfl) (by decide) (by decide) rfl fl_X12_9 (Or.inl rfl) rfl ?_
    refine r_bipush (v := 6) dX12_byDraws_18 (by decide) ?_
    refine r_iald (j := 6) dX12_byDraws_20 rfl (Nat.le_of_ble_eq_true rfl) rfl (by decide) (by decide) ?_
    rw [show (Gs Ma).2.2.2 55 6 = nI (plR (M0 55)) by show Ma 55 6 = _; rw [hra, pk_un (by omega)]; exact hpl]
    refine r_irem dX12_byDraws_21 (nI_ne0 h0 (by omega)) ?_
    rw [show nI (drawN ((Gs M0).2.2.2 55 5)) - nI (drawN ((Gs M0).2.2.2 55 5)) / nI (plR (M0 55)) * nI (plR (M0 55)) = nI k by rw [ek]; exact pk_rem (Nat.lt_trans l0 (by decide)) h0 (by omega)]
    refine r_istore_n dX12_byDraws_22 rfl (by decide) ?_
    refine r_aload_n dX12_byDraws_23 rfl rfl ?_
    refine r_callV_eI (ci := 12) dX12_byDraws_24 (e_X12_draw g (by exact ⟨rfl, rfl, rfl⟩)) mf_X12_draw mi_X12_draw se_X12_X12_X12_draw ml_X12_197 rfl rfl (Nat.le_of_ble_eq_true rfl) rfl (by decide) rfl (Nat.le_of_ble_eq_true rfl) ⟨(Nat.le_of_ble_eq_true rfl), (Nat.le_of_ble_eq_true rfl)⟩ ⟨(Nat.le_of_ble_eq_true rfl), (Nat.le_of_ble_eq_true rfl)⟩ (fun r_24 S_24 q_24 z_24 => ?_)
    obtain ⟨rfl, hkb, hrb⟩ := q_24
    obtain ⟨Mb, rfl⟩ := sOk_gs hkb.1
    have hrb : Mb 55 = upd (Ma 55) 5 (drawZ (Ma 55 5)) := hrb
    refine r_bipush (v := 100) dX12_byDraws_27 (by decide) ?_
    refine r_irem dX12_byDraws_29 (by decide) ?_
    have l1 := drawN_lt (Ma 55 5)
    rw [show nI (drawN ((Gs Ma).2.2.2 55 5)) - nI (drawN ((Gs Ma).2.2.2 55 5)) / 100 * 100 = nI (drawN (Ma 55 5) % 100) from pk_rem (Nat.lt_trans l1 (by decide)) (by decide) (by decide)]
    refine r_aload_n dX12_byDraws_30 rfl rfl ?_
    refine r_getR (q := 55) dX12_byDraws_31 (ci := 12) (kf := 0) rfl (Nat.le_of_ble_eq_true rfl) (by decide) (by decide) rfl fl_X12_9 (Or.inl rfl) rfl ?_
    refine r_iconst (v := 4) dX12_byDraws_34 (by decide) ?_
    refine r_iald (j := 4) dX12_byDraws_35 rfl (Nat.le_of_ble_eq_true rfl) rfl (by decide) (by decide) ?_
    refine r_icmp_ge (tgt := 73) dX12_byDraws_36 (by decide) (fun c_36 => ?_) (fun c_36 => ?_)
    · (try dsimp only [Gs_M] at c_36)
      have c36 : M0 55 4 ≤ nI (drawN (drawZ (M0 55 5)) % 100) := by
        have h := c_36
        rw [hrb, pk_un (by omega), hra, pk_us, pk_un (by omega)] at h
        exact h
      refine PW.subL (J _ (hka.tr hkb) ?_) (by repeat' first | exact True.intro | refine And.intro rfl ?_)
      rw [show (Gs Mb).2.2.2 55 = _ from hrb, hra, pk_us, upd_twice, thrR, if_neg c_7, if_neg (Int32.not_lt.mpr c36)]
    · (try dsimp only [Gs_M] at c_36)
      have c36 : ¬ M0 55 4 ≤ nI (drawN (drawZ (M0 55 5)) % 100) := by
        have h := c_36
        rw [hrb, pk_un (by omega), hra, pk_us, pk_un (by omega)] at h
        exact h
      refine r_aload_n dX12_byDraws_39 rfl rfl ?_
      refine r_callV_eI (ci := 12) dX12_byDraws_40 (e_X12_draw g (by exact ⟨rfl, rfl, rfl⟩)) mf_X12_draw mi_X12_draw se_X12_X12_X12_draw ml_X12_197 rfl rfl (Nat.le_of_ble_eq_true rfl) rfl (by decide) rfl (Nat.le_of_ble_eq_true rfl) ⟨(Nat.le_of_ble_eq_true rfl), (Nat.le_of_ble_eq_true rfl)⟩ ⟨(Nat.le_of_ble_eq_true rfl), (Nat.le_of_ble_eq_true rfl)⟩ (fun r_40 S_40 q_40 z_40 => ?_)
      obtain ⟨rfl, hkc, hrc⟩ := q_40
      obtain ⟨Mc, rfl⟩ := sOk_gs hkc.1
      have hrc : Mc 55 = upd (Mb 55) 5 (drawZ (Mb 55 5)) := hrc
      refine r_bipush (v := 10) dX12_byDraws_43 (by decide) ?_
      refine r_irem dX12_byDraws_45 (by decide) ?_
      have l2 := drawN_lt (Mb 55 5)
      rw [show nI (drawN ((Gs Mb).2.2.2 55 5)) - nI (drawN ((Gs Mb).2.2.2 55 5)) / 10 * 10 = nI (drawN (Mb 55 5) % 10) from pk_rem (Nat.lt_trans l2 (by decide)) (by decide) (by decide)]
      have wk : Mc 55 (16 + 11 * k + 2) = M0 55 (16 + 11 * k + 2) := by rw [hrc, pk_un (by omega), hrb, pk_un (by omega), hra, pk_un (by omega)]
      refine r_istore_n dX12_byDraws_46 rfl (by decide) ?_
      refine r_aload_n dX12_byDraws_47 rfl rfl ?_
      refine r_iload_n dX12_byDraws_48 rfl rfl ?_
      refine r_iconst (v := 2) dX12_byDraws_49 (by decide) ?_
      refine r_iload_n dX12_byDraws_50 rfl rfl ?_
      refine r_aload_n dX12_byDraws_51 rfl rfl ?_
      refine r_iload_n dX12_byDraws_52 rfl rfl ?_
      refine r_iconst (v := 2) dX12_byDraws_53 (by decide) ?_
      refine r_callV_dI (ci := 12) dX12_byDraws_54 (s_X12_get g (by exact ⟨rfl, rfl, rfl⟩) (k) (2) (by omega) (by omega)) mf_X12_get mi_X12_get se_X12_X12_X12_get ml_X12_67 rfl rfl (Nat.le_of_ble_eq_true rfl) rfl (by decide) rfl (Nat.le_of_ble_eq_true rfl) ⟨(Nat.le_of_ble_eq_true rfl), (Nat.le_of_ble_eq_true rfl)⟩ ⟨(Nat.le_of_ble_eq_true rfl), (Nat.le_of_ble_eq_true rfl)⟩ ?_
      refine r_icmp_le (tgt := 64) dX12_byDraws_57 (by decide) (fun c_57 => ?_) (fun c_57 => ?_)
      · (try dsimp only [Gs_M] at c_57)
        refine r_aload_n dX12_byDraws_64 rfl rfl ?_
        refine r_iload_n dX12_byDraws_65 rfl rfl ?_
        refine r_iconst (v := 2) dX12_byDraws_66 (by decide) ?_
        refine r_callV_dI (ci := 12) dX12_byDraws_67 (s_X12_get g (by exact ⟨rfl, rfl, rfl⟩) (k) (2) (by omega) (by omega)) mf_X12_get mi_X12_get se_X12_X12_X12_get ml_X12_67 rfl rfl (Nat.le_of_ble_eq_true rfl) rfl (by decide) rfl (Nat.le_of_ble_eq_true rfl) ⟨(Nat.le_of_ble_eq_true rfl), (Nat.le_of_ble_eq_true rfl)⟩ ⟨(Nat.le_of_ble_eq_true rfl), (Nat.le_of_ble_eq_true rfl)⟩ ?_
        refine r_callV_dV (ci := 12) dX12_byDraws_70 (s_X12_puts g (by exact ⟨rfl, rfl, rfl⟩) (k) (2) (by omega) (by omega) _) mf_X12_puts mi_X12_puts se_X12_X12_X12_puts ml_X12_88 rfl rfl (Nat.le_of_ble_eq_true rfl) rfl (by decide) rfl (Nat.le_of_ble_eq_true rfl) ⟨(Nat.le_of_ble_eq_true rfl), (Nat.le_of_ble_eq_true rfl)⟩ ⟨(Nat.le_of_ble_eq_true rfl), (Nat.le_of_ble_eq_true rfl)⟩ ?_
        refine PW.subL (J _ (((hka.tr hkb).tr hkc).set (by decide) (by decide)) ?_) (by repeat' first | exact True.intro | refine And.intro rfl ?_)
        have c57 := c_57
        rw [wk, hrb, hra] at c57
        simp only [pk_us] at c57
        rw [mSet_at]
        dsimp only [Gs_M]
        (try rw [wk])
        rw [hrc, hrb, hra]
        simp only [pk_us, upd_twice]
        rw [thrR, if_neg c_7, if_pos (Int32.not_le.mp c36), ← ek, if_pos c57]
      · (try dsimp only [Gs_M] at c_57)
        refine r_iload_n dX12_byDraws_60 rfl rfl ?_
        refine r_goto (tgt := 70) dX12_byDraws_61 (by decide) ?_
        refine r_callV_dV (ci := 12) dX12_byDraws_70 (s_X12_puts g (by exact ⟨rfl, rfl, rfl⟩) (k) (2) (by omega) (by omega) _) mf_X12_puts mi_X12_puts se_X12_X12_X12_puts ml_X12_88 rfl rfl (Nat.le_of_ble_eq_true rfl) rfl (by decide) rfl (Nat.le_of_ble_eq_true rfl) ⟨(Nat.le_of_ble_eq_true rfl), (Nat.le_of_ble_eq_true rfl)⟩ ⟨(Nat.le_of_ble_eq_true rfl), (Nat.le_of_ble_eq_true rfl)⟩ ?_
        refine PW.subL (J _ (((hka.tr hkb).tr hkc).set (by decide) (by decide)) ?_) (by repeat' first | exact True.intro | refine And.intro rfl ?_)
        have c57 := c_57
        rw [wk, hrb, hra] at c57
        simp only [pk_us] at c57
        rw [mSet_at]
        dsimp only [Gs_M]
        (try rw [wk])
        rw [hrc, hrb, hra]
        simp only [pk_us, upd_twice]
        rw [thrR, if_neg c_7, if_pos (Int32.not_le.mp c36), ← ek, if_neg c57]
set_option maxRecDepth 20000 in
set_option maxHeartbeats 1000000 in
theorem s_X12_night (g : pG) {S : pS} (hS : sOk S) (hI : InvR (S.2.2.2 55)) : MS g mX12_night 8 0 0 [.ref 54] (S) (eI (fun rx S1 => rx = showB (thrR ((S).2.2.2 55)) ∧ kp [55, 59, 60] (S) S1 ∧ S1.2.2.2 55 = hldW (nightR (thrR ((S).2.2.2 55))))) := by
  obtain ⟨M0, rfl⟩ := sOk_gs hS
  refine MS.of pn_X12 (Nat.le_of_ble_eq_true rfl) ?_
  refine r_aload_n dX12_night_0 rfl rfl ?_
  refine r_callV_eI (ci := 12) dX12_night_1 (s_X12_byDraws g hS hI) mf_X12_byDraws mi_X12_byDraws se_X12_X12_X12_byDraws ml_X12_200 rfl rfl (Nat.le_of_ble_eq_true rfl) rfl (by decide) rfl (Nat.le_of_ble_eq_true rfl) ⟨(Nat.le_of_ble_eq_true rfl), (Nat.le_of_ble_eq_true rfl)⟩ ⟨(Nat.le_of_ble_eq_true rfl), (Nat.le_of_ble_eq_true rfl)⟩ (fun r_1 S_1 q_1 z_1 => ?_)
  obtain ⟨hx1, hk1, hv1⟩ := q_1
  obtain ⟨M1, rfl⟩ := sOk_gs hk1.1
  have hv2 : M1 55 = nightR (thrR (M0 55)) := hv1
  refine r_istore_n dX12_night_4 rfl (by decide) ?_
  refine r_aload_n dX12_night_5 rfl rfl ?_
  refine r_callV_dV (ci := 12) dX12_night_6 (s_X12_holds g (by exact ⟨rfl, rfl, rfl⟩)) mf_X12_holds mi_X12_holds se_X12_X12_X12_holds ml_X12_194 rfl rfl (Nat.le_of_ble_eq_true rfl) rfl (by decide) rfl (Nat.le_of_ble_eq_true rfl) ⟨(Nat.le_of_ble_eq_true rfl), (Nat.le_of_ble_eq_true rfl)⟩ ⟨(Nat.le_of_ble_eq_true rfl), (Nat.le_of_ble_eq_true rfl)⟩ ?_
  refine r_iload_n dX12_night_9 rfl rfl ?_
  refine r_iret dX12_night_10 rfl (Nat.le_refl _) ?_
  (try dsimp only [Gs_M])
  refine ⟨_, rfl, hx1, hk1.set (by decide) (by decide), ?_⟩
  rw [mSet_at, hldW]
  (try dsimp only [Gs_M])
  rw [hv2]
