set_option maxRecDepth 20000 in
set_option maxHeartbeats 1000000 in
theorem s_X12_thenAt (g : pG) {S : pS} (hS : sOk S) (hI : InvR (S.2.2.2 55)) (pl n : Nat) (hp : pl < 104) (hn : n < 1000) : MS g mX12_thenAt 8 0 0 [.ref 54, .int (nI pl), .int (nI n)] (S) (eI (fun rx S1 => rx = goR ((S).2.2.2 55) n pl ∧ kp [57, 59, 60] (S) S1)) := by
  obtain ⟨M0, rfl⟩ := sOk_gs hS
  refine MS.of pn_X12 (Nat.le_of_ble_eq_true rfl) ?_
  refine r_aload_n dX12_thenAt_0 rfl rfl ?_
  refine r_getR (q := 55) dX12_thenAt_1 (ci := 12) (kf := 0) rfl (Nat.le_of_ble_eq_true rfl) (by decide) (by decide) rfl fl_X12_9 (Or.inl rfl) rfl ?_
  refine r_aload_n dX12_thenAt_4 rfl rfl ?_
  refine r_getR (q := 57) dX12_thenAt_5 (ci := 12) (kf := 2) rfl (Nat.le_of_ble_eq_true rfl) (by decide) (by decide) rfl fl_X12_16 (Or.inl rfl) rfl ?_
  refine r_callS_eV dX12_thenAt_8 (c_X12_copies g hS) mf_X12_copies mt_X12_copies ml_X12_169 rfl rfl (Nat.le_of_ble_eq_true rfl) ⟨(Nat.le_of_ble_eq_true rfl), (Nat.le_of_ble_eq_true rfl)⟩ ⟨(Nat.le_of_ble_eq_true rfl), (Nat.le_of_ble_eq_true rfl)⟩ (fun S_8 q_8 z_8 => ?_)
  obtain ⟨ka, l57⟩ := q_8
  obtain ⟨Ma, rfl⟩ := sOk_gs ka.1
  have a55 : Ma 55 = M0 55 := ka.2.1 55 (by decide) (by decide)
  have a57 : Ma 57 = ovr (M0 55) (M0 57) := l57
  have hIa : InvR (Ma 55) := a55 ▸ hI
  refine r_aload_n dX12_thenAt_11 rfl rfl ?_
  refine r_iload_n dX12_thenAt_12 rfl rfl ?_
  refine r_callV_eV (ci := 12) dX12_thenAt_13 (s_X12_goes g ka.1 hIa (n) (by omega)) mf_X12_goes mi_X12_goes se_X12_X12_X12_goes ml_X12_191 rfl rfl (Nat.le_of_ble_eq_true rfl) rfl (by decide) rfl (Nat.le_of_ble_eq_true rfl) ⟨(Nat.le_of_ble_eq_true rfl), (Nat.le_of_ble_eq_true rfl)⟩ ⟨(Nat.le_of_ble_eq_true rfl), (Nat.le_of_ble_eq_true rfl)⟩ (fun S_13 q_13 z_13 => ?_)
  obtain ⟨kb, vb⟩ := q_13
  obtain ⟨Mb, rfl⟩ := sOk_gs kb.1
  have vb : Mb 55 = goR (M0 55) n := by rw [← a55]; exact vb
  refine r_aload_n dX12_thenAt_16 rfl rfl ?_
  refine r_getR (q := 55) dX12_thenAt_17 (ci := 12) (kf := 0) rfl (Nat.le_of_ble_eq_true rfl) (by decide) (by decide) rfl fl_X12_9 (Or.inl rfl) rfl ?_
  refine r_iload_n dX12_thenAt_20 rfl rfl ?_
  refine r_iald (j := pl) dX12_thenAt_21 rfl (Nat.le_of_ble_eq_true rfl) rfl (by omega) (by decide) ?_
  refine r_istore_n dX12_thenAt_22 rfl (by decide) ?_
  refine r_aload_n dX12_thenAt_23 rfl rfl ?_
  refine r_getR (q := 57) dX12_thenAt_24 (ci := 12) (kf := 2) rfl (Nat.le_of_ble_eq_true rfl) (by decide) (by decide) rfl fl_X12_16 (Or.inl rfl) rfl ?_
  refine r_aload_n dX12_thenAt_27 rfl rfl ?_
  refine r_getR (q := 55) dX12_thenAt_28 (ci := 12) (kf := 0) rfl (Nat.le_of_ble_eq_true rfl) (by decide) (by decide) rfl fl_X12_9 (Or.inl rfl) rfl ?_
  refine r_callS_eV dX12_thenAt_31 (c_X12_copies2 g a55 a57 kb (fun x hx => by show Mb 55 x = _; rw [vb]; exact goR_hi hI hx n)) mf_X12_copies mt_X12_copies ml_X12_169 rfl rfl (Nat.le_of_ble_eq_true rfl) ⟨(Nat.le_of_ble_eq_true rfl), (Nat.le_of_ble_eq_true rfl)⟩ ⟨(Nat.le_of_ble_eq_true rfl), (Nat.le_of_ble_eq_true rfl)⟩ (fun S_31 q_31 z_31 => ?_)
  refine r_iload_n dX12_thenAt_34 rfl rfl ?_
  refine r_iret dX12_thenAt_35 rfl (Nat.le_refl _) ?_
  (try dsimp only [Gs_M])
  exact ⟨_, rfl, congrFun vb pl, (ka.mono (by decide)).tr (q_31.mono (by decide))⟩
set_option maxRecDepth 20000 in
set_option maxHeartbeats 1000000 in
theorem s_X12_knew (g : pG) {S : pS} (hS : sOk S) (hI : InvR (S.2.2.2 55)) (x : Int32) (p : Int32) (n : Int32) : MS g mX12_knew 9 0 0 [.ref 54, .int x, .int p, .int n] (S) (eI (fun rx S1 => rx = knewX ((S).2.2.2 55) x p n ∧ kp [57, 59, 60] (S) S1)) := by
  obtain ⟨M0, rfl⟩ := sOk_gs hS
  refine MS.of pn_X12 (Nat.le_of_ble_eq_true rfl) ?_
  refine r_aload_n dX12_knew_0 rfl rfl ?_
  refine r_iload_n dX12_knew_1 rfl rfl ?_
  refine r_callV_dI (ci := 12) dX12_knew_2 (s_X12_isPlayer g (by exact ⟨rfl, rfl, rfl⟩) _) mf_X12_isPlayer mi_X12_isPlayer se_X12_X12_X12_isPlayer ml_X12_188 rfl rfl (Nat.le_of_ble_eq_true rfl) rfl (by decide) rfl (Nat.le_of_ble_eq_true rfl) ⟨(Nat.le_of_ble_eq_true rfl), (Nat.le_of_ble_eq_true rfl)⟩ ⟨(Nat.le_of_ble_eq_true rfl), (Nat.le_of_ble_eq_true rfl)⟩ ?_
  refine r_if_eq (tgt := 29) dX12_knew_5 (by decide) (fun c_5 => ?_) (fun c_5 => ?_)
  · have c_5 := bI_0 c_5
    (try dsimp only [Gs_M] at c_5)
    refine r_iconst (v := 0) dX12_knew_29 (by decide) ?_
    refine r_istore dX12_knew_30 (by decide) ?_
    refine r_iload dX12_knew_32 rfl ?_
    refine r_if_eq (tgt := 56) dX12_knew_34 (by decide) (fun _ => ?_) (fun c => absurd c (by decide))
    refine r_iconst (v := (-1)) dX12_knew_56 (by decide) ?_
    refine r_iret dX12_knew_57 rfl (Nat.le_refl _) ?_
    (try dsimp only [Gs_M])
    refine ⟨_, rfl, ?_, kp.rf hS⟩
    rw [knewX, if_neg (fun z => c_5 z.1)]
  · have c_5 := bI_n c_5
    (try dsimp only [Gs_M] at c_5)
    refine r_iload_n dX12_knew_8 rfl rfl ?_
    refine r_callS_dI dX12_knew_9 (s_X12_isPart g _ _) mf_X12_isPart mt_X12_isPart ml_X12_182 rfl rfl (Nat.le_of_ble_eq_true rfl) ⟨(Nat.le_of_ble_eq_true rfl), (Nat.le_of_ble_eq_true rfl)⟩ ⟨(Nat.le_of_ble_eq_true rfl), (Nat.le_of_ble_eq_true rfl)⟩ ?_
    refine r_if_eq (tgt := 29) dX12_knew_12 (by decide) (fun c_12 => ?_) (fun c_12 => ?_)
    · have c_12 := bI_0 c_12
      (try dsimp only [Gs_M] at c_12)
      refine r_iconst (v := 0) dX12_knew_29 (by decide) ?_
      refine r_istore dX12_knew_30 (by decide) ?_
      refine r_iload dX12_knew_32 rfl ?_
      refine r_if_eq (tgt := 56) dX12_knew_34 (by decide) (fun _ => ?_) (fun c => absurd c (by decide))
      refine r_iconst (v := (-1)) dX12_knew_56 (by decide) ?_
      refine r_iret dX12_knew_57 rfl (Nat.le_refl _) ?_
      (try dsimp only [Gs_M])
      refine ⟨_, rfl, ?_, kp.rf hS⟩
      rw [knewX, if_neg (fun z => c_12 z.2.1)]
    · have c_12 := bI_n c_12
      (try dsimp only [Gs_M] at c_12)
      refine r_iload_n dX12_knew_15 rfl rfl ?_
      refine r_iconst (v := 0) dX12_knew_16 (by decide) ?_
      refine r_bipush (v := 60) dX12_knew_17 (by decide) ?_
      refine r_callS_dI dX12_knew_19 (s_X12_in1 g _ _ _ _) mf_X12_in1 mt_X12_in1 ml_X12_63 rfl rfl (Nat.le_of_ble_eq_true rfl) ⟨(Nat.le_of_ble_eq_true rfl), (Nat.le_of_ble_eq_true rfl)⟩ ⟨(Nat.le_of_ble_eq_true rfl), (Nat.le_of_ble_eq_true rfl)⟩ ?_
      refine r_if_eq (tgt := 29) dX12_knew_22 (by decide) (fun c_22 => ?_) (fun c_22 => ?_)
      · have c_22 := bI_0 c_22
        (try dsimp only [Gs_M] at c_22)
        refine r_iconst (v := 0) dX12_knew_29 (by decide) ?_
        refine r_istore dX12_knew_30 (by decide) ?_
        refine r_iload dX12_knew_32 rfl ?_
        refine r_if_eq (tgt := 56) dX12_knew_34 (by decide) (fun _ => ?_) (fun c => absurd c (by decide))
        refine r_iconst (v := (-1)) dX12_knew_56 (by decide) ?_
        refine r_iret dX12_knew_57 rfl (Nat.le_refl _) ?_
        (try dsimp only [Gs_M])
        refine ⟨_, rfl, ?_, kp.rf hS⟩
        rw [knewX, if_neg (fun z => c_22 z.2.2)]
      · have c_22 := bI_n c_22
        (try dsimp only [Gs_M] at c_22)
        refine r_iconst (v := 1) dX12_knew_25 (by decide) ?_
        refine r_goto (tgt := 30) dX12_knew_26 (by decide) ?_
        refine r_istore dX12_knew_30 (by decide) ?_
        refine r_iload dX12_knew_32 rfl ?_
        refine r_if_eq (tgt := 56) dX12_knew_34 (by decide) (fun c => absurd c (by decide)) (fun _ => ?_)
        obtain ⟨h8, hpl⟩ := hI.pl
        have h8 : plR (M0 55) ≤ 8 := h8
        have hpl : M0 55 6 = nI (plR (M0 55)) := hpl
        obtain ⟨k, hk, rfl⟩ := rngP (x := x) c_5 h8 hpl
        obtain ⟨j, hj, rfl⟩ := rng (x := p) 7 (by decide) c_12
        obtain ⟨m, hm, rfl⟩ := rng (x := n) 60 (by decide) c_22
        refine r_aload_n dX12_knew_37 rfl rfl ?_
        refine r_bipush (v := 16) dX12_knew_38 (by decide) ?_
        refine r_bipush (v := 11) dX12_knew_40 (by decide) ?_
        refine r_iload_n dX12_knew_42 rfl rfl ?_
        refine r_imulN (11) (k) dX12_knew_43 ?_
        refine r_iaddN (16) ((11 * k)) dX12_knew_44 ?_
        refine r_iconst (v := 3) dX12_knew_45 (by decide) ?_
        refine r_iaddN ((16 + (11 * k))) (3) dX12_knew_46 ?_
        refine r_iload_n dX12_knew_47 rfl rfl ?_
        refine r_iaddN (((16 + (11 * k)) + 3)) (j) dX12_knew_48 ?_
        refine r_iload_n dX12_knew_49 rfl rfl ?_
        refine r_callV_eI (ci := 12) dX12_knew_50 (s_X12_thenAt g hS hI ((((16 + (11 * k)) + 3) + j)) (m) (by omega) (by omega)) mf_X12_thenAt mi_X12_thenAt se_X12_X12_X12_thenAt ml_X12_212 rfl rfl (Nat.le_of_ble_eq_true rfl) rfl (by decide) rfl (Nat.le_of_ble_eq_true rfl) ⟨(Nat.le_of_ble_eq_true rfl), (Nat.le_of_ble_eq_true rfl)⟩ ⟨(Nat.le_of_ble_eq_true rfl), (Nat.le_of_ble_eq_true rfl)⟩ (fun r_50 S_50 q_50 z_50 => ?_)
        refine r_goto (tgt := 57) dX12_knew_53 (by decide) ?_
        refine r_iret dX12_knew_57 rfl (Nat.le_refl _) ?_
        (try dsimp only [Gs_M])
        refine ⟨_, rfl, ?_, q_50.2⟩
        rw [knewX, if_pos (⟨c_5, c_12, c_22⟩), cl_nI (by omega), cl_nI (by omega), cl_nI (by omega)]
        rw [show 16 + 11 * k + (3 + j) = ((16 + 11 * k) + 3) + j by omega]
        exact q_50.1
set_option maxRecDepth 20000 in
set_option maxHeartbeats 1000000 in
theorem s_X12_earned (g : pG) {S : pS} (hS : sOk S) (hI : InvR (S.2.2.2 55)) (n : Int32) : MS g mX12_earned 9 0 0 [.ref 54, .int n] (S) (eI (fun rx S1 => rx = earnedX ((S).2.2.2 55) n ∧ kp [57, 59, 60] (S) S1)) := by
  obtain ⟨M0, rfl⟩ := sOk_gs hS
  refine MS.of pn_X12 (Nat.le_of_ble_eq_true rfl) ?_
  refine r_iload_n dX12_earned_0 rfl rfl ?_
  refine r_iconst (v := 0) dX12_earned_1 (by decide) ?_
  refine r_bipush (v := 60) dX12_earned_2 (by decide) ?_
  refine r_callS_dI dX12_earned_4 (s_X12_in1 g _ _ _ _) mf_X12_in1 mt_X12_in1 ml_X12_63 rfl rfl (Nat.le_of_ble_eq_true rfl) ⟨(Nat.le_of_ble_eq_true rfl), (Nat.le_of_ble_eq_true rfl)⟩ ⟨(Nat.le_of_ble_eq_true rfl), (Nat.le_of_ble_eq_true rfl)⟩ ?_
  refine r_if_eq (tgt := 20) dX12_earned_7 (by decide) (fun c_7 => ?_) (fun c_7 => ?_)
  · have c_7 := bI_0 c_7
    (try dsimp only [Gs_M] at c_7)
    refine r_iconst (v := (-1)) dX12_earned_20 (by decide) ?_
    refine r_iret dX12_earned_21 rfl (Nat.le_refl _) ?_
    (try dsimp only [Gs_M])
    refine ⟨_, rfl, ?_, kp.rf hS⟩
    · rw [earnedX, if_neg (fun z => c_7 z)]
  · have c_7 := bI_n c_7
    (try dsimp only [Gs_M] at c_7)
    obtain ⟨m, hm, rfl⟩ := rng (x := n) 60 (by decide) c_7
    refine r_aload_n dX12_earned_10 rfl rfl ?_
    refine r_bipush (v := 7) dX12_earned_11 (by decide) ?_
    refine r_iload_n dX12_earned_13 rfl rfl ?_
    refine r_callV_eI (ci := 12) dX12_earned_14 (s_X12_thenAt g hS hI (7) (m) (by omega) (by omega)) mf_X12_thenAt mi_X12_thenAt se_X12_X12_X12_thenAt ml_X12_212 rfl rfl (Nat.le_of_ble_eq_true rfl) rfl (by decide) rfl (Nat.le_of_ble_eq_true rfl) ⟨(Nat.le_of_ble_eq_true rfl), (Nat.le_of_ble_eq_true rfl)⟩ ⟨(Nat.le_of_ble_eq_true rfl), (Nat.le_of_ble_eq_true rfl)⟩ (fun r_14 S_14 q_14 z_14 => ?_)
    refine r_goto (tgt := 21) dX12_earned_17 (by decide) ?_
    refine r_iret dX12_earned_21 rfl (Nat.le_refl _) ?_
    (try dsimp only [Gs_M])
    refine ⟨_, rfl, ?_, q_14.2⟩
    rw [earnedX, if_pos (c_7), cl_nI (by omega)]
    exact q_14.1
theorem kp_put {S S2 : pS} {W L : Nat → Int32} (hl : S.2.2.2 57 = ovr W L) (hk : kp [55, 59, 60] S S2) (hv : ∀ x, 104 ≤ x → S2.2.2.2 55 x = W x) : kp [55, 59, 60] S (mArr S2 55 (ovr (S2.2.2.2 57) (S2.2.2.2 55))) ∧ (mArr S2 55 (ovr (S2.2.2.2 57) (S2.2.2.2 55))).2.2.2 55 = W := by
  have e57 : S2.2.2.2 57 = ovr W L := (hk.2.1 57 (by decide) (by decide)).trans hl
  refine ⟨⟨hk.1, fun q a b => ?_, fun f hf => ?_⟩, ?_⟩
  · rw [mArr_ne (fun z => a (by rw [z]; decide))]
    exact hk.2.1 q a b
  · rw [mArr_ne (by decide)]
    exact hk.2.2 f hf
  · rw [mArr_at, e57, ovr_back hv]
theorem c_X12_copies3 (g : pG) {S0 S : pS} {W L : Nat → Int32} (hl : S0.2.2.2 57 = ovr W L) (hk : kp [55, 59, 60] S0 S) (hv : ∀ x, 104 ≤ x → S.2.2.2 55 x = W x) : MS g mX12_copies 1 0 0 [.ref 57, .ref 55] S (eV (fun S1 => kp [55, 59, 60] S0 S1 ∧ S1.2.2.2 55 = W)) := by
  obtain ⟨M, rfl⟩ := sOk_gs hk.1
  exact (s_X12_copies g (by decide) rfl rfl (Nat.le_of_ble_eq_true rfl) (Nat.le_of_ble_eq_true rfl)).imp (fun r S' h => ⟨h.1, by rw [h.2]; exact kp_put hl hk hv⟩)
set_option maxRecDepth 20000 in
set_option maxHeartbeats 1000000 in
theorem s_X12_takenBy (g : pG) {S : pS} (hS : sOk S) (hI : InvR (S.2.2.2 55)) {W L : Nat → Int32} (hl : S.2.2.2 57 = ovr W L) (hw : ∀ x, 104 ≤ x → S.2.2.2 55 x = W x) (n : Nat) (hn : n < 1000) : MS g mX12_takenBy 8 0 0 [.ref 54, .int (nI n)] (S) (eI (fun rx S1 => rx = goR ((S).2.2.2 55) n 7 ∧ kp [55, 59, 60] (S) S1 ∧ S1.2.2.2 55 = W)) := by
  obtain ⟨M0, rfl⟩ := sOk_gs hS
  refine MS.of pn_X12 (Nat.le_of_ble_eq_true rfl) ?_
  refine r_aload_n dX12_takenBy_0 rfl rfl ?_
  refine r_iload_n dX12_takenBy_1 rfl rfl ?_
  refine r_callV_eV (ci := 12) dX12_takenBy_2 (s_X12_goes g hS hI (n) (by omega)) mf_X12_goes mi_X12_goes se_X12_X12_X12_goes ml_X12_191 rfl rfl (Nat.le_of_ble_eq_true rfl) rfl (by decide) rfl (Nat.le_of_ble_eq_true rfl) ⟨(Nat.le_of_ble_eq_true rfl), (Nat.le_of_ble_eq_true rfl)⟩ ⟨(Nat.le_of_ble_eq_true rfl), (Nat.le_of_ble_eq_true rfl)⟩ (fun S_2 q_2 z_2 => ?_)
  obtain ⟨kb, vb⟩ := q_2
  obtain ⟨Mb, rfl⟩ := sOk_gs kb.1
  have vb : Mb 55 = goR (M0 55) n := vb
  refine r_aload_n dX12_takenBy_5 rfl rfl ?_
  refine r_getR (q := 55) dX12_takenBy_6 (ci := 12) (kf := 0) rfl (Nat.le_of_ble_eq_true rfl) (by decide) (by decide) rfl fl_X12_9 (Or.inl rfl) rfl ?_
  refine r_bipush (v := 7) dX12_takenBy_9 (by decide) ?_
  refine r_iald (j := 7) dX12_takenBy_11 rfl (Nat.le_of_ble_eq_true rfl) rfl (by decide) (by decide) ?_
  refine r_istore_n dX12_takenBy_12 rfl (by decide) ?_
  refine r_aload_n dX12_takenBy_13 rfl rfl ?_
  refine r_getR (q := 57) dX12_takenBy_14 (ci := 12) (kf := 2) rfl (Nat.le_of_ble_eq_true rfl) (by decide) (by decide) rfl fl_X12_16 (Or.inl rfl) rfl ?_
  refine r_aload_n dX12_takenBy_17 rfl rfl ?_
  refine r_getR (q := 55) dX12_takenBy_18 (ci := 12) (kf := 0) rfl (Nat.le_of_ble_eq_true rfl) (by decide) (by decide) rfl fl_X12_9 (Or.inl rfl) rfl ?_
  refine r_callS_eV dX12_takenBy_21 (c_X12_copies3 g hl kb (fun x hx => by show Mb 55 x = _; rw [vb]; exact (goR_hi hI hx n).trans (hw x hx))) mf_X12_copies mt_X12_copies ml_X12_169 rfl rfl (Nat.le_of_ble_eq_true rfl) ⟨(Nat.le_of_ble_eq_true rfl), (Nat.le_of_ble_eq_true rfl)⟩ ⟨(Nat.le_of_ble_eq_true rfl), (Nat.le_of_ble_eq_true rfl)⟩ (fun S_21 q_21 z_21 => ?_)
  refine r_iload_n dX12_takenBy_24 rfl rfl ?_
  refine r_iret dX12_takenBy_25 rfl (Nat.le_refl _) ?_
  (try dsimp only [Gs_M])
  exact ⟨_, rfl, congrFun vb 7, q_21⟩
set_option maxRecDepth 20000 in
set_option maxHeartbeats 1000000 in
theorem s_X12_kindFor (g : pG) {S : pS} (hS : sOk S) (hI : InvR (S.2.2.2 55)) (x : Int32) (n : Int32) : MS g mX12_kindFor 9 0 0 [.ref 54, .int x, .int n] (S) (eI (fun rx S1 => rx = kindX ((S).2.2.2 55) x n ∧ kp [57, 59, 60] (S) S1)) := by
  obtain ⟨M0, rfl⟩ := sOk_gs hS
  refine MS.of pn_X12 (Nat.le_of_ble_eq_true rfl) ?_
  refine r_aload_n dX12_kindFor_0 rfl rfl ?_
  refine r_iload_n dX12_kindFor_1 rfl rfl ?_
  refine r_callV_dI (ci := 12) dX12_kindFor_2 (s_X12_isPlayer g (by exact ⟨rfl, rfl, rfl⟩) _) mf_X12_isPlayer mi_X12_isPlayer se_X12_X12_X12_isPlayer ml_X12_188 rfl rfl (Nat.le_of_ble_eq_true rfl) rfl (by decide) rfl (Nat.le_of_ble_eq_true rfl) ⟨(Nat.le_of_ble_eq_true rfl), (Nat.le_of_ble_eq_true rfl)⟩ ⟨(Nat.le_of_ble_eq_true rfl), (Nat.le_of_ble_eq_true rfl)⟩ ?_
  refine r_if_eq (tgt := 15) dX12_kindFor_5 (by decide) (fun c_5 => ?_) (fun c_5 => ?_)
  · have c_5 := bI_0 c_5
    (try dsimp only [Gs_M] at c_5)
    refine r_iconst (v := (-1)) dX12_kindFor_15 (by decide) ?_
    refine r_iret dX12_kindFor_16 rfl (Nat.le_refl _) ?_
    (try dsimp only [Gs_M])
    refine ⟨_, rfl, ?_, kp.rf hS⟩
    rw [kindX, if_neg (fun z => c_5 z.1)]
  · have c_5 := bI_n c_5
    (try dsimp only [Gs_M] at c_5)
    refine r_iload_n dX12_kindFor_8 rfl rfl ?_
    refine r_callS_dI dX12_kindFor_9 (s_X12_isSoon g _ _) mf_X12_isSoon mt_X12_isSoon ml_X12_218 rfl rfl (Nat.le_of_ble_eq_true rfl) ⟨(Nat.le_of_ble_eq_true rfl), (Nat.le_of_ble_eq_true rfl)⟩ ⟨(Nat.le_of_ble_eq_true rfl), (Nat.le_of_ble_eq_true rfl)⟩ ?_
    refine r_if_ne (tgt := 17) dX12_kindFor_12 (by decide) (fun c_12 => ?_) (fun c_12 => ?_)
    · have c_12 := bI_n c_12
      (try dsimp only [Gs_M] at c_12)
      obtain ⟨h8, hpl⟩ := hI.pl
      have h8 : plR (M0 55) ≤ 8 := h8
      have hpl : M0 55 6 = nI (plR (M0 55)) := hpl
      obtain ⟨k, hk, rfl⟩ := rngP (x := x) c_5 h8 hpl
      obtain ⟨m, hm, rfl⟩ := rng (x := n) 30 (by decide) ⟨Int32.le_trans (by decide) c_12.1, c_12.2⟩
      refine r_aload_n dX12_kindFor_17 rfl rfl ?_
      refine r_getR (q := 55) dX12_kindFor_18 (ci := 12) (kf := 0) rfl (Nat.le_of_ble_eq_true rfl) (by decide) (by decide) rfl fl_X12_9 (Or.inl rfl) rfl ?_
      refine r_aload_n dX12_kindFor_21 rfl rfl ?_
      refine r_getR (q := 57) dX12_kindFor_22 (ci := 12) (kf := 2) rfl (Nat.le_of_ble_eq_true rfl) (by decide) (by decide) rfl fl_X12_16 (Or.inl rfl) rfl ?_
      refine r_callS_eV dX12_kindFor_25 (c_X12_copies g hS) mf_X12_copies mt_X12_copies ml_X12_169 rfl rfl (Nat.le_of_ble_eq_true rfl) ⟨(Nat.le_of_ble_eq_true rfl), (Nat.le_of_ble_eq_true rfl)⟩ ⟨(Nat.le_of_ble_eq_true rfl), (Nat.le_of_ble_eq_true rfl)⟩ (fun S_25 q_25 z_25 => ?_)
      obtain ⟨ka, l57⟩ := q_25
      obtain ⟨Ma, rfl⟩ := sOk_gs ka.1
      have a55 : Ma 55 = M0 55 := ka.2.1 55 (by decide) (by decide)
      have a57 : Ma 57 = ovr (M0 55) (M0 57) := l57
      have hIa : InvR (Ma 55) := a55 ▸ hI
      refine r_iconst (v := 0) dX12_kindFor_28 (by decide) ?_
      refine r_istore_n dX12_kindFor_29 rfl (by decide) ?_
      refine r_iconst (v := (-1)) dX12_kindFor_30 (by decide) ?_
      refine r_istore dX12_kindFor_31 (by decide) ?_
      refine r_iconst (v := 0) dX12_kindFor_33 (by decide) ?_
      refine r_istore dX12_kindFor_34 (by decide) ?_
      have lp : ∀ (j_ : Nat) (j : Nat) (best most : Int32) (S1 : pS) (hk : kp [57, 59, 60] (Gs M0) S1) (h57 : S1.2.2.2 57 = ovr (M0 55) (M0 57)) (hb : best = (mxR (fun kd => goR (upd (M0 55) (16 + 11 * k + 0) (nI kd)) m 7) 0 (-1) j).1) (hm : most = (mxR (fun kd => goR (upd (M0 55) (16 + 11 * k + 0) (nI kd)) m 7) 0 (-1) j).2) (hj8 : j ≤ 6), 6 - j < j_ → PW g mX12_kindFor (eN g (Gs M0).1 9 0 0 (eI (fun rx S1 => rx = kindX ((Gs M0).2.2.2 55) (nI k) (nI m) ∧ kp [57, 59, 60] (Gs M0) S1))) 36 [some (.ref 54), some (.int (nI k)), some (.int (nI m)), some (.int best), some (.int most), some (.int (nI j)), none] [] (S1) 0 0 := by
        intro j_
        induction j_ with
        | zero => intro j best most S1 hk h57 hb hm hj8 hj; exact absurd hj (Nat.not_lt_zero _)
        | succ j_ ih =>
          intro j best most S1 hk h57 hb hm hj8 hj
          obtain ⟨M, rfl⟩ := sOk_gs hk.1
          have b55 : M 55 = M0 55 := hk.2.1 55 (by decide) (by decide)
          have b57 : M 57 = ovr (M0 55) (M0 57) := h57
          refine r_iload dX12_kindFor_36 rfl ?_
          refine r_bipush (v := 6) dX12_kindFor_38 (by decide) ?_
          refine r_icmp_geN (j) (6) (tgt := 94) dX12_kindFor_40 (by decide) (by omega) (by omega) (fun c_40 => ?_) (fun c_40 => ?_)
          · (try dsimp only [Gs_M] at c_40)
            refine r_iload_n dX12_kindFor_94 rfl rfl ?_
            refine r_iret dX12_kindFor_95 rfl (Nat.le_refl _) ?_
            (try dsimp only [Gs_M])
            have ej : j = 6 := by omega
            refine ⟨_, rfl, ?_, hk⟩
            rw [kindX, if_pos ⟨c_5, c_12⟩, cl_nI (by omega), cl_nI (by omega)]
            rw [hb, ej]
          · (try dsimp only [Gs_M] at c_40)
            refine r_aload_n dX12_kindFor_43 rfl rfl ?_
            refine r_iload_n dX12_kindFor_44 rfl rfl ?_
            refine r_iconst (v := 0) dX12_kindFor_45 (by decide) ?_
            refine r_iload dX12_kindFor_46 rfl ?_
            refine r_callV_eV (ci := 12) dX12_kindFor_48 (e_X12_puts g hk.1 (k) (0) (by omega) (by omega) _) mf_X12_puts mi_X12_puts se_X12_X12_X12_puts ml_X12_88 rfl rfl (Nat.le_of_ble_eq_true rfl) rfl (by decide) rfl (Nat.le_of_ble_eq_true rfl) ⟨(Nat.le_of_ble_eq_true rfl), (Nat.le_of_ble_eq_true rfl)⟩ ⟨(Nat.le_of_ble_eq_true rfl), (Nat.le_of_ble_eq_true rfl)⟩ (fun S_48 q_48 z_48 => ?_)
            obtain ⟨kp1, vp1⟩ := q_48
            obtain ⟨Mp, rfl⟩ := sOk_gs kp1.1
            have vp1 : Mp 55 = upd (M0 55) (16 + 11 * k + 0) (nI j) := by rw [← b55]; exact vp1
            refine r_aload_n dX12_kindFor_51 rfl rfl ?_
            refine r_iload_n dX12_kindFor_52 rfl rfl ?_
            refine r_callV_eI (ci := 12) dX12_kindFor_53 (s_X12_takenBy g kp1.1 (by show InvR (Mp 55); rw [vp1]; exact upd_inv hI (by omega) (fun k2 h => by omega)) ((kp1.2.1 57 (by decide) (by decide)).trans b57) (fun x hx => by show Mp 55 x = _; rw [vp1]; exact upd_hi hx (by omega)) (m) (by omega)) mf_X12_takenBy mi_X12_takenBy se_X12_X12_X12_takenBy ml_X12_221 rfl rfl (Nat.le_of_ble_eq_true rfl) rfl (by decide) rfl (Nat.le_of_ble_eq_true rfl) ⟨(Nat.le_of_ble_eq_true rfl), (Nat.le_of_ble_eq_true rfl)⟩ ⟨(Nat.le_of_ble_eq_true rfl), (Nat.le_of_ble_eq_true rfl)⟩ (fun r_53 S_53 q_53 z_53 => ?_)
            obtain ⟨hx53, kt, vt⟩ := q_53
            rw [show (Gs Mp).2.2.2 55 = _ from vp1] at hx53
            have kz : kp [57, 59, 60] (Gs M0) S_53 := kp_fix (((hk.mono (by decide)).tr (kp1.mono (by decide))).tr (kt.mono (by decide))) vt
            have z57 : S_53.2.2.2 57 = ovr (M0 55) (M0 57) := (kt.2.1 57 (by decide) (by decide)).trans ((kp1.2.1 57 (by decide) (by decide)).trans b57)
            subst hx53
            refine r_istore dX12_kindFor_56 (by decide) ?_
            refine r_iload dX12_kindFor_58 rfl ?_
            refine r_iload dX12_kindFor_60 rfl ?_
            refine r_icmp_le (tgt := 70) dX12_kindFor_62 (by decide) (fun c_62 => ?_) (fun c_62 => ?_)
            · (try dsimp only [Gs_M] at c_62)
              refine r_iload_n dX12_kindFor_70 rfl rfl ?_
              refine r_istore_n dX12_kindFor_71 rfl (by decide) ?_
              refine r_iload dX12_kindFor_72 rfl ?_
              refine r_iload dX12_kindFor_74 rfl ?_
              refine r_icmp_le (tgt := 84) dX12_kindFor_76 (by decide) (fun c_76 => ?_) (fun c_76 => ?_)
              · (try dsimp only [Gs_M] at c_76)
                refine r_iload dX12_kindFor_84 rfl ?_
                refine r_istore dX12_kindFor_86 (by decide) ?_
                refine r_iinc (v := nI (j + 1)) dX12_kindFor_88 rfl (nI_1 _) (by decide) ?_
                refine r_goto (tgt := 36) dX12_kindFor_91 (by decide) ?_
                obtain ⟨y1, y2⟩ := mxR_n (v := (fun kd => goR (upd (M0 55) (16 + 11 * k + 0) (nI kd)) m 7)) hb hm c_62
                exact PW.subL (ih (j + 1) _ _ _ kz z57 y1 y2 (by omega) (by omega)) (by repeat' first | exact True.intro | refine And.intro rfl ?_)
              · (try dsimp only [Gs_M] at c_76)
                refine r_iload dX12_kindFor_79 rfl ?_
                refine r_goto (tgt := 86) dX12_kindFor_81 (by decide) ?_
                refine r_istore dX12_kindFor_86 (by decide) ?_
                refine r_iinc (v := nI (j + 1)) dX12_kindFor_88 rfl (nI_1 _) (by decide) ?_
                refine r_goto (tgt := 36) dX12_kindFor_91 (by decide) ?_
                exact absurd c_62 c_76
            · (try dsimp only [Gs_M] at c_62)
              refine r_iload dX12_kindFor_65 rfl ?_
              refine r_goto (tgt := 71) dX12_kindFor_67 (by decide) ?_
              refine r_istore_n dX12_kindFor_71 rfl (by decide) ?_
              refine r_iload dX12_kindFor_72 rfl ?_
              refine r_iload dX12_kindFor_74 rfl ?_
              refine r_icmp_le (tgt := 84) dX12_kindFor_76 (by decide) (fun c_76 => ?_) (fun c_76 => ?_)
              · (try dsimp only [Gs_M] at c_76)
                refine r_iload dX12_kindFor_84 rfl ?_
                refine r_istore dX12_kindFor_86 (by decide) ?_
                refine r_iinc (v := nI (j + 1)) dX12_kindFor_88 rfl (nI_1 _) (by decide) ?_
                refine r_goto (tgt := 36) dX12_kindFor_91 (by decide) ?_
                exact absurd c_76 c_62
              · (try dsimp only [Gs_M] at c_76)
                refine r_iload dX12_kindFor_79 rfl ?_
                refine r_goto (tgt := 86) dX12_kindFor_81 (by decide) ?_
                refine r_istore dX12_kindFor_86 (by decide) ?_
                refine r_iinc (v := nI (j + 1)) dX12_kindFor_88 rfl (nI_1 _) (by decide) ?_
                refine r_goto (tgt := 36) dX12_kindFor_91 (by decide) ?_
                obtain ⟨y1, y2⟩ := mxR_y (v := (fun kd => goR (upd (M0 55) (16 + 11 * k + 0) (nI kd)) m 7)) hm c_62
                exact PW.subL (ih (j + 1) _ _ _ kz z57 y1 y2 (by omega) (by omega)) (by repeat' first | exact True.intro | refine And.intro rfl ?_)
      exact PW.subL (lp (6 + 1) 0 _ _ _ (ka.mono (by decide)) a57 rfl rfl (by omega) (by omega)) (by repeat' first | exact True.intro | refine And.intro rfl ?_)
    · have c_12 := bI_0 c_12
      (try dsimp only [Gs_M] at c_12)
      refine r_iconst (v := (-1)) dX12_kindFor_15 (by decide) ?_
      refine r_iret dX12_kindFor_16 rfl (Nat.le_refl _) ?_
      (try dsimp only [Gs_M])
      refine ⟨_, rfl, ?_, kp.rf hS⟩
      rw [kindX, if_neg (fun z => c_12 z.2)]
set_option maxRecDepth 20000 in
set_option maxHeartbeats 1000000 in
theorem s_X12_learnerFor (g : pG) {S : pS} (hS : sOk S) (hI : InvR (S.2.2.2 55)) (p : Int32) (n : Int32) : MS g mX12_learnerFor 9 0 0 [.ref 54, .int p, .int n] (S) (eI (fun rx S1 => rx = learnerX ((S).2.2.2 55) p n ∧ kp [57, 59, 60] (S) S1)) := by
  obtain ⟨M0, rfl⟩ := sOk_gs hS
  refine MS.of pn_X12 (Nat.le_of_ble_eq_true rfl) ?_
  refine r_iload_n dX12_learnerFor_0 rfl rfl ?_
  refine r_callS_dI dX12_learnerFor_1 (s_X12_isPart g _ _) mf_X12_isPart mt_X12_isPart ml_X12_182 rfl rfl (Nat.le_of_ble_eq_true rfl) ⟨(Nat.le_of_ble_eq_true rfl), (Nat.le_of_ble_eq_true rfl)⟩ ⟨(Nat.le_of_ble_eq_true rfl), (Nat.le_of_ble_eq_true rfl)⟩ ?_
  refine r_if_eq (tgt := 14) dX12_learnerFor_4 (by decide) (fun c_4 => ?_) (fun c_4 => ?_)
  · have c_4 := bI_0 c_4
    (try dsimp only [Gs_M] at c_4)
    refine r_iconst (v := (-1)) dX12_learnerFor_14 (by decide) ?_
    refine r_iret dX12_learnerFor_15 rfl (Nat.le_refl _) ?_
    (try dsimp only [Gs_M])
    refine ⟨_, rfl, ?_, kp.rf hS⟩
    rw [learnerX, if_neg (fun z => c_4 z.1)]
  · have c_4 := bI_n c_4
    (try dsimp only [Gs_M] at c_4)
    refine r_iload_n dX12_learnerFor_7 rfl rfl ?_
    refine r_callS_dI dX12_learnerFor_8 (s_X12_isSoon g _ _) mf_X12_isSoon mt_X12_isSoon ml_X12_218 rfl rfl (Nat.le_of_ble_eq_true rfl) ⟨(Nat.le_of_ble_eq_true rfl), (Nat.le_of_ble_eq_true rfl)⟩ ⟨(Nat.le_of_ble_eq_true rfl), (Nat.le_of_ble_eq_true rfl)⟩ ?_
    refine r_if_ne (tgt := 16) dX12_learnerFor_11 (by decide) (fun c_11 => ?_) (fun c_11 => ?_)
    · have c_11 := bI_n c_11
      (try dsimp only [Gs_M] at c_11)
      obtain ⟨h8, hpl⟩ := hI.pl
      have h8 : plR (M0 55) ≤ 8 := h8
      have hpl : M0 55 6 = nI (plR (M0 55)) := hpl
      obtain ⟨jp, hjp, rfl⟩ := rng (x := p) 7 (by decide) c_4
      obtain ⟨m, hm, rfl⟩ := rng (x := n) 30 (by decide) ⟨Int32.le_trans (by decide) c_11.1, c_11.2⟩
      refine r_aload_n dX12_learnerFor_16 rfl rfl ?_
      refine r_getR (q := 55) dX12_learnerFor_17 (ci := 12) (kf := 0) rfl (Nat.le_of_ble_eq_true rfl) (by decide) (by decide) rfl fl_X12_9 (Or.inl rfl) rfl ?_
      refine r_aload_n dX12_learnerFor_20 rfl rfl ?_
      refine r_getR (q := 57) dX12_learnerFor_21 (ci := 12) (kf := 2) rfl (Nat.le_of_ble_eq_true rfl) (by decide) (by decide) rfl fl_X12_16 (Or.inl rfl) rfl ?_
      refine r_callS_eV dX12_learnerFor_24 (c_X12_copies g hS) mf_X12_copies mt_X12_copies ml_X12_169 rfl rfl (Nat.le_of_ble_eq_true rfl) ⟨(Nat.le_of_ble_eq_true rfl), (Nat.le_of_ble_eq_true rfl)⟩ ⟨(Nat.le_of_ble_eq_true rfl), (Nat.le_of_ble_eq_true rfl)⟩ (fun S_24 q_24 z_24 => ?_)
      obtain ⟨ka, l57⟩ := q_24
      obtain ⟨Ma, rfl⟩ := sOk_gs ka.1
      have a55 : Ma 55 = M0 55 := ka.2.1 55 (by decide) (by decide)
      have a57 : Ma 57 = ovr (M0 55) (M0 57) := l57
      have hIa : InvR (Ma 55) := a55 ▸ hI
      refine r_bipush (v := (-3)) dX12_learnerFor_27 (by decide) ?_
      refine r_istore_n dX12_learnerFor_29 rfl (by decide) ?_
      refine r_aload_n dX12_learnerFor_30 rfl rfl ?_
      refine r_iload_n dX12_learnerFor_31 rfl rfl ?_
      refine r_callV_eI (ci := 12) dX12_learnerFor_32 (s_X12_takenBy g ka.1 hIa a57 (fun x hx => congrFun a55 x) (m) (by omega)) mf_X12_takenBy mi_X12_takenBy se_X12_X12_X12_takenBy ml_X12_221 rfl rfl (Nat.le_of_ble_eq_true rfl) rfl (by decide) rfl (Nat.le_of_ble_eq_true rfl) ⟨(Nat.le_of_ble_eq_true rfl), (Nat.le_of_ble_eq_true rfl)⟩ ⟨(Nat.le_of_ble_eq_true rfl), (Nat.le_of_ble_eq_true rfl)⟩ (fun r_32 S_32 q_32 z_32 => ?_)
      obtain ⟨hx32, kt0, vt0⟩ := q_32
      rw [show (Gs Ma).2.2.2 55 = _ from a55] at hx32
      have kz0 : kp [57, 59, 60] (Gs M0) S_32 := kp_fix ((ka.mono (by decide)).tr (kt0.mono (by decide))) vt0
      have z570 : S_32.2.2.2 57 = ovr (M0 55) (M0 57) := (kt0.2.1 57 (by decide) (by decide)).trans a57
      refine r_istore dX12_learnerFor_35 (by decide) ?_
      refine r_iconst (v := 0) dX12_learnerFor_37 (by decide) ?_
      refine r_istore dX12_learnerFor_38 (by decide) ?_
      have lp : ∀ (j_ : Nat) (j : Nat) (best most : Int32) (S1 : pS) (hk : kp [57, 59, 60] (Gs M0) S1) (h57 : S1.2.2.2 57 = ovr (M0 55) (M0 57)) (hb : best = (mxR (fun k => goR (upd (M0 55) (16 + 11 * k + (3 + jp)) 99) m 7) (-3) (goR (M0 55) m 7) j).1) (hm : most = (mxR (fun k => goR (upd (M0 55) (16 + 11 * k + (3 + jp)) 99) m 7) (-3) (goR (M0 55) m 7) j).2) (hj8 : j ≤ plR (M0 55)), plR (M0 55) - j < j_ → PW g mX12_learnerFor (eN g (Gs M0).1 9 0 0 (eI (fun rx S1 => rx = learnerX ((Gs M0).2.2.2 55) (nI jp) (nI m) ∧ kp [57, 59, 60] (Gs M0) S1))) 40 [some (.ref 54), some (.int (nI jp)), some (.int (nI m)), some (.int best), some (.int most), some (.int (nI j)), none] [] (S1) 0 0 := by
        intro j_
        induction j_ with
        | zero => intro j best most S1 hk h57 hb hm hj8 hj; exact absurd hj (Nat.not_lt_zero _)
        | succ j_ ih =>
          intro j best most S1 hk h57 hb hm hj8 hj
          obtain ⟨M, rfl⟩ := sOk_gs hk.1
          have b55 : M 55 = M0 55 := hk.2.1 55 (by decide) (by decide)
          have b57 : M 57 = ovr (M0 55) (M0 57) := h57
          have b6 : M 55 6 = nI (plR (M0 55)) := by rw [b55]; exact hpl
          refine r_iload dX12_learnerFor_40 rfl ?_
          refine r_aload_n dX12_learnerFor_42 rfl rfl ?_
          refine r_getR (q := 55) dX12_learnerFor_43 (ci := 12) (kf := 0) rfl (Nat.le_of_ble_eq_true rfl) (by decide) (by decide) rfl fl_X12_9 (Or.inl rfl) rfl ?_
          refine r_bipush (v := 6) dX12_learnerFor_46 (by decide) ?_
          refine r_iald (j := 6) dX12_learnerFor_48 rfl (Nat.le_of_ble_eq_true rfl) rfl (by decide) (by decide) ?_
          rw [show (Gs M).2.2.2 55 6 = nI (plR (M0 55)) from b6]
          refine r_icmp_geN (j) (plR (M0 55)) (tgt := 106) dX12_learnerFor_49 (by decide) (by omega) (by omega) (fun c_49 => ?_) (fun c_49 => ?_)
          · (try dsimp only [Gs_M] at c_49)
            refine r_iload_n dX12_learnerFor_106 rfl rfl ?_
            refine r_iret dX12_learnerFor_107 rfl (Nat.le_refl _) ?_
            (try dsimp only [Gs_M])
            have ej : j = plR (M0 55) := by omega
            refine ⟨_, rfl, ?_, hk⟩
            rw [learnerX, if_pos ⟨c_4, c_11⟩, cl_nI (by omega), cl_nI (by omega)]
            rw [hb, ej]
          · (try dsimp only [Gs_M] at c_49)
            refine r_aload_n dX12_learnerFor_52 rfl rfl ?_
            refine r_iload dX12_learnerFor_53 rfl ?_
            refine r_iconst (v := 3) dX12_learnerFor_55 (by decide) ?_
            refine r_iload_n dX12_learnerFor_56 rfl rfl ?_
            refine r_iaddN (3) (jp) dX12_learnerFor_57 ?_
            refine r_bipush (v := 99) dX12_learnerFor_58 (by decide) ?_
            refine r_callV_eV (ci := 12) dX12_learnerFor_60 (e_X12_puts g hk.1 (j) ((3 + jp)) (by omega) (by omega) _) mf_X12_puts mi_X12_puts se_X12_X12_X12_puts ml_X12_88 rfl rfl (Nat.le_of_ble_eq_true rfl) rfl (by decide) rfl (Nat.le_of_ble_eq_true rfl) ⟨(Nat.le_of_ble_eq_true rfl), (Nat.le_of_ble_eq_true rfl)⟩ ⟨(Nat.le_of_ble_eq_true rfl), (Nat.le_of_ble_eq_true rfl)⟩ (fun S_60 q_60 z_60 => ?_)
            obtain ⟨kp1, vp1⟩ := q_60
            obtain ⟨Mp, rfl⟩ := sOk_gs kp1.1
            have vp1 : Mp 55 = upd (M0 55) (16 + 11 * j + (3 + jp)) 99 := by rw [← b55]; exact vp1
            refine r_aload_n dX12_learnerFor_63 rfl rfl ?_
            refine r_iload_n dX12_learnerFor_64 rfl rfl ?_
            refine r_callV_eI (ci := 12) dX12_learnerFor_65 (s_X12_takenBy g kp1.1 (by show InvR (Mp 55); rw [vp1]; exact upd_inv hI (by omega) (fun k2 h => by omega)) ((kp1.2.1 57 (by decide) (by decide)).trans b57) (fun x hx => by show Mp 55 x = _; rw [vp1]; exact upd_hi hx (by omega)) (m) (by omega)) mf_X12_takenBy mi_X12_takenBy se_X12_X12_X12_takenBy ml_X12_221 rfl rfl (Nat.le_of_ble_eq_true rfl) rfl (by decide) rfl (Nat.le_of_ble_eq_true rfl) ⟨(Nat.le_of_ble_eq_true rfl), (Nat.le_of_ble_eq_true rfl)⟩ ⟨(Nat.le_of_ble_eq_true rfl), (Nat.le_of_ble_eq_true rfl)⟩ (fun r_65 S_65 q_65 z_65 => ?_)
            obtain ⟨hx65, kt, vt⟩ := q_65
            rw [show (Gs Mp).2.2.2 55 = _ from vp1] at hx65
            have kz : kp [57, 59, 60] (Gs M0) S_65 := kp_fix (((hk.mono (by decide)).tr (kp1.mono (by decide))).tr (kt.mono (by decide))) vt
            have z57 : S_65.2.2.2 57 = ovr (M0 55) (M0 57) := (kt.2.1 57 (by decide) (by decide)).trans ((kp1.2.1 57 (by decide) (by decide)).trans b57)
            subst hx65
            refine r_istore dX12_learnerFor_68 (by decide) ?_
            refine r_iload dX12_learnerFor_70 rfl ?_
            refine r_iload dX12_learnerFor_72 rfl ?_
            refine r_icmp_le (tgt := 82) dX12_learnerFor_74 (by decide) (fun c_74 => ?_) (fun c_74 => ?_)
            · (try dsimp only [Gs_M] at c_74)
              refine r_iload_n dX12_learnerFor_82 rfl rfl ?_
              refine r_istore_n dX12_learnerFor_83 rfl (by decide) ?_
              refine r_iload dX12_learnerFor_84 rfl ?_
              refine r_iload dX12_learnerFor_86 rfl ?_
              refine r_icmp_le (tgt := 96) dX12_learnerFor_88 (by decide) (fun c_88 => ?_) (fun c_88 => ?_)
              · (try dsimp only [Gs_M] at c_88)
                refine r_iload dX12_learnerFor_96 rfl ?_
                refine r_istore dX12_learnerFor_98 (by decide) ?_
                refine r_iinc (v := nI (j + 1)) dX12_learnerFor_100 rfl (nI_1 _) (by decide) ?_
                refine r_goto (tgt := 40) dX12_learnerFor_103 (by decide) ?_
                obtain ⟨y1, y2⟩ := mxR_n (v := (fun k => goR (upd (M0 55) (16 + 11 * k + (3 + jp)) 99) m 7)) hb hm c_74
                exact PW.subL (ih (j + 1) _ _ _ kz z57 y1 y2 (by omega) (by omega)) (by repeat' first | exact True.intro | refine And.intro rfl ?_)
              · (try dsimp only [Gs_M] at c_88)
                refine r_iload dX12_learnerFor_91 rfl ?_
                refine r_goto (tgt := 98) dX12_learnerFor_93 (by decide) ?_
                refine r_istore dX12_learnerFor_98 (by decide) ?_
                refine r_iinc (v := nI (j + 1)) dX12_learnerFor_100 rfl (nI_1 _) (by decide) ?_
                refine r_goto (tgt := 40) dX12_learnerFor_103 (by decide) ?_
                exact absurd c_74 c_88
            · (try dsimp only [Gs_M] at c_74)
              refine r_iload dX12_learnerFor_77 rfl ?_
              refine r_goto (tgt := 83) dX12_learnerFor_79 (by decide) ?_
              refine r_istore_n dX12_learnerFor_83 rfl (by decide) ?_
              refine r_iload dX12_learnerFor_84 rfl ?_
              refine r_iload dX12_learnerFor_86 rfl ?_
              refine r_icmp_le (tgt := 96) dX12_learnerFor_88 (by decide) (fun c_88 => ?_) (fun c_88 => ?_)
              · (try dsimp only [Gs_M] at c_88)
                refine r_iload dX12_learnerFor_96 rfl ?_
                refine r_istore dX12_learnerFor_98 (by decide) ?_
                refine r_iinc (v := nI (j + 1)) dX12_learnerFor_100 rfl (nI_1 _) (by decide) ?_
                refine r_goto (tgt := 40) dX12_learnerFor_103 (by decide) ?_
                exact absurd c_88 c_74
              · (try dsimp only [Gs_M] at c_88)
                refine r_iload dX12_learnerFor_91 rfl ?_
                refine r_goto (tgt := 98) dX12_learnerFor_93 (by decide) ?_
                refine r_istore dX12_learnerFor_98 (by decide) ?_
                refine r_iinc (v := nI (j + 1)) dX12_learnerFor_100 rfl (nI_1 _) (by decide) ?_
                refine r_goto (tgt := 40) dX12_learnerFor_103 (by decide) ?_
                obtain ⟨y1, y2⟩ := mxR_y (v := (fun k => goR (upd (M0 55) (16 + 11 * k + (3 + jp)) 99) m 7)) hm c_74
                exact PW.subL (ih (j + 1) _ _ _ kz z57 y1 y2 (by omega) (by omega)) (by repeat' first | exact True.intro | refine And.intro rfl ?_)
      exact PW.subL (lp (plR (M0 55) + 1) 0 _ _ _ kz0 z570 rfl hx32 (by omega) (by omega)) (by repeat' first | exact True.intro | refine And.intro rfl ?_)
    · have c_11 := bI_0 c_11
      (try dsimp only [Gs_M] at c_11)
      refine r_iconst (v := (-1)) dX12_learnerFor_14 (by decide) ?_
      refine r_iret dX12_learnerFor_15 rfl (Nat.le_refl _) ?_
      (try dsimp only [Gs_M])
      refine ⟨_, rfl, ?_, kp.rf hS⟩
      rw [learnerX, if_neg (fun z => c_11 z.2)]
