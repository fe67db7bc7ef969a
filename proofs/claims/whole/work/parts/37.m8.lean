set_option maxRecDepth 20000 in
set_option maxHeartbeats 1000000 in
theorem s_X12_firstWith_h (g : pG) {S : pS} (hS : sOk S) (hI : InvR (S.2.2.2 55)) : MS g mX12_firstWith 8 0 0 [.ref 54, .int (-1), .int 0] (S) (eI (fun rx S1 => rx = houseR ((S).2.2.2 55) ∧ kp [57, 59, 60] (S) S1)) := by
  obtain ⟨M0, rfl⟩ := sOk_gs hS
  refine MS.of pn_X12 (Nat.le_of_ble_eq_true rfl) ?_
  refine r_aload_n dX12_firstWith_0 rfl rfl ?_
  refine r_getR (q := 55) dX12_firstWith_1 (ci := 12) (kf := 0) rfl (Nat.le_of_ble_eq_true rfl) (by decide) (by decide) rfl fl_X12_9 (Or.inl rfl) rfl ?_
  refine r_aload_n dX12_firstWith_4 rfl rfl ?_
  refine r_getR (q := 57) dX12_firstWith_5 (ci := 12) (kf := 2) rfl (Nat.le_of_ble_eq_true rfl) (by decide) (by decide) rfl fl_X12_16 (Or.inl rfl) rfl ?_
  refine r_callS_eV dX12_firstWith_8 (c_X12_copies g hS) mf_X12_copies mt_X12_copies ml_X12_169 rfl rfl (Nat.le_of_ble_eq_true rfl) ⟨(Nat.le_of_ble_eq_true rfl), (Nat.le_of_ble_eq_true rfl)⟩ ⟨(Nat.le_of_ble_eq_true rfl), (Nat.le_of_ble_eq_true rfl)⟩ (fun S_8 q_8 z_8 => ?_)
  obtain ⟨ka, l57⟩ := q_8
  obtain ⟨Ma, rfl⟩ := sOk_gs ka.1
  have a55 : Ma 55 = M0 55 := ka.2.1 55 (by decide) (by decide)
  have a57 : Ma 57 = ovr (M0 55) (M0 57) := l57
  have hIa : InvR (Ma 55) := a55 ▸ hI
  refine r_bipush (v := (-3)) dX12_firstWith_11 (by decide) ?_
  refine r_istore_n dX12_firstWith_13 rfl (by decide) ?_
  refine r_iconst (v := 0) dX12_firstWith_14 (by decide) ?_
  refine r_istore dX12_firstWith_15 (by decide) ?_
  have lp : ∀ (j_ : Nat) (n : Nat) (found : Int32) (S1 : pS) (hk : kp [55, 57, 59, 60] (Gs M0) S1) (h57 : S1.2.2.2 57 = ovr (M0 55) (M0 57)) (h55 : S1.2.2.2 55 = goR (M0 55) n) (hf : found = fwR (fun n => decide (cutR (cst (goR (M0 55) n)) 8 = 0)) n) (hn : n ≤ 61), 62 - n < j_ → PW g mX12_firstWith (eN g (Gs M0).1 8 0 0 (eI (fun rx S1 => rx = houseR ((Gs M0).2.2.2 55) ∧ kp [57, 59, 60] (Gs M0) S1))) 17 [some (.ref 54), some (.int (-1)), some (.int 0), some (.int found), some (.int (nI n)), none] [] (S1) 0 0 := by
    intro j_
    induction j_ with
    | zero => intro n found S1 hk h57 h55 hf hn hj; exact absurd hj (Nat.not_lt_zero _)
    | succ j_ ih =>
      intro n found S1 hk h57 h55 hf hn hj
      obtain ⟨M, rfl⟩ := sOk_gs hk.1
      have v55 : M 55 = goR (M0 55) n := h55
      have hIn : InvR (M 55) := v55 ▸ goR_inv hI n
      refine r_iload dX12_firstWith_17 rfl ?_
      refine r_bipush (v := 60) dX12_firstWith_19 (by decide) ?_
      refine r_icmp_gtN (n) (60) (tgt := 85) dX12_firstWith_21 (by decide) (by omega) (by omega) (fun c_21 => ?_) (fun c_21 => ?_)
      · (try dsimp only [Gs_M] at c_21)
        refine r_aload_n dX12_firstWith_85 rfl rfl ?_
        refine r_getR (q := 57) dX12_firstWith_86 (ci := 12) (kf := 2) rfl (Nat.le_of_ble_eq_true rfl) (by decide) (by decide) rfl fl_X12_16 (Or.inl rfl) rfl ?_
        refine r_aload_n dX12_firstWith_89 rfl rfl ?_
        refine r_getR (q := 55) dX12_firstWith_90 (ci := 12) (kf := 0) rfl (Nat.le_of_ble_eq_true rfl) (by decide) (by decide) rfl fl_X12_9 (Or.inl rfl) rfl ?_
        refine r_callS_eV dX12_firstWith_93 (c_X12_copies3 g h57 (kp.rf hk.1) (fun x hx => by show M 55 x = _; rw [v55]; exact goR_hi hI hx n)) mf_X12_copies mt_X12_copies ml_X12_169 rfl rfl (Nat.le_of_ble_eq_true rfl) ⟨(Nat.le_of_ble_eq_true rfl), (Nat.le_of_ble_eq_true rfl)⟩ ⟨(Nat.le_of_ble_eq_true rfl), (Nat.le_of_ble_eq_true rfl)⟩ (fun S_93 q_93 z_93 => ?_)
        refine r_iload_n dX12_firstWith_96 rfl rfl ?_
        refine r_iret dX12_firstWith_97 rfl (Nat.le_refl _) ?_
        (try dsimp only [Gs_M])
        exact ⟨_, rfl, (hf.trans (by rw [show n = 61 by omega]; rfl)), kp_fix ((hk.mono (by decide)).tr (q_93.1.mono (by decide))) q_93.2⟩
      · (try dsimp only [Gs_M] at c_21)
        refine r_iload_n dX12_firstWith_24 rfl rfl ?_
        refine r_bipush (v := (-3)) dX12_firstWith_25 (by decide) ?_
        refine r_icmp_ne (tgt := 85) dX12_firstWith_27 (by decide) (fun c_27 => ?_) (fun c_27 => ?_)
        · (try dsimp only [Gs_M] at c_27)
          refine r_aload_n dX12_firstWith_85 rfl rfl ?_
          refine r_getR (q := 57) dX12_firstWith_86 (ci := 12) (kf := 2) rfl (Nat.le_of_ble_eq_true rfl) (by decide) (by decide) rfl fl_X12_16 (Or.inl rfl) rfl ?_
          refine r_aload_n dX12_firstWith_89 rfl rfl ?_
          refine r_getR (q := 55) dX12_firstWith_90 (ci := 12) (kf := 0) rfl (Nat.le_of_ble_eq_true rfl) (by decide) (by decide) rfl fl_X12_9 (Or.inl rfl) rfl ?_
          refine r_callS_eV dX12_firstWith_93 (c_X12_copies3 g h57 (kp.rf hk.1) (fun x hx => by show M 55 x = _; rw [v55]; exact goR_hi hI hx n)) mf_X12_copies mt_X12_copies ml_X12_169 rfl rfl (Nat.le_of_ble_eq_true rfl) ⟨(Nat.le_of_ble_eq_true rfl), (Nat.le_of_ble_eq_true rfl)⟩ ⟨(Nat.le_of_ble_eq_true rfl), (Nat.le_of_ble_eq_true rfl)⟩ (fun S_93 q_93 z_93 => ?_)
          refine r_iload_n dX12_firstWith_96 rfl rfl ?_
          refine r_iret dX12_firstWith_97 rfl (Nat.le_refl _) ?_
          (try dsimp only [Gs_M])
          exact ⟨_, rfl, (fwR_end hf c_27 (by omega)), kp_fix ((hk.mono (by decide)).tr (q_93.1.mono (by decide))) q_93.2⟩
        · (try dsimp only [Gs_M] at c_27)
          refine r_aload_n dX12_firstWith_30 rfl rfl ?_
          refine r_callV_eI (ci := 12) dX12_firstWith_31 (s_X12_cutNow g hk.1 hIn) mf_X12_cutNow mi_X12_cutNow se_X12_X12_X12_cutNow ml_X12_203 rfl rfl (Nat.le_of_ble_eq_true rfl) rfl (by decide) rfl (Nat.le_of_ble_eq_true rfl) ⟨(Nat.le_of_ble_eq_true rfl), (Nat.le_of_ble_eq_true rfl)⟩ ⟨(Nat.le_of_ble_eq_true rfl), (Nat.le_of_ble_eq_true rfl)⟩ (fun r_31 S_31 q_31 z_31 => ?_)
          obtain ⟨hx31, hb31⟩ := q_31
          have hk31 := hb31.1
          have hc31 := hb31.2
          obtain ⟨Mb, rfl⟩ := sOk_gs hk31.1
          have w55 : Mb 55 = goR (M0 55) n := (hk31.2.1 55 (by decide) (by decide)).trans v55
          rw [show (Gs M).2.2.2 55 = _ from v55] at hx31 hc31
          have hIb : InvR (Mb 55) := w55 ▸ goR_inv hI n
          refine r_if_ne (tgt := 41) dX12_firstWith_34 (by decide) (fun c_34 => ?_) (fun c_34 => ?_)
          · (try dsimp only [Gs_M] at c_34)
            refine r_iconst (v := 0) dX12_firstWith_41 (by decide) ?_
            refine r_istore dX12_firstWith_42 (by decide) ?_
            refine r_iload_n dX12_firstWith_44 rfl rfl ?_
            refine r_if_ge (tgt := 56) dX12_firstWith_45 (by decide) (fun c => absurd c (by decide)) (fun _ => ?_)
            refine r_iload dX12_firstWith_48 rfl ?_
            refine r_if_eq (tgt := 71) dX12_firstWith_50 (by decide) (fun _ => ?_) (fun c => absurd c (by decide))
            refine r_bipush (v := (-3)) dX12_firstWith_71 (by decide) ?_
            refine r_istore_n dX12_firstWith_73 rfl (by decide) ?_
            refine r_aload_n dX12_firstWith_74 rfl rfl ?_
            refine r_iconst (v := 1) dX12_firstWith_75 (by decide) ?_
            refine r_callV_eV (ci := 12) dX12_firstWith_76 (s_X12_goes g hk31.1 hIb 1 (by omega)) mf_X12_goes mi_X12_goes se_X12_X12_X12_goes ml_X12_191 rfl rfl (Nat.le_of_ble_eq_true rfl) rfl (by decide) rfl (Nat.le_of_ble_eq_true rfl) ⟨(Nat.le_of_ble_eq_true rfl), (Nat.le_of_ble_eq_true rfl)⟩ ⟨(Nat.le_of_ble_eq_true rfl), (Nat.le_of_ble_eq_true rfl)⟩ (fun S_76 q_76 z_76 => ?_)
            obtain ⟨kg, vg⟩ := q_76
            have kz : kp [55, 57, 59, 60] (Gs M0) S_76 := (hk.tr (hk31.mono (by decide))).tr (kg.mono (by decide))
            have z57 : S_76.2.2.2 57 = ovr (M0 55) (M0 57) := (kg.2.1 57 (by decide) (by decide)).trans ((hk31.2.1 57 (by decide) (by decide)).trans h57)
            have z55 : S_76.2.2.2 55 = goR (M0 55) (n + 1) := vg.trans (by rw [show (Gs Mb).2.2.2 55 = _ from w55]; rfl)
            refine r_iinc (v := nI (n + 1)) dX12_firstWith_79 rfl (nI_1 _) (by decide) ?_
            refine r_goto (tgt := 17) dX12_firstWith_82 (by decide) ?_
            exact PW.subL (ih (n + 1) _ _ kz z57 z55 (fwR_n (ok := (fun n => decide (cutR (cst (goR (M0 55) n)) 8 = 0))) (hf.symm.trans c_27) (by rw [← hx31]; exact fun z => c_34 (of_decide_eq_true z))) (by omega) (by omega)) (by repeat' first | exact True.intro | refine And.intro rfl ?_)
          · (try dsimp only [Gs_M] at c_34)
            refine r_iconst (v := 1) dX12_firstWith_37 (by decide) ?_
            refine r_goto (tgt := 42) dX12_firstWith_38 (by decide) ?_
            refine r_istore dX12_firstWith_42 (by decide) ?_
            refine r_iload_n dX12_firstWith_44 rfl rfl ?_
            refine r_if_ge (tgt := 56) dX12_firstWith_45 (by decide) (fun c => absurd c (by decide)) (fun _ => ?_)
            refine r_iload dX12_firstWith_48 rfl ?_
            refine r_if_eq (tgt := 71) dX12_firstWith_50 (by decide) (fun c => absurd c (by decide)) (fun _ => ?_)
            refine r_goto (tgt := 66) dX12_firstWith_53 (by decide) ?_
            refine r_iload dX12_firstWith_66 rfl ?_
            refine r_goto (tgt := 73) dX12_firstWith_68 (by decide) ?_
            refine r_istore_n dX12_firstWith_73 rfl (by decide) ?_
            refine r_aload_n dX12_firstWith_74 rfl rfl ?_
            refine r_iconst (v := 1) dX12_firstWith_75 (by decide) ?_
            refine r_callV_eV (ci := 12) dX12_firstWith_76 (s_X12_goes g hk31.1 hIb 1 (by omega)) mf_X12_goes mi_X12_goes se_X12_X12_X12_goes ml_X12_191 rfl rfl (Nat.le_of_ble_eq_true rfl) rfl (by decide) rfl (Nat.le_of_ble_eq_true rfl) ⟨(Nat.le_of_ble_eq_true rfl), (Nat.le_of_ble_eq_true rfl)⟩ ⟨(Nat.le_of_ble_eq_true rfl), (Nat.le_of_ble_eq_true rfl)⟩ (fun S_76 q_76 z_76 => ?_)
            obtain ⟨kg, vg⟩ := q_76
            have kz : kp [55, 57, 59, 60] (Gs M0) S_76 := (hk.tr (hk31.mono (by decide))).tr (kg.mono (by decide))
            have z57 : S_76.2.2.2 57 = ovr (M0 55) (M0 57) := (kg.2.1 57 (by decide) (by decide)).trans ((hk31.2.1 57 (by decide) (by decide)).trans h57)
            have z55 : S_76.2.2.2 55 = goR (M0 55) (n + 1) := vg.trans (by rw [show (Gs Mb).2.2.2 55 = _ from w55]; rfl)
            refine r_iinc (v := nI (n + 1)) dX12_firstWith_79 rfl (nI_1 _) (by decide) ?_
            refine r_goto (tgt := 17) dX12_firstWith_82 (by decide) ?_
            exact PW.subL (ih (n + 1) _ _ kz z57 z55 (fwR_y (ok := (fun n => decide (cutR (cst (goR (M0 55) n)) 8 = 0))) (hf.symm.trans c_27) (by rw [← hx31]; exact decide_eq_true c_34)) (by omega) (by omega)) (by repeat' first | exact True.intro | refine And.intro rfl ?_)
  exact PW.subL (lp 63 0 (-3) _ (ka.mono (by decide)) a57 a55 rfl (by omega) (by omega)) (by repeat' first | exact True.intro | refine And.intro rfl ?_)
set_option maxRecDepth 20000 in
set_option maxHeartbeats 1000000 in
theorem s_X12_firstWith_p (g : pG) {S : pS} (hS : sOk S) (hI : InvR (S.2.2.2 55)) (k p : Nat) (hk8 : k < 8) (hp8 : p < 8) : MS g mX12_firstWith 8 0 0 [.ref 54, .int (nI k), .int (nI p)] (S) (eI (fun rx S1 => rx = playsR ((S).2.2.2 55) k p ∧ kp [57, 59, 60] (S) S1)) := by
  obtain ⟨M0, rfl⟩ := sOk_gs hS
  refine MS.of pn_X12 (Nat.le_of_ble_eq_true rfl) ?_
  refine r_aload_n dX12_firstWith_0 rfl rfl ?_
  refine r_getR (q := 55) dX12_firstWith_1 (ci := 12) (kf := 0) rfl (Nat.le_of_ble_eq_true rfl) (by decide) (by decide) rfl fl_X12_9 (Or.inl rfl) rfl ?_
  refine r_aload_n dX12_firstWith_4 rfl rfl ?_
  refine r_getR (q := 57) dX12_firstWith_5 (ci := 12) (kf := 2) rfl (Nat.le_of_ble_eq_true rfl) (by decide) (by decide) rfl fl_X12_16 (Or.inl rfl) rfl ?_
  refine r_callS_eV dX12_firstWith_8 (c_X12_copies g hS) mf_X12_copies mt_X12_copies ml_X12_169 rfl rfl (Nat.le_of_ble_eq_true rfl) ⟨(Nat.le_of_ble_eq_true rfl), (Nat.le_of_ble_eq_true rfl)⟩ ⟨(Nat.le_of_ble_eq_true rfl), (Nat.le_of_ble_eq_true rfl)⟩ (fun S_8 q_8 z_8 => ?_)
  obtain ⟨ka, l57⟩ := q_8
  obtain ⟨Ma, rfl⟩ := sOk_gs ka.1
  have a55 : Ma 55 = M0 55 := ka.2.1 55 (by decide) (by decide)
  have a57 : Ma 57 = ovr (M0 55) (M0 57) := l57
  have hIa : InvR (Ma 55) := a55 ▸ hI
  refine r_bipush (v := (-3)) dX12_firstWith_11 (by decide) ?_
  refine r_istore_n dX12_firstWith_13 rfl (by decide) ?_
  refine r_iconst (v := 0) dX12_firstWith_14 (by decide) ?_
  refine r_istore dX12_firstWith_15 (by decide) ?_
  have lp : ∀ (j_ : Nat) (n : Nat) (found : Int32) (S1 : pS) (hk : kp [55, 57, 59, 60] (Gs M0) S1) (h57 : S1.2.2.2 57 = ovr (M0 55) (M0 57)) (h55 : S1.2.2.2 55 = goR (M0 55) n) (hf : found = fwR (fun n => decide (rol (goR (M0 55) n) k = nI p)) n) (hn : n ≤ 61), 62 - n < j_ → PW g mX12_firstWith (eN g (Gs M0).1 8 0 0 (eI (fun rx S1 => rx = playsR ((Gs M0).2.2.2 55) k p ∧ kp [57, 59, 60] (Gs M0) S1))) 17 [some (.ref 54), some (.int (nI k)), some (.int (nI p)), some (.int found), some (.int (nI n)), none] [] (S1) 0 0 := by
    intro j_
    induction j_ with
    | zero => intro n found S1 hk h57 h55 hf hn hj; exact absurd hj (Nat.not_lt_zero _)
    | succ j_ ih =>
      intro n found S1 hk h57 h55 hf hn hj
      obtain ⟨M, rfl⟩ := sOk_gs hk.1
      have v55 : M 55 = goR (M0 55) n := h55
      have hIn : InvR (M 55) := v55 ▸ goR_inv hI n
      refine r_iload dX12_firstWith_17 rfl ?_
      refine r_bipush (v := 60) dX12_firstWith_19 (by decide) ?_
      refine r_icmp_gtN (n) (60) (tgt := 85) dX12_firstWith_21 (by decide) (by omega) (by omega) (fun c_21 => ?_) (fun c_21 => ?_)
      · (try dsimp only [Gs_M] at c_21)
        refine r_aload_n dX12_firstWith_85 rfl rfl ?_
        refine r_getR (q := 57) dX12_firstWith_86 (ci := 12) (kf := 2) rfl (Nat.le_of_ble_eq_true rfl) (by decide) (by decide) rfl fl_X12_16 (Or.inl rfl) rfl ?_
        refine r_aload_n dX12_firstWith_89 rfl rfl ?_
        refine r_getR (q := 55) dX12_firstWith_90 (ci := 12) (kf := 0) rfl (Nat.le_of_ble_eq_true rfl) (by decide) (by decide) rfl fl_X12_9 (Or.inl rfl) rfl ?_
        refine r_callS_eV dX12_firstWith_93 (c_X12_copies3 g h57 (kp.rf hk.1) (fun x hx => by show M 55 x = _; rw [v55]; exact goR_hi hI hx n)) mf_X12_copies mt_X12_copies ml_X12_169 rfl rfl (Nat.le_of_ble_eq_true rfl) ⟨(Nat.le_of_ble_eq_true rfl), (Nat.le_of_ble_eq_true rfl)⟩ ⟨(Nat.le_of_ble_eq_true rfl), (Nat.le_of_ble_eq_true rfl)⟩ (fun S_93 q_93 z_93 => ?_)
        refine r_iload_n dX12_firstWith_96 rfl rfl ?_
        refine r_iret dX12_firstWith_97 rfl (Nat.le_refl _) ?_
        (try dsimp only [Gs_M])
        exact ⟨_, rfl, (hf.trans (by rw [show n = 61 by omega]; rfl)), kp_fix ((hk.mono (by decide)).tr (q_93.1.mono (by decide))) q_93.2⟩
      · (try dsimp only [Gs_M] at c_21)
        refine r_iload_n dX12_firstWith_24 rfl rfl ?_
        refine r_bipush (v := (-3)) dX12_firstWith_25 (by decide) ?_
        refine r_icmp_ne (tgt := 85) dX12_firstWith_27 (by decide) (fun c_27 => ?_) (fun c_27 => ?_)
        · (try dsimp only [Gs_M] at c_27)
          refine r_aload_n dX12_firstWith_85 rfl rfl ?_
          refine r_getR (q := 57) dX12_firstWith_86 (ci := 12) (kf := 2) rfl (Nat.le_of_ble_eq_true rfl) (by decide) (by decide) rfl fl_X12_16 (Or.inl rfl) rfl ?_
          refine r_aload_n dX12_firstWith_89 rfl rfl ?_
          refine r_getR (q := 55) dX12_firstWith_90 (ci := 12) (kf := 0) rfl (Nat.le_of_ble_eq_true rfl) (by decide) (by decide) rfl fl_X12_9 (Or.inl rfl) rfl ?_
          refine r_callS_eV dX12_firstWith_93 (c_X12_copies3 g h57 (kp.rf hk.1) (fun x hx => by show M 55 x = _; rw [v55]; exact goR_hi hI hx n)) mf_X12_copies mt_X12_copies ml_X12_169 rfl rfl (Nat.le_of_ble_eq_true rfl) ⟨(Nat.le_of_ble_eq_true rfl), (Nat.le_of_ble_eq_true rfl)⟩ ⟨(Nat.le_of_ble_eq_true rfl), (Nat.le_of_ble_eq_true rfl)⟩ (fun S_93 q_93 z_93 => ?_)
          refine r_iload_n dX12_firstWith_96 rfl rfl ?_
          refine r_iret dX12_firstWith_97 rfl (Nat.le_refl _) ?_
          (try dsimp only [Gs_M])
          exact ⟨_, rfl, (fwR_end hf c_27 (by omega)), kp_fix ((hk.mono (by decide)).tr (q_93.1.mono (by decide))) q_93.2⟩
        · (try dsimp only [Gs_M] at c_27)
          refine r_aload_n dX12_firstWith_30 rfl rfl ?_
          refine r_callV_eI (ci := 12) dX12_firstWith_31 (s_X12_cutNow g hk.1 hIn) mf_X12_cutNow mi_X12_cutNow se_X12_X12_X12_cutNow ml_X12_203 rfl rfl (Nat.le_of_ble_eq_true rfl) rfl (by decide) rfl (Nat.le_of_ble_eq_true rfl) ⟨(Nat.le_of_ble_eq_true rfl), (Nat.le_of_ble_eq_true rfl)⟩ ⟨(Nat.le_of_ble_eq_true rfl), (Nat.le_of_ble_eq_true rfl)⟩ (fun r_31 S_31 q_31 z_31 => ?_)
          obtain ⟨hx31, hb31⟩ := q_31
          have hk31 := hb31.1
          have hc31 := hb31.2
          obtain ⟨Mb, rfl⟩ := sOk_gs hk31.1
          have w55 : Mb 55 = goR (M0 55) n := (hk31.2.1 55 (by decide) (by decide)).trans v55
          rw [show (Gs M).2.2.2 55 = _ from v55] at hx31 hc31
          have hIb : InvR (Mb 55) := w55 ▸ goR_inv hI n
          refine r_if_ne (tgt := 41) dX12_firstWith_34 (by decide) (fun c_34 => ?_) (fun c_34 => ?_)
          · (try dsimp only [Gs_M] at c_34)
            refine r_iconst (v := 0) dX12_firstWith_41 (by decide) ?_
            refine r_istore dX12_firstWith_42 (by decide) ?_
            refine r_iload_n dX12_firstWith_44 rfl rfl ?_
            refine r_if_ge (tgt := 56) dX12_firstWith_45 (by decide) (fun c_45 => ?_) (fun c_45 => ?_)
            · (try dsimp only [Gs_M] at c_45)
              refine r_aload_n dX12_firstWith_56 rfl rfl ?_
              refine r_getR (q := 60) dX12_firstWith_57 (ci := 12) (kf := 6) rfl (Nat.le_of_ble_eq_true rfl) (by decide) (by decide) rfl fl_X12_25 (Or.inl rfl) rfl ?_
              refine r_iload_n dX12_firstWith_60 rfl rfl ?_
              refine r_iald (j := k) dX12_firstWith_61 rfl (Nat.le_of_ble_eq_true rfl) rfl (by omega) (by decide) ?_
              refine r_iload_n dX12_firstWith_62 rfl rfl ?_
              refine r_icmp_ne (tgt := 71) dX12_firstWith_63 (by decide) (fun c_63 => ?_) (fun c_63 => ?_)
              · (try dsimp only [Gs_M] at c_63)
                refine r_bipush (v := (-3)) dX12_firstWith_71 (by decide) ?_
                refine r_istore_n dX12_firstWith_73 rfl (by decide) ?_
                refine r_aload_n dX12_firstWith_74 rfl rfl ?_
                refine r_iconst (v := 1) dX12_firstWith_75 (by decide) ?_
                refine r_callV_eV (ci := 12) dX12_firstWith_76 (s_X12_goes g hk31.1 hIb 1 (by omega)) mf_X12_goes mi_X12_goes se_X12_X12_X12_goes ml_X12_191 rfl rfl (Nat.le_of_ble_eq_true rfl) rfl (by decide) rfl (Nat.le_of_ble_eq_true rfl) ⟨(Nat.le_of_ble_eq_true rfl), (Nat.le_of_ble_eq_true rfl)⟩ ⟨(Nat.le_of_ble_eq_true rfl), (Nat.le_of_ble_eq_true rfl)⟩ (fun S_76 q_76 z_76 => ?_)
                obtain ⟨kg, vg⟩ := q_76
                have kz : kp [55, 57, 59, 60] (Gs M0) S_76 := (hk.tr (hk31.mono (by decide))).tr (kg.mono (by decide))
                have z57 : S_76.2.2.2 57 = ovr (M0 55) (M0 57) := (kg.2.1 57 (by decide) (by decide)).trans ((hk31.2.1 57 (by decide) (by decide)).trans h57)
                have z55 : S_76.2.2.2 55 = goR (M0 55) (n + 1) := vg.trans (by rw [show (Gs Mb).2.2.2 55 = _ from w55]; rfl)
                refine r_iinc (v := nI (n + 1)) dX12_firstWith_79 rfl (nI_1 _) (by decide) ?_
                refine r_goto (tgt := 17) dX12_firstWith_82 (by decide) ?_
                exact PW.subL (ih (n + 1) _ _ kz z57 z55 (fwR_n (ok := (fun n => decide (rol (goR (M0 55) n) k = nI p))) (hf.symm.trans c_27) (fun z => c_63 ((hc31 k hk8).2.trans (of_decide_eq_true z)))) (by omega) (by omega)) (by repeat' first | exact True.intro | refine And.intro rfl ?_)
              · (try dsimp only [Gs_M] at c_63)
                refine r_iload dX12_firstWith_66 rfl ?_
                refine r_goto (tgt := 73) dX12_firstWith_68 (by decide) ?_
                refine r_istore_n dX12_firstWith_73 rfl (by decide) ?_
                refine r_aload_n dX12_firstWith_74 rfl rfl ?_
                refine r_iconst (v := 1) dX12_firstWith_75 (by decide) ?_
                refine r_callV_eV (ci := 12) dX12_firstWith_76 (s_X12_goes g hk31.1 hIb 1 (by omega)) mf_X12_goes mi_X12_goes se_X12_X12_X12_goes ml_X12_191 rfl rfl (Nat.le_of_ble_eq_true rfl) rfl (by decide) rfl (Nat.le_of_ble_eq_true rfl) ⟨(Nat.le_of_ble_eq_true rfl), (Nat.le_of_ble_eq_true rfl)⟩ ⟨(Nat.le_of_ble_eq_true rfl), (Nat.le_of_ble_eq_true rfl)⟩ (fun S_76 q_76 z_76 => ?_)
                obtain ⟨kg, vg⟩ := q_76
                have kz : kp [55, 57, 59, 60] (Gs M0) S_76 := (hk.tr (hk31.mono (by decide))).tr (kg.mono (by decide))
                have z57 : S_76.2.2.2 57 = ovr (M0 55) (M0 57) := (kg.2.1 57 (by decide) (by decide)).trans ((hk31.2.1 57 (by decide) (by decide)).trans h57)
                have z55 : S_76.2.2.2 55 = goR (M0 55) (n + 1) := vg.trans (by rw [show (Gs Mb).2.2.2 55 = _ from w55]; rfl)
                refine r_iinc (v := nI (n + 1)) dX12_firstWith_79 rfl (nI_1 _) (by decide) ?_
                refine r_goto (tgt := 17) dX12_firstWith_82 (by decide) ?_
                exact PW.subL (ih (n + 1) _ _ kz z57 z55 (fwR_y (ok := (fun n => decide (rol (goR (M0 55) n) k = nI p))) (hf.symm.trans c_27) (decide_eq_true ((hc31 k hk8).2.symm.trans c_63))) (by omega) (by omega)) (by repeat' first | exact True.intro | refine And.intro rfl ?_)
            · (try dsimp only [Gs_M] at c_45)
              exact absurd (nI_pos' (by omega)) c_45
          · (try dsimp only [Gs_M] at c_34)
            refine r_iconst (v := 1) dX12_firstWith_37 (by decide) ?_
            refine r_goto (tgt := 42) dX12_firstWith_38 (by decide) ?_
            refine r_istore dX12_firstWith_42 (by decide) ?_
            refine r_iload_n dX12_firstWith_44 rfl rfl ?_
            refine r_if_ge (tgt := 56) dX12_firstWith_45 (by decide) (fun c_45 => ?_) (fun c_45 => ?_)
            · (try dsimp only [Gs_M] at c_45)
              refine r_aload_n dX12_firstWith_56 rfl rfl ?_
              refine r_getR (q := 60) dX12_firstWith_57 (ci := 12) (kf := 6) rfl (Nat.le_of_ble_eq_true rfl) (by decide) (by decide) rfl fl_X12_25 (Or.inl rfl) rfl ?_
              refine r_iload_n dX12_firstWith_60 rfl rfl ?_
              refine r_iald (j := k) dX12_firstWith_61 rfl (Nat.le_of_ble_eq_true rfl) rfl (by omega) (by decide) ?_
              refine r_iload_n dX12_firstWith_62 rfl rfl ?_
              refine r_icmp_ne (tgt := 71) dX12_firstWith_63 (by decide) (fun c_63 => ?_) (fun c_63 => ?_)
              · (try dsimp only [Gs_M] at c_63)
                refine r_bipush (v := (-3)) dX12_firstWith_71 (by decide) ?_
                refine r_istore_n dX12_firstWith_73 rfl (by decide) ?_
                refine r_aload_n dX12_firstWith_74 rfl rfl ?_
                refine r_iconst (v := 1) dX12_firstWith_75 (by decide) ?_
                refine r_callV_eV (ci := 12) dX12_firstWith_76 (s_X12_goes g hk31.1 hIb 1 (by omega)) mf_X12_goes mi_X12_goes se_X12_X12_X12_goes ml_X12_191 rfl rfl (Nat.le_of_ble_eq_true rfl) rfl (by decide) rfl (Nat.le_of_ble_eq_true rfl) ⟨(Nat.le_of_ble_eq_true rfl), (Nat.le_of_ble_eq_true rfl)⟩ ⟨(Nat.le_of_ble_eq_true rfl), (Nat.le_of_ble_eq_true rfl)⟩ (fun S_76 q_76 z_76 => ?_)
                obtain ⟨kg, vg⟩ := q_76
                have kz : kp [55, 57, 59, 60] (Gs M0) S_76 := (hk.tr (hk31.mono (by decide))).tr (kg.mono (by decide))
                have z57 : S_76.2.2.2 57 = ovr (M0 55) (M0 57) := (kg.2.1 57 (by decide) (by decide)).trans ((hk31.2.1 57 (by decide) (by decide)).trans h57)
                have z55 : S_76.2.2.2 55 = goR (M0 55) (n + 1) := vg.trans (by rw [show (Gs Mb).2.2.2 55 = _ from w55]; rfl)
                refine r_iinc (v := nI (n + 1)) dX12_firstWith_79 rfl (nI_1 _) (by decide) ?_
                refine r_goto (tgt := 17) dX12_firstWith_82 (by decide) ?_
                exact PW.subL (ih (n + 1) _ _ kz z57 z55 (fwR_n (ok := (fun n => decide (rol (goR (M0 55) n) k = nI p))) (hf.symm.trans c_27) (fun z => c_63 ((hc31 k hk8).2.trans (of_decide_eq_true z)))) (by omega) (by omega)) (by repeat' first | exact True.intro | refine And.intro rfl ?_)
              · (try dsimp only [Gs_M] at c_63)
                refine r_iload dX12_firstWith_66 rfl ?_
                refine r_goto (tgt := 73) dX12_firstWith_68 (by decide) ?_
                refine r_istore_n dX12_firstWith_73 rfl (by decide) ?_
                refine r_aload_n dX12_firstWith_74 rfl rfl ?_
                refine r_iconst (v := 1) dX12_firstWith_75 (by decide) ?_
                refine r_callV_eV (ci := 12) dX12_firstWith_76 (s_X12_goes g hk31.1 hIb 1 (by omega)) mf_X12_goes mi_X12_goes se_X12_X12_X12_goes ml_X12_191 rfl rfl (Nat.le_of_ble_eq_true rfl) rfl (by decide) rfl (Nat.le_of_ble_eq_true rfl) ⟨(Nat.le_of_ble_eq_true rfl), (Nat.le_of_ble_eq_true rfl)⟩ ⟨(Nat.le_of_ble_eq_true rfl), (Nat.le_of_ble_eq_true rfl)⟩ (fun S_76 q_76 z_76 => ?_)
                obtain ⟨kg, vg⟩ := q_76
                have kz : kp [55, 57, 59, 60] (Gs M0) S_76 := (hk.tr (hk31.mono (by decide))).tr (kg.mono (by decide))
                have z57 : S_76.2.2.2 57 = ovr (M0 55) (M0 57) := (kg.2.1 57 (by decide) (by decide)).trans ((hk31.2.1 57 (by decide) (by decide)).trans h57)
                have z55 : S_76.2.2.2 55 = goR (M0 55) (n + 1) := vg.trans (by rw [show (Gs Mb).2.2.2 55 = _ from w55]; rfl)
                refine r_iinc (v := nI (n + 1)) dX12_firstWith_79 rfl (nI_1 _) (by decide) ?_
                refine r_goto (tgt := 17) dX12_firstWith_82 (by decide) ?_
                exact PW.subL (ih (n + 1) _ _ kz z57 z55 (fwR_y (ok := (fun n => decide (rol (goR (M0 55) n) k = nI p))) (hf.symm.trans c_27) (decide_eq_true ((hc31 k hk8).2.symm.trans c_63))) (by omega) (by omega)) (by repeat' first | exact True.intro | refine And.intro rfl ?_)
            · (try dsimp only [Gs_M] at c_45)
              exact absurd (nI_pos' (by omega)) c_45
  exact PW.subL (lp 63 0 (-3) _ (ka.mono (by decide)) a57 a55 rfl (by omega) (by omega)) (by repeat' first | exact True.intro | refine And.intro rfl ?_)
set_option maxRecDepth 20000 in
set_option maxHeartbeats 1000000 in
theorem s_X12_plays (g : pG) {S : pS} (hS : sOk S) (hI : InvR (S.2.2.2 55)) (x : Int32) (p : Int32) : MS g mX12_plays 9 0 0 [.ref 54, .int x, .int p] (S) (eI (fun rx S1 => rx = playsX ((S).2.2.2 55) x p ∧ kp [57, 59, 60] (S) S1)) := by
  obtain ⟨M0, rfl⟩ := sOk_gs hS
  refine MS.of pn_X12 (Nat.le_of_ble_eq_true rfl) ?_
  refine r_aload_n dX12_plays_0 rfl rfl ?_
  refine r_iload_n dX12_plays_1 rfl rfl ?_
  refine r_callV_dI (ci := 12) dX12_plays_2 (s_X12_isPlayer g (by exact ⟨rfl, rfl, rfl⟩) _) mf_X12_isPlayer mi_X12_isPlayer se_X12_X12_X12_isPlayer ml_X12_188 rfl rfl (Nat.le_of_ble_eq_true rfl) rfl (by decide) rfl (Nat.le_of_ble_eq_true rfl) ⟨(Nat.le_of_ble_eq_true rfl), (Nat.le_of_ble_eq_true rfl)⟩ ⟨(Nat.le_of_ble_eq_true rfl), (Nat.le_of_ble_eq_true rfl)⟩ ?_
  refine r_if_eq (tgt := 24) dX12_plays_5 (by decide) (fun c_5 => ?_) (fun c_5 => ?_)
  · have c_5 := bI_0 c_5
    (try dsimp only [Gs_M] at c_5)
    refine r_iconst (v := (-1)) dX12_plays_24 (by decide) ?_
    refine r_iret dX12_plays_25 rfl (Nat.le_refl _) ?_
    (try dsimp only [Gs_M])
    refine ⟨_, rfl, ?_, kp.rf hS⟩
    · rw [playsX, if_neg (fun z => c_5 z.1)]
  · have c_5 := bI_n c_5
    (try dsimp only [Gs_M] at c_5)
    refine r_iload_n dX12_plays_8 rfl rfl ?_
    refine r_callS_dI dX12_plays_9 (s_X12_isPart g _ _) mf_X12_isPart mt_X12_isPart ml_X12_182 rfl rfl (Nat.le_of_ble_eq_true rfl) ⟨(Nat.le_of_ble_eq_true rfl), (Nat.le_of_ble_eq_true rfl)⟩ ⟨(Nat.le_of_ble_eq_true rfl), (Nat.le_of_ble_eq_true rfl)⟩ ?_
    refine r_if_eq (tgt := 24) dX12_plays_12 (by decide) (fun c_12 => ?_) (fun c_12 => ?_)
    · have c_12 := bI_0 c_12
      (try dsimp only [Gs_M] at c_12)
      refine r_iconst (v := (-1)) dX12_plays_24 (by decide) ?_
      refine r_iret dX12_plays_25 rfl (Nat.le_refl _) ?_
      (try dsimp only [Gs_M])
      refine ⟨_, rfl, ?_, kp.rf hS⟩
      · rw [playsX, if_neg (fun z => c_12 z.2)]
    · have c_12 := bI_n c_12
      (try dsimp only [Gs_M] at c_12)
      obtain ⟨h8, hpl⟩ := hI.pl
      have h8 : plR (M0 55) ≤ 8 := h8
      have hpl : M0 55 6 = nI (plR (M0 55)) := hpl
      obtain ⟨k, hk, rfl⟩ := rngP (x := x) c_5 h8 hpl
      obtain ⟨j, hj, rfl⟩ := rng (x := p) 7 (by decide) c_12
      refine r_aload_n dX12_plays_15 rfl rfl ?_
      refine r_iload_n dX12_plays_16 rfl rfl ?_
      refine r_iload_n dX12_plays_17 rfl rfl ?_
      refine r_callV_eI (ci := 12) dX12_plays_18 (s_X12_firstWith_p g hS hI (k) (j) (by omega) (by omega)) mf_X12_firstWith mi_X12_firstWith se_X12_X12_X12_firstWith ml_X12_215 rfl rfl (Nat.le_of_ble_eq_true rfl) rfl (by decide) rfl (Nat.le_of_ble_eq_true rfl) ⟨(Nat.le_of_ble_eq_true rfl), (Nat.le_of_ble_eq_true rfl)⟩ ⟨(Nat.le_of_ble_eq_true rfl), (Nat.le_of_ble_eq_true rfl)⟩ (fun r_18 S_18 q_18 z_18 => ?_)
      refine r_goto (tgt := 25) dX12_plays_21 (by decide) ?_
      refine r_iret dX12_plays_25 rfl (Nat.le_refl _) ?_
      (try dsimp only [Gs_M])
      refine ⟨_, rfl, ?_, q_18.2⟩
      rw [playsX, if_pos (⟨c_5, c_12⟩), cl_nI (by omega), cl_nI (by omega)]
      exact q_18.1
set_option maxRecDepth 20000 in
set_option maxHeartbeats 1000000 in
theorem s_X12_house (g : pG) {S : pS} (hS : sOk S) (hI : InvR (S.2.2.2 55)) : MS g mX12_house 9 0 0 [.ref 54] (S) (eI (fun rx S1 => rx = houseR ((S).2.2.2 55) ∧ kp [57, 59, 60] (S) S1)) := by
  obtain ⟨M0, rfl⟩ := sOk_gs hS
  refine MS.of pn_X12 (Nat.le_of_ble_eq_true rfl) ?_
  refine r_aload_n dX12_house_0 rfl rfl ?_
  refine r_iconst (v := (-1)) dX12_house_1 (by decide) ?_
  refine r_iconst (v := 0) dX12_house_2 (by decide) ?_
  refine r_callV_eI (ci := 12) dX12_house_3 (s_X12_firstWith_h g hS hI) mf_X12_firstWith mi_X12_firstWith se_X12_X12_X12_firstWith ml_X12_215 rfl rfl (Nat.le_of_ble_eq_true rfl) rfl (by decide) rfl (Nat.le_of_ble_eq_true rfl) ⟨(Nat.le_of_ble_eq_true rfl), (Nat.le_of_ble_eq_true rfl)⟩ ⟨(Nat.le_of_ble_eq_true rfl), (Nat.le_of_ble_eq_true rfl)⟩ (fun r_3 S_3 q_3 z_3 => ?_)
  refine r_iret dX12_house_6 rfl (Nat.le_refl _) ?_
  (try dsimp only [Gs_M])
  exact ⟨_, rfl, q_3.1, q_3.2⟩
