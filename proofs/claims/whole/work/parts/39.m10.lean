set_option maxRecDepth 20000 in
set_option maxHeartbeats 1000000 in
theorem s_X12_showOf (g : pG) {S : pS} (hS : sOk S) (hI : InvR (S.2.2.2 55)) {W L : Nat → Int32} (hl : S.2.2.2 57 = ovr W L) (hw : ∀ x, 104 ≤ x → S.2.2.2 55 x = W x) (set : Int32) : MS g mX12_showOf 6 0 0 [.ref 54, .int set] (S) (eI (fun rx S1 => rx = showB (welR ((S).2.2.2 55) set (plR ((S).2.2.2 55))) ∧ kp [55, 59, 60] (S) S1 ∧ S1.2.2.2 55 = W)) := by
  obtain ⟨M0, rfl⟩ := sOk_gs hS
  obtain ⟨h8, hpl⟩ := hI.pl
  have h8 : plR (M0 55) ≤ 8 := h8
  have hpl : M0 55 6 = nI (plR (M0 55)) := hpl
  refine MS.of pn_X12 (Nat.le_of_ble_eq_true rfl) ?_
  refine r_iconst (v := 0) dX12_showOf_0 (by decide) ?_
  refine r_istore_n dX12_showOf_1 rfl (by decide) ?_
  have lp : ∀ (j_ : Nat) (k : Nat) (S1 : pS) (hk : kp [55] (Gs M0) S1) (h55 : S1.2.2.2 55 = welR (M0 55) set k) (hkp : k ≤ plR (M0 55)), plR (M0 55) - k < j_ → PW g mX12_showOf (eN g (Gs M0).1 6 0 0 (eI (fun rx S1 => rx = showB (welR ((Gs M0).2.2.2 55) set (plR ((Gs M0).2.2.2 55))) ∧ kp [55, 59, 60] (Gs M0) S1 ∧ S1.2.2.2 55 = W))) 2 [some (.ref 54), some (.int set), some (.int (nI k))] [] (S1) 0 0 := by
    intro j_
    induction j_ with
    | zero => intro k S1 hk h55 hkp hj; exact absurd hj (Nat.not_lt_zero _)
    | succ j_ ih =>
      intro k S1 hk h55 hkp hj
      obtain ⟨M, rfl⟩ := sOk_gs hk.1
      have b55 : M 55 = welR (M0 55) set k := h55
      have b6 : M 55 6 = nI (plR (M0 55)) := by rw [b55, welR_6]; exact hpl
      have hIb : InvR (M 55) := b55 ▸ welR_inv hI set k (by omega)
      refine r_iload_n dX12_showOf_2 rfl rfl ?_
      refine r_aload_n dX12_showOf_3 rfl rfl ?_
      refine r_getR (q := 55) dX12_showOf_4 (ci := 12) (kf := 0) rfl (Nat.le_of_ble_eq_true rfl) (by decide) (by decide) rfl fl_X12_9 (Or.inl rfl) rfl ?_
      refine r_bipush (v := 6) dX12_showOf_7 (by decide) ?_
      refine r_iald (j := 6) dX12_showOf_9 rfl (Nat.le_of_ble_eq_true rfl) rfl (by decide) (by decide) ?_
      rw [show (Gs M).2.2.2 55 6 = nI (plR (M0 55)) from b6]
      refine r_icmp_geN (k) (plR (M0 55)) (tgt := 39) dX12_showOf_10 (by decide) (by omega) (by omega) (fun c_10 => ?_) (fun c_10 => ?_)
      · (try dsimp only [Gs_M] at c_10)
        refine r_aload_n dX12_showOf_39 rfl rfl ?_
        refine r_callV_eI (ci := 12) dX12_showOf_40 (s_X12_billShow g hk.1 hIb) mf_X12_billShow mi_X12_billShow se_X12_X12_X12_billShow ml_X12_102 rfl rfl (Nat.le_of_ble_eq_true rfl) rfl (by decide) rfl (Nat.le_of_ble_eq_true rfl) ⟨(Nat.le_of_ble_eq_true rfl), (Nat.le_of_ble_eq_true rfl)⟩ ⟨(Nat.le_of_ble_eq_true rfl), (Nat.le_of_ble_eq_true rfl)⟩ (fun r_40 S_40 q_40 z_40 => ?_)
        obtain ⟨hx40, hb40⟩ := q_40
        have ek : k = plR (M0 55) := by omega
        rw [show (Gs M).2.2.2 55 = _ from b55, ek] at hx40
        obtain ⟨Mq, rfl⟩ := sOk_gs hb40.1.1
        refine r_istore_n dX12_showOf_43 rfl (by decide) ?_
        refine r_aload_n dX12_showOf_44 rfl rfl ?_
        refine r_getR (q := 57) dX12_showOf_45 (ci := 12) (kf := 2) rfl (Nat.le_of_ble_eq_true rfl) (by decide) (by decide) rfl fl_X12_16 (Or.inl rfl) rfl ?_
        refine r_aload_n dX12_showOf_48 rfl rfl ?_
        refine r_getR (q := 55) dX12_showOf_49 (ci := 12) (kf := 0) rfl (Nat.le_of_ble_eq_true rfl) (by decide) (by decide) rfl fl_X12_9 (Or.inl rfl) rfl ?_
        refine r_callS_eV dX12_showOf_52 (c_X12_copies3 g hl ((hk.mono (by decide)).tr (hb40.1.mono (by decide))) (fun x hx => (congrFun (hb40.1.2.1 55 (by decide) (by decide)) x).trans (by show M 55 x = W x; rw [b55, welR_hi hx _ (by omega)]; exact hw x hx))) mf_X12_copies mt_X12_copies ml_X12_169 rfl rfl (Nat.le_of_ble_eq_true rfl) ⟨(Nat.le_of_ble_eq_true rfl), (Nat.le_of_ble_eq_true rfl)⟩ ⟨(Nat.le_of_ble_eq_true rfl), (Nat.le_of_ble_eq_true rfl)⟩ (fun S_52 q_52 z_52 => ?_)
        refine r_iload_n dX12_showOf_55 rfl rfl ?_
        refine r_iret dX12_showOf_56 rfl (Nat.le_refl _) ?_
        (try dsimp only [Gs_M])
        exact ⟨_, rfl, hx40, q_52⟩
      · (try dsimp only [Gs_M] at c_10)
        refine r_aload_n dX12_showOf_13 rfl rfl ?_
        refine r_iload_n dX12_showOf_14 rfl rfl ?_
        refine r_iconst (v := 2) dX12_showOf_15 (by decide) ?_
        refine r_iload_n dX12_showOf_16 rfl rfl ?_
        refine r_iload_n dX12_showOf_17 rfl rfl ?_
        refine r_ishr dX12_showOf_18 ?_
        refine r_iconst (v := 1) dX12_showOf_19 (by decide) ?_
        refine r_iand dX12_showOf_20 ?_
        refine r_iconst (v := 1) dX12_showOf_21 (by decide) ?_
        refine r_icmp_ne (tgt := 29) dX12_showOf_22 (by decide) (fun c_22 => ?_) (fun c_22 => ?_)
        · (try dsimp only [Gs_M] at c_22)
          refine r_iconst (v := 1) dX12_showOf_29 (by decide) ?_
          refine r_callV_eV (ci := 12) dX12_showOf_30 (e_X12_puts g hk.1 (k) (2) (by omega) (by omega) _) mf_X12_puts mi_X12_puts se_X12_X12_X12_puts ml_X12_88 rfl rfl (Nat.le_of_ble_eq_true rfl) rfl (by decide) rfl (Nat.le_of_ble_eq_true rfl) ⟨(Nat.le_of_ble_eq_true rfl), (Nat.le_of_ble_eq_true rfl)⟩ ⟨(Nat.le_of_ble_eq_true rfl), (Nat.le_of_ble_eq_true rfl)⟩ (fun S_30 q_30 z_30 => ?_)
          obtain ⟨kp1, vp1⟩ := q_30
          refine r_iinc (v := nI (k + 1)) dX12_showOf_33 rfl (nI_1 _) (by decide) ?_
          refine r_goto (tgt := 2) dX12_showOf_36 (by decide) ?_
          exact PW.subL (ih (k + 1) _ (hk.tr kp1) (vp1.trans (by rw [show (Gs M).2.2.2 55 = _ from b55]; rw [welR, if_neg c_22])) (by omega) (by omega)) (by repeat' first | exact True.intro | refine And.intro rfl ?_)
        · (try dsimp only [Gs_M] at c_22)
          refine r_iconst (v := 0) dX12_showOf_25 (by decide) ?_
          refine r_goto (tgt := 30) dX12_showOf_26 (by decide) ?_
          refine r_callV_eV (ci := 12) dX12_showOf_30 (e_X12_puts g hk.1 (k) (2) (by omega) (by omega) _) mf_X12_puts mi_X12_puts se_X12_X12_X12_puts ml_X12_88 rfl rfl (Nat.le_of_ble_eq_true rfl) rfl (by decide) rfl (Nat.le_of_ble_eq_true rfl) ⟨(Nat.le_of_ble_eq_true rfl), (Nat.le_of_ble_eq_true rfl)⟩ ⟨(Nat.le_of_ble_eq_true rfl), (Nat.le_of_ble_eq_true rfl)⟩ (fun S_30 q_30 z_30 => ?_)
          obtain ⟨kp1, vp1⟩ := q_30
          refine r_iinc (v := nI (k + 1)) dX12_showOf_33 rfl (nI_1 _) (by decide) ?_
          refine r_goto (tgt := 2) dX12_showOf_36 (by decide) ?_
          exact PW.subL (ih (k + 1) _ (hk.tr kp1) (vp1.trans (by rw [show (Gs M).2.2.2 55 = _ from b55]; rw [welR, if_pos c_22])) (by omega) (by omega)) (by repeat' first | exact True.intro | refine And.intro rfl ?_)
  exact PW.subL (lp (plR (M0 55) + 1) 0 _ (kp.rf hS) rfl (by omega) (by omega)) (by repeat' first | exact True.intro | refine And.intro rfl ?_)
set_option maxRecDepth 20000 in
set_option maxHeartbeats 1000000 in
theorem s_X12_fewestFor (g : pG) {S : pS} (hS : sOk S) (hI : InvR (S.2.2.2 55)) (v : Int32) : MS g mX12_fewestFor 7 0 0 [.ref 54, .int v] (S) (eI (fun rx S1 => rx = fewestX ((S).2.2.2 55) v ∧ kp [57, 59, 60] (S) S1)) := by
  obtain ⟨M0, rfl⟩ := sOk_gs hS
  refine MS.of pn_X12 (Nat.le_of_ble_eq_true rfl) ?_
  refine r_iload_n dX12_fewestFor_0 rfl rfl ?_
  refine r_iconst (v := 0) dX12_fewestFor_1 (by decide) ?_
  refine r_sipush (v := 9999) dX12_fewestFor_2 (by decide) ?_
  refine r_callS_dI dX12_fewestFor_5 (s_X12_in1 g _ _ _ _) mf_X12_in1 mt_X12_in1 ml_X12_63 rfl rfl (Nat.le_of_ble_eq_true rfl) ⟨(Nat.le_of_ble_eq_true rfl), (Nat.le_of_ble_eq_true rfl)⟩ ⟨(Nat.le_of_ble_eq_true rfl), (Nat.le_of_ble_eq_true rfl)⟩ ?_
  refine r_if_ne (tgt := 13) dX12_fewestFor_8 (by decide) (fun c_8 => ?_) (fun c_8 => ?_)
  · have c_8 := bI_n c_8
    (try dsimp only [Gs_M] at c_8)
    obtain ⟨h8, hpl⟩ := hI.pl
    have h8 : plR (M0 55) ≤ 8 := h8
    have hpl : M0 55 6 = nI (plR (M0 55)) := hpl
    have hpw := pow_le8 h8
    have hpw0 : 0 < 2 ^ plR (M0 55) := Nat.two_pow_pos _
    refine r_aload_n dX12_fewestFor_13 rfl rfl ?_
    refine r_getR (q := 55) dX12_fewestFor_14 (ci := 12) (kf := 0) rfl (Nat.le_of_ble_eq_true rfl) (by decide) (by decide) rfl fl_X12_9 (Or.inl rfl) rfl ?_
    refine r_aload_n dX12_fewestFor_17 rfl rfl ?_
    refine r_getR (q := 57) dX12_fewestFor_18 (ci := 12) (kf := 2) rfl (Nat.le_of_ble_eq_true rfl) (by decide) (by decide) rfl fl_X12_16 (Or.inl rfl) rfl ?_
    refine r_callS_eV dX12_fewestFor_21 (c_X12_copies g hS) mf_X12_copies mt_X12_copies ml_X12_169 rfl rfl (Nat.le_of_ble_eq_true rfl) ⟨(Nat.le_of_ble_eq_true rfl), (Nat.le_of_ble_eq_true rfl)⟩ ⟨(Nat.le_of_ble_eq_true rfl), (Nat.le_of_ble_eq_true rfl)⟩ (fun S_21 q_21 z_21 => ?_)
    obtain ⟨ka, l57⟩ := q_21
    obtain ⟨Ma, rfl⟩ := sOk_gs ka.1
    have a55 : Ma 55 = M0 55 := ka.2.1 55 (by decide) (by decide)
    have a57 : Ma 57 = ovr (M0 55) (M0 57) := l57
    have hIa : InvR (Ma 55) := a55 ▸ hI
    refine r_aload_n dX12_fewestFor_24 rfl rfl ?_
    refine r_callV_dI (ci := 12) dX12_fewestFor_25 (s_X12_illNow g ka.1 hIa) mf_X12_illNow mi_X12_illNow se_X12_X12_X12_illNow ml_X12_206 rfl rfl (Nat.le_of_ble_eq_true rfl) rfl (by decide) rfl (Nat.le_of_ble_eq_true rfl) ⟨(Nat.le_of_ble_eq_true rfl), (Nat.le_of_ble_eq_true rfl)⟩ ⟨(Nat.le_of_ble_eq_true rfl), (Nat.le_of_ble_eq_true rfl)⟩ ?_
    have e25 : illR (Ma 55) (plR (Ma 55)) = illR (M0 55) (plR (M0 55)) := by rw [a55]
    refine r_istore_n dX12_fewestFor_28 rfl (by decide) ?_
    refine r_bipush (v := (-3)) dX12_fewestFor_29 (by decide) ?_
    refine r_istore_n dX12_fewestFor_31 rfl (by decide) ?_
    refine r_iconst (v := 0) dX12_fewestFor_32 (by decide) ?_
    refine r_istore dX12_fewestFor_33 (by decide) ?_
    have lp : ∀ (j_ : Nat) (n : Nat) (f : Int32) (S1 : pS) (hk : kp [57, 59, 60] (Gs M0) S1) (h57 : S1.2.2.2 57 = ovr (M0 55) (M0 57)) (hf : f = fewR (M0 55) v n) (hn : n ≤ 2 ^ plR (M0 55)), 2 ^ plR (M0 55) - n < j_ → PW g mX12_fewestFor (eN g (Gs M0).1 7 0 0 (eI (fun rx S1 => rx = fewestX ((Gs M0).2.2.2 55) v ∧ kp [57, 59, 60] (Gs M0) S1))) 35 [some (.ref 54), some (.int v), some (.int (illR (Ma 55) (plR (Ma 55)))), some (.int f), some (.int (nI n)), none] [] (S1) 0 0 := by
      intro j_
      induction j_ with
      | zero => intro n f S1 hk h57 hf hn hj; exact absurd hj (Nat.not_lt_zero _)
      | succ j_ ih =>
        intro n f S1 hk h57 hf hn hj
        obtain ⟨M, rfl⟩ := sOk_gs hk.1
        have b55 : M 55 = M0 55 := hk.2.1 55 (by decide) (by decide)
        have b57 : M 57 = ovr (M0 55) (M0 57) := h57
        have b6 : M 55 6 = nI (plR (M0 55)) := by rw [b55]; exact hpl
        refine r_iload dX12_fewestFor_35 rfl ?_
        refine r_iconst (v := 1) dX12_fewestFor_37 (by decide) ?_
        refine r_aload_n dX12_fewestFor_38 rfl rfl ?_
        refine r_getR (q := 55) dX12_fewestFor_39 (ci := 12) (kf := 0) rfl (Nat.le_of_ble_eq_true rfl) (by decide) (by decide) rfl fl_X12_9 (Or.inl rfl) rfl ?_
        refine r_bipush (v := 6) dX12_fewestFor_42 (by decide) ?_
        refine r_iald (j := 6) dX12_fewestFor_44 rfl (Nat.le_of_ble_eq_true rfl) rfl (by decide) (by decide) ?_
        rw [show (Gs M).2.2.2 55 6 = nI (plR (M0 55)) from b6]
        refine r_ishl dX12_fewestFor_45 ?_
        rw [shl_pl h8]
        refine r_icmp_geN (n) (2 ^ plR (M0 55)) (tgt := 107) dX12_fewestFor_46 (by decide) (by omega) (by omega) (fun c_46 => ?_) (fun c_46 => ?_)
        · (try dsimp only [Gs_M] at c_46)
          refine r_iload_n dX12_fewestFor_107 rfl rfl ?_
          refine r_iret dX12_fewestFor_108 rfl (Nat.le_refl _) ?_
          (try dsimp only [Gs_M])
          have en : n = 2 ^ plR (M0 55) := by omega
          refine ⟨_, rfl, ?_, hk⟩
          rw [fewestX, if_pos c_8, ← en]
          exact hf
        · (try dsimp only [Gs_M] at c_46)
          refine r_iload dX12_fewestFor_49 rfl ?_
          refine r_iload_n dX12_fewestFor_51 rfl rfl ?_
          refine r_iand dX12_fewestFor_52 ?_
          refine r_if_ne (tgt := 76) dX12_fewestFor_53 (by decide) (fun c_53 => ?_) (fun c_53 => ?_)
          · (try dsimp only [Gs_M] at c_53)
            refine r_iconst (v := 0) dX12_fewestFor_76 (by decide) ?_
            refine r_istore dX12_fewestFor_77 (by decide) ?_
            refine r_iload dX12_fewestFor_79 rfl ?_
            refine r_if_eq (tgt := 99) dX12_fewestFor_81 (by decide) (fun _ => ?_) (fun c => absurd c (by decide))
            refine r_iload_n dX12_fewestFor_99 rfl rfl ?_
            refine r_istore_n dX12_fewestFor_100 rfl (by decide) ?_
            refine r_iinc (v := nI (n + 1)) dX12_fewestFor_101 rfl (nI_1 _) (by decide) ?_
            refine r_goto (tgt := 35) dX12_fewestFor_104 (by decide) ?_
            exact PW.subL (ih (n + 1) _ _ hk b57 (fewR_n hf (fun z => c_53 (by rw [e25]; exact z.1.1))) (by omega) (by omega)) (by repeat' first | exact True.intro | refine And.intro rfl ?_)
          · (try dsimp only [Gs_M] at c_53)
            refine r_iload_n dX12_fewestFor_56 rfl rfl ?_
            refine r_if_lt (tgt := 72) dX12_fewestFor_57 (by decide) (fun c_57 => ?_) (fun c_57 => ?_)
            · (try dsimp only [Gs_M] at c_57)
              refine r_iconst (v := 1) dX12_fewestFor_72 (by decide) ?_
              refine r_goto (tgt := 77) dX12_fewestFor_73 (by decide) ?_
              refine r_istore dX12_fewestFor_77 (by decide) ?_
              refine r_iload dX12_fewestFor_79 rfl ?_
              refine r_if_eq (tgt := 99) dX12_fewestFor_81 (by decide) (fun c => absurd c (by decide)) (fun _ => ?_)
              refine r_aload_n dX12_fewestFor_84 rfl rfl ?_
              refine r_iload dX12_fewestFor_85 rfl ?_
              refine r_callV_eI (ci := 12) dX12_fewestFor_87 (s_X12_showOf g hk.1 (by show InvR (M 55); rw [b55]; exact hI) b57 (fun x hx => congrFun b55 x) _) mf_X12_showOf mi_X12_showOf se_X12_X12_X12_showOf ml_X12_227 rfl rfl (Nat.le_of_ble_eq_true rfl) rfl (by decide) rfl (Nat.le_of_ble_eq_true rfl) ⟨(Nat.le_of_ble_eq_true rfl), (Nat.le_of_ble_eq_true rfl)⟩ ⟨(Nat.le_of_ble_eq_true rfl), (Nat.le_of_ble_eq_true rfl)⟩ (fun r_87 S_87 q_87 z_87 => ?_)
              obtain ⟨hx87, k87, v87⟩ := q_87
              rw [show (Gs M).2.2.2 55 = _ from b55] at hx87
              have kz : kp [57, 59, 60] (Gs M0) S_87 := kp_fix ((hk.mono (by decide)).tr (k87.mono (by decide))) v87
              have z57 : S_87.2.2.2 57 = ovr (M0 55) (M0 57) := (k87.2.1 57 (by decide) (by decide)).trans b57
              refine r_iload_n dX12_fewestFor_90 rfl rfl ?_
              refine r_icmp_lt (tgt := 99) dX12_fewestFor_91 (by decide) (fun c_91 => ?_) (fun c_91 => ?_)
              · (try dsimp only [Gs_M] at c_91)
                refine r_iload_n dX12_fewestFor_99 rfl rfl ?_
                refine r_istore_n dX12_fewestFor_100 rfl (by decide) ?_
                refine r_iinc (v := nI (n + 1)) dX12_fewestFor_101 rfl (nI_1 _) (by decide) ?_
                refine r_goto (tgt := 35) dX12_fewestFor_104 (by decide) ?_
                exact PW.subL (ih (n + 1) _ _ kz z57 ((fewR_n hf (fun z => Int32.not_lt.mpr (hx87 ▸ z.2) c_91))) (by omega) (by omega)) (by repeat' first | exact True.intro | refine And.intro rfl ?_)
              · (try dsimp only [Gs_M] at c_91)
                refine r_iload dX12_fewestFor_94 rfl ?_
                refine r_goto (tgt := 100) dX12_fewestFor_96 (by decide) ?_
                refine r_istore_n dX12_fewestFor_100 rfl (by decide) ?_
                refine r_iinc (v := nI (n + 1)) dX12_fewestFor_101 rfl (nI_1 _) (by decide) ?_
                refine r_goto (tgt := 35) dX12_fewestFor_104 (by decide) ?_
                exact PW.subL (ih (n + 1) _ _ kz z57 (fewR_y ⟨⟨by rw [← e25]; exact c_53, (Or.inl (hf ▸ c_57))⟩, Int32.not_lt.mp (hx87 ▸ c_91)⟩) (by omega) (by omega)) (by repeat' first | exact True.intro | refine And.intro rfl ?_)
            · (try dsimp only [Gs_M] at c_57)
              refine r_iload dX12_fewestFor_60 rfl ?_
              refine r_callS_dI dX12_fewestFor_62 (s_X12_ones g (n) (by omega) _) mf_X12_ones mt_X12_ones ml_X12_224 rfl rfl (Nat.le_of_ble_eq_true rfl) ⟨(Nat.le_of_ble_eq_true rfl), (Nat.le_of_ble_eq_true rfl)⟩ ⟨(Nat.le_of_ble_eq_true rfl), (Nat.le_of_ble_eq_true rfl)⟩ ?_
              refine r_iload_n dX12_fewestFor_65 rfl rfl ?_
              obtain ⟨j, hj, ej⟩ : ∃ j, j < n ∧ f = nI j := by
                rcases fewR_ok (W := M0 55) (v := v) n with h | h
                · exact absurd (by rw [hf, h]; decide) c_57
                · exact hf ▸ h
              rw [ej]
              refine r_callS_dI dX12_fewestFor_66 (s_X12_ones g (j) (by omega) _) mf_X12_ones mt_X12_ones ml_X12_224 rfl rfl (Nat.le_of_ble_eq_true rfl) ⟨(Nat.le_of_ble_eq_true rfl), (Nat.le_of_ble_eq_true rfl)⟩ ⟨(Nat.le_of_ble_eq_true rfl), (Nat.le_of_ble_eq_true rfl)⟩ ?_
              have l1 := pcR_le n (by omega)
              have l2 := pcR_le j (by omega)
              refine r_icmp_geN ((pcR 8 n)) ((pcR 8 j)) (tgt := 76) dX12_fewestFor_69 (by decide) (by omega) (by omega) (fun c_69 => ?_) (fun c_69 => ?_)
              · (try dsimp only [Gs_M] at c_69)
                refine r_iconst (v := 0) dX12_fewestFor_76 (by decide) ?_
                refine r_istore dX12_fewestFor_77 (by decide) ?_
                refine r_iload dX12_fewestFor_79 rfl ?_
                refine r_if_eq (tgt := 99) dX12_fewestFor_81 (by decide) (fun _ => ?_) (fun c => absurd c (by decide))
                refine r_iload_n dX12_fewestFor_99 rfl rfl ?_
                refine r_istore_n dX12_fewestFor_100 rfl (by decide) ?_
                refine r_iinc (v := nI (n + 1)) dX12_fewestFor_101 rfl (nI_1 _) (by decide) ?_
                refine r_goto (tgt := 35) dX12_fewestFor_104 (by decide) ?_
                exact PW.subL (ih (n + 1) _ _ hk b57 (ej.symm.trans (fewR_n hf (fun z => z.1.2.elim (fun y => c_57 (hf ▸ y)) (fun y => absurd y (by rw [← hf, ej, cl_nI (by omega)]; omega))))) (by omega) (by omega)) (by repeat' first | exact True.intro | refine And.intro rfl ?_)
              · (try dsimp only [Gs_M] at c_69)
                refine r_iconst (v := 1) dX12_fewestFor_72 (by decide) ?_
                refine r_goto (tgt := 77) dX12_fewestFor_73 (by decide) ?_
                refine r_istore dX12_fewestFor_77 (by decide) ?_
                refine r_iload dX12_fewestFor_79 rfl ?_
                refine r_if_eq (tgt := 99) dX12_fewestFor_81 (by decide) (fun c => absurd c (by decide)) (fun _ => ?_)
                refine r_aload_n dX12_fewestFor_84 rfl rfl ?_
                refine r_iload dX12_fewestFor_85 rfl ?_
                refine r_callV_eI (ci := 12) dX12_fewestFor_87 (s_X12_showOf g hk.1 (by show InvR (M 55); rw [b55]; exact hI) b57 (fun x hx => congrFun b55 x) _) mf_X12_showOf mi_X12_showOf se_X12_X12_X12_showOf ml_X12_227 rfl rfl (Nat.le_of_ble_eq_true rfl) rfl (by decide) rfl (Nat.le_of_ble_eq_true rfl) ⟨(Nat.le_of_ble_eq_true rfl), (Nat.le_of_ble_eq_true rfl)⟩ ⟨(Nat.le_of_ble_eq_true rfl), (Nat.le_of_ble_eq_true rfl)⟩ (fun r_87 S_87 q_87 z_87 => ?_)
                obtain ⟨hx87, k87, v87⟩ := q_87
                rw [show (Gs M).2.2.2 55 = _ from b55] at hx87
                have kz : kp [57, 59, 60] (Gs M0) S_87 := kp_fix ((hk.mono (by decide)).tr (k87.mono (by decide))) v87
                have z57 : S_87.2.2.2 57 = ovr (M0 55) (M0 57) := (k87.2.1 57 (by decide) (by decide)).trans b57
                refine r_iload_n dX12_fewestFor_90 rfl rfl ?_
                refine r_icmp_lt (tgt := 99) dX12_fewestFor_91 (by decide) (fun c_91 => ?_) (fun c_91 => ?_)
                · (try dsimp only [Gs_M] at c_91)
                  refine r_iload_n dX12_fewestFor_99 rfl rfl ?_
                  refine r_istore_n dX12_fewestFor_100 rfl (by decide) ?_
                  refine r_iinc (v := nI (n + 1)) dX12_fewestFor_101 rfl (nI_1 _) (by decide) ?_
                  refine r_goto (tgt := 35) dX12_fewestFor_104 (by decide) ?_
                  exact PW.subL (ih (n + 1) _ _ kz z57 (ej.symm.trans (fewR_n hf (fun z => Int32.not_lt.mpr (hx87 ▸ z.2) c_91))) (by omega) (by omega)) (by repeat' first | exact True.intro | refine And.intro rfl ?_)
                · (try dsimp only [Gs_M] at c_91)
                  refine r_iload dX12_fewestFor_94 rfl ?_
                  refine r_goto (tgt := 100) dX12_fewestFor_96 (by decide) ?_
                  refine r_istore_n dX12_fewestFor_100 rfl (by decide) ?_
                  refine r_iinc (v := nI (n + 1)) dX12_fewestFor_101 rfl (nI_1 _) (by decide) ?_
                  refine r_goto (tgt := 35) dX12_fewestFor_104 (by decide) ?_
                  exact PW.subL (ih (n + 1) _ _ kz z57 (fewR_y ⟨⟨by rw [← e25]; exact c_53, (Or.inr (by rw [← hf, ej, cl_nI (by omega)]; omega))⟩, Int32.not_lt.mp (hx87 ▸ c_91)⟩) (by omega) (by omega)) (by repeat' first | exact True.intro | refine And.intro rfl ?_)
    exact PW.subL (lp (2 ^ plR (M0 55) + 1) 0 (-3) _ (ka.mono (by decide)) a57 rfl (by omega) (by omega)) (by repeat' first | exact True.intro | refine And.intro rfl ?_)
  · have c_8 := bI_0 c_8
    (try dsimp only [Gs_M] at c_8)
    refine r_iconst (v := (-1)) dX12_fewestFor_11 (by decide) ?_
    refine r_iret dX12_fewestFor_12 rfl (Nat.le_refl _) ?_
    (try dsimp only [Gs_M])
    refine ⟨_, rfl, ?_, kp.rf hS⟩
    rw [fewestX, if_neg c_8]
set_option maxRecDepth 20000 in
set_option maxHeartbeats 1000000 in
theorem s_X12_spoilt (g : pG) {S : pS} (hS : sOk S) (hI : InvR (S.2.2.2 55)) (x : Int32) : MS g mX12_spoilt 8 0 0 [.ref 54, .int x] (S) (eI (fun rx S1 => rx = spoiltX ((S).2.2.2 55) x ∧ kp [57, 59, 60] (S) S1)) := by
  obtain ⟨M0, rfl⟩ := sOk_gs hS
  refine MS.of pn_X12 (Nat.le_of_ble_eq_true rfl) ?_
  refine r_iload_n dX12_spoilt_0 rfl rfl ?_
  refine r_iconst (v := 1) dX12_spoilt_1 (by decide) ?_
  refine r_bipush (v := 30) dX12_spoilt_2 (by decide) ?_
  refine r_callS_dI dX12_spoilt_4 (s_X12_in1 g _ _ _ _) mf_X12_in1 mt_X12_in1 ml_X12_63 rfl rfl (Nat.le_of_ble_eq_true rfl) ⟨(Nat.le_of_ble_eq_true rfl), (Nat.le_of_ble_eq_true rfl)⟩ ⟨(Nat.le_of_ble_eq_true rfl), (Nat.le_of_ble_eq_true rfl)⟩ ?_
  refine r_if_ne (tgt := 12) dX12_spoilt_7 (by decide) (fun c_7 => ?_) (fun c_7 => ?_)
  · have c_7 := bI_n c_7
    (try dsimp only [Gs_M] at c_7)
    obtain ⟨h8, hpl⟩ := hI.pl
    have h8 : plR (M0 55) ≤ 8 := h8
    have hpl : M0 55 6 = nI (plR (M0 55)) := hpl
    obtain ⟨n, hn, rfl⟩ := rng (x := x) 30 (by decide) ⟨Int32.le_trans (by decide) c_7.1, c_7.2⟩
    refine r_aload_n dX12_spoilt_12 rfl rfl ?_
    refine r_getR (q := 55) dX12_spoilt_13 (ci := 12) (kf := 0) rfl (Nat.le_of_ble_eq_true rfl) (by decide) (by decide) rfl fl_X12_9 (Or.inl rfl) rfl ?_
    refine r_aload_n dX12_spoilt_16 rfl rfl ?_
    refine r_getR (q := 57) dX12_spoilt_17 (ci := 12) (kf := 2) rfl (Nat.le_of_ble_eq_true rfl) (by decide) (by decide) rfl fl_X12_16 (Or.inl rfl) rfl ?_
    refine r_callS_eV dX12_spoilt_20 (c_X12_copies g hS) mf_X12_copies mt_X12_copies ml_X12_169 rfl rfl (Nat.le_of_ble_eq_true rfl) ⟨(Nat.le_of_ble_eq_true rfl), (Nat.le_of_ble_eq_true rfl)⟩ ⟨(Nat.le_of_ble_eq_true rfl), (Nat.le_of_ble_eq_true rfl)⟩ (fun S_20 q_20 z_20 => ?_)
    obtain ⟨ka, l57⟩ := q_20
    obtain ⟨Ma, rfl⟩ := sOk_gs ka.1
    have a55 : Ma 55 = M0 55 := ka.2.1 55 (by decide) (by decide)
    have a57 : Ma 57 = ovr (M0 55) (M0 57) := l57
    have hIa : InvR (Ma 55) := a55 ▸ hI
    refine r_aload_n dX12_spoilt_23 rfl rfl ?_
    refine r_callV_eI (ci := 12) dX12_spoilt_24 (s_X12_billShow g ka.1 hIa) mf_X12_billShow mi_X12_billShow se_X12_X12_X12_billShow ml_X12_102 rfl rfl (Nat.le_of_ble_eq_true rfl) rfl (by decide) rfl (Nat.le_of_ble_eq_true rfl) ⟨(Nat.le_of_ble_eq_true rfl), (Nat.le_of_ble_eq_true rfl)⟩ ⟨(Nat.le_of_ble_eq_true rfl), (Nat.le_of_ble_eq_true rfl)⟩ (fun r_24 S_24 q_24 z_24 => ?_)
    obtain ⟨hx24, hb24⟩ := q_24
    rw [show (Gs Ma).2.2.2 55 = _ from a55] at hx24
    subst hx24
    refine r_istore_n dX12_spoilt_27 rfl (by decide) ?_
    refine r_iconst (v := 0) dX12_spoilt_28 (by decide) ?_
    refine r_istore_n dX12_spoilt_29 rfl (by decide) ?_
    refine r_iconst (v := 0) dX12_spoilt_30 (by decide) ?_
    refine r_istore dX12_spoilt_31 (by decide) ?_
    have lp : ∀ (j_ : Nat) (i : Nat) (c : Int32) (S1 : pS) (hk : kp [55, 57, 59, 60] (Gs M0) S1) (h57 : S1.2.2.2 57 = ovr (M0 55) (M0 57)) (h55 : S1.2.2.2 55 = upd (M0 55) 5 (spR (M0 55) i).2) (hc : c = (spR (M0 55) i).1) (hn : i ≤ n), n - i < j_ → PW g mX12_spoilt (eN g (Gs M0).1 8 0 0 (eI (fun rx S1 => rx = spoiltX ((Gs M0).2.2.2 55) (nI n) ∧ kp [57, 59, 60] (Gs M0) S1))) 33 [some (.ref 54), some (.int (nI n)), some (.int (showB (M0 55))), some (.int c), some (.int (nI i)), none] [] (S1) 0 0 := by
      intro j_
      induction j_ with
      | zero => intro i c S1 hk h57 h55 hc hn hj; exact absurd hj (Nat.not_lt_zero _)
      | succ j_ ih =>
        intro i c S1 hk h57 h55 hc hn hj
        obtain ⟨M, rfl⟩ := sOk_gs hk.1
        have b55 : M 55 = upd (M0 55) 5 (spR (M0 55) i).2 := h55
        have b57 : M 57 = ovr (M0 55) (M0 57) := h57
        have hIu : InvR (upd (M0 55) 5 (spR (M0 55) i).2) := upd_inv hI (by omega) (fun k2 h => by omega)
        have hIb : InvR (M 55) := b55 ▸ hIu
        refine r_iload dX12_spoilt_33 rfl ?_
        refine r_iload_n dX12_spoilt_35 rfl rfl ?_
        refine r_icmp_geN (i) (n) (tgt := 88) dX12_spoilt_36 (by decide) (by omega) (by omega) (fun c_36 => ?_) (fun c_36 => ?_)
        · (try dsimp only [Gs_M] at c_36)
          refine r_aload_n dX12_spoilt_88 rfl rfl ?_
          refine r_getR (q := 57) dX12_spoilt_89 (ci := 12) (kf := 2) rfl (Nat.le_of_ble_eq_true rfl) (by decide) (by decide) rfl fl_X12_16 (Or.inl rfl) rfl ?_
          refine r_aload_n dX12_spoilt_92 rfl rfl ?_
          refine r_getR (q := 55) dX12_spoilt_93 (ci := 12) (kf := 0) rfl (Nat.le_of_ble_eq_true rfl) (by decide) (by decide) rfl fl_X12_9 (Or.inl rfl) rfl ?_
          refine r_callS_eV dX12_spoilt_96 (c_X12_copies3 g h57 (kp.rf hk.1) (fun x hx => by show M 55 x = _; rw [b55]; exact upd_hi hx (by omega))) mf_X12_copies mt_X12_copies ml_X12_169 rfl rfl (Nat.le_of_ble_eq_true rfl) ⟨(Nat.le_of_ble_eq_true rfl), (Nat.le_of_ble_eq_true rfl)⟩ ⟨(Nat.le_of_ble_eq_true rfl), (Nat.le_of_ble_eq_true rfl)⟩ (fun S_96 q_96 z_96 => ?_)
          refine r_iload_n dX12_spoilt_99 rfl rfl ?_
          refine r_iret dX12_spoilt_100 rfl (Nat.le_refl _) ?_
          (try dsimp only [Gs_M])
          have ei : i = n := by omega
          refine ⟨_, rfl, ?_, kp_fix ((hk.mono (by decide)).tr (q_96.1.mono (by decide))) q_96.2⟩
          rw [spoiltX, if_pos c_7, cl_nI (by omega), ← ei]
          exact hc
        · (try dsimp only [Gs_M] at c_36)
          refine r_iload_n dX12_spoilt_39 rfl rfl ?_
          refine r_aload_n dX12_spoilt_40 rfl rfl ?_
          refine r_callV_eI (ci := 12) dX12_spoilt_41 (s_X12_byDraws g hk.1 hIb) mf_X12_byDraws mi_X12_byDraws se_X12_X12_X12_byDraws ml_X12_200 rfl rfl (Nat.le_of_ble_eq_true rfl) rfl (by decide) rfl (Nat.le_of_ble_eq_true rfl) ⟨(Nat.le_of_ble_eq_true rfl), (Nat.le_of_ble_eq_true rfl)⟩ ⟨(Nat.le_of_ble_eq_true rfl), (Nat.le_of_ble_eq_true rfl)⟩ (fun r_41 S_41 q_41 z_41 => ?_)
          obtain ⟨hx41, kb41, vb41⟩ := q_41
          rw [show (Gs M).2.2.2 55 = _ from b55] at hx41 vb41
          obtain ⟨Mb, rfl⟩ := sOk_gs kb41.1
          have vb41 : Mb 55 = nightR (thrR (upd (M0 55) 5 (spR (M0 55) i).2)) := vb41
          refine r_iload_n dX12_spoilt_44 rfl rfl ?_
          refine r_icmp_ge (tgt := 52) dX12_spoilt_45 (by decide) (fun c_45 => ?_) (fun c_45 => ?_)
          · (try dsimp only [Gs_M] at c_45)
            refine r_iconst (v := 0) dX12_spoilt_52 (by decide) ?_
            refine r_iadd dX12_spoilt_53 ?_
            refine r_istore_n dX12_spoilt_54 rfl (by decide) ?_
            refine r_aload_n dX12_spoilt_55 rfl rfl ?_
            refine r_getR (q := 55) dX12_spoilt_56 (ci := 12) (kf := 0) rfl (Nat.le_of_ble_eq_true rfl) (by decide) (by decide) rfl fl_X12_9 (Or.inl rfl) rfl ?_
            refine r_iconst (v := 5) dX12_spoilt_59 (by decide) ?_
            refine r_iald (j := 5) dX12_spoilt_60 rfl (Nat.le_of_ble_eq_true rfl) rfl (by decide) (by decide) ?_
            refine r_istore dX12_spoilt_61 (by decide) ?_
            refine r_aload_n dX12_spoilt_63 rfl rfl ?_
            refine r_getR (q := 57) dX12_spoilt_64 (ci := 12) (kf := 2) rfl (Nat.le_of_ble_eq_true rfl) (by decide) (by decide) rfl fl_X12_16 (Or.inl rfl) rfl ?_
            refine r_aload_n dX12_spoilt_67 rfl rfl ?_
            refine r_getR (q := 55) dX12_spoilt_68 (ci := 12) (kf := 0) rfl (Nat.le_of_ble_eq_true rfl) (by decide) (by decide) rfl fl_X12_9 (Or.inl rfl) rfl ?_
            refine r_callS_eV dX12_spoilt_71 (c_X12_copies3 g b57 kb41 (fun x hx => by show Mb 55 x = M0 55 x; rw [vb41, nightR_hi (thrR_inv hIu) hx, thrR_hi hIu hx]; exact upd_hi hx (by omega))) mf_X12_copies mt_X12_copies ml_X12_169 rfl rfl (Nat.le_of_ble_eq_true rfl) ⟨(Nat.le_of_ble_eq_true rfl), (Nat.le_of_ble_eq_true rfl)⟩ ⟨(Nat.le_of_ble_eq_true rfl), (Nat.le_of_ble_eq_true rfl)⟩ (fun S_71 q_71 z_71 => ?_)
            obtain ⟨k71, v71⟩ := q_71
            obtain ⟨Mc, rfl⟩ := sOk_gs k71.1
            have z55 : Mc 55 = M0 55 := v71
            have e60 : Mb 55 5 = thrR (upd (M0 55) 5 (spR (M0 55) i).2) 5 := by rw [vb41]; exact nightR_lo (by decide) (by decide) (by decide)
            have kz : kp [55, 57, 59, 60] (Gs M0) (Gs Mc) := hk.tr (k71.mono (by decide))
            have z57 : Mc 57 = ovr (M0 55) (M0 57) := (k71.2.1 57 (by decide) (by decide)).trans b57
            refine r_aload_n dX12_spoilt_74 rfl rfl ?_
            refine r_getR (q := 55) dX12_spoilt_75 (ci := 12) (kf := 0) rfl (Nat.le_of_ble_eq_true rfl) (by decide) (by decide) rfl fl_X12_9 (Or.inl rfl) rfl ?_
            refine r_iconst (v := 5) dX12_spoilt_78 (by decide) ?_
            refine r_iload dX12_spoilt_79 rfl ?_
            rw [show (Gs Mb).2.2.2 55 5 = _ from e60]
            refine r_iast (j := 5) dX12_spoilt_81 rfl (Nat.le_of_ble_eq_true rfl) rfl (by decide) (by decide) ?_
            refine r_iinc (v := nI (i + 1)) dX12_spoilt_82 rfl (nI_1 _) (by decide) ?_
            refine r_goto (tgt := 33) dX12_spoilt_85 (by decide) ?_
            exact PW.subL (ih (i + 1) _ _ ((kz.set (by decide) (by decide))) z57 (by rw [mSet_at, show (Gs Mc).2.2.2 55 = M0 55 from z55]; rfl) (spR_n hc hx41 c_45) (by omega) (by omega)) (by repeat' first | exact True.intro | refine And.intro rfl ?_)
          · (try dsimp only [Gs_M] at c_45)
            refine r_iconst (v := 1) dX12_spoilt_48 (by decide) ?_
            refine r_goto (tgt := 53) dX12_spoilt_49 (by decide) ?_
            refine r_iadd dX12_spoilt_53 ?_
            refine r_istore_n dX12_spoilt_54 rfl (by decide) ?_
            refine r_aload_n dX12_spoilt_55 rfl rfl ?_
            refine r_getR (q := 55) dX12_spoilt_56 (ci := 12) (kf := 0) rfl (Nat.le_of_ble_eq_true rfl) (by decide) (by decide) rfl fl_X12_9 (Or.inl rfl) rfl ?_
            refine r_iconst (v := 5) dX12_spoilt_59 (by decide) ?_
            refine r_iald (j := 5) dX12_spoilt_60 rfl (Nat.le_of_ble_eq_true rfl) rfl (by decide) (by decide) ?_
            refine r_istore dX12_spoilt_61 (by decide) ?_
            refine r_aload_n dX12_spoilt_63 rfl rfl ?_
            refine r_getR (q := 57) dX12_spoilt_64 (ci := 12) (kf := 2) rfl (Nat.le_of_ble_eq_true rfl) (by decide) (by decide) rfl fl_X12_16 (Or.inl rfl) rfl ?_
            refine r_aload_n dX12_spoilt_67 rfl rfl ?_
            refine r_getR (q := 55) dX12_spoilt_68 (ci := 12) (kf := 0) rfl (Nat.le_of_ble_eq_true rfl) (by decide) (by decide) rfl fl_X12_9 (Or.inl rfl) rfl ?_
            refine r_callS_eV dX12_spoilt_71 (c_X12_copies3 g b57 kb41 (fun x hx => by show Mb 55 x = M0 55 x; rw [vb41, nightR_hi (thrR_inv hIu) hx, thrR_hi hIu hx]; exact upd_hi hx (by omega))) mf_X12_copies mt_X12_copies ml_X12_169 rfl rfl (Nat.le_of_ble_eq_true rfl) ⟨(Nat.le_of_ble_eq_true rfl), (Nat.le_of_ble_eq_true rfl)⟩ ⟨(Nat.le_of_ble_eq_true rfl), (Nat.le_of_ble_eq_true rfl)⟩ (fun S_71 q_71 z_71 => ?_)
            obtain ⟨k71, v71⟩ := q_71
            obtain ⟨Mc, rfl⟩ := sOk_gs k71.1
            have z55 : Mc 55 = M0 55 := v71
            have e60 : Mb 55 5 = thrR (upd (M0 55) 5 (spR (M0 55) i).2) 5 := by rw [vb41]; exact nightR_lo (by decide) (by decide) (by decide)
            have kz : kp [55, 57, 59, 60] (Gs M0) (Gs Mc) := hk.tr (k71.mono (by decide))
            have z57 : Mc 57 = ovr (M0 55) (M0 57) := (k71.2.1 57 (by decide) (by decide)).trans b57
            refine r_aload_n dX12_spoilt_74 rfl rfl ?_
            refine r_getR (q := 55) dX12_spoilt_75 (ci := 12) (kf := 0) rfl (Nat.le_of_ble_eq_true rfl) (by decide) (by decide) rfl fl_X12_9 (Or.inl rfl) rfl ?_
            refine r_iconst (v := 5) dX12_spoilt_78 (by decide) ?_
            refine r_iload dX12_spoilt_79 rfl ?_
            rw [show (Gs Mb).2.2.2 55 5 = _ from e60]
            refine r_iast (j := 5) dX12_spoilt_81 rfl (Nat.le_of_ble_eq_true rfl) rfl (by decide) (by decide) ?_
            refine r_iinc (v := nI (i + 1)) dX12_spoilt_82 rfl (nI_1 _) (by decide) ?_
            refine r_goto (tgt := 33) dX12_spoilt_85 (by decide) ?_
            exact PW.subL (ih (i + 1) _ _ ((kz.set (by decide) (by decide))) z57 (by rw [mSet_at, show (Gs Mc).2.2.2 55 = M0 55 from z55]; rfl) (spR_y hc hx41 c_45) (by omega) (by omega)) (by repeat' first | exact True.intro | refine And.intro rfl ?_)
    exact PW.subL (lp (n + 1) 0 0 _ (((ka.mono (by decide)).tr (hb24.1.mono (by decide)))) ((hb24.1.2.1 57 (by decide) (by decide)).trans a57) (((hb24.1.2.1 55 (by decide) (by decide)).trans a55).trans upd_self.symm) rfl (by omega) (by omega)) (by repeat' first | exact True.intro | refine And.intro rfl ?_)
  · have c_7 := bI_0 c_7
    (try dsimp only [Gs_M] at c_7)
    refine r_iconst (v := (-1)) dX12_spoilt_10 (by decide) ?_
    refine r_iret dX12_spoilt_11 rfl (Nat.le_refl _) ?_
    (try dsimp only [Gs_M])
    refine ⟨_, rfl, ?_, kp.rf hS⟩
    rw [spoiltX, if_neg c_7]
