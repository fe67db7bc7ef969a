set_option maxRecDepth 20000 in
set_option maxHeartbeats 1000000 in
theorem s_X12_mayPlay (g : pG) {S : pS} (hS : sOk S) (a p o : Nat) (ha : a < 8) (hp : p < 8) (ho : o < 8) (hw : S.2.2.2 55 (16 + 11 * a + 1) = nI o) : MS g mX12_mayPlay 3 0 0 [.ref 54, .int (nI a), .int (nI p)] (S) (dI (bI (mayR (S.2.2.2 55) (S.2.2.2 59) (S.2.2.2 60) a p = true)) S) := by
  obtain ⟨M, rfl⟩ := sOk_gs hS
  refine MS.of pn_X12 (Nat.le_of_ble_eq_true rfl) ?_
  have eo : owR (M 55) a = o := owR_e ho hw
  have J : PW g mX12_mayPlay (eN g 71 3 0 0 (dI (bI (mayR ((Gs M).2.2.2 55) ((Gs M).2.2.2 59) ((Gs M).2.2.2 60) a p = true)) (Gs M))) 57 [some (.ref 54), some (.int (nI a)), some (.int (nI p)), some (.int (nI o)), none] [.int (bI (freeR (M 55) (M 59) a p = true))] (Gs M) 0 0 := by
    refine r_istore dX12_mayPlay_57 (by decide) ?_
    refine r_iload dX12_mayPlay_59 rfl ?_
    refine r_if_eq (tgt := 103) dX12_mayPlay_61 (by decide) (fun c_61 => ?_) (fun c_61 => ?_)
    · have c_61 := bI_0 c_61
      refine r_iconst (v := 0) dX12_mayPlay_103 (by decide) ?_
      refine r_zret dX12_mayPlay_104 rfl rfl (Nat.le_refl _) ?_
      exact dI_f (by simp_all [mayR_iff, Gs, Int32.not_le])
    · have c_61 := bI_n c_61
      refine r_aload_n dX12_mayPlay_64 rfl rfl ?_
      refine r_iload_n dX12_mayPlay_65 rfl rfl ?_
      refine r_iconst (v := 2) dX12_mayPlay_66 (by decide) ?_
      refine r_callV_dI (ci := 12) dX12_mayPlay_67 (s_X12_get g (by exact ⟨rfl, rfl, rfl⟩) (a) (2) (by omega) (by omega)) mf_X12_get mi_X12_get se_X12_X12_X12_get ml_X12_67 rfl rfl (Nat.le_of_ble_eq_true rfl) rfl (by decide) rfl (Nat.le_of_ble_eq_true rfl) ⟨(Nat.le_of_ble_eq_true rfl), (Nat.le_of_ble_eq_true rfl)⟩ ⟨(Nat.le_of_ble_eq_true rfl), (Nat.le_of_ble_eq_true rfl)⟩ ?_
      refine r_if_ne (tgt := 103) dX12_mayPlay_70 (by decide) (fun c_70 => ?_) (fun c_70 => ?_)
      · refine r_iconst (v := 0) dX12_mayPlay_103 (by decide) ?_
        refine r_zret dX12_mayPlay_104 rfl rfl (Nat.le_refl _) ?_
        exact dI_f (by simp_all [mayR_iff, Gs, Int32.not_le])
      · refine r_aload_n dX12_mayPlay_73 rfl rfl ?_
        refine r_getR (q := 60) dX12_mayPlay_74 (ci := 12) (kf := 6) rfl (Nat.le_of_ble_eq_true rfl) (by decide) (by decide) rfl fl_X12_25 (Or.inl rfl) rfl ?_
        refine r_iload_n dX12_mayPlay_77 rfl rfl ?_
        refine r_iald (j := a) dX12_mayPlay_78 rfl (Nat.le_of_ble_eq_true rfl) rfl (by omega) (by decide) ?_
        refine r_bipush (v := 8) dX12_mayPlay_79 (by decide) ?_
        refine r_icmp_ne (tgt := 103) dX12_mayPlay_81 (by decide) (fun c_81 => ?_) (fun c_81 => ?_)
        · refine r_iconst (v := 0) dX12_mayPlay_103 (by decide) ?_
          refine r_zret dX12_mayPlay_104 rfl rfl (Nat.le_refl _) ?_
          exact dI_f (by simp_all [mayR_iff, Gs, Int32.not_le])
        · refine r_aload_n dX12_mayPlay_84 rfl rfl ?_
          refine r_iload_n dX12_mayPlay_85 rfl rfl ?_
          refine r_iload_n dX12_mayPlay_86 rfl rfl ?_
          refine r_callV_dI (ci := 12) dX12_mayPlay_87 (s_X12_goodAt g (by exact ⟨rfl, rfl, rfl⟩) (a) (p) (by omega) (by omega)) mf_X12_goodAt mi_X12_goodAt se_X12_X12_X12_goodAt ml_X12_71 rfl rfl (Nat.le_of_ble_eq_true rfl) rfl (by decide) rfl (Nat.le_of_ble_eq_true rfl) ⟨(Nat.le_of_ble_eq_true rfl), (Nat.le_of_ble_eq_true rfl)⟩ ⟨(Nat.le_of_ble_eq_true rfl), (Nat.le_of_ble_eq_true rfl)⟩ ?_
          refine r_aload_n dX12_mayPlay_90 rfl rfl ?_
          refine r_getR (q := 55) dX12_mayPlay_91 (ci := 12) (kf := 0) rfl (Nat.le_of_ble_eq_true rfl) (by decide) (by decide) rfl fl_X12_9 (Or.inl rfl) rfl ?_
          refine r_iconst (v := 3) dX12_mayPlay_94 (by decide) ?_
          refine r_iald (j := 3) dX12_mayPlay_95 rfl (Nat.le_of_ble_eq_true rfl) rfl (by decide) (by decide) ?_
          refine r_icmp_lt (tgt := 103) dX12_mayPlay_96 (by decide) (fun c_96 => ?_) (fun c_96 => ?_)
          · refine r_iconst (v := 0) dX12_mayPlay_103 (by decide) ?_
            refine r_zret dX12_mayPlay_104 rfl rfl (Nat.le_refl _) ?_
            exact dI_f (by simp_all [mayR_iff, Gs, Int32.not_le])
          · refine r_iconst (v := 1) dX12_mayPlay_99 (by decide) ?_
            refine r_goto (tgt := 104) dX12_mayPlay_100 (by decide) ?_
            refine r_zret dX12_mayPlay_104 rfl rfl (Nat.le_refl _) ?_
            exact dI_t (by simp_all [mayR_iff, Gs, Int32.not_le])
  refine r_aload_n dX12_mayPlay_0 rfl rfl ?_
  refine r_iload_n dX12_mayPlay_1 rfl rfl ?_
  refine r_iconst (v := 1) dX12_mayPlay_2 (by decide) ?_
  refine r_callV_dI (ci := 12) dX12_mayPlay_3 (s_X12_get g (by exact ⟨rfl, rfl, rfl⟩) (a) (1) (by omega) (by omega)) mf_X12_get mi_X12_get se_X12_X12_X12_get ml_X12_67 rfl rfl (Nat.le_of_ble_eq_true rfl) rfl (by decide) rfl (Nat.le_of_ble_eq_true rfl) ⟨(Nat.le_of_ble_eq_true rfl), (Nat.le_of_ble_eq_true rfl)⟩ ⟨(Nat.le_of_ble_eq_true rfl), (Nat.le_of_ble_eq_true rfl)⟩ ?_
  rw [show (Gs M).2.2.2 55 (16 + 11 * a + 1) = nI o from hw]
  refine r_istore_n dX12_mayPlay_6 rfl (by decide) ?_
  refine r_iload_n dX12_mayPlay_7 rfl rfl ?_
  refine r_iload_n dX12_mayPlay_8 rfl rfl ?_
  refine r_icmp_eqN (o) (p) (tgt := 52) dX12_mayPlay_9 (by decide) (by omega) (by omega) (fun c_9 => ?_) (fun c_9 => ?_)
  · refine r_iconst (v := 1) dX12_mayPlay_52 (by decide) ?_
    refine r_goto (tgt := 57) dX12_mayPlay_53 (by decide) ?_
    refine PW.top (y := bI (freeR (M 55) (M 59) a p = true)) ?_ (PW.subL J (by repeat' first | exact True.intro | refine And.intro rfl ?_))
    clear J
    refine (bI_t ?_).symm
    simp only [Gs, Int32.not_lt, Int32.not_le] at *
    simp [freeR, *]
    (try omega)
  · refine r_iload_n dX12_mayPlay_12 rfl rfl ?_
    refine r_iload_n dX12_mayPlay_13 rfl rfl ?_
    refine r_icmp_geN (o) (p) (tgt := 26) dX12_mayPlay_14 (by decide) (by omega) (by omega) (fun c_14 => ?_) (fun c_14 => ?_)
    · refine r_iload_n dX12_mayPlay_26 rfl rfl ?_
      refine r_iload_n dX12_mayPlay_27 rfl rfl ?_
      refine r_icmp_leN (o) (p) (tgt := 56) dX12_mayPlay_28 (by decide) (by omega) (by omega) (fun c_28 => ?_) (fun c_28 => ?_)
      · refine r_iconst (v := 0) dX12_mayPlay_56 (by decide) ?_
        refine PW.top (y := bI (freeR (M 55) (M 59) a p = true)) ?_ (PW.subL J (by repeat' first | exact True.intro | refine And.intro rfl ?_))
        clear J
        refine (bI_f ?_).symm
        simp only [Gs, Int32.not_lt, Int32.not_le] at *
        simp [freeR, *]
        (try omega)
      · refine r_aload_n dX12_mayPlay_31 rfl rfl ?_
        refine r_getR (q := 55) dX12_mayPlay_32 (ci := 12) (kf := 0) rfl (Nat.le_of_ble_eq_true rfl) (by decide) (by decide) rfl fl_X12_9 (Or.inl rfl) rfl ?_
        refine r_bipush (v := 8) dX12_mayPlay_35 (by decide) ?_
        refine r_iload_n dX12_mayPlay_37 rfl rfl ?_
        refine r_iaddN (8) (o) dX12_mayPlay_38 ?_
        refine r_iald (j := (8 + o)) dX12_mayPlay_39 rfl (Nat.le_of_ble_eq_true rfl) rfl (by omega) (by decide) ?_
        refine r_aload_n dX12_mayPlay_40 rfl rfl ?_
        refine r_getR (q := 55) dX12_mayPlay_41 (ci := 12) (kf := 0) rfl (Nat.le_of_ble_eq_true rfl) (by decide) (by decide) rfl fl_X12_9 (Or.inl rfl) rfl ?_
        refine r_bipush (v := 8) dX12_mayPlay_44 (by decide) ?_
        refine r_iload_n dX12_mayPlay_46 rfl rfl ?_
        refine r_iaddN (8) (p) dX12_mayPlay_47 ?_
        refine r_iald (j := (8 + p)) dX12_mayPlay_48 rfl (Nat.le_of_ble_eq_true rfl) rfl (by omega) (by decide) ?_
        refine r_icmp_gt (tgt := 56) dX12_mayPlay_49 (by decide) (fun c_49 => ?_) (fun c_49 => ?_)
        · refine r_iconst (v := 0) dX12_mayPlay_56 (by decide) ?_
          refine PW.top (y := bI (freeR (M 55) (M 59) a p = true)) ?_ (PW.subL J (by repeat' first | exact True.intro | refine And.intro rfl ?_))
          clear J
          refine (bI_f ?_).symm
          simp only [Gs, Int32.not_lt, Int32.not_le] at *
          simp [freeR, *]
          (try omega)
        · refine r_iconst (v := 1) dX12_mayPlay_52 (by decide) ?_
          refine r_goto (tgt := 57) dX12_mayPlay_53 (by decide) ?_
          refine PW.top (y := bI (freeR (M 55) (M 59) a p = true)) ?_ (PW.subL J (by repeat' first | exact True.intro | refine And.intro rfl ?_))
          clear J
          refine (bI_t ?_).symm
          simp only [Gs, Int32.not_lt, Int32.not_le] at *
          simp [freeR, *]
          (try omega)
    · refine r_aload_n dX12_mayPlay_17 rfl rfl ?_
      refine r_getR (q := 59) dX12_mayPlay_18 (ci := 12) (kf := 5) rfl (Nat.le_of_ble_eq_true rfl) (by decide) (by decide) rfl fl_X12_22 (Or.inl rfl) rfl ?_
      refine r_iload_n dX12_mayPlay_21 rfl rfl ?_
      refine r_iald (j := o) dX12_mayPlay_22 rfl (Nat.le_of_ble_eq_true rfl) rfl (by omega) (by decide) ?_
      refine r_if_ge (tgt := 52) dX12_mayPlay_23 (by decide) (fun c_23 => ?_) (fun c_23 => ?_)
      · refine r_iconst (v := 1) dX12_mayPlay_52 (by decide) ?_
        refine r_goto (tgt := 57) dX12_mayPlay_53 (by decide) ?_
        refine PW.top (y := bI (freeR (M 55) (M 59) a p = true)) ?_ (PW.subL J (by repeat' first | exact True.intro | refine And.intro rfl ?_))
        clear J
        refine (bI_t ?_).symm
        simp only [Gs, Int32.not_lt, Int32.not_le] at *
        simp [freeR, *]
        (try omega)
      · refine r_iload_n dX12_mayPlay_26 rfl rfl ?_
        refine r_iload_n dX12_mayPlay_27 rfl rfl ?_
        refine r_icmp_leN (o) (p) (tgt := 56) dX12_mayPlay_28 (by decide) (by omega) (by omega) (fun c_28 => ?_) (fun c_28 => ?_)
        · refine r_iconst (v := 0) dX12_mayPlay_56 (by decide) ?_
          refine PW.top (y := bI (freeR (M 55) (M 59) a p = true)) ?_ (PW.subL J (by repeat' first | exact True.intro | refine And.intro rfl ?_))
          clear J
          refine (bI_f ?_).symm
          simp only [Gs, Int32.not_lt, Int32.not_le] at *
          simp [freeR, *]
          (try omega)
        · refine r_aload_n dX12_mayPlay_31 rfl rfl ?_
          refine r_getR (q := 55) dX12_mayPlay_32 (ci := 12) (kf := 0) rfl (Nat.le_of_ble_eq_true rfl) (by decide) (by decide) rfl fl_X12_9 (Or.inl rfl) rfl ?_
          refine r_bipush (v := 8) dX12_mayPlay_35 (by decide) ?_
          refine r_iload_n dX12_mayPlay_37 rfl rfl ?_
          refine r_iaddN (8) (o) dX12_mayPlay_38 ?_
          refine r_iald (j := (8 + o)) dX12_mayPlay_39 rfl (Nat.le_of_ble_eq_true rfl) rfl (by omega) (by decide) ?_
          refine r_aload_n dX12_mayPlay_40 rfl rfl ?_
          refine r_getR (q := 55) dX12_mayPlay_41 (ci := 12) (kf := 0) rfl (Nat.le_of_ble_eq_true rfl) (by decide) (by decide) rfl fl_X12_9 (Or.inl rfl) rfl ?_
          refine r_bipush (v := 8) dX12_mayPlay_44 (by decide) ?_
          refine r_iload_n dX12_mayPlay_46 rfl rfl ?_
          refine r_iaddN (8) (p) dX12_mayPlay_47 ?_
          refine r_iald (j := (8 + p)) dX12_mayPlay_48 rfl (Nat.le_of_ble_eq_true rfl) rfl (by omega) (by decide) ?_
          refine r_icmp_gt (tgt := 56) dX12_mayPlay_49 (by decide) (fun c_49 => ?_) (fun c_49 => ?_)
          · refine r_iconst (v := 0) dX12_mayPlay_56 (by decide) ?_
            refine PW.top (y := bI (freeR (M 55) (M 59) a p = true)) ?_ (PW.subL J (by repeat' first | exact True.intro | refine And.intro rfl ?_))
            clear J
            refine (bI_f ?_).symm
            simp only [Gs, Int32.not_lt, Int32.not_le] at *
            simp [freeR, *]
            (try omega)
          · refine r_iconst (v := 1) dX12_mayPlay_52 (by decide) ?_
            refine r_goto (tgt := 57) dX12_mayPlay_53 (by decide) ?_
            refine PW.top (y := bI (freeR (M 55) (M 59) a p = true)) ?_ (PW.subL J (by repeat' first | exact True.intro | refine And.intro rfl ?_))
            clear J
            refine (bI_t ?_).symm
            simp only [Gs, Int32.not_lt, Int32.not_le] at *
            simp [freeR, *]
            (try omega)
set_option maxRecDepth 20000 in
set_option maxHeartbeats 1000000 in
theorem s_X12_bills (g : pG) {S0 : pS} (hS : sOk S0) (hI0 : InvR (S0.2.2.2 55)) : MS g mX12_bills 4 0 0 [.ref 54] (S0) (eV (bilP S0)) := by
  obtain ⟨M0, rfl⟩ := sOk_gs hS
  have hn0 := hI0.pl.1
  refine MS.of pn_X12 (Nat.le_of_ble_eq_true rfl) ?_
  have lp2 : ∀ (j_ : Nat) (p : Nat) (S1 : pS) (hk : kp [59, 60] (Gs M0) S1) (hc : ∀ x, x < 8 → S1.2.2.2 59 x = (billR (M0 55) p).1 x ∧ S1.2.2.2 60 x = (billR (M0 55) p).2 x) (hp : p ≤ 8), 8 - p < j_ → PW g mX12_bills (eN g (Gs M0).1 4 0 0 (eV (bilP (Gs M0)))) 31 [some (.ref 54), some (.int (nI p)), none, none] [] (S1) 0 0 := by
    intro j_
    induction j_ with
    | zero => intro p S1 hk hc hp hj; exact absurd hj (Nat.not_lt_zero _)
    | succ j_ ih =>
      intro p S1 hk hc hp hj
      have ih31 := ih
      obtain ⟨M, rfl⟩ := sOk_gs hk.1
      have e55 : M 55 = M0 55 := hk.2.1 55 (by decide) (by decide)
      have hI : InvR (M 55) := e55 ▸ hI0
      obtain ⟨hn8, hpl⟩ := hI.pl
      refine r_iload_n dX12_bills_31 rfl rfl ?_
      refine r_bipush (v := 8) dX12_bills_32 (by decide) ?_
      refine r_icmp_geN (p) (8) (tgt := 116) dX12_bills_34 (by decide) (by omega) (by omega) (fun c_34 => ?_) (fun c_34 => ?_)
      · refine r_vret dX12_bills_116 rfl (Nat.le_refl _) ?_
        obtain rfl : p = 8 := by omega
        exact ⟨rfl, hk, hc⟩
      · refine r_iconst (v := (-1)) dX12_bills_37 (by decide) ?_
        refine r_istore_n dX12_bills_38 rfl (by decide) ?_
        refine r_iconst (v := 0) dX12_bills_39 (by decide) ?_
        refine r_istore_n dX12_bills_40 rfl (by decide) ?_
        have lp3 : ∀ (j_ : Nat) (k : Nat) (best : Int32) (hb : best = bestR (M 55) (M 59) (M 60) p k) (hkn : k ≤ plR (M 55)), plR (M 55) - k < j_ → PW g mX12_bills (eN g (Gs M0).1 4 0 0 (eV (bilP (Gs M0)))) 41 [some (.ref 54), some (.int (nI p)), some (.int best), some (.int (nI k))] [] (Gs M) 0 0 := by
          intro j_
          induction j_ with
          | zero => intro k best hb hkn hj; exact absurd hj (Nat.not_lt_zero _)
          | succ j_ ih =>
            intro k best hb hkn hj
            subst hb
            refine r_iload_n dX12_bills_41 rfl rfl ?_
            refine r_aload_n dX12_bills_42 rfl rfl ?_
            refine r_getR (q := 55) dX12_bills_43 (ci := 12) (kf := 0) rfl (Nat.le_of_ble_eq_true rfl) (by decide) (by decide) rfl fl_X12_9 (Or.inl rfl) rfl ?_
            refine r_bipush (v := 6) dX12_bills_46 (by decide) ?_
            refine r_iald (j := 6) dX12_bills_48 rfl (Nat.le_of_ble_eq_true rfl) rfl (by decide) (by decide) ?_
            rw [show (Gs M).2.2.2 55 6 = nI (plR (M 55)) from hpl]
            refine r_icmp_geN (k) (plR (M 55)) (tgt := 92) dX12_bills_49 (by decide) (by omega) (by omega) (fun c_49 => ?_) (fun c_49 => ?_)
            · refine r_aload_n dX12_bills_92 rfl rfl ?_
              refine r_getR (q := 59) dX12_bills_93 (ci := 12) (kf := 5) rfl (Nat.le_of_ble_eq_true rfl) (by decide) (by decide) rfl fl_X12_22 (Or.inl rfl) rfl ?_
              refine r_iload_n dX12_bills_96 rfl rfl ?_
              refine r_iload_n dX12_bills_97 rfl rfl ?_
              refine r_iast (j := p) dX12_bills_98 rfl (Nat.le_of_ble_eq_true rfl) rfl (by omega) (by decide) ?_
              refine r_iload_n dX12_bills_99 rfl rfl ?_
              refine r_if_lt (tgt := 110) dX12_bills_100 (by decide) (fun c_100 => ?_) (fun c_100 => ?_)
              · refine r_iinc (v := nI (p + 1)) dX12_bills_110 rfl (nI_1 _) (by decide) ?_
                refine r_goto (tgt := 31) dX12_bills_113 (by decide) ?_
                have hk' : k = plR (M 55) := by omega
                subst hk'
                have ec : bestR (M 55) (M 59) (M 60) p (plR (M 55)) = bestR (M0 55) (billR (M0 55) p).1 (billR (M0 55) p).2 p (plR (M0 55)) := by
                  rw [e55]
                  exact bestR_cong (fun x hx => (hc x hx).1) (fun x hx => (hc x hx).2) hI0.own _ hn0
                refine PW.subL (ih31 (p + 1) _ ?_ ?_ (by omega) (by omega)) (by repeat' first | exact True.intro | refine And.intro rfl ?_)
                · first
                  | exact (hk.set (by decide) (by decide)).set (by decide) (by decide)
                  | exact hk.set (by decide) (by decide)
                · intro x hx
                  have h1 := (hc x hx).1
                  have h2 := (hc x hx).2
                  simp only [Gs] at h1 h2
                  have c9 := c_100
                  rw [ec] at c9
                  first
                  | (rw [ec] at eb; have hb0 : ¬ nI b < 0 := nI_pos (by omega); simp [mSet, Gs, upd, billR, ec, h1, h2, eb, hb0, nI_clamp (show b < 2 ^ 31 by omega)]; done)
                  | (simp [mSet, Gs, upd, billR, ec, h1, h2, c9]; done)
              · obtain ⟨b, hbk, eb⟩ := bestR_nn (show k ≤ 8 by omega) c_100
                refine r_aload_n dX12_bills_103 rfl rfl ?_
                refine r_getR (q := 60) dX12_bills_104 (ci := 12) (kf := 6) rfl (Nat.le_of_ble_eq_true rfl) (by decide) (by decide) rfl fl_X12_25 (Or.inl rfl) rfl ?_
                refine r_iload_n dX12_bills_107 rfl rfl ?_
                refine r_iload_n dX12_bills_108 rfl rfl ?_
                refine r_iast (j := b) dX12_bills_109 rfl (Nat.le_of_ble_eq_true rfl) eb (by omega) (by decide) ?_
                refine r_iinc (v := nI (p + 1)) dX12_bills_110 rfl (nI_1 _) (by decide) ?_
                refine r_goto (tgt := 31) dX12_bills_113 (by decide) ?_
                have hk' : k = plR (M 55) := by omega
                subst hk'
                have ec : bestR (M 55) (M 59) (M 60) p (plR (M 55)) = bestR (M0 55) (billR (M0 55) p).1 (billR (M0 55) p).2 p (plR (M0 55)) := by
                  rw [e55]
                  exact bestR_cong (fun x hx => (hc x hx).1) (fun x hx => (hc x hx).2) hI0.own _ hn0
                refine PW.subL (ih31 (p + 1) _ ?_ ?_ (by omega) (by omega)) (by repeat' first | exact True.intro | refine And.intro rfl ?_)
                · first
                  | exact (hk.set (by decide) (by decide)).set (by decide) (by decide)
                  | exact hk.set (by decide) (by decide)
                · intro x hx
                  have h1 := (hc x hx).1
                  have h2 := (hc x hx).2
                  simp only [Gs] at h1 h2
                  have c9 := c_100
                  rw [ec] at c9
                  first
                  | (rw [ec] at eb; have hb0 : ¬ nI b < 0 := nI_pos (by omega); simp [mSet, Gs, upd, billR, ec, h1, h2, eb, hb0, nI_clamp (show b < 2 ^ 31 by omega)]; done)
                  | (simp [mSet, Gs, upd, billR, ec, h1, h2, c9]; done)
            · obtain ⟨o, ho, hw⟩ := hI.2 k (by omega)
              refine r_aload_n dX12_bills_52 rfl rfl ?_
              refine r_iload_n dX12_bills_53 rfl rfl ?_
              refine r_iload_n dX12_bills_54 rfl rfl ?_
              refine r_callV_dI (ci := 12) dX12_bills_55 (s_X12_mayPlay g (by exact ⟨rfl, rfl, rfl⟩) (k) (p) o (by omega) (by omega) ho hw) mf_X12_mayPlay mi_X12_mayPlay se_X12_X12_X12_mayPlay ml_X12_74 rfl rfl (Nat.le_of_ble_eq_true rfl) rfl (by decide) rfl (Nat.le_of_ble_eq_true rfl) ⟨(Nat.le_of_ble_eq_true rfl), (Nat.le_of_ble_eq_true rfl)⟩ ⟨(Nat.le_of_ble_eq_true rfl), (Nat.le_of_ble_eq_true rfl)⟩ ?_
              refine r_if_eq (tgt := 84) dX12_bills_58 (by decide) (fun c_58 => ?_) (fun c_58 => ?_)
              · have c_58 := bI_0 c_58
                refine r_iload_n dX12_bills_84 rfl rfl ?_
                refine r_istore_n dX12_bills_85 rfl (by decide) ?_
                refine r_iinc (v := nI (k + 1)) dX12_bills_86 rfl (nI_1 _) (by decide) ?_
                refine r_goto (tgt := 41) dX12_bills_89 (by decide) ?_
                exact PW.subL (ih (k + 1) _ (by
                  first
                  | exact bestR_t c_58 (Or.inl c_62)
                  | exact bestR_t c_58 (Or.inr (by rw [eb, nI_clamp (by omega)]; exact Int32.not_le.mp c_77))
                  | exact bestR_f (fun z => c_58 z.1)
                  | exact eb.symm.trans (bestR_f (fun z => z.2.elim c_62 (fun y => Int32.not_lt.mpr c_77 (by rw [eb, nI_clamp (by omega)] at y; exact y))))) (by omega) (by omega)) (by repeat' first | exact True.intro | refine And.intro rfl ?_)
              · have c_58 := bI_n c_58
                refine r_iload_n dX12_bills_61 rfl rfl ?_
                refine r_if_lt (tgt := 80) dX12_bills_62 (by decide) (fun c_62 => ?_) (fun c_62 => ?_)
                · refine r_iload_n dX12_bills_80 rfl rfl ?_
                  refine r_goto (tgt := 85) dX12_bills_81 (by decide) ?_
                  refine r_istore_n dX12_bills_85 rfl (by decide) ?_
                  refine r_iinc (v := nI (k + 1)) dX12_bills_86 rfl (nI_1 _) (by decide) ?_
                  refine r_goto (tgt := 41) dX12_bills_89 (by decide) ?_
                  exact PW.subL (ih (k + 1) _ (by
                    first
                    | exact bestR_t c_58 (Or.inl c_62)
                    | exact bestR_t c_58 (Or.inr (by rw [eb, nI_clamp (by omega)]; exact Int32.not_le.mp c_77))
                    | exact bestR_f (fun z => c_58 z.1)
                    | exact eb.symm.trans (bestR_f (fun z => z.2.elim c_62 (fun y => Int32.not_lt.mpr c_77 (by rw [eb, nI_clamp (by omega)] at y; exact y))))) (by omega) (by omega)) (by repeat' first | exact True.intro | refine And.intro rfl ?_)
                · refine r_aload_n dX12_bills_65 rfl rfl ?_
                  refine r_iload_n dX12_bills_66 rfl rfl ?_
                  refine r_iload_n dX12_bills_67 rfl rfl ?_
                  refine r_callV_dI (ci := 12) dX12_bills_68 (s_X12_goodAt g (by exact ⟨rfl, rfl, rfl⟩) (k) (p) (by omega) (by omega)) mf_X12_goodAt mi_X12_goodAt se_X12_X12_X12_goodAt ml_X12_71 rfl rfl (Nat.le_of_ble_eq_true rfl) rfl (by decide) rfl (Nat.le_of_ble_eq_true rfl) ⟨(Nat.le_of_ble_eq_true rfl), (Nat.le_of_ble_eq_true rfl)⟩ ⟨(Nat.le_of_ble_eq_true rfl), (Nat.le_of_ble_eq_true rfl)⟩ ?_
                  refine r_aload_n dX12_bills_71 rfl rfl ?_
                  obtain ⟨b, hbk, eb⟩ := bestR_nn (show k ≤ 8 by omega) c_62
                  refine r_iload_n dX12_bills_72 rfl rfl ?_
                  rw [eb]
                  refine r_iload_n dX12_bills_73 rfl rfl ?_
                  refine r_callV_dI (ci := 12) dX12_bills_74 (s_X12_goodAt g (by exact ⟨rfl, rfl, rfl⟩) (b) (p) (by omega) (by omega)) mf_X12_goodAt mi_X12_goodAt se_X12_X12_X12_goodAt ml_X12_71 rfl rfl (Nat.le_of_ble_eq_true rfl) rfl (by decide) rfl (Nat.le_of_ble_eq_true rfl) ⟨(Nat.le_of_ble_eq_true rfl), (Nat.le_of_ble_eq_true rfl)⟩ ⟨(Nat.le_of_ble_eq_true rfl), (Nat.le_of_ble_eq_true rfl)⟩ ?_
                  refine r_icmp_le (tgt := 84) dX12_bills_77 (by decide) (fun c_77 => ?_) (fun c_77 => ?_)
                  · refine r_iload_n dX12_bills_84 rfl rfl ?_
                    refine r_istore_n dX12_bills_85 rfl (by decide) ?_
                    refine r_iinc (v := nI (k + 1)) dX12_bills_86 rfl (nI_1 _) (by decide) ?_
                    refine r_goto (tgt := 41) dX12_bills_89 (by decide) ?_
                    exact PW.subL (ih (k + 1) _ (by
                      first
                      | exact bestR_t c_58 (Or.inl c_62)
                      | exact bestR_t c_58 (Or.inr (by rw [eb, nI_clamp (by omega)]; exact Int32.not_le.mp c_77))
                      | exact bestR_f (fun z => c_58 z.1)
                      | exact eb.symm.trans (bestR_f (fun z => z.2.elim c_62 (fun y => Int32.not_lt.mpr c_77 (by rw [eb, nI_clamp (by omega)] at y; exact y))))) (by omega) (by omega)) (by repeat' first | exact True.intro | refine And.intro rfl ?_)
                  · refine r_iload_n dX12_bills_80 rfl rfl ?_
                    refine r_goto (tgt := 85) dX12_bills_81 (by decide) ?_
                    refine r_istore_n dX12_bills_85 rfl (by decide) ?_
                    refine r_iinc (v := nI (k + 1)) dX12_bills_86 rfl (nI_1 _) (by decide) ?_
                    refine r_goto (tgt := 41) dX12_bills_89 (by decide) ?_
                    exact PW.subL (ih (k + 1) _ (by
                      first
                      | exact bestR_t c_58 (Or.inl c_62)
                      | exact bestR_t c_58 (Or.inr (by rw [eb, nI_clamp (by omega)]; exact Int32.not_le.mp c_77))
                      | exact bestR_f (fun z => c_58 z.1)
                      | exact eb.symm.trans (bestR_f (fun z => z.2.elim c_62 (fun y => Int32.not_lt.mpr c_77 (by rw [eb, nI_clamp (by omega)] at y; exact y))))) (by omega) (by omega)) (by repeat' first | exact True.intro | refine And.intro rfl ?_)
        exact PW.subL (lp3 (plR (M 55) + 1) 0 (-1) rfl (by omega) (by omega)) (by repeat' first | exact True.intro | refine And.intro rfl ?_)
  have lp1 : ∀ (j_ : Nat) (i : Nat) (S1 : pS) (hk : kp [59, 60] (Gs M0) S1) (hc : ∀ x, x < i → S1.2.2.2 59 x = -1 ∧ S1.2.2.2 60 x = 8) (hi : i ≤ 8), 8 - i < j_ → PW g mX12_bills (eN g (Gs M0).1 4 0 0 (eV (bilP (Gs M0)))) 2 [some (.ref 54), some (.int (nI i)), none, none] [] (S1) 0 0 := by
    intro j_
    induction j_ with
    | zero => intro i S1 hk hc hi hj; exact absurd hj (Nat.not_lt_zero _)
    | succ j_ ih =>
      intro i S1 hk hc hi hj
      obtain ⟨M, rfl⟩ := sOk_gs hk.1
      refine r_iload_n dX12_bills_2 rfl rfl ?_
      refine r_bipush (v := 8) dX12_bills_3 (by decide) ?_
      refine r_icmp_geN (i) (8) (tgt := 29) dX12_bills_5 (by decide) (by omega) (by omega) (fun c_5 => ?_) (fun c_5 => ?_)
      · refine r_iconst (v := 0) dX12_bills_29 (by decide) ?_
        refine r_istore_n dX12_bills_30 rfl (by decide) ?_
        exact PW.subL (lp2 9 0 _ hk (fun x hx => hc x (by omega)) (by omega) (by omega)) (by repeat' first | exact True.intro | refine And.intro rfl ?_)
      · refine r_aload_n dX12_bills_8 rfl rfl ?_
        refine r_getR (q := 60) dX12_bills_9 (ci := 12) (kf := 6) rfl (Nat.le_of_ble_eq_true rfl) (by decide) (by decide) rfl fl_X12_25 (Or.inl rfl) rfl ?_
        refine r_iload_n dX12_bills_12 rfl rfl ?_
        refine r_bipush (v := 8) dX12_bills_13 (by decide) ?_
        refine r_iast (j := i) dX12_bills_15 rfl (Nat.le_of_ble_eq_true rfl) rfl (by omega) (by decide) ?_
        refine r_aload_n dX12_bills_16 rfl rfl ?_
        refine r_getR (q := 59) dX12_bills_17 (ci := 12) (kf := 5) rfl (Nat.le_of_ble_eq_true rfl) (by decide) (by decide) rfl fl_X12_22 (Or.inl rfl) rfl ?_
        refine r_iload_n dX12_bills_20 rfl rfl ?_
        refine r_iconst (v := (-1)) dX12_bills_21 (by decide) ?_
        refine r_iast (j := i) dX12_bills_22 rfl (Nat.le_of_ble_eq_true rfl) rfl (by omega) (by decide) ?_
        refine r_iinc (v := nI (i + 1)) dX12_bills_23 rfl (nI_1 _) (by decide) ?_
        refine r_goto (tgt := 2) dX12_bills_26 (by decide) ?_
        refine PW.subL (ih (i + 1) _ ((hk.set (by decide) (by decide)).set (by decide) (by decide)) (fun x hx => ?_) (by omega) (by omega)) (by repeat' first | exact True.intro | refine And.intro rfl ?_)
        by_cases e : x = i
        · subst e; simp [mSet, upd]
        · have h := hc x (by omega); simp only [Gs] at h; simp [mSet, Gs, upd, e, h]
  refine r_iconst (v := 0) dX12_bills_0 (by decide) ?_
  refine r_istore_n dX12_bills_1 rfl (by decide) ?_
  exact PW.subL (lp1 9 0 _ (kp.rf hS) (fun x hx => absurd hx (Nat.not_lt_zero x)) (by omega) (by omega)) (by repeat' first | exact True.intro | refine And.intro rfl ?_)
